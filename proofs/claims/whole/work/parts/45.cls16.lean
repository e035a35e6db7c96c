/-! ===== part 45: what is asked ===== -/
theorem li_bs {ρ : Nat → Int32} {n f ma : Nat} (hW : Wf ρ n f ma) : BM (fun c => ρ (27 + c)) = bsI (fun c => ρ (27 + c) = nI 1) n := by
  rw [BM_bl (f := ρ) hW.2.1]
  refine BM_congr (fun c hc => ?_)
  by_cases h : c < n ∧ ρ (27 + c) = nI 1
  · rw [if_pos h]; exact ⟨fun _ => rfl, fun _ => h.2⟩
  · rw [if_neg h]
    refine ⟨fun z => ?_, fun z => absurd z n01⟩
    rcases (hW.2.2.2.2.2.2.2.1 c hc).1 with e | e
    · rw [e] at z; exact absurd z (by decide)
    · exact absurd ⟨e.2, z⟩ h
theorem sd_bs {ρ : Nat → Int32} {n f ma : Nat} (hW : Wf ρ n f ma) : BM (fun c => ρ (35 + c)) = bsI (fun c => ρ (35 + c) = nI 1) n := by
  rw [BM_bl (f := ρ) hW.2.1]
  refine BM_congr (fun c hc => ?_)
  by_cases h : c < n ∧ ρ (35 + c) = nI 1
  · rw [if_pos h]; exact ⟨fun _ => rfl, fun _ => h.2⟩
  · rw [if_neg h]
    refine ⟨fun z => ?_, fun z => absurd z n01⟩
    rcases (hW.2.2.2.2.2.2.2.1 c hc).2 with e | e
    · rw [e] at z; exact absurd z (by decide)
    · exact absurd ⟨e.2, z⟩ h
theorem rs_bs {ρ : Nat → Int32} {n f ma : Nat} (hW : Wf ρ n f ma) : BM (fun a => if a < ma then ρ (184 + a) else 0) = rsI ρ ma := (rsI_BM ρ ma hW.2.2.2.2.2.2.1 (fun a ha => (hW.2.2.2.2.2.2.2.2 a ha).1)).symm

set_option maxHeartbeats 1000000 in
set_option maxRecDepth 100000 in
theorem c_X7_between (w : Wd) (v : Vm2) {x y z : Int32} : CP w yX7_between cX7_between 3 (some .boolean) (rm 0 0) [.int x, .int y, .int z] v (bI (inF x y z)) := by
  refine CI.of (by decide) (Nat.le_of_ble_eq_true rfl) ?_
  refine J.iload_n 0 dX7_between_0 rfl rfl ?_
  refine J.iload_n 1 dX7_between_1 rfl rfl ?_
  refine J.icmp_lt 2 14 dX7_between_2 (by decide) (fun c2 => ?_) (fun c2 => ?_)
  · refine J.iconst 14 (nI 0) dX7_between_14 (by decide +kernel) ?_
    exact V.zret 15 dX7_between_15 (Or.inl rfl) (⟨bI_f (fun z => by first | exact absurd c2 (Int32.not_lt.mpr z.1) | exact absurd c7 (Int32.not_lt.mpr z.2)), rfl⟩)
  · refine J.iload_n 5 dX7_between_5 rfl rfl ?_
    refine J.iload_n 6 dX7_between_6 rfl rfl ?_
    refine J.icmp_gt 7 14 dX7_between_7 (by decide) (fun c7 => ?_) (fun c7 => ?_)
    · refine J.iconst 14 (nI 0) dX7_between_14 (by decide +kernel) ?_
      exact V.zret 15 dX7_between_15 (Or.inl rfl) (⟨bI_f (fun z => by first | exact absurd c2 (Int32.not_lt.mpr z.1) | exact absurd c7 (Int32.not_lt.mpr z.2)), rfl⟩)
    · refine J.iconst 10 (nI 1) dX7_between_10 (by decide +kernel) ?_
      refine J.goto 11 15 dX7_between_11 (by decide) ?_
      exact V.zret 15 dX7_between_15 (Or.inr rfl) (⟨bI_t ⟨Int32.not_lt.mp c2, Int32.not_lt.mp c7⟩, rfl⟩)
set_option maxHeartbeats 1000000 in
set_option maxRecDepth 100000 in
theorem q_fault (w : Wd) (v : Vm2) {b : Vm2} {n f ma K nx s wr a0 B : Nat} (hM : Mr v b n f ma K nx s wr a0 B) (hB : B ≤ 100000000)  : CI w yX7_fault cX7_fault 1 (some .int) (rm 0 0) [.ref (wN w + 0)] v (fun r v' => r = b 178 5 ∧ MR v' b (B + 160000) ∧ Rq v' v) := by
  have hR := hM.1.1
  have hW := hM.1.2.1
  have hBn := hM.1.2.2
  have hn := hW.2.1
  have hf3 := hW.2.2.2.1
  have hma := hW.2.2.2.2.2.2.1
  refine CI.of (by decide) (Nat.le_of_ble_eq_true rfl) ?_
  refine J.aload_n 0 dX7_fault_0 rfl rfl ?_
  refine V.getR 1 dX7_fault_1 fl_RX7_22 r_0_2 ?_
  refine V.getI 4 dX7_fault_4 fl_RX7_97 i_17_5 ?_
  exact V.iret 7 dX7_fault_7 (⟨hM.2.2.2.1.2.2.2.2, hM.x (by omega), Rq.rf v⟩)
set_option maxHeartbeats 1000000 in
set_option maxRecDepth 100000 in
theorem q_told (w : Wd) (v : Vm2) {b : Vm2} {n f ma K nx s wr a0 B : Nat} (hM : Mr v b n f ma K nx s wr a0 B) (hB : B ≤ 100000000) {x : Int32} : CI w yX7_told cX7_told 2 (some .int) (rm 4 89) [.ref (wN w + 0), .int x] v (fun r v' => r = F_told b n f ma wr x ∧ MR v' b (B + 160000) ∧ Rq v' v) := by
  have hR := hM.1.1
  have hW := hM.1.2.1
  have hBn := hM.1.2.2
  have hn := hW.2.1
  have hf3 := hW.2.2.2.1
  have hma := hW.2.2.2.2.2.2.1
  refine CI.of (by decide) (Nat.le_of_ble_eq_true rfl) ?_
  refine J.iload_n 0 dX7_told_0 rfl rfl ?_
  rcases tsplit x 15 (by decide) with hsw | ⟨ksw, hksw, rfl⟩
  · have hsw : x.toInt < 0 ∨ 15 < x.toInt := hsw
    refine J.tableOut 1 216 dX7_told_1 hsw (by decide) ?_
    refine J.ldc 216 (-1000000002) dX7_told_216 kc_RX7_70 ?_
    exact V.iret 218 dX7_told_218 (by unfold F_told; rw [if_pos hsw]; exact ⟨rfl, hM.x (by omega), Rq.rf v⟩)
  · obtain rfl | rfl | rfl | rfl | rfl | rfl | rfl | rfl | rfl | rfl | rfl | rfl | rfl | rfl | rfl | rfl : ksw = 0 ∨ ksw = 1 ∨ ksw = 2 ∨ ksw = 3 ∨ ksw = 4 ∨ ksw = 5 ∨ ksw = 6 ∨ ksw = 7 ∨ ksw = 8 ∨ ksw = 9 ∨ ksw = 10 ∨ ksw = 11 ∨ ksw = 12 ∨ ksw = 13 ∨ ksw = 14 ∨ ksw = 15 := by omega
    · refine J.tableIn 1 80 dX7_told_1 (by decide) (by decide) rfl (by decide) ?_
      refine J.aload_n 80 dX7_told_80 rfl rfl ?_
      refine V.getR 81 dX7_told_81 fl_RX7_10 r_0_0 ?_
      refine V.getI 84 dX7_told_84 fl_RX7_94 isS_1.i0 ?_
      exact V.iret 87 dX7_told_87 (by unfold F_told; rw [if_neg (by decide), show ix (nI 0) = 0 from by decide +kernel]; exact ⟨hR.1.1, hM.x (by omega), Rq.rf v⟩)
    · refine J.tableIn 1 88 dX7_told_1 (by decide) (by decide) rfl (by decide) ?_
      refine J.aload_n 88 dX7_told_88 rfl rfl ?_
      refine V.getR 89 dX7_told_89 fl_RX7_10 r_0_0 ?_
      refine V.getI 92 dX7_told_92 fl_RX7_100 isS_1.i1 ?_
      exact V.iret 95 dX7_told_95 (by unfold F_told; rw [if_neg (by decide), show ix (nI 1) = 1 from by decide +kernel]; exact ⟨hR.1.2.1, hM.x (by omega), Rq.rf v⟩)
    · refine J.tableIn 1 96 dX7_told_1 (by decide) (by decide) rfl (by decide) ?_
      refine J.aload_n 96 dX7_told_96 rfl rfl ?_
      refine V.getR 97 dX7_told_97 fl_RX7_10 r_0_0 ?_
      refine V.getI 100 dX7_told_100 fl_RX7_103 isS_1.i2 ?_
      exact V.iret 103 dX7_told_103 (by unfold F_told; rw [if_neg (by decide), show ix (nI 2) = 2 from by decide +kernel]; exact ⟨hR.1.2.2.1, hM.x (by omega), Rq.rf v⟩)
    · refine J.tableIn 1 104 dX7_told_1 (by decide) (by decide) rfl (by decide) ?_
      refine J.aload_n 104 dX7_told_104 rfl rfl ?_
      refine V.getR 105 dX7_told_105 fl_RX7_22 r_0_2 ?_
      refine V.getI 108 dX7_told_108 fl_RX7_71 i_17_1 ?_
      exact V.iret 111 dX7_told_111 (by unfold F_told; rw [if_neg (by decide), show ix (nI 3) = 3 from by decide +kernel]; exact ⟨hM.2.2.2.1.1.trans hM.2.2.2.1.2.1.symm, hM.x (by omega), Rq.rf v⟩)
    · refine J.tableIn 1 112 dX7_told_1 (by decide) (by decide) rfl (by decide) ?_
      refine J.aload_n 112 dX7_told_112 rfl rfl ?_
      refine V.getR 113 dX7_told_113 fl_RX7_10 r_0_0 ?_
      refine V.getI 116 dX7_told_116 fl_RX7_106 isS_1.i3 ?_
      exact V.iret 119 dX7_told_119 (by unfold F_told; rw [if_neg (by decide), show ix (nI 4) = 4 from by decide +kernel]; exact ⟨hR.2.1.1.trans (li_bs hW), hM.x (by omega), Rq.rf v⟩)
    · refine J.tableIn 1 120 dX7_told_1 (by decide) (by decide) rfl (by decide) ?_
      refine J.aload_n 120 dX7_told_120 rfl rfl ?_
      refine V.getR 121 dX7_told_121 fl_RX7_10 r_0_0 ?_
      refine V.getI 124 dX7_told_124 fl_RX7_109 isS_1.i4 ?_
      exact V.iret 127 dX7_told_127 (by unfold F_told; rw [if_neg (by decide), show ix (nI 5) = 5 from by decide +kernel]; exact ⟨hR.2.1.2.1.trans (sd_bs hW), hM.x (by omega), Rq.rf v⟩)
    · refine J.tableIn 1 128 dX7_told_1 (by decide) (by decide) rfl (by decide) ?_
      refine J.aload_n 128 dX7_told_128 rfl rfl ?_
      refine V.getR 129 dX7_told_129 fl_RX7_10 r_0_0 ?_
      refine V.callvP 132 dX7_told_132 ml_RX7_112 mi_yX5_trueSet mv_yX5_trueSet (c_X5_trueSet w _ isS_1 hR hW) rfl rfl (Nat.le_of_ble_eq_true rfl) (by decide) (by decide) isS_1.o rfl rfl ?_
      exact V.iret 135 dX7_told_135 (by unfold F_told; rw [if_neg (by decide), show ix (nI 6) = 6 from by decide +kernel]; exact ⟨rfl, hM.x (by omega), Rq.rf v⟩)
    · refine J.tableIn 1 136 dX7_told_1 (by decide) (by decide) rfl (by decide) ?_
      refine J.aload_n 136 dX7_told_136 rfl rfl ?_
      refine V.getR 137 dX7_told_137 fl_RX7_10 r_0_0 ?_
      refine V.callvP 140 dX7_told_140 ml_RX7_116 mi_yX5_apart mv_yX5_apart (c_X5_apart w _ isS_1 hR hW) rfl rfl (Nat.le_of_ble_eq_true rfl) (by decide) (by decide) isS_1.o rfl rfl ?_
      exact V.iret 143 dX7_told_143 (by unfold F_told; rw [if_neg (by decide), show ix (nI 7) = 7 from by decide +kernel]; exact ⟨rfl, hM.x (by omega), Rq.rf v⟩)
    · refine J.tableIn 1 144 dX7_told_1 (by decide) (by decide) rfl (by decide) ?_
      refine J.aload_n 144 dX7_told_144 rfl rfl ?_
      refine V.getR 145 dX7_told_145 fl_RX7_29 r_0_3 ?_
      refine J.aload_n 148 dX7_told_148 rfl rfl ?_
      refine V.getR 149 dX7_told_149 fl_RX7_10 r_0_0 ?_
      refine V.callv 152 dX7_told_152 ml_RX7_119 mi_yX1_worst mv_yX1_worst (c_X1_worst w _ isS_1 hR hW hBn (by omega)) rfl rfl (Nat.le_of_ble_eq_true rfl) (by decide) (by decide) o_19 rfl rfl (fun r152 v152 h152 => ?_)
      exact V.iret 155 dX7_told_155 (by unfold F_told; rw [if_neg (by decide), show ix (nI 8) = 8 from by decide +kernel]; exact ⟨h152.1, (hM.fr (fun k h1 h2 h3 => h152.2 k h2)).x (by omega), h152.2.rq⟩)
    · refine J.tableIn 1 156 dX7_told_1 (by decide) (by decide) rfl (by decide) ?_
      refine J.aload_n 156 dX7_told_156 rfl rfl ?_
      refine V.getR 157 dX7_told_157 fl_RX7_10 r_0_0 ?_
      refine V.callvP 160 dX7_told_160 ml_RX7_122 mi_yX5_mayLie mv_yX5_mayLie (c_X5_mayLie w _ isS_1 hR hW) rfl rfl (Nat.le_of_ble_eq_true rfl) (by decide) (by decide) isS_1.o rfl rfl ?_
      exact V.iret 163 dX7_told_163 (by unfold F_told; rw [if_neg (by decide), show ix (nI 9) = 9 from by decide +kernel]; exact ⟨rfl, hM.x (by omega), Rq.rf v⟩)
    · refine J.tableIn 1 164 dX7_told_1 (by decide) (by decide) rfl (by decide) ?_
      refine J.aload_n 164 dX7_told_164 rfl rfl ?_
      refine V.getR 165 dX7_told_165 fl_RX7_10 r_0_0 ?_
      refine V.getI 168 dX7_told_168 fl_RX7_125 isS_1.i5 ?_
      exact V.iret 171 dX7_told_171 (by unfold F_told; rw [if_neg (by decide), show ix (nI 10) = 10 from by decide +kernel]; exact ⟨hR.1.2.2.2.1, hM.x (by omega), Rq.rf v⟩)
    · refine J.tableIn 1 172 dX7_told_1 (by decide) (by decide) rfl (by decide) ?_
      refine J.aload_n 172 dX7_told_172 rfl rfl ?_
      refine V.getR 173 dX7_told_173 fl_RX7_10 r_0_0 ?_
      refine V.getI 176 dX7_told_176 fl_RX7_128 isS_1.i6 ?_
      exact V.iret 179 dX7_told_179 (by unfold F_told; rw [if_neg (by decide), show ix (nI 11) = 11 from by decide +kernel]; exact ⟨hR.2.1.2.2.trans (rs_bs hW), hM.x (by omega), Rq.rf v⟩)
    · refine J.tableIn 1 180 dX7_told_1 (by decide) (by decide) rfl (by decide) ?_
      refine J.aload_n 180 dX7_told_180 rfl rfl ?_
      refine V.getR 181 dX7_told_181 fl_RX7_10 r_0_0 ?_
      refine V.getI 184 dX7_told_184 fl_RX7_131 isS_1.i7 ?_
      exact V.iret 187 dX7_told_187 (by unfold F_told; rw [if_neg (by decide), show ix (nI 12) = 12 from by decide +kernel]; exact ⟨hR.1.2.2.2.2, hM.x (by omega), Rq.rf v⟩)
    · refine J.tableIn 1 188 dX7_told_1 (by decide) (by decide) rfl (by decide) ?_
      refine J.aload_n 188 dX7_told_188 rfl rfl ?_
      refine V.getR 189 dX7_told_189 fl_RX7_43 r_0_5 ?_
      refine V.getI 192 dX7_told_192 fl_RX7_91 i_155_2 ?_
      exact V.iret 195 dX7_told_195 (by unfold F_told; rw [if_neg (by decide), show ix (nI 13) = 13 from by decide +kernel]; exact ⟨hM.2.2.2.2.1.1.trans hM.2.2.2.2.1.2.1.symm, hM.x (by omega), Rq.rf v⟩)
    · refine J.tableIn 1 196 dX7_told_1 (by decide) (by decide) rfl (by decide) ?_
      refine J.aload_n 196 dX7_told_196 rfl rfl ?_
      refine V.getR 197 dX7_told_197 fl_RX7_43 r_0_5 ?_
      refine J.aload_n 200 dX7_told_200 rfl rfl ?_
      refine V.getR 201 dX7_told_201 fl_RX7_10 r_0_0 ?_
      refine V.callvP 204 dX7_told_204 ml_RX7_134 mi_yX0_firstWrong mv_yX0_firstWrong (c_X0_firstWrong w _ isS_1 hR hW hM.2.2.2.2.1.1 hM.2.2.2.2.1.2.2.1) rfl rfl (Nat.le_of_ble_eq_true rfl) (by decide) (by decide) o_155 rfl rfl ?_
      exact V.iret 207 dX7_told_207 (by unfold F_told; rw [if_neg (by decide), show ix (nI 14) = 14 from by decide +kernel]; exact ⟨(by rw [hM.2.2.2.2.1.2.2.2.1, hM.2.2.2.2.1.2.2.2.2]; rfl), hM.x (by omega), Rq.rf v⟩)
    · refine J.tableIn 1 208 dX7_told_1 (by decide) (by decide) rfl (by decide) ?_
      refine J.aload_n 208 dX7_told_208 rfl rfl ?_
      refine V.getR 209 dX7_told_209 fl_RX7_36 r_0_4 ?_
      refine V.getI 212 dX7_told_212 fl_RX7_137 i_25_2 ?_
      exact V.iret 215 dX7_told_215 (by unfold F_told; rw [if_neg (by decide), show ix (nI 15) = 15 from by decide +kernel]; exact ⟨hM.2.1.2.2.1.trans hM.2.1.2.2.2.2.symm, hM.x (by omega), Rq.rf v⟩)
set_option maxHeartbeats 1000000 in
set_option maxRecDepth 100000 in
theorem q_clock (w : Wd) (v : Vm2) {b : Vm2} {n f ma K nx s wr a0 B : Nat} (hM : Mr v b n f ma K nx s wr a0 B) (hB : B ≤ 100000000) {c x : Int32} : CI w yX7_clock cX7_clock 3 (some .int) (rm 3 66) [.ref (wN w + 0), .int c, .int x] v (fun r v' => r = F_clock (b 179) n f c x ∧ MR v' b (B + 160000) ∧ Rq v' v) := by
  have hR := hM.1.1
  have hW := hM.1.2.1
  have hBn := hM.1.2.2
  have hn := hW.2.1
  have hf3 := hW.2.2.2.1
  have hma := hW.2.2.2.2.2.2.1
  refine CI.of (by decide) (Nat.le_of_ble_eq_true rfl) ?_
  refine J.aload_n 0 dX7_clock_0 rfl rfl ?_
  refine V.getR 1 dX7_clock_1 fl_RX7_10 r_0_0 ?_
  refine J.iload_n 4 dX7_clock_4 rfl rfl ?_
  refine V.callvP 5 dX7_clock_5 ml_RX7_138 mi_yX5_has mv_yX5_has (c_X5_has w _ isS_1 _ (hR.1.1.trans hW.1) (by omega)) rfl rfl (Nat.le_of_ble_eq_true rfl) (by decide) (by decide) isS_1.o rfl rfl ?_
  refine V.if_neB 8 14 dX7_clock_8 (by decide) (fun c8 => ?_) (fun c8 => ?_)
  · obtain ⟨c, hc, rfl⟩ := (clkB_nI (by omega)).mp c8
    refine J.iload_n 14 dX7_clock_14 rfl rfl ?_
    rcases tsplit x 6 (by decide) with hsw | ⟨ksw, hksw, rfl⟩
    · have hsw : x.toInt < 0 ∨ 6 < x.toInt := hsw
      refine J.tableOut 15 176 dX7_clock_15 hsw (by decide) ?_
      refine J.ldc 176 (-1000000002) dX7_clock_176 kc_RX7_70 ?_
      exact V.iret 178 dX7_clock_178 (by unfold F_clock; rw [if_neg (fun z => z c8), if_pos hsw]; exact ⟨rfl, hM.x (by omega), Rq.rf v⟩)
    · obtain rfl | rfl | rfl | rfl | rfl | rfl | rfl : ksw = 0 ∨ ksw = 1 ∨ ksw = 2 ∨ ksw = 3 ∨ ksw = 4 ∨ ksw = 5 ∨ ksw = 6 := by omega
      · refine J.tableIn 15 56 dX7_clock_15 (by decide) (by decide) rfl (by decide) ?_
        refine J.aload_n 56 dX7_clock_56 rfl rfl ?_
        refine V.getR 57 dX7_clock_57 fl_RX7_10 r_0_0 ?_
        refine V.getR 60 dX7_clock_60 fl_RX7_143 isS_1.r8 ?_
        refine J.iload_n 63 dX7_clock_63 rfl rfl ?_
        refine V.iald 64 dX7_clock_64 isS_1.a8 (by omega) ?_
        exact V.iret 65 dX7_clock_65 (by unfold F_clock; rw [if_neg (fun z => z c8), if_neg (by decide), ix_nI hc hn, show ix (nI 0) = 0 from by decide +kernel]; exact ⟨(hR.2.2.1 c hc).1, hM.x (by omega), Rq.rf v⟩)
      · refine J.tableIn 15 66 dX7_clock_15 (by decide) (by decide) rfl (by decide) ?_
        refine J.aload_n 66 dX7_clock_66 rfl rfl ?_
        refine V.getR 67 dX7_clock_67 fl_RX7_10 r_0_0 ?_
        refine V.getR 70 dX7_clock_70 fl_RX7_146 isS_1.r9 ?_
        refine J.iload_n 73 dX7_clock_73 rfl rfl ?_
        refine V.iald 74 dX7_clock_74 isS_1.a9 (by omega) ?_
        exact V.iret 75 dX7_clock_75 (by unfold F_clock; rw [if_neg (fun z => z c8), if_neg (by decide), ix_nI hc hn, show ix (nI 1) = 1 from by decide +kernel]; exact ⟨(hR.2.2.1 c hc).2.1, hM.x (by omega), Rq.rf v⟩)
      · refine J.tableIn 15 76 dX7_clock_15 (by decide) (by decide) rfl (by decide) ?_
        refine J.aload_n 76 dX7_clock_76 rfl rfl ?_
        refine V.getR 77 dX7_clock_77 fl_RX7_10 r_0_0 ?_
        refine V.getR 80 dX7_clock_80 fl_RX7_149 isS_1.r10 ?_
        refine J.iload_n 83 dX7_clock_83 rfl rfl ?_
        refine V.iald 84 dX7_clock_84 isS_1.a10 (by omega) ?_
        refine J.ldc 85 (100000) dX7_clock_85 kc_RX7_152 (J.top (b := nI 100000) (by decide +kernel) ?_)
        refine J.iadd 87 dX7_clock_87 ?_
        exact V.iret 88 dX7_clock_88 (by unfold F_clock; rw [if_neg (fun z => z c8), if_neg (by decide), ix_nI hc hn, show ix (nI 2) = 2 from by decide +kernel]; exact ⟨(by rw [(hR.2.2.1 c hc).2.2]; rfl), hM.x (by omega), Rq.rf v⟩)
      · refine J.tableIn 15 89 dX7_clock_15 (by decide) (by decide) rfl (by decide) ?_
        refine J.aload_n 89 dX7_clock_89 rfl rfl ?_
        refine V.getR 90 dX7_clock_90 fl_RX7_10 r_0_0 ?_
        refine J.iload_n 93 dX7_clock_93 rfl rfl ?_
        refine V.callvP 94 dX7_clock_94 ml_RX7_153 mi_yX5_aim mv_yX5_aim (c_X5_aim w _ isS_1 hR (by omega) (by omega)) rfl rfl (Nat.le_of_ble_eq_true rfl) (by decide) (by decide) isS_1.o rfl rfl ?_
        refine J.ldc 97 (100000) dX7_clock_97 kc_RX7_152 (J.top (b := nI 100000) (by decide +kernel) ?_)
        refine J.iadd 99 dX7_clock_99 ?_
        exact V.iret 100 dX7_clock_100 (by unfold F_clock; rw [if_neg (fun z => z c8), if_neg (by decide), ix_nI hc hn, show ix (nI 3) = 3 from by decide +kernel]; exact ⟨rfl, hM.x (by omega), Rq.rf v⟩)
      · refine J.tableIn 15 101 dX7_clock_15 (by decide) (by decide) rfl (by decide) ?_
        refine J.aload_n 101 dX7_clock_101 rfl rfl ?_
        refine V.getR 102 dX7_clock_102 fl_RX7_10 r_0_0 ?_
        refine J.iload_n 105 dX7_clock_105 rfl rfl ?_
        refine V.callvP 106 dX7_clock_106 ml_RX7_156 mi_yX5_lies mv_yX5_lies (c_X5_lies w _ isS_1 (g := fun b9 => (b 179) (27 + b9)) hR.2.1.1 (by omega)) rfl rfl (Nat.le_of_ble_eq_true rfl) (by decide) (by decide) isS_1.o rfl rfl ?_
        refine V.if_eqB 109 116 dX7_clock_109 (by decide) (fun c109 => ?_) (fun c109 => ?_)
        · refine J.iconst 116 (nI 0) dX7_clock_116 (by decide +kernel) ?_
          exact V.iret 117 dX7_clock_117 (by unfold F_clock; rw [if_neg (fun z => z c8), if_neg (by decide), ix_nI hc hn, show ix (nI 4) = 4 from by decide +kernel]; exact ⟨(by first | exact c109.symm | exact ((hW.z (by omega)).1.mpr c109).symm), hM.x (by omega), Rq.rf v⟩)
        · refine J.iconst 112 (nI 1) dX7_clock_112 (by decide +kernel) ?_
          refine J.goto 113 117 dX7_clock_113 (by decide) ?_
          exact V.iret 117 dX7_clock_117 (by unfold F_clock; rw [if_neg (fun z => z c8), if_neg (by decide), ix_nI hc hn, show ix (nI 4) = 4 from by decide +kernel]; exact ⟨(by first | exact c109.symm | exact ((hW.z (by omega)).1.mpr c109).symm), hM.x (by omega), Rq.rf v⟩)
      · refine J.tableIn 15 118 dX7_clock_15 (by decide) (by decide) rfl (by decide) ?_
        refine J.aload_n 118 dX7_clock_118 rfl rfl ?_
        refine V.getR 119 dX7_clock_119 fl_RX7_10 r_0_0 ?_
        refine J.iload_n 122 dX7_clock_122 rfl rfl ?_
        refine V.callvP 123 dX7_clock_123 ml_RX7_159 mi_yX5_stands mv_yX5_stands (c_X5_stands w _ isS_1 (g := fun b9 => (b 179) (35 + b9)) hR.2.1.2.1 (by omega)) rfl rfl (Nat.le_of_ble_eq_true rfl) (by decide) (by decide) isS_1.o rfl rfl ?_
        refine V.if_eqB 126 133 dX7_clock_126 (by decide) (fun c126 => ?_) (fun c126 => ?_)
        · refine J.iconst 133 (nI 0) dX7_clock_133 (by decide +kernel) ?_
          exact V.iret 134 dX7_clock_134 (by unfold F_clock; rw [if_neg (fun z => z c8), if_neg (by decide), ix_nI hc hn, show ix (nI 5) = 5 from by decide +kernel]; exact ⟨(by first | exact c126.symm | exact ((hW.z (by omega)).2.mpr c126).symm), hM.x (by omega), Rq.rf v⟩)
        · refine J.iconst 129 (nI 1) dX7_clock_129 (by decide +kernel) ?_
          refine J.goto 130 134 dX7_clock_130 (by decide) ?_
          exact V.iret 134 dX7_clock_134 (by unfold F_clock; rw [if_neg (fun z => z c8), if_neg (by decide), ix_nI hc hn, show ix (nI 5) = 5 from by decide +kernel]; exact ⟨(by first | exact c126.symm | exact ((hW.z (by omega)).2.mpr c126).symm), hM.x (by omega), Rq.rf v⟩)
      · refine J.tableIn 15 135 dX7_clock_15 (by decide) (by decide) rfl (by decide) ?_
        refine J.aload_n 135 dX7_clock_135 rfl rfl ?_
        refine V.getR 136 dX7_clock_136 fl_RX7_10 r_0_0 ?_
        refine J.iload_n 139 dX7_clock_139 rfl rfl ?_
        refine V.callvP 140 dX7_clock_140 ml_RX7_162 mi_yX5_isTrue mv_yX5_isTrue (c_X5_isTrue w _ isS_1 hR hW (by omega)) rfl rfl (Nat.le_of_ble_eq_true rfl) (by decide) (by decide) isS_1.o rfl rfl ?_
        refine V.if_eqB 143 174 dX7_clock_143 (by decide) (fun c143 => ?_) (fun c143 => ?_)
        · have e6 : ckK (b 179) n f c 6 = -1 := if_neg (fun z => c143 z.1)
          refine J.iconst 174 (-1) dX7_clock_174 (by decide +kernel) ?_
          exact V.iret 175 dX7_clock_175 (by unfold F_clock; rw [if_neg (fun z => z c8), if_neg (by decide), ix_nI hc hn, show ix (nI 6) = 6 from by decide +kernel]; first | exact ⟨e6.symm, (hM.fr (fun k h1 h2 h3 => h165.2.1 k h2)).x (by omega), h165.2.1.rq⟩ | exact ⟨e6.symm, hM.x (by omega), Rq.rf v⟩)
        · refine J.aload_n 146 dX7_clock_146 rfl rfl ?_
          refine V.getR 147 dX7_clock_147 fl_RX7_10 r_0_0 ?_
          refine V.callvP 150 dX7_clock_150 ml_RX7_165 mi_yX5_allStruck mv_yX5_allStruck (c_X5_allStruck w _ isS_1 (hR.1.1.trans hW.1) (hR.1.2.1.trans hW.2.2.1) (by omega) (by omega)) rfl rfl (Nat.le_of_ble_eq_true rfl) (by decide) (by decide) isS_1.o rfl rfl ?_
          refine V.if_neB 153 174 dX7_clock_153 (by decide) (fun c153 => ?_) (fun c153 => ?_)
          · have e6 : ckK (b 179) n f c 6 = -1 := if_neg (fun z => z.2 c153)
            refine J.iconst 174 (-1) dX7_clock_174 (by decide +kernel) ?_
            exact V.iret 175 dX7_clock_175 (by unfold F_clock; rw [if_neg (fun z => z c8), if_neg (by decide), ix_nI hc hn, show ix (nI 6) = 6 from by decide +kernel]; first | exact ⟨e6.symm, (hM.fr (fun k h1 h2 h3 => h165.2.1 k h2)).x (by omega), h165.2.1.rq⟩ | exact ⟨e6.symm, hM.x (by omega), Rq.rf v⟩)
          · refine J.aload_n 156 dX7_clock_156 rfl rfl ?_
            refine V.getR 157 dX7_clock_157 fl_RX7_29 r_0_3 ?_
            refine J.aload_n 160 dX7_clock_160 rfl rfl ?_
            refine V.getR 161 dX7_clock_161 fl_RX7_10 r_0_0 ?_
            refine J.iload_n 164 dX7_clock_164 rfl rfl ?_
            refine V.callv 165 dX7_clock_165 ml_RX7_169 mi_yX1_middleFor mv_yX1_middleFor (c_X1_middleFor w _ isS_1 hR hW hc c153) rfl rfl (Nat.le_of_ble_eq_true rfl) (by decide) (by decide) o_19 rfl rfl (fun r165 v165 h165 => ?_)
            refine J.top (h165.1.trans (md_fd hBn (by omega) hn hc c153)) ?_
            have e6 : ckK (b 179) n f c 6 = mdF (b 179) n f c + nI 100000 := if_pos ⟨c143, c153⟩
            refine J.ldc 168 (100000) dX7_clock_168 kc_RX7_152 (J.top (b := nI 100000) (by decide +kernel) ?_)
            refine J.iadd 170 dX7_clock_170 ?_
            refine J.goto 171 175 dX7_clock_171 (by decide) ?_
            exact V.iret 175 dX7_clock_175 (by unfold F_clock; rw [if_neg (fun z => z c8), if_neg (by decide), ix_nI hc hn, show ix (nI 6) = 6 from by decide +kernel]; first | exact ⟨e6.symm, (hM.fr (fun k h1 h2 h3 => h165.2.1 k h2)).x (by omega), h165.2.1.rq⟩ | exact ⟨e6.symm, hM.x (by omega), Rq.rf v⟩)
  · refine J.ldc 11 (-1000000001) dX7_clock_11 kc_RX7_142 ?_
    exact V.iret 13 dX7_clock_13 (by unfold F_clock; rw [if_pos c8]; exact ⟨rfl, hM.x (by omega), Rq.rf v⟩)
set_option maxHeartbeats 1000000 in
set_option maxRecDepth 100000 in
theorem q_heard (w : Wd) (v : Vm2) {b : Vm2} {n f ma K nx s wr a0 B : Nat} (hM : Mr v b n f ma K nx s wr a0 B) (hB : B ≤ 100000000) {j i x : Int32} : CI w yX7_heard cX7_heard 4 (some .int) (rm 4 95) [.ref (wN w + 0), .int j, .int i, .int x] v (fun r v' => r = F_heard (b 179) n f j i x ∧ MR v' b (B + 160000) ∧ Rq v' v) := by
  have hR := hM.1.1
  have hW := hM.1.2.1
  have hBn := hM.1.2.2
  have hn := hW.2.1
  have hf3 := hW.2.2.2.1
  have hma := hW.2.2.2.2.2.2.1
  refine CI.of (by decide) (Nat.le_of_ble_eq_true rfl) ?_
  refine J.aload_n 0 dX7_heard_0 rfl rfl ?_
  refine V.getR 1 dX7_heard_1 fl_RX7_10 r_0_0 ?_
  refine J.iload_n 4 dX7_heard_4 rfl rfl ?_
  refine J.iload_n 5 dX7_heard_5 rfl rfl ?_
  refine V.callvP 6 dX7_heard_6 ml_RX7_173 mi_yX5_hasBoth mv_yX5_hasBoth (c_X5_hasBoth w _ isS_1 (hR.1.1.trans hW.1) (by omega)) rfl rfl (Nat.le_of_ble_eq_true rfl) (by decide) (by decide) isS_1.o rfl rfl ?_
  refine V.if_neB 9 15 dX7_heard_9 (by decide) (fun c9 => ?_) (fun c9 => ?_)
  · obtain ⟨q1, q2, q3⟩ := c9
    obtain ⟨j, hj, rfl⟩ := (clkB_nI (by omega)).mp q1
    obtain ⟨i, hi, rfl⟩ := (clkB_nI (by omega)).mp q2
    have c9 : prB n (nI j) (nI i) := ⟨q1, q2, q3⟩
    refine J.iload_n 15 dX7_heard_15 rfl rfl ?_
    rcases tsplit x 4 (by decide) with hsw | ⟨ksw, hksw, rfl⟩
    · have hsw : x.toInt < 0 ∨ 4 < x.toInt := hsw
      refine J.tableOut 16 154 dX7_heard_16 hsw (by decide) ?_
      refine J.ldc 154 (-1000000002) dX7_heard_154 kc_RX7_70 ?_
      exact V.iret 156 dX7_heard_156 (by unfold F_heard; rw [if_neg (fun z => z c9), if_pos hsw]; exact ⟨rfl, hM.x (by omega), Rq.rf v⟩)
    · obtain rfl | rfl | rfl | rfl | rfl : ksw = 0 ∨ ksw = 1 ∨ ksw = 2 ∨ ksw = 3 ∨ ksw = 4 := by omega
      · refine J.tableIn 16 52 dX7_heard_16 (by decide) (by decide) rfl (by decide) ?_
        refine J.aload_n 52 dX7_heard_52 rfl rfl ?_
        refine V.getR 53 dX7_heard_53 fl_RX7_10 r_0_0 ?_
        refine J.iload_n 56 dX7_heard_56 rfl rfl ?_
        refine J.iload_n 57 dX7_heard_57 rfl rfl ?_
        refine V.callvP 58 dX7_heard_58 ml_RX7_177 mi_yX5_heardOf mv_yX5_heardOf (c_X5_heardOf w _ isS_1 hR (by omega) (by omega) (by omega)) rfl rfl (Nat.le_of_ble_eq_true rfl) (by decide) (by decide) isS_1.o rfl rfl ?_
        refine J.ldc 61 (100000) dX7_heard_61 kc_RX7_152 (J.top (b := nI 100000) (by decide +kernel) ?_)
        refine J.iadd 63 dX7_heard_63 ?_
        exact V.iret 64 dX7_heard_64 (by unfold F_heard; rw [if_neg (fun z => z c9), if_neg (by decide), ix_nI hj hn, ix_nI hi hn, show ix (nI 0) = 0 from by decide +kernel]; exact ⟨rfl, hM.x (by omega), Rq.rf v⟩)
      · refine J.tableIn 16 65 dX7_heard_16 (by decide) (by decide) rfl (by decide) ?_
        refine J.aload_n 65 dX7_heard_65 rfl rfl ?_
        refine V.getR 66 dX7_heard_66 fl_RX7_10 r_0_0 ?_
        refine V.getR 69 dX7_heard_69 fl_RX7_181 isS_1.r12 ?_
        refine J.iload_n 72 dX7_heard_72 rfl rfl ?_
        refine J.iload_n 73 dX7_heard_73 rfl rfl ?_
        refine V.callsP 74 dX7_heard_74 ml_RX7_184 mi_yX5_way ms_yX5_way (c_X5_way w _) rfl rfl (Nat.le_of_ble_eq_true rfl) (by decide) (by decide) ?_
        refine V.iald 77 dX7_heard_77 isS_1.a12 (by omega) ?_
        refine J.bipush 78 (nI 20) dX7_heard_78 (by decide +kernel) ?_
        refine J.iadd 80 dX7_heard_80 ?_
        exact V.iret 81 dX7_heard_81 (by unfold F_heard; rw [if_neg (fun z => z c9), if_neg (by decide), ix_nI hj hn, ix_nI hi hn, show ix (nI 1) = 1 from by decide +kernel]; exact ⟨(by rw [(hR.2.2.2.1 (j * 8 + i) (by omega)).2, show 43 + (j * 8 + i) = 43 + 8 * j + i by omega]; rfl), hM.x (by omega), Rq.rf v⟩)
      · refine J.tableIn 16 82 dX7_heard_16 (by decide) (by decide) rfl (by decide) ?_
        refine J.aload_n 82 dX7_heard_82 rfl rfl ?_
        refine V.getR 83 dX7_heard_83 fl_RX7_10 r_0_0 ?_
        refine V.getR 86 dX7_heard_86 fl_RX7_187 isS_1.r11 ?_
        refine J.iload_n 89 dX7_heard_89 rfl rfl ?_
        refine J.iload_n 90 dX7_heard_90 rfl rfl ?_
        refine V.callsP 91 dX7_heard_91 ml_RX7_184 mi_yX5_way ms_yX5_way (c_X5_way w _) rfl rfl (Nat.le_of_ble_eq_true rfl) (by decide) (by decide) ?_
        refine V.iald 94 dX7_heard_94 isS_1.a11 (by omega) ?_
        refine J.sipush 95 (nI 9999) dX7_heard_95 (by decide +kernel) ?_
        refine J.iadd 98 dX7_heard_98 ?_
        exact V.iret 99 dX7_heard_99 (by unfold F_heard; rw [if_neg (fun z => z c9), if_neg (by decide), ix_nI hj hn, ix_nI hi hn, show ix (nI 2) = 2 from by decide +kernel]; exact ⟨(by rw [(hR.2.2.2.1 (j * 8 + i) (by omega)).1, show 107 + (j * 8 + i) = 107 + 8 * j + i by omega]; rfl), hM.x (by omega), Rq.rf v⟩)
      · refine J.tableIn 16 100 dX7_heard_16 (by decide) (by decide) rfl (by decide) ?_
        refine J.aload_n 100 dX7_heard_100 rfl rfl ?_
        refine V.getR 101 dX7_heard_101 fl_RX7_10 r_0_0 ?_
        refine J.iload_n 104 dX7_heard_104 rfl rfl ?_
        refine J.iload_n 105 dX7_heard_105 rfl rfl ?_
        refine V.callvP 106 dX7_heard_106 ml_RX7_190 mi_yX5_rank mv_yX5_rank (c_X5_rank w _ isS_1 hR hW.1 hW.2.1 (by omega) (by omega)) rfl rfl (Nat.le_of_ble_eq_true rfl) (by decide) (by decide) isS_1.o rfl rfl ?_
        exact V.iret 109 dX7_heard_109 (by unfold F_heard; rw [if_neg (fun z => z c9), if_neg (by decide), ix_nI hj hn, ix_nI hi hn, show ix (nI 3) = 3 from by decide +kernel]; exact ⟨rfl, hM.x (by omega), Rq.rf v⟩)
      · refine J.tableIn 16 110 dX7_heard_16 (by decide) (by decide) rfl (by decide) ?_
        refine J.aload_n 110 dX7_heard_110 rfl rfl ?_
        refine V.getR 111 dX7_heard_111 fl_RX7_10 r_0_0 ?_
        refine J.iload_n 114 dX7_heard_114 rfl rfl ?_
        refine V.callvP 115 dX7_heard_115 ml_RX7_162 mi_yX5_isTrue mv_yX5_isTrue (c_X5_isTrue w _ isS_1 hR hW (by omega)) rfl rfl (Nat.le_of_ble_eq_true rfl) (by decide) (by decide) isS_1.o rfl rfl ?_
        refine V.if_eqB 118 152 dX7_heard_118 (by decide) (fun c118 => ?_) (fun c118 => ?_)
        · refine J.iconst 152 (-1) dX7_heard_152 (by decide +kernel) ?_
          exact V.iret 153 dX7_heard_153 (by unfold F_heard; rw [if_neg (fun z => z c9), if_neg (by decide), ix_nI hj hn, ix_nI hi hn, show ix (nI 4) = 4 from by decide +kernel]; first | exact ⟨h142.1, (hM.fr (fun k h1 h2 h3 => h142.2 k h2)).x (by omega), h142.2.rq⟩ | exact ⟨(if_neg (fun z => c118 z.1)).symm, hM.x (by omega), Rq.rf v⟩ | exact ⟨(if_neg (fun z => c129 z.2)).symm, hM.x (by omega), Rq.rf v⟩)
        · refine J.aload_n 121 dX7_heard_121 rfl rfl ?_
          refine V.getR 122 dX7_heard_122 fl_RX7_10 r_0_0 ?_
          refine J.iload_n 125 dX7_heard_125 rfl rfl ?_
          refine V.callvP 126 dX7_heard_126 ml_RX7_193 mi_yX5_tellsLies mv_yX5_tellsLies (c_X5_tellsLies w _ isS_1 hR hW (by omega)) rfl rfl (Nat.le_of_ble_eq_true rfl) (by decide) (by decide) isS_1.o rfl rfl ?_
          refine V.if_eqB 129 152 dX7_heard_129 (by decide) (fun c129 => ?_) (fun c129 => ?_)
          · refine J.iconst 152 (-1) dX7_heard_152 (by decide +kernel) ?_
            exact V.iret 153 dX7_heard_153 (by unfold F_heard; rw [if_neg (fun z => z c9), if_neg (by decide), ix_nI hj hn, ix_nI hi hn, show ix (nI 4) = 4 from by decide +kernel]; first | exact ⟨h142.1, (hM.fr (fun k h1 h2 h3 => h142.2 k h2)).x (by omega), h142.2.rq⟩ | exact ⟨(if_neg (fun z => c118 z.1)).symm, hM.x (by omega), Rq.rf v⟩ | exact ⟨(if_neg (fun z => c129 z.2)).symm, hM.x (by omega), Rq.rf v⟩)
          · refine J.aload_n 132 dX7_heard_132 rfl rfl ?_
            refine V.getR 133 dX7_heard_133 fl_RX7_29 r_0_3 ?_
            refine J.aload_n 136 dX7_heard_136 rfl rfl ?_
            refine V.getR 137 dX7_heard_137 fl_RX7_10 r_0_0 ?_
            refine J.iload_n 140 dX7_heard_140 rfl rfl ?_
            refine J.iload_n 141 dX7_heard_141 rfl rfl ?_
            refine V.callv 142 dX7_heard_142 ml_RX7_196 mi_yX1_farthest mv_yX1_farthest (c_X1_farthest w _ isS_1 hR hW hj hi c118 c129 hBn (by omega)) rfl rfl (Nat.le_of_ble_eq_true rfl) (by decide) (by decide) o_19 rfl rfl (fun r142 v142 h142 => ?_)
            refine J.sipush 145 (nI 9999) dX7_heard_145 (by decide +kernel) ?_
            refine J.iadd 148 dX7_heard_148 ?_
            refine J.goto 149 153 dX7_heard_149 (by decide) ?_
            exact V.iret 153 dX7_heard_153 (by unfold F_heard; rw [if_neg (fun z => z c9), if_neg (by decide), ix_nI hj hn, ix_nI hi hn, show ix (nI 4) = 4 from by decide +kernel]; first | exact ⟨h142.1, (hM.fr (fun k h1 h2 h3 => h142.2 k h2)).x (by omega), h142.2.rq⟩ | exact ⟨(if_neg (fun z => c118 z.1)).symm, hM.x (by omega), Rq.rf v⟩ | exact ⟨(if_neg (fun z => c129 z.2)).symm, hM.x (by omega), Rq.rf v⟩)
  · refine J.ldc 12 (-1000000001) dX7_heard_12 kc_RX7_142 ?_
    exact V.iret 14 dX7_heard_14 (by unfold F_heard; rw [if_pos c9]; exact ⟨rfl, hM.x (by omega), Rq.rf v⟩)
set_option maxHeartbeats 1000000 in
set_option maxRecDepth 100000 in
theorem q_alarmAt (w : Wd) (v : Vm2) {b : Vm2} {n f ma K nx s wr a0 B : Nat} (hM : Mr v b n f ma K nx s wr a0 B) (hB : B ≤ 100000000) {a x : Int32} : CI w yX7_alarmAt cX7_alarmAt 3 (some .int) (rm 1 22) [.ref (wN w + 0), .int a, .int x] v (fun r v' => r = F_alarmAt (b 179) ma a x ∧ MR v' b (B + 160000) ∧ Rq v' v) := by
  have hR := hM.1.1
  have hW := hM.1.2.1
  have hBn := hM.1.2.2
  have hn := hW.2.1
  have hf3 := hW.2.2.2.1
  have hma := hW.2.2.2.2.2.2.1
  refine CI.of (by decide) (Nat.le_of_ble_eq_true rfl) ?_
  refine J.iload_n 0 dX7_alarmAt_0 rfl rfl ?_
  refine J.iconst 1 (nI 0) dX7_alarmAt_1 (by decide +kernel) ?_
  refine J.aload_n 2 dX7_alarmAt_2 rfl rfl ?_
  refine V.getR 3 dX7_alarmAt_3 fl_RX7_10 r_0_0 ?_
  refine V.getI 6 dX7_alarmAt_6 fl_RX7_125 isS_1.i5 ?_
  refine J.top (b := nI ma) (hR.1.2.2.2.1.trans hW.2.2.2.2.2.1) ?_
  refine J.iconst 9 (nI 1) dX7_alarmAt_9 (by decide +kernel) ?_
  refine J.isub 10 dX7_alarmAt_10 ?_
  refine V.callsP 11 dX7_alarmAt_11 ml_RX7_66 mi_yX7_between ms_yX7_between (c_X7_between w _) rfl rfl (Nat.le_of_ble_eq_true rfl) (by decide) (by decide) ?_
  rw [bI_congr (p := inF a (nI 0) (nI ma - nI 1)) (q := clkB ma a) (inF_clk (by omega))]
  refine V.if_neB 14 20 dX7_alarmAt_14 (by decide) (fun c14 => ?_) (fun c14 => ?_)
  · obtain ⟨a, ha, rfl⟩ := (clkB_nI (by omega)).mp c14
    have e2 : (v 1 6 >>> (nI a &&& 31)) &&& nI 1 = (b 179) (184 + a) := by
        rw [hR.2.1.2.2, BM_t _ (by omega), if_pos ha]
        rcases (hW.2.2.2.2.2.2.2.2 a ha).1 with z | z
        · rw [z, if_neg (by decide)]; rfl
        · rw [z, if_pos rfl]
    refine J.iload_n 20 dX7_alarmAt_20 rfl rfl ?_
    rcases tsplit x 2 (by decide) with hsw | ⟨ksw, hksw, rfl⟩
    · have hsw : x.toInt < 0 ∨ 2 < x.toInt := hsw
      refine J.tableOut 21 80 dX7_alarmAt_21 hsw (by decide) ?_
      refine J.ldc 80 (-1000000002) dX7_alarmAt_80 kc_RX7_70 ?_
      exact V.iret 82 dX7_alarmAt_82 (by unfold F_alarmAt; rw [if_neg (fun z => z c14), if_pos hsw]; exact ⟨rfl, hM.x (by omega), Rq.rf v⟩)
    · obtain rfl | rfl | rfl : ksw = 0 ∨ ksw = 1 ∨ ksw = 2 := by omega
      · refine J.tableIn 21 48 dX7_alarmAt_21 (by decide) (by decide) rfl (by decide) ?_
        refine J.aload_n 48 dX7_alarmAt_48 rfl rfl ?_
        refine V.getR 49 dX7_alarmAt_49 fl_RX7_10 r_0_0 ?_
        refine V.getR 52 dX7_alarmAt_52 fl_RX7_200 isS_1.r13 ?_
        refine J.iload_n 55 dX7_alarmAt_55 rfl rfl ?_
        refine V.iald 56 dX7_alarmAt_56 isS_1.a13 (by omega) ?_
        exact V.iret 57 dX7_alarmAt_57 (by unfold F_alarmAt; rw [if_neg (fun z => z c14), if_neg (by decide), ix_nI ha (by omega), show ix (nI 0) = 0 from by decide +kernel]; exact ⟨(hR.2.2.2.2 a ha).1, hM.x (by omega), Rq.rf v⟩)
      · refine J.tableIn 21 58 dX7_alarmAt_21 (by decide) (by decide) rfl (by decide) ?_
        refine J.aload_n 58 dX7_alarmAt_58 rfl rfl ?_
        refine V.getR 59 dX7_alarmAt_59 fl_RX7_10 r_0_0 ?_
        refine V.getR 62 dX7_alarmAt_62 fl_RX7_203 isS_1.r14 ?_
        refine J.iload_n 65 dX7_alarmAt_65 rfl rfl ?_
        refine V.iald 66 dX7_alarmAt_66 isS_1.a14 (by omega) ?_
        exact V.iret 67 dX7_alarmAt_67 (by unfold F_alarmAt; rw [if_neg (fun z => z c14), if_neg (by decide), ix_nI ha (by omega), show ix (nI 1) = 1 from by decide +kernel]; exact ⟨(hR.2.2.2.2 a ha).2, hM.x (by omega), Rq.rf v⟩)
      · refine J.tableIn 21 68 dX7_alarmAt_21 (by decide) (by decide) rfl (by decide) ?_
        refine J.aload_n 68 dX7_alarmAt_68 rfl rfl ?_
        refine V.getR 69 dX7_alarmAt_69 fl_RX7_10 r_0_0 ?_
        refine V.getI 72 dX7_alarmAt_72 fl_RX7_128 isS_1.i6 ?_
        refine J.iload_n 75 dX7_alarmAt_75 rfl rfl ?_
        refine J.ishr 76 dX7_alarmAt_76 ?_
        refine J.iconst 77 (nI 1) dX7_alarmAt_77 (by decide +kernel) ?_
        refine J.iand 78 dX7_alarmAt_78 ?_
        exact V.iret 79 dX7_alarmAt_79 (by unfold F_alarmAt; rw [if_neg (fun z => z c14), if_neg (by decide), ix_nI ha (by omega), show ix (nI 2) = 2 from by decide +kernel]; exact ⟨e2, hM.x (by omega), Rq.rf v⟩)
  · refine J.ldc 17 (-1000000001) dX7_alarmAt_17 kc_RX7_142 ?_
    exact V.iret 19 dX7_alarmAt_19 (by unfold F_alarmAt; rw [if_pos c14]; exact ⟨rfl, hM.x (by omega), Rq.rf v⟩)
