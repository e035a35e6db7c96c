/-! ===== part 34: a State: alarms set, sets, cleared, clocks added, copied ===== -/
def alS (ρ : Nat → Int32) (ma : Nat) (c x r : Int32) : Nat → Int32 := upd (upd (upd (upd ρ (172 + ma) c) (178 + ma) x) (184 + ma) r) 171 (nI (ma + 1))
theorem alS_at (ρ : Nat → Int32) {ma k : Nat} {c x r : Int32} (h1 : k ≠ 172 + ma) (h2 : k ≠ 178 + ma) (h3 : k ≠ 184 + ma) (h4 : k ≠ 171) : alS ρ ma c x r k = ρ k := by
  unfold alS
  rw [upd_ne _ _ h4, upd_ne _ _ h3, upd_ne _ _ h2, upd_ne _ _ h1]
theorem RepS.alm {v : Vm2} {q n ma : Nat} {ρ : Nat → Int32} (h : RepS v q ρ n ma) (hn : n ≤ 8) (hma : ma < 6) (c x : Int32) : RepS (up2 (up2 (up2 v (q + 6) ma c) (q + 7) ma x) q 5 (nI (ma + 1))) q (alS ρ ma c x 0) n (ma + 1) := by
  obtain ⟨⟨a1, a2, a3, a4, a5⟩, ⟨b1, b2, b3⟩, c1, c2, c3⟩ := h
  have e8 : alS ρ ma c x 0 (184 + ma) = 0 := by unfold alS; rw [upd_ne _ _ (by omega), upd_self]
  refine ⟨⟨?_, ?_, ?_, ?_, ?_⟩, ⟨?_, ?_, ?_⟩, fun k hk => ⟨?_, ?_, ?_⟩, fun k hk => ⟨?_, ?_⟩, fun k hk => ⟨?_, ?_⟩⟩
  · rw [up2_o _ _ (by omega), up2_o _ _ (by omega), up2_o _ _ (by omega), alS_at _ (by omega) (by omega) (by omega) (by omega)]; exact a1
  · rw [up2_o _ _ (by omega), up2_o _ _ (by omega), up2_o _ _ (by omega), alS_at _ (by omega) (by omega) (by omega) (by omega)]; exact a2
  · rw [up2_o _ _ (by omega), up2_o _ _ (by omega), up2_o _ _ (by omega), alS_at _ (by omega) (by omega) (by omega) (by omega)]; exact a3
  · rw [up2_self]; unfold alS; rw [upd_self]
  · rw [up2_o _ _ (by omega), up2_o _ _ (by omega), up2_o _ _ (by omega), alS_at _ (by omega) (by omega) (by omega) (by omega)]; exact a5
  · rw [up2_o _ _ (by omega), up2_o _ _ (by omega), up2_o _ _ (by omega), b1]; exact BM_congr (fun k hk => by rw [alS_at _ (by omega) (by omega) (by omega) (by omega)])
  · rw [up2_o _ _ (by omega), up2_o _ _ (by omega), up2_o _ _ (by omega), b2]; exact BM_congr (fun k hk => by rw [alS_at _ (by omega) (by omega) (by omega) (by omega)])
  · rw [up2_o _ _ (by omega), up2_o _ _ (by omega), up2_o _ _ (by omega), b3]
    refine BM_congr (fun k hk => ?_)
    by_cases e : k < ma
    · rw [if_pos e, if_pos (by omega), alS_at _ (by omega) (by omega) (by omega) (by omega)]
    · rw [if_neg e]
      by_cases e2 : k = ma
      · subst e2
        rw [if_pos (by omega), e8]
      · rw [if_neg (by omega)]
  · rw [up2_o _ _ (by omega), up2_o _ _ (by omega), up2_o _ _ (by omega), alS_at _ (by omega) (by omega) (by omega) (by omega)]; exact (c1 k hk).1
  · rw [up2_o _ _ (by omega), up2_o _ _ (by omega), up2_o _ _ (by omega), alS_at _ (by omega) (by omega) (by omega) (by omega)]; exact (c1 k hk).2.1
  · rw [up2_o _ _ (by omega), up2_o _ _ (by omega), up2_o _ _ (by omega), alS_at _ (by omega) (by omega) (by omega) (by omega)]; exact (c1 k hk).2.2
  · rw [up2_o _ _ (by omega), up2_o _ _ (by omega), up2_o _ _ (by omega), alS_at _ (by omega) (by omega) (by omega) (by omega)]; exact (c2 k hk).1
  · rw [up2_o _ _ (by omega), up2_o _ _ (by omega), up2_o _ _ (by omega), alS_at _ (by omega) (by omega) (by omega) (by omega)]; exact (c2 k hk).2
  · rw [up2_o _ _ (by omega), up2_o _ _ (by omega)]
    by_cases e : k = ma
    · subst e; rw [up2_self]; unfold alS; rw [upd_ne _ _ (by omega), upd_ne _ _ (by omega), upd_ne _ _ (by omega), upd_self]
    · rw [up2_o _ _ (by omega), alS_at _ (by omega) (by omega) (by omega) (by omega)]; exact (c3 k (by omega)).1
  · rw [up2_o _ _ (by omega)]
    by_cases e : k = ma
    · subst e; rw [up2_self]; unfold alS; rw [upd_ne _ _ (by omega), upd_ne _ _ (by omega), upd_self]
    · rw [up2_o _ _ (by omega), up2_o _ _ (by omega), alS_at _ (by omega) (by omega) (by omega) (by omega)]; exact (c3 k (by omega)).2
theorem Al0_al {ρ : Nat → Int32} {n f ma cl0 : Nat} {x : Int32} (hW : Wf ρ n f ma) (hma : ma < 6) (hc : cl0 < n) : Al0 (alS ρ ma (nI cl0) x 0) n (ma + 1) := by
  intro a ha
  by_cases e : a = ma
  · subst e
    refine ⟨Or.inl ?_, cl0, hc, ?_⟩
    · unfold alS; rw [upd_ne _ _ (by omega), upd_self]
    · unfold alS; rw [upd_ne _ _ (by omega), upd_ne _ _ (by omega), upd_ne _ _ (by omega), upd_self]
  · obtain ⟨h01, cl, hcl, ecl, hal⟩ := hW.2.2.2.2.2.2.2.2 a (by omega)
    rw [alS_at _ (by omega) (by omega) (by omega) (by omega), alS_at _ (by omega) (by omega) (by omega) (by omega)]
    exact ⟨h01, cl, hcl, ecl⟩
theorem rgX_al {ρ : Nat → Int32} {n f ma cl0 : Nat} {x : Int32} (hW : Wf ρ n f ma) (hma : ma < 6) (hc : cl0 < n) : rgX (alS ρ ma (nI cl0) x 0) (ma + 1) = alS ρ ma (nI cl0) x (if ρ (3 + cl0) < x then nI 0 else nI 1) := by
  have h2 := hW.2.1
  funext k
  by_cases hk : 184 ≤ k ∧ k < 184 + (ma + 1)
  · obtain ⟨a, rfl⟩ : ∃ a, k = 184 + a := ⟨k - 184, by omega⟩
    unfold rgX
    rw [Nat.add_sub_cancel_left]
    by_cases e : a = ma
    · subst e
      have e1 : alS ρ a (nI cl0) x 0 (172 + a) = nI cl0 := by unfold alS; rw [upd_ne _ _ (by omega), upd_ne _ _ (by omega), upd_ne _ _ (by omega), upd_self]
      have e2 : alS ρ a (nI cl0) x 0 (178 + a) = x := by unfold alS; rw [upd_ne _ _ (by omega), upd_ne _ _ (by omega), upd_self]
      have e3 : alS ρ a (nI cl0) x 0 (3 + cl0) = ρ (3 + cl0) := alS_at _ (by omega) (by omega) (by omega) (by omega)
      have e4 : ∀ r, alS ρ a (nI cl0) x r (184 + a) = r := fun r => by unfold alS; rw [upd_ne _ _ (by omega), upd_self]
      unfold due
      rw [e1, nI_clamp (by omega), e2, e3, e4, e4]
      by_cases d : ρ (3 + cl0) < x
      · rw [if_neg (fun z => absurd d (Int32.not_lt.mpr z.2.2)), if_pos d]; rfl
      · rw [if_pos ⟨by omega, by omega, Int32.not_lt.mp d⟩, if_neg d]
    · obtain ⟨h01, cl, hcl, ecl, hal⟩ := hW.2.2.2.2.2.2.2.2 a (by omega)
      unfold due
      rw [alS_at ρ (k := 172 + a) (by omega) (by omega) (by omega) (by omega), alS_at ρ (k := 178 + a) (by omega) (by omega) (by omega) (by omega), ecl, nI_clamp (by omega), alS_at ρ (k := 3 + cl) (by omega) (by omega) (by omega) (by omega), alS_at ρ (k := 184 + a) (by omega) (by omega) (by omega) (by omega), alS_at ρ (k := 184 + a) (by omega) (by omega) (by omega) (by omega)]
      by_cases d : ρ (178 + a) ≤ ρ (3 + cl)
      · rw [if_pos ⟨by omega, by omega, d⟩]
        rcases h01 with z | z
        · exact absurd (hal z) (Int32.not_lt.mpr d)
        · exact z.symm
      · rw [if_neg (fun z => d z.2.2)]
  · rw [show rgX (alS ρ ma (nI cl0) x 0) (ma + 1) k = alS ρ ma (nI cl0) x 0 k from if_neg (fun z => hk ⟨z.1, z.2.1⟩)]
    unfold alS
    by_cases e : k = 171
    · rw [e, upd_self, upd_self]
    · rw [upd_ne _ _ e, upd_ne _ _ e]
      have e2 : k ≠ 184 + ma := by omega
      rw [upd_ne _ _ e2, upd_ne _ _ e2]
theorem Wf_al {ρ : Nat → Int32} {n f ma cl0 : Nat} {x : Int32} (hW : Wf ρ n f ma) (hma : ma < 6) (hc : cl0 < n) : Wf (alS ρ ma (nI cl0) x (if ρ (3 + cl0) < x then nI 0 else nI 1)) n f (ma + 1) := by
  obtain ⟨h1, h2, h3, h4, h5, h6, h7, h8, h9⟩ := hW
  refine ⟨?_, h2, ?_, h4, ?_, ?_, by omega, fun c hc => ?_, fun a ha => ?_⟩
  · rw [alS_at _ (by omega) (by omega) (by omega) (by omega)]; exact h1
  · rw [alS_at _ (by omega) (by omega) (by omega) (by omega)]; exact h3
  · rw [alS_at _ (by omega) (by omega) (by omega) (by omega)]; exact h5
  · unfold alS; rw [upd_self]
  · rw [alS_at _ (by omega) (by omega) (by omega) (by omega), alS_at _ (by omega) (by omega) (by omega) (by omega)]; exact h8 c hc
  · by_cases e : a = ma
    · subst e
      have e1 : ∀ r, alS ρ a (nI cl0) x r (172 + a) = nI cl0 := fun r => by unfold alS; rw [upd_ne _ _ (by omega), upd_ne _ _ (by omega), upd_ne _ _ (by omega), upd_self]
      have e2 : ∀ r, alS ρ a (nI cl0) x r (178 + a) = x := fun r => by unfold alS; rw [upd_ne _ _ (by omega), upd_ne _ _ (by omega), upd_self]
      have e4 : ∀ r, alS ρ a (nI cl0) x r (184 + a) = r := fun r => by unfold alS; rw [upd_ne _ _ (by omega), upd_self]
      rw [e1, e2, e4]
      refine ⟨?_, cl0, hc, rfl, fun z => ?_⟩
      · split
        · exact Or.inl rfl
        · exact Or.inr rfl
      · by_cases d : ρ (3 + cl0) < x
        · rw [alS_at _ (by omega) (by omega) (by omega) (by omega)]; exact d
        · rw [if_neg d] at z; exact absurd z (by decide)
    · obtain ⟨h01, cl, hcl, ecl, hal⟩ := h9 a (by omega)
      rw [alS_at ρ (k := 184 + a) (by omega) (by omega) (by omega) (by omega), alS_at ρ (k := 172 + a) (by omega) (by omega) (by omega) (by omega), alS_at ρ (k := 178 + a) (by omega) (by omega) (by omega) (by omega)]
      exact ⟨h01, cl, hcl, ecl, fun z => by rw [alS_at ρ (k := 3 + cl) (by omega) (by omega) (by omega) (by omega)]; exact hal z⟩

set_option maxHeartbeats 600000 in
set_option maxRecDepth 100000 in
theorem c_X5_setAlarm (w : Wd) (v : Vm2) {q : Nat} (hq : IsS q) {ρ : Nat → Int32} {n ma : Nat} (hR : RepS v q ρ n ma) {f : Nat} (hW : Wf ρ n f ma) {c : Nat} {x : Int32} (hma : ma < 6) (hc : c < n) : CI w yX5_setAlarm cX5_setAlarm 4 (some .int) (rm 1 22) [.ref (wN w + q), .int (nI c), .int x] v (fun r v' => r = nI ma ∧ RepS v' q (alS ρ ma (nI c) x (if ρ (3 + c) < x then nI 0 else nI 1)) n (ma + 1) ∧ FrS v' v q) := by
  have hn := hW.2.1
  refine CI.of (by decide) (Nat.le_of_ble_eq_true rfl) ?_
  refine J.aload_n 0 dX5_setAlarm_0 rfl rfl ?_
  refine V.getI 1 dX5_setAlarm_1 fl_RX5_49 hq.i5 ?_
  refine J.top (hR.1.2.2.2.1.trans hW.2.2.2.2.2.1) ?_
  refine J.istore_n 4 dX5_setAlarm_4 rfl (by decide) ?_
  refine J.iload_n 5 dX5_setAlarm_5 rfl rfl ?_
  refine J.bipush 6 (nI 6) dX5_setAlarm_6 (by decide +kernel) ?_
  refine V.icmp_ge 8 40 dX5_setAlarm_8 (by decide) (by omega) (by omega) (fun c8 => absurd c8 (by omega)) (fun c8 => ?_)
  refine J.aload_n 11 dX5_setAlarm_11 rfl rfl ?_
  refine V.getR 12 dX5_setAlarm_12 fl_RX5_31 hq.r13 ?_
  refine J.iload_n 15 dX5_setAlarm_15 rfl rfl ?_
  refine J.iload_n 16 dX5_setAlarm_16 rfl rfl ?_
  refine V.iast 17 dX5_setAlarm_17 hq.a13 (by omega) ?_
  refine J.aload_n 18 dX5_setAlarm_18 rfl rfl ?_
  refine V.getR 19 dX5_setAlarm_19 fl_RX5_34 hq.r14 ?_
  refine J.iload_n 22 dX5_setAlarm_22 rfl rfl ?_
  refine J.iload_n 23 dX5_setAlarm_23 rfl rfl ?_
  refine V.iast 24 dX5_setAlarm_24 hq.a14 (by omega) ?_
  refine J.aload_n 25 dX5_setAlarm_25 rfl rfl ?_
  refine J.dup 26 dX5_setAlarm_26 rfl ?_
  refine V.getI 27 dX5_setAlarm_27 fl_RX5_49 hq.i5 ?_
  refine J.top (b := nI ma) (by rw [up2_o _ _ (by omega), up2_o _ _ (by omega)]; exact hR.1.2.2.2.1.trans hW.2.2.2.2.2.1) ?_
  refine J.iconst 30 (nI 1) dX5_setAlarm_30 (by decide +kernel) ?_
  refine V.iadd 31 dX5_setAlarm_31 ?_
  refine V.putI 32 dX5_setAlarm_32 fl_RX5_49 fp_5_5 hq.i5 ?_
  have hR2 := hR.alm hn hma (nI c) x
  have hA2 := Al0_al (x := x) hW hma hc
  refine J.aload_n 35 dX5_setAlarm_35 rfl rfl ?_
  refine V.callv 36 dX5_setAlarm_36 ml_RX5_107 mi_yX5_ring mv_yX5_ring (c_X5_ring w _ hq hR2 (by unfold alS; rw [upd_self]) hn (by omega) hA2) rfl rfl (Nat.le_of_ble_eq_true rfl) (by decide) (by decide) hq.o rfl rfl (fun r36 v36 h36 => ?_)
  obtain ⟨rfl, rfl⟩ := h36
  refine J.pop 39 dX5_setAlarm_39 rfl ?_
  refine J.iload_n 40 dX5_setAlarm_40 rfl rfl ?_
  exact V.iret 41 dX5_setAlarm_41 (⟨rfl, by rw [← rgX_al hW hma hc]; exact rg_rep hR2 hn (by omega) hA2, ((((FrS.rf v q).up (by omega) (by omega)).up (by omega) (by omega)).up (by omega) (by omega)).up (by omega) (by omega)⟩)
theorem clr_rep {v : Vm2} {q : Nat} (u : Vm2) (hu : u = fiK (fiK (up2 (up2 (up2 (up2 (up2 (up2 (up2 (up2 v q 0 (nI 0)) q 1 (nI 0)) q 2 (nI 10)) q 3 (nI 0)) q 4 (nI 0)) q 5 (nI 0)) q 6 (nI 0)) q 7 (nI 0)) (q + 4) (nI 0) 64) (q + 5) (nI 0) 64) : RepS u q rw0 0 0 ∧ FrS u v q := by
  have hz : ∀ c, ¬ rw0 (27 + c) = nI 1 := fun c => by unfold rw0; rw [if_neg (by omega)]; decide
  have hz2 : ∀ c, ¬ rw0 (35 + c) = nI 1 := fun c => by unfold rw0; rw [if_neg (by omega)]; decide
  have f1 : ∀ j, u q j = up2 (up2 (up2 (up2 (up2 (up2 (up2 (up2 v q 0 (nI 0)) q 1 (nI 0)) q 2 (nI 10)) q 3 (nI 0)) q 4 (nI 0)) q 5 (nI 0)) q 6 (nI 0)) q 7 (nI 0) q j := by
    intro j
    rw [hu]
    unfold fiK
    rw [if_neg (by omega), if_neg (by omega)]
  refine ⟨⟨⟨?_, ?_, ?_, ?_, ?_⟩, ⟨?_, ?_, ?_⟩, fun k hk => absurd hk (by omega), fun k hk => ⟨?_, ?_⟩, fun k hk => absurd hk (by omega)⟩, fun k hk => ?_⟩
  · rw [f1]; simp [up2]; rfl
  · rw [f1]; simp [up2]; rfl
  · rw [f1]; simp [up2]; rfl
  · rw [f1]; simp [up2]; rfl
  · rw [f1]; simp [up2]; rfl
  · rw [f1]; simp only [up2]; simp
    exact BM_0.trans (BM_congr (fun c _ => ⟨fun z => absurd z (by decide), fun z => absurd z (hz c)⟩))
  · rw [f1]; simp only [up2]; simp
    exact BM_0.trans (BM_congr (fun c _ => ⟨fun z => absurd z (by decide), fun z => absurd z (hz2 c)⟩))
  · rw [f1]; simp only [up2]; simp
    exact BM_0
  · rw [hu]
    unfold fiK
    rw [if_neg (by omega), if_pos (by omega)]
    unfold rw0
    rw [if_neg (by omega)]
    rfl
  · rw [hu]
    unfold fiK
    rw [if_pos (by omega)]
    unfold rw0
    rw [if_neg (by omega)]
    rfl
  · rw [hu]
    funext j
    unfold fiK
    rw [if_neg (by omega), if_neg (by omega), up2_o _ _ (by omega), up2_o _ _ (by omega), up2_o _ _ (by omega), up2_o _ _ (by omega), up2_o _ _ (by omega), up2_o _ _ (by omega), up2_o _ _ (by omega), up2_o _ _ (by omega)]
set_option maxHeartbeats 600000 in
set_option maxRecDepth 100000 in
theorem c_X5_clear (w : Wd) (v : Vm2) {q : Nat} (hq : IsS q) : CU w yX5_clear cX5_clear 1 (rm 1 23) [.ref (wN w + q)] v (fun v' => RepS v' q rw0 0 0 ∧ FrS v' v q) := by
  refine CU.of (by decide) (Nat.le_of_ble_eq_true rfl) ?_
  refine J.aload_n 0 dX5_clear_0 rfl rfl ?_
  refine J.iconst 1 (nI 0) dX5_clear_1 (by decide +kernel) ?_
  refine V.putI 2 dX5_clear_2 fl_RX5_37 fp_5_0 hq.i0 ?_
  refine J.aload_n 5 dX5_clear_5 rfl rfl ?_
  refine J.iconst 6 (nI 0) dX5_clear_6 (by decide +kernel) ?_
  refine V.putI 7 dX5_clear_7 fl_RX5_40 fp_5_1 hq.i1 ?_
  refine J.aload_n 10 dX5_clear_10 rfl rfl ?_
  refine J.bipush 11 (nI 10) dX5_clear_11 (by decide +kernel) ?_
  refine V.putI 13 dX5_clear_13 fl_RX5_9 fp_5_2 hq.i2 ?_
  refine J.aload_n 16 dX5_clear_16 rfl rfl ?_
  refine J.iconst 17 (nI 0) dX5_clear_17 (by decide +kernel) ?_
  refine V.putI 18 dX5_clear_18 fl_RX5_43 fp_5_3 hq.i3 ?_
  refine J.aload_n 21 dX5_clear_21 rfl rfl ?_
  refine J.iconst 22 (nI 0) dX5_clear_22 (by decide +kernel) ?_
  refine V.putI 23 dX5_clear_23 fl_RX5_46 fp_5_4 hq.i4 ?_
  refine J.aload_n 26 dX5_clear_26 rfl rfl ?_
  refine J.iconst 27 (nI 0) dX5_clear_27 (by decide +kernel) ?_
  refine V.putI 28 dX5_clear_28 fl_RX5_49 fp_5_5 hq.i5 ?_
  refine J.aload_n 31 dX5_clear_31 rfl rfl ?_
  refine J.iconst 32 (nI 0) dX5_clear_32 (by decide +kernel) ?_
  refine V.putI 33 dX5_clear_33 fl_RX5_52 fp_5_6 hq.i6 ?_
  refine J.aload_n 36 dX5_clear_36 rfl rfl ?_
  refine J.iconst 37 (nI 0) dX5_clear_37 (by decide +kernel) ?_
  refine V.putI 38 dX5_clear_38 fl_RX5_55 fp_5_7 hq.i7 ?_
  refine J.aload_n 41 dX5_clear_41 rfl rfl ?_
  refine V.getR 42 dX5_clear_42 fl_RX5_25 hq.r11 ?_
  refine J.iconst 45 (nI 0) dX5_clear_45 (by decide +kernel) ?_
  refine V.callsU 46 dX5_clear_46 ml_RX5_58 mi_yJ7_fill_53178 ms_yJ7_fill_53178 (c_J7_fill_53178 w _ hq.a11) rfl rfl (Nat.le_of_ble_eq_true rfl) (by decide) (by decide) (fun v46 h46 => ?_)
  subst h46
  refine J.aload_n 49 dX5_clear_49 rfl rfl ?_
  refine V.getR 50 dX5_clear_50 fl_RX5_28 hq.r12 ?_
  refine J.iconst 53 (nI 0) dX5_clear_53 (by decide +kernel) ?_
  refine V.callsU 54 dX5_clear_54 ml_RX5_58 mi_yJ7_fill_53178 ms_yJ7_fill_53178 (c_J7_fill_53178 w _ hq.a12) rfl rfl (Nat.le_of_ble_eq_true rfl) (by decide) (by decide) (fun v54 h54 => ?_)
  have hfin := clr_rep v54 h54
  exact V.vret 57 dX5_clear_57 (hfin)
