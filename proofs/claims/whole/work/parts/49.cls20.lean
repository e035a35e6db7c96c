/-! ===== part 49: times by draws ===== -/
theorem tm_w {f : Nat → Int32} {n a a1 a2 a3 a4 a5 j i l e : Nat} (e1 : a1 = sdN a) (e2 : a2 = sdN a1) (e3 : a3 = sdN a2) (e4 : a4 = sdN a3) (e5 : a5 = sdN a4) (ej : j = drN a n) (ei : i = drN a1 n) (el : l = drN a2 2001) (ee : e = drN a3 41) : tmW f n a = if j = i then upd f 191 (nI a5) else upd (upd (upd f 191 (nI a5)) (107 + 8 * j + i) (nI l - nI 1000)) (43 + 8 * j + i) (nI e - nI 20) := by
  unfold tmW sd5
  rw [ej, ei, el, ee, e5, e4, e3, e2, e1]
theorem sd_5 {a a1 a2 a3 a4 a5 : Nat} (e1 : a1 = sdN a) (e2 : a2 = sdN a1) (e3 : a3 = sdN a2) (e4 : a4 = sdN a3) (e5 : a5 = sdN a4) : sd5 a = a5 := by
  unfold sd5
  rw [e5, e4, e3, e2, e1]
theorem tm_0 {f σ : Nat → Int32} {n fs ma a a1 a2 a3 a4 t : Nat} (e1 : a1 = sdN a) (e2 : a2 = sdN a1) (e3 : a3 = sdN a2) (e4 : a4 = sdN a3) (et : t = drN a4 3) (hs : tmW f n a = σ) (h : t = 0) : tmF f n fs ma a = rnW σ 0 n n (rdF σ n fs) := by
  rw [et, e4, e3, e2, e1] at h
  unfold tmF
  rw [if_pos h, hs]
theorem tm_1 {f σ : Nat → Int32} {n fs ma a a1 a2 a3 a4 t : Nat} (e1 : a1 = sdN a) (e2 : a2 = sdN a1) (e3 : a3 = sdN a2) (e4 : a4 = sdN a3) (et : t = drN a4 3) (hs : tmW f n a = σ) (h : t ≠ 0) : tmF f n fs ma a = tkF σ n ma := by
  rw [et, e4, e3, e2, e1] at h
  unfold tmF
  rw [if_neg h, hs]
theorem Mr.row {u b : Vm2} {σ : Nat → Int32} {n f ma K nx s wr a B : Nat} (h : Mr u (upR b 179 σ) n f ma K nx s wr a B) : RepS u 1 σ n ma ∧ Wf σ n f ma ∧ Bn σ n B := by
  have h1 := h.1
  rw [upR_self] at h1
  exact h1
theorem Mr.to {u x b : Vm2} {σ τ : Nat → Int32} {n f ma K nx s wr a B E : Nat} (h : Mr u (upR b 179 σ) n f ma K nx s wr a B) (hB : B ≤ E) (hu : FrQ x u 1) (hs : ∀ k, 191 ≤ k → k < 3648 → τ k = σ k) (hR : RepS x 1 τ n ma) (hW : Wf τ n f ma) (hb : Bn τ n E) : Mr x (upR b 179 τ) n f ma K nx s wr a E := by
  have h1 := h.set hB hu (σ := τ) (fun k h1 h2 => by rw [upR_self]; exact hs k h1 h2) hR hW hb
  rw [upR_upR] at h1
  exact h1
theorem wi_sb {l m y : Nat} (hl : l < m) (hm : m + y ≤ 9999) : Wi 9999 (nI l - nI y) := by
  have e : (nI l - nI y).toInt = (nI l).toInt - (nI y).toInt := Jvm.Kit.i32_sub (by rw [nI_toInt (by omega), nI_toInt (by omega)]; omega) (by rw [nI_toInt (by omega), nI_toInt (by omega)]; omega)
  rw [nI_toInt (by omega), nI_toInt (by omega)] at e
  unfold Wi
  omega
theorem Mr.drs {u v b : Vm2} {n f ma K nx s wr a B a5 : Nat} (h : Mr v b n f ma K nx s wr a B) (hu : ∀ k, k ≠ 158 → u k = v k) (hs : u 158 0 = nI a5) (h5 : a5 < 2 ^ 31) : Mr u (upR b 179 (upd (b 179) 191 (nI a5))) n f ma K nx s wr a5 B :=
  h.see (fun k h1 _ => hu k h1) (fun k _ h2 => upR_ne _ _ h2) (fun i hi => by rw [upR_self, upd_ne _ _ hi]) ⟨hs, by rw [upR_self, upd_self], h5⟩
theorem Mr.dre {u b : Vm2} {σ : Nat → Int32} {n f ma K nx s wr a B j i : Nat} {x y : Int32} (h : Mr u (upR b 179 σ) n f ma K nx s wr a B) (hj : j < 8) (hi : i < 8) (hx : Wi 9999 x) (hy : Wi 9999 y) : Mr (up2 (up2 u (1 + 4) (j * 8 + i) x) (1 + 5) (j * 8 + i) y) (upR b 179 (upd (upd σ (107 + 8 * j + i) x) (43 + 8 * j + i) y)) n f ma K nx s wr a B := by
  have h1 := (h.lie (d := j * 8 + i) (by omega) hx).err (d := j * 8 + i) (by omega) hy
  rw [up2_upR, up2_upR, show 107 + (j * 8 + i) = 107 + 8 * j + i by omega, show 43 + (j * 8 + i) = 43 + 8 * j + i by omega] at h1
  exact h1

set_option maxHeartbeats 1000000 in
set_option maxRecDepth 100000 in
theorem c_X7_driftOnce (w : Wd) (v : Vm2) {b : Vm2} {n f ma K nx s wr a0 B : Nat} (hM : Mr v b n f ma K nx s wr a0 B) (hB : B ≤ 200000000) (h0 : 0 < n) : CU w yX7_driftOnce cX7_driftOnce 6 (rm 4 88) [.ref (wN w + 0)] v (fun v' => Mr v' (upR b 179 (tmF (b 179) n f ma a0)) n f ma K nx s wr (sd5 a0) (B + 9999) ∧ Rq v' v) := by
  have hR := hM.1.1
  have hW := hM.1.2.1
  have hBn := hM.1.2.2
  have hn := hW.2.1
  have hf3 := hW.2.2.2.1
  have hma := hW.2.2.2.2.2.2.1
  have hnx := hM.2.1.2.1
  have hK := hM.2.1.2.2.2.1
  refine CU.of (by decide) (Nat.le_of_ble_eq_true rfl) ?_
  refine J.aload_n 0 dX7_driftOnce_0 rfl rfl ?_
  refine V.getR 1 dX7_driftOnce_1 fl_RX7_50 r_0_6 ?_
  refine J.aload_n 4 dX7_driftOnce_4 rfl rfl ?_
  refine V.getR 5 dX7_driftOnce_5 fl_RX7_10 r_0_0 ?_
  refine V.getI 8 dX7_driftOnce_8 fl_RX7_94 isS_1.i0 ?_
  refine J.top (b := nI n) (hR.1.1.trans hW.1) ?_
  refine V.callv 11 dX7_driftOnce_11 ml_RX7_245 mi_yX2_next mv_yX2_next (c_X2_next w _ hM.2.2.2.2.2.1.1 hM.2.2.2.2.2.1.2.2 h0 (by omega)) rfl rfl (Nat.le_of_ble_eq_true rfl) (by decide) (by decide) o_158 rfl rfl (fun r11 v11 h11 => ?_)
  obtain ⟨j, ej⟩ : ∃ x, x = drN a0 n := ⟨_, rfl⟩
  obtain ⟨a1, ea1⟩ : ∃ x, x = sdN a0 := ⟨_, rfl⟩
  rw [← ej, ← ea1] at h11
  obtain ⟨rfl, h11⟩ := h11
  have la1 : a1 < 2 ^ 31 := by rw [ea1]; exact sdN_lt _
  have gj : j < n := by rw [ej]; exact drN_lt (by omega)
  have f11 : ∀ k, k ≠ 158 → v11 k = v k := fun k hk => by rw [h11, up2_ne _ _ _ hk]
  refine J.istore_n 14 dX7_driftOnce_14 rfl (by decide) ?_
  refine J.aload_n 15 dX7_driftOnce_15 rfl rfl ?_
  refine V.getR 16 dX7_driftOnce_16 fl_RX7_50 r_0_6 ?_
  refine J.aload_n 19 dX7_driftOnce_19 rfl rfl ?_
  refine V.getR 20 dX7_driftOnce_20 fl_RX7_10 r_0_0 ?_
  refine V.getI 23 dX7_driftOnce_23 fl_RX7_94 isS_1.i0 ?_
  refine J.top (b := nI n) (by rw [f11 1 (by decide)]; exact hR.1.1.trans hW.1) ?_
  refine V.callv 26 dX7_driftOnce_26 ml_RX7_245 mi_yX2_next mv_yX2_next (c_X2_next w _ (show v11 158 0 = nI a1 by rw [h11]; exact up2_self _ _ _ _) la1 h0 (by omega)) rfl rfl (Nat.le_of_ble_eq_true rfl) (by decide) (by decide) o_158 rfl rfl (fun r26 v26 h26 => ?_)
  obtain ⟨i, ei⟩ : ∃ x, x = drN a1 n := ⟨_, rfl⟩
  obtain ⟨a2, ea2⟩ : ∃ x, x = sdN a1 := ⟨_, rfl⟩
  rw [← ei, ← ea2] at h26
  obtain ⟨rfl, h26⟩ := h26
  have la2 : a2 < 2 ^ 31 := by rw [ea2]; exact sdN_lt _
  have gi : i < n := by rw [ei]; exact drN_lt (by omega)
  have f26 : ∀ k, k ≠ 158 → v26 k = v k := fun k hk => by rw [h26, up2_ne _ _ _ hk]; exact f11 k hk
  refine J.istore_n 29 dX7_driftOnce_29 rfl (by decide) ?_
  refine J.aload_n 30 dX7_driftOnce_30 rfl rfl ?_
  refine V.getR 31 dX7_driftOnce_31 fl_RX7_50 r_0_6 ?_
  refine J.sipush 34 (nI 2001) dX7_driftOnce_34 (by decide +kernel) ?_
  refine V.callv 37 dX7_driftOnce_37 ml_RX7_245 mi_yX2_next mv_yX2_next (c_X2_next w _ (show v26 158 0 = nI a2 by rw [h26]; exact up2_self _ _ _ _) la2 (by decide) (by decide)) rfl rfl (Nat.le_of_ble_eq_true rfl) (by decide) (by decide) o_158 rfl rfl (fun r37 v37 h37 => ?_)
  obtain ⟨l, el⟩ : ∃ x, x = drN a2 2001 := ⟨_, rfl⟩
  obtain ⟨a3, ea3⟩ : ∃ x, x = sdN a2 := ⟨_, rfl⟩
  rw [← el, ← ea3] at h37
  obtain ⟨rfl, h37⟩ := h37
  have la3 : a3 < 2 ^ 31 := by rw [ea3]; exact sdN_lt _
  have gl : l < 2001 := by rw [el]; exact drN_lt (by omega)
  have f37 : ∀ k, k ≠ 158 → v37 k = v k := fun k hk => by rw [h37, up2_ne _ _ _ hk]; exact f26 k hk
  refine J.sipush 40 (nI 1000) dX7_driftOnce_40 (by decide +kernel) ?_
  refine J.isub 43 dX7_driftOnce_43 ?_
  refine J.istore_n 44 dX7_driftOnce_44 rfl (by decide) ?_
  refine J.aload_n 45 dX7_driftOnce_45 rfl rfl ?_
  refine V.getR 46 dX7_driftOnce_46 fl_RX7_50 r_0_6 ?_
  refine J.bipush 49 (nI 41) dX7_driftOnce_49 (by decide +kernel) ?_
  refine V.callv 51 dX7_driftOnce_51 ml_RX7_245 mi_yX2_next mv_yX2_next (c_X2_next w _ (show v37 158 0 = nI a3 by rw [h37]; exact up2_self _ _ _ _) la3 (by decide) (by decide)) rfl rfl (Nat.le_of_ble_eq_true rfl) (by decide) (by decide) o_158 rfl rfl (fun r51 v51 h51 => ?_)
  obtain ⟨e, ee⟩ : ∃ x, x = drN a3 41 := ⟨_, rfl⟩
  obtain ⟨a4, ea4⟩ : ∃ x, x = sdN a3 := ⟨_, rfl⟩
  rw [← ee, ← ea4] at h51
  obtain ⟨rfl, h51⟩ := h51
  have la4 : a4 < 2 ^ 31 := by rw [ea4]; exact sdN_lt _
  have ge : e < 41 := by rw [ee]; exact drN_lt (by omega)
  have f51 : ∀ k, k ≠ 158 → v51 k = v k := fun k hk => by rw [h51, up2_ne _ _ _ hk]; exact f37 k hk
  refine J.bipush 54 (nI 20) dX7_driftOnce_54 (by decide +kernel) ?_
  refine J.isub 56 dX7_driftOnce_56 ?_
  refine J.istore 57 dX7_driftOnce_57 (by decide) ?_
  refine J.aload_n 59 dX7_driftOnce_59 rfl rfl ?_
  refine V.getR 60 dX7_driftOnce_60 fl_RX7_50 r_0_6 ?_
  refine J.iconst 63 (nI 3) dX7_driftOnce_63 (by decide +kernel) ?_
  refine V.callv 64 dX7_driftOnce_64 ml_RX7_245 mi_yX2_next mv_yX2_next (c_X2_next w _ (show v51 158 0 = nI a4 by rw [h51]; exact up2_self _ _ _ _) la4 (by decide) (by decide)) rfl rfl (Nat.le_of_ble_eq_true rfl) (by decide) (by decide) o_158 rfl rfl (fun r64 v64 h64 => ?_)
  obtain ⟨t, et⟩ : ∃ x, x = drN a4 3 := ⟨_, rfl⟩
  obtain ⟨a5, ea5⟩ : ∃ x, x = sdN a4 := ⟨_, rfl⟩
  rw [← et, ← ea5] at h64
  obtain ⟨rfl, h64⟩ := h64
  have la5 : a5 < 2 ^ 31 := by rw [ea5]; exact sdN_lt _
  have gt : t < 3 := by rw [et]; exact drN_lt (by omega)
  have f64 : ∀ k, k ≠ 158 → v64 k = v k := fun k hk => by rw [h64, up2_ne _ _ _ hk]; exact f51 k hk
  refine J.istore 67 dX7_driftOnce_67 (by decide) ?_
  refine J.aload_n 69 dX7_driftOnce_69 rfl rfl ?_
  refine V.getR 70 dX7_driftOnce_70 fl_RX7_10 r_0_0 ?_
  refine J.iload_n 73 dX7_driftOnce_73 rfl rfl ?_
  refine J.iload_n 74 dX7_driftOnce_74 rfl rfl ?_
  have hM5 := hM.drs f64 (show v64 158 0 = nI a5 by rw [h64]; exact up2_self _ _ _ _) la5
  have hW9 := tm_w (f := b 179) ea1 ea2 ea3 ea4 ea5 ej ei el ee
  refine V.callvP 75 dX7_driftOnce_75 ml_RX7_173 mi_yX5_hasBoth mv_yX5_hasBoth (c_X5_hasBoth w _ isS_1 (show v64 1 0 = nI n by rw [f64 1 (by decide)]; exact hR.1.1.trans hW.1) (by omega)) rfl rfl (Nat.le_of_ble_eq_true rfl) (by decide) (by decide) isS_1.o rfl rfl ?_
  refine V.if_eqB 78 110 dX7_driftOnce_78 (by decide) (fun c78 => ?_) (fun c78 => ?_)
  · have hji : j = i := Decidable.byContradiction (fun z => c78 ⟨(clkB_nI (by omega)).mpr ⟨j, gj, rfl⟩, (clkB_nI (by omega)).mpr ⟨i, gi, rfl⟩, fun y => z ((nI_eq (by omega) (by omega)).mp y)⟩)
    rw [if_pos hji] at hW9
    have hM9 := hM5
    have hq9 : Rq v64 v := fun k hk => f64 k (by omega)
    refine J.iload 110 dX7_driftOnce_110 rfl ?_
    refine V.if_ne 112 129 dX7_driftOnce_112 (by decide) (by omega) (fun c112 => ?_) (fun c112 => ?_)
    · obtain ⟨hR9, hWf9, hB9⟩ := hM9.row
      refine J.aload_n 129 dX7_driftOnce_129 rfl rfl ?_
      refine V.getR 130 dX7_driftOnce_130 fl_RX7_10 r_0_0 ?_
      refine V.callv 133 dX7_driftOnce_133 ml_RX7_209 mi_yX5_goOn mv_yX5_goOn (c_X5_goOn w _ isS_1 hR9 hWf9) rfl rfl (Nat.le_of_ble_eq_true rfl) (by decide) (by decide) isS_1.o rfl rfl (fun r9 v9 h9 => ?_)
      have hT := tm_1 (fs := f) (ma := ma) ea1 ea2 ea3 ea4 et hW9 c112
      have hN := hM9.to (E := B + 9999) (by omega) h9.2.2.q (fun k h1 h2 => tkF_at _ hn (by omega) (by omega) (by omega)) h9.2.1 (Wf_tk hWf9) ((hB9.tk hWf9 (by omega)).mono (by omega))
      have hqq := (h9.2.2.rq (by decide)).trans hq9
      refine J.pop 136 dX7_driftOnce_136 rfl ?_
      exact V.vret 137 dX7_driftOnce_137 (by rw [hT, sd_5 ea1 ea2 ea3 ea4 ea5]; exact ⟨hN, hqq⟩)
    · obtain ⟨hR9, hWf9, hB9⟩ := hM9.row
      refine J.aload_n 115 dX7_driftOnce_115 rfl rfl ?_
      refine V.getR 116 dX7_driftOnce_116 fl_RX7_29 r_0_3 ?_
      refine J.aload_n 119 dX7_driftOnce_119 rfl rfl ?_
      refine V.getR 120 dX7_driftOnce_120 fl_RX7_10 r_0_0 ?_
      refine V.callvU 123 dX7_driftOnce_123 ml_RX7_212 mi_yX1_meet mv_yX1_meet (c_X1_meet w _ isS_1 hR9 hWf9 hB9 (by omega)) rfl rfl (Nat.le_of_ble_eq_true rfl) (by decide) (by decide) o_19 rfl rfl (fun v9 h9 => ?_)
      have hT := tm_0 (fs := f) (ma := ma) ea1 ea2 ea3 ea4 et hW9 c112
      have hN := hM9.to (E := B + 9999) (by omega) h9.2 (fun k h1 h2 => rn_at (by omega)) h9.1 hWf9.rd (hB9.rd hn (by omega))
      have hqq := (h9.2.rq (by decide)).trans hq9
      refine J.goto 126 137 dX7_driftOnce_126 (by decide) ?_
      exact V.vret 137 dX7_driftOnce_137 (by rw [hT, sd_5 ea1 ea2 ea3 ea4 ea5]; exact ⟨hN, hqq⟩)
  · have hji : ¬ j = i := fun z => c78.2.2 (by rw [z])
    rw [if_neg hji] at hW9
    refine J.aload_n 81 dX7_driftOnce_81 rfl rfl ?_
    refine V.getR 82 dX7_driftOnce_82 fl_RX7_10 r_0_0 ?_
    refine V.getR 85 dX7_driftOnce_85 fl_RX7_187 isS_1.r11 ?_
    refine J.iload_n 88 dX7_driftOnce_88 rfl rfl ?_
    refine J.iload_n 89 dX7_driftOnce_89 rfl rfl ?_
    refine V.callsP 90 dX7_driftOnce_90 ml_RX7_184 mi_yX5_way ms_yX5_way (c_X5_way w _) rfl rfl (Nat.le_of_ble_eq_true rfl) (by decide) (by decide) ?_
    refine J.iload_n 93 dX7_driftOnce_93 rfl rfl ?_
    refine V.iast 94 dX7_driftOnce_94 isS_1.a11 (by omega) ?_
    refine J.aload_n 95 dX7_driftOnce_95 rfl rfl ?_
    refine V.getR 96 dX7_driftOnce_96 fl_RX7_10 r_0_0 ?_
    refine V.getR 99 dX7_driftOnce_99 fl_RX7_181 isS_1.r12 ?_
    refine J.iload_n 102 dX7_driftOnce_102 rfl rfl ?_
    refine J.iload_n 103 dX7_driftOnce_103 rfl rfl ?_
    refine V.callsP 104 dX7_driftOnce_104 ml_RX7_184 mi_yX5_way ms_yX5_way (c_X5_way w _) rfl rfl (Nat.le_of_ble_eq_true rfl) (by decide) (by decide) ?_
    refine J.iload 107 dX7_driftOnce_107 rfl ?_
    refine V.iast 109 dX7_driftOnce_109 isS_1.a12 (by omega) ?_
    have hM9 := hM5.dre (j := j) (i := i) (x := nI l - nI 1000) (y := nI e - nI 20) (by omega) (by omega) (wi_sb gl (by omega)) (wi_sb ge (by omega))
    have hq9 : Rq (up2 (up2 v64 (1 + 4) (j * 8 + i) (nI l - nI 1000)) (1 + 5) (j * 8 + i) (nI e - nI 20)) v := Rq.up (Rq.up (fun k hk => f64 k (by omega)) (by decide)) (by decide)
    refine J.iload 110 dX7_driftOnce_110 rfl ?_
    refine V.if_ne 112 129 dX7_driftOnce_112 (by decide) (by omega) (fun c112 => ?_) (fun c112 => ?_)
    · obtain ⟨hR9, hWf9, hB9⟩ := hM9.row
      refine J.aload_n 129 dX7_driftOnce_129 rfl rfl ?_
      refine V.getR 130 dX7_driftOnce_130 fl_RX7_10 r_0_0 ?_
      refine V.callv 133 dX7_driftOnce_133 ml_RX7_209 mi_yX5_goOn mv_yX5_goOn (c_X5_goOn w _ isS_1 hR9 hWf9) rfl rfl (Nat.le_of_ble_eq_true rfl) (by decide) (by decide) isS_1.o rfl rfl (fun r9 v9 h9 => ?_)
      have hT := tm_1 (fs := f) (ma := ma) ea1 ea2 ea3 ea4 et hW9 c112
      have hN := hM9.to (E := B + 9999) (by omega) h9.2.2.q (fun k h1 h2 => tkF_at _ hn (by omega) (by omega) (by omega)) h9.2.1 (Wf_tk hWf9) ((hB9.tk hWf9 (by omega)).mono (by omega))
      have hqq := (h9.2.2.rq (by decide)).trans hq9
      refine J.pop 136 dX7_driftOnce_136 rfl ?_
      exact V.vret 137 dX7_driftOnce_137 (by rw [hT, sd_5 ea1 ea2 ea3 ea4 ea5]; exact ⟨hN, hqq⟩)
    · obtain ⟨hR9, hWf9, hB9⟩ := hM9.row
      refine J.aload_n 115 dX7_driftOnce_115 rfl rfl ?_
      refine V.getR 116 dX7_driftOnce_116 fl_RX7_29 r_0_3 ?_
      refine J.aload_n 119 dX7_driftOnce_119 rfl rfl ?_
      refine V.getR 120 dX7_driftOnce_120 fl_RX7_10 r_0_0 ?_
      refine V.callvU 123 dX7_driftOnce_123 ml_RX7_212 mi_yX1_meet mv_yX1_meet (c_X1_meet w _ isS_1 hR9 hWf9 hB9 (by omega)) rfl rfl (Nat.le_of_ble_eq_true rfl) (by decide) (by decide) o_19 rfl rfl (fun v9 h9 => ?_)
      have hT := tm_0 (fs := f) (ma := ma) ea1 ea2 ea3 ea4 et hW9 c112
      have hN := hM9.to (E := B + 9999) (by omega) h9.2 (fun k h1 h2 => rn_at (by omega)) h9.1 hWf9.rd (hB9.rd hn (by omega))
      have hqq := (h9.2.rq (by decide)).trans hq9
      refine J.goto 126 137 dX7_driftOnce_126 (by decide) ?_
      exact V.vret 137 dX7_driftOnce_137 (by rw [hT, sd_5 ea1 ea2 ea3 ea4 ea5]; exact ⟨hN, hqq⟩)
set_option maxHeartbeats 1000000 in
set_option maxRecDepth 100000 in
theorem q_driftN (w : Wd) (v : Vm2) {b : Vm2} {n f ma K nx s wr a0 B : Nat} (hM : Mr v b n f ma K nx s wr a0 B) (hB : B ≤ 100000000) {t : Nat} (h0 : 0 < n) (ht : t ≤ 16) (hin : inF (nI t) (nI 1) (nI 16)) : CI w yX7_drift cX7_drift 3 (some .int) (rm 5 113) [.ref (wN w + 0), .int (nI t)] v (fun r v' => r = (F_drift b n f ma K a0 (nI t)).1 ∧ MR v' (F_drift b n f ma K a0 (nI t)).2 (B + 160000) ∧ Rq v' v) := by
  have hR := hM.1.1
  have hW := hM.1.2.1
  have hBn := hM.1.2.2
  have hn := hW.2.1
  have hf3 := hW.2.2.2.1
  have hma := hW.2.2.2.2.2.2.1
  have hnx := hM.2.1.2.1
  have hK := hM.2.1.2.2.2.1
  refine CI.of (by decide) (Nat.le_of_ble_eq_true rfl) ?_
  have lp : ∀ (m : Nat) (k K9 a9 nx9 : Nat) (u b9 : Vm2), (k ≤ t) → (Mr u b9 n f ma K9 nx9 s wr a9 (B + 9999 * k)) → (Rq u v) → (drV n f ma (t - k) b9 K9 a9 = drV n f ma t b K a0) → t - k < m → J w yX7_drift cX7_drift 3 (some .int) (rm 5 113) XT (ZJ w 185 0 0 (PI w (fun r v' => r = (F_drift b n f ma K a0 (nI t)).1 ∧ MR v' (F_drift b n f ma K a0 (nI t)).2 (B + 160000) ∧ Rq v' v))) 25 [(0, .ref (wN w + 0)), (1, .int (nI t)), (2, .int (nI k))] [] 185 (hv w (u)) 0 0 := by
    intro m
    induction m with
    | zero =>
      intro k K9 a9 nx9 u b9 hi0 hi1 hi2 hi3 hm
      exact absurd hm (by omega)
    | succ m ih =>
      intro k K9 a9 nx9 u b9 hi0 hi1 hi2 hi3 hm
      have hnx9 := hi1.2.1.2.1
      refine J.iload_n 25 dX7_drift_25 rfl rfl ?_
      refine J.iload_n 26 dX7_drift_26 rfl rfl ?_
      refine V.icmp_ge 27 51 dX7_drift_27 (by decide) (by omega) (by omega) (fun c27 => ?_) (fun c27 => ?_)
      · refine J.aload_n 51 dX7_drift_51 rfl rfl ?_
        refine V.getR 52 dX7_drift_52 fl_RX7_10 r_0_0 ?_
        refine V.callvP 55 dX7_drift_55 ml_RX7_116 mi_yX5_apart mv_yX5_apart (c_X5_apart w _ isS_1 hi1.1.1 hi1.1.2.1) rfl rfl (Nat.le_of_ble_eq_true rfl) (by decide) (by decide) isS_1.o rfl rfl ?_
        rw [show t - k = 0 by omega, drV_0] at hi3
        exact V.iret 58 dX7_drift_58 (by unfold F_drift; rw [if_neg (fun z => z hin), if_neg (by omega), show ix (nI t) = t from nI_clamp (by omega), ← hi3]; exact ⟨rfl, hi1.x (by omega), hi2⟩)
      · refine J.aload_n 30 dX7_drift_30 rfl rfl ?_
        refine V.getR 31 dX7_drift_31 fl_RX7_36 r_0_4 ?_
        refine J.aload_n 34 dX7_drift_34 rfl rfl ?_
        refine V.getR 35 dX7_drift_35 fl_RX7_10 r_0_0 ?_
        refine V.callvU 38 dX7_drift_38 ml_RX7_206 mi_yX4_remember mv_yX4_remember (c_X4_remember w _ hi1.2.1.1 hi1.2.1.2.1 hi1.2.1.2.2.1 hi1.2.1.2.2.2.1 isS_1 (by decide)) rfl rfl (Nat.le_of_ble_eq_true rfl) (by decide) (by decide) o_25 rfl rfl (fun v38 h38 => ?_)
        obtain ⟨u9, hu9, hv9⟩ := h38
        have hM1 : Mr v38 (rmF b9 K9) n f ma (nK K9) ((nx9 + 1) % 16) s wr a9 (B + 9999 * k) := by rw [hv9]; exact hi1.rem hu9
        have hq1 : Rq v38 u := by rw [hv9]; exact ((hu9.rq (by omega)).up (by omega)).up (by omega)
        refine J.aload_n 41 dX7_drift_41 rfl rfl ?_
        refine V.callvU 42 dX7_drift_42 ml_RX7_233 mi_yX7_driftOnce mv_yX7_driftOnce (c_X7_driftOnce w _ hM1 (by omega) h0) rfl rfl (Nat.le_of_ble_eq_true rfl) (by decide) (by decide) o_0 rfl rfl (fun v42 h42 => ?_)
        refine V.iinc 45 dX7_drift_45 rfl (by decide) ?_
        refine J.goto 48 25 dX7_drift_48 (by decide) ?_
        refine ih (k + 1) (nK K9) (sd5 a9) ((nx9 + 1) % 16) v42 (dr1 b9 n f ma K9 a9) (by omega) (h42.1.mono (by omega)) (h42.2.trans (hq1.trans hi2)) ?_ (by omega)
        rw [← hi3]
        obtain ⟨q, hq⟩ : ∃ q, t - k = q + 1 := ⟨t - k - 1, by omega⟩
        rw [hq, show t - (k + 1) = q by omega, drV_s]
  refine J.iload_n 0 dX7_drift_0 rfl rfl ?_
  refine J.iconst 1 (nI 1) dX7_drift_1 (by decide +kernel) ?_
  refine J.bipush 2 (nI 16) dX7_drift_2 (by decide +kernel) ?_
  refine V.callsP 4 dX7_drift_4 ml_RX7_66 mi_yX7_between ms_yX7_between (c_X7_between w _) rfl rfl (Nat.le_of_ble_eq_true rfl) (by decide) (by decide) ?_
  refine V.if_neB 7 13 dX7_drift_7 (by decide) (fun c7 => ?_) (fun c7 => absurd hin c7)
  refine J.aload_n 13 dX7_drift_13 rfl rfl ?_
  refine V.getR 14 dX7_drift_14 fl_RX7_10 r_0_0 ?_
  refine V.getI 17 dX7_drift_17 fl_RX7_94 isS_1.i0 ?_
  refine J.top (b := nI n) (hR.1.1.trans hW.1) ?_
  refine V.if_le 20 51 dX7_drift_20 (by decide) (by omega) (fun c20 => absurd c20 (by omega)) (fun c20 => ?_)
  refine J.iconst 23 (nI 0) dX7_drift_23 (by decide +kernel) ?_
  refine J.istore_n 24 dX7_drift_24 rfl (by decide) ?_
  exact lp (t + 1) 0 K a0 nx v b (by omega) hM (Rq.rf v) (by rw [Nat.sub_zero]) (by omega)
set_option maxHeartbeats 1000000 in
set_option maxRecDepth 100000 in
theorem q_drift0 (w : Wd) (v : Vm2) {b : Vm2} {n f ma K nx s wr a0 B : Nat} (hM : Mr v b n f ma K nx s wr a0 B) (hB : B ≤ 100000000) {t : Nat} (h0 : n = 0) (ht : t ≤ 16) (hin : inF (nI t) (nI 1) (nI 16)) : CI w yX7_drift cX7_drift 3 (some .int) (rm 5 113) [.ref (wN w + 0), .int (nI t)] v (fun r v' => r = (F_drift b n f ma K a0 (nI t)).1 ∧ MR v' (F_drift b n f ma K a0 (nI t)).2 (B + 160000) ∧ Rq v' v) := by
  have hR := hM.1.1
  have hW := hM.1.2.1
  have hBn := hM.1.2.2
  have hn := hW.2.1
  have hf3 := hW.2.2.2.1
  have hma := hW.2.2.2.2.2.2.1
  have hnx := hM.2.1.2.1
  have hK := hM.2.1.2.2.2.1
  refine CI.of (by decide) (Nat.le_of_ble_eq_true rfl) ?_
  refine J.iload_n 0 dX7_drift_0 rfl rfl ?_
  refine J.iconst 1 (nI 1) dX7_drift_1 (by decide +kernel) ?_
  refine J.bipush 2 (nI 16) dX7_drift_2 (by decide +kernel) ?_
  refine V.callsP 4 dX7_drift_4 ml_RX7_66 mi_yX7_between ms_yX7_between (c_X7_between w _) rfl rfl (Nat.le_of_ble_eq_true rfl) (by decide) (by decide) ?_
  refine V.if_neB 7 13 dX7_drift_7 (by decide) (fun c7 => ?_) (fun c7 => absurd hin c7)
  refine J.aload_n 13 dX7_drift_13 rfl rfl ?_
  refine V.getR 14 dX7_drift_14 fl_RX7_10 r_0_0 ?_
  refine V.getI 17 dX7_drift_17 fl_RX7_94 isS_1.i0 ?_
  refine J.top (b := nI n) (hR.1.1.trans hW.1) ?_
  refine V.if_le 20 51 dX7_drift_20 (by decide) (by omega) (fun c20 => ?_) (fun c20 => absurd c20 (by omega))
  refine J.aload_n 51 dX7_drift_51 rfl rfl ?_
  refine V.getR 52 dX7_drift_52 fl_RX7_10 r_0_0 ?_
  refine V.callvP 55 dX7_drift_55 ml_RX7_116 mi_yX5_apart mv_yX5_apart (c_X5_apart w _ isS_1 hR hW) rfl rfl (Nat.le_of_ble_eq_true rfl) (by decide) (by decide) isS_1.o rfl rfl ?_
  exact V.iret 58 dX7_drift_58 (by unfold F_drift; rw [if_neg (fun z => z hin), if_pos h0]; exact ⟨rfl, hM.x (by omega), Rq.rf v⟩)
set_option maxHeartbeats 1000000 in
set_option maxRecDepth 100000 in
theorem q_driftO (w : Wd) (v : Vm2) {b : Vm2} {n f ma K nx s wr a0 B : Nat} (hM : Mr v b n f ma K nx s wr a0 B) (hB : B ≤ 100000000) {x : Int32} (hx : ¬ inF x (nI 1) (nI 16)) : CI w yX7_drift cX7_drift 3 (some .int) (rm 5 113) [.ref (wN w + 0), .int x] v (fun r v' => r = (F_drift b n f ma K a0 x).1 ∧ MR v' (F_drift b n f ma K a0 x).2 (B + 160000) ∧ Rq v' v) := by
  have hR := hM.1.1
  have hW := hM.1.2.1
  have hBn := hM.1.2.2
  have hn := hW.2.1
  have hf3 := hW.2.2.2.1
  have hma := hW.2.2.2.2.2.2.1
  have hnx := hM.2.1.2.1
  have hK := hM.2.1.2.2.2.1
  refine CI.of (by decide) (Nat.le_of_ble_eq_true rfl) ?_
  refine J.iload_n 0 dX7_drift_0 rfl rfl ?_
  refine J.iconst 1 (nI 1) dX7_drift_1 (by decide +kernel) ?_
  refine J.bipush 2 (nI 16) dX7_drift_2 (by decide +kernel) ?_
  refine V.callsP 4 dX7_drift_4 ml_RX7_66 mi_yX7_between ms_yX7_between (c_X7_between w _) rfl rfl (Nat.le_of_ble_eq_true rfl) (by decide) (by decide) ?_
  refine V.if_neB 7 13 dX7_drift_7 (by decide) (fun c7 => absurd c7 hx) (fun c7 => ?_)
  refine J.ldc 10 (-1000000002) dX7_drift_10 kc_RX7_70 ?_
  exact V.iret 12 dX7_drift_12 (by unfold F_drift; rw [if_pos hx]; exact ⟨rfl, hM.x (by omega), Rq.rf v⟩)
