/-! ===== part 17: the reference: draws ===== -/
def sdN (a : Nat) : Nat := (a * 1103515245 + 12345) % 2147483648
theorem sdN_lt (a : Nat) : sdN a < 2 ^ 31 := Nat.mod_lt _ (by decide)
theorem sdF_N {a : Nat} (h : a < 2 ^ 31) : sdF (nI a) = nI (sdN a) := by
  unfold sdF sdN
  rw [nI_l h]
  have e1 : (1103515245 : Int64) = lN 1103515245 := by decide +kernel
  have e2 : (12345 : Int64) = lN 12345 := by decide +kernel
  have e3 : (2147483648 : Int64) = lN 2147483648 := by decide +kernel
  rw [e1, e2, e3, lN_mul, lN_add, pk_lRem (by omega) (by decide) (by decide), lN_i]
def drN (a n : Nat) : Nat := sdN a / 65536 % n
theorem drF_N {a n : Nat} (h : a < 2 ^ 31) (h0 : 0 < n) (hn : n < 2 ^ 31) : drF (nI a) (nI n) = nI (drN a n) := by
  unfold drF drN
  have hs := sdN_lt a
  rw [sdF_N h, pk_div hs (by decide) (by decide), pk_rem (by omega) h0 hn]
theorem drN_lt {a n : Nat} (h : 0 < n) : drN a n < n := Nat.mod_lt _ h
theorem nI_n0 {n : Nat} (h0 : 0 < n) (h : n < 2 ^ 31) : ¬ nI n = 0 := nI_ne0 h0 h
theorem k_draw (w : Wd) (v : Vm2) {n a : Nat} (hs : v 179 191 = nI a) (ha : a < 2 ^ 31) (h0 : 0 < n) (hn : n < 2 ^ 31) : CI w yX8_draw cX8_draw 4 (some .int) (rm 0 0) [.ref (wN w + 178), .int (nI n)] v (fun r v' => r = nI (drN a n) ∧ v' = up2 v 179 191 (nI (sdN a))) := by
  have h := c_X8_draw w v (n := nI n) (nI_ne0 h0 hn)
  rw [hs, drF_N ha h0 hn, sdF_N ha] at h
  exact h
def EqS (u v : Vm2) : Prop := ∀ a, a ≠ 183 → a ≠ 184 → u a = v a
def sd5 (a : Nat) : Nat := sdN (sdN (sdN (sdN (sdN a))))
def tmW (f : Nat → Int32) (n a : Nat) : Nat → Int32 := if drN a n = drN (sdN a) n then upd f 191 (nI (sd5 a)) else upd (upd (upd f 191 (nI (sd5 a))) (107 + 8 * drN a n + drN (sdN a) n) (nI (drN (sdN (sdN a)) 2001) - nI 1000)) (43 + 8 * drN a n + drN (sdN a) n) (nI (drN (sdN (sdN (sdN a))) 41) - nI 20)
def tmF (f : Nat → Int32) (n fs ma a : Nat) : Nat → Int32 := if drN (sdN (sdN (sdN (sdN a)))) 3 = 0 then rnW (tmW f n a) 0 n n (rdF (tmW f n a) n fs) else tkF (tmW f n a) n ma
theorem tmW_at (f : Nat → Int32) {n a k : Nat} (h0 : 0 < n) (hn : n ≤ 8) (hk : k < 43 ∨ (171 ≤ k ∧ k ≠ 191)) : tmW f n a k = f k := by
  have h1 := drN_lt (a := a) h0
  have h2 := drN_lt (a := sdN a) h0
  unfold tmW
  split
  · rw [upd_ne _ _ (by omega)]
  · rw [upd_ne _ _ (by omega), upd_ne _ _ (by omega), upd_ne _ _ (by omega)]

theorem upR_upR_ne {v : Vm2} {f o g r : Nat → Int32} {b : Nat} (h1 : b ≠ 183) (h2 : b ≠ 184) : upR (upR (upR (upR v 179 f) 183 o) 184 g) 179 r b = upR v 179 r b := by
  by_cases h : b = 179
  · subst h
    rw [upR_self, upR_self]
  · rw [upR_ne _ _ h, upR_ne _ _ h2, upR_ne _ _ h1, upR_ne _ _ h, upR_ne _ _ h]
set_option maxHeartbeats 4000000 in
set_option maxRecDepth 100000 in
theorem c_X8_time (w : Wd) (v : Vm2) {n f ma a : Nat} (hn0 : v 179 0 = nI n) (hf : v 179 1 = nI f) (h0 : 0 < n) (hn : n ≤ 8) (hf3 : f < 8) (hm0 : v 179 171 = nI ma) (hma : ma ≤ 6) (hal : ∀ b, b < ma → ∃ cl, cl < 8 ∧ v 179 (172 + b) = nI cl) (hs0 : v 179 191 = nI a) (ha0 : a < 2 ^ 31) : CU w yX8_time cX8_time 6 (rm 4 91) [.ref (wN w + 178)] v (fun v' => EqS v' (upR v 179 (tmF (v 179) n f ma a))) := by
  have j1 := drN_lt (a := a) h0
  have j2 := drN_lt (a := sdN a) h0
  have j3 := drN_lt (a := sdN (sdN (sdN (sdN a)))) (by decide : 0 < 3)
  refine CU.of (by decide) (Nat.le_of_ble_eq_true rfl) ?_
  refine J.aload_n 0 dX8_time_0 rfl rfl ?_
  refine J.aload_n 1 dX8_time_1 rfl rfl ?_
  refine V.getR 2 dX8_time_2 fl_RX8_7 r_178_0 ?_
  refine J.iconst 5 (nI 0) dX8_time_5 (by decide +kernel) ?_
  refine V.iald 6 dX8_time_6 a_179 (by omega) ?_
  refine J.top hn0 ?_
  refine V.callv 7 dX8_time_7 ml_RX8_187 mi_yX8_draw mv_yX8_draw (k_draw w _ hs0 ha0 (by first | exact h0 | decide) (by first | omega | decide)) rfl rfl (Nat.le_of_ble_eq_true rfl) (by decide) (by decide) o_178 rfl rfl (fun r7 v7 h7 => ?_)
  obtain ⟨rfl, rfl⟩ := h7
  refine V.heapv (upR_upd _ _ _ _).symm ?_
  refine J.istore_n 10 dX8_time_10 rfl (by decide) ?_
  refine J.aload_n 11 dX8_time_11 rfl rfl ?_
  refine J.aload_n 12 dX8_time_12 rfl rfl ?_
  refine V.getR 13 dX8_time_13 fl_RX8_7 r_178_0 ?_
  refine J.iconst 16 (nI 0) dX8_time_16 (by decide +kernel) ?_
  refine V.iald 17 dX8_time_17 a_179 (by omega) ?_
  refine J.top (b := nI n) (by rw [upR_self, upd_ne _ _ (by decide)]; exact hn0) ?_
  refine V.callv 18 dX8_time_18 ml_RX8_187 mi_yX8_draw mv_yX8_draw (k_draw w _ (by rw [upR_self, upd_self]) (sdN_lt _) (by first | exact h0 | decide) (by first | omega | decide)) rfl rfl (Nat.le_of_ble_eq_true rfl) (by decide) (by decide) o_178 rfl rfl (fun r18 v18 h18 => ?_)
  obtain ⟨rfl, rfl⟩ := h18
  refine V.heapv (up2_upR _ _ _ _ _) ?_
  rw [upd_upd]
  refine J.istore_n 21 dX8_time_21 rfl (by decide) ?_
  refine J.aload_n 22 dX8_time_22 rfl rfl ?_
  refine J.sipush 23 (nI 2001) dX8_time_23 (by decide +kernel) ?_
  refine V.callv 26 dX8_time_26 ml_RX8_187 mi_yX8_draw mv_yX8_draw (k_draw w _ (by rw [upR_self, upd_self]) (sdN_lt _) (by first | exact h0 | decide) (by first | omega | decide)) rfl rfl (Nat.le_of_ble_eq_true rfl) (by decide) (by decide) o_178 rfl rfl (fun r26 v26 h26 => ?_)
  obtain ⟨rfl, rfl⟩ := h26
  refine V.heapv (up2_upR _ _ _ _ _) ?_
  rw [upd_upd]
  refine J.sipush 29 (nI 1000) dX8_time_29 (by decide +kernel) ?_
  refine J.isub 32 dX8_time_32 ?_
  refine J.istore_n 33 dX8_time_33 rfl (by decide) ?_
  refine J.aload_n 34 dX8_time_34 rfl rfl ?_
  refine J.bipush 35 (nI 41) dX8_time_35 (by decide +kernel) ?_
  refine V.callv 37 dX8_time_37 ml_RX8_187 mi_yX8_draw mv_yX8_draw (k_draw w _ (by rw [upR_self, upd_self]) (sdN_lt _) (by first | exact h0 | decide) (by first | omega | decide)) rfl rfl (Nat.le_of_ble_eq_true rfl) (by decide) (by decide) o_178 rfl rfl (fun r37 v37 h37 => ?_)
  obtain ⟨rfl, rfl⟩ := h37
  refine V.heapv (up2_upR _ _ _ _ _) ?_
  rw [upd_upd]
  refine J.bipush 40 (nI 20) dX8_time_40 (by decide +kernel) ?_
  refine J.isub 42 dX8_time_42 ?_
  refine J.istore 43 dX8_time_43 (by decide) ?_
  refine J.aload_n 45 dX8_time_45 rfl rfl ?_
  refine J.iconst 46 (nI 3) dX8_time_46 (by decide +kernel) ?_
  refine V.callv 47 dX8_time_47 ml_RX8_187 mi_yX8_draw mv_yX8_draw (k_draw w _ (by rw [upR_self, upd_self]) (sdN_lt _) (by first | exact h0 | decide) (by first | omega | decide)) rfl rfl (Nat.le_of_ble_eq_true rfl) (by decide) (by decide) o_178 rfl rfl (fun r47 v47 h47 => ?_)
  obtain ⟨rfl, rfl⟩ := h47
  refine V.heapv (up2_upR _ _ _ _ _) ?_
  rw [upd_upd]
  refine J.istore 50 dX8_time_50 (by decide) ?_
  refine J.iload_n 52 dX8_time_52 rfl rfl ?_
  refine J.iload_n 53 dX8_time_53 rfl rfl ?_
  refine V.icmp_eq 54 88 dX8_time_54 (by decide) (by omega) (by omega) (fun c54 => ?_) (fun c54 => ?_)
  · have et : tmW (v 179) n a = upd (v 179) 191 (nI (sd5 a)) := by unfold tmW; rw [if_pos c54]
    refine V.heapv (v' := upR v 179 (tmW (v 179) n a)) (by rw [et]; rfl) ?_
    refine J.iload 88 dX8_time_88 rfl ?_
    refine V.if_ne 90 101 dX8_time_90 (by decide) (by omega) (fun c90 => ?_) (fun c90 => ?_)
    · refine J.aload_n 101 dX8_time_101 rfl rfl ?_
      refine V.callvU 102 dX8_time_102 ml_RX8_169 mi_yX8_tickOne mv_yX8_tickOne (c_X8_tickOne w _ (n := n) (ma := ma) (by rw [upR_self, tmW_at _ h0 hn (by omega)]; exact hn0) hn (by rw [upR_self, tmW_at _ h0 hn (by omega)]; exact hm0) hma (fun b hb => by rw [upR_self, tmW_at _ h0 hn (by omega)]; exact hal b hb)) rfl rfl (Nat.le_of_ble_eq_true rfl) (by decide) (by decide) o_178 rfl rfl (fun v102 h102 => ?_)
      subst h102
      rw [upR_self, upR_upR]
      exact V.vret 105 dX8_time_105 (fun b h1 h2 => by unfold tmF; first | (rw [if_pos c90, upR_upR_ne h1 h2]) | (rw [if_neg c90]))
    · refine J.aload_n 93 dX8_time_93 rfl rfl ?_
      refine J.iconst 94 (nI 0) dX8_time_94 (by decide +kernel) ?_
      refine V.callvU 95 dX8_time_95 ml_RX8_172 mi_yX8_roundIn mv_yX8_roundIn (c_X8_roundIn w _ (by decide) (by rw [upR_self, tmW_at _ h0 hn (by omega)]; exact hn0) (by rw [ro_zero, upR_self, tmW_at _ h0 hn (by omega)]; exact hf) (by omega) (by omega)) rfl rfl (Nat.le_of_ble_eq_true rfl) (by decide) (by decide) o_178 rfl rfl (fun v95 h95 => ?_)
      obtain ⟨o95, g95, rfl⟩ := h95
      rw [ro_zero, upR_self]
      refine J.goto 98 105 dX8_time_98 (by decide) ?_
      exact V.vret 105 dX8_time_105 (fun b h1 h2 => by unfold tmF; first | (rw [if_pos c90, upR_upR_ne h1 h2]) | (rw [if_neg c90]))
  · have et : tmW (v 179) n a = _ := if_neg c54
    refine J.aload_n 57 dX8_time_57 rfl rfl ?_
    refine V.getR 58 dX8_time_58 fl_RX8_7 r_178_0 ?_
    refine J.bipush 61 (nI 107) dX8_time_61 (by decide +kernel) ?_
    refine J.bipush 63 (nI 8) dX8_time_63 (by decide +kernel) ?_
    refine J.iload_n 65 dX8_time_65 rfl rfl ?_
    refine V.imul 66 dX8_time_66 ?_
    refine V.iadd 67 dX8_time_67 ?_
    refine J.iload_n 68 dX8_time_68 rfl rfl ?_
    refine V.iadd 69 dX8_time_69 ?_
    refine J.iload_n 70 dX8_time_70 rfl rfl ?_
    refine V.iast 71 dX8_time_71 a_179 (by omega) ?_
    refine V.heapv (up2_upR _ _ _ _ _) ?_
    refine J.aload_n 72 dX8_time_72 rfl rfl ?_
    refine V.getR 73 dX8_time_73 fl_RX8_7 r_178_0 ?_
    refine J.bipush 76 (nI 43) dX8_time_76 (by decide +kernel) ?_
    refine J.bipush 78 (nI 8) dX8_time_78 (by decide +kernel) ?_
    refine J.iload_n 80 dX8_time_80 rfl rfl ?_
    refine V.imul 81 dX8_time_81 ?_
    refine V.iadd 82 dX8_time_82 ?_
    refine J.iload_n 83 dX8_time_83 rfl rfl ?_
    refine V.iadd 84 dX8_time_84 ?_
    refine J.iload 85 dX8_time_85 rfl ?_
    refine V.iast 87 dX8_time_87 a_179 (by omega) ?_
    refine V.heapv (up2_upR _ _ _ _ _) ?_
    refine V.heapv (v' := upR v 179 (tmW (v 179) n a)) (by rw [et]; rfl) ?_
    refine J.iload 88 dX8_time_88 rfl ?_
    refine V.if_ne 90 101 dX8_time_90 (by decide) (by omega) (fun c90 => ?_) (fun c90 => ?_)
    · refine J.aload_n 101 dX8_time_101 rfl rfl ?_
      refine V.callvU 102 dX8_time_102 ml_RX8_169 mi_yX8_tickOne mv_yX8_tickOne (c_X8_tickOne w _ (n := n) (ma := ma) (by rw [upR_self, tmW_at _ h0 hn (by omega)]; exact hn0) hn (by rw [upR_self, tmW_at _ h0 hn (by omega)]; exact hm0) hma (fun b hb => by rw [upR_self, tmW_at _ h0 hn (by omega)]; exact hal b hb)) rfl rfl (Nat.le_of_ble_eq_true rfl) (by decide) (by decide) o_178 rfl rfl (fun v102 h102 => ?_)
      subst h102
      rw [upR_self, upR_upR]
      exact V.vret 105 dX8_time_105 (fun b h1 h2 => by unfold tmF; first | (rw [if_pos c90, upR_upR_ne h1 h2]) | (rw [if_neg c90]))
    · refine J.aload_n 93 dX8_time_93 rfl rfl ?_
      refine J.iconst 94 (nI 0) dX8_time_94 (by decide +kernel) ?_
      refine V.callvU 95 dX8_time_95 ml_RX8_172 mi_yX8_roundIn mv_yX8_roundIn (c_X8_roundIn w _ (by decide) (by rw [upR_self, tmW_at _ h0 hn (by omega)]; exact hn0) (by rw [ro_zero, upR_self, tmW_at _ h0 hn (by omega)]; exact hf) (by omega) (by omega)) rfl rfl (Nat.le_of_ble_eq_true rfl) (by decide) (by decide) o_178 rfl rfl (fun v95 h95 => ?_)
      obtain ⟨o95, g95, rfl⟩ := h95
      rw [ro_zero, upR_self]
      refine J.goto 98 105 dX8_time_98 (by decide) ?_
      exact V.vret 105 dX8_time_105 (fun b h1 h2 => by unfold tmF; first | (rw [if_pos c90, upR_upR_ne h1 h2]) | (rw [if_neg c90]))
