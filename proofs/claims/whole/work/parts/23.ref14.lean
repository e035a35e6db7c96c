theorem upR_3 {v : Vm2} {o g r : Nat → Int32} {b : Nat} (h1 : b ≠ 183) (h2 : b ≠ 184) : upR (upR (upR v 183 o) 184 g) 179 r b = upR v 179 r b := by
  by_cases h : b = 179
  · subst h
    rw [upR_self, upR_self]
  · rw [upR_ne _ _ h, upR_ne _ _ h2, upR_ne _ _ h1, upR_ne _ _ h]
set_option maxHeartbeats 4000000 in
set_option maxRecDepth 100000 in
theorem p_lie (w : Wd) (v : Vm2) {n K : Nat} (hn0 : v 179 0 = nI n) (hn : n ≤ 8) (hk0 : v 178 1 = nI K) (hk : K ≤ 16) {j i x : Int32} : CI w yX8_lie cX8_lie 5 (some .int) (rm 3 65) [.ref (wN w + 178), .int j, .int i, .int x] v (fun r v' => r = (F_lie v n K j i x).1 ∧ EqR v' (F_lie v n K j i x).2) := by
  refine CI.of (by decide) (Nat.le_of_ble_eq_true rfl) ?_
  refine J.aload_n 0 dX8_lie_0 rfl rfl ?_
  refine J.iload_n 1 dX8_lie_1 rfl rfl ?_
  refine J.iload_n 2 dX8_lie_2 rfl rfl ?_
  refine V.callvP 3 dX8_lie_3 ml_RX8_157 mi_yX8_arePair mv_yX8_arePair (c_X8_arePair w _ hn0 hn) rfl rfl (Nat.le_of_ble_eq_true rfl) (by decide) (by decide) o_178 rfl rfl ?_
  refine V.if_neB 6 12 dX8_lie_6 (by decide) (fun c6 => ?_) (fun c6 => ?_)
  · obtain ⟨q1, q2, q3⟩ := c6
    obtain ⟨j, hj, rfl⟩ := (clkB_nI (by omega)).mp q1
    obtain ⟨i, hi, rfl⟩ := (clkB_nI (by omega)).mp q2
    have c6 : prB n (nI j) (nI i) := ⟨q1, q2, q3⟩
    refine J.iload_n 12 dX8_lie_12 rfl rfl ?_
    refine J.sipush 13 (-9999) dX8_lie_13 (by decide +kernel) ?_
    refine J.sipush 16 (nI 9999) dX8_lie_16 (by decide +kernel) ?_
    refine V.callsP 19 dX8_lie_19 ml_RX8_32 mi_yX8_in ms_yX8_in (c_X8_in w _ _ _ _) rfl rfl (Nat.le_of_ble_eq_true rfl) (by decide) (by decide) ?_
    refine V.if_neB 22 28 dX8_lie_22 (by decide) (fun c22 => ?_) (fun c22 => ?_)
    · refine J.aload_n 28 dX8_lie_28 rfl rfl ?_
      refine V.callvU 29 dX8_lie_29 ml_RX8_166 mi_yX8_remember mv_yX8_remember (k_remember w _ hk0 (by omega)) rfl rfl (Nat.le_of_ble_eq_true rfl) (by decide) (by decide) o_178 rfl rfl (fun vr hr => ?_)
      subst hr
      have hag := rmF_row v hk
      refine J.aload_n 32 dX8_lie_32 rfl rfl ?_
      refine V.getR 33 dX8_lie_33 fl_RX8_7 r_178_0 ?_
      refine J.bipush 36 (nI 107) dX8_lie_36 (by decide +kernel) ?_
      refine J.bipush 38 (nI 8) dX8_lie_38 (by decide +kernel) ?_
      refine J.iload_n 40 dX8_lie_40 rfl rfl ?_
      refine V.imul 41 dX8_lie_41 ?_
      refine V.iadd 42 dX8_lie_42 ?_
      refine J.iload_n 43 dX8_lie_43 rfl rfl ?_
      refine V.iadd 44 dX8_lie_44 ?_
      refine V.iald 45 dX8_lie_45 a_179 (by omega) ?_
      refine J.top (b := v 179 (107 + 8 * j + i)) (hag _ (by omega)) ?_
      refine J.sipush 46 (nI 9999) dX8_lie_46 (by decide +kernel) ?_
      refine J.iadd 49 dX8_lie_49 ?_
      refine J.istore 50 dX8_lie_50 (by decide) ?_
      refine J.aload_n 52 dX8_lie_52 rfl rfl ?_
      refine V.getR 53 dX8_lie_53 fl_RX8_7 r_178_0 ?_
      refine J.bipush 56 (nI 107) dX8_lie_56 (by decide +kernel) ?_
      refine J.bipush 58 (nI 8) dX8_lie_58 (by decide +kernel) ?_
      refine J.iload_n 60 dX8_lie_60 rfl rfl ?_
      refine V.imul 61 dX8_lie_61 ?_
      refine V.iadd 62 dX8_lie_62 ?_
      refine J.iload_n 63 dX8_lie_63 rfl rfl ?_
      refine V.iadd 64 dX8_lie_64 ?_
      refine J.iload_n 65 dX8_lie_65 rfl rfl ?_
      refine V.iast 66 dX8_lie_66 a_179 (by omega) ?_
      refine J.iload 67 dX8_lie_67 rfl ?_
      exact V.iret 69 dX8_lie_69 (by unfold F_lie; rw [if_neg (fun z => z c6), if_neg (fun z => z c22), ix_nI hj hn, ix_nI hi hn]; exact ⟨rfl, EqR.rf _⟩)
    · refine J.ldc 25 (-1000000002) dX8_lie_25 kc_RX8_36 ?_
      exact V.iret 27 dX8_lie_27 (by unfold F_lie; rw [if_neg (fun z => z c6), if_pos c22]; exact ⟨rfl, EqR.rf _⟩)
  · refine J.ldc 9 (-1000000001) dX8_lie_9 kc_RX8_155 ?_
    exact V.iret 11 dX8_lie_11 (by unfold F_lie; rw [if_pos c6]; exact ⟨rfl, EqR.rf _⟩)
set_option maxHeartbeats 4000000 in
set_option maxRecDepth 100000 in
theorem p_error (w : Wd) (v : Vm2) {n K : Nat} (hn0 : v 179 0 = nI n) (hn : n ≤ 8) (hk0 : v 178 1 = nI K) (hk : K ≤ 16) {j i x : Int32} : CI w yX8_error cX8_error 5 (some .int) (rm 3 65) [.ref (wN w + 178), .int j, .int i, .int x] v (fun r v' => r = (F_error v n K j i x).1 ∧ EqR v' (F_error v n K j i x).2) := by
  refine CI.of (by decide) (Nat.le_of_ble_eq_true rfl) ?_
  refine J.aload_n 0 dX8_error_0 rfl rfl ?_
  refine J.iload_n 1 dX8_error_1 rfl rfl ?_
  refine J.iload_n 2 dX8_error_2 rfl rfl ?_
  refine V.callvP 3 dX8_error_3 ml_RX8_157 mi_yX8_arePair mv_yX8_arePair (c_X8_arePair w _ hn0 hn) rfl rfl (Nat.le_of_ble_eq_true rfl) (by decide) (by decide) o_178 rfl rfl ?_
  refine V.if_neB 6 12 dX8_error_6 (by decide) (fun c6 => ?_) (fun c6 => ?_)
  · obtain ⟨q1, q2, q3⟩ := c6
    obtain ⟨j, hj, rfl⟩ := (clkB_nI (by omega)).mp q1
    obtain ⟨i, hi, rfl⟩ := (clkB_nI (by omega)).mp q2
    have c6 : prB n (nI j) (nI i) := ⟨q1, q2, q3⟩
    refine J.iload_n 12 dX8_error_12 rfl rfl ?_
    refine J.bipush 13 (-20) dX8_error_13 (by decide +kernel) ?_
    refine J.bipush 15 (nI 20) dX8_error_15 (by decide +kernel) ?_
    refine V.callsP 17 dX8_error_17 ml_RX8_32 mi_yX8_in ms_yX8_in (c_X8_in w _ _ _ _) rfl rfl (Nat.le_of_ble_eq_true rfl) (by decide) (by decide) ?_
    refine V.if_neB 20 26 dX8_error_20 (by decide) (fun c20 => ?_) (fun c20 => ?_)
    · refine J.aload_n 26 dX8_error_26 rfl rfl ?_
      refine V.callvU 27 dX8_error_27 ml_RX8_166 mi_yX8_remember mv_yX8_remember (k_remember w _ hk0 (by omega)) rfl rfl (Nat.le_of_ble_eq_true rfl) (by decide) (by decide) o_178 rfl rfl (fun vr hr => ?_)
      subst hr
      have hag := rmF_row v hk
      refine J.aload_n 30 dX8_error_30 rfl rfl ?_
      refine V.getR 31 dX8_error_31 fl_RX8_7 r_178_0 ?_
      refine J.bipush 34 (nI 43) dX8_error_34 (by decide +kernel) ?_
      refine J.bipush 36 (nI 8) dX8_error_36 (by decide +kernel) ?_
      refine J.iload_n 38 dX8_error_38 rfl rfl ?_
      refine V.imul 39 dX8_error_39 ?_
      refine V.iadd 40 dX8_error_40 ?_
      refine J.iload_n 41 dX8_error_41 rfl rfl ?_
      refine V.iadd 42 dX8_error_42 ?_
      refine V.iald 43 dX8_error_43 a_179 (by omega) ?_
      refine J.top (b := v 179 (43 + 8 * j + i)) (hag _ (by omega)) ?_
      refine J.bipush 44 (nI 20) dX8_error_44 (by decide +kernel) ?_
      refine J.iadd 46 dX8_error_46 ?_
      refine J.istore 47 dX8_error_47 (by decide) ?_
      refine J.aload_n 49 dX8_error_49 rfl rfl ?_
      refine V.getR 50 dX8_error_50 fl_RX8_7 r_178_0 ?_
      refine J.bipush 53 (nI 43) dX8_error_53 (by decide +kernel) ?_
      refine J.bipush 55 (nI 8) dX8_error_55 (by decide +kernel) ?_
      refine J.iload_n 57 dX8_error_57 rfl rfl ?_
      refine V.imul 58 dX8_error_58 ?_
      refine V.iadd 59 dX8_error_59 ?_
      refine J.iload_n 60 dX8_error_60 rfl rfl ?_
      refine V.iadd 61 dX8_error_61 ?_
      refine J.iload_n 62 dX8_error_62 rfl rfl ?_
      refine V.iast 63 dX8_error_63 a_179 (by omega) ?_
      refine J.iload 64 dX8_error_64 rfl ?_
      exact V.iret 66 dX8_error_66 (by unfold F_error; rw [if_neg (fun z => z c6), if_neg (fun z => z c20), ix_nI hj hn, ix_nI hi hn]; exact ⟨rfl, EqR.rf _⟩)
    · refine J.ldc 23 (-1000000002) dX8_error_23 kc_RX8_36 ?_
      exact V.iret 25 dX8_error_25 (by unfold F_error; rw [if_neg (fun z => z c6), if_pos c20]; exact ⟨rfl, EqR.rf _⟩)
  · refine J.ldc 9 (-1000000001) dX8_error_9 kc_RX8_155 ?_
    exact V.iret 11 dX8_error_11 (by unfold F_error; rw [if_pos c6]; exact ⟨rfl, EqR.rf _⟩)
theorem smI_c {a b : Nat → Int32} : ∀ (n : Nat), (∀ c, c < n → a c = b c) → smI a n = smI b n
  | 0, _ => rfl
  | n + 1, h => by
    unfold smI
    rw [smI_c n (fun c hc => h c (by omega)), h n (by omega)]
theorem sm_up {v : Vm2} {K n o c : Nat} {x : Int32} (hk : K ≤ 16) (hn : n ≤ 8) (ho : o + 8 < 192) (hc : c < 8) : smI (fun b => up2 (rmF v K) 179 (o + c) x 179 (o + b)) n = smI (fun b => upd (v 179) (o + c) x (o + b)) n := by
  refine smI_c n (fun b hb => ?_)
  by_cases h : b = c
  · subst h
    rw [up2_self, upd_self]
  · rw [up2_o _ _ (by omega), upd_ne _ _ (by omega)]
    exact rmF_row v hk _ (by omega)
set_option maxHeartbeats 4000000 in
set_option maxRecDepth 100000 in
theorem p_liar (w : Wd) (v : Vm2) {n K : Nat} (hn0 : v 179 0 = nI n) (hn : n ≤ 8) (hk0 : v 178 1 = nI K) (hk : K ≤ 16) {c z : Int32} : CI w yX8_liar cX8_liar 3 (some .int) (rm 2 44) [.ref (wN w + 178), .int c, .int z] v (fun r v' => r = (F_liar v n K c z).1 ∧ EqR v' (F_liar v n K c z).2) := by
  refine CI.of (by decide) (Nat.le_of_ble_eq_true rfl) ?_
  refine J.aload_n 0 dX8_liar_0 rfl rfl ?_
  refine J.iload_n 1 dX8_liar_1 rfl rfl ?_
  refine V.callvP 2 dX8_liar_2 ml_RX8_136 mi_yX8_isClock mv_yX8_isClock (k_isClock w _ _ hn0 (by omega)) rfl rfl (Nat.le_of_ble_eq_true rfl) (by decide) (by decide) o_178 rfl rfl ?_
  refine V.if_neB 5 11 dX8_liar_5 (by decide) (fun c5 => ?_) (fun c5 => ?_)
  · obtain ⟨c, hc, rfl⟩ := (clkB_nI (by omega)).mp c5
    refine J.aload_n 11 dX8_liar_11 rfl rfl ?_
    refine V.callvU 12 dX8_liar_12 ml_RX8_166 mi_yX8_remember mv_yX8_remember (k_remember w _ hk0 (by omega)) rfl rfl (Nat.le_of_ble_eq_true rfl) (by decide) (by decide) o_178 rfl rfl (fun vr hr => ?_)
    subst hr
    have hag := rmF_row v hk
    refine J.aload_n 15 dX8_liar_15 rfl rfl ?_
    refine V.getR 16 dX8_liar_16 fl_RX8_7 r_178_0 ?_
    refine J.bipush 19 (nI 27) dX8_liar_19 (by decide +kernel) ?_
    refine J.iload_n 21 dX8_liar_21 rfl rfl ?_
    refine V.iadd 22 dX8_liar_22 ?_
    refine J.iload_n 23 dX8_liar_23 rfl rfl ?_
    refine J.if_eq 24 31 dX8_liar_24 (by decide) (fun c24 => ?_) (fun c24 => ?_)
    · refine J.iconst 31 (nI 0) dX8_liar_31 (by decide +kernel) ?_
      refine V.iast 32 dX8_liar_32 a_179 (by omega) ?_
      refine J.aload_n 33 dX8_liar_33 rfl rfl ?_
      refine J.bipush 34 (nI 27) dX8_liar_34 (by decide +kernel) ?_
      refine V.callvP 36 dX8_liar_36 ml_RX8_175 mi_yX8_manyOf mv_yX8_manyOf (c_X8_manyOf w _ ((up2_o _ _ (by omega)).trans ((hag 0 (by decide)).trans hn0)) (by omega) (by decide)) rfl rfl (Nat.le_of_ble_eq_true rfl) (by decide) (by decide) o_178 rfl rfl ?_
      exact V.iret 39 dX8_liar_39 (by unfold F_liar; rw [if_neg (fun z => z c5), ix_nI hc hn, sm_up hk hn (by decide) (by omega)]; first | (rw [if_pos c24]; exact ⟨rfl, EqR.rf _⟩) | (rw [if_neg c24]; exact ⟨rfl, EqR.rf _⟩))
    · refine J.iconst 27 (nI 1) dX8_liar_27 (by decide +kernel) ?_
      refine J.goto 28 32 dX8_liar_28 (by decide) ?_
      refine V.iast 32 dX8_liar_32 a_179 (by omega) ?_
      refine J.aload_n 33 dX8_liar_33 rfl rfl ?_
      refine J.bipush 34 (nI 27) dX8_liar_34 (by decide +kernel) ?_
      refine V.callvP 36 dX8_liar_36 ml_RX8_175 mi_yX8_manyOf mv_yX8_manyOf (c_X8_manyOf w _ ((up2_o _ _ (by omega)).trans ((hag 0 (by decide)).trans hn0)) (by omega) (by decide)) rfl rfl (Nat.le_of_ble_eq_true rfl) (by decide) (by decide) o_178 rfl rfl ?_
      exact V.iret 39 dX8_liar_39 (by unfold F_liar; rw [if_neg (fun z => z c5), ix_nI hc hn, sm_up hk hn (by decide) (by omega)]; first | (rw [if_pos c24]; exact ⟨rfl, EqR.rf _⟩) | (rw [if_neg c24]; exact ⟨rfl, EqR.rf _⟩))
  · refine J.ldc 8 (-1000000001) dX8_liar_8 kc_RX8_155 ?_
    exact V.iret 10 dX8_liar_10 (by unfold F_liar; rw [if_pos c5]; exact ⟨rfl, EqR.rf _⟩)
set_option maxHeartbeats 4000000 in
set_option maxRecDepth 100000 in
theorem p_stand (w : Wd) (v : Vm2) {n K : Nat} (hn0 : v 179 0 = nI n) (hn : n ≤ 8) (hk0 : v 178 1 = nI K) (hk : K ≤ 16) {c : Int32} : CI w yX8_stand cX8_stand 2 (some .int) (rm 2 44) [.ref (wN w + 178), .int c] v (fun r v' => r = (F_stand v n K c).1 ∧ EqR v' (F_stand v n K c).2) := by
  refine CI.of (by decide) (Nat.le_of_ble_eq_true rfl) ?_
  refine J.aload_n 0 dX8_stand_0 rfl rfl ?_
  refine J.iload_n 1 dX8_stand_1 rfl rfl ?_
  refine V.callvP 2 dX8_stand_2 ml_RX8_136 mi_yX8_isClock mv_yX8_isClock (k_isClock w _ _ hn0 (by omega)) rfl rfl (Nat.le_of_ble_eq_true rfl) (by decide) (by decide) o_178 rfl rfl ?_
  refine V.if_neB 5 11 dX8_stand_5 (by decide) (fun c5 => ?_) (fun c5 => ?_)
  · obtain ⟨c, hc, rfl⟩ := (clkB_nI (by omega)).mp c5
    refine J.aload_n 11 dX8_stand_11 rfl rfl ?_
    refine V.getR 12 dX8_stand_12 fl_RX8_7 r_178_0 ?_
    refine J.bipush 15 (nI 35) dX8_stand_15 (by decide +kernel) ?_
    refine J.iload_n 17 dX8_stand_17 rfl rfl ?_
    refine V.iadd 18 dX8_stand_18 ?_
    refine V.iald 19 dX8_stand_19 a_179 (by omega) ?_
    refine J.iconst 20 (nI 1) dX8_stand_20 (by decide +kernel) ?_
    refine J.icmp_ne 21 27 dX8_stand_21 (by decide) (fun c21 => ?_) (fun c21 => ?_)
    · refine J.aload_n 27 dX8_stand_27 rfl rfl ?_
      refine V.callvU 28 dX8_stand_28 ml_RX8_166 mi_yX8_remember mv_yX8_remember (k_remember w _ hk0 (by omega)) rfl rfl (Nat.le_of_ble_eq_true rfl) (by decide) (by decide) o_178 rfl rfl (fun vr hr => ?_)
      subst hr
      have hag := rmF_row v hk
      refine J.aload_n 31 dX8_stand_31 rfl rfl ?_
      refine V.getR 32 dX8_stand_32 fl_RX8_7 r_178_0 ?_
      refine J.bipush 35 (nI 35) dX8_stand_35 (by decide +kernel) ?_
      refine J.iload_n 37 dX8_stand_37 rfl rfl ?_
      refine V.iadd 38 dX8_stand_38 ?_
      refine J.iconst 39 (nI 1) dX8_stand_39 (by decide +kernel) ?_
      refine V.iast 40 dX8_stand_40 a_179 (by omega) ?_
      refine J.aload_n 41 dX8_stand_41 rfl rfl ?_
      refine J.bipush 42 (nI 35) dX8_stand_42 (by decide +kernel) ?_
      refine V.callvP 44 dX8_stand_44 ml_RX8_175 mi_yX8_manyOf mv_yX8_manyOf (c_X8_manyOf w _ ((up2_o _ _ (by omega)).trans ((hag 0 (by decide)).trans hn0)) (by omega) (by decide)) rfl rfl (Nat.le_of_ble_eq_true rfl) (by decide) (by decide) o_178 rfl rfl ?_
      exact V.iret 47 dX8_stand_47 (by unfold F_stand; rw [if_neg (fun z => z c5), ix_nI hc hn, if_neg c21, sm_up hk hn (by decide) (by omega)]; exact ⟨rfl, EqR.rf _⟩)
    · refine J.ldc 24 (-1000000003) dX8_stand_24 kc_RX8_178 ?_
      exact V.iret 26 dX8_stand_26 (by unfold F_stand; rw [if_neg (fun z => z c5), ix_nI hc hn, if_pos c21]; exact ⟨rfl, EqR.rf _⟩)
  · refine J.ldc 8 (-1000000001) dX8_stand_8 kc_RX8_155 ?_
    exact V.iret 10 dX8_stand_10 (by unfold F_stand; rw [if_pos c5]; exact ⟨rfl, EqR.rf _⟩)
set_option maxHeartbeats 4000000 in
set_option maxRecDepth 100000 in
theorem p_alarm (w : Wd) (v : Vm2) {n K ma : Nat} (hn0 : v 179 0 = nI n) (hn : n ≤ 8) (hk0 : v 178 1 = nI K) (hk : K ≤ 16) (hm0 : v 179 171 = nI ma) (hma : ma ≤ 6) {c x : Int32} : CI w yX8_alarm cX8_alarm 4 (some .int) (rm 2 44) [.ref (wN w + 178), .int c, .int x] v (fun r v' => r = (F_alarm v n K ma c x).1 ∧ EqR v' (F_alarm v n K ma c x).2) := by
  refine CI.of (by decide) (Nat.le_of_ble_eq_true rfl) ?_
  refine J.aload_n 0 dX8_alarm_0 rfl rfl ?_
  refine J.iload_n 1 dX8_alarm_1 rfl rfl ?_
  refine V.callvP 2 dX8_alarm_2 ml_RX8_136 mi_yX8_isClock mv_yX8_isClock (k_isClock w _ _ hn0 (by omega)) rfl rfl (Nat.le_of_ble_eq_true rfl) (by decide) (by decide) o_178 rfl rfl ?_
  refine V.if_neB 5 11 dX8_alarm_5 (by decide) (fun c5 => ?_) (fun c5 => ?_)
  · obtain ⟨c, hc, rfl⟩ := (clkB_nI (by omega)).mp c5
    refine J.iload_n 11 dX8_alarm_11 rfl rfl ?_
    refine J.iconst 12 (nI 0) dX8_alarm_12 (by decide +kernel) ?_
    refine J.ldc 13 (999999) dX8_alarm_13 kc_RX8_179 (J.top (b := nI 999999) (by decide +kernel) ?_)
    refine V.callsP 15 dX8_alarm_15 ml_RX8_32 mi_yX8_in ms_yX8_in (c_X8_in w _ _ _ _) rfl rfl (Nat.le_of_ble_eq_true rfl) (by decide) (by decide) ?_
    refine V.if_neB 18 24 dX8_alarm_18 (by decide) (fun c18 => ?_) (fun c18 => ?_)
    · refine J.aload_n 24 dX8_alarm_24 rfl rfl ?_
      refine V.getR 25 dX8_alarm_25 fl_RX8_7 r_178_0 ?_
      refine J.sipush 28 (nI 171) dX8_alarm_28 (by decide +kernel) ?_
      refine V.iald 31 dX8_alarm_31 a_179 (by omega) ?_
      refine J.top hm0 ?_
      refine J.bipush 32 (nI 6) dX8_alarm_32 (by decide +kernel) ?_
      refine V.icmp_ne 34 40 dX8_alarm_34 (by decide) (by omega) (by omega) (fun c34 => ?_) (fun c34 => ?_)
      · refine J.aload_n 40 dX8_alarm_40 rfl rfl ?_
        refine V.callvU 41 dX8_alarm_41 ml_RX8_166 mi_yX8_remember mv_yX8_remember (k_remember w _ hk0 (by omega)) rfl rfl (Nat.le_of_ble_eq_true rfl) (by decide) (by decide) o_178 rfl rfl (fun vr hr => ?_)
        subst hr
        have hag := rmF_row v hk
        refine J.aload_n 44 dX8_alarm_44 rfl rfl ?_
        refine V.getR 45 dX8_alarm_45 fl_RX8_7 r_178_0 ?_
        refine J.sipush 48 (nI 171) dX8_alarm_48 (by decide +kernel) ?_
        refine V.iald 51 dX8_alarm_51 a_179 (by omega) ?_
        refine J.top ((hag 171 (by decide)).trans hm0) ?_
        refine J.istore_n 52 dX8_alarm_52 rfl (by decide) ?_
        refine J.aload_n 53 dX8_alarm_53 rfl rfl ?_
        refine V.getR 54 dX8_alarm_54 fl_RX8_7 r_178_0 ?_
        refine J.sipush 57 (nI 172) dX8_alarm_57 (by decide +kernel) ?_
        refine J.iload_n 60 dX8_alarm_60 rfl rfl ?_
        refine V.iadd 61 dX8_alarm_61 ?_
        refine J.iload_n 62 dX8_alarm_62 rfl rfl ?_
        refine V.iast 63 dX8_alarm_63 a_179 (by omega) ?_
        refine J.aload_n 64 dX8_alarm_64 rfl rfl ?_
        refine V.getR 65 dX8_alarm_65 fl_RX8_7 r_178_0 ?_
        refine J.sipush 68 (nI 178) dX8_alarm_68 (by decide +kernel) ?_
        refine J.iload_n 71 dX8_alarm_71 rfl rfl ?_
        refine V.iadd 72 dX8_alarm_72 ?_
        refine J.iload_n 73 dX8_alarm_73 rfl rfl ?_
        refine V.iast 74 dX8_alarm_74 a_179 (by omega) ?_
        refine J.aload_n 75 dX8_alarm_75 rfl rfl ?_
        refine V.getR 76 dX8_alarm_76 fl_RX8_7 r_178_0 ?_
        refine J.sipush 79 (nI 184) dX8_alarm_79 (by decide +kernel) ?_
        refine J.iload_n 82 dX8_alarm_82 rfl rfl ?_
        refine V.iadd 83 dX8_alarm_83 ?_
        refine J.aload_n 84 dX8_alarm_84 rfl rfl ?_
        refine V.getR 85 dX8_alarm_85 fl_RX8_7 r_178_0 ?_
        refine J.iconst 88 (nI 3) dX8_alarm_88 (by decide +kernel) ?_
        refine J.iload_n 89 dX8_alarm_89 rfl rfl ?_
        refine V.iadd 90 dX8_alarm_90 ?_
        refine V.iald 91 dX8_alarm_91 a_179 (by omega) ?_
        refine J.top (b := v 179 (3 + c)) (by rw [up2_o _ _ (by omega), up2_o _ _ (by omega)]; exact hag _ (by omega)) ?_
        refine J.iload_n 92 dX8_alarm_92 rfl rfl ?_
        refine J.icmp_lt 93 100 dX8_alarm_93 (by decide) (fun c93 => ?_) (fun c93 => ?_)
        · refine J.iconst 100 (nI 0) dX8_alarm_100 (by decide +kernel) ?_
          refine V.iast 101 dX8_alarm_101 a_179 (by omega) ?_
          refine J.aload_n 102 dX8_alarm_102 rfl rfl ?_
          refine V.getR 103 dX8_alarm_103 fl_RX8_7 r_178_0 ?_
          refine J.sipush 106 (nI 171) dX8_alarm_106 (by decide +kernel) ?_
          refine J.dup2 109 dX8_alarm_109 rfl rfl ?_
          refine V.iald 110 dX8_alarm_110 a_179 (by omega) ?_
          refine J.top (b := nI ma) (by rw [up2_o _ _ (by omega), up2_o _ _ (by omega), up2_o _ _ (by omega)]; exact (hag 171 (by decide)).trans hm0) ?_
          refine J.iconst 111 (nI 1) dX8_alarm_111 (by decide +kernel) ?_
          refine V.iadd 112 dX8_alarm_112 ?_
          refine V.iast 113 dX8_alarm_113 a_179 (by omega) ?_
          refine J.iload_n 114 dX8_alarm_114 rfl rfl ?_
          exact V.iret 115 dX8_alarm_115 (by unfold F_alarm; rw [if_neg (fun z => z c5), if_neg (fun z => z c18), if_neg c34]; unfold alW; rw [ix_nI hc hn]; first | (rw [if_pos c93]; exact ⟨rfl, EqR.rf _⟩) | (rw [if_neg c93]; exact ⟨rfl, EqR.rf _⟩))
        · refine J.iconst 96 (nI 1) dX8_alarm_96 (by decide +kernel) ?_
          refine J.goto 97 101 dX8_alarm_97 (by decide) ?_
          refine V.iast 101 dX8_alarm_101 a_179 (by omega) ?_
          refine J.aload_n 102 dX8_alarm_102 rfl rfl ?_
          refine V.getR 103 dX8_alarm_103 fl_RX8_7 r_178_0 ?_
          refine J.sipush 106 (nI 171) dX8_alarm_106 (by decide +kernel) ?_
          refine J.dup2 109 dX8_alarm_109 rfl rfl ?_
          refine V.iald 110 dX8_alarm_110 a_179 (by omega) ?_
          refine J.top (b := nI ma) (by rw [up2_o _ _ (by omega), up2_o _ _ (by omega), up2_o _ _ (by omega)]; exact (hag 171 (by decide)).trans hm0) ?_
          refine J.iconst 111 (nI 1) dX8_alarm_111 (by decide +kernel) ?_
          refine V.iadd 112 dX8_alarm_112 ?_
          refine V.iast 113 dX8_alarm_113 a_179 (by omega) ?_
          refine J.iload_n 114 dX8_alarm_114 rfl rfl ?_
          exact V.iret 115 dX8_alarm_115 (by unfold F_alarm; rw [if_neg (fun z => z c5), if_neg (fun z => z c18), if_neg c34]; unfold alW; rw [ix_nI hc hn]; first | (rw [if_pos c93]; exact ⟨rfl, EqR.rf _⟩) | (rw [if_neg c93]; exact ⟨rfl, EqR.rf _⟩))
      · refine J.ldc 37 (-1000000004) dX8_alarm_37 kc_RX8_40 ?_
        exact V.iret 39 dX8_alarm_39 (by unfold F_alarm; rw [if_neg (fun z => z c5), if_neg (fun z => z c18), if_pos c34]; exact ⟨rfl, EqR.rf _⟩)
    · refine J.ldc 21 (-1000000002) dX8_alarm_21 kc_RX8_36 ?_
      exact V.iret 23 dX8_alarm_23 (by unfold F_alarm; rw [if_neg (fun z => z c5), if_pos c18]; exact ⟨rfl, EqR.rf _⟩)
  · refine J.ldc 8 (-1000000001) dX8_alarm_8 kc_RX8_155 ?_
    exact V.iret 10 dX8_alarm_10 (by unfold F_alarm; rw [if_pos c5]; exact ⟨rfl, EqR.rf _⟩)
set_option maxHeartbeats 4000000 in
set_option maxRecDepth 100000 in
theorem p_undo (w : Wd) (v : Vm2) {K : Nat} (hk0 : v 178 1 = nI K) (hk : K ≤ 16) {x : Int32} : CI w yX8_undo cX8_undo 3 (some .int) (rm 1 23) [.ref (wN w + 178), .int x] v (fun r v' => r = (F_undo v K x).1 ∧ EqR v' (F_undo v K x).2) := by
  refine CI.of (by decide) (Nat.le_of_ble_eq_true rfl) ?_
  refine J.iload_n 0 dX8_undo_0 rfl rfl ?_
  refine J.iconst 1 (nI 1) dX8_undo_1 (by decide +kernel) ?_
  refine J.bipush 2 (nI 16) dX8_undo_2 (by decide +kernel) ?_
  refine V.callsP 4 dX8_undo_4 ml_RX8_32 mi_yX8_in ms_yX8_in (c_X8_in w _ _ _ _) rfl rfl (Nat.le_of_ble_eq_true rfl) (by decide) (by decide) ?_
  refine V.if_neB 7 13 dX8_undo_7 (by decide) (fun c7 => ?_) (fun c7 => ?_)
  · obtain ⟨t, ht1, ht2, rfl⟩ := inF_nI (by decide) (by decide) c7
    have et : ix (nI t) = t := nI_clamp (by omega)
    refine J.iload_n 13 dX8_undo_13 rfl rfl ?_
    refine J.aload_n 14 dX8_undo_14 rfl rfl ?_
    refine V.getI 15 dX8_undo_15 fl_RX8_88 i_178_1 ?_
    refine J.top hk0 ?_
    refine V.icmp_le 18 24 dX8_undo_18 (by decide) (by omega) (by omega) (fun c18 => ?_) (fun c18 => ?_)
    · refine J.aload_n 24 dX8_undo_24 rfl rfl ?_
      refine V.getR 25 dX8_undo_25 fl_RX8_7 r_178_0 ?_
      refine J.sipush 28 (nI 191) dX8_undo_28 (by decide +kernel) ?_
      refine V.iald 31 dX8_undo_31 a_179 (by omega) ?_
      refine J.istore_n 32 dX8_undo_32 rfl (by decide) ?_
      refine J.aload_n 33 dX8_undo_33 rfl rfl ?_
      refine J.dup 34 dX8_undo_34 rfl ?_
      refine V.getI 35 dX8_undo_35 fl_RX8_88 i_178_1 ?_
      refine J.top hk0 ?_
      refine J.iload_n 38 dX8_undo_38 rfl rfl ?_
      refine V.isub 39 dX8_undo_39 (by omega) ?_
      refine V.putI 40 dX8_undo_40 fl_RX8_88 fp_8_1 i_178_1 ?_
      refine J.aload_n 43 dX8_undo_43 rfl rfl ?_
      refine J.sipush 44 (nI 192) dX8_undo_44 (by decide +kernel) ?_
      refine J.aload_n 47 dX8_undo_47 rfl rfl ?_
      refine V.getI 48 dX8_undo_48 fl_RX8_88 i_178_1 ?_
      refine J.top (up2_self _ _ _ _) ?_
      refine J.iconst 51 (nI 1) dX8_undo_51 (by decide +kernel) ?_
      refine V.iadd 52 dX8_undo_52 ?_
      refine V.imul 53 dX8_undo_53 ?_
      refine J.iconst 54 (nI 0) dX8_undo_54 (by decide +kernel) ?_
      refine V.callvU 55 dX8_undo_55 ml_RX8_85 mi_yX8_copyRow mv_yX8_copyRow (c_X8_copyRow w _ (by omega) (by omega) (by omega)) rfl rfl (Nat.le_of_ble_eq_true rfl) (by decide) (by decide) o_178 rfl rfl (fun vc hcp => ?_)
      subst hcp
      refine J.aload_n 58 dX8_undo_58 rfl rfl ?_
      refine V.getR 59 dX8_undo_59 fl_RX8_7 r_178_0 ?_
      refine J.sipush 62 (nI 191) dX8_undo_62 (by decide +kernel) ?_
      refine J.iload_n 65 dX8_undo_65 rfl rfl ?_
      refine V.iast 66 dX8_undo_66 a_179 (by omega) ?_
      refine J.aload_n 67 dX8_undo_67 rfl rfl ?_
      refine V.getR 68 dX8_undo_68 fl_RX8_7 r_178_0 ?_
      refine J.sipush 71 (nI 190) dX8_undo_71 (by decide +kernel) ?_
      refine V.iald 74 dX8_undo_74 a_179 (by omega) ?_
      refine J.top (b := v 179 (192 * (K - t + 1) + 190)) (by rw [up2_o _ _ (by omega)]; show (if (179 : Nat) = 179 ∧ 0 ≤ 190 ∧ 190 < 0 + 192 then _ else _) = _; rw [if_pos (by decide), up2_o _ _ (by omega)]) ?_
      exact V.iret 75 dX8_undo_75 (by unfold F_undo; rw [if_neg (fun z => z c7), et, if_neg (by omega)]; exact ⟨rfl, EqR.rf _⟩)
    · refine J.ldc 21 (-1000000003) dX8_undo_21 kc_RX8_178 ?_
      exact V.iret 23 dX8_undo_23 (by unfold F_undo; rw [if_neg (fun z => z c7), et, if_pos c18]; exact ⟨rfl, EqR.rf _⟩)
  · refine J.ldc 10 (-1000000002) dX8_undo_10 kc_RX8_36 ?_
    exact V.iret 12 dX8_undo_12 (by unfold F_undo; rw [if_pos c7]; exact ⟨rfl, EqR.rf _⟩)
set_option maxHeartbeats 4000000 in
set_option maxRecDepth 100000 in
theorem p_write (w : Wd) (v : Vm2) {n wr : Nat} (hn0 : v 179 0 = nI n) (hn : n ≤ 8) (hw0 : v 178 8 = nI wr) (hwr : wr ≤ 20) {c x : Int32} : CI w yX8_write cX8_write 3 (some .int) (rm 2 43) [.ref (wN w + 178), .int c, .int x] v (fun r v' => r = (F_write v n wr c x).1 ∧ EqR v' (F_write v n wr c x).2) := by
  refine CI.of (by decide) (Nat.le_of_ble_eq_true rfl) ?_
  refine J.aload_n 0 dX8_write_0 rfl rfl ?_
  refine J.iload_n 1 dX8_write_1 rfl rfl ?_
  refine V.callvP 2 dX8_write_2 ml_RX8_136 mi_yX8_isClock mv_yX8_isClock (k_isClock w _ _ hn0 (by omega)) rfl rfl (Nat.le_of_ble_eq_true rfl) (by decide) (by decide) o_178 rfl rfl ?_
  refine V.if_neB 5 11 dX8_write_5 (by decide) (fun c5 => ?_) (fun c5 => ?_)
  · refine J.aload_n 11 dX8_write_11 rfl rfl ?_
    refine V.getI 12 dX8_write_12 fl_RX8_94 i_178_8 ?_
    refine J.top hw0 ?_
    refine J.bipush 15 (nI 20) dX8_write_15 (by decide +kernel) ?_
    refine V.icmp_ne 17 23 dX8_write_17 (by decide) (by omega) (by omega) (fun c17 => ?_) (fun c17 => ?_)
    · refine J.aload_n 23 dX8_write_23 rfl rfl ?_
      refine V.getR 24 dX8_write_24 fl_RX8_20 r_178_6 ?_
      refine J.aload_n 27 dX8_write_27 rfl rfl ?_
      refine V.getI 28 dX8_write_28 fl_RX8_94 i_178_8 ?_
      refine J.top hw0 ?_
      refine J.iload_n 31 dX8_write_31 rfl rfl ?_
      refine V.iast 32 dX8_write_32 a_181 (by omega) ?_
      refine J.aload_n 33 dX8_write_33 rfl rfl ?_
      refine V.getR 34 dX8_write_34 fl_RX8_23 r_178_7 ?_
      refine J.aload_n 37 dX8_write_37 rfl rfl ?_
      refine V.getI 38 dX8_write_38 fl_RX8_94 i_178_8 ?_
      refine J.top (b := nI wr) ((up2_o _ _ (by omega)).trans hw0) ?_
      refine J.iload_n 41 dX8_write_41 rfl rfl ?_
      refine V.iast 42 dX8_write_42 a_182 (by omega) ?_
      refine J.aload_n 43 dX8_write_43 rfl rfl ?_
      refine J.dup 44 dX8_write_44 rfl ?_
      refine V.getI 45 dX8_write_45 fl_RX8_94 i_178_8 ?_
      refine J.top (b := nI wr) (by rw [up2_o _ _ (by omega), up2_o _ _ (by omega)]; exact hw0) ?_
      refine J.iconst 48 (nI 1) dX8_write_48 (by decide +kernel) ?_
      refine V.iadd 49 dX8_write_49 ?_
      refine V.putI 50 dX8_write_50 fl_RX8_94 fp_8_8 i_178_8 ?_
      refine J.aload_n 53 dX8_write_53 rfl rfl ?_
      refine V.getI 54 dX8_write_54 fl_RX8_94 i_178_8 ?_
      refine J.top (up2_self _ _ _ _) ?_
      exact V.iret 57 dX8_write_57 (by unfold F_write; rw [if_neg (fun z => z c5), if_neg c17]; exact ⟨rfl, EqR.rf _⟩)
    · refine J.ldc 20 (-1000000004) dX8_write_20 kc_RX8_40 ?_
      exact V.iret 22 dX8_write_22 (by unfold F_write; rw [if_neg (fun z => z c5), if_pos c17]; exact ⟨rfl, EqR.rf _⟩)
  · refine J.ldc 8 (-1000000001) dX8_write_8 kc_RX8_155 ?_
    exact V.iret 10 dX8_write_10 (by unfold F_write; rw [if_pos c5]; exact ⟨rfl, EqR.rf _⟩)
set_option maxHeartbeats 4000000 in
set_option maxRecDepth 100000 in
theorem p_tear (w : Wd) (v : Vm2)  : CI w yX8_tear cX8_tear 2 (some .int) (rm 0 0) [.ref (wN w + 178)] v (fun r v' => r = v 178 8 ∧ v' = up2 v 178 8 (nI 0)) := by
  refine CI.of (by decide) (Nat.le_of_ble_eq_true rfl) ?_
  refine J.aload_n 0 dX8_tear_0 rfl rfl ?_
  refine V.getI 1 dX8_tear_1 fl_RX8_94 i_178_8 ?_
  refine J.istore_n 4 dX8_tear_4 rfl (by decide) ?_
  refine J.aload_n 5 dX8_tear_5 rfl rfl ?_
  refine J.iconst 6 (nI 0) dX8_tear_6 (by decide +kernel) ?_
  refine V.putI 7 dX8_tear_7 fl_RX8_94 fp_8_8 i_178_8 ?_
  refine J.iload_n 10 dX8_tear_10 rfl rfl ?_
  exact V.iret 11 dX8_tear_11 (⟨rfl, rfl⟩)
set_option maxHeartbeats 4000000 in
set_option maxRecDepth 100000 in
theorem p_fault (w : Wd) (v : Vm2)  : CP w yX8_fault cX8_fault 1 (some .int) (rm 0 0) [.ref (wN w + 178)] v (v 178 5) := by
  refine CI.of (by decide) (Nat.le_of_ble_eq_true rfl) ?_
  refine J.aload_n 0 dX8_fault_0 rfl rfl ?_
  refine V.getI 1 dX8_fault_1 fl_RX8_16 i_178_5 ?_
  exact V.iret 4 dX8_fault_4 (⟨rfl, rfl⟩)
set_option maxHeartbeats 4000000 in
set_option maxRecDepth 100000 in
theorem p_seed (w : Wd) (v : Vm2) {x : Int32} : CI w yX8_seed cX8_seed 3 (some .int) (rm 0 0) [.ref (wN w + 178), .int x] v (fun r v' => r = (F_seed v x).1 ∧ EqR v' (F_seed v x).2) := by
  refine CI.of (by decide) (Nat.le_of_ble_eq_true rfl) ?_
  refine J.iload_n 0 dX8_seed_0 rfl rfl ?_
  refine J.if_ge 1 7 dX8_seed_1 (by decide) (fun c1 => ?_) (fun c1 => ?_)
  · refine J.aload_n 7 dX8_seed_7 rfl rfl ?_
    refine V.getR 8 dX8_seed_8 fl_RX8_7 r_178_0 ?_
    refine J.sipush 11 (nI 191) dX8_seed_11 (by decide +kernel) ?_
    refine V.iald 14 dX8_seed_14 a_179 (by omega) ?_
    refine J.istore_n 15 dX8_seed_15 rfl (by decide) ?_
    refine J.aload_n 16 dX8_seed_16 rfl rfl ?_
    refine V.getR 17 dX8_seed_17 fl_RX8_7 r_178_0 ?_
    refine J.sipush 20 (nI 191) dX8_seed_20 (by decide +kernel) ?_
    refine J.iload_n 23 dX8_seed_23 rfl rfl ?_
    refine V.iast 24 dX8_seed_24 a_179 (by omega) ?_
    refine J.iload_n 25 dX8_seed_25 rfl rfl ?_
    exact V.iret 26 dX8_seed_26 (by unfold F_seed; rw [if_neg (Int32.not_lt.mpr c1)]; exact ⟨rfl, EqR.rf _⟩)
  · refine J.ldc 4 (-1000000002) dX8_seed_4 kc_RX8_36 ?_
    exact V.iret 6 dX8_seed_6 (by unfold F_seed; rw [if_pos (Int32.not_le.mp c1)]; exact ⟨rfl, EqR.rf _⟩)
set_option maxHeartbeats 4000000 in
set_option maxRecDepth 100000 in
theorem p_keep (w : Wd) (v : Vm2) {x : Int32} : CI w yX8_keep cX8_keep 2 (some .int) (rm 1 23) [.ref (wN w + 178), .int x] v (fun r v' => r = (F_keep v x).1 ∧ EqR v' (F_keep v x).2) := by
  refine CI.of (by decide) (Nat.le_of_ble_eq_true rfl) ?_
  refine J.iload_n 0 dX8_keep_0 rfl rfl ?_
  refine J.iconst 1 (nI 0) dX8_keep_1 (by decide +kernel) ?_
  refine J.iconst 2 (nI 1) dX8_keep_2 (by decide +kernel) ?_
  refine V.callsP 3 dX8_keep_3 ml_RX8_32 mi_yX8_in ms_yX8_in (c_X8_in w _ _ _ _) rfl rfl (Nat.le_of_ble_eq_true rfl) (by decide) (by decide) ?_
  refine V.if_neB 6 12 dX8_keep_6 (by decide) (fun c6 => ?_) (fun c6 => ?_)
  · obtain ⟨t, ht1, ht2, rfl⟩ := inF_nI (by decide) (by decide) c6
    have et : ix (nI t) = t := nI_clamp (by omega)
    refine J.aload_n 12 dX8_keep_12 rfl rfl ?_
    refine J.iconst 13 (nI 0) dX8_keep_13 (by decide +kernel) ?_
    refine J.sipush 14 (nI 3264) dX8_keep_14 (by decide +kernel) ?_
    refine J.sipush 17 (nI 192) dX8_keep_17 (by decide +kernel) ?_
    refine J.iload_n 20 dX8_keep_20 rfl rfl ?_
    refine V.imul 21 dX8_keep_21 ?_
    refine V.iadd 22 dX8_keep_22 ?_
    refine V.callvU 23 dX8_keep_23 ml_RX8_85 mi_yX8_copyRow mv_yX8_copyRow (c_X8_copyRow w _ (by omega) (by omega) (by omega)) rfl rfl (Nat.le_of_ble_eq_true rfl) (by decide) (by decide) o_178 rfl rfl (fun vc hcp => ?_)
    subst hcp
    refine J.aload_n 26 dX8_keep_26 rfl rfl ?_
    refine J.dup 27 dX8_keep_27 rfl ?_
    refine V.getI 28 dX8_keep_28 fl_RX8_91 i_178_2 ?_
    refine J.top (b := v 178 2) (by show (if (178 : Nat) = 179 ∧ _ then _ else _) = _; rw [if_neg (by omega)]) ?_
    refine J.iconst 31 (nI 1) dX8_keep_31 (by decide +kernel) ?_
    refine J.iload_n 32 dX8_keep_32 rfl rfl ?_
    refine J.ishl 33 dX8_keep_33 ?_
    refine J.ior 34 dX8_keep_34 ?_
    refine V.putI 35 dX8_keep_35 fl_RX8_91 fp_8_2 i_178_2 ?_
    refine J.aload_n 38 dX8_keep_38 rfl rfl ?_
    refine J.iconst 39 (nI 0) dX8_keep_39 (by decide +kernel) ?_
    refine V.putI 40 dX8_keep_40 fl_RX8_88 fp_8_1 i_178_1 ?_
    refine J.iconst 43 (nI 1) dX8_keep_43 (by decide +kernel) ?_
    exact V.iret 44 dX8_keep_44 (by unfold F_keep; rw [if_neg (fun z => z c6), et]; exact ⟨rfl, EqR.rf _⟩)
  · refine J.ldc 9 (-1000000001) dX8_keep_9 kc_RX8_155 ?_
    exact V.iret 11 dX8_keep_11 (by unfold F_keep; rw [if_pos c6]; exact ⟨rfl, EqR.rf _⟩)
set_option maxHeartbeats 4000000 in
set_option maxRecDepth 100000 in
theorem p_goBack (w : Wd) (v : Vm2) {x : Int32} : CI w yX8_goBack cX8_goBack 2 (some .int) (rm 1 23) [.ref (wN w + 178), .int x] v (fun r v' => r = (F_goBack v x).1 ∧ EqR v' (F_goBack v x).2) := by
  refine CI.of (by decide) (Nat.le_of_ble_eq_true rfl) ?_
  refine J.iload_n 0 dX8_goBack_0 rfl rfl ?_
  refine J.iconst 1 (nI 0) dX8_goBack_1 (by decide +kernel) ?_
  refine J.iconst 2 (nI 1) dX8_goBack_2 (by decide +kernel) ?_
  refine V.callsP 3 dX8_goBack_3 ml_RX8_32 mi_yX8_in ms_yX8_in (c_X8_in w _ _ _ _) rfl rfl (Nat.le_of_ble_eq_true rfl) (by decide) (by decide) ?_
  refine V.if_neB 6 12 dX8_goBack_6 (by decide) (fun c6 => ?_) (fun c6 => ?_)
  · obtain ⟨t, ht1, ht2, rfl⟩ := inF_nI (by decide) (by decide) c6
    have et : ix (nI t) = t := nI_clamp (by omega)
    refine J.aload_n 12 dX8_goBack_12 rfl rfl ?_
    refine V.getI 13 dX8_goBack_13 fl_RX8_91 i_178_2 ?_
    refine J.iload_n 16 dX8_goBack_16 rfl rfl ?_
    refine V.callsP 17 dX8_goBack_17 ml_RX8_196 mi_yX8_has ms_yX8_has (c_X8_has w _ _ _) rfl rfl (Nat.le_of_ble_eq_true rfl) (by decide) (by decide) ?_
    refine V.if_neB 20 26 dX8_goBack_20 (by decide) (fun c20 => ?_) (fun c20 => ?_)
    · refine J.aload_n 26 dX8_goBack_26 rfl rfl ?_
      refine J.sipush 27 (nI 3264) dX8_goBack_27 (by decide +kernel) ?_
      refine J.sipush 30 (nI 192) dX8_goBack_30 (by decide +kernel) ?_
      refine J.iload_n 33 dX8_goBack_33 rfl rfl ?_
      refine V.imul 34 dX8_goBack_34 ?_
      refine V.iadd 35 dX8_goBack_35 ?_
      refine J.iconst 36 (nI 0) dX8_goBack_36 (by decide +kernel) ?_
      refine V.callvU 37 dX8_goBack_37 ml_RX8_85 mi_yX8_copyRow mv_yX8_copyRow (c_X8_copyRow w _ (by omega) (by omega) (by omega)) rfl rfl (Nat.le_of_ble_eq_true rfl) (by decide) (by decide) o_178 rfl rfl (fun vc hcp => ?_)
      subst hcp
      refine J.aload_n 40 dX8_goBack_40 rfl rfl ?_
      refine J.iconst 41 (nI 0) dX8_goBack_41 (by decide +kernel) ?_
      refine V.putI 42 dX8_goBack_42 fl_RX8_88 fp_8_1 i_178_1 ?_
      refine J.iconst 45 (nI 1) dX8_goBack_45 (by decide +kernel) ?_
      exact V.iret 46 dX8_goBack_46 (by unfold F_goBack; rw [if_neg (fun z => z c6), et, if_neg (fun z => z c20)]; exact ⟨rfl, EqR.rf _⟩)
    · refine J.ldc 23 (-1000000003) dX8_goBack_23 kc_RX8_178 ?_
      exact V.iret 25 dX8_goBack_25 (by unfold F_goBack; rw [if_neg (fun z => z c6), et, if_pos c20]; exact ⟨rfl, EqR.rf _⟩)
  · refine J.ldc 9 (-1000000001) dX8_goBack_9 kc_RX8_155 ?_
    exact V.iret 11 dX8_goBack_11 (by unfold F_goBack; rw [if_pos c6]; exact ⟨rfl, EqR.rf _⟩)
set_option maxHeartbeats 4000000 in
set_option maxRecDepth 100000 in
theorem p_round (w : Wd) (v : Vm2) {n f K : Nat} (hn0 : v 179 0 = nI n) (hn : n ≤ 8) (hf : v 179 1 = nI f) (hf3 : f < 4) (hk0 : v 178 1 = nI K) (hk : K ≤ 16) : CI w yX8_round cX8_round 1 (some .int) (rm 4 91) [.ref (wN w + 178)] v (fun r v' => r = (F_round v n f K).1 ∧ EqR v' (F_round v n f K).2) := by
  refine CI.of (by decide) (Nat.le_of_ble_eq_true rfl) ?_
  refine J.aload_n 0 dX8_round_0 rfl rfl ?_
  refine V.callvU 1 dX8_round_1 ml_RX8_166 mi_yX8_remember mv_yX8_remember (k_remember w _ hk0 (by omega)) rfl rfl (Nat.le_of_ble_eq_true rfl) (by decide) (by decide) o_178 rfl rfl (fun vr hr => ?_)
  subst hr
  have hag := rmF_row v hk
  refine J.aload_n 4 dX8_round_4 rfl rfl ?_
  refine J.iconst 5 (nI 0) dX8_round_5 (by decide +kernel) ?_
  refine V.callvU 6 dX8_round_6 ml_RX8_172 mi_yX8_roundIn mv_yX8_roundIn (c_X8_roundIn w _ (by decide) ((hag 0 (by decide)).trans hn0) (by rw [ro_zero]; exact (hag 1 (by decide)).trans hf) (by omega) (by omega)) rfl rfl (Nat.le_of_ble_eq_true rfl) (by decide) (by decide) o_178 rfl rfl (fun vo ho => ?_)
  obtain ⟨o6, g6, rfl⟩ := ho
  rw [ro_zero]
  refine J.aload_n 9 dX8_round_9 rfl rfl ?_
  refine J.iconst 10 (nI 0) dX8_round_10 (by decide +kernel) ?_
  refine V.callvP 11 dX8_round_11 ml_RX8_123 mi_yX8_apart mv_yX8_apart (c_X8_apart w _ (by decide) (by rw [upR_self]; exact (show rnW _ 0 n n _ 0 = _ from if_neg (by omega)).trans ((hag 0 (by decide)).trans hn0)) (by omega)) rfl rfl (Nat.le_of_ble_eq_true rfl) (by decide) (by decide) o_178 rfl rfl ?_
  rw [ro_zero, upR_self]
  exact V.iret 14 dX8_round_14 (⟨rfl, EqR.of_S (fun b h1 h2 => upR_3 h1 h2)⟩)
set_option maxHeartbeats 4000000 in
set_option maxRecDepth 100000 in
theorem p_tickN (w : Wd) (v : Vm2) {n K ma t : Nat} (hn0 : v 179 0 = nI n) (hn : n ≤ 8) (hk0 : v 178 1 = nI K) (hk : K ≤ 16) (hm0 : v 179 171 = nI ma) (hma : ma ≤ 6) (hal : ∀ b, b < ma → ∃ cl, cl < 8 ∧ v 179 (172 + b) = nI cl) (ht1 : 1 ≤ t) (ht2 : t ≤ 20) : CI w yX8_tick cX8_tick 4 (some .int) (rm 2 44) [.ref (wN w + 178), .int (nI t)] v (fun r v' => r = (F_tick v n K ma (nI t)).1 ∧ EqR v' (F_tick v n K ma (nI t)).2) := by
  have hin : inF (nI t) (nI 1) (nI 20) := ⟨nI_le ht1 (by omega), nI_le ht2 (by decide)⟩
  refine CI.of (by decide) (Nat.le_of_ble_eq_true rfl) ?_
  have lp : ∀ (m : Nat) (k : Nat), (k ≤ t) → t - k < m → J w yX8_tick cX8_tick 4 (some .int) (rm 2 44) XT (ZJ w 185 0 0 (PI w (fun r v' => r = (F_tick v n K ma (nI t)).1 ∧ EqR v' (F_tick v n K ma (nI t)).2))) 24 [(0, .ref (wN w + 178)), (1, .int (nI t)), (2, .int (rsI ((rmF v K) 179) ma)), (3, .int (nI k))] [] 185 (hv w (upR (rmF v K) 179 (tkN ((rmF v K) 179) n ma k))) 0 0 := by
    intro m
    induction m with
    | zero =>
      intro k hi0 hm
      exact absurd hm (by omega)
    | succ m ih =>
      intro k hi0 hm
      refine J.iload_n 24 dX8_tick_24 rfl rfl ?_
      refine J.iload_n 25 dX8_tick_25 rfl rfl ?_
      refine V.icmp_ge 26 39 dX8_tick_26 (by decide) (by omega) (by omega) (fun c26 => ?_) (fun c26 => ?_)
      · refine J.aload_n 39 dX8_tick_39 rfl rfl ?_
        refine V.callvP 40 dX8_tick_40 ml_RX8_149 mi_yX8_rungSet mv_yX8_rungSet (c_X8_rungSet w _ (by rw [upR_self, tkN_at _ hn (by omega) (by omega) (by omega)]; exact (rmF_row v hk 171 (by decide)).trans hm0) (by omega)) rfl rfl (Nat.le_of_ble_eq_true rfl) (by decide) (by decide) o_178 rfl rfl ?_
        rw [upR_self]
        refine J.iload_n 43 dX8_tick_43 rfl rfl ?_
        refine J.iconst 44 (-1) dX8_tick_44 (by decide +kernel) ?_
        refine J.ixor 45 dX8_tick_45 ?_
        refine J.iand 46 dX8_tick_46 ?_
        obtain rfl : k = t := by omega
        exact V.iret 47 dX8_tick_47 (by unfold F_tick; rw [if_neg (fun z => z hin), show ix (nI k) = k from nI_clamp (by omega)]; exact ⟨rfl, EqR.rf _⟩)
      · refine J.aload_n 29 dX8_tick_29 rfl rfl ?_
        refine V.callvU 30 dX8_tick_30 ml_RX8_169 mi_yX8_tickOne mv_yX8_tickOne (c_X8_tickOne w _ (n := n) (ma := ma) (by rw [upR_self, tkN_at _ hn (by omega) (by omega) (by omega)]; exact (rmF_row v hk 0 (by decide)).trans hn0) hn (by rw [upR_self, tkN_at _ hn (by omega) (by omega) (by omega)]; exact (rmF_row v hk 171 (by decide)).trans hm0) hma (fun b hb => by rw [upR_self, tkN_at _ hn (by omega) (by omega) (by omega), rmF_row v hk _ (by omega)]; exact hal b hb)) rfl rfl (Nat.le_of_ble_eq_true rfl) (by decide) (by decide) o_178 rfl rfl (fun vt ht => ?_)
        subst ht
        rw [upR_self]
        refine V.heapv (upR_upR _ _ _ _) ?_
        refine V.iinc 33 dX8_tick_33 rfl (by decide) ?_
        refine J.goto 36 24 dX8_tick_36 (by decide) ?_
        exact ih (k + 1) (by omega) (by omega)
  refine J.iload_n 0 dX8_tick_0 rfl rfl ?_
  refine J.iconst 1 (nI 1) dX8_tick_1 (by decide +kernel) ?_
  refine J.bipush 2 (nI 20) dX8_tick_2 (by decide +kernel) ?_
  refine V.callsP 4 dX8_tick_4 ml_RX8_32 mi_yX8_in ms_yX8_in (c_X8_in w _ _ _ _) rfl rfl (Nat.le_of_ble_eq_true rfl) (by decide) (by decide) ?_
  refine V.if_neB 7 13 dX8_tick_7 (by decide) (fun c7 => ?_) (fun c7 => absurd hin c7)
  refine J.aload_n 13 dX8_tick_13 rfl rfl ?_
  refine V.callvU 14 dX8_tick_14 ml_RX8_166 mi_yX8_remember mv_yX8_remember (k_remember w _ hk0 (by omega)) rfl rfl (Nat.le_of_ble_eq_true rfl) (by decide) (by decide) o_178 rfl rfl (fun vr hr => ?_)
  subst hr
  have hag := rmF_row v hk
  refine J.aload_n 17 dX8_tick_17 rfl rfl ?_
  refine V.callvP 18 dX8_tick_18 ml_RX8_149 mi_yX8_rungSet mv_yX8_rungSet (c_X8_rungSet w _ ((hag 171 (by decide)).trans hm0) (by omega)) rfl rfl (Nat.le_of_ble_eq_true rfl) (by decide) (by decide) o_178 rfl rfl ?_
  refine J.istore_n 21 dX8_tick_21 rfl (by decide) ?_
  refine J.iconst 22 (nI 0) dX8_tick_22 (by decide +kernel) ?_
  refine J.istore_n 23 dX8_tick_23 rfl (by decide) ?_
  refine V.heapv (upR_id _ 179) ?_
  exact lp (t + 1) 0 (by omega) (by omega)
set_option maxHeartbeats 4000000 in
set_option maxRecDepth 100000 in
theorem p_tickO (w : Wd) (v : Vm2) {n K ma : Nat} {x : Int32} (hx : ¬ inF x (nI 1) (nI 20)) : CI w yX8_tick cX8_tick 4 (some .int) (rm 2 44) [.ref (wN w + 178), .int x] v (fun r v' => r = (F_tick v n K ma x).1 ∧ EqR v' (F_tick v n K ma x).2) := by
  refine CI.of (by decide) (Nat.le_of_ble_eq_true rfl) ?_
  refine J.iload_n 0 dX8_tick_0 rfl rfl ?_
  refine J.iconst 1 (nI 1) dX8_tick_1 (by decide +kernel) ?_
  refine J.bipush 2 (nI 20) dX8_tick_2 (by decide +kernel) ?_
  refine V.callsP 4 dX8_tick_4 ml_RX8_32 mi_yX8_in ms_yX8_in (c_X8_in w _ _ _ _) rfl rfl (Nat.le_of_ble_eq_true rfl) (by decide) (by decide) ?_
  refine V.if_neB 7 13 dX8_tick_7 (by decide) (fun c7 => absurd c7 hx) (fun c7 => ?_)
  refine J.ldc 10 (-1000000002) dX8_tick_10 kc_RX8_36 ?_
  exact V.iret 12 dX8_tick_12 (by unfold F_tick; rw [if_pos hx]; exact ⟨rfl, EqR.rf _⟩)
theorem p_tick (w : Wd) (v : Vm2) {n K ma : Nat} (hn0 : v 179 0 = nI n) (hn : n ≤ 8) (hk0 : v 178 1 = nI K) (hk : K ≤ 16) (hm0 : v 179 171 = nI ma) (hma : ma ≤ 6) (hal : ∀ b, b < ma → ∃ cl, cl < 8 ∧ v 179 (172 + b) = nI cl) {x : Int32} : CI w yX8_tick cX8_tick 4 (some .int) (rm 2 44) [.ref (wN w + 178), .int x] v (fun r v' => r = (F_tick v n K ma x).1 ∧ EqR v' (F_tick v n K ma x).2) := by
  by_cases hx : inF x (nI 1) (nI 20)
  · obtain ⟨t, h1, h2, rfl⟩ := inF_nI (by decide) (by decide) hx
    exact p_tickN w v hn0 hn hk0 hk hm0 hma hal h1 h2
  · exact p_tickO w v hx
