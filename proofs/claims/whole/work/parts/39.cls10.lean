/-! ===== part 39: book, draws, history ===== -/
theorem st_el : ∀ c, c < 16 → ([27, 35, 43, 51, 59, 67, 75, 83, 91, 99, 107, 115, 123, 131, 139, 147] : List Nat)[c]? = some (27 + 8 * c) := by decide
theorem fm_16 : ∀ a, a < 16 → ∀ b, b < 17 → fmF (nI a - nI b) (nI 16) = nI ((a + 16 - b) % 16) := by decide +kernel
theorem mi_nK : ∀ K, K < 17 → miF (nI (K + 1)) (nI 16) = nI (nK K) := by decide +kernel
set_option maxHeartbeats 600000 in
set_option maxRecDepth 100000 in
theorem c_X0_append (w : Wd) (v : Vm2) {wr : Nat} {c x : Int32} (hw0 : v 155 2 = nI wr) (hwr : wr < 20) : CI w yX0_append cX0_append 3 (some .int) (rm 0 0) [.ref (wN w + 155), .int c, .int x] v (fun r v' => r = nI (wr + 1) ∧ v' = up2 (up2 (up2 v 156 wr c) 157 wr x) 155 2 (nI (wr + 1))) := by
  refine CI.of (by decide) (Nat.le_of_ble_eq_true rfl) ?_
  refine J.aload_n 0 dX0_append_0 rfl rfl ?_
  refine V.getI 1 dX0_append_1 fl_RX0_18 i_155_2 ?_
  refine J.top hw0 ?_
  refine J.bipush 4 (nI 20) dX0_append_4 (by decide +kernel) ?_
  refine V.icmp_ge 6 39 dX0_append_6 (by decide) (by omega) (by omega) (fun c6 => absurd c6 (by omega)) (fun c6 => ?_)
  refine J.aload_n 9 dX0_append_9 rfl rfl ?_
  refine V.getR 10 dX0_append_10 fl_RX0_9 r_155_0 ?_
  refine J.aload_n 13 dX0_append_13 rfl rfl ?_
  refine V.getI 14 dX0_append_14 fl_RX0_18 i_155_2 ?_
  refine J.top hw0 ?_
  refine J.iload_n 17 dX0_append_17 rfl rfl ?_
  refine V.iast 18 dX0_append_18 a_156 (by omega) ?_
  refine J.aload_n 19 dX0_append_19 rfl rfl ?_
  refine V.getR 20 dX0_append_20 fl_RX0_15 r_155_1 ?_
  refine J.aload_n 23 dX0_append_23 rfl rfl ?_
  refine V.getI 24 dX0_append_24 fl_RX0_18 i_155_2 ?_
  refine J.top (b := nI wr) (by rw [up2_ne _ _ _ (by decide)]; exact hw0) ?_
  refine J.iload_n 27 dX0_append_27 rfl rfl ?_
  refine V.iast 28 dX0_append_28 a_157 (by omega) ?_
  refine J.aload_n 29 dX0_append_29 rfl rfl ?_
  refine J.dup 30 dX0_append_30 rfl ?_
  refine V.getI 31 dX0_append_31 fl_RX0_18 i_155_2 ?_
  refine J.top (b := nI wr) (by rw [up2_ne _ _ _ (by decide), up2_ne _ _ _ (by decide)]; exact hw0) ?_
  refine J.iconst 34 (nI 1) dX0_append_34 (by decide +kernel) ?_
  refine V.iadd 35 dX0_append_35 ?_
  refine V.putI 36 dX0_append_36 fl_RX0_18 fp_0_2 i_155_2 ?_
  refine J.aload_n 39 dX0_append_39 rfl rfl ?_
  refine V.getI 40 dX0_append_40 fl_RX0_18 i_155_2 ?_
  refine J.top (up2_self _ _ _ _) ?_
  exact V.iret 43 dX0_append_43 (⟨rfl, rfl⟩)
set_option maxHeartbeats 600000 in
set_option maxRecDepth 100000 in
theorem c_X0_firstWrong (w : Wd) (v : Vm2) {q : Nat} (hq : IsS q) {ρ : Nat → Int32} {n ma : Nat} (hR : RepS v q ρ n ma) {f : Nat} (hW : Wf ρ n f ma) {wr : Nat} (hw0 : v 155 2 = nI wr) (hwr : wr ≤ 20) : CI w yX0_firstWrong cX0_firstWrong 3 (some .int) (rm 1 21) [.ref (wN w + 155), .ref (wN w + q)] v (fun r v' => r = weF ρ (v 156) (v 157) n wr 0 ∧ v' = v) := by
  refine CI.of (by decide) (Nat.le_of_ble_eq_true rfl) ?_
  have hn := hW.2.1
  have lp : ∀ (m : Nat) (k : Nat), (k ≤ wr) → (weF ρ (v 156) (v 157) n wr 0 = weF ρ (v 156) (v 157) n (wr - k) k) → wr - k < m → J w yX0_firstWrong cX0_firstWrong 3 (some .int) (rm 1 21) XT (ZJ w 185 0 0 (PI w (fun r v' => r = weF ρ (v 156) (v 157) n wr 0 ∧ v' = v))) 2 [(0, .ref (wN w + 155)), (1, .ref (wN w + q)), (2, .int (nI k))] [] 185 (hv w (v)) 0 0 := by
    intro m
    induction m with
    | zero =>
      intro k hi0 hi1 hm
      exact absurd hm (by omega)
    | succ m ih =>
      intro k hi0 hi1 hm
      refine J.iload_n 2 dX0_firstWrong_2 rfl rfl ?_
      refine J.aload_n 3 dX0_firstWrong_3 rfl rfl ?_
      refine V.getI 4 dX0_firstWrong_4 fl_RX0_18 i_155_2 ?_
      refine J.top (b := nI wr) hw0 ?_
      refine V.icmp_ge 7 50 dX0_firstWrong_7 (by decide) (by omega) (by omega) (fun c7 => ?_) (fun c7 => ?_)
      · refine J.iconst 50 (-1) dX0_firstWrong_50 (by decide +kernel) ?_
        obtain rfl : k = wr := by omega
        exact V.iret 51 dX0_firstWrong_51 (⟨by rw [hi1, Nat.sub_self]; rfl, rfl⟩)
      · obtain ⟨d, hd⟩ : ∃ d, wr - k = d + 1 := ⟨wr - k - 1, by omega⟩
        rw [hd] at hi1
        refine J.aload_n 10 dX0_firstWrong_10 rfl rfl ?_
        refine J.aload_n 11 dX0_firstWrong_11 rfl rfl ?_
        refine V.getR 12 dX0_firstWrong_12 fl_RX0_9 r_155_0 ?_
        refine J.iload_n 15 dX0_firstWrong_15 rfl rfl ?_
        refine V.iald 16 dX0_firstWrong_16 a_156 (by omega) ?_
        refine V.callvP 17 dX0_firstWrong_17 ml_RX0_22 mi_yX5_has mv_yX5_has (c_X5_has w _ hq _ (hR.1.1.trans hW.1) (by omega)) rfl rfl (Nat.le_of_ble_eq_true rfl) (by decide) (by decide) hq.o rfl rfl ?_
        refine V.if_eqB 20 42 dX0_firstWrong_20 (by decide) (fun c20 => ?_) (fun c20 => ?_)
        · have e9 : weF ρ (v 156) (v 157) n (d + 1) k = nI k := (show (if boW ρ (v 156) (v 157) n k then nI k else weF ρ (v 156) (v 157) n d (k + 1)) = _ from if_pos (fun z => c20 z.1))
          refine J.iload_n 42 dX0_firstWrong_42 rfl rfl ?_
          exact V.iret 43 dX0_firstWrong_43 (⟨by rw [hi1, e9], rfl⟩)
        · obtain ⟨cl, hcl, ecl⟩ := (clkB_nI (by omega)).mp c20
          have ec : (v 156 k).toNatClampNeg = cl := by rw [ecl]; exact nI_clamp (by omega)
          refine J.aload_n 23 dX0_firstWrong_23 rfl rfl ?_
          refine J.aload_n 24 dX0_firstWrong_24 rfl rfl ?_
          refine V.getR 25 dX0_firstWrong_25 fl_RX0_9 r_155_0 ?_
          refine J.iload_n 28 dX0_firstWrong_28 rfl rfl ?_
          refine V.iald 29 dX0_firstWrong_29 a_156 (by omega) ?_
          refine J.top ecl ?_
          refine V.callvP 30 dX0_firstWrong_30 ml_RX0_28 mi_yX5_aim mv_yX5_aim (c_X5_aim w _ hq hR (by omega) (by omega)) rfl rfl (Nat.le_of_ble_eq_true rfl) (by decide) (by decide) hq.o rfl rfl ?_
          refine J.aload_n 33 dX0_firstWrong_33 rfl rfl ?_
          refine V.getR 34 dX0_firstWrong_34 fl_RX0_15 r_155_1 ?_
          refine J.iload_n 37 dX0_firstWrong_37 rfl rfl ?_
          refine V.iald 38 dX0_firstWrong_38 a_157 (by omega) ?_
          refine J.icmp_eq 39 44 dX0_firstWrong_39 (by decide) (fun c39 => ?_) (fun c39 => ?_)
          · have e9 : weF ρ (v 156) (v 157) n (d + 1) k = weF ρ (v 156) (v 157) n d (k + 1) := (show (if boW ρ (v 156) (v 157) n k then nI k else weF ρ (v 156) (v 157) n d (k + 1)) = _ from if_neg (fun z => z ⟨c20, by rw [ec]; exact c39⟩))
            refine V.iinc 44 dX0_firstWrong_44 rfl (by decide) ?_
            refine J.goto 47 2 dX0_firstWrong_47 (by decide) ?_
            exact ih (k + 1) (by omega) (by rw [hi1, e9]; congr 1; omega) (by omega)
          · have e9 : weF ρ (v 156) (v 157) n (d + 1) k = nI k := (show (if boW ρ (v 156) (v 157) n k then nI k else weF ρ (v 156) (v 157) n d (k + 1)) = _ from if_pos (fun z => c39 (by have := z.2; rw [ec] at this; exact this)))
            refine J.iload_n 42 dX0_firstWrong_42 rfl rfl ?_
            exact V.iret 43 dX0_firstWrong_43 (⟨by rw [hi1, e9], rfl⟩)
  refine J.iconst 0 (nI 0) dX0_firstWrong_0 (by decide +kernel) ?_
  refine J.istore_n 1 dX0_firstWrong_1 rfl (by decide) ?_
  exact lp (wr + 1) 0 (by omega) rfl (by omega)
set_option maxHeartbeats 600000 in
set_option maxRecDepth 100000 in
theorem c_X2_next (w : Wd) (v : Vm2) {a n : Nat} (hs : v 158 0 = nI a) (ha : a < 2 ^ 31) (h0 : 0 < n) (hn : n < 2 ^ 31) : CI w yX2_next cX2_next 2 (some .int) (rm 0 0) [.ref (wN w + 158), .int (nI n)] v (fun r v' => r = nI (drN a n) ∧ v' = up2 v 158 0 (nI (sdN a))) := by
  refine CI.of (by decide) (Nat.le_of_ble_eq_true rfl) ?_
  refine J.aload_n 0 dX2_next_0 rfl rfl ?_
  refine J.aload_n 1 dX2_next_1 rfl rfl ?_
  refine V.getI 2 dX2_next_2 fl_RX2_7 i_158_0 ?_
  refine J.top hs ?_
  refine J.i2l 5 dX2_next_5 ?_
  refine J.ldc2 6 (1103515245) dX2_next_6 kl_RX2_13 ?_
  refine J.lmul 9 dX2_next_9 ?_
  refine J.ldc2 10 (12345) dX2_next_10 kl_RX2_15 ?_
  refine J.ladd 13 dX2_next_13 ?_
  refine J.ldc2 14 (2147483648) dX2_next_14 kl_RX2_17 ?_
  refine J.lrem 17 dX2_next_17 (by decide) ?_
  refine J.l2i 18 dX2_next_18 ?_
  refine J.top (b := nI (sdN a)) (sdF_N ha) ?_
  refine V.putI 19 dX2_next_19 fl_RX2_7 fp_2_0 i_158_0 ?_
  refine J.iload_n 22 dX2_next_22 rfl rfl ?_
  refine V.if_le 23 38 dX2_next_23 (by decide) (by omega) (fun c23 => absurd c23 (by omega)) (fun c23 => ?_)
  refine J.aload_n 26 dX2_next_26 rfl rfl ?_
  refine V.getI 27 dX2_next_27 fl_RX2_7 i_158_0 ?_
  refine J.top (b := sdF (nI a)) (by rw [up2_self, sdF_N ha]) ?_
  refine J.ldc 30 (65536) dX2_next_30 kc_RX2_19 (J.top (b := nI 65536) (by decide +kernel) ?_)
  refine J.idiv 32 dX2_next_32 (by decide) ?_
  refine J.iload_n 33 dX2_next_33 rfl rfl ?_
  refine J.irem 34 dX2_next_34 (nI_n0 h0 hn) ?_
  refine J.goto 35 39 dX2_next_35 (by decide) ?_
  exact V.iret 39 dX2_next_39 (⟨drF_N ha h0 hn, rfl⟩)
set_option maxHeartbeats 600000 in
set_option maxRecDepth 100000 in
theorem c_X4_remember (w : Wd) (v : Vm2) {nx K : Nat} (hx0 : v 25 1 = nI nx) (hx : nx < 16) (hk0 : v 25 2 = nI K) (hk : K ≤ 16) {q : Nat} (hq : IsS q) (hq8 : q + 8 ≤ 25) : CU w yX4_remember cX4_remember 2 (rm 2 61) [.ref (wN w + 25), .ref (wN w + q)] v (fun v' => ∃ u, Cp u v (27 + 8 * nx) q 8 ∧ v' = up2 (up2 u 25 1 (nI ((nx + 1) % 16))) 25 2 (nI (nK K))) := by
  refine CU.of (by decide) (Nat.le_of_ble_eq_true rfl) ?_
  refine J.aload_n 0 dX4_remember_0 rfl rfl ?_
  refine V.getR 1 dX4_remember_1 fl_RX4_11 r_25_0 ?_
  refine J.aload_n 4 dX4_remember_4 rfl rfl ?_
  refine V.getI 5 dX4_remember_5 fl_RX4_18 i_25_1 ?_
  refine J.top hx0 ?_
  refine V.aald 8 dX4_remember_8 a_26 (hx) (st_el nx hx) ?_
  refine J.aload_n 9 dX4_remember_9 rfl rfl ?_
  refine V.callvU 10 dX4_remember_10 ml_RX4_22 mi_yX5_copyFrom mv_yX5_copyFrom (c_X5_copyFrom w _ (isS_h nx hx) hq (by omega)) rfl rfl (Nat.le_of_ble_eq_true rfl) (by decide) (by decide) (isS_h nx hx).o rfl rfl (fun u hu => ?_)
  refine J.aload_n 13 dX4_remember_13 rfl rfl ?_
  refine J.aload_n 14 dX4_remember_14 rfl rfl ?_
  refine V.getI 15 dX4_remember_15 fl_RX4_18 i_25_1 ?_
  refine J.top (b := nI nx) (by rw [hu.1 25 (by omega)]; exact hx0) ?_
  refine J.iconst 18 (nI 1) dX4_remember_18 (by decide +kernel) ?_
  refine V.iadd 19 dX4_remember_19 ?_
  refine J.bipush 20 (nI 16) dX4_remember_20 (by decide +kernel) ?_
  refine J.irem 22 dX4_remember_22 (by decide) ?_
  refine J.top (pk_rem (by omega) (by decide) (by decide)) ?_
  refine V.putI 23 dX4_remember_23 fl_RX4_18 fp_4_1 i_25_1 ?_
  refine J.aload_n 26 dX4_remember_26 rfl rfl ?_
  refine J.aload_n 27 dX4_remember_27 rfl rfl ?_
  refine V.getI 28 dX4_remember_28 fl_RX4_26 i_25_2 ?_
  refine J.top (b := nI K) (by rw [up2_o _ _ (by omega), hu.1 25 (by omega)]; exact hk0) ?_
  refine J.iconst 31 (nI 1) dX4_remember_31 (by decide +kernel) ?_
  refine V.iadd 32 dX4_remember_32 ?_
  refine J.bipush 33 (nI 16) dX4_remember_33 (by decide +kernel) ?_
  refine V.callsP 35 dX4_remember_35 ml_RX4_29 mi_yJ9_min_7cf53 ms_yJ9_min_7cf53 (c_J9_min_7cf53 w _ _ _) rfl rfl (Nat.le_of_ble_eq_true rfl) (by decide) (by decide) ?_
  refine J.top (mi_nK K (by omega)) ?_
  refine V.putI 38 dX4_remember_38 fl_RX4_26 fp_4_2 i_25_2 ?_
  exact V.vret 41 dX4_remember_41 (⟨u, hu, rfl⟩)
set_option maxHeartbeats 600000 in
set_option maxRecDepth 100000 in
theorem c_X4_takeBack (w : Wd) (v : Vm2) {nx K t : Nat} (hx0 : v 25 1 = nI nx) (hx : nx < 16) (hk0 : v 25 2 = nI K) (hk : K ≤ 16) (ht1 : 1 ≤ t) (ht : t ≤ K) {q : Nat} (hq : IsS q) (hq8 : q + 8 ≤ 25) : CU w yX4_takeBack cX4_takeBack 3 (rm 2 61) [.ref (wN w + 25), .int (nI t), .ref (wN w + q)] v (fun v' => Cp v' (up2 (up2 v 25 1 (nI ((nx + 16 - t) % 16))) 25 2 (nI (K - t))) q (27 + 8 * ((nx + 16 - t) % 16)) 8) := by
  refine CU.of (by decide) (Nat.le_of_ble_eq_true rfl) ?_
  refine J.iload_n 0 dX4_takeBack_0 rfl rfl ?_
  refine J.iconst 1 (nI 1) dX4_takeBack_1 (by decide +kernel) ?_
  refine V.icmp_lt 2 51 dX4_takeBack_2 (by decide) (by omega) (by omega) (fun c2 => absurd c2 (by omega)) (fun c2 => ?_)
  refine J.iload_n 5 dX4_takeBack_5 rfl rfl ?_
  refine J.aload_n 6 dX4_takeBack_6 rfl rfl ?_
  refine V.getI 7 dX4_takeBack_7 fl_RX4_26 i_25_2 ?_
  refine J.top hk0 ?_
  refine V.icmp_gt 10 51 dX4_takeBack_10 (by decide) (by omega) (by omega) (fun c10 => absurd c10 (by omega)) (fun c10 => ?_)
  refine J.aload_n 13 dX4_takeBack_13 rfl rfl ?_
  refine J.aload_n 14 dX4_takeBack_14 rfl rfl ?_
  refine V.getI 15 dX4_takeBack_15 fl_RX4_18 i_25_1 ?_
  refine J.top hx0 ?_
  refine J.iload_n 18 dX4_takeBack_18 rfl rfl ?_
  refine J.isub 19 dX4_takeBack_19 ?_
  refine J.bipush 20 (nI 16) dX4_takeBack_20 (by decide +kernel) ?_
  refine V.callsP 22 dX4_takeBack_22 ml_RX4_35 mi_yJ9_floorMod_7cf53 ms_yJ9_floorMod_7cf53 (c_J9_floorMod_7cf53 w _ (by decide)) rfl rfl (Nat.le_of_ble_eq_true rfl) (by decide) (by decide) ?_
  refine J.top (fm_16 nx hx t (by omega)) ?_
  refine V.putI 25 dX4_takeBack_25 fl_RX4_18 fp_4_1 i_25_1 ?_
  refine J.aload_n 28 dX4_takeBack_28 rfl rfl ?_
  refine J.dup 29 dX4_takeBack_29 rfl ?_
  refine V.getI 30 dX4_takeBack_30 fl_RX4_26 i_25_2 ?_
  refine J.top (b := nI K) (by rw [up2_o _ _ (by omega)]; exact hk0) ?_
  refine J.iload_n 33 dX4_takeBack_33 rfl rfl ?_
  refine V.isub 34 dX4_takeBack_34 (ht) ?_
  refine V.putI 35 dX4_takeBack_35 fl_RX4_26 fp_4_2 i_25_2 ?_
  refine J.aload_n 38 dX4_takeBack_38 rfl rfl ?_
  refine J.aload_n 39 dX4_takeBack_39 rfl rfl ?_
  refine V.getR 40 dX4_takeBack_40 fl_RX4_11 r_25_0 ?_
  refine J.aload_n 43 dX4_takeBack_43 rfl rfl ?_
  refine V.getI 44 dX4_takeBack_44 fl_RX4_18 i_25_1 ?_
  refine J.top (b := nI ((nx + 16 - t) % 16)) (by rw [up2_o _ _ (by omega), up2_self]) ?_
  refine V.aald 47 dX4_takeBack_47 a_26 (show _ < 16 by omega) (st_el _ (by omega)) ?_
  refine V.callvU 48 dX4_takeBack_48 ml_RX4_22 mi_yX5_copyFrom mv_yX5_copyFrom (c_X5_copyFrom w _ hq (isS_h ((nx + 16 - t) % 16) (by omega)) (by omega)) rfl rfl (Nat.le_of_ble_eq_true rfl) (by decide) (by decide) hq.o rfl rfl (fun u hu => ?_)
  exact V.vret 51 dX4_takeBack_51 (hu)
set_option maxHeartbeats 600000 in
set_option maxRecDepth 100000 in
theorem c_X4_forget (w : Wd) (v : Vm2)  : CU w yX4_forget cX4_forget 1 (rm 0 0) [.ref (wN w + 25)] v (fun v' => v' = up2 v 25 2 (nI 0)) := by
  refine CU.of (by decide) (Nat.le_of_ble_eq_true rfl) ?_
  refine J.aload_n 0 dX4_forget_0 rfl rfl ?_
  refine J.iconst 1 (nI 0) dX4_forget_1 (by decide +kernel) ?_
  refine V.putI 2 dX4_forget_2 fl_RX4_26 fp_4_2 i_25_2 ?_
  exact V.vret 5 dX4_forget_5 (rfl)
