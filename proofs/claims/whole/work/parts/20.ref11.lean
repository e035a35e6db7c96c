/-! ===== part 20: the reference reads clauses ===== -/
def RS (v u : Vm2) (s : Nat) (r : PR) : Prop := match r with
  | .inl (k, p) => Bd v u s k p
  | .inr (a, ρ, tf, ts) => Gd v u a ρ tf ts ∧ a ≤ s + 1
theorem numS_y {t : Nat → Int32} {s a : Nat} {lo hi : Int32} {k : Int32 → Nat → PR} (h : nuK t s (skp t s a) lo hi = 0) : numS t s a lo hi k = k (nuV t s (skp t s a)) (nuE t s (skp t s a)) := if_pos h
theorem numS_n {t : Nat → Int32} {s a : Nat} {lo hi : Int32} {k : Int32 → Nat → PR} (h : ¬ nuK t s (skp t s a) lo hi = 0) : numS t s a lo hi k = .inl (nuK t s (skp t s a) lo hi, skp t s a) := if_neg h
theorem nuE_in {t : Nat → Int32} {s a : Nat} (h : a ≤ s) : nuE t s (skp t s a) ≤ s ∧ a ≤ nuE t s (skp t s a) := by
  have h1 := skp_in (t := t) h
  have h2 := dg_in (t := t) (fr := skp t s a) (x := nI 0) h1.2
  unfold nuE
  omega

set_option maxHeartbeats 4000000 in
set_option maxRecDepth 100000 in
theorem c_X8_numberX (w : Wd) (v : Vm2) {lo hi : Int32} (hw : ¬ v 178 12 = 0) : CI w yX8_number cX8_number 5 (some .int) (rm 2 42) [.ref (wN w + 178), .int lo, .int hi] v (fun r v' => r = lo ∧ v' = v) := by
  refine CI.of (by decide) (Nat.le_of_ble_eq_true rfl) ?_
  refine J.aload_n 0 dX8_number_0 rfl rfl ?_
  refine V.callvP 1 dX8_number_1 ml_RX8_44 mi_yX8_fine mv_yX8_fine (c_X8_fine w _) rfl rfl (Nat.le_of_ble_eq_true rfl) (by decide) (by decide) o_178 rfl rfl ?_
  refine V.if_neB 4 9 dX8_number_4 (by decide) (fun c4 => absurd c4 hw) (fun c4 => ?_)
  refine J.iload_n 7 dX8_number_7 rfl rfl ?_
  exact V.iret 8 dX8_number_8 (⟨rfl, rfl⟩)
set_option maxHeartbeats 4000000 in
set_option maxRecDepth 100000 in
theorem k_readClock (w : Wd) {v u : Vm2} {s a n tf ts : Nat} {ρ : Nat → Int32} (hG : Gd v u a ρ tf ts) (hs0 : v 178 4 = nI s) (ha : a ≤ s) (hs : s ≤ 200) (hn0 : ρ 0 = nI n) (hn : n ≤ 8) {b : Nat} : CU w yX8_readClock cX8_readClock 3 (rm 3 66) [.ref (wN w + 178), .int (nI b)] u (fun u' => RS v u' s (clK (v 180) s a b ρ n tf ts)) := by
  refine CU.of (by decide) (Nat.le_of_ble_eq_true rfl) ?_
  refine J.aload_n 0 dX8_readClock_0 rfl rfl ?_
  refine V.getR 1 dX8_readClock_1 fl_RX8_7 r_178_0 ?_
  refine J.sipush 4 (nI 3648) dX8_readClock_4 (by decide +kernel) ?_
  refine V.iald 7 dX8_readClock_7 a_179 (by omega) ?_
  refine J.top ((hG.2.2.2.1 0 (by decide)).trans hn0) ?_
  refine J.istore_n 8 dX8_readClock_8 rfl (by decide) ?_
  refine J.iload_n 9 dX8_readClock_9 rfl rfl ?_
  refine J.bipush 10 (nI 8) dX8_readClock_10 (by decide +kernel) ?_
  refine V.icmp_ne 12 22 dX8_readClock_12 (by decide) (by omega) (by omega) (fun c12 => ?_) (fun c12 => ?_)
  · refine J.aload_n 22 dX8_readClock_22 rfl rfl ?_
    refine V.getR 23 dX8_readClock_23 fl_RX8_7 r_178_0 ?_
    refine J.sipush 26 (nI 3651) dX8_readClock_26 (by decide +kernel) ?_
    refine J.iload_n 29 dX8_readClock_29 rfl rfl ?_
    refine V.iadd 30 dX8_readClock_30 ?_
    refine J.aload_n 31 dX8_readClock_31 rfl rfl ?_
    refine J.iconst 32 (nI 0) dX8_readClock_32 (by decide +kernel) ?_
    refine J.sipush 33 (nI 9999) dX8_readClock_33 (by decide +kernel) ?_
    refine V.callv 36 dX8_readClock_36 ml_RX8_65 mi_yX8_number mv_yX8_number (k_number w v u hG hs0 ha hs) rfl rfl (Nat.le_of_ble_eq_true rfl) (by decide) (by decide) o_178 rfl rfl (fun r36 u36 h36 => ?_)
    obtain ⟨rfl, hz, hnz⟩ := h36
    have hE := nuE_in (t := v 180) ha
    by_cases e1 : nuK (v 180) s (skp (v 180) s a) (nI 0) (nI 9999) = 0
    · have hG2 := (hz e1).1.row (j := 3 + n) (q := 3651 + n) (x := (nuV (v 180) s (skp (v 180) s a))) (by omega) (by omega)
      refine V.iast 39 dX8_readClock_39 a_179 (by omega) ?_
      refine J.aload_n 40 dX8_readClock_40 rfl rfl ?_
      refine V.getR 41 dX8_readClock_41 fl_RX8_7 r_178_0 ?_
      refine J.sipush 44 (nI 3659) dX8_readClock_44 (by decide +kernel) ?_
      refine J.iload_n 47 dX8_readClock_47 rfl rfl ?_
      refine V.iadd 48 dX8_readClock_48 ?_
      refine J.aload_n 49 dX8_readClock_49 rfl rfl ?_
      refine J.bipush 50 (nI 90) dX8_readClock_50 (by decide +kernel) ?_
      refine J.bipush 52 (nI 110) dX8_readClock_52 (by decide +kernel) ?_
      refine V.callv 54 dX8_readClock_54 ml_RX8_65 mi_yX8_number mv_yX8_number (k_number w v _ hG2 hs0 hE.1 hs) rfl rfl (Nat.le_of_ble_eq_true rfl) (by decide) (by decide) o_178 rfl rfl (fun r54 u54 h54 => ?_)
      obtain ⟨rfl, hz2, hnz2⟩ := h54
      have hE2 := nuE_in (t := v 180) hE.1
      by_cases e2 : nuK (v 180) s (skp (v 180) s (nuE (v 180) s (skp (v 180) s a))) (nI 90) (nI 110) = 0
      · have hG3 := (hz2 e2).1.row (j := 11 + n) (q := 3659 + n) (x := nuV (v 180) s (skp (v 180) s (nuE (v 180) s (skp (v 180) s a)))) (by omega) (by omega)
        refine V.iast 57 dX8_readClock_57 a_179 (by omega) ?_
        refine J.aload_n 58 dX8_readClock_58 rfl rfl ?_
        refine V.getR 59 dX8_readClock_59 fl_RX8_7 r_178_0 ?_
        refine J.sipush 62 (nI 3648) dX8_readClock_62 (by decide +kernel) ?_
        refine J.dup2 65 dX8_readClock_65 rfl rfl ?_
        refine V.iald 66 dX8_readClock_66 a_179 (by omega) ?_
        refine J.top (b := nI n) ((hG3.2.2.2.1 0 (by decide)).trans (by rw [upd_ne _ _ (by omega), upd_ne _ _ (by omega)]; exact hn0)) ?_
        refine J.iconst 67 (nI 1) dX8_readClock_67 (by decide +kernel) ?_
        refine V.iadd 68 dX8_readClock_68 ?_
        refine V.iast 69 dX8_readClock_69 a_179 (by omega) ?_
        exact V.vret 70 dX8_readClock_70 (by unfold clK; rw [if_neg c12]; first | (rw [numS_y e1]; (try dsimp only); first | (rw [numS_y e2]; exact ⟨hG3.row (j := 0) rfl (by decide), by omega⟩) | (rw [numS_n e2]; exact (hB3.row (by omega)).row (by omega))) | (rw [numS_n e1]; exact (hB1.row (by omega)).row (by omega)))
      · have hB3 := hnz2 e2
        refine V.iast 57 dX8_readClock_57 a_179 (by omega) ?_
        refine J.aload_n 58 dX8_readClock_58 rfl rfl ?_
        refine V.getR 59 dX8_readClock_59 fl_RX8_7 r_178_0 ?_
        refine J.sipush 62 (nI 3648) dX8_readClock_62 (by decide +kernel) ?_
        refine J.dup2 65 dX8_readClock_65 rfl rfl ?_
        refine V.iald 66 dX8_readClock_66 a_179 (by omega) ?_
        refine J.iconst 67 (nI 1) dX8_readClock_67 (by decide +kernel) ?_
        refine J.iadd 68 dX8_readClock_68 ?_
        refine V.iast 69 dX8_readClock_69 a_179 (by omega) ?_
        exact V.vret 70 dX8_readClock_70 (by unfold clK; rw [if_neg c12]; first | (rw [numS_y e1]; (try dsimp only); first | (rw [numS_y e2]; exact ⟨hG3.row (j := 0) rfl (by decide), by omega⟩) | (rw [numS_n e2]; exact (hB3.row (by omega)).row (by omega))) | (rw [numS_n e1]; exact (hB1.row (by omega)).row (by omega)))
    · have hB1 := (hnz e1).row (q := 3651 + n) (x := (nuV (v 180) s (skp (v 180) s a))) (by omega)
      refine V.iast 39 dX8_readClock_39 a_179 (by omega) ?_
      refine J.aload_n 40 dX8_readClock_40 rfl rfl ?_
      refine V.getR 41 dX8_readClock_41 fl_RX8_7 r_178_0 ?_
      refine J.sipush 44 (nI 3659) dX8_readClock_44 (by decide +kernel) ?_
      refine J.iload_n 47 dX8_readClock_47 rfl rfl ?_
      refine V.iadd 48 dX8_readClock_48 ?_
      refine J.aload_n 49 dX8_readClock_49 rfl rfl ?_
      refine J.bipush 50 (nI 90) dX8_readClock_50 (by decide +kernel) ?_
      refine J.bipush 52 (nI 110) dX8_readClock_52 (by decide +kernel) ?_
      refine V.callv 54 dX8_readClock_54 ml_RX8_65 mi_yX8_number mv_yX8_number (c_X8_numberX w _ hB1.w0) rfl rfl (Nat.le_of_ble_eq_true rfl) (by decide) (by decide) o_178 rfl rfl (fun r54 u54 h54 => ?_)
      obtain ⟨rfl, rfl⟩ := h54
      refine V.iast 57 dX8_readClock_57 a_179 (by omega) ?_
      refine J.aload_n 58 dX8_readClock_58 rfl rfl ?_
      refine V.getR 59 dX8_readClock_59 fl_RX8_7 r_178_0 ?_
      refine J.sipush 62 (nI 3648) dX8_readClock_62 (by decide +kernel) ?_
      refine J.dup2 65 dX8_readClock_65 rfl rfl ?_
      refine V.iald 66 dX8_readClock_66 a_179 (by omega) ?_
      refine J.iconst 67 (nI 1) dX8_readClock_67 (by decide +kernel) ?_
      refine J.iadd 68 dX8_readClock_68 ?_
      refine V.iast 69 dX8_readClock_69 a_179 (by omega) ?_
      exact V.vret 70 dX8_readClock_70 (by unfold clK; rw [if_neg c12]; first | (rw [numS_y e1]; (try dsimp only); first | (rw [numS_y e2]; exact ⟨hG3.row (j := 0) rfl (by decide), by omega⟩) | (rw [numS_n e2]; exact (hB3.row (by omega)).row (by omega))) | (rw [numS_n e1]; exact (hB1.row (by omega)).row (by omega)))
  · refine J.aload_n 15 dX8_readClock_15 rfl rfl ?_
    refine J.iconst 16 (nI 3) dX8_readClock_16 (by decide +kernel) ?_
    refine J.iload_n 17 dX8_readClock_17 rfl rfl ?_
    refine V.callvU 18 dX8_readClock_18 ml_RX8_61 mi_yX8_fail mv_yX8_fail (k_fail w u hG.2.2.2.2.2.1) rfl rfl (Nat.le_of_ble_eq_true rfl) (by decide) (by decide) o_178 rfl rfl (fun v18 h18 => ?_)
    subst h18
    exact V.vret 21 dX8_readClock_21 (by unfold clK; rw [if_pos c12]; exact hG.bad (s := s) (by omega) (by decide) (by decide))
set_option maxHeartbeats 4000000 in
set_option maxRecDepth 100000 in
theorem k_readOther_f (w : Wd) {v u : Vm2} {s a n tf ts : Nat} {ρ : Nat → Int32} (hG : Gd v u a ρ tf ts) (hs0 : v 178 4 = nI s) (ha : a ≤ s) (hs : s ≤ 200) (hn0 : ρ 0 = nI n) (hn : n ≤ 8) {b : Nat} (htf : tf ≤ 1) : CU w yX8_readOther cX8_readOther 5 (rm 3 66) [.ref (wN w + 178), .int (nI 102), .int (nI b)] u (fun u' => RS v u' s (clO (v 180) s a b (nI 102) ρ n tf ts)) := by
  refine CU.of (by decide) (Nat.le_of_ble_eq_true rfl) ?_
  refine J.iload_n 0 dX8_readOther_0 rfl rfl ?_
  refine J.bipush 1 (nI 102) dX8_readOther_1 (by decide +kernel) ?_
  refine J.icmp_ne 3 14 dX8_readOther_3 (by decide) (fun q => absurd q (by decide)) (fun _ => ?_)
  refine J.aload_n 6 dX8_readOther_6 rfl rfl ?_
  refine V.getI 7 dX8_readOther_7 fl_RX8_69 i_178_15 ?_
  refine J.top hG.2.2.2.2.2.2.1 ?_
  refine J.iconst 10 (nI 1) dX8_readOther_10 (by decide +kernel) ?_
  refine V.icmp_eq 11 28 dX8_readOther_11 (by decide) (by omega) (by omega) (fun c11 => ?_) (fun c11 => ?_)
  · refine J.iconst 28 (nI 1) dX8_readOther_28 (by decide +kernel) ?_
    refine J.goto 29 33 dX8_readOther_29 (by decide) ?_
    refine J.istore_n 33 dX8_readOther_33 rfl (by decide) ?_
    refine J.iload_n 34 dX8_readOther_34 rfl rfl ?_
    refine J.if_eq 35 47 dX8_readOther_35 (by decide) (fun q => absurd q (by decide)) (fun _ => ?_)
    refine J.aload_n 38 dX8_readOther_38 rfl rfl ?_
    refine J.iconst 39 (nI 4) dX8_readOther_39 (by decide +kernel) ?_
    refine J.iload_n 40 dX8_readOther_40 rfl rfl ?_
    refine V.callvU 41 dX8_readOther_41 ml_RX8_61 mi_yX8_fail mv_yX8_fail (k_fail w u hG.2.2.2.2.2.1) rfl rfl (Nat.le_of_ble_eq_true rfl) (by decide) (by decide) o_178 rfl rfl (fun v41 h41 => ?_)
    subst h41
    refine J.goto 44 186 dX8_readOther_44 (by decide) ?_
    exact V.vret 186 dX8_readOther_186 (by unfold clO; first | (rw [if_pos (Or.inl ⟨rfl, c11⟩)]; exact hG.bad (s := s) (by omega) (by decide) (by decide)) | (rw [if_neg (fun z => z.elim (fun z => c11 z.2) (fun z => absurd z.1 (by decide))), if_pos rfl]; first | (rw [numS_y e1]; exact ⟨hG2, by omega⟩) | (rw [numS_n e1]; exact hB1)))
  · refine J.iload_n 14 dX8_readOther_14 rfl rfl ?_
    refine J.bipush 15 (nI 115) dX8_readOther_15 (by decide +kernel) ?_
    refine J.icmp_ne 17 32 dX8_readOther_17 (by decide) (fun _ => ?_) (fun q => absurd q (by decide))
    refine J.iconst 32 (nI 0) dX8_readOther_32 (by decide +kernel) ?_
    refine J.istore_n 33 dX8_readOther_33 rfl (by decide) ?_
    refine J.iload_n 34 dX8_readOther_34 rfl rfl ?_
    refine J.if_eq 35 47 dX8_readOther_35 (by decide) (fun _ => ?_) (fun q => absurd q (by decide))
    refine J.iload_n 47 dX8_readOther_47 rfl rfl ?_
    refine J.bipush 48 (nI 102) dX8_readOther_48 (by decide +kernel) ?_
    refine J.icmp_ne 50 75 dX8_readOther_50 (by decide) (fun q => absurd q (by decide)) (fun _ => ?_)
    refine J.aload_n 53 dX8_readOther_53 rfl rfl ?_
    refine J.iconst 54 (nI 1) dX8_readOther_54 (by decide +kernel) ?_
    refine V.putI 55 dX8_readOther_55 fl_RX8_69 fp_8_15 i_178_15 ?_
    refine J.aload_n 58 dX8_readOther_58 rfl rfl ?_
    refine V.getR 59 dX8_readOther_59 fl_RX8_7 r_178_0 ?_
    refine J.sipush 62 (nI 3649) dX8_readOther_62 (by decide +kernel) ?_
    refine J.aload_n 65 dX8_readOther_65 rfl rfl ?_
    refine J.iconst 66 (nI 0) dX8_readOther_66 (by decide +kernel) ?_
    refine J.iconst 67 (nI 3) dX8_readOther_67 (by decide +kernel) ?_
    refine V.callv 68 dX8_readOther_68 ml_RX8_65 mi_yX8_number mv_yX8_number (k_number w v _ (hG.tf (tf' := 1)) hs0 ha hs) rfl rfl (Nat.le_of_ble_eq_true rfl) (by decide) (by decide) o_178 rfl rfl (fun r68 u68 h68 => ?_)
    obtain ⟨rfl, hz, hnz⟩ := h68
    have hE := nuE_in (t := v 180) ha
    by_cases e1 : nuK (v 180) s (skp (v 180) s a) (nI 0) (nI 3) = 0
    · have hG2 := (hz e1).1.row (j := 1) (q := 3649) (x := (nuV (v 180) s (skp (v 180) s a))) (by omega) (by omega)
      refine V.iast 71 dX8_readOther_71 a_179 (by omega) ?_
      refine J.goto 72 186 dX8_readOther_72 (by decide) ?_
      exact V.vret 186 dX8_readOther_186 (by unfold clO; first | (rw [if_pos (Or.inl ⟨rfl, c11⟩)]; exact hG.bad (s := s) (by omega) (by decide) (by decide)) | (rw [if_neg (fun z => z.elim (fun z => c11 z.2) (fun z => absurd z.1 (by decide))), if_pos rfl]; first | (rw [numS_y e1]; exact ⟨hG2, by omega⟩) | (rw [numS_n e1]; exact hB1)))
    · have hB1 := (hnz e1).row (q := 3649) (x := (nuV (v 180) s (skp (v 180) s a))) (by omega)
      refine V.iast 71 dX8_readOther_71 a_179 (by omega) ?_
      refine J.goto 72 186 dX8_readOther_72 (by decide) ?_
      exact V.vret 186 dX8_readOther_186 (by unfold clO; first | (rw [if_pos (Or.inl ⟨rfl, c11⟩)]; exact hG.bad (s := s) (by omega) (by decide) (by decide)) | (rw [if_neg (fun z => z.elim (fun z => c11 z.2) (fun z => absurd z.1 (by decide))), if_pos rfl]; first | (rw [numS_y e1]; exact ⟨hG2, by omega⟩) | (rw [numS_n e1]; exact hB1)))
set_option maxHeartbeats 4000000 in
set_option maxRecDepth 100000 in
theorem k_readOther_s (w : Wd) {v u : Vm2} {s a n tf ts : Nat} {ρ : Nat → Int32} (hG : Gd v u a ρ tf ts) (hs0 : v 178 4 = nI s) (ha : a ≤ s) (hs : s ≤ 200) (hn0 : ρ 0 = nI n) (hn : n ≤ 8) {b : Nat} (hts : ts ≤ 1) : CU w yX8_readOther cX8_readOther 5 (rm 3 66) [.ref (wN w + 178), .int (nI 115), .int (nI b)] u (fun u' => RS v u' s (clO (v 180) s a b (nI 115) ρ n tf ts)) := by
  refine CU.of (by decide) (Nat.le_of_ble_eq_true rfl) ?_
  refine J.iload_n 0 dX8_readOther_0 rfl rfl ?_
  refine J.bipush 1 (nI 102) dX8_readOther_1 (by decide +kernel) ?_
  refine J.icmp_ne 3 14 dX8_readOther_3 (by decide) (fun _ => ?_) (fun q => absurd q (by decide))
  refine J.iload_n 14 dX8_readOther_14 rfl rfl ?_
  refine J.bipush 15 (nI 115) dX8_readOther_15 (by decide +kernel) ?_
  refine J.icmp_ne 17 32 dX8_readOther_17 (by decide) (fun q => absurd q (by decide)) (fun _ => ?_)
  refine J.aload_n 20 dX8_readOther_20 rfl rfl ?_
  refine V.getI 21 dX8_readOther_21 fl_RX8_72 i_178_16 ?_
  refine J.top hG.2.2.2.2.2.2.2 ?_
  refine J.iconst 24 (nI 1) dX8_readOther_24 (by decide +kernel) ?_
  refine V.icmp_ne 25 32 dX8_readOther_25 (by decide) (by omega) (by omega) (fun c25 => ?_) (fun c25 => ?_)
  · refine J.iconst 32 (nI 0) dX8_readOther_32 (by decide +kernel) ?_
    refine J.istore_n 33 dX8_readOther_33 rfl (by decide) ?_
    refine J.iload_n 34 dX8_readOther_34 rfl rfl ?_
    refine J.if_eq 35 47 dX8_readOther_35 (by decide) (fun _ => ?_) (fun q => absurd q (by decide))
    refine J.iload_n 47 dX8_readOther_47 rfl rfl ?_
    refine J.bipush 48 (nI 102) dX8_readOther_48 (by decide +kernel) ?_
    refine J.icmp_ne 50 75 dX8_readOther_50 (by decide) (fun _ => ?_) (fun q => absurd q (by decide))
    refine J.iload_n 75 dX8_readOther_75 rfl rfl ?_
    refine J.bipush 76 (nI 115) dX8_readOther_76 (by decide +kernel) ?_
    refine J.icmp_ne 78 104 dX8_readOther_78 (by decide) (fun q => absurd q (by decide)) (fun _ => ?_)
    refine J.aload_n 81 dX8_readOther_81 rfl rfl ?_
    refine J.iconst 82 (nI 1) dX8_readOther_82 (by decide +kernel) ?_
    refine V.putI 83 dX8_readOther_83 fl_RX8_72 fp_8_16 i_178_16 ?_
    refine J.aload_n 86 dX8_readOther_86 rfl rfl ?_
    refine V.getR 87 dX8_readOther_87 fl_RX8_7 r_178_0 ?_
    refine J.sipush 90 (nI 3650) dX8_readOther_90 (by decide +kernel) ?_
    refine J.aload_n 93 dX8_readOther_93 rfl rfl ?_
    refine J.iconst 94 (nI 0) dX8_readOther_94 (by decide +kernel) ?_
    refine J.bipush 95 (nI 80) dX8_readOther_95 (by decide +kernel) ?_
    refine V.callv 97 dX8_readOther_97 ml_RX8_65 mi_yX8_number mv_yX8_number (k_number w v _ (hG.ts (ts' := 1)) hs0 ha hs) rfl rfl (Nat.le_of_ble_eq_true rfl) (by decide) (by decide) o_178 rfl rfl (fun r97 u97 h97 => ?_)
    obtain ⟨rfl, hz, hnz⟩ := h97
    have hE := nuE_in (t := v 180) ha
    by_cases e1 : nuK (v 180) s (skp (v 180) s a) (nI 0) (nI 80) = 0
    · have hG2 := (hz e1).1.row (j := 2) (q := 3650) (x := (nuV (v 180) s (skp (v 180) s a))) (by omega) (by omega)
      refine V.iast 100 dX8_readOther_100 a_179 (by omega) ?_
      refine J.goto 101 186 dX8_readOther_101 (by decide) ?_
      exact V.vret 186 dX8_readOther_186 (by unfold clO; first | (rw [if_pos (Or.inr ⟨rfl, c25⟩)]; exact hG.bad (s := s) (by omega) (by decide) (by decide)) | (rw [if_neg (fun z => z.elim (fun z => absurd z.1 (by decide)) (fun z => c25 z.2)), if_neg (by decide), if_pos rfl]; first | (rw [numS_y e1]; exact ⟨hG2, by omega⟩) | (rw [numS_n e1]; exact hB1)))
    · have hB1 := (hnz e1).row (q := 3650) (x := (nuV (v 180) s (skp (v 180) s a))) (by omega)
      refine V.iast 100 dX8_readOther_100 a_179 (by omega) ?_
      refine J.goto 101 186 dX8_readOther_101 (by decide) ?_
      exact V.vret 186 dX8_readOther_186 (by unfold clO; first | (rw [if_pos (Or.inr ⟨rfl, c25⟩)]; exact hG.bad (s := s) (by omega) (by decide) (by decide)) | (rw [if_neg (fun z => z.elim (fun z => absurd z.1 (by decide)) (fun z => c25 z.2)), if_neg (by decide), if_pos rfl]; first | (rw [numS_y e1]; exact ⟨hG2, by omega⟩) | (rw [numS_n e1]; exact hB1)))
  · refine J.iconst 28 (nI 1) dX8_readOther_28 (by decide +kernel) ?_
    refine J.goto 29 33 dX8_readOther_29 (by decide) ?_
    refine J.istore_n 33 dX8_readOther_33 rfl (by decide) ?_
    refine J.iload_n 34 dX8_readOther_34 rfl rfl ?_
    refine J.if_eq 35 47 dX8_readOther_35 (by decide) (fun q => absurd q (by decide)) (fun _ => ?_)
    refine J.aload_n 38 dX8_readOther_38 rfl rfl ?_
    refine J.iconst 39 (nI 4) dX8_readOther_39 (by decide +kernel) ?_
    refine J.iload_n 40 dX8_readOther_40 rfl rfl ?_
    refine V.callvU 41 dX8_readOther_41 ml_RX8_61 mi_yX8_fail mv_yX8_fail (k_fail w u hG.2.2.2.2.2.1) rfl rfl (Nat.le_of_ble_eq_true rfl) (by decide) (by decide) o_178 rfl rfl (fun v41 h41 => ?_)
    subst h41
    refine J.goto 44 186 dX8_readOther_44 (by decide) ?_
    exact V.vret 186 dX8_readOther_186 (by unfold clO; first | (rw [if_pos (Or.inr ⟨rfl, c25⟩)]; exact hG.bad (s := s) (by omega) (by decide) (by decide)) | (rw [if_neg (fun z => z.elim (fun z => absurd z.1 (by decide)) (fun z => c25 z.2)), if_neg (by decide), if_pos rfl]; first | (rw [numS_y e1]; exact ⟨hG2, by omega⟩) | (rw [numS_n e1]; exact hB1)))
theorem nuK_in {t : Nat → Int32} {s fr : Nat} {lo hi : Int32} (h : nuK t s fr lo hi = 0) : inF (nuV t s fr) lo hi := by
  unfold nuK at h
  split at h
  · cases h
  · split at h
    · cases h
    · rename_i h2
      exact Decidable.byContradiction (fun z => h2 (Or.inr z))
set_option maxHeartbeats 4000000 in
set_option maxRecDepth 100000 in
theorem k_readOther_l (w : Wd) {v u : Vm2} {s a n tf ts : Nat} {ρ : Nat → Int32} (hG : Gd v u a ρ tf ts) (hs0 : v 178 4 = nI s) (ha : a ≤ s) (hs : s ≤ 200) (hn0 : ρ 0 = nI n) (hn : n ≤ 8) {b : Nat} : CU w yX8_readOther cX8_readOther 5 (rm 3 66) [.ref (wN w + 178), .int (nI 108), .int (nI b)] u (fun u' => RS v u' s (clO (v 180) s a b (nI 108) ρ n tf ts)) := by
  refine CU.of (by decide) (Nat.le_of_ble_eq_true rfl) ?_
  refine J.iload_n 0 dX8_readOther_0 rfl rfl ?_
  refine J.bipush 1 (nI 102) dX8_readOther_1 (by decide +kernel) ?_
  refine J.icmp_ne 3 14 dX8_readOther_3 (by decide) (fun _ => ?_) (fun q => absurd q (by decide))
  refine J.iload_n 14 dX8_readOther_14 rfl rfl ?_
  refine J.bipush 15 (nI 115) dX8_readOther_15 (by decide +kernel) ?_
  refine J.icmp_ne 17 32 dX8_readOther_17 (by decide) (fun _ => ?_) (fun q => absurd q (by decide))
  refine J.iconst 32 (nI 0) dX8_readOther_32 (by decide +kernel) ?_
  refine J.istore_n 33 dX8_readOther_33 rfl (by decide) ?_
  refine J.iload_n 34 dX8_readOther_34 rfl rfl ?_
  refine J.if_eq 35 47 dX8_readOther_35 (by decide) (fun _ => ?_) (fun q => absurd q (by decide))
  refine J.iload_n 47 dX8_readOther_47 rfl rfl ?_
  refine J.bipush 48 (nI 102) dX8_readOther_48 (by decide +kernel) ?_
  refine J.icmp_ne 50 75 dX8_readOther_50 (by decide) (fun _ => ?_) (fun q => absurd q (by decide))
  refine J.iload_n 75 dX8_readOther_75 rfl rfl ?_
  refine J.bipush 76 (nI 115) dX8_readOther_76 (by decide +kernel) ?_
  refine J.icmp_ne 78 104 dX8_readOther_78 (by decide) (fun _ => ?_) (fun q => absurd q (by decide))
  refine J.iload_n 104 dX8_readOther_104 rfl rfl ?_
  refine J.bipush 105 (nI 108) dX8_readOther_105 (by decide +kernel) ?_
  refine J.icmp_ne 107 180 dX8_readOther_107 (by decide) (fun q => absurd q (by decide)) (fun _ => ?_)
  refine J.aload_n 110 dX8_readOther_110 rfl rfl ?_
  refine J.iconst 111 (nI 0) dX8_readOther_111 (by decide +kernel) ?_
  refine J.aload_n 112 dX8_readOther_112 rfl rfl ?_
  refine V.getR 113 dX8_readOther_113 fl_RX8_7 r_178_0 ?_
  refine J.sipush 116 (nI 3648) dX8_readOther_116 (by decide +kernel) ?_
  refine V.iald 119 dX8_readOther_119 a_179 (by omega) ?_
  refine J.top ((hG.2.2.2.1 0 (by decide)).trans hn0) ?_
  refine J.iconst 120 (nI 1) dX8_readOther_120 (by decide +kernel) ?_
  refine J.isub 121 dX8_readOther_121 ?_
  refine V.callv 122 dX8_readOther_122 ml_RX8_65 mi_yX8_number mv_yX8_number (k_number w v _ hG hs0 ha hs) rfl rfl (Nat.le_of_ble_eq_true rfl) (by decide) (by decide) o_178 rfl rfl (fun r122 u122 h122 => ?_)
  obtain ⟨rfl, hz, hnz⟩ := h122
  have hE := nuE_in (t := v 180) ha
  by_cases e1 : nuK (v 180) s (skp (v 180) s a) (nI 0) (nI n - nI 1) = 0
  · obtain ⟨hG1, hfr⟩ := hz e1
    obtain ⟨c, hc, ec⟩ := (clkB_nI (n := n) (by omega)).mp ((inF_clk (by omega)).mp (nuK_in e1))
    rw [ec]
    refine J.istore 125 dX8_readOther_125 (by decide) ?_
    refine J.aload_n 127 dX8_readOther_127 rfl rfl ?_
    refine V.callvP 128 dX8_readOther_128 ml_RX8_44 mi_yX8_fine mv_yX8_fine (c_X8_fine w _) rfl rfl (Nat.le_of_ble_eq_true rfl) (by decide) (by decide) o_178 rfl rfl ?_
    refine V.if_eqB 131 158 dX8_readOther_131 (by decide) (fun c131 => absurd hG1.2.2.2.2.2.1 c131) (fun c131 => ?_)
    refine J.aload_n 134 dX8_readOther_134 rfl rfl ?_
    refine V.getR 135 dX8_readOther_135 fl_RX8_7 r_178_0 ?_
    refine J.sipush 138 (nI 3675) dX8_readOther_138 (by decide +kernel) ?_
    refine J.iload 141 dX8_readOther_141 rfl ?_
    refine V.iadd 143 dX8_readOther_143 ?_
    refine V.iald 144 dX8_readOther_144 a_179 (by omega) ?_
    refine J.top (b := ρ (27 + c)) (by rw [← hG1.2.2.2.1 (27 + c) (by omega)]; congr 1; omega) ?_
    refine J.iconst 145 (nI 1) dX8_readOther_145 (by decide +kernel) ?_
    refine J.icmp_ne 146 158 dX8_readOther_146 (by decide) (fun c146 => ?_) (fun c146 => ?_)
    · refine J.aload_n 158 dX8_readOther_158 rfl rfl ?_
      refine V.callvP 159 dX8_readOther_159 ml_RX8_44 mi_yX8_fine mv_yX8_fine (c_X8_fine w _) rfl rfl (Nat.le_of_ble_eq_true rfl) (by decide) (by decide) o_178 rfl rfl ?_
      refine V.if_eqB 162 177 dX8_readOther_162 (by decide) (fun c162 => absurd hG1.2.2.2.2.2.1 c162) (fun c162 => ?_)
      refine J.aload_n 165 dX8_readOther_165 rfl rfl ?_
      refine V.getR 166 dX8_readOther_166 fl_RX8_7 r_178_0 ?_
      refine J.sipush 169 (nI 3675) dX8_readOther_169 (by decide +kernel) ?_
      refine J.iload 172 dX8_readOther_172 rfl ?_
      refine V.iadd 174 dX8_readOther_174 ?_
      refine J.iconst 175 (nI 1) dX8_readOther_175 (by decide +kernel) ?_
      refine V.iast 176 dX8_readOther_176 a_179 (by omega) ?_
      refine J.goto 177 186 dX8_readOther_177 (by decide) ?_
      exact V.vret 186 dX8_readOther_186 (by unfold clO; rw [if_neg (fun z => z.elim (fun z => absurd z.1 (by decide)) (fun z => absurd z.1 (by decide))), if_neg (by decide), if_neg (by decide), if_pos rfl]; first | (rw [numS_y e1]; (try dsimp only); rw [ec, nI_clamp (by omega)]; first | (rw [if_pos c146]; exact hBl) | (rw [if_neg c146]; exact ⟨hG1.row (j := 27 + c) (by omega) (by omega), by omega⟩)) | (rw [numS_n e1]; exact hB1))
    · refine J.aload_n 149 dX8_readOther_149 rfl rfl ?_
      refine J.iconst 150 (nI 4) dX8_readOther_150 (by decide +kernel) ?_
      refine J.aload_n 151 dX8_readOther_151 rfl rfl ?_
      refine V.getI 152 dX8_readOther_152 fl_RX8_58 i_178_14 ?_
      refine J.top hfr ?_
      refine V.callvU 155 dX8_readOther_155 ml_RX8_61 mi_yX8_fail mv_yX8_fail (k_fail w _ hG1.2.2.2.2.2.1) rfl rfl (Nat.le_of_ble_eq_true rfl) (by decide) (by decide) o_178 rfl rfl (fun v155 h155 => ?_)
      subst h155
      have hBl := hG1.bad (s := s) (k := 4) (p := skp (v 180) s a) (by omega) (by decide) (by decide)
      refine J.aload_n 158 dX8_readOther_158 rfl rfl ?_
      refine V.callvP 159 dX8_readOther_159 ml_RX8_44 mi_yX8_fine mv_yX8_fine (c_X8_fine w _) rfl rfl (Nat.le_of_ble_eq_true rfl) (by decide) (by decide) o_178 rfl rfl ?_
      refine V.if_eqB 162 177 dX8_readOther_162 (by decide) (fun c162 => ?_) (fun c162 => absurd c162 hBl.w0)
      refine J.goto 177 186 dX8_readOther_177 (by decide) ?_
      exact V.vret 186 dX8_readOther_186 (by unfold clO; rw [if_neg (fun z => z.elim (fun z => absurd z.1 (by decide)) (fun z => absurd z.1 (by decide))), if_neg (by decide), if_neg (by decide), if_pos rfl]; first | (rw [numS_y e1]; (try dsimp only); rw [ec, nI_clamp (by omega)]; first | (rw [if_pos c146]; exact hBl) | (rw [if_neg c146]; exact ⟨hG1.row (j := 27 + c) (by omega) (by omega), by omega⟩)) | (rw [numS_n e1]; exact hB1))
  · have hB1 := hnz e1
    refine J.istore 125 dX8_readOther_125 (by decide) ?_
    refine J.aload_n 127 dX8_readOther_127 rfl rfl ?_
    refine V.callvP 128 dX8_readOther_128 ml_RX8_44 mi_yX8_fine mv_yX8_fine (c_X8_fine w _) rfl rfl (Nat.le_of_ble_eq_true rfl) (by decide) (by decide) o_178 rfl rfl ?_
    refine V.if_eqB 131 158 dX8_readOther_131 (by decide) (fun c131 => ?_) (fun c131 => absurd c131 hB1.w0)
    refine J.aload_n 158 dX8_readOther_158 rfl rfl ?_
    refine V.callvP 159 dX8_readOther_159 ml_RX8_44 mi_yX8_fine mv_yX8_fine (c_X8_fine w _) rfl rfl (Nat.le_of_ble_eq_true rfl) (by decide) (by decide) o_178 rfl rfl ?_
    refine V.if_eqB 162 177 dX8_readOther_162 (by decide) (fun c162 => ?_) (fun c162 => absurd c162 hB1.w0)
    refine J.goto 177 186 dX8_readOther_177 (by decide) ?_
    exact V.vret 186 dX8_readOther_186 (by unfold clO; rw [if_neg (fun z => z.elim (fun z => absurd z.1 (by decide)) (fun z => absurd z.1 (by decide))), if_neg (by decide), if_neg (by decide), if_pos rfl]; first | (rw [numS_y e1]; (try dsimp only); rw [ec, nI_clamp (by omega)]; first | (rw [if_pos c146]; exact hBl) | (rw [if_neg c146]; exact ⟨hG1.row (j := 27 + c) (by omega) (by omega), by omega⟩)) | (rw [numS_n e1]; exact hB1))
set_option maxHeartbeats 4000000 in
set_option maxRecDepth 100000 in
theorem k_readOther_x (w : Wd) {v u : Vm2} {s a n tf ts : Nat} {ρ : Nat → Int32} (hG : Gd v u a ρ tf ts) (hs0 : v 178 4 = nI s) (ha : a ≤ s) (hs : s ≤ 200) (hn0 : ρ 0 = nI n) (hn : n ≤ 8) {b : Nat} {wd : Int32} (h1 : ¬ wd = nI 102) (h2 : ¬ wd = nI 115) (h3 : ¬ wd = nI 108) : CU w yX8_readOther cX8_readOther 5 (rm 3 66) [.ref (wN w + 178), .int wd, .int (nI b)] u (fun u' => RS v u' s (clO (v 180) s a b (wd) ρ n tf ts)) := by
  refine CU.of (by decide) (Nat.le_of_ble_eq_true rfl) ?_
  refine J.iload_n 0 dX8_readOther_0 rfl rfl ?_
  refine J.bipush 1 (nI 102) dX8_readOther_1 (by decide +kernel) ?_
  refine J.icmp_ne 3 14 dX8_readOther_3 (by decide) (fun c3 => ?_) (fun c3 => absurd c3 h1)
  refine J.iload_n 14 dX8_readOther_14 rfl rfl ?_
  refine J.bipush 15 (nI 115) dX8_readOther_15 (by decide +kernel) ?_
  refine J.icmp_ne 17 32 dX8_readOther_17 (by decide) (fun c17 => ?_) (fun c17 => absurd c17 h2)
  refine J.iconst 32 (nI 0) dX8_readOther_32 (by decide +kernel) ?_
  refine J.istore_n 33 dX8_readOther_33 rfl (by decide) ?_
  refine J.iload_n 34 dX8_readOther_34 rfl rfl ?_
  refine J.if_eq 35 47 dX8_readOther_35 (by decide) (fun _ => ?_) (fun q => absurd q (by decide))
  refine J.iload_n 47 dX8_readOther_47 rfl rfl ?_
  refine J.bipush 48 (nI 102) dX8_readOther_48 (by decide +kernel) ?_
  refine J.icmp_ne 50 75 dX8_readOther_50 (by decide) (fun c50 => ?_) (fun c50 => absurd c50 h1)
  refine J.iload_n 75 dX8_readOther_75 rfl rfl ?_
  refine J.bipush 76 (nI 115) dX8_readOther_76 (by decide +kernel) ?_
  refine J.icmp_ne 78 104 dX8_readOther_78 (by decide) (fun c78 => ?_) (fun c78 => absurd c78 h2)
  refine J.iload_n 104 dX8_readOther_104 rfl rfl ?_
  refine J.bipush 105 (nI 108) dX8_readOther_105 (by decide +kernel) ?_
  refine J.icmp_ne 107 180 dX8_readOther_107 (by decide) (fun c107 => ?_) (fun c107 => absurd c107 h3)
  refine J.aload_n 180 dX8_readOther_180 rfl rfl ?_
  refine J.iconst 181 (nI 1) dX8_readOther_181 (by decide +kernel) ?_
  refine J.iload_n 182 dX8_readOther_182 rfl rfl ?_
  refine V.callvU 183 dX8_readOther_183 ml_RX8_61 mi_yX8_fail mv_yX8_fail (k_fail w u hG.2.2.2.2.2.1) rfl rfl (Nat.le_of_ble_eq_true rfl) (by decide) (by decide) o_178 rfl rfl (fun v183 h183 => ?_)
  subst h183
  exact V.vret 186 dX8_readOther_186 (by unfold clO; rw [if_neg (fun z => z.elim (fun z => h1 z.1) (fun z => h2 z.1)), if_neg h1, if_neg h2, if_neg h3]; exact hG.bad (s := s) (by omega) (by decide) (by decide))
theorem k_readOther (w : Wd) {v u : Vm2} {s a n tf ts : Nat} {ρ : Nat → Int32} (hG : Gd v u a ρ tf ts) (hs0 : v 178 4 = nI s) (ha : a ≤ s) (hs : s ≤ 200) (hn0 : ρ 0 = nI n) (hn : n ≤ 8) {b : Nat} {wd : Int32} (htf : tf ≤ 1) (hts : ts ≤ 1) : CU w yX8_readOther cX8_readOther 5 (rm 3 66) [.ref (wN w + 178), .int wd, .int (nI b)] u (fun u' => RS v u' s (clO (v 180) s a b wd ρ n tf ts)) := by
  by_cases h1 : wd = nI 102
  · subst h1
    exact k_readOther_f w hG hs0 ha hs hn0 hn htf
  · by_cases h2 : wd = nI 115
    · subst h2
      exact k_readOther_s w hG hs0 ha hs hn0 hn hts
    · by_cases h3 : wd = nI 108
      · subst h3
        exact k_readOther_l w hG hs0 ha hs hn0 hn
      · exact k_readOther_x w hG hs0 ha hs hn0 hn h1 h2 h3
theorem clM_le {t : Nat → Int32} {s a n tf ts a1 tf1 ts1 : Nat} {ρ ρ1 : Nat → Int32} (ha : a < s) (h : clM t s a ρ n tf ts = .inr (a1, ρ1, tf1, ts1)) : a1 ≤ s := by
  have hn : ∀ {b : Nat} {lo hi : Int32} {k : Int32 → Nat → PR}, b ≤ s → (∀ x c, c ≤ s → k x c = .inr (a1, ρ1, tf1, ts1) → a1 ≤ s) → numS t s b lo hi k = .inr (a1, ρ1, tf1, ts1) → a1 ≤ s := by
    intro b lo hi k hb hk h
    unfold numS at h
    split at h
    · exact hk _ _ (nuE_in hb).1 h
    · cases h
  have fin : ∀ {c : Nat} {ρ2 : Nat → Int32} {x y : Nat}, c ≤ s → (Sum.inr (c, ρ2, x, y) : PR) = .inr (a1, ρ1, tf1, ts1) → a1 ≤ s := by
    intro c ρ2 x y hc h
    cases h
    exact hc
  unfold clM at h
  split at h
  · unfold clK at h
    split at h
    · cases h
    · exact hn (by omega) (fun x c hc h => hn hc (fun x c hc h => fin hc h) h) h
  · unfold clO at h
    split at h
    · cases h
    · split at h
      · exact hn (by omega) (fun x c hc h => fin hc h) h
      · split at h
        · exact hn (by omega) (fun x c hc h => fin hc h) h
        · split at h
          · refine hn (by omega) (fun x c hc h => ?_) h
            (try dsimp only at h)
            split at h
            · cases h
            · exact fin hc h
          · cases h
set_option maxHeartbeats 4000000 in
set_option maxRecDepth 100000 in
theorem k_readClause (w : Wd) {v u : Vm2} {s a n tf ts : Nat} {ρ : Nat → Int32} (hG : Gd v u a ρ tf ts) (hs0 : v 178 4 = nI s) (ha : a ≤ s) (hs : s ≤ 200) (hn0 : ρ 0 = nI n) (hn : n ≤ 8) (hlt : a < s) (hsk : skp (v 180) s a = a) (htf : tf ≤ 1) (hts : ts ≤ 1) : CU w yX8_readClause cX8_readClause 3 (rm 4 90) [.ref (wN w + 178)] u (fun u' => RS v u' s (clR (v 180) s a ρ n tf ts)) := by
  refine CU.of (by decide) (Nat.le_of_ble_eq_true rfl) ?_
  have K : ∀ u1 : Vm2, RS v u1 s (clM (v 180) s a ρ n tf ts) → J w yX8_readClause cX8_readClause 3 none (rm 4 90) XT (ZJ w 185 0 0 (PU w (fun u' => RS v u' s (clR (v 180) s a ρ n tf ts)))) 40 [(0, .ref (wN w + 178)), (1, .int (v 180 a)), (2, .int (nI a))] [] 185 (hv w u1) 0 0 := by
    intro u1 h1
    cases hM : clM (v 180) s a ρ n tf ts with
    | inl e =>
      obtain ⟨k, p⟩ := e
      rw [hM] at h1
      have hB : Bd v u1 s k p := h1
      refine J.aload_n 40 dX8_readClause_40 rfl rfl ?_
      refine V.callvP 41 dX8_readClause_41 ml_RX8_44 mi_yX8_fine mv_yX8_fine (c_X8_fine w _) rfl rfl (Nat.le_of_ble_eq_true rfl) (by decide) (by decide) o_178 rfl rfl ?_
      refine V.if_eqB 44 75 dX8_readClause_44 (by decide) (fun c44 => ?_) (fun c44 => absurd c44 hB.w0)
      exact V.vret 75 dX8_readClause_75 (by unfold clR; rw [hM]; exact hB)
    | inr e =>
      obtain ⟨a1, ρ1, tf1, ts1⟩ := e
      rw [hM] at h1
      obtain ⟨hG1, ha1⟩ : Gd v u1 a1 ρ1 tf1 ts1 ∧ a1 ≤ s + 1 := h1
      have hsa := clM_le hlt hM
      have hs1 := skp_in (t := v 180) hsa
      refine J.aload_n 40 dX8_readClause_40 rfl rfl ?_
      refine V.callvP 41 dX8_readClause_41 ml_RX8_44 mi_yX8_fine mv_yX8_fine (c_X8_fine w _) rfl rfl (Nat.le_of_ble_eq_true rfl) (by decide) (by decide) o_178 rfl rfl ?_
      refine V.if_eqB 44 75 dX8_readClause_44 (by decide) (fun c44 => absurd hG1.2.2.2.2.2.1 c44) (fun c44 => ?_)
      refine J.aload_n 47 dX8_readClause_47 rfl rfl ?_
      refine V.callv 48 dX8_readClause_48 ml_RX8_54 mi_yX8_here mv_yX8_here (c_X8_here w u1 hG1.2.2.2.2.1 ((hG1.2.2.1 4 (by decide)).trans hs0) (by omega) hs) rfl rfl (Nat.le_of_ble_eq_true rfl) (by decide) (by decide) o_178 rfl rfl (fun r48 u48 h48 => ?_)
      rw [hG1.1 180 (by decide) (by decide)] at h48
      obtain ⟨rfl, rfl⟩ := h48
      have hG2 := hG1.at (a' := skp (v 180) s a1)
      refine J.bipush 51 (nI 59) dX8_readClause_51 (by decide +kernel) ?_
      refine J.icmp_eq 53 65 dX8_readClause_53 (by decide) (fun c53 => ?_) (fun c53 => ?_)
      · refine J.aload_n 65 dX8_readClause_65 rfl rfl ?_
        refine J.dup 66 dX8_readClause_66 rfl ?_
        refine V.getI 67 dX8_readClause_67 fl_RX8_51 i_178_11 ?_
        refine J.top hG2.2.2.2.2.1 ?_
        refine J.iconst 70 (nI 1) dX8_readClause_70 (by decide +kernel) ?_
        refine V.iadd 71 dX8_readClause_71 ?_
        refine V.putI 72 dX8_readClause_72 fl_RX8_51 fp_8_11 i_178_11 ?_
        exact V.vret 75 dX8_readClause_75 (by unfold clR; rw [hM]; (try dsimp only); unfold semi; first | (rw [if_pos c53]; exact ⟨hG2.at, by omega⟩) | (rw [if_neg c53]; exact hB.at (by omega)))
      · refine J.aload_n 56 dX8_readClause_56 rfl rfl ?_
        refine J.iconst 57 (nI 1) dX8_readClause_57 (by decide +kernel) ?_
        refine J.aload_n 58 dX8_readClause_58 rfl rfl ?_
        refine V.getI 59 dX8_readClause_59 fl_RX8_51 i_178_11 ?_
        refine J.top hG2.2.2.2.2.1 ?_
        refine V.callvU 62 dX8_readClause_62 ml_RX8_61 mi_yX8_fail mv_yX8_fail (k_fail w _ hG2.2.2.2.2.2.1) rfl rfl (Nat.le_of_ble_eq_true rfl) (by decide) (by decide) o_178 rfl rfl (fun v62 h62 => ?_)
        subst h62
        have hB := hG2.bad (s := s) (k := 1) (p := skp (v 180) s a1) (by omega) (by decide) (by decide)
        refine J.aload_n 65 dX8_readClause_65 rfl rfl ?_
        refine J.dup 66 dX8_readClause_66 rfl ?_
        refine V.getI 67 dX8_readClause_67 fl_RX8_51 i_178_11 ?_
        refine J.top (b := nI (skp (v 180) s a1)) (by rw [up2_o _ _ (by omega), up2_o _ _ (by omega), up2_self]) ?_
        refine J.iconst 70 (nI 1) dX8_readClause_70 (by decide +kernel) ?_
        refine V.iadd 71 dX8_readClause_71 ?_
        refine V.putI 72 dX8_readClause_72 fl_RX8_51 fp_8_11 i_178_11 ?_
        exact V.vret 75 dX8_readClause_75 (by unfold clR; rw [hM]; (try dsimp only); unfold semi; first | (rw [if_pos c53]; exact ⟨hG2.at, by omega⟩) | (rw [if_neg c53]; exact hB.at (by omega)))
  refine J.aload_n 0 dX8_readClause_0 rfl rfl ?_
  refine V.callv 1 dX8_readClause_1 ml_RX8_54 mi_yX8_here mv_yX8_here (c_X8_here w u hG.2.2.2.2.1 ((hG.2.2.1 4 (by decide)).trans hs0) (by omega) hs) rfl rfl (Nat.le_of_ble_eq_true rfl) (by decide) (by decide) o_178 rfl rfl (fun r1 u1 h1 => ?_)
  rw [hG.1 180 (by decide) (by decide), hsk] at h1
  obtain ⟨rfl, rfl⟩ := h1
  have hG1 := hG.at (a' := a)
  rw [show ltr (v 180) s a = v 180 a from if_pos hlt]
  refine J.istore_n 4 dX8_readClause_4 rfl (by decide) ?_
  refine J.aload_n 5 dX8_readClause_5 rfl rfl ?_
  refine V.getI 6 dX8_readClause_6 fl_RX8_51 i_178_11 ?_
  refine J.top hG1.2.2.2.2.1 ?_
  refine J.istore_n 9 dX8_readClause_9 rfl (by decide) ?_
  refine J.aload_n 10 dX8_readClause_10 rfl rfl ?_
  refine J.dup 11 dX8_readClause_11 rfl ?_
  refine V.getI 12 dX8_readClause_12 fl_RX8_51 i_178_11 ?_
  refine J.top hG1.2.2.2.2.1 ?_
  refine J.iconst 15 (nI 1) dX8_readClause_15 (by decide +kernel) ?_
  refine V.iadd 16 dX8_readClause_16 ?_
  refine V.putI 17 dX8_readClause_17 fl_RX8_51 fp_8_11 i_178_11 ?_
  have hG2 := hG1.at (a' := a + 1)
  refine J.iload_n 20 dX8_readClause_20 rfl rfl ?_
  refine J.bipush 21 (nI 107) dX8_readClause_21 (by decide +kernel) ?_
  refine J.icmp_ne 23 34 dX8_readClause_23 (by decide) (fun c23 => ?_) (fun c23 => ?_)
  · have eM : clM (v 180) s a ρ n tf ts = clO (v 180) s (a + 1) a (v 180 a) ρ n tf ts := if_neg c23
    refine J.aload_n 34 dX8_readClause_34 rfl rfl ?_
    refine J.iload_n 35 dX8_readClause_35 rfl rfl ?_
    refine J.iload_n 36 dX8_readClause_36 rfl rfl ?_
    refine V.callvU 37 dX8_readClause_37 ml_RX8_79 mi_yX8_readOther mv_yX8_readOther (k_readOther w hG2 hs0 (by omega) hs hn0 hn (b := a) htf hts) rfl rfl (Nat.le_of_ble_eq_true rfl) (by decide) (by decide) o_178 rfl rfl (fun u37 h37 => ?_)
    rw [← eM] at h37
    exact K u37 h37
  · have eM : clM (v 180) s a ρ n tf ts = clK (v 180) s (a + 1) a ρ n tf ts := if_pos c23
    refine J.aload_n 26 dX8_readClause_26 rfl rfl ?_
    refine J.iload_n 27 dX8_readClause_27 rfl rfl ?_
    refine V.callvU 28 dX8_readClause_28 ml_RX8_75 mi_yX8_readClock mv_yX8_readClock (k_readClock w hG2 hs0 (by omega) hs hn0 hn (b := a)) rfl rfl (Nat.le_of_ble_eq_true rfl) (by decide) (by decide) o_178 rfl rfl (fun u28 h28 => ?_)
    rw [← eM] at h28
    refine J.goto 31 40 dX8_readClause_31 (by decide) ?_
    exact K u28 h28
