/-! ===== part 41: the class reads clauses ===== -/
theorem RepS.str {v : Vm2} {q n ma : Nat} {ρ : Nat → Int32} (h : RepS v q ρ n ma) (hn : n ≤ 8) (hma : ma ≤ 6) (x : Int32) : RepS (up2 v (q) (1) (x)) q (upd ρ (1) (x)) n ma := by
  obtain ⟨⟨a1, a2, a3, a4, a5⟩, ⟨b1, b2, b3⟩, c1, c2, c3⟩ := h
  refine ⟨⟨?_, ?_, ?_, ?_, ?_⟩, ⟨?_, ?_, ?_⟩, fun k hk => ⟨?_, ?_, ?_⟩, fun k hk => ⟨?_, ?_⟩, fun k hk => ⟨?_, ?_⟩⟩
  · rw [up2_o _ _ (by omega), upd_ne _ _ (by omega)]; exact a1
  · rw [up2_self, upd_self]
  · rw [up2_o _ _ (by omega), upd_ne _ _ (by omega)]; exact a3
  · rw [up2_o _ _ (by omega), upd_ne _ _ (by omega)]; exact a4
  · rw [up2_o _ _ (by omega), upd_ne _ _ (by omega)]; exact a5
  · rw [up2_o _ _ (by omega), b1]; exact BM_congr (fun k hk => by rw [upd_ne _ _ (by omega)])
  · rw [up2_o _ _ (by omega), b2]; exact BM_congr (fun k hk => by rw [upd_ne _ _ (by omega)])
  · rw [up2_o _ _ (by omega), b3]; exact BM_congr (fun k hk => by rw [upd_ne _ _ (by omega)])
  · rw [up2_o _ _ (by omega), upd_ne _ _ (by omega)]; exact (c1 k hk).1
  · rw [up2_o _ _ (by omega), upd_ne _ _ (by omega)]; exact (c1 k hk).2.1
  · rw [up2_o _ _ (by omega), upd_ne _ _ (by omega)]; exact (c1 k hk).2.2
  · rw [up2_o _ _ (by omega), upd_ne _ _ (by omega)]; exact (c2 k hk).1
  · rw [up2_o _ _ (by omega), upd_ne _ _ (by omega)]; exact (c2 k hk).2
  · rw [up2_o _ _ (by omega), upd_ne _ _ (by omega)]; exact (c3 k hk).1
  · rw [up2_o _ _ (by omega), upd_ne _ _ (by omega)]; exact (c3 k hk).2
theorem RepS.stp {v : Vm2} {q n ma : Nat} {ρ : Nat → Int32} (h : RepS v q ρ n ma) (hn : n ≤ 8) (hma : ma ≤ 6) (x : Int32) : RepS (up2 v (q) (2) (x)) q (upd ρ (2) (x)) n ma := by
  obtain ⟨⟨a1, a2, a3, a4, a5⟩, ⟨b1, b2, b3⟩, c1, c2, c3⟩ := h
  refine ⟨⟨?_, ?_, ?_, ?_, ?_⟩, ⟨?_, ?_, ?_⟩, fun k hk => ⟨?_, ?_, ?_⟩, fun k hk => ⟨?_, ?_⟩, fun k hk => ⟨?_, ?_⟩⟩
  · rw [up2_o _ _ (by omega), upd_ne _ _ (by omega)]; exact a1
  · rw [up2_o _ _ (by omega), upd_ne _ _ (by omega)]; exact a2
  · rw [up2_self, upd_self]
  · rw [up2_o _ _ (by omega), upd_ne _ _ (by omega)]; exact a4
  · rw [up2_o _ _ (by omega), upd_ne _ _ (by omega)]; exact a5
  · rw [up2_o _ _ (by omega), b1]; exact BM_congr (fun k hk => by rw [upd_ne _ _ (by omega)])
  · rw [up2_o _ _ (by omega), b2]; exact BM_congr (fun k hk => by rw [upd_ne _ _ (by omega)])
  · rw [up2_o _ _ (by omega), b3]; exact BM_congr (fun k hk => by rw [upd_ne _ _ (by omega)])
  · rw [up2_o _ _ (by omega), upd_ne _ _ (by omega)]; exact (c1 k hk).1
  · rw [up2_o _ _ (by omega), upd_ne _ _ (by omega)]; exact (c1 k hk).2.1
  · rw [up2_o _ _ (by omega), upd_ne _ _ (by omega)]; exact (c1 k hk).2.2
  · rw [up2_o _ _ (by omega), upd_ne _ _ (by omega)]; exact (c2 k hk).1
  · rw [up2_o _ _ (by omega), upd_ne _ _ (by omega)]; exact (c2 k hk).2
  · rw [up2_o _ _ (by omega), upd_ne _ _ (by omega)]; exact (c3 k hk).1
  · rw [up2_o _ _ (by omega), upd_ne _ _ (by omega)]; exact (c3 k hk).2
def FrX (u v : Vm2) (q : Nat) : Prop := ∀ c, c ≠ 17 → (c < q ∨ q + 8 ≤ c) → u c = v c
theorem FrT.x {u v : Vm2} {q : Nat} (h : FrT u v) : FrX u v q := fun c hc _ => h c hc
theorem FrS.x {u v : Vm2} {q : Nat} (h : FrS u v q) : FrX u v q := fun c _ hc => h c hc
theorem FrX.trans {u v x : Vm2} {q : Nat} (h1 : FrX u v q) (h2 : FrX v x q) : FrX u x q := fun a ha hb => (h1 a ha hb).trans (h2 a ha hb)
theorem RepS.frt {u v : Vm2} {q n ma : Nat} {ρ : Nat → Int32} (h : RepS v q ρ n ma) (hq : IsS q) (hf : FrT u v) : RepS u q ρ n ma := by
  have := hq.ds
  exact h.same (fun k h1 h2 => hf k (by omega))
theorem Tx.frs {u v : Vm2} {s a tf ts k q : Nat} {p : Int32} (h : Tx v s a tf ts k p) (hq : IsS q) (hf : FrS u v q) : Tx u s a tf ts k p := h.of (hf 17 (by have := hq.ds; omega))
def PCl (u v : Vm2) (q s : Nat) (r : PR) : Prop := FrX u v q ∧ match r with
  | .inl (k, p) => 0 < k ∧ k < 5 ∧ ∃ a tf ts, a ≤ s ∧ Tx u s a tf ts k (nI p)
  | .inr (a1, ρ1, tf1, ts1) => Tx u s (skp (v 18) s a1) tf1 ts1 0 (-1) ∧ ∃ n1, RepS u q ρ1 n1 0 ∧ ρ1 0 = nI n1 ∧ n1 ≤ 8
theorem PCl.bad {u v : Vm2} {q s k p a tf ts : Nat} {r : PR} (hF : FrX u v q) (h0 : 0 < k) (h5 : k < 5) (ha : a ≤ s) (hT : Tx u s a tf ts k (nI p)) (hr : r = .inl (k, p)) : PCl u v q s r := by
  subst hr
  exact ⟨hF, h0, h5, a, tf, ts, ha, hT⟩
theorem PCl.ok {u v : Vm2} {q s a1 tf1 ts1 n1 : Nat} {ρ1 : Nat → Int32} {r : PR} (hF : FrX u v q) (hT : Tx u s (skp (v 18) s a1) tf1 ts1 0 (-1)) (hR : RepS u q ρ1 n1 0) (h1 : ρ1 0 = nI n1) (h2 : n1 ≤ 8) (hr : r = .inr (a1, ρ1, tf1, ts1)) : PCl u v q s r := by
  subst hr
  exact ⟨hF, hT, n1, hR, h1, h2⟩
theorem nuK_3 (t : Nat → Int32) (s b : Nat) (lo hi : Int32) : nuK t s b lo hi < 3 := by
  unfold nuK
  split
  · decide
  · split <;> decide
theorem ntK_z (k : Nat) : ntK k 0 = k := rfl
theorem ntK_0 (K : Nat) : ntK 0 K = K := by
  unfold ntK
  split
  · rename_i h; exact h.symm
  · rfl
theorem ntK_n {k K : Nat} (h : k ≠ 0) : ntK k K = k := by
  unfold ntK
  split
  · rfl
  · rfl
theorem ntP_0 {K b : Nat} {p : Int32} (h : K ≠ 0) : ntP 0 K p b = nI b := by unfold ntP; rw [if_neg h, if_pos rfl]
theorem ntP_z {k b : Nat} {p : Int32} : ntP k 0 p b = p := rfl
theorem ntP_n {k K b : Nat} {p : Int32} (h : k ≠ 0) : ntP k K p b = p := by
  unfold ntP
  split
  · rfl
  · rfl
theorem ck_fin {u v : Vm2} {q s a n tf ts : Nat} {ρ : Nat → Int32} (ha : a < s) (hn : n < 8) (hF : FrX u v q)
    (hT : Tx u s (skp (v 18) s (nuE (v 18) s (skp (v 18) s (nuE (v 18) s (skp (v 18) s (a + 1)))))) tf ts (ntK (ntK 0 (nuK (v 18) s (skp (v 18) s (a + 1)) (nI 0) (nI 9999))) (nuK (v 18) s (skp (v 18) s (nuE (v 18) s (skp (v 18) s (a + 1)))) (nI 90) (nI 110))) (ntP (ntK 0 (nuK (v 18) s (skp (v 18) s (a + 1)) (nI 0) (nI 9999))) (nuK (v 18) s (skp (v 18) s (nuE (v 18) s (skp (v 18) s (a + 1)))) (nI 90) (nI 110)) (ntP 0 (nuK (v 18) s (skp (v 18) s (a + 1)) (nI 0) (nI 9999)) (-1) (skp (v 18) s (a + 1))) (skp (v 18) s (nuE (v 18) s (skp (v 18) s (a + 1))))))
    (hR : RepS u q (adC ρ n (nuV (v 18) s (skp (v 18) s (a + 1))) (nuV (v 18) s (skp (v 18) s (nuE (v 18) s (skp (v 18) s (a + 1)))))) (n + 1) 0) : PCl u v q s (clK (v 18) s (a + 1) a ρ n tf ts) := by
  have b1 := nuE_in (t := v 18) (show a + 1 ≤ s by omega)
  have b2 := nuE_in (t := v 18) b1.1
  have b3 := skp_in (t := v 18) b2.1
  have q1 := nuK_3 (v 18) s (skp (v 18) s (a + 1)) (nI 0) (nI 9999)
  have q2 := nuK_3 (v 18) s (skp (v 18) s (nuE (v 18) s (skp (v 18) s (a + 1)))) (nI 90) (nI 110)
  by_cases h1 : nuK (v 18) s (skp (v 18) s (a + 1)) (nI 0) (nI 9999) = 0
  · rw [h1] at hT
    rw [ntK_z, ntP_z, ntK_0] at hT
    by_cases h2 : nuK (v 18) s (skp (v 18) s (nuE (v 18) s (skp (v 18) s (a + 1)))) (nI 90) (nI 110) = 0
    · rw [h2, ntP_z] at hT
      refine PCl.ok hF hT hR (by unfold adC; rw [upd_self]) (by omega) ?_
      unfold clK
      rw [if_neg (by omega), numS_y h1]
      rw [numS_y h2]
      rfl
    · rw [ntP_0 h2] at hT
      refine PCl.bad hF (by omega) (by omega) b3.2 hT ?_
      unfold clK
      rw [if_neg (by omega), numS_y h1]
      rw [numS_n h2]
  · have hk : ntK 0 (nuK (v 18) s (skp (v 18) s (a + 1)) (nI 0) (nI 9999)) ≠ 0 := by rw [ntK_0]; exact h1
    rw [ntK_n hk, ntP_n hk, ntK_0, ntP_0 h1] at hT
    refine PCl.bad hF (by omega) (by omega) b3.2 hT ?_
    unfold clK
    rw [if_neg (by omega), numS_n h1]

set_option maxHeartbeats 600000 in
set_option maxRecDepth 100000 in
theorem c_X6_readClock (w : Wd) (v : Vm2) {q : Nat} (hq : IsS q) {s a tf ts : Nat} (hT : Tx v s a tf ts 0 (-1)) (hs : s ≤ 200) (ha : a < s) {ρ : Nat → Int32} {n : Nat} (hR : RepS v q ρ n 0) (hW : Wp ρ n) : CU w yX6_readClock cX6_readClock 4 (rm 2 45) [.ref (wN w + 17), .ref (wN w + q)] v (fun v' => PCl v' v q s (clK (v 18) s (a + 1) a ρ n tf ts)) := by
  have hn := hW.2.1
  have hds := hq.ds
  have b1 := nuE_in (t := v 18) (show a + 1 ≤ s by omega)
  have b0 := skp_in (t := v 18) b1.1
  refine CU.of (by decide) (Nat.le_of_ble_eq_true rfl) ?_
  refine J.aload_n 0 dX6_readClock_0 rfl rfl ?_
  refine V.getI 1 dX6_readClock_1 fl_RX6_67 hq.i0 ?_
  refine J.top (b := nI n) (hR.1.1.trans hW.1) ?_
  refine J.bipush 4 (nI 8) dX6_readClock_4 (by decide +kernel) ?_
  refine V.icmp_lt 6 19 dX6_readClock_6 (by decide) (by omega) (by omega) (fun c6 => ?_) (fun c6 => ?_)
  · refine J.aload_n 19 dX6_readClock_19 rfl rfl ?_
    refine J.dup 20 dX6_readClock_20 rfl ?_
    refine V.getI 21 dX6_readClock_21 fl_RX6_27 i_17_2 ?_
    refine J.top hT.2.1 ?_
    refine J.iconst 24 (nI 1) dX6_readClock_24 (by decide +kernel) ?_
    refine V.iadd 25 dX6_readClock_25 ?_
    refine V.putI 26 dX6_readClock_26 fl_RX6_27 fp_6_2 i_17_2 ?_
    refine J.aload_n 29 dX6_readClock_29 rfl rfl ?_
    refine J.iconst 30 (nI 0) dX6_readClock_30 (by decide +kernel) ?_
    refine J.sipush 31 (nI 9999) dX6_readClock_31 (by decide +kernel) ?_
    refine V.callv 34 dX6_readClock_34 ml_RX6_70 mi_yX6_readNumber mv_yX6_readNumber (c_X6_readNumber w _ (hT.at (a + 1)) (by omega) (by omega) (by omega)) rfl rfl (Nat.le_of_ble_eq_true rfl) (by decide) (by decide) o_17 rfl rfl (fun r34 v34 h34 => ?_)
    rw [show up2 v 17 2 (nI (a + 1)) 18 = v 18 from up2_ne _ _ _ (by decide)] at h34
    obtain ⟨h34a, hT34, -, hf34⟩ := h34
    have hf34 := hf34.trans (FrT.rf v).up
    have e18 := hf34 18 (by decide)
    have hk34 := nuK_3 (v 18) s (skp (v 18) s (a + 1)) (nI 0) (nI 9999)
    have hk35 : ntK 0 (nuK (v 18) s (skp (v 18) s (a + 1)) (nI 0) (nI 9999)) < 5 := by rw [ntK_0]; omega
    refine J.istore_n 37 dX6_readClock_37 rfl (by decide) ?_
    refine J.aload_n 38 dX6_readClock_38 rfl rfl ?_
    refine J.bipush 39 (nI 90) dX6_readClock_39 (by decide +kernel) ?_
    refine J.bipush 41 (nI 110) dX6_readClock_41 (by decide +kernel) ?_
    refine V.callv 43 dX6_readClock_43 ml_RX6_70 mi_yX6_readNumber mv_yX6_readNumber (c_X6_readNumber w _ hT34 (by omega) (by omega) (by omega)) rfl rfl (Nat.le_of_ble_eq_true rfl) (by decide) (by decide) o_17 rfl rfl (fun r43 v43 h43 => ?_)
    rw [e18, skp_skp] at h43
    obtain ⟨h43a, hT43, -, hf43⟩ := h43
    have hf43 := hf43.trans hf34
    have hR43 := hR.frt hq hf43
    subst h34a h43a
    refine J.istore_n 46 dX6_readClock_46 rfl (by decide) ?_
    refine J.aload_n 47 dX6_readClock_47 rfl rfl ?_
    refine J.iload_n 48 dX6_readClock_48 rfl rfl ?_
    refine J.iload_n 49 dX6_readClock_49 rfl rfl ?_
    refine V.callvU 50 dX6_readClock_50 ml_RX6_74 mi_yX5_addClock mv_yX5_addClock (c_X5_addClock w _ hq (hR43.1.1.trans hW.1) c6) rfl rfl (Nat.le_of_ble_eq_true rfl) (by decide) (by decide) hq.o rfl rfl (fun v50 h50 => ?_)
    subst h50
    exact V.vret 53 dX6_readClock_53 (ck_fin ha c6 (FrX.trans ((((((FrS.rf v43 q).up (by omega) (by omega)).up (by omega) (by omega)).up (by omega) (by omega)).up (by omega) (by omega)).x) hf43.x) ((hT43.frs hq (((((FrS.rf v43 q).up (by omega) (by omega)).up (by omega) (by omega)).up (by omega) (by omega)).up (by omega) (by omega)))) (hR43.add c6 (by omega) (hW.2.2.2.2.2.2 (19 + n) (by omega)) _ _))
  · refine J.aload_n 9 dX6_readClock_9 rfl rfl ?_
    refine J.iconst 10 (nI 3) dX6_readClock_10 (by decide +kernel) ?_
    refine J.aload_n 11 dX6_readClock_11 rfl rfl ?_
    refine V.getI 12 dX6_readClock_12 fl_RX6_27 i_17_2 ?_
    refine J.top hT.2.1 ?_
    refine V.callvU 15 dX6_readClock_15 ml_RX6_63 mi_yX6_note mv_yX6_note (c_X6_note w _ hT.2.2.1 (by omega)) rfl rfl (Nat.le_of_ble_eq_true rfl) (by decide) (by decide) o_17 rfl rfl (fun v15 h15 => ?_)
    subst h15
    exact V.vret 18 dX6_readClock_18 (PCl.bad (FrT.rf v).nt.x (by decide) (by decide) (show a ≤ s by omega) (hT.nt (K := 3) (b := a) (by decide)) (by unfold clK; rw [if_pos (by omega)]; rfl))
theorem cO_l {t : Nat → Int32} {s a b n tf ts : Nat} {ρ : Nat → Int32} : clO t s a b (nI 108) ρ n tf ts = numS t s a (nI 0) (nI n - nI 1) (fun x a1 => if ρ (27 + x.toNatClampNeg) = nI 1 then .inl (4, skp t s a) else .inr (a1, upd ρ (27 + x.toNatClampNeg) (nI 1), tf, ts)) := by
  unfold clO
  rw [if_neg (fun z => z.elim (fun z => absurd z.1 (by decide)) (fun z => absurd z.1 (by decide))), if_neg (by decide), if_neg (by decide), if_pos rfl]
theorem cO_f {t : Nat → Int32} {s a b n tf ts : Nat} {ρ : Nat → Int32} : clO t s a b (nI 102) ρ n tf ts = if tf = 1 then .inl (4, b) else numS t s a (nI 0) (nI 3) (fun x a1 => .inr (a1, upd ρ 1 x, 1, ts)) := by
  unfold clO
  by_cases h : tf = 1
  · rw [if_pos (Or.inl ⟨rfl, h⟩), if_pos h]
  · rw [if_neg (fun z => z.elim (fun z => h z.2) (fun z => absurd z.1 (by decide))), if_neg h, if_pos rfl]
theorem cO_s {t : Nat → Int32} {s a b n tf ts : Nat} {ρ : Nat → Int32} : clO t s a b (nI 115) ρ n tf ts = if ts = 1 then .inl (4, b) else numS t s a (nI 0) (nI 80) (fun x a1 => .inr (a1, upd ρ 2 x, tf, 1)) := by
  unfold clO
  by_cases h : ts = 1
  · rw [if_pos (Or.inr ⟨rfl, h⟩), if_pos h]
  · rw [if_neg (fun z => z.elim (fun z => absurd z.1 (by decide)) (fun z => h z.2)), if_neg h, if_neg (by decide), if_pos rfl]

set_option maxHeartbeats 600000 in
set_option maxRecDepth 100000 in
theorem c_X6_readLiar (w : Wd) (v : Vm2) {q : Nat} (hq : IsS q) {s a tf ts : Nat} (hT : Tx v s a tf ts 0 (-1)) (hs : s ≤ 200) (ha : a < s) {ρ : Nat → Int32} {n : Nat} (hR : RepS v q ρ n 0) (hW : Wp ρ n) : CU w yX6_readLiar cX6_readLiar 3 (rm 2 45) [.ref (wN w + 17), .ref (wN w + q)] v (fun v' => PCl v' v q s (clO (v 18) s (a + 1) a (nI 108) ρ n tf ts)) := by
  have hn := hW.2.1
  have hds := hq.ds
  have b1 := nuE_in (t := v 18) (show a + 1 ≤ s by omega)
  have b0 := skp_in (t := v 18) b1.1
  have hk9 := nuK_3 (v 18) s (skp (v 18) s (a + 1)) (nI 0) (nI n - nI 1)
  refine CU.of (by decide) (Nat.le_of_ble_eq_true rfl) ?_
  refine J.aload_n 0 dX6_readLiar_0 rfl rfl ?_
  refine J.dup 1 dX6_readLiar_1 rfl ?_
  refine V.getI 2 dX6_readLiar_2 fl_RX6_27 i_17_2 ?_
  refine J.top hT.2.1 ?_
  refine J.iconst 5 (nI 1) dX6_readLiar_5 (by decide +kernel) ?_
  refine V.iadd 6 dX6_readLiar_6 ?_
  refine V.putI 7 dX6_readLiar_7 fl_RX6_27 fp_6_2 i_17_2 ?_
  refine J.aload_n 10 dX6_readLiar_10 rfl rfl ?_
  refine J.iconst 11 (nI 0) dX6_readLiar_11 (by decide +kernel) ?_
  refine J.aload_n 12 dX6_readLiar_12 rfl rfl ?_
  refine V.getI 13 dX6_readLiar_13 fl_RX6_67 hq.i0 ?_
  refine J.top (b := nI n) ((hR.frt hq (FrT.rf v).up).1.1.trans hW.1) ?_
  refine J.iconst 16 (nI 1) dX6_readLiar_16 (by decide +kernel) ?_
  refine J.isub 17 dX6_readLiar_17 ?_
  refine V.callv 18 dX6_readLiar_18 ml_RX6_70 mi_yX6_readNumber mv_yX6_readNumber (c_X6_readNumber w _ (hT.at (a + 1)) (by omega) (by omega) (by omega)) rfl rfl (Nat.le_of_ble_eq_true rfl) (by decide) (by decide) o_17 rfl rfl (fun r18 v18 h18 => ?_)
  rw [show up2 v 17 2 (nI (a + 1)) 18 = v 18 from up2_ne _ _ _ (by decide)] at h18
  obtain ⟨ha9, hT9, h39, hf9⟩ := h18
  have hf9 := hf9.trans (FrT.rf v).up
  have hR9 := hR.frt hq hf9
  refine J.istore_n 21 dX6_readLiar_21 rfl (by decide) ?_
  refine J.aload_n 22 dX6_readLiar_22 rfl rfl ?_
  refine V.getI 23 dX6_readLiar_23 fl_RX6_30 i_17_4 ?_
  refine J.top (hT9.2.2.1.trans (by rw [ntK_0])) ?_
  refine V.if_eq 26 30 dX6_readLiar_26 (by decide) (by omega) (fun c26 => ?_) (fun c26 => ?_)
  · have hz : (nuK (v 18) s (skp (v 18) s (a + 1)) (nI 0) (nI n - nI 1)) = 0 := c26
    obtain ⟨c, hc, ec⟩ := (clkB_nI (n := n) (by omega)).mp ((inF_clk (by omega)).mp (nuK_in hz))
    rw [ec] at ha9
    subst ha9
    have ha9 := ec
    rw [hz] at hT9
    rw [ntK_z, ntP_z] at hT9
    refine J.aload_n 30 dX6_readLiar_30 rfl rfl ?_
    refine J.iload_n 31 dX6_readLiar_31 rfl rfl ?_
    refine V.callvP 32 dX6_readLiar_32 ml_RX6_77 mi_yX5_lies mv_yX5_lies (c_X5_lies w _ hq (g := fun b9 => ρ (27 + b9)) hR9.2.1.1 (by omega)) rfl rfl (Nat.le_of_ble_eq_true rfl) (by decide) (by decide) hq.o rfl rfl ?_
    refine V.if_eqB 35 47 dX6_readLiar_35 (by decide) (fun c35 => ?_) (fun c35 => ?_)
    · refine J.aload_n 47 dX6_readLiar_47 rfl rfl ?_
      refine J.dup 48 dX6_readLiar_48 rfl ?_
      refine V.getI 49 dX6_readLiar_49 fl_RX6_84 hq.i3 ?_
      refine J.top (b := BM (fun b9 => ρ (27 + b9))) hR9.2.1.1 ?_
      refine J.iconst 52 (nI 1) dX6_readLiar_52 (by decide +kernel) ?_
      refine J.iload_n 53 dX6_readLiar_53 rfl rfl ?_
      refine J.ishl 54 dX6_readLiar_54 ?_
      refine J.ior 55 dX6_readLiar_55 ?_
      refine J.top (BM_s _ (by omega)) ?_
      refine V.putI 56 dX6_readLiar_56 fl_RX6_84 fp_5_3 hq.i3 ?_
      exact V.vret 59 dX6_readLiar_59 (by first | exact PCl.bad (FrX.trans ((FrS.rf _ q).up (by omega) (by omega)).x hf9.nt.x) (by decide) (by decide) (show skp (v 18) s (nuE (v 18) s (skp (v 18) s (a + 1))) ≤ s by omega) ((hT9.nt (K := 4) (b := skp (v 18) s (a + 1)) (by decide)).frs hq ((FrS.rf _ q).up (by omega) (by omega))) (by rw [cO_l, numS_y hz]; rw [ha9, nI_clamp (by omega), if_pos c35]; rfl) | exact PCl.ok (FrX.trans ((FrS.rf _ q).up (by omega) (by omega)).x hf9.x) (hT9.frs hq ((FrS.rf _ q).up (by omega) (by omega))) (hR9.lia hn (by omega) (c := c) (by omega) (x := nI 1) rfl) (by rw [upd_ne _ _ (by omega)]; exact hW.1) hn (by rw [cO_l, numS_y hz]; rw [ha9, nI_clamp (by omega), if_neg c35]))
    · refine J.aload_n 38 dX6_readLiar_38 rfl rfl ?_
      refine J.iconst 39 (nI 4) dX6_readLiar_39 (by decide +kernel) ?_
      refine J.aload_n 40 dX6_readLiar_40 rfl rfl ?_
      refine V.getI 41 dX6_readLiar_41 fl_RX6_81 i_17_3 ?_
      refine J.top h39 ?_
      refine V.callvU 44 dX6_readLiar_44 ml_RX6_63 mi_yX6_note mv_yX6_note (c_X6_note w _ hT9.2.2.1 (by omega)) rfl rfl (Nat.le_of_ble_eq_true rfl) (by decide) (by decide) o_17 rfl rfl (fun v44 h44 => ?_)
      subst h44
      refine J.aload_n 47 dX6_readLiar_47 rfl rfl ?_
      refine J.dup 48 dX6_readLiar_48 rfl ?_
      refine V.getI 49 dX6_readLiar_49 fl_RX6_84 hq.i3 ?_
      refine J.top (b := BM (fun b9 => ρ (27 + b9))) (by rw [ntU_o _ (by omega)]; exact hR9.2.1.1) ?_
      refine J.iconst 52 (nI 1) dX6_readLiar_52 (by decide +kernel) ?_
      refine J.iload_n 53 dX6_readLiar_53 rfl rfl ?_
      refine J.ishl 54 dX6_readLiar_54 ?_
      refine J.ior 55 dX6_readLiar_55 ?_
      refine J.top (BM_s _ (by omega)) ?_
      refine V.putI 56 dX6_readLiar_56 fl_RX6_84 fp_5_3 hq.i3 ?_
      exact V.vret 59 dX6_readLiar_59 (by first | exact PCl.bad (FrX.trans ((FrS.rf _ q).up (by omega) (by omega)).x hf9.nt.x) (by decide) (by decide) (show skp (v 18) s (nuE (v 18) s (skp (v 18) s (a + 1))) ≤ s by omega) ((hT9.nt (K := 4) (b := skp (v 18) s (a + 1)) (by decide)).frs hq ((FrS.rf _ q).up (by omega) (by omega))) (by rw [cO_l, numS_y hz]; rw [ha9, nI_clamp (by omega), if_pos c35]; rfl) | exact PCl.ok (FrX.trans ((FrS.rf _ q).up (by omega) (by omega)).x hf9.x) (hT9.frs hq ((FrS.rf _ q).up (by omega) (by omega))) (hR9.lia hn (by omega) (c := c) (by omega) (x := nI 1) rfl) (by rw [upd_ne _ _ (by omega)]; exact hW.1) hn (by rw [cO_l, numS_y hz]; rw [ha9, nI_clamp (by omega), if_neg c35]))
  · have hz : ¬ (nuK (v 18) s (skp (v 18) s (a + 1)) (nI 0) (nI n - nI 1)) = 0 := c26
    exact V.vret 29 dX6_readLiar_29 (PCl.bad (k := nuK (v 18) s (skp (v 18) s (a + 1)) (nI 0) (nI n - nI 1)) (p := skp (v 18) s (a + 1)) hf9.x (by omega) (by omega) (show skp (v 18) s (nuE (v 18) s (skp (v 18) s (a + 1))) ≤ s by omega) (by rw [ntK_0, ntP_0 hz] at hT9; exact hT9) (by rw [cO_l, numS_n hz]))
set_option maxHeartbeats 600000 in
set_option maxRecDepth 100000 in
theorem c_X6_readStrike (w : Wd) (v : Vm2) {q : Nat} (hq : IsS q) {s a tf ts : Nat} (hT : Tx v s a tf ts 0 (-1)) (hs : s ≤ 200) (ha : a < s) {ρ : Nat → Int32} {n : Nat} (hR : RepS v q ρ n 0) (hW : Wp ρ n) (hfl : tf ≤ 1) : CU w yX6_readStrike cX6_readStrike 2 (rm 2 45) [.ref (wN w + 17), .ref (wN w + q)] v (fun v' => PCl v' v q s (clO (v 18) s (a + 1) a (nI 102) ρ n tf ts)) := by
  have hn := hW.2.1
  have hds := hq.ds
  refine CU.of (by decide) (Nat.le_of_ble_eq_true rfl) ?_
  have b1 := nuE_in (t := v 18) (show a + 1 ≤ s by omega)
  have b0 := skp_in (t := v 18) b1.1
  have hk9 := nuK_3 (v 18) s (skp (v 18) s (a + 1)) (nI 0) (nI 3)
  have K16 : ∀ (u : Vm2) (k9 : Nat) (p9 : Int32), FrT u v → Tx u s a tf ts k9 p9 → k9 < 5 → ((¬ tf = 1 ∧ k9 = 0 ∧ p9 = -1) ∨ (tf = 1 ∧ k9 = 4 ∧ p9 = nI a)) → J w yX6_readStrike cX6_readStrike 2 none (rm 2 45) XT (ZJ w 185 0 0 (PU w (fun v' => PCl v' v q s (clO (v 18) s (a + 1) a (nI 102) ρ n tf ts)))) 16 [(0, .ref (wN w + 17)), (1, .ref (wN w + q))] [] 185 (hv w (u)) 0 0 := by
    intro u k9 p9 f0 hT0 hk5 hor
    refine J.aload_n 16 dX6_readStrike_16 rfl rfl ?_
    refine J.iconst 17 (nI 1) dX6_readStrike_17 (by decide +kernel) ?_
    refine V.putZ 18 dX6_readStrike_18 fl_RX6_33 fp_6_6 i_17_6 (by first | exact Or.inl rfl | exact Or.inr rfl) ?_
    refine J.aload_n 21 dX6_readStrike_21 rfl rfl ?_
    refine J.dup 22 dX6_readStrike_22 rfl ?_
    refine V.getI 23 dX6_readStrike_23 fl_RX6_27 i_17_2 ?_
    refine J.top (b := nI a) (by rw [up2_o _ _ (by omega)]; exact hT0.2.1) ?_
    refine J.iconst 26 (nI 1) dX6_readStrike_26 (by decide +kernel) ?_
    refine V.iadd 27 dX6_readStrike_27 ?_
    refine V.putI 28 dX6_readStrike_28 fl_RX6_27 fp_6_2 i_17_2 ?_
    refine J.aload_n 31 dX6_readStrike_31 rfl rfl ?_
    refine J.aload_n 32 dX6_readStrike_32 rfl rfl ?_
    refine J.iconst 33 (nI 0) dX6_readStrike_33 (by decide +kernel) ?_
    refine J.iconst 34 (nI 3) dX6_readStrike_34 (by decide +kernel) ?_
    refine V.callv 35 dX6_readStrike_35 ml_RX6_70 mi_yX6_readNumber mv_yX6_readNumber (c_X6_readNumber w _ ((hT0.tf 1).at (a + 1)) (by omega) (by omega) (by omega)) rfl rfl (Nat.le_of_ble_eq_true rfl) (by decide) (by decide) o_17 rfl rfl (fun r35 v35 h35 => ?_)
    rw [show up2 (up2 u 17 6 (nI 1)) 17 2 (nI (a + 1)) 18 = v 18 from by rw [up2_ne _ _ _ (by decide), up2_ne _ _ _ (by decide)]; exact f0 18 (by decide)] at h35
    obtain ⟨ha9, hT9, -, hf9⟩ := h35
    have hf9 := hf9.trans f0.up.up
    have hR9 := hR.frt hq hf9
    subst ha9
    refine V.putI 38 dX6_readStrike_38 fl_RX6_87 fp_5_1 hq.i1 ?_
    exact V.vret 41 dX6_readStrike_41 (by
        have hF9 : FrX _ v q := FrX.trans ((FrS.rf v35 q).up (k := q) (i := 1) (x := nuV (v 18) s (skp (v 18) s (a + 1))) (by omega) (by omega)).x hf9.x
        have hT8 := hT9.frs hq ((FrS.rf v35 q).up (k := q) (i := 1) (x := nuV (v 18) s (skp (v 18) s (a + 1))) (by omega) (by omega))
        rcases hor with ⟨z1, z2, z3⟩ | ⟨z1, z2, z3⟩
        · subst z2 z3
          rw [ntK_0] at hT8
          by_cases hz : (nuK (v 18) s (skp (v 18) s (a + 1)) (nI 0) (nI 3)) = 0
          · rw [hz, ntP_z] at hT8
            exact PCl.ok hF9 hT8 (hR9.str hn (by omega) _) (by rw [upd_ne _ _ (by omega)]; exact hW.1) hn (by rw [cO_f, if_neg z1, numS_y hz])
          · rw [ntP_0 hz] at hT8
            exact PCl.bad hF9 (by omega) (by omega) (by omega) hT8 (by rw [cO_f, if_neg z1, numS_n hz])
        · subst z2 z3
          rw [ntK_n (by decide), ntP_n (by decide)] at hT8
          exact PCl.bad hF9 (by decide) (by decide) (by omega) hT8 (by rw [cO_f, if_pos z1]))
  refine J.aload_n 0 dX6_readStrike_0 rfl rfl ?_
  refine V.getI 1 dX6_readStrike_1 fl_RX6_33 i_17_6 ?_
  refine J.top hT.2.2.2.2.1 ?_
  refine V.if_eq 4 16 dX6_readStrike_4 (by decide) (by omega) (fun c4 => ?_) (fun c4 => ?_)
  · first | exact K16 _ _ _ (FrT.rf v) hT (by decide) (Or.inl ⟨by omega, rfl, rfl⟩) | exact K16 _ _ _ (FrT.rf v).nt (hT.nt (K := 4) (b := a) (by decide)) (by decide) (Or.inr ⟨by omega, rfl, rfl⟩)
  · refine J.aload_n 7 dX6_readStrike_7 rfl rfl ?_
    refine J.iconst 8 (nI 4) dX6_readStrike_8 (by decide +kernel) ?_
    refine J.aload_n 9 dX6_readStrike_9 rfl rfl ?_
    refine V.getI 10 dX6_readStrike_10 fl_RX6_27 i_17_2 ?_
    refine J.top hT.2.1 ?_
    refine V.callvU 13 dX6_readStrike_13 ml_RX6_63 mi_yX6_note mv_yX6_note (c_X6_note w _ hT.2.2.1 (by omega)) rfl rfl (Nat.le_of_ble_eq_true rfl) (by decide) (by decide) o_17 rfl rfl (fun v13 h13 => ?_)
    subst h13
    first | exact K16 _ _ _ (FrT.rf v) hT (by decide) (Or.inl ⟨by omega, rfl, rfl⟩) | exact K16 _ _ _ (FrT.rf v).nt (hT.nt (K := 4) (b := a) (by decide)) (by decide) (Or.inr ⟨by omega, rfl, rfl⟩)
set_option maxHeartbeats 600000 in
set_option maxRecDepth 100000 in
theorem c_X6_readStep (w : Wd) (v : Vm2) {q : Nat} (hq : IsS q) {s a tf ts : Nat} (hT : Tx v s a tf ts 0 (-1)) (hs : s ≤ 200) (ha : a < s) {ρ : Nat → Int32} {n : Nat} (hR : RepS v q ρ n 0) (hW : Wp ρ n) (hfl : ts ≤ 1) : CU w yX6_readStep cX6_readStep 2 (rm 2 45) [.ref (wN w + 17), .ref (wN w + q)] v (fun v' => PCl v' v q s (clO (v 18) s (a + 1) a (nI 115) ρ n tf ts)) := by
  have hn := hW.2.1
  have hds := hq.ds
  refine CU.of (by decide) (Nat.le_of_ble_eq_true rfl) ?_
  have b1 := nuE_in (t := v 18) (show a + 1 ≤ s by omega)
  have b0 := skp_in (t := v 18) b1.1
  have hk9 := nuK_3 (v 18) s (skp (v 18) s (a + 1)) (nI 0) (nI 80)
  have K16 : ∀ (u : Vm2) (k9 : Nat) (p9 : Int32), FrT u v → Tx u s a tf ts k9 p9 → k9 < 5 → ((¬ ts = 1 ∧ k9 = 0 ∧ p9 = -1) ∨ (ts = 1 ∧ k9 = 4 ∧ p9 = nI a)) → J w yX6_readStep cX6_readStep 2 none (rm 2 45) XT (ZJ w 185 0 0 (PU w (fun v' => PCl v' v q s (clO (v 18) s (a + 1) a (nI 115) ρ n tf ts)))) 16 [(0, .ref (wN w + 17)), (1, .ref (wN w + q))] [] 185 (hv w (u)) 0 0 := by
    intro u k9 p9 f0 hT0 hk5 hor
    refine J.aload_n 16 dX6_readStep_16 rfl rfl ?_
    refine J.iconst 17 (nI 1) dX6_readStep_17 (by decide +kernel) ?_
    refine V.putZ 18 dX6_readStep_18 fl_RX6_37 fp_6_7 i_17_7 (by first | exact Or.inl rfl | exact Or.inr rfl) ?_
    refine J.aload_n 21 dX6_readStep_21 rfl rfl ?_
    refine J.dup 22 dX6_readStep_22 rfl ?_
    refine V.getI 23 dX6_readStep_23 fl_RX6_27 i_17_2 ?_
    refine J.top (b := nI a) (by rw [up2_o _ _ (by omega)]; exact hT0.2.1) ?_
    refine J.iconst 26 (nI 1) dX6_readStep_26 (by decide +kernel) ?_
    refine V.iadd 27 dX6_readStep_27 ?_
    refine V.putI 28 dX6_readStep_28 fl_RX6_27 fp_6_2 i_17_2 ?_
    refine J.aload_n 31 dX6_readStep_31 rfl rfl ?_
    refine J.aload_n 32 dX6_readStep_32 rfl rfl ?_
    refine J.iconst 33 (nI 0) dX6_readStep_33 (by decide +kernel) ?_
    refine J.bipush 34 (nI 80) dX6_readStep_34 (by decide +kernel) ?_
    refine V.callv 36 dX6_readStep_36 ml_RX6_70 mi_yX6_readNumber mv_yX6_readNumber (c_X6_readNumber w _ ((hT0.ts 1).at (a + 1)) (by omega) (by omega) (by omega)) rfl rfl (Nat.le_of_ble_eq_true rfl) (by decide) (by decide) o_17 rfl rfl (fun r36 v36 h36 => ?_)
    rw [show up2 (up2 u 17 7 (nI 1)) 17 2 (nI (a + 1)) 18 = v 18 from by rw [up2_ne _ _ _ (by decide), up2_ne _ _ _ (by decide)]; exact f0 18 (by decide)] at h36
    obtain ⟨ha9, hT9, -, hf9⟩ := h36
    have hf9 := hf9.trans f0.up.up
    have hR9 := hR.frt hq hf9
    subst ha9
    refine V.putI 39 dX6_readStep_39 fl_RX6_90 fp_5_2 hq.i2 ?_
    exact V.vret 42 dX6_readStep_42 (by
        have hF9 : FrX _ v q := FrX.trans ((FrS.rf v36 q).up (k := q) (i := 2) (x := nuV (v 18) s (skp (v 18) s (a + 1))) (by omega) (by omega)).x hf9.x
        have hT8 := hT9.frs hq ((FrS.rf v36 q).up (k := q) (i := 2) (x := nuV (v 18) s (skp (v 18) s (a + 1))) (by omega) (by omega))
        rcases hor with ⟨z1, z2, z3⟩ | ⟨z1, z2, z3⟩
        · subst z2 z3
          rw [ntK_0] at hT8
          by_cases hz : (nuK (v 18) s (skp (v 18) s (a + 1)) (nI 0) (nI 80)) = 0
          · rw [hz, ntP_z] at hT8
            exact PCl.ok hF9 hT8 (hR9.stp hn (by omega) _) (by rw [upd_ne _ _ (by omega)]; exact hW.1) hn (by rw [cO_s, if_neg z1, numS_y hz])
          · rw [ntP_0 hz] at hT8
            exact PCl.bad hF9 (by omega) (by omega) (by omega) hT8 (by rw [cO_s, if_neg z1, numS_n hz])
        · subst z2 z3
          rw [ntK_n (by decide), ntP_n (by decide)] at hT8
          exact PCl.bad hF9 (by decide) (by decide) (by omega) hT8 (by rw [cO_s, if_pos z1]))
  refine J.aload_n 0 dX6_readStep_0 rfl rfl ?_
  refine V.getI 1 dX6_readStep_1 fl_RX6_37 i_17_7 ?_
  refine J.top hT.2.2.2.2.2 ?_
  refine V.if_eq 4 16 dX6_readStep_4 (by decide) (by omega) (fun c4 => ?_) (fun c4 => ?_)
  · first | exact K16 _ _ _ (FrT.rf v) hT (by decide) (Or.inl ⟨by omega, rfl, rfl⟩) | exact K16 _ _ _ (FrT.rf v).nt (hT.nt (K := 4) (b := a) (by decide)) (by decide) (Or.inr ⟨by omega, rfl, rfl⟩)
  · refine J.aload_n 7 dX6_readStep_7 rfl rfl ?_
    refine J.iconst 8 (nI 4) dX6_readStep_8 (by decide +kernel) ?_
    refine J.aload_n 9 dX6_readStep_9 rfl rfl ?_
    refine V.getI 10 dX6_readStep_10 fl_RX6_27 i_17_2 ?_
    refine J.top hT.2.1 ?_
    refine V.callvU 13 dX6_readStep_13 ml_RX6_63 mi_yX6_note mv_yX6_note (c_X6_note w _ hT.2.2.1 (by omega)) rfl rfl (Nat.le_of_ble_eq_true rfl) (by decide) (by decide) o_17 rfl rfl (fun v13 h13 => ?_)
    subst h13
    first | exact K16 _ _ _ (FrT.rf v) hT (by decide) (Or.inl ⟨by omega, rfl, rfl⟩) | exact K16 _ _ _ (FrT.rf v).nt (hT.nt (K := 4) (b := a) (by decide)) (by decide) (Or.inr ⟨by omega, rfl, rfl⟩)
