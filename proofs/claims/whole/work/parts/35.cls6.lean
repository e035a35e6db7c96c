/-! ===== part 35: a State: sets, clocks added, copied ===== -/
theorem BM_an (f g : Nat → Int32) : BM f &&& (BM g ^^^ -1) = BM (fun c => if f c = nI 1 ∧ ¬ g c = nI 1 then nI 1 else nI 0) := by
  have h : ∀ b0 b1 b2 b3 b4 b5 b6 b7 d0 d1 d2 d3 d4 d5 d6 d7 : Bool, nI (b8 b0 b1 b2 b3 b4 b5 b6 b7) &&& (nI (b8 d0 d1 d2 d3 d4 d5 d6 d7) ^^^ -1) = nI (b8 (b0 && !d0) (b1 && !d1) (b2 && !d2) (b3 && !d3) (b4 && !d4) (b5 && !d5) (b6 && !d6) (b7 && !d7)) := by
    intro b0 b1 b2 b3 b4 b5 b6 b7 d0 d1 d2 d3 d4 d5 d6 d7
    apply Int32.toBitVec_inj.mp
    apply BitVec.eq_of_toNat_eq
    rw [Int32.toBitVec_and, Int32.toBitVec_xor, BitVec.toNat_and, BitVec.toNat_xor]
    have e : ∀ x0 x1 x2 x3 x4 x5 x6 x7 : Bool, (nI (b8 x0 x1 x2 x3 x4 x5 x6 x7)).toBitVec.toNat = b8 x0 x1 x2 x3 x4 x5 x6 x7 := by decide +kernel
    have em : (-1 : Int32).toBitVec.toNat = 2 ^ 32 - 1 := by decide +kernel
    rw [e, e, e, em]
    apply Nat.eq_of_testBit_eq
    intro i
    rw [Nat.testBit_and, Nat.testBit_xor, Nat.testBit_two_pow_sub_one]
    have t : ∀ x0 x1 x2 x3 x4 x5 x6 x7 : Bool, ∀ j : Fin 8, (b8 x0 x1 x2 x3 x4 x5 x6 x7).testBit j.val = [x0, x1, x2, x3, x4, x5, x6, x7].getD j.val false := by decide +kernel
    have u : ∀ x0 x1 x2 x3 x4 x5 x6 x7 : Bool, b8 x0 x1 x2 x3 x4 x5 x6 x7 < 2 ^ 8 := by decide +kernel
    by_cases hi : i < 8
    · rw [t _ _ _ _ _ _ _ _ ⟨i, hi⟩, t _ _ _ _ _ _ _ _ ⟨i, hi⟩, t _ _ _ _ _ _ _ _ ⟨i, hi⟩]
      obtain rfl | rfl | rfl | rfl | rfl | rfl | rfl | rfl : i = 0 ∨ i = 1 ∨ i = 2 ∨ i = 3 ∨ i = 4 ∨ i = 5 ∨ i = 6 ∨ i = 7 := by omega
      all_goals simp
    · have hp : 2 ^ 8 ≤ 2 ^ i := Nat.pow_le_pow_right (by decide) (by omega)
      rw [Nat.testBit_lt_two_pow (Nat.lt_of_lt_of_le (u _ _ _ _ _ _ _ _) hp), Nat.testBit_lt_two_pow (Nat.lt_of_lt_of_le (u _ _ _ _ _ _ _ _) hp), Nat.testBit_lt_two_pow (Nat.lt_of_lt_of_le (u _ _ _ _ _ _ _ _) hp)]
      rfl
  unfold BM
  rw [h]
  have d : ∀ c, (decide (f c = nI 1) && !decide (g c = nI 1)) = decide ((if f c = nI 1 ∧ ¬ g c = nI 1 then nI 1 else nI 0) = nI 1) := by
    intro c
    by_cases h1 : f c = nI 1 <;> by_cases h2 : g c = nI 1 <;> simp [h1, h2, n01]
  rw [d, d, d, d, d, d, d, d]
theorem BM_bl {f : Nat → Int32} {p : Nat → Prop} [DecidablePred p] {n : Nat} (hn : n ≤ 8) : bsI p n = BM (fun c => if c < n ∧ p c then nI 1 else nI 0) := by
  induction n with
  | zero => exact BM_0.trans (BM_congr (fun c _ => by rw [if_neg (fun z => absurd z.1 (by omega))]; decide))
  | succ n ih =>
    unfold bsI
    rw [ih (by omega)]
    by_cases h : p n
    · rw [if_pos h, BM_s _ (by omega)]
      refine BM_congr (fun c _ => ?_)
      by_cases e : c = n
      · subst e; rw [upd_self, if_pos ⟨by omega, h⟩]
      · rw [upd_ne _ _ e]
        by_cases e2 : c < n ∧ p c
        · rw [if_pos e2, if_pos ⟨by omega, e2.2⟩]
        · rw [if_neg e2, if_neg (fun z => e2 ⟨by omega, z.2⟩)]
    · rw [if_neg h, show ∀ x : Int32, x ||| nI 0 = x from fun x => Int32.or_zero]
      refine BM_congr (fun c _ => ?_)
      by_cases e2 : c < n ∧ p c
      · rw [if_pos e2, if_pos ⟨by omega, e2.2⟩]
      · rw [if_neg e2, if_neg (fun z => e2 ⟨by rcases Nat.lt_or_eq_of_le (Nat.le_of_lt_succ z.1) with q | q; exact q; exact absurd (q ▸ z.2) h, z.2⟩)]
theorem BM_sub {n : Nat} (hn : n ≤ 8) : (nI 1 <<< (nI n &&& 31)) - nI 1 = BM (fun c => if c < n then nI 1 else nI 0) := by
  obtain rfl | rfl | rfl | rfl | rfl | rfl | rfl | rfl | rfl : n = 0 ∨ n = 1 ∨ n = 2 ∨ n = 3 ∨ n = 4 ∨ n = 5 ∨ n = 6 ∨ n = 7 ∨ n = 8 := by omega
  all_goals decide +kernel
theorem rsI_BM (ρ : Nat → Int32) : ∀ ma, ma ≤ 6 → (∀ a, a < ma → ρ (184 + a) = 0 ∨ ρ (184 + a) = nI 1) → rsI ρ ma = BM (fun a => if a < ma then ρ (184 + a) else 0)
  | 0, _, _ => BM_0.trans (BM_congr (fun c _ => by rw [if_neg (by omega)]))
  | m + 1, hm, h => by
    unfold rsI
    rw [rsI_BM ρ m (by omega) (fun a ha => h a (by omega))]
    rcases h m (by omega) with e | e
    · rw [e, show (0 : Int32) <<< (nI m &&& 31) = nI 0 from Int32.zero_shiftLeft, BM_0, BM_or]
      refine BM_congr (fun c _ => ?_)
      by_cases e2 : c < m
      · rw [if_pos e2, if_pos (show c < m + 1 by omega)]
        by_cases r : ρ (184 + c) = nI 1
        · rw [if_pos (Or.inl r)]; exact ⟨fun _ => r, fun _ => rfl⟩
        · rw [if_neg (fun z => z.elim r (fun z => absurd z (by decide)))]; exact ⟨fun z => absurd z n01, fun z => absurd z r⟩
      · rw [if_neg e2, if_neg (fun z => z.elim (fun z => absurd z (by decide)) (fun z => absurd z (by decide)))]
        by_cases e3 : c < m + 1
        · obtain rfl : c = m := by omega
          rw [if_pos e3, e]; decide
        · rw [if_neg e3]; decide
    · rw [e, BM_s _ (by omega)]
      refine BM_congr (fun c _ => ?_)
      by_cases e2 : c = m
      · subst e2; rw [upd_self, if_pos (by omega), e]
      · rw [upd_ne _ _ e2]
        by_cases e3 : c < m
        · rw [if_pos e3, if_pos (by omega)]
        · rw [if_neg e3, if_neg (by omega)]
theorem ts_eq {ρ : Nat → Int32} {n f ma : Nat} (hW : Wf ρ n f ma) : (((nI 1 <<< (nI n &&& 31)) - nI 1) &&& (BM (fun c => ρ (27 + c)) ^^^ -1)) &&& (BM (fun c => ρ (35 + c)) ^^^ -1) = bsI (fun c => trF ρ c) n := by
  rw [BM_sub hW.2.1, BM_an, BM_an, BM_bl (f := ρ) hW.2.1]
  refine BM_congr (fun c hc => ?_)
  have hz := hW.z hc
  by_cases h : c < n ∧ trF ρ c
  · rw [if_pos h, if_pos h.1, if_pos ⟨if_pos ⟨rfl, hz.1.mp h.2.1⟩, hz.2.mp h.2.2⟩]
  · rw [if_neg h]
    refine ⟨fun z => absurd ?_ h, fun z => absurd z n01⟩
    by_cases q : (if (if c < n then nI 1 else nI 0) = nI 1 ∧ ¬ρ (27 + c) = nI 1 then nI 1 else nI 0) = nI 1 ∧ ¬ρ (35 + c) = nI 1
    · by_cases q2 : (if c < n then nI 1 else nI 0) = nI 1 ∧ ¬ρ (27 + c) = nI 1
      · refine ⟨?_, hz.1.mpr q2.2, hz.2.mpr q.2⟩
        by_cases q3 : c < n
        · exact q3
        · have := q2.1; rw [if_neg q3] at this; exact absurd this n01
      · have := q.1; rw [if_neg q2] at this; exact absurd this n01
    · rw [if_neg q] at z; exact absurd z n01
theorem cn8_up (f : Nat → Int32) {n : Nat} (h : ∀ c, n ≤ c → c < 8 → ¬ f c = nI 1) : ∀ k, n + k ≤ 8 → cn8 f (n + k) = cn8 f n
  | 0, _ => rfl
  | k + 1, hk => by
    show cn8 f (n + k) + (decide (f (n + k) = nI 1)).toNat = _
    rw [cn8_up f h k (by omega), decide_eq_false (h (n + k) (by omega) (by omega))]
    rfl
theorem cn8_8 (f : Nat → Int32) {n : Nat} (hn : n ≤ 8) (h : ∀ c, n ≤ c → c < 8 → ¬ f c = nI 1) : cn8 f 8 = cn8 f n := by
  have := cn8_up f h (8 - n) (by omega)
  rw [← this]
  congr 1
  omega
theorem cn_S {ρ : Nat → Int32} {n f ma : Nat} (hW : Wf ρ n f ma) : ∀ k, k ≤ n → cn8 (fun c => ρ (35 + c)) k + cntS ρ k = k
  | 0, _ => rfl
  | k + 1, hk => by
    have ih := cn_S hW k (by omega)
    have hz := (hW.z (c := k) (by have := hW.2.1; omega)).2
    show cn8 (fun c => ρ (35 + c)) k + (decide (ρ (35 + k) = nI 1)).toNat + (cntS ρ k + (if ρ (35 + k) = 0 then 1 else 0)) = k + 1
    by_cases h : ρ (35 + k) = nI 1
    · rw [decide_eq_true h, if_neg (fun z => hz.mp z h)]
      show cn8 (fun c => ρ (35 + c)) k + 1 + (cntS ρ k + 0) = k + 1
      omega
    · rw [decide_eq_false h, if_pos (hz.mpr h)]
      show cn8 (fun c => ρ (35 + c)) k + 0 + (cntS ρ k + 1) = k + 1
      omega
theorem cn_p {p : Nat → Prop} [DecidablePred p] (c1 : Nat → Nat) (h0 : c1 0 = 0) (hs : ∀ k, c1 (k + 1) = c1 k + if p k then 1 else 0) {n : Nat} (f : Nat → Int32) (hf : ∀ c, c < n → (f c = nI 1 ↔ p c)) : ∀ k, k ≤ n → cn8 f k = c1 k
  | 0, _ => h0.symm
  | k + 1, hk => by
    rw [hs]
    show cn8 f k + (decide (f k = nI 1)).toNat = _
    rw [cn_p c1 h0 hs f hf k (by omega)]
    by_cases h : p k
    · rw [if_pos h, decide_eq_true ((hf k (by omega)).mpr h)]; rfl
    · rw [if_neg h, decide_eq_false (fun z => h ((hf k (by omega)).mp z))]; rfl
theorem ts_cn {ρ : Nat → Int32} {n : Nat} (hn : n ≤ 8) : bcF (bsI (fun c => trF ρ c) n) = nI (cntT ρ n) := by
  rw [BM_bl (f := ρ) hn, BM_n, cn8_8 _ hn (fun c h1 h2 => by rw [if_neg (fun z => absurd z.1 (by omega))]; exact n01)]
  congr 1
  refine cn_p (p := fun c => trF ρ c) (cntT ρ) rfl (fun k => rfl) _ (fun c hc => ?_) n (Nat.le_refl n)
  by_cases h : trF ρ c
  · rw [if_pos ⟨hc, h⟩]; exact ⟨fun _ => h, fun _ => rfl⟩
  · rw [if_neg (fun z => h z.2)]; exact ⟨fun z => absurd z n01, fun z => absurd z h⟩
theorem li_cn {ρ : Nat → Int32} {n f ma : Nat} (hW : Wf ρ n f ma) : bcF (BM (fun c => ρ (27 + c)) &&& (BM (fun c => ρ (35 + c)) ^^^ -1)) = nI (cntL ρ n) := by
  have hn := hW.2.1
  have hz1 : ∀ c, c < 8 → ρ (27 + c) = nI 1 → c < n := fun c hc z => by
    rcases (hW.2.2.2.2.2.2.2.1 c hc).1 with e | e
    · rw [e] at z; exact absurd z (by decide)
    · exact e.2
  rw [BM_an, BM_n, cn8_8 _ hn (fun c h1 h2 => by rw [if_neg (fun z => absurd (hz1 c h2 z.1) (by omega))]; exact n01)]
  congr 1
  refine cn_p (p := fun c => liF ρ c) (cntL ρ) rfl (fun k => rfl) _ (fun c hc => ?_) n (Nat.le_refl n)
  have hz := (hW.z (c := c) (by omega)).2
  by_cases h : liF ρ c
  · rw [if_pos ⟨h.1, hz.mp h.2⟩]; exact ⟨fun _ => h, fun _ => rfl⟩
  · rw [if_neg (fun z => h ⟨z.1, hz.mpr z.2⟩)]; exact ⟨fun z => absurd z n01, fun z => absurd z h⟩

set_option maxHeartbeats 600000 in
set_option maxRecDepth 100000 in
theorem c_X5_trueSet (w : Wd) (v : Vm2) {q : Nat} (hq : IsS q) {ρ : Nat → Int32} {n ma : Nat} (hR : RepS v q ρ n ma) {f : Nat} (hW : Wf ρ n f ma) : CP w yX5_trueSet cX5_trueSet 1 (some .int) (rm 0 0) [.ref (wN w + q)] v (bsI (fun c => trF ρ c) n) := by
  refine CI.of (by decide) (Nat.le_of_ble_eq_true rfl) ?_
  refine J.iconst 0 (nI 1) dX5_trueSet_0 (by decide +kernel) ?_
  refine J.aload_n 1 dX5_trueSet_1 rfl rfl ?_
  refine V.getI 2 dX5_trueSet_2 fl_RX5_37 hq.i0 ?_
  refine J.top (hR.1.1.trans hW.1) ?_
  refine J.ishl 5 dX5_trueSet_5 ?_
  refine J.iconst 6 (nI 1) dX5_trueSet_6 (by decide +kernel) ?_
  refine J.isub 7 dX5_trueSet_7 ?_
  refine J.aload_n 8 dX5_trueSet_8 rfl rfl ?_
  refine V.getI 9 dX5_trueSet_9 fl_RX5_43 hq.i3 ?_
  refine J.top hR.2.1.1 ?_
  refine J.iconst 12 (-1) dX5_trueSet_12 (by decide +kernel) ?_
  refine J.ixor 13 dX5_trueSet_13 ?_
  refine J.iand 14 dX5_trueSet_14 ?_
  refine J.aload_n 15 dX5_trueSet_15 rfl rfl ?_
  refine V.getI 16 dX5_trueSet_16 fl_RX5_46 hq.i4 ?_
  refine J.top hR.2.1.2.1 ?_
  refine J.iconst 19 (-1) dX5_trueSet_19 (by decide +kernel) ?_
  refine J.ixor 20 dX5_trueSet_20 ?_
  refine J.iand 21 dX5_trueSet_21 ?_
  exact V.iret 22 dX5_trueSet_22 (⟨ts_eq hW, rfl⟩)
theorem ml_eq {ρ : Nat → Int32} {n f ma : Nat} (hW : Wf ρ n f ma) : n - cn8 (fun c => ρ (35 + c)) 8 = cntS ρ n ∧ cn8 (fun c => ρ (35 + c)) 8 ≤ n := by
  have h1 := cn_S hW n (Nat.le_refl n)
  have h2 := cn8_8 (fun c => ρ (35 + c)) hW.2.1 (fun c h1 h2 => by
    rcases (hW.2.2.2.2.2.2.2.1 c h2).2 with e | e
    · show ¬ ρ (35 + c) = nI 1
      rw [e]; decide
    · exact absurd e.2 (by omega))
  rw [h2]
  omega
theorem mi_le {a b : Int32} : miF a b = if a ≤ b then a else b := by
  unfold miF
  by_cases h : b < a
  · rw [if_pos h, if_neg (Int32.not_le.mpr h)]
  · rw [if_neg h, if_pos (Int32.not_lt.mp h)]
set_option maxHeartbeats 600000 in
set_option maxRecDepth 100000 in
theorem c_X5_mayLie (w : Wd) (v : Vm2) {q : Nat} (hq : IsS q) {ρ : Nat → Int32} {n ma : Nat} (hR : RepS v q ρ n ma) {f : Nat} (hW : Wf ρ n f ma) : CP w yX5_mayLie cX5_mayLie 2 (some .int) (rm 1 21) [.ref (wN w + q)] v (mlF ρ n) := by
  have hn := hW.2.1
  have hml := ml_eq hW
  have hsl := cntS_le ρ n
  refine CI.of (by decide) (Nat.le_of_ble_eq_true rfl) ?_
  refine J.aload_n 0 dX5_mayLie_0 rfl rfl ?_
  refine V.getI 1 dX5_mayLie_1 fl_RX5_37 hq.i0 ?_
  refine J.top (hR.1.1.trans hW.1) ?_
  refine J.aload_n 4 dX5_mayLie_4 rfl rfl ?_
  refine V.getI 5 dX5_mayLie_5 fl_RX5_46 hq.i4 ?_
  refine J.top hR.2.1.2.1 ?_
  refine V.callsP 8 dX5_mayLie_8 ml_RX5_102 mi_yJ6_bitCount_0f7a4 ms_yJ6_bitCount_0f7a4 (c_J6_bitCount_0f7a4 w _ _) rfl rfl (Nat.le_of_ble_eq_true rfl) (by decide) (by decide) ?_
  refine J.top (BM_n _) ?_
  refine V.isub 11 dX5_mayLie_11 (hml.2) ?_
  rw [hml.1]
  refine J.istore_n 12 dX5_mayLie_12 rfl (by decide) ?_
  refine J.iload_n 13 dX5_mayLie_13 rfl rfl ?_
  refine J.iconst 14 (nI 1) dX5_mayLie_14 (by decide +kernel) ?_
  refine V.icmp_ge 15 22 dX5_mayLie_15 (by decide) (by omega) (by omega) (fun c15 => ?_) (fun c15 => ?_)
  · refine J.aload_n 22 dX5_mayLie_22 rfl rfl ?_
    refine V.getI 23 dX5_mayLie_23 fl_RX5_40 hq.i1 ?_
    refine J.top hR.1.2.1 ?_
    refine J.iload_n 26 dX5_mayLie_26 rfl rfl ?_
    refine J.iconst 27 (nI 1) dX5_mayLie_27 (by decide +kernel) ?_
    refine J.isub 28 dX5_mayLie_28 ?_
    refine J.iconst 29 (nI 3) dX5_mayLie_29 (by decide +kernel) ?_
    refine J.idiv 30 dX5_mayLie_30 (by decide) ?_
    refine V.callsP 31 dX5_mayLie_31 ml_RX5_94 mi_yJ9_min_7cf53 ms_yJ9_min_7cf53 (c_J9_min_7cf53 w _ _ _) rfl rfl (Nat.le_of_ble_eq_true rfl) (by decide) (by decide) ?_
    rw [mi_le]
    exact V.iret 34 dX5_mayLie_34 (⟨by unfold mlF; first | exact (if_pos (by omega)).symm | exact (if_neg (by omega)).symm, rfl⟩)
  · refine J.iconst 18 (-1) dX5_mayLie_18 (by decide +kernel) ?_
    refine J.goto 19 34 dX5_mayLie_19 (by decide) ?_
    exact V.iret 34 dX5_mayLie_34 (⟨by unfold mlF; first | exact (if_pos (by omega)).symm | exact (if_neg (by omega)).symm, rfl⟩)
def adC (ρ : Nat → Int32) (n : Nat) (x y : Int32) : Nat → Int32 := upd (upd (upd ρ (3 + n) x) (11 + n) y) 0 (nI (n + 1))
theorem adC_at (ρ : Nat → Int32) {n k : Nat} {x y : Int32} (h1 : k ≠ 3 + n) (h2 : k ≠ 11 + n) (h3 : k ≠ 0) : adC ρ n x y k = ρ k := by
  unfold adC
  rw [upd_ne _ _ h3, upd_ne _ _ h2, upd_ne _ _ h1]
theorem RepS.add {v : Vm2} {q n ma : Nat} {ρ : Nat → Int32} (h : RepS v q ρ n ma) (hn : n < 8) (hma : ma ≤ 6) (hz : ρ (19 + n) = nI 0) (x y : Int32) : RepS (up2 (up2 (up2 (up2 v (q + 1) n x) (q + 2) n y) (q + 3) n (nI 0)) q 0 (nI (n + 1))) q (adC ρ n x y) (n + 1) ma := by
  obtain ⟨⟨a1, a2, a3, a4, a5⟩, ⟨b1, b2, b3⟩, c1, c2, c3⟩ := h
  refine ⟨⟨?_, ?_, ?_, ?_, ?_⟩, ⟨?_, ?_, ?_⟩, fun k hk => ⟨?_, ?_, ?_⟩, fun k hk => ⟨?_, ?_⟩, fun k hk => ⟨?_, ?_⟩⟩
  · rw [up2_self]; unfold adC; rw [upd_self]
  · rw [up2_o _ _ (by omega), up2_o _ _ (by omega), up2_o _ _ (by omega), up2_o _ _ (by omega), adC_at _ (by omega) (by omega) (by omega)]; exact a2
  · rw [up2_o _ _ (by omega), up2_o _ _ (by omega), up2_o _ _ (by omega), up2_o _ _ (by omega), adC_at _ (by omega) (by omega) (by omega)]; exact a3
  · rw [up2_o _ _ (by omega), up2_o _ _ (by omega), up2_o _ _ (by omega), up2_o _ _ (by omega), adC_at _ (by omega) (by omega) (by omega)]; exact a4
  · rw [up2_o _ _ (by omega), up2_o _ _ (by omega), up2_o _ _ (by omega), up2_o _ _ (by omega), adC_at _ (by omega) (by omega) (by omega)]; exact a5
  · rw [up2_o _ _ (by omega), up2_o _ _ (by omega), up2_o _ _ (by omega), up2_o _ _ (by omega), b1]; exact BM_congr (fun k hk => by rw [adC_at _ (by omega) (by omega) (by omega)])
  · rw [up2_o _ _ (by omega), up2_o _ _ (by omega), up2_o _ _ (by omega), up2_o _ _ (by omega), b2]; exact BM_congr (fun k hk => by rw [adC_at _ (by omega) (by omega) (by omega)])
  · rw [up2_o _ _ (by omega), up2_o _ _ (by omega), up2_o _ _ (by omega), up2_o _ _ (by omega), b3]; exact BM_congr (fun k hk => by rw [adC_at _ (by omega) (by omega) (by omega)])
  · rw [up2_o _ _ (by omega), up2_o _ _ (by omega), up2_o _ _ (by omega)]
    by_cases e : k = n
    · subst e; rw [up2_self]; unfold adC; rw [upd_ne _ _ (by omega), upd_ne _ _ (by omega), upd_self]
    · rw [up2_o _ _ (by omega), adC_at _ (by omega) (by omega) (by omega)]; exact (c1 k (by omega)).1
  · rw [up2_o _ _ (by omega), up2_o _ _ (by omega)]
    by_cases e : k = n
    · subst e; rw [up2_self]; unfold adC; rw [upd_ne _ _ (by omega), upd_self]
    · rw [up2_o _ _ (by omega), up2_o _ _ (by omega), adC_at _ (by omega) (by omega) (by omega)]; exact (c1 k (by omega)).2.1
  · rw [up2_o _ _ (by omega)]
    by_cases e : k = n
    · subst e; rw [up2_self, adC_at _ (by omega) (by omega) (by omega)]; exact hz.symm
    · rw [up2_o _ _ (by omega), up2_o _ _ (by omega), up2_o _ _ (by omega), adC_at _ (by omega) (by omega) (by omega)]; exact (c1 k (by omega)).2.2
  · rw [up2_o _ _ (by omega), up2_o _ _ (by omega), up2_o _ _ (by omega), up2_o _ _ (by omega), adC_at _ (by omega) (by omega) (by omega)]; exact (c2 k hk).1
  · rw [up2_o _ _ (by omega), up2_o _ _ (by omega), up2_o _ _ (by omega), up2_o _ _ (by omega), adC_at _ (by omega) (by omega) (by omega)]; exact (c2 k hk).2
  · rw [up2_o _ _ (by omega), up2_o _ _ (by omega), up2_o _ _ (by omega), up2_o _ _ (by omega), adC_at _ (by omega) (by omega) (by omega)]; exact (c3 k hk).1
  · rw [up2_o _ _ (by omega), up2_o _ _ (by omega), up2_o _ _ (by omega), up2_o _ _ (by omega), adC_at _ (by omega) (by omega) (by omega)]; exact (c3 k hk).2
set_option maxHeartbeats 600000 in
set_option maxRecDepth 100000 in
theorem c_X5_addClock (w : Wd) (v : Vm2) {q : Nat} (hq : IsS q) {n : Nat} {x y : Int32} (hn0 : v q 0 = nI n) (hn : n < 8) : CU w yX5_addClock cX5_addClock 3 (rm 0 0) [.ref (wN w + q), .int x, .int y] v (fun v' => v' = up2 (up2 (up2 (up2 v (q + 1) n x) (q + 2) n y) (q + 3) n (nI 0)) q 0 (nI (n + 1))) := by
  refine CU.of (by decide) (Nat.le_of_ble_eq_true rfl) ?_
  refine J.aload_n 0 dX5_addClock_0 rfl rfl ?_
  refine V.getI 1 dX5_addClock_1 fl_RX5_37 hq.i0 ?_
  refine J.top hn0 ?_
  refine J.bipush 4 (nI 8) dX5_addClock_4 (by decide +kernel) ?_
  refine V.icmp_ge 6 49 dX5_addClock_6 (by decide) (by omega) (by omega) (fun c6 => absurd c6 (by omega)) (fun c6 => ?_)
  refine J.aload_n 9 dX5_addClock_9 rfl rfl ?_
  refine V.getR 10 dX5_addClock_10 fl_RX5_15 hq.r8 ?_
  refine J.aload_n 13 dX5_addClock_13 rfl rfl ?_
  refine V.getI 14 dX5_addClock_14 fl_RX5_37 hq.i0 ?_
  refine J.top hn0 ?_
  refine J.iload_n 17 dX5_addClock_17 rfl rfl ?_
  refine V.iast 18 dX5_addClock_18 hq.a8 (by omega) ?_
  refine J.aload_n 19 dX5_addClock_19 rfl rfl ?_
  refine V.getR 20 dX5_addClock_20 fl_RX5_19 hq.r9 ?_
  refine J.aload_n 23 dX5_addClock_23 rfl rfl ?_
  refine V.getI 24 dX5_addClock_24 fl_RX5_37 hq.i0 ?_
  refine J.top (b := nI n) (by rw [up2_o _ _ (by omega)]; exact hn0) ?_
  refine J.iload_n 27 dX5_addClock_27 rfl rfl ?_
  refine V.iast 28 dX5_addClock_28 hq.a9 (by omega) ?_
  refine J.aload_n 29 dX5_addClock_29 rfl rfl ?_
  refine V.getR 30 dX5_addClock_30 fl_RX5_22 hq.r10 ?_
  refine J.aload_n 33 dX5_addClock_33 rfl rfl ?_
  refine V.getI 34 dX5_addClock_34 fl_RX5_37 hq.i0 ?_
  refine J.top (b := nI n) (by rw [up2_o _ _ (by omega), up2_o _ _ (by omega)]; exact hn0) ?_
  refine J.iconst 37 (nI 0) dX5_addClock_37 (by decide +kernel) ?_
  refine V.iast 38 dX5_addClock_38 hq.a10 (by omega) ?_
  refine J.aload_n 39 dX5_addClock_39 rfl rfl ?_
  refine J.dup 40 dX5_addClock_40 rfl ?_
  refine V.getI 41 dX5_addClock_41 fl_RX5_37 hq.i0 ?_
  refine J.top (b := nI n) (by rw [up2_o _ _ (by omega), up2_o _ _ (by omega), up2_o _ _ (by omega)]; exact hn0) ?_
  refine J.iconst 44 (nI 1) dX5_addClock_44 (by decide +kernel) ?_
  refine V.iadd 45 dX5_addClock_45 ?_
  refine V.putI 46 dX5_addClock_46 fl_RX5_37 fp_5_0 hq.i0 ?_
  exact V.vret 49 dX5_addClock_49 (rfl)
def szT (t : Nat) : Nat := if t ≤ 3 then 8 else if t ≤ 5 then 64 else 6
def Cp (u v : Vm2) (q q2 i : Nat) : Prop := FrS u v q ∧ (∀ j, j < 8 → u q j = v q2 j) ∧ ∀ t, 1 ≤ t → t < i → ∀ j, j < szT t → u (q + t) j = v (q2 + t) j
theorem Cp.st {u v : Vm2} {q q2 i : Nat} (h : Cp u v q q2 i) (hd : q + 8 ≤ q2 ∨ q2 + 8 ≤ q) (h1 : 1 ≤ i) (h2 : i < 8) : Cp (upR u (q + i) (va_cpy (u (q2 + i)) (u (q + i)) 0 0 (szT i))) v q q2 (i + 1) := by
  refine ⟨h.1.upR (by omega) (by omega), fun j hj => ?_, fun t t1 t2 j hj => ?_⟩
  · rw [upR_ne _ _ (by omega)]; exact h.2.1 j hj
  · by_cases e : t = i
    · subst e
      rw [upR_self, sb_cpy0 hj, h.1 (q2 + t) (by omega)]
    · rw [upR_ne _ _ (by omega)]
      exact h.2.2 t t1 (by omega) j hj
theorem Cp.rep {u v : Vm2} {q q2 n ma : Nat} {ρ : Nat → Int32} (h : Cp u v q q2 8) (hn : n ≤ 8) (hma : ma ≤ 6) (hR : RepS v q2 ρ n ma) : RepS u q ρ n ma := by
  obtain ⟨⟨a1, a2, a3, a4, a5⟩, ⟨b1, b2, b3⟩, c1, c2, c3⟩ := hR
  obtain ⟨hf, h0, ht⟩ := h
  have e1 := ht 1 (by omega) (by omega)
  have e2 := ht 2 (by omega) (by omega)
  have e3 := ht 3 (by omega) (by omega)
  have e4 := ht 4 (by omega) (by omega)
  have e5 := ht 5 (by omega) (by omega)
  have e6 := ht 6 (by omega) (by omega)
  have e7 := ht 7 (by omega) (by omega)
  refine ⟨⟨?_, ?_, ?_, ?_, ?_⟩, ⟨?_, ?_, ?_⟩, fun k hk => ⟨?_, ?_, ?_⟩, fun k hk => ⟨?_, ?_⟩, fun k hk => ⟨?_, ?_⟩⟩
  · rw [h0 _ (by omega)]; exact a1
  · rw [h0 _ (by omega)]; exact a2
  · rw [h0 _ (by omega)]; exact a3
  · rw [h0 _ (by omega)]; exact a4
  · rw [h0 _ (by omega)]; exact a5
  · rw [h0 _ (by omega)]; exact b1
  · rw [h0 _ (by omega)]; exact b2
  · rw [h0 _ (by omega)]; exact b3
  · rw [e1 k (show k < 8 by omega)]; exact (c1 k hk).1
  · rw [e2 k (show k < 8 by omega)]; exact (c1 k hk).2.1
  · rw [e3 k (show k < 8 by omega)]; exact (c1 k hk).2.2
  · rw [e4 k (show k < 64 by omega)]; exact (c2 k hk).1
  · rw [e5 k (show k < 64 by omega)]; exact (c2 k hk).2
  · rw [e6 k (show k < 6 by omega)]; exact (c3 k hk).1
  · rw [e7 k (show k < 6 by omega)]; exact (c3 k hk).2
theorem Cp.i {v : Vm2} {q q2 : Nat} : Cp (up2 (up2 (up2 (up2 (up2 (up2 (up2 (up2 v q 0 (v q2 0)) q 1 (v q2 1)) q 2 (v q2 2)) q 3 (v q2 3)) q 4 (v q2 4)) q 5 (v q2 5)) q 6 (v q2 6)) q 7 (v q2 7)) v q q2 1 := by
  refine ⟨((((((((FrS.rf v q).up (by omega) (by omega)).up (by omega) (by omega)).up (by omega) (by omega)).up (by omega) (by omega)).up (by omega) (by omega)).up (by omega) (by omega)).up (by omega) (by omega)).up (by omega) (by omega), fun j hj => ?_, fun t t1 t2 => absurd t2 (by omega)⟩
  obtain rfl | rfl | rfl | rfl | rfl | rfl | rfl | rfl : j = 0 ∨ j = 1 ∨ j = 2 ∨ j = 3 ∨ j = 4 ∨ j = 5 ∨ j = 6 ∨ j = 7 := by omega
  all_goals simp [up2]
set_option maxHeartbeats 600000 in
set_option maxRecDepth 100000 in
theorem c_X5_copyFrom (w : Wd) (v : Vm2) {q : Nat} (hq : IsS q) {q2 : Nat} (hq2 : IsS q2) (hd : q + 8 ≤ q2 ∨ q2 + 8 ≤ q) : CU w yX5_copyFrom cX5_copyFrom 2 (rm 1 40) [.ref (wN w + q), .ref (wN w + q2)] v (fun v' => Cp v' v q q2 8) := by
  refine CU.of (by decide) (Nat.le_of_ble_eq_true rfl) ?_
  have k7 : ∀ u : Vm2, Cp u v q q2 7 → J w yX5_copyFrom cX5_copyFrom 2 none (rm 1 40) XT (ZJ w 185 0 0 (PU w (fun v' => Cp v' v q q2 8))) 154 [(0, .ref (wN w + q)), (1, .ref (wN w + q2))] [] 185 (hv w (u)) 0 0 := by
    intro u hu
    refine J.aload_n 154 dX5_copyFrom_154 rfl rfl ?_
    refine V.getR 155 dX5_copyFrom_155 fl_RX5_34 hq2.r14 ?_
    refine J.iconst 158 (nI 0) dX5_copyFrom_158 (by decide +kernel) ?_
    refine J.aload_n 159 dX5_copyFrom_159 rfl rfl ?_
    refine V.getR 160 dX5_copyFrom_160 fl_RX5_34 hq.r14 ?_
    refine J.iconst 163 (nI 0) dX5_copyFrom_163 (by decide +kernel) ?_
    refine J.bipush 164 (nI 6) dX5_copyFrom_164 (by decide +kernel) ?_
    refine V.copy 166 dX5_copyFrom_166 ml_RX5_64 hq2.a14 hq.a14 (by decide) (by decide) (by decide) (Nat.le_of_ble_eq_true rfl) ?_
    exact V.vret 169 dX5_copyFrom_169 (hu.st hd (by omega) (by omega))
  have k6 : ∀ u : Vm2, Cp u v q q2 6 → J w yX5_copyFrom cX5_copyFrom 2 none (rm 1 40) XT (ZJ w 185 0 0 (PU w (fun v' => Cp v' v q q2 8))) 139 [(0, .ref (wN w + q)), (1, .ref (wN w + q2))] [] 185 (hv w (u)) 0 0 := by
    intro u hu
    refine J.aload_n 139 dX5_copyFrom_139 rfl rfl ?_
    refine V.getR 140 dX5_copyFrom_140 fl_RX5_31 hq2.r13 ?_
    refine J.iconst 143 (nI 0) dX5_copyFrom_143 (by decide +kernel) ?_
    refine J.aload_n 144 dX5_copyFrom_144 rfl rfl ?_
    refine V.getR 145 dX5_copyFrom_145 fl_RX5_31 hq.r13 ?_
    refine J.iconst 148 (nI 0) dX5_copyFrom_148 (by decide +kernel) ?_
    refine J.bipush 149 (nI 6) dX5_copyFrom_149 (by decide +kernel) ?_
    refine V.copy 151 dX5_copyFrom_151 ml_RX5_64 hq2.a13 hq.a13 (by decide) (by decide) (by decide) (Nat.le_of_ble_eq_true rfl) ?_
    exact k7 _ (hu.st hd (by omega) (by omega))
  have k5 : ∀ u : Vm2, Cp u v q q2 5 → J w yX5_copyFrom cX5_copyFrom 2 none (rm 1 40) XT (ZJ w 185 0 0 (PU w (fun v' => Cp v' v q q2 8))) 124 [(0, .ref (wN w + q)), (1, .ref (wN w + q2))] [] 185 (hv w (u)) 0 0 := by
    intro u hu
    refine J.aload_n 124 dX5_copyFrom_124 rfl rfl ?_
    refine V.getR 125 dX5_copyFrom_125 fl_RX5_28 hq2.r12 ?_
    refine J.iconst 128 (nI 0) dX5_copyFrom_128 (by decide +kernel) ?_
    refine J.aload_n 129 dX5_copyFrom_129 rfl rfl ?_
    refine V.getR 130 dX5_copyFrom_130 fl_RX5_28 hq.r12 ?_
    refine J.iconst 133 (nI 0) dX5_copyFrom_133 (by decide +kernel) ?_
    refine J.bipush 134 (nI 64) dX5_copyFrom_134 (by decide +kernel) ?_
    refine V.copy 136 dX5_copyFrom_136 ml_RX5_64 hq2.a12 hq.a12 (by decide) (by decide) (by decide) (Nat.le_of_ble_eq_true rfl) ?_
    exact k6 _ (hu.st hd (by omega) (by omega))
  have k4 : ∀ u : Vm2, Cp u v q q2 4 → J w yX5_copyFrom cX5_copyFrom 2 none (rm 1 40) XT (ZJ w 185 0 0 (PU w (fun v' => Cp v' v q q2 8))) 109 [(0, .ref (wN w + q)), (1, .ref (wN w + q2))] [] 185 (hv w (u)) 0 0 := by
    intro u hu
    refine J.aload_n 109 dX5_copyFrom_109 rfl rfl ?_
    refine V.getR 110 dX5_copyFrom_110 fl_RX5_25 hq2.r11 ?_
    refine J.iconst 113 (nI 0) dX5_copyFrom_113 (by decide +kernel) ?_
    refine J.aload_n 114 dX5_copyFrom_114 rfl rfl ?_
    refine V.getR 115 dX5_copyFrom_115 fl_RX5_25 hq.r11 ?_
    refine J.iconst 118 (nI 0) dX5_copyFrom_118 (by decide +kernel) ?_
    refine J.bipush 119 (nI 64) dX5_copyFrom_119 (by decide +kernel) ?_
    refine V.copy 121 dX5_copyFrom_121 ml_RX5_64 hq2.a11 hq.a11 (by decide) (by decide) (by decide) (Nat.le_of_ble_eq_true rfl) ?_
    exact k5 _ (hu.st hd (by omega) (by omega))
  have k3 : ∀ u : Vm2, Cp u v q q2 3 → J w yX5_copyFrom cX5_copyFrom 2 none (rm 1 40) XT (ZJ w 185 0 0 (PU w (fun v' => Cp v' v q q2 8))) 94 [(0, .ref (wN w + q)), (1, .ref (wN w + q2))] [] 185 (hv w (u)) 0 0 := by
    intro u hu
    refine J.aload_n 94 dX5_copyFrom_94 rfl rfl ?_
    refine V.getR 95 dX5_copyFrom_95 fl_RX5_22 hq2.r10 ?_
    refine J.iconst 98 (nI 0) dX5_copyFrom_98 (by decide +kernel) ?_
    refine J.aload_n 99 dX5_copyFrom_99 rfl rfl ?_
    refine V.getR 100 dX5_copyFrom_100 fl_RX5_22 hq.r10 ?_
    refine J.iconst 103 (nI 0) dX5_copyFrom_103 (by decide +kernel) ?_
    refine J.bipush 104 (nI 8) dX5_copyFrom_104 (by decide +kernel) ?_
    refine V.copy 106 dX5_copyFrom_106 ml_RX5_64 hq2.a10 hq.a10 (by decide) (by decide) (by decide) (Nat.le_of_ble_eq_true rfl) ?_
    exact k4 _ (hu.st hd (by omega) (by omega))
  have k2 : ∀ u : Vm2, Cp u v q q2 2 → J w yX5_copyFrom cX5_copyFrom 2 none (rm 1 40) XT (ZJ w 185 0 0 (PU w (fun v' => Cp v' v q q2 8))) 79 [(0, .ref (wN w + q)), (1, .ref (wN w + q2))] [] 185 (hv w (u)) 0 0 := by
    intro u hu
    refine J.aload_n 79 dX5_copyFrom_79 rfl rfl ?_
    refine V.getR 80 dX5_copyFrom_80 fl_RX5_19 hq2.r9 ?_
    refine J.iconst 83 (nI 0) dX5_copyFrom_83 (by decide +kernel) ?_
    refine J.aload_n 84 dX5_copyFrom_84 rfl rfl ?_
    refine V.getR 85 dX5_copyFrom_85 fl_RX5_19 hq.r9 ?_
    refine J.iconst 88 (nI 0) dX5_copyFrom_88 (by decide +kernel) ?_
    refine J.bipush 89 (nI 8) dX5_copyFrom_89 (by decide +kernel) ?_
    refine V.copy 91 dX5_copyFrom_91 ml_RX5_64 hq2.a9 hq.a9 (by decide) (by decide) (by decide) (Nat.le_of_ble_eq_true rfl) ?_
    exact k3 _ (hu.st hd (by omega) (by omega))
  have k1 : ∀ u : Vm2, Cp u v q q2 1 → J w yX5_copyFrom cX5_copyFrom 2 none (rm 1 40) XT (ZJ w 185 0 0 (PU w (fun v' => Cp v' v q q2 8))) 64 [(0, .ref (wN w + q)), (1, .ref (wN w + q2))] [] 185 (hv w (u)) 0 0 := by
    intro u hu
    refine J.aload_n 64 dX5_copyFrom_64 rfl rfl ?_
    refine V.getR 65 dX5_copyFrom_65 fl_RX5_15 hq2.r8 ?_
    refine J.iconst 68 (nI 0) dX5_copyFrom_68 (by decide +kernel) ?_
    refine J.aload_n 69 dX5_copyFrom_69 rfl rfl ?_
    refine V.getR 70 dX5_copyFrom_70 fl_RX5_15 hq.r8 ?_
    refine J.iconst 73 (nI 0) dX5_copyFrom_73 (by decide +kernel) ?_
    refine J.bipush 74 (nI 8) dX5_copyFrom_74 (by decide +kernel) ?_
    refine V.copy 76 dX5_copyFrom_76 ml_RX5_64 hq2.a8 hq.a8 (by decide) (by decide) (by decide) (Nat.le_of_ble_eq_true rfl) ?_
    exact k2 _ (hu.st hd (by omega) (by omega))
  refine J.aload_n 0 dX5_copyFrom_0 rfl rfl ?_
  refine J.aload_n 1 dX5_copyFrom_1 rfl rfl ?_
  refine V.getI 2 dX5_copyFrom_2 fl_RX5_37 hq2.i0 ?_
  refine V.putI 5 dX5_copyFrom_5 fl_RX5_37 fp_5_0 hq.i0 ?_
  refine J.aload_n 8 dX5_copyFrom_8 rfl rfl ?_
  refine J.aload_n 9 dX5_copyFrom_9 rfl rfl ?_
  refine V.getI 10 dX5_copyFrom_10 fl_RX5_40 hq2.i1 ?_
  refine J.top (b := v q2 1) (by rw [up2_o _ _ (by omega)]) ?_
  refine V.putI 13 dX5_copyFrom_13 fl_RX5_40 fp_5_1 hq.i1 ?_
  refine J.aload_n 16 dX5_copyFrom_16 rfl rfl ?_
  refine J.aload_n 17 dX5_copyFrom_17 rfl rfl ?_
  refine V.getI 18 dX5_copyFrom_18 fl_RX5_9 hq2.i2 ?_
  refine J.top (b := v q2 2) (by rw [up2_o _ _ (by omega), up2_o _ _ (by omega)]) ?_
  refine V.putI 21 dX5_copyFrom_21 fl_RX5_9 fp_5_2 hq.i2 ?_
  refine J.aload_n 24 dX5_copyFrom_24 rfl rfl ?_
  refine J.aload_n 25 dX5_copyFrom_25 rfl rfl ?_
  refine V.getI 26 dX5_copyFrom_26 fl_RX5_43 hq2.i3 ?_
  refine J.top (b := v q2 3) (by rw [up2_o _ _ (by omega), up2_o _ _ (by omega), up2_o _ _ (by omega)]) ?_
  refine V.putI 29 dX5_copyFrom_29 fl_RX5_43 fp_5_3 hq.i3 ?_
  refine J.aload_n 32 dX5_copyFrom_32 rfl rfl ?_
  refine J.aload_n 33 dX5_copyFrom_33 rfl rfl ?_
  refine V.getI 34 dX5_copyFrom_34 fl_RX5_46 hq2.i4 ?_
  refine J.top (b := v q2 4) (by rw [up2_o _ _ (by omega), up2_o _ _ (by omega), up2_o _ _ (by omega), up2_o _ _ (by omega)]) ?_
  refine V.putI 37 dX5_copyFrom_37 fl_RX5_46 fp_5_4 hq.i4 ?_
  refine J.aload_n 40 dX5_copyFrom_40 rfl rfl ?_
  refine J.aload_n 41 dX5_copyFrom_41 rfl rfl ?_
  refine V.getI 42 dX5_copyFrom_42 fl_RX5_49 hq2.i5 ?_
  refine J.top (b := v q2 5) (by rw [up2_o _ _ (by omega), up2_o _ _ (by omega), up2_o _ _ (by omega), up2_o _ _ (by omega), up2_o _ _ (by omega)]) ?_
  refine V.putI 45 dX5_copyFrom_45 fl_RX5_49 fp_5_5 hq.i5 ?_
  refine J.aload_n 48 dX5_copyFrom_48 rfl rfl ?_
  refine J.aload_n 49 dX5_copyFrom_49 rfl rfl ?_
  refine V.getI 50 dX5_copyFrom_50 fl_RX5_52 hq2.i6 ?_
  refine J.top (b := v q2 6) (by rw [up2_o _ _ (by omega), up2_o _ _ (by omega), up2_o _ _ (by omega), up2_o _ _ (by omega), up2_o _ _ (by omega), up2_o _ _ (by omega)]) ?_
  refine V.putI 53 dX5_copyFrom_53 fl_RX5_52 fp_5_6 hq.i6 ?_
  refine J.aload_n 56 dX5_copyFrom_56 rfl rfl ?_
  refine J.aload_n 57 dX5_copyFrom_57 rfl rfl ?_
  refine V.getI 58 dX5_copyFrom_58 fl_RX5_55 hq2.i7 ?_
  refine J.top (b := v q2 7) (by rw [up2_o _ _ (by omega), up2_o _ _ (by omega), up2_o _ _ (by omega), up2_o _ _ (by omega), up2_o _ _ (by omega), up2_o _ _ (by omega), up2_o _ _ (by omega)]) ?_
  refine V.putI 61 dX5_copyFrom_61 fl_RX5_55 fp_5_7 hq.i7 ?_
  exact k1 _ Cp.i
