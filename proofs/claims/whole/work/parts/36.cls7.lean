/-! ===== part 36: hearing ===== -/
theorem xs_neg (s : Int32) : (s ^^^ nI 2) < 0 ↔ s < 0 := by
  rw [Int32.lt_iff_toInt_lt, Int32.lt_iff_toInt_lt]
  have h0 : (0 : Int32).toInt = 0 := by decide
  have a : ∀ x : Int32, x.toInt < (0 : Int32).toInt ↔ x.toBitVec.msb = true := by
    intro x
    rw [h0, BitVec.msb_eq_toInt, decide_eq_true_iff]
    rfl
  rw [a, a, Int32.toBitVec_xor, BitVec.msb_xor, show (nI 2).toBitVec.msb = false by decide, Bool.xor_false]
theorem fd_fl {s : Int32} (h : -2147483646 ≤ s.toInt) : fdF s (nI 2) = fl2 s := by
  have h2 : (nI 2).toInt = 2 := by decide
  have h1 : (nI 1).toInt = 1 := by decide
  have h0 : (0 : Int32).toInt = 0 := by decide
  have hu : s.toInt < 2 ^ 31 := Int32.toInt_lt s
  have ed : (s / nI 2).toInt = s.toInt.tdiv 2 := by rw [Jvm.Kit.i32_div (by omega), h2]
  unfold fdF fl2
  by_cases hn : s < 0
  · have hn' : s.toInt < 0 := by have := Int32.lt_iff_toInt_lt.mp hn; omega
    rw [if_pos hn]
    have t1 : s.toInt.tdiv 2 = -((-s.toInt) / 2) := by
      have : s.toInt = -(-s.toInt) := by omega
      rw [this, Int.neg_tdiv, Int.tdiv_eq_ediv_of_nonneg (by omega), Int.neg_neg]
    have t2 : (1 - s.toInt).tdiv 2 = (1 - s.toInt) / 2 := Int.tdiv_eq_ediv_of_nonneg (by omega)
    rw [t1] at ed
    have e1 : (nI 1 - s).toInt = 1 - s.toInt := by rw [Jvm.Kit.i32_sub (by omega) (by omega), h1]
    have e2 : ((nI 1 - s) / nI 2).toInt = (1 - s.toInt) / 2 := by rw [Jvm.Kit.i32_div (by omega), e1, h2, t2]
    have e3 : (-((nI 1 - s) / nI 2)).toInt = -((1 - s.toInt) / 2) := by rw [Jvm.Kit.i32_neg (by omega), e2]
    have e4 : (s / nI 2 * nI 2).toInt = -((-s.toInt) / 2) * 2 := by rw [Jvm.Kit.i32_mul (by rw [ed, h2]; omega) (by rw [ed, h2]; omega), ed, h2]
    by_cases hq : s / nI 2 * nI 2 = s
    · rw [if_neg (fun z => z.2 hq)]
      apply Int32.toInt_inj.mp
      rw [e3, ed]
      rw [hq] at e4
      omega
    · rw [if_pos ⟨(xs_neg s).mpr hn, hq⟩]
      have e5 : (s / nI 2 - nI 1).toInt = -((-s.toInt) / 2) - 1 := by rw [Jvm.Kit.i32_sub (by omega) (by omega), ed, h1]
      apply Int32.toInt_inj.mp
      rw [e3, e5]
      have : ¬ -((-s.toInt) / 2) * 2 = s.toInt := fun z => hq (Int32.toInt_inj.mp (by rw [e4]; exact z))
      omega
  · rw [if_neg hn, if_neg (fun z => hn ((xs_neg s).mp z.1))]
/-- within D of 0 -/
def Wi (D : Nat) (x : Int32) : Prop := -(D : Int) ≤ x.toInt ∧ x.toInt ≤ D
theorem Wi.mono {D E : Nat} {x : Int32} (h : Wi D x) (hl : D ≤ E) : Wi E x := ⟨by have := h.1; omega, by have := h.2; omega⟩
theorem Wi.add {D E : Nat} {x y : Int32} (h : Wi D x) (h2 : Wi E y) (hl : D + E < 2147483648) : Wi (D + E) (x + y) := by
  obtain ⟨a, b⟩ := h
  obtain ⟨c, d⟩ := h2
  unfold Wi
  rw [Jvm.Kit.i32_add (by omega) (by omega)]
  omega
theorem Wi.sub {D E : Nat} {x y : Int32} (h : Wi D x) (h2 : Wi E y) (hl : D + E < 2147483648) : Wi (D + E) (x - y) := by
  obtain ⟨a, b⟩ := h
  obtain ⟨c, d⟩ := h2
  unfold Wi
  rw [Jvm.Kit.i32_sub (by omega) (by omega)]
  omega
theorem Wi.fl {D : Nat} {x y : Int32} (h : Wi D x) (h2 : Wi D y) (hl : D ≤ 1073741823) : fdF (x + y) (nI 2) = fl2 (x + y) ∧ Wi D (fl2 (x + y)) := by
  obtain ⟨a, b⟩ := h
  obtain ⟨c, d⟩ := h2
  have e0 : (x + y).toInt = x.toInt + y.toInt := Jvm.Kit.i32_add (by omega) (by omega)
  refine ⟨fd_fl (by rw [e0]; omega), ?_⟩
  have h2 : (nI 2).toInt = 2 := by decide
  have h1 : (nI 1).toInt = 1 := by decide
  have h0 : (0 : Int32).toInt = 0 := by decide
  unfold fl2 Wi
  by_cases hn : x + y < 0
  · rw [if_pos hn]
    have hn' := Int32.lt_iff_toInt_lt.mp hn
    have e1 : (nI 1 - (x + y)).toInt = 1 - (x + y).toInt := by rw [Jvm.Kit.i32_sub (by omega) (by omega), h1]
    have e2 : ((nI 1 - (x + y)) / nI 2).toInt = (1 - (x + y).toInt) / 2 := by rw [Jvm.Kit.i32_div (by omega), e1, h2, Int.tdiv_eq_ediv_of_nonneg (by omega)]
    rw [Jvm.Kit.i32_neg (by omega), e2]
    omega
  · rw [if_neg hn]
    have hn' := Int32.le_iff_toInt_le.mp (Int32.not_lt.mp hn)
    rw [Jvm.Kit.i32_div (by omega), h2, Int.tdiv_eq_ediv_of_nonneg (by omega)]
    omega
theorem putF_all {p : Int32 → Prop} {x : Int32} (hx : p x) : ∀ (m : Nat) (o : Nat → Int32), (∀ k, k < m → p (o k)) → ∀ k, k < m + 1 → p (putF o m x k)
  | 0, o, h, k, hk => by
    obtain rfl : k = 0 := by omega
    unfold putF
    rw [upd_self]
    exact hx
  | m + 1, o, h, k, hk => by
    unfold putF
    split
    · by_cases e : k < m + 1
      · refine putF_all hx m _ (fun j hj => ?_) k e
        rw [upd_ne _ _ (by omega)]
        exact h j (by omega)
      · obtain rfl : k = m + 1 := by omega
        rw [putF_in _ x m _ (by omega), upd_self]
        exact h m (by omega)
    · by_cases e : k = m + 1
      · subst e; rw [upd_self]; exact hx
      · rw [upd_ne _ _ e]; exact h k (by omega)
theorem ordF_all {p : Int32 → Prop} {h : Nat → Int32} : ∀ n, (∀ j, j < n → p (h j)) → ∀ k, k < n → p (ordF h n k)
  | 0, _, k, hk => absurd hk (by omega)
  | n + 1, hh, k, hk => putF_all (hh n (by omega)) n _ (fun j hj => ordF_all n (fun i hi => hh i (by omega)) j hj) k hk
theorem ordF_congr {h g : Nat → Int32} : ∀ n, (∀ j, j < n → h j = g j) → ordF h n = ordF g n
  | 0, _ => rfl
  | n + 1, hh => by
    unfold ordF
    rw [ordF_congr n (fun j hj => hh j (by omega)), hh n (by omega)]
/-- what was heard so far stands in order -/
def Hg (v : Vm2) (o : Nat → Int32) (j : Nat) : Prop := v 20 1 = nI j ∧ ∀ k, k < j → v 21 k = o k
theorem Hg.put {v : Vm2} {o : Nat → Int32} {j : Nat} {x : Int32} (h : Hg v o j) : Hg (up2 (upR v 21 (putF (v 21) j x)) 20 1 (nI (j + 1))) (putF o j x) (j + 1) := by
  refine ⟨up2_self _ _ _ _, fun k hk => ?_⟩
  rw [up2_ne _ _ _ (by decide), upR_self]
  exact putF_congr x j _ _ h.2 k hk
/-- only the council's rows changed -/
def FrC (u v : Vm2) : Prop := ∀ k, (k < 20 ∨ 25 ≤ k) → u k = v k
theorem FrC.rf (v : Vm2) : FrC v v := fun _ _ => rfl
theorem FrC.up {u v : Vm2} {k i : Nat} {x : Int32} (h : FrC u v) (h1 : 20 ≤ k) (h2 : k < 25) : FrC (up2 u k i x) v := fun a ha => by rw [up2_ne _ _ _ (by omega)]; exact h a ha
theorem FrC.upR {u v : Vm2} {k : Nat} {f : Nat → Int32} (h : FrC u v) (h1 : 20 ≤ k) (h2 : k < 25) : FrC (upR u k f) v := fun a ha => by rw [upR_ne _ _ (by omega)]; exact h a ha
theorem FrC.trans {u v x : Vm2} (h1 : FrC u v) (h2 : FrC v x) : FrC u x := fun a ha => (h1 a ha).trans (h2 a ha)
theorem isS_all : ∀ q, q < 171 → lay q = .inl (5, stF q) → q + 8 ≤ 17 ∨ 27 ≤ q := by decide +kernel
theorem IsS.ds {q : Nat} (h : IsS q) : q + 8 ≤ 17 ∨ 27 ≤ q := isS_all q (by have := h.1; omega) h.2.1
theorem RepS.frc {u v : Vm2} {q n ma : Nat} {ρ : Nat → Int32} (h : RepS v q ρ n ma) (hq : IsS q) (hf : FrC u v) : RepS u q ρ n ma := by
  have := hq.ds
  exact h.same (fun k h1 h2 => hf k (by omega))

set_option maxHeartbeats 600000 in
set_option maxRecDepth 100000 in
theorem c_X3_take (w : Wd) (v : Vm2) {j : Nat} {x : Int32} (hj0 : v 20 1 = nI j) (hj : j < 8) : CU w yX3_take cX3_take 3 (rm 0 0) [.ref (wN w + 20), .int x] v (fun v' => v' = up2 (upR v 21 (putF (v 21) j x)) 20 1 (nI (j + 1))) := by
  refine CU.of (by decide) (Nat.le_of_ble_eq_true rfl) ?_
  have lp : ∀ (m : Nat) (k : Nat) (o : Nat → Int32), (k < 8) → (putF o k x = putF (v 21) j x) → k < m → J w yX3_take cX3_take 3 none (rm 0 0) XT (ZJ w 185 0 0 (PU w (fun v' => v' = up2 (upR v 21 (putF (v 21) j x)) 20 1 (nI (j + 1))))) 15 [(0, .ref (wN w + 20)), (1, .int x), (2, .int (nI k))] [] 185 (hv w (upR v 21 o)) 0 0 := by
    intro m
    induction m with
    | zero =>
      intro k o hi0 hi1 hm
      exact absurd hm (by omega)
    | succ m ih =>
      intro k o hi0 hi1 hm
      rcases Nat.eq_zero_or_pos k with hk0 | hk0
      · subst hk0
        refine J.iload_n 15 dX3_take_15 rfl rfl ?_
        refine V.if_le 16 51 dX3_take_16 (by decide) (by omega) (fun c16 => ?_) (fun c16 => absurd c16 (Nat.not_lt.mpr (Nat.le_refl 0)))
        refine J.aload_n 51 dX3_take_51 rfl rfl ?_
        refine V.getR 52 dX3_take_52 fl_RX3_9 r_20_0 ?_
        refine J.iload_n 55 dX3_take_55 rfl rfl ?_
        refine J.iload_n 56 dX3_take_56 rfl rfl ?_
        refine V.iast 57 dX3_take_57 a_21 (by omega) ?_
        refine J.aload_n 58 dX3_take_58 rfl rfl ?_
        refine J.dup 59 dX3_take_59 rfl ?_
        refine V.getI 60 dX3_take_60 fl_RX3_15 i_20_1 ?_
        refine J.top (b := nI j) (by rw [up2_ne _ _ _ (by decide), upR_ne _ _ (by decide)]; exact hj0) ?_
        refine J.iconst 63 (nI 1) dX3_take_63 (by decide +kernel) ?_
        refine V.iadd 64 dX3_take_64 ?_
        refine V.putI 65 dX3_take_65 fl_RX3_15 fp_3_1 i_20_1 ?_
        exact V.vret 68 dX3_take_68 (by rw [up2_upR, ← hi1]; rfl)
      · obtain ⟨k, rfl⟩ : ∃ k', k = k' + 1 := ⟨k - 1, by omega⟩
        refine J.iload_n 15 dX3_take_15 rfl rfl ?_
        refine V.if_le 16 51 dX3_take_16 (by decide) (by omega) (fun c16 => absurd c16 (by omega)) (fun c16 => ?_)
        refine J.aload_n 19 dX3_take_19 rfl rfl ?_
        refine V.getR 20 dX3_take_20 fl_RX3_9 r_20_0 ?_
        refine J.iload_n 23 dX3_take_23 rfl rfl ?_
        refine J.iconst 24 (nI 1) dX3_take_24 (by decide +kernel) ?_
        refine V.isub 25 dX3_take_25 (by omega) ?_
        refine V.iald 26 dX3_take_26 a_21 (by omega) ?_
        refine J.top (b := o k) (by rw [upR_self]; rfl) ?_
        refine J.iload_n 27 dX3_take_27 rfl rfl ?_
        refine J.icmp_le 28 51 dX3_take_28 (by decide) (fun c28 => ?_) (fun c28 => ?_)
        · refine J.aload_n 51 dX3_take_51 rfl rfl ?_
          refine V.getR 52 dX3_take_52 fl_RX3_9 r_20_0 ?_
          refine J.iload_n 55 dX3_take_55 rfl rfl ?_
          refine J.iload_n 56 dX3_take_56 rfl rfl ?_
          refine V.iast 57 dX3_take_57 a_21 (by omega) ?_
          refine J.aload_n 58 dX3_take_58 rfl rfl ?_
          refine J.dup 59 dX3_take_59 rfl ?_
          refine V.getI 60 dX3_take_60 fl_RX3_15 i_20_1 ?_
          refine J.top (b := nI j) (by rw [up2_ne _ _ _ (by decide), upR_ne _ _ (by decide)]; exact hj0) ?_
          refine J.iconst 63 (nI 1) dX3_take_63 (by decide +kernel) ?_
          refine V.iadd 64 dX3_take_64 ?_
          refine V.putI 65 dX3_take_65 fl_RX3_15 fp_3_1 i_20_1 ?_
          exact V.vret 68 dX3_take_68 (by rw [up2_upR, ← hi1]; conv => rhs; unfold putF; rw [if_neg (Int32.not_lt.mpr c28)])
        · refine J.aload_n 31 dX3_take_31 rfl rfl ?_
          refine V.getR 32 dX3_take_32 fl_RX3_9 r_20_0 ?_
          refine J.iload_n 35 dX3_take_35 rfl rfl ?_
          refine J.aload_n 36 dX3_take_36 rfl rfl ?_
          refine V.getR 37 dX3_take_37 fl_RX3_9 r_20_0 ?_
          refine J.iload_n 40 dX3_take_40 rfl rfl ?_
          refine J.iconst 41 (nI 1) dX3_take_41 (by decide +kernel) ?_
          refine V.isub 42 dX3_take_42 (by omega) ?_
          refine V.iald 43 dX3_take_43 a_21 (by omega) ?_
          refine J.top (b := o k) (by rw [upR_self]; rfl) ?_
          refine V.iast 44 dX3_take_44 a_21 (by omega) ?_
          refine J.iinc 45 dX3_take_45 (nI k) rfl (pk_m1 k) (by decide) ?_
          refine J.goto 48 15 dX3_take_48 (by decide) ?_
          refine V.heapv (up2_upR _ _ _ _ _) ?_
          exact ih k _ (by omega) (by rw [← hi1]; conv => rhs; unfold putF; rw [if_pos (Int32.not_le.mp c28)]) (by omega)
  refine J.aload_n 0 dX3_take_0 rfl rfl ?_
  refine V.getI 1 dX3_take_1 fl_RX3_15 i_20_1 ?_
  refine J.top hj0 ?_
  refine J.bipush 4 (nI 8) dX3_take_4 (by decide +kernel) ?_
  refine V.icmp_lt 6 10 dX3_take_6 (by decide) (by omega) (by omega) (fun c6 => ?_) (fun c6 => absurd c6 (by omega))
  refine J.aload_n 10 dX3_take_10 rfl rfl ?_
  refine V.getI 11 dX3_take_11 fl_RX3_15 i_20_1 ?_
  refine J.top hj0 ?_
  refine J.istore_n 14 dX3_take_14 rfl (by decide) ?_
  refine V.heapv (upR_id v 21) ?_
  exact lp (j + 1) j _ hj rfl (by omega)
set_option maxHeartbeats 600000 in
set_option maxRecDepth 100000 in
theorem c_X3_leaves (w : Wd) (v : Vm2) {s f : Nat} (hs0 : v 20 1 = nI s) (hs : s ≤ 8) (hf : f ≤ 3) : CP w yX3_leaves cX3_leaves 2 (some .boolean) (rm 0 0) [.ref (wN w + 20), .int (nI f)] v (bI (2 * f < s)) := by
  refine CI.of (by decide) (Nat.le_of_ble_eq_true rfl) ?_
  refine J.iload_n 0 dX3_leaves_0 rfl rfl ?_
  refine V.if_lt 1 18 dX3_leaves_1 (by decide) (by omega) (fun c1 => absurd c1 (by omega)) (fun c1 => ?_)
  refine J.aload_n 4 dX3_leaves_4 rfl rfl ?_
  refine V.getI 5 dX3_leaves_5 fl_RX3_15 i_20_1 ?_
  refine J.top hs0 ?_
  refine J.iconst 8 (nI 2) dX3_leaves_8 (by decide +kernel) ?_
  refine J.iload_n 9 dX3_leaves_9 rfl rfl ?_
  refine V.imul 10 dX3_leaves_10 ?_
  refine V.icmp_le 11 18 dX3_leaves_11 (by decide) (by omega) (by omega) (fun c11 => ?_) (fun c11 => ?_)
  · refine J.iconst 18 (nI 0) dX3_leaves_18 (by decide +kernel) ?_
    exact V.zret 19 dX3_leaves_19 (Or.inl rfl) (⟨bI_f (by omega), rfl⟩)
  · refine J.iconst 14 (nI 1) dX3_leaves_14 (by decide +kernel) ?_
    refine J.goto 15 19 dX3_leaves_15 (by decide) ?_
    exact V.zret 19 dX3_leaves_19 (Or.inr rfl) (⟨bI_t c11, rfl⟩)
set_option maxHeartbeats 600000 in
set_option maxRecDepth 100000 in
theorem c_X3_middle (w : Wd) (v : Vm2) {s f : Nat} (hs0 : v 20 1 = nI s) (hs : s ≤ 8) (hf : f ≤ 3) (hfs : 2 * f < s) : CP w yX3_middle cX3_middle 2 (some .int) (rm 1 22) [.ref (wN w + 20), .int (nI f)] v (fdF (v 21 f + v 21 (s - 1 - f)) (nI 2)) := by
  refine CI.of (by decide) (Nat.le_of_ble_eq_true rfl) ?_
  refine J.aload_n 0 dX3_middle_0 rfl rfl ?_
  refine J.iload_n 1 dX3_middle_1 rfl rfl ?_
  refine V.callvP 2 dX3_middle_2 ml_RX3_19 mi_yX3_leaves mv_yX3_leaves (c_X3_leaves w _ hs0 (by omega) (by omega)) rfl rfl (Nat.le_of_ble_eq_true rfl) (by decide) (by decide) o_20 rfl rfl ?_
  refine V.if_eqB 5 35 dX3_middle_5 (by decide) (fun c5 => absurd hfs c5) (fun c5 => ?_)
  refine J.aload_n 8 dX3_middle_8 rfl rfl ?_
  refine V.getR 9 dX3_middle_9 fl_RX3_9 r_20_0 ?_
  refine J.iload_n 12 dX3_middle_12 rfl rfl ?_
  refine V.iald 13 dX3_middle_13 a_21 (by omega) ?_
  refine J.aload_n 14 dX3_middle_14 rfl rfl ?_
  refine V.getR 15 dX3_middle_15 fl_RX3_9 r_20_0 ?_
  refine J.aload_n 18 dX3_middle_18 rfl rfl ?_
  refine V.getI 19 dX3_middle_19 fl_RX3_15 i_20_1 ?_
  refine J.top hs0 ?_
  refine J.iconst 22 (nI 1) dX3_middle_22 (by decide +kernel) ?_
  refine V.isub 23 dX3_middle_23 (by omega) ?_
  refine J.iload_n 24 dX3_middle_24 rfl rfl ?_
  refine V.isub 25 dX3_middle_25 (by omega) ?_
  refine V.iald 26 dX3_middle_26 a_21 (by omega) ?_
  refine J.iadd 27 dX3_middle_27 ?_
  refine J.iconst 28 (nI 2) dX3_middle_28 (by decide +kernel) ?_
  refine V.callsP 29 dX3_middle_29 ml_RX3_23 mi_yJ9_floorDiv_7cf53 ms_yJ9_floorDiv_7cf53 (c_J9_floorDiv_7cf53 w _ (by decide)) rfl rfl (Nat.le_of_ble_eq_true rfl) (by decide) (by decide) ?_
  refine J.goto 32 36 dX3_middle_32 (by decide) ?_
  exact V.iret 36 dX3_middle_36 (⟨rfl, rfl⟩)
theorem kp3 {u v : Vm2} {f : Nat → Int32} {i : Nat} {x : Int32} (h : u 22 = v 22 ∧ u 23 = v 23 ∧ u 24 = v 24) : up2 (upR u 21 f) 20 i x 22 = v 22 ∧ up2 (upR u 21 f) 20 i x 23 = v 23 ∧ up2 (upR u 21 f) 20 i x 24 = v 24 := by
  refine ⟨?_, ?_, ?_⟩
  · rw [up2_ne _ _ _ (by decide), upR_ne _ _ (by decide)]; exact h.1
  · rw [up2_ne _ _ _ (by decide), upR_ne _ _ (by decide)]; exact h.2.1
  · rw [up2_ne _ _ _ (by decide), upR_ne _ _ (by decide)]; exact h.2.2
set_option maxHeartbeats 600000 in
set_option maxRecDepth 100000 in
theorem c_X1_middleFor (w : Wd) (v : Vm2) {q : Nat} (hq : IsS q) {ρ : Nat → Int32} {n ma : Nat} (hR : RepS v q ρ n ma) {f : Nat} (hW : Wf ρ n f ma) {i : Nat} (hi : i < n) (hns : ¬ n ≤ 2 * f) : CI w yX1_middleFor cX1_middleFor 4 (some .int) (rm 2 43) [.ref (wN w + 19), .ref (wN w + q), .int (nI i)] v (fun r v' => r = fdF (ordF (fun j9 => heF ρ j9 i) n f + ordF (fun j9 => heF ρ j9 i) n (n - 1 - f)) (nI 2) ∧ FrC v' v ∧ v' 22 = v 22 ∧ v' 23 = v 23 ∧ v' 24 = v 24) := by
  refine CI.of (by decide) (Nat.le_of_ble_eq_true rfl) ?_
  have hn := hW.2.1
  have hf3 := hW.2.2.2.1
  have lp : ∀ (m : Nat) (k : Nat) (u : Vm2), (k ≤ n) → (RepS u q ρ n ma) → (FrC u v) → (Hg u (ordF (fun j9 => heF ρ j9 i) k) k) → (u 22 = v 22 ∧ u 23 = v 23 ∧ u 24 = v 24) → n - k < m → J w yX1_middleFor cX1_middleFor 4 (some .int) (rm 2 43) XT (ZJ w 185 0 0 (PI w (fun r v' => r = fdF (ordF (fun j9 => heF ρ j9 i) n f + ordF (fun j9 => heF ρ j9 i) n (n - 1 - f)) (nI 2) ∧ FrC v' v ∧ v' 22 = v 22 ∧ v' 23 = v 23 ∧ v' 24 = v 24))) 10 [(0, .ref (wN w + 19)), (1, .ref (wN w + q)), (2, .int (nI i)), (3, .int (nI k))] [] 185 (hv w (u)) 0 0 := by
    intro m
    induction m with
    | zero =>
      intro k u hi0 hi1 hi2 hi3 hi4 hm
      exact absurd hm (by omega)
    | succ m ih =>
      intro k u hi0 hi1 hi2 hi3 hi4 hm
      refine J.iload_n 10 dX1_middleFor_10 rfl rfl ?_
      refine J.aload_n 11 dX1_middleFor_11 rfl rfl ?_
      refine V.getI 12 dX1_middleFor_12 fl_RX1_32 hq.i0 ?_
      refine J.top (b := nI n) ((hi1.1.1).trans hW.1) ?_
      refine V.icmp_ge 15 37 dX1_middleFor_15 (by decide) (by omega) (by omega) (fun c15 => ?_) (fun c15 => ?_)
      · refine J.aload_n 37 dX1_middleFor_37 rfl rfl ?_
        refine V.getR 38 dX1_middleFor_38 fl_RX1_12 r_19_0 ?_
        refine J.aload_n 41 dX1_middleFor_41 rfl rfl ?_
        refine V.getI 42 dX1_middleFor_42 fl_RX1_45 hq.i1 ?_
        refine J.top (b := nI f) ((hi1.1.2.1).trans hW.2.2.1) ?_
        refine V.callvP 45 dX1_middleFor_45 ml_RX1_48 mi_yX3_middle mv_yX3_middle (c_X3_middle w _ hi3.1 (by omega) (by omega) (by omega)) rfl rfl (Nat.le_of_ble_eq_true rfl) (by decide) (by decide) o_20 rfl rfl ?_
        obtain rfl : k = n := by omega
        exact V.iret 48 dX1_middleFor_48 (⟨by rw [hi3.2 _ (by omega), hi3.2 _ (by omega)], hi2, hi4⟩)
      · refine J.aload_n 18 dX1_middleFor_18 rfl rfl ?_
        refine V.getR 19 dX1_middleFor_19 fl_RX1_12 r_19_0 ?_
        refine J.aload_n 22 dX1_middleFor_22 rfl rfl ?_
        refine J.iload_n 23 dX1_middleFor_23 rfl rfl ?_
        refine J.iload_n 24 dX1_middleFor_24 rfl rfl ?_
        refine V.callvP 25 dX1_middleFor_25 ml_RX1_37 mi_yX5_heardOf mv_yX5_heardOf (c_X5_heardOf w _ hq hi1 (by omega) (by omega) (by omega)) rfl rfl (Nat.le_of_ble_eq_true rfl) (by decide) (by decide) hq.o rfl rfl ?_
        refine V.callvU 28 dX1_middleFor_28 ml_RX1_41 mi_yX3_take mv_yX3_take (c_X3_take w _ hi3.1 (by omega)) rfl rfl (Nat.le_of_ble_eq_true rfl) (by decide) (by decide) o_20 rfl rfl (fun v28 h28 => ?_)
        subst h28
        refine V.iinc 31 dX1_middleFor_31 rfl (by decide) ?_
        refine J.goto 34 10 dX1_middleFor_34 (by decide) ?_
        exact ih (k + 1) _ (by omega) (hi1.frc hq (((FrC.rf u).upR (by omega) (by omega)).up (by omega) (by omega))) ((hi2.upR (by omega) (by omega)).up (by omega) (by omega)) (hi3.put) (kp3 hi4) (by omega)
  refine J.aload_n 0 dX1_middleFor_0 rfl rfl ?_
  refine V.getR 1 dX1_middleFor_1 fl_RX1_12 r_19_0 ?_
  refine J.iconst 4 (nI 0) dX1_middleFor_4 (by decide +kernel) ?_
  refine V.putI 5 dX1_middleFor_5 fl_RX1_28 fp_3_1 i_20_1 ?_
  refine J.iconst 8 (nI 0) dX1_middleFor_8 (by decide +kernel) ?_
  refine J.istore_n 9 dX1_middleFor_9 rfl (by decide) ?_
  exact lp (n + 1) 0 _ (by omega) (hR.frc hq ((FrC.rf v).up (by omega) (by omega))) ((FrC.rf v).up (by omega) (by omega)) ⟨up2_self _ _ _ _, fun k hk => absurd hk (by omega)⟩ ⟨up2_ne _ _ _ (by decide), up2_ne _ _ _ (by decide), up2_ne _ _ _ (by decide)⟩ (by omega)
def mbG (ρ : Nat → Int32) (j i : Nat) (x : Int32) (k : Nat) : Int32 := if k = j then aimF ρ i + x else heF ρ k i
set_option maxHeartbeats 600000 in
set_option maxRecDepth 100000 in
theorem c_X1_middleByLie (w : Wd) (v : Vm2) {q : Nat} (hq : IsS q) {ρ : Nat → Int32} {n ma : Nat} (hR : RepS v q ρ n ma) {f : Nat} (hW : Wf ρ n f ma) {j i : Nat} {x : Int32} (hj : j < n) (hi : i < n) (hns : ¬ n ≤ 2 * f) : CI w yX1_middleByLie cX1_middleByLie 6 (some .int) (rm 2 43) [.ref (wN w + 19), .ref (wN w + q), .int (nI j), .int (nI i), .int x] v (fun r v' => r = fdF (ordF (mbG ρ j i x) n f + ordF (mbG ρ j i x) n (n - 1 - f)) (nI 2) ∧ FrC v' v ∧ v' 22 = v 22 ∧ v' 23 = v 23 ∧ v' 24 = v 24) := by
  refine CI.of (by decide) (Nat.le_of_ble_eq_true rfl) ?_
  have hn := hW.2.1
  have hf3 := hW.2.2.2.1
  have lp : ∀ (m : Nat) (k : Nat) (u : Vm2), (k ≤ n) → (RepS u q ρ n ma) → (FrC u v) → (Hg u (ordF (mbG ρ j i x) k) k) → (u 22 = v 22 ∧ u 23 = v 23 ∧ u 24 = v 24) → n - k < m → J w yX1_middleByLie cX1_middleByLie 6 (some .int) (rm 2 43) XT (ZJ w 185 0 0 (PI w (fun r v' => r = fdF (ordF (mbG ρ j i x) n f + ordF (mbG ρ j i x) n (n - 1 - f)) (nI 2) ∧ FrC v' v ∧ v' 22 = v 22 ∧ v' 23 = v 23 ∧ v' 24 = v 24))) 11 [(0, .ref (wN w + 19)), (1, .ref (wN w + q)), (2, .int (nI j)), (3, .int (nI i)), (4, .int x), (5, .int (nI k))] [] 185 (hv w (u)) 0 0 := by
    intro m
    induction m with
    | zero =>
      intro k u hi0 hi1 hi2 hi3 hi4 hm
      exact absurd hm (by omega)
    | succ m ih =>
      intro k u hi0 hi1 hi2 hi3 hi4 hm
      refine J.iload 11 dX1_middleByLie_11 rfl ?_
      refine J.aload_n 13 dX1_middleByLie_13 rfl rfl ?_
      refine V.getI 14 dX1_middleByLie_14 fl_RX1_32 hq.i0 ?_
      refine J.top (b := nI n) ((hi1.1.1).trans hW.1) ?_
      refine V.icmp_ge 17 57 dX1_middleByLie_17 (by decide) (by omega) (by omega) (fun c17 => ?_) (fun c17 => ?_)
      · refine J.aload_n 57 dX1_middleByLie_57 rfl rfl ?_
        refine V.getR 58 dX1_middleByLie_58 fl_RX1_12 r_19_0 ?_
        refine J.aload_n 61 dX1_middleByLie_61 rfl rfl ?_
        refine V.getI 62 dX1_middleByLie_62 fl_RX1_45 hq.i1 ?_
        refine J.top (b := nI f) ((hi1.1.2.1).trans hW.2.2.1) ?_
        refine V.callvP 65 dX1_middleByLie_65 ml_RX1_48 mi_yX3_middle mv_yX3_middle (c_X3_middle w _ hi3.1 (by omega) (by omega) (by omega)) rfl rfl (Nat.le_of_ble_eq_true rfl) (by decide) (by decide) o_20 rfl rfl ?_
        obtain rfl : k = n := by omega
        exact V.iret 68 dX1_middleByLie_68 (⟨by rw [hi3.2 _ (by omega), hi3.2 _ (by omega)], hi2, hi4⟩)
      · refine J.aload_n 20 dX1_middleByLie_20 rfl rfl ?_
        refine V.getR 21 dX1_middleByLie_21 fl_RX1_12 r_19_0 ?_
        refine J.iload 24 dX1_middleByLie_24 rfl ?_
        refine J.iload_n 26 dX1_middleByLie_26 rfl rfl ?_
        refine V.icmp_ne 27 41 dX1_middleByLie_27 (by decide) (by omega) (by omega) (fun c27 => ?_) (fun c27 => ?_)
        · refine J.aload_n 41 dX1_middleByLie_41 rfl rfl ?_
          refine J.iload 42 dX1_middleByLie_42 rfl ?_
          refine J.iload_n 44 dX1_middleByLie_44 rfl rfl ?_
          refine V.callvP 45 dX1_middleByLie_45 ml_RX1_37 mi_yX5_heardOf mv_yX5_heardOf (c_X5_heardOf w _ hq hi1 (by omega) (by omega) (by omega)) rfl rfl (Nat.le_of_ble_eq_true rfl) (by decide) (by decide) hq.o rfl rfl ?_
          refine J.top (b := mbG ρ j i x k) (if_neg c27).symm ?_
          refine V.callvU 48 dX1_middleByLie_48 ml_RX1_41 mi_yX3_take mv_yX3_take (c_X3_take w _ hi3.1 (by omega)) rfl rfl (Nat.le_of_ble_eq_true rfl) (by decide) (by decide) o_20 rfl rfl (fun v48 h48 => ?_)
          subst h48
          refine V.iinc 51 dX1_middleByLie_51 rfl (by decide) ?_
          refine J.goto 54 11 dX1_middleByLie_54 (by decide) ?_
          exact ih (k + 1) _ (by omega) (hi1.frc hq (((FrC.rf u).upR (by omega) (by omega)).up (by omega) (by omega))) ((hi2.upR (by omega) (by omega)).up (by omega) (by omega)) (hi3.put) (kp3 hi4) (by omega)
        · refine J.aload_n 30 dX1_middleByLie_30 rfl rfl ?_
          refine J.iload_n 31 dX1_middleByLie_31 rfl rfl ?_
          refine V.callvP 32 dX1_middleByLie_32 ml_RX1_87 mi_yX5_aim mv_yX5_aim (c_X5_aim w _ hq hi1 (by omega) (by omega)) rfl rfl (Nat.le_of_ble_eq_true rfl) (by decide) (by decide) hq.o rfl rfl ?_
          refine J.iload 35 dX1_middleByLie_35 rfl ?_
          refine J.iadd 37 dX1_middleByLie_37 ?_
          refine J.top (b := mbG ρ j i x k) (if_pos c27).symm ?_
          refine J.goto 38 48 dX1_middleByLie_38 (by decide) ?_
          refine V.callvU 48 dX1_middleByLie_48 ml_RX1_41 mi_yX3_take mv_yX3_take (c_X3_take w _ hi3.1 (by omega)) rfl rfl (Nat.le_of_ble_eq_true rfl) (by decide) (by decide) o_20 rfl rfl (fun v48 h48 => ?_)
          subst h48
          refine V.iinc 51 dX1_middleByLie_51 rfl (by decide) ?_
          refine J.goto 54 11 dX1_middleByLie_54 (by decide) ?_
          exact ih (k + 1) _ (by omega) (hi1.frc hq (((FrC.rf u).upR (by omega) (by omega)).up (by omega) (by omega))) ((hi2.upR (by omega) (by omega)).up (by omega) (by omega)) (hi3.put) (kp3 hi4) (by omega)
  refine J.aload_n 0 dX1_middleByLie_0 rfl rfl ?_
  refine V.getR 1 dX1_middleByLie_1 fl_RX1_12 r_19_0 ?_
  refine J.iconst 4 (nI 0) dX1_middleByLie_4 (by decide +kernel) ?_
  refine V.putI 5 dX1_middleByLie_5 fl_RX1_28 fp_3_1 i_20_1 ?_
  refine J.iconst 8 (nI 0) dX1_middleByLie_8 (by decide +kernel) ?_
  refine J.istore 9 dX1_middleByLie_9 (by decide) ?_
  exact lp (n + 1) 0 _ (by omega) (hR.frc hq ((FrC.rf v).up (by omega) (by omega))) ((FrC.rf v).up (by omega) (by omega)) ⟨up2_self _ _ _ _, fun k hk => absurd hk (by omega)⟩ ⟨up2_ne _ _ _ (by decide), up2_ne _ _ _ (by decide), up2_ne _ _ _ (by decide)⟩ (by omega)
set_option maxHeartbeats 600000 in
set_option maxRecDepth 100000 in
theorem c_X1_middleWithLiarsAt (w : Wd) (v : Vm2) {q : Nat} (hq : IsS q) {ρ : Nat → Int32} {n ma : Nat} (hR : RepS v q ρ n ma) {f : Nat} (hW : Wf ρ n f ma) {i : Nat} {t : Int32} (hi : i < n) (hns : ¬ n ≤ 2 * f) : CI w yX1_middleWithLiarsAt cX1_middleWithLiarsAt 5 (some .int) (rm 2 43) [.ref (wN w + 19), .ref (wN w + q), .int (nI i), .int t] v (fun r v' => r = fdF (ordF (exG ρ i t) n f + ordF (exG ρ i t) n (n - 1 - f)) (nI 2) ∧ FrC v' v ∧ v' 22 = v 22 ∧ v' 23 = v 23 ∧ v' 24 = v 24) := by
  refine CI.of (by decide) (Nat.le_of_ble_eq_true rfl) ?_
  have hn := hW.2.1
  have hf3 := hW.2.2.2.1
  have lp : ∀ (m : Nat) (k : Nat) (u : Vm2), (k ≤ n) → (RepS u q ρ n ma) → (FrC u v) → (Hg u (ordF (exG ρ i t) k) k) → (u 22 = v 22 ∧ u 23 = v 23 ∧ u 24 = v 24) → n - k < m → J w yX1_middleWithLiarsAt cX1_middleWithLiarsAt 5 (some .int) (rm 2 43) XT (ZJ w 185 0 0 (PI w (fun r v' => r = fdF (ordF (exG ρ i t) n f + ordF (exG ρ i t) n (n - 1 - f)) (nI 2) ∧ FrC v' v ∧ v' 22 = v 22 ∧ v' 23 = v 23 ∧ v' 24 = v 24))) 11 [(0, .ref (wN w + 19)), (1, .ref (wN w + q)), (2, .int (nI i)), (3, .int t), (4, .int (nI k))] [] 185 (hv w (u)) 0 0 := by
    intro m
    induction m with
    | zero =>
      intro k u hi0 hi1 hi2 hi3 hi4 hm
      exact absurd hm (by omega)
    | succ m ih =>
      intro k u hi0 hi1 hi2 hi3 hi4 hm
      refine J.iload 11 dX1_middleWithLiarsAt_11 rfl ?_
      refine J.aload_n 13 dX1_middleWithLiarsAt_13 rfl rfl ?_
      refine V.getI 14 dX1_middleWithLiarsAt_14 fl_RX1_32 hq.i0 ?_
      refine J.top (b := nI n) ((hi1.1.1).trans hW.1) ?_
      refine V.icmp_ge 17 53 dX1_middleWithLiarsAt_17 (by decide) (by omega) (by omega) (fun c17 => ?_) (fun c17 => ?_)
      · refine J.aload_n 53 dX1_middleWithLiarsAt_53 rfl rfl ?_
        refine V.getR 54 dX1_middleWithLiarsAt_54 fl_RX1_12 r_19_0 ?_
        refine J.aload_n 57 dX1_middleWithLiarsAt_57 rfl rfl ?_
        refine V.getI 58 dX1_middleWithLiarsAt_58 fl_RX1_45 hq.i1 ?_
        refine J.top (b := nI f) ((hi1.1.2.1).trans hW.2.2.1) ?_
        refine V.callvP 61 dX1_middleWithLiarsAt_61 ml_RX1_48 mi_yX3_middle mv_yX3_middle (c_X3_middle w _ hi3.1 (by omega) (by omega) (by omega)) rfl rfl (Nat.le_of_ble_eq_true rfl) (by decide) (by decide) o_20 rfl rfl ?_
        obtain rfl : k = n := by omega
        exact V.iret 64 dX1_middleWithLiarsAt_64 (⟨by rw [hi3.2 _ (by omega), hi3.2 _ (by omega)], hi2, hi4⟩)
      · refine J.aload_n 20 dX1_middleWithLiarsAt_20 rfl rfl ?_
        refine V.getR 21 dX1_middleWithLiarsAt_21 fl_RX1_12 r_19_0 ?_
        refine J.aload_n 24 dX1_middleWithLiarsAt_24 rfl rfl ?_
        refine J.iload 25 dX1_middleWithLiarsAt_25 rfl ?_
        refine V.callvP 27 dX1_middleWithLiarsAt_27 ml_RX1_124 mi_yX5_tellsLies mv_yX5_tellsLies (c_X5_tellsLies w _ hq hi1 hW (by omega)) rfl rfl (Nat.le_of_ble_eq_true rfl) (by decide) (by decide) hq.o rfl rfl ?_
        refine V.if_eqB 30 37 dX1_middleWithLiarsAt_30 (by decide) (fun c30 => ?_) (fun c30 => ?_)
        · refine J.aload_n 37 dX1_middleWithLiarsAt_37 rfl rfl ?_
          refine J.iload 38 dX1_middleWithLiarsAt_38 rfl ?_
          refine J.iload_n 40 dX1_middleWithLiarsAt_40 rfl rfl ?_
          refine V.callvP 41 dX1_middleWithLiarsAt_41 ml_RX1_37 mi_yX5_heardOf mv_yX5_heardOf (c_X5_heardOf w _ hq hi1 (by omega) (by omega) (by omega)) rfl rfl (Nat.le_of_ble_eq_true rfl) (by decide) (by decide) hq.o rfl rfl ?_
          refine J.top (b := exG ρ i t k) (if_neg c30).symm ?_
          refine V.callvU 44 dX1_middleWithLiarsAt_44 ml_RX1_41 mi_yX3_take mv_yX3_take (c_X3_take w _ hi3.1 (by omega)) rfl rfl (Nat.le_of_ble_eq_true rfl) (by decide) (by decide) o_20 rfl rfl (fun v44 h44 => ?_)
          subst h44
          refine V.iinc 47 dX1_middleWithLiarsAt_47 rfl (by decide) ?_
          refine J.goto 50 11 dX1_middleWithLiarsAt_50 (by decide) ?_
          exact ih (k + 1) _ (by omega) (hi1.frc hq (((FrC.rf u).upR (by omega) (by omega)).up (by omega) (by omega))) ((hi2.upR (by omega) (by omega)).up (by omega) (by omega)) (hi3.put) (kp3 hi4) (by omega)
        · refine J.iload_n 33 dX1_middleWithLiarsAt_33 rfl rfl ?_
          refine J.top (b := exG ρ i t k) (if_pos c30).symm ?_
          refine J.goto 34 44 dX1_middleWithLiarsAt_34 (by decide) ?_
          refine V.callvU 44 dX1_middleWithLiarsAt_44 ml_RX1_41 mi_yX3_take mv_yX3_take (c_X3_take w _ hi3.1 (by omega)) rfl rfl (Nat.le_of_ble_eq_true rfl) (by decide) (by decide) o_20 rfl rfl (fun v44 h44 => ?_)
          subst h44
          refine V.iinc 47 dX1_middleWithLiarsAt_47 rfl (by decide) ?_
          refine J.goto 50 11 dX1_middleWithLiarsAt_50 (by decide) ?_
          exact ih (k + 1) _ (by omega) (hi1.frc hq (((FrC.rf u).upR (by omega) (by omega)).up (by omega) (by omega))) ((hi2.upR (by omega) (by omega)).up (by omega) (by omega)) (hi3.put) (kp3 hi4) (by omega)
  refine J.aload_n 0 dX1_middleWithLiarsAt_0 rfl rfl ?_
  refine V.getR 1 dX1_middleWithLiarsAt_1 fl_RX1_12 r_19_0 ?_
  refine J.iconst 4 (nI 0) dX1_middleWithLiarsAt_4 (by decide +kernel) ?_
  refine V.putI 5 dX1_middleWithLiarsAt_5 fl_RX1_28 fp_3_1 i_20_1 ?_
  refine J.iconst 8 (nI 0) dX1_middleWithLiarsAt_8 (by decide +kernel) ?_
  refine J.istore 9 dX1_middleWithLiarsAt_9 (by decide) ?_
  exact lp (n + 1) 0 _ (by omega) (hR.frc hq ((FrC.rf v).up (by omega) (by omega))) ((FrC.rf v).up (by omega) (by omega)) ⟨up2_self _ _ _ _, fun k hk => absurd hk (by omega)⟩ ⟨up2_ne _ _ _ (by decide), up2_ne _ _ _ (by decide), up2_ne _ _ _ (by decide)⟩ (by omega)
theorem hj_y {u : Vm2} {ρ : Nat → Int32} {c k : Nat} (e : ρ (35 + k) = 0) (h : Hg u (jnO ρ c k) (cntS ρ k)) : Hg (up2 (upR u 21 (putF (u 21) (cntS ρ k) (heF ρ k c))) 20 1 (nI (cntS ρ k + 1))) (jnO ρ c (k + 1)) (cntS ρ (k + 1)) := by
  have e1 : jnO ρ c (k + 1) = putF (jnO ρ c k) (cntS ρ k) (heF ρ k c) := by show (if ρ (35 + k) = 0 then _ else _) = _; rw [if_pos e]
  have e2 : cntS ρ (k + 1) = cntS ρ k + 1 := by show cntS ρ k + (if ρ (35 + k) = 0 then 1 else 0) = _; rw [if_pos e]
  rw [e1, e2]
  exact h.put
theorem hj_n {u : Vm2} {ρ : Nat → Int32} {c k : Nat} (e : ¬ ρ (35 + k) = 0) (h : Hg u (jnO ρ c k) (cntS ρ k)) : Hg u (jnO ρ c (k + 1)) (cntS ρ (k + 1)) := by
  have e1 : jnO ρ c (k + 1) = jnO ρ c k := by show (if ρ (35 + k) = 0 then _ else _) = _; rw [if_neg e]
  have e2 : cntS ρ (k + 1) = cntS ρ k := by show cntS ρ k + (if ρ (35 + k) = 0 then 1 else 0) = _; rw [if_neg e, Nat.add_zero]
  rw [e1, e2]
  exact h
set_option maxHeartbeats 600000 in
set_option maxRecDepth 100000 in
theorem c_X1_hearToJoin (w : Wd) (v : Vm2) {q : Nat} (hq : IsS q) {ρ : Nat → Int32} {n ma : Nat} (hR : RepS v q ρ n ma) {f : Nat} (hW : Wf ρ n f ma) {c : Nat} (hc : c < n) (hst : ¬ ρ (35 + c) = 0) : CU w yX1_hearToJoin cX1_hearToJoin 4 (rm 2 43) [.ref (wN w + 19), .ref (wN w + q), .int (nI c)] v (fun v' => Hg v' (jnO ρ c n) (cntS ρ n) ∧ FrC v' v) := by
  refine CU.of (by decide) (Nat.le_of_ble_eq_true rfl) ?_
  have hn := hW.2.1
  have lp : ∀ (m : Nat) (k : Nat) (u : Vm2), (k ≤ n) → (RepS u q ρ n ma) → (FrC u v) → (Hg u (jnO ρ c k) (cntS ρ k)) → n - k < m → J w yX1_hearToJoin cX1_hearToJoin 4 none (rm 2 43) XT (ZJ w 185 0 0 (PU w (fun v' => Hg v' (jnO ρ c n) (cntS ρ n) ∧ FrC v' v))) 10 [(0, .ref (wN w + 19)), (1, .ref (wN w + q)), (2, .int (nI c)), (3, .int (nI k))] [] 185 (hv w (u)) 0 0 := by
    intro m
    induction m with
    | zero =>
      intro k u hi0 hi1 hi2 hi3 hm
      exact absurd hm (by omega)
    | succ m ih =>
      intro k u hi0 hi1 hi2 hi3 hm
      refine J.iload_n 10 dX1_hearToJoin_10 rfl rfl ?_
      refine J.aload_n 11 dX1_hearToJoin_11 rfl rfl ?_
      refine V.getI 12 dX1_hearToJoin_12 fl_RX1_32 hq.i0 ?_
      refine J.top (b := nI n) ((hi1.1.1).trans hW.1) ?_
      refine V.icmp_ge 15 50 dX1_hearToJoin_15 (by decide) (by omega) (by omega) (fun c15 => ?_) (fun c15 => ?_)
      · obtain rfl : k = n := by omega
        exact V.vret 50 dX1_hearToJoin_50 (⟨hi3, hi2⟩)
      · have hcs := cntS_le ρ k
        refine J.iload_n 18 dX1_hearToJoin_18 rfl rfl ?_
        refine J.iload_n 19 dX1_hearToJoin_19 rfl rfl ?_
        refine V.icmp_eq 20 44 dX1_hearToJoin_20 (by decide) (by omega) (by omega) (fun c20 => ?_) (fun c20 => ?_)
        · have e9 : ¬ ρ (35 + k) = 0 := by rw [c20]; exact hst
          refine V.iinc 44 dX1_hearToJoin_44 rfl (by decide) ?_
          refine J.goto 47 10 dX1_hearToJoin_47 (by decide) ?_
          first | exact ih (k + 1) _ (by omega) hi1 hi2 (hj_n e9 hi3) (by omega) | exact ih (k + 1) _ (by omega) (hi1.frc hq (((FrC.rf u).upR (by omega) (by omega)).up (by omega) (by omega))) ((hi2.upR (by omega) (by omega)).up (by omega) (by omega)) (hj_y e8 hi3) (by omega)
        · refine J.aload_n 23 dX1_hearToJoin_23 rfl rfl ?_
          refine J.iload_n 24 dX1_hearToJoin_24 rfl rfl ?_
          refine V.callvP 25 dX1_hearToJoin_25 ml_RX1_84 mi_yX5_stands mv_yX5_stands (c_X5_stands w _ hq (g := fun b9 => ρ (35 + b9)) hi1.2.1.2.1 (by omega)) rfl rfl (Nat.le_of_ble_eq_true rfl) (by decide) (by decide) hq.o rfl rfl ?_
          refine V.if_neB 28 44 dX1_hearToJoin_28 (by decide) (fun c28 => ?_) (fun c28 => ?_)
          · have e9 : ¬ ρ (35 + k) = 0 := fun z => (hW.z (by omega)).2.mp z c28
            refine V.iinc 44 dX1_hearToJoin_44 rfl (by decide) ?_
            refine J.goto 47 10 dX1_hearToJoin_47 (by decide) ?_
            first | exact ih (k + 1) _ (by omega) hi1 hi2 (hj_n e9 hi3) (by omega) | exact ih (k + 1) _ (by omega) (hi1.frc hq (((FrC.rf u).upR (by omega) (by omega)).up (by omega) (by omega))) ((hi2.upR (by omega) (by omega)).up (by omega) (by omega)) (hj_y e8 hi3) (by omega)
          · have e8 : ρ (35 + k) = 0 := (hW.z (by omega)).2.mpr c28
            refine J.aload_n 31 dX1_hearToJoin_31 rfl rfl ?_
            refine V.getR 32 dX1_hearToJoin_32 fl_RX1_12 r_19_0 ?_
            refine J.aload_n 35 dX1_hearToJoin_35 rfl rfl ?_
            refine J.iload_n 36 dX1_hearToJoin_36 rfl rfl ?_
            refine J.iload_n 37 dX1_hearToJoin_37 rfl rfl ?_
            refine V.callvP 38 dX1_hearToJoin_38 ml_RX1_37 mi_yX5_heardOf mv_yX5_heardOf (c_X5_heardOf w _ hq hi1 (by omega) (by omega) (by omega)) rfl rfl (Nat.le_of_ble_eq_true rfl) (by decide) (by decide) hq.o rfl rfl ?_
            refine V.callvU 41 dX1_hearToJoin_41 ml_RX1_41 mi_yX3_take mv_yX3_take (c_X3_take w _ hi3.1 (by omega)) rfl rfl (Nat.le_of_ble_eq_true rfl) (by decide) (by decide) o_20 rfl rfl (fun v41 h41 => ?_)
            subst h41
            refine V.iinc 44 dX1_hearToJoin_44 rfl (by decide) ?_
            refine J.goto 47 10 dX1_hearToJoin_47 (by decide) ?_
            first | exact ih (k + 1) _ (by omega) hi1 hi2 (hj_n e9 hi3) (by omega) | exact ih (k + 1) _ (by omega) (hi1.frc hq (((FrC.rf u).upR (by omega) (by omega)).up (by omega) (by omega))) ((hi2.upR (by omega) (by omega)).up (by omega) (by omega)) (hj_y e8 hi3) (by omega)
  refine J.aload_n 0 dX1_hearToJoin_0 rfl rfl ?_
  refine V.getR 1 dX1_hearToJoin_1 fl_RX1_12 r_19_0 ?_
  refine J.iconst 4 (nI 0) dX1_hearToJoin_4 (by decide +kernel) ?_
  refine V.putI 5 dX1_hearToJoin_5 fl_RX1_28 fp_3_1 i_20_1 ?_
  refine J.iconst 8 (nI 0) dX1_hearToJoin_8 (by decide +kernel) ?_
  refine J.istore_n 9 dX1_hearToJoin_9 rfl (by decide) ?_
  exact lp (n + 1) 0 _ (by omega) (hR.frc hq ((FrC.rf v).up (by omega) (by omega))) ((FrC.rf v).up (by omega) (by omega)) ⟨up2_self _ _ _ _, fun k hk => absurd hk (by show ¬ k < 0; omega)⟩ (by omega)
