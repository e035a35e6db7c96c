/-! ===== part 11: the reference: heard, order, middle, round, apart ===== -/
theorem nI_m1 {l : Nat} (h : l < 2 ^ 31) : ¬ nI l = -1 := by
  intro e
  have h1 := nI_toInt h
  rw [e] at h1
  have h2 : (-1 : Int32).toInt = -1 := by decide
  omega
def heF (ρ : Nat → Int32) (j i : Nat) : Int32 := if j = i ∨ ρ (35 + j) = nI 1 then aimF ρ i else if ρ (27 + j) = nI 1 then aimF ρ i + ρ (107 + (8 * j + i)) else aimF ρ j + ρ (43 + (8 * j + i))
def putF : (Nat → Int32) → Nat → Int32 → (Nat → Int32)
  | o, 0, x => upd o 0 x
  | o, k + 1, x => if x < o k then putF (upd o (k + 1) (o k)) k x else upd o (k + 1) x
def ordF (h : Nat → Int32) : Nat → (Nat → Int32)
  | 0 => fun _ => 0
  | j + 1 => putF (ordF h j) j (h j)
def fl2 (s : Int32) : Int32 := if s < 0 then -((nI 1 - s) / nI 2) else s / nI 2
def mdF (ρ : Nat → Int32) (n f i : Nat) : Int32 := if n ≤ 2 * f then aimF ρ i else fl2 (ordF (fun j => heF ρ j i) n f + ordF (fun j => heF ρ j i) n (n - 1 - f))
def rdF (ρ : Nat → Int32) (n f i : Nat) : Int32 := if trF ρ i then mdF ρ n f i - ρ (3 + i) else ρ (19 + i)
def rnF (ρ : Nat → Int32) (n f k : Nat) : Int32 := if 19 ≤ k ∧ k < 19 + n then rdF ρ n f (k - 19) else ρ k
def loI (ρ : Nat → Int32) : Nat → Option Nat
  | 0 => none
  | c + 1 => if trF ρ c then (match loI ρ c with
    | none => some c
    | some l => if aimF ρ c < aimF ρ l then some c else some l) else loI ρ c
def hiI (ρ : Nat → Int32) : Nat → Option Nat
  | 0 => none
  | c + 1 => if trF ρ c then (match hiI ρ c with
    | none => some c
    | some l => if aimF ρ l < aimF ρ c then some c else some l) else hiI ρ c
def oI : Option Nat → Int32
  | none => -1
  | some l => nI l
def apF (ρ : Nat → Int32) (n : Nat) : Int32 := match loI ρ n, hiI ρ n with
  | some l, some h => aimF ρ h - aimF ρ l
  | _, _ => -1
theorem loI_lt (ρ : Nat → Int32) : ∀ (n l : Nat), loI ρ n = some l → l < n
  | 0, l, h => by cases h
  | c + 1, l, h => by
    unfold loI at h
    have ih := loI_lt ρ c
    split at h
    · split at h
      · cases h; omega
      · rename_i l' hl'
        have := ih l' hl'
        split at h <;> cases h <;> omega
    · have := ih l h; omega
theorem hiI_lt (ρ : Nat → Int32) : ∀ (n l : Nat), hiI ρ n = some l → l < n
  | 0, l, h => by cases h
  | c + 1, l, h => by
    unfold hiI at h
    have ih := hiI_lt ρ c
    split at h
    · split at h
      · cases h; omega
      · rename_i l' hl'
        have := ih l' hl'
        split at h <;> cases h <;> omega
    · have := ih l h; omega
theorem lohi (ρ : Nat → Int32) : ∀ n : Nat, (loI ρ n = none ∧ hiI ρ n = none) ∨ (∃ l h, loI ρ n = some l ∧ hiI ρ n = some h)
  | 0 => Or.inl ⟨rfl, rfl⟩
  | c + 1 => by
    unfold loI hiI
    rcases lohi ρ c with ⟨h1, h2⟩ | ⟨l, h, h1, h2⟩
    · rw [h1, h2]
      by_cases ht : trF ρ c
      · simp only [if_pos ht]; exact Or.inr ⟨c, c, rfl, rfl⟩
      · exact Or.inl (by simp [ht])
    · rw [h1, h2]
      by_cases ht : trF ρ c
      · simp only [if_pos ht]
        refine Or.inr ?_
        split <;> split <;> exact ⟨_, _, rfl, rfl⟩
      · simp only [if_neg ht]; exact Or.inr ⟨l, h, rfl, rfl⟩
theorem upR_self (v : Vm2) (k : Nat) (f : Nat → Int32) : upR v k f k = f := by simp [upR]
theorem upR_ne (v : Vm2) {k a : Nat} (f : Nat → Int32) (h : a ≠ k) : upR v k f a = v a := by simp [upR, h]
theorem upR_id (v : Vm2) (k : Nat) : v = upR v k (v k) := by
  funext a
  by_cases h : a = k
  · subst h; simp [upR]
  · simp [upR, h]
theorem upR_upR (v : Vm2) (k : Nat) (f g : Nat → Int32) : upR (upR v k f) k g = upR v k g := by
  funext a
  by_cases h : a = k
  · subst h; simp [upR]
  · simp [upR, h]
theorem up2_upR (v : Vm2) (k i : Nat) (f : Nat → Int32) (x : Int32) : up2 (upR v k f) k i x = upR v k (upd f i x) := by
  rw [← upR_upd, upR_self, upR_upR]
theorem ro_upR (v : Vm2) (k : Nat) (f : Nat → Int32) (x : Nat) (h : 179 ≠ k) : ro (upR v k f) x = ro v x := by
  funext a
  simp [ro, upR, h]
theorem putF_in (o : Nat → Int32) (x : Int32) : ∀ (m k : Nat), m < k → putF o m x k = o k
  | 0, k, h => by simp [putF, upd, show ¬ k = 0 by omega]
  | m + 1, k, h => by
    unfold putF
    split
    · rw [putF_in _ x m k (by omega)]
      simp [upd, show ¬ k = m + 1 by omega]
    · simp [upd, show ¬ k = m + 1 by omega]
theorem putF_congr (x : Int32) : ∀ (m : Nat) (o o' : Nat → Int32), (∀ k, k < m → o k = o' k) → ∀ k, k < m + 1 → putF o m x k = putF o' m x k
  | 0, o, o', _, k, hk => by
    have : k = 0 := by omega
    subst this
    simp [putF, upd]
  | m + 1, o, o', h, k, hk => by
    unfold putF
    rw [h m (by omega)]
    split
    · by_cases hkm : k < m + 1
      · refine putF_congr x m _ _ (fun j hj => ?_) k hkm
        simp only [upd, show ¬ j = m + 1 by omega, if_false]
        exact h j (by omega)
      · have : k = m + 1 := by omega
        subst this
        rw [putF_in _ x m _ (by omega), putF_in _ x m _ (by omega)]
        simp [upd]
    · by_cases hkm : k = m + 1
      · simp [upd, hkm]
      · simp only [upd, hkm, if_false]
        exact h k (by omega)

set_option maxHeartbeats 4000000 in
set_option maxRecDepth 100000 in
theorem c_X8_heardOf (w : Wd) (v : Vm2) {x j i : Nat} (hx : x + 192 ≤ 3840) (hj : j < 8) (hi : i < 8) : CP w yX8_heardOf cX8_heardOf 5 (some .int) (rm 1 22) [.ref (wN w + 178), .int (nI x), .int (nI j), .int (nI i)] v (heF (ro v x) j i) := by
  refine CI.of (by decide) (Nat.le_of_ble_eq_true rfl) ?_
  refine J.iload_n 0 dX8_heardOf_0 rfl rfl ?_
  refine J.iload_n 1 dX8_heardOf_1 rfl rfl ?_
  refine V.icmp_eq 2 20 dX8_heardOf_2 (by decide) (by omega) (by omega) (fun c2 => ?_) (fun c2 => ?_)
  · refine J.aload_n 20 dX8_heardOf_20 rfl rfl ?_
    refine J.iload_n 21 dX8_heardOf_21 rfl rfl ?_
    refine J.iload_n 22 dX8_heardOf_22 rfl rfl ?_
    refine V.callvP 23 dX8_heardOf_23 ml_RX8_97 mi_yX8_aim mv_yX8_aim (c_X8_aim w _ (by omega)) rfl rfl (Nat.le_of_ble_eq_true rfl) (by decide) (by decide) o_178 rfl rfl ?_
    exact V.iret 26 dX8_heardOf_26 (⟨by unfold heF; rw [if_pos (by first | exact Or.inl c2 | exact Or.inr ((ro_at v x 35 j).symm.trans c17))], rfl⟩)
  · refine J.aload_n 5 dX8_heardOf_5 rfl rfl ?_
    refine V.getR 6 dX8_heardOf_6 fl_RX8_7 r_178_0 ?_
    refine J.iload_n 9 dX8_heardOf_9 rfl rfl ?_
    refine J.bipush 10 (nI 35) dX8_heardOf_10 (by decide +kernel) ?_
    refine V.iadd 12 dX8_heardOf_12 ?_
    refine J.iload_n 13 dX8_heardOf_13 rfl rfl ?_
    refine V.iadd 14 dX8_heardOf_14 ?_
    refine V.iald 15 dX8_heardOf_15 a_179 (by omega) ?_
    refine J.iconst 16 (nI 1) dX8_heardOf_16 (by decide +kernel) ?_
    refine J.icmp_ne 17 27 dX8_heardOf_17 (by decide) (fun c17 => ?_) (fun c17 => ?_)
    · refine J.bipush 27 (nI 8) dX8_heardOf_27 (by decide +kernel) ?_
      refine J.iload_n 29 dX8_heardOf_29 rfl rfl ?_
      refine V.imul 30 dX8_heardOf_30 ?_
      refine J.iload_n 31 dX8_heardOf_31 rfl rfl ?_
      refine V.iadd 32 dX8_heardOf_32 ?_
      refine J.istore 33 dX8_heardOf_33 (by decide) ?_
      refine J.aload_n 35 dX8_heardOf_35 rfl rfl ?_
      refine V.getR 36 dX8_heardOf_36 fl_RX8_7 r_178_0 ?_
      refine J.iload_n 39 dX8_heardOf_39 rfl rfl ?_
      refine J.bipush 40 (nI 27) dX8_heardOf_40 (by decide +kernel) ?_
      refine V.iadd 42 dX8_heardOf_42 ?_
      refine J.iload_n 43 dX8_heardOf_43 rfl rfl ?_
      refine V.iadd 44 dX8_heardOf_44 ?_
      refine V.iald 45 dX8_heardOf_45 a_179 (by omega) ?_
      refine J.iconst 46 (nI 1) dX8_heardOf_46 (by decide +kernel) ?_
      refine J.icmp_ne 47 72 dX8_heardOf_47 (by decide) (fun c47 => ?_) (fun c47 => ?_)
      · refine J.aload_n 72 dX8_heardOf_72 rfl rfl ?_
        refine J.iload_n 73 dX8_heardOf_73 rfl rfl ?_
        refine J.iload_n 74 dX8_heardOf_74 rfl rfl ?_
        refine V.callvP 75 dX8_heardOf_75 ml_RX8_97 mi_yX8_aim mv_yX8_aim (c_X8_aim w _ (by omega)) rfl rfl (Nat.le_of_ble_eq_true rfl) (by decide) (by decide) o_178 rfl rfl ?_
        refine J.aload_n 78 dX8_heardOf_78 rfl rfl ?_
        refine V.getR 79 dX8_heardOf_79 fl_RX8_7 r_178_0 ?_
        refine J.iload_n 82 dX8_heardOf_82 rfl rfl ?_
        refine J.bipush 83 (nI 43) dX8_heardOf_83 (by decide +kernel) ?_
        refine V.iadd 85 dX8_heardOf_85 ?_
        refine J.iload 86 dX8_heardOf_86 rfl ?_
        refine V.iadd 88 dX8_heardOf_88 ?_
        refine V.iald 89 dX8_heardOf_89 a_179 (by omega) ?_
        refine J.iadd 90 dX8_heardOf_90 ?_
        refine J.top (b := aimF (ro v x) j + ro v x (43 + (8 * j + i))) (by rw [← ro_at]) ?_
        exact V.iret 91 dX8_heardOf_91 (⟨by unfold heF; rw [if_neg (fun q => q.elim c2 (fun q => c17 ((ro_at v x 35 j).trans q)))]; first | exact (if_pos ((ro_at v x 27 j).symm.trans c47)).symm | exact (if_neg (fun q => c47 ((ro_at v x 27 j).trans q))).symm, rfl⟩)
      · refine J.aload_n 50 dX8_heardOf_50 rfl rfl ?_
        refine J.iload_n 51 dX8_heardOf_51 rfl rfl ?_
        refine J.iload_n 52 dX8_heardOf_52 rfl rfl ?_
        refine V.callvP 53 dX8_heardOf_53 ml_RX8_97 mi_yX8_aim mv_yX8_aim (c_X8_aim w _ (by omega)) rfl rfl (Nat.le_of_ble_eq_true rfl) (by decide) (by decide) o_178 rfl rfl ?_
        refine J.aload_n 56 dX8_heardOf_56 rfl rfl ?_
        refine V.getR 57 dX8_heardOf_57 fl_RX8_7 r_178_0 ?_
        refine J.iload_n 60 dX8_heardOf_60 rfl rfl ?_
        refine J.bipush 61 (nI 107) dX8_heardOf_61 (by decide +kernel) ?_
        refine V.iadd 63 dX8_heardOf_63 ?_
        refine J.iload 64 dX8_heardOf_64 rfl ?_
        refine V.iadd 66 dX8_heardOf_66 ?_
        refine V.iald 67 dX8_heardOf_67 a_179 (by omega) ?_
        refine J.iadd 68 dX8_heardOf_68 ?_
        refine J.top (b := aimF (ro v x) i + ro v x (107 + (8 * j + i))) (by rw [← ro_at]) ?_
        refine J.goto 69 91 dX8_heardOf_69 (by decide) ?_
        exact V.iret 91 dX8_heardOf_91 (⟨by unfold heF; rw [if_neg (fun q => q.elim c2 (fun q => c17 ((ro_at v x 35 j).trans q)))]; first | exact (if_pos ((ro_at v x 27 j).symm.trans c47)).symm | exact (if_neg (fun q => c47 ((ro_at v x 27 j).trans q))).symm, rfl⟩)
    · refine J.aload_n 20 dX8_heardOf_20 rfl rfl ?_
      refine J.iload_n 21 dX8_heardOf_21 rfl rfl ?_
      refine J.iload_n 22 dX8_heardOf_22 rfl rfl ?_
      refine V.callvP 23 dX8_heardOf_23 ml_RX8_97 mi_yX8_aim mv_yX8_aim (c_X8_aim w _ (by omega)) rfl rfl (Nat.le_of_ble_eq_true rfl) (by decide) (by decide) o_178 rfl rfl ?_
      exact V.iret 26 dX8_heardOf_26 (⟨by unfold heF; rw [if_pos (by first | exact Or.inl c2 | exact Or.inr ((ro_at v x 35 j).symm.trans c17))], rfl⟩)
set_option maxHeartbeats 4000000 in
set_option maxRecDepth 100000 in
theorem c_X8_put (w : Wd) (v : Vm2) {n : Nat} {x : Int32} (hn : n < 8) : CU w yX8_put cX8_put 4 (rm 0 0) [.ref (wN w + 178), .int (nI n), .int x] v (fun v' => v' = upR v 183 (putF (v 183) n x)) := by
  refine CU.of (by decide) (Nat.le_of_ble_eq_true rfl) ?_
  have lp : ∀ (m : Nat) (k : Nat) (o : Nat → Int32), (k < 8) → (putF o k x = putF (v 183) n x) → k < m → J w yX8_put cX8_put 4 none (rm 0 0) XT (ZJ w 185 0 0 (PU w (fun v' => v' = upR v 183 (putF (v 183) n x)))) 2 [(0, .ref (wN w + 178)), (1, .int (nI n)), (2, .int x), (3, .int (nI k))] [] 185 (hv w (upR v 183 o)) 0 0 := by
    intro m
    induction m with
    | zero =>
      intro k o hi0 hi1 hm
      exact absurd hm (by omega)
    | succ m ih =>
      intro k o hi0 hi1 hm
      rcases Nat.eq_zero_or_pos k with hk0 | hk0
      · subst hk0
        refine J.iload_n 2 dX8_put_2 rfl rfl ?_
        refine V.if_le 3 38 dX8_put_3 (by decide) (by omega) (fun c3 => ?_) (fun c3 => absurd c3 (Nat.not_lt.mpr (Nat.le_refl 0)))
        refine J.aload_n 38 dX8_put_38 rfl rfl ?_
        refine V.getR 39 dX8_put_39 fl_RX8_26 r_178_9 ?_
        refine J.iload_n 42 dX8_put_42 rfl rfl ?_
        refine J.iload_n 43 dX8_put_43 rfl rfl ?_
        refine V.iast 44 dX8_put_44 a_183 (by omega) ?_
        exact V.vret 45 dX8_put_45 (by rw [up2_upR, ← hi1]; rfl)
      · obtain ⟨k, rfl⟩ : ∃ k', k = k' + 1 := ⟨k - 1, by omega⟩
        refine J.iload_n 2 dX8_put_2 rfl rfl ?_
        refine V.if_le 3 38 dX8_put_3 (by decide) (by omega) (fun c3 => absurd c3 (by omega)) (fun c3 => ?_)
        refine J.aload_n 6 dX8_put_6 rfl rfl ?_
        refine V.getR 7 dX8_put_7 fl_RX8_26 r_178_9 ?_
        refine J.iload_n 10 dX8_put_10 rfl rfl ?_
        refine J.iconst 11 (nI 1) dX8_put_11 (by decide +kernel) ?_
        refine V.isub 12 dX8_put_12 (by omega) ?_
        refine V.iald 13 dX8_put_13 a_183 (by omega) ?_
        refine J.top (b := o k) (by rw [upR_self]; rfl) ?_
        refine J.iload_n 14 dX8_put_14 rfl rfl ?_
        refine J.icmp_le 15 38 dX8_put_15 (by decide) (fun c15 => ?_) (fun c15 => ?_)
        · refine J.aload_n 38 dX8_put_38 rfl rfl ?_
          refine V.getR 39 dX8_put_39 fl_RX8_26 r_178_9 ?_
          refine J.iload_n 42 dX8_put_42 rfl rfl ?_
          refine J.iload_n 43 dX8_put_43 rfl rfl ?_
          refine V.iast 44 dX8_put_44 a_183 (by omega) ?_
          exact V.vret 45 dX8_put_45 (by rw [up2_upR, ← hi1]; conv => rhs; unfold putF; rw [if_neg (Int32.not_lt.mpr c15)])
        · refine J.aload_n 18 dX8_put_18 rfl rfl ?_
          refine V.getR 19 dX8_put_19 fl_RX8_26 r_178_9 ?_
          refine J.iload_n 22 dX8_put_22 rfl rfl ?_
          refine J.aload_n 23 dX8_put_23 rfl rfl ?_
          refine V.getR 24 dX8_put_24 fl_RX8_26 r_178_9 ?_
          refine J.iload_n 27 dX8_put_27 rfl rfl ?_
          refine J.iconst 28 (nI 1) dX8_put_28 (by decide +kernel) ?_
          refine V.isub 29 dX8_put_29 (by omega) ?_
          refine V.iald 30 dX8_put_30 a_183 (by omega) ?_
          refine J.top (b := o k) (by rw [upR_self]; rfl) ?_
          refine V.iast 31 dX8_put_31 a_183 (by omega) ?_
          refine J.iinc 32 dX8_put_32 (nI k) rfl (pk_m1 k) (by decide) ?_
          refine J.goto 35 2 dX8_put_35 (by decide) ?_
          refine V.heapv (up2_upR _ _ _ _ _) ?_
          exact ih k _ (by omega) (by rw [← hi1]; conv => rhs; unfold putF; rw [if_pos (Int32.not_le.mp c15)]) (by omega)
  refine J.iload_n 0 dX8_put_0 rfl rfl ?_
  refine J.istore_n 1 dX8_put_1 rfl (by decide) ?_
  refine V.heapv (upR_id v 183) ?_
  exact lp (n + 1) n _ hn rfl (by omega)
set_option maxHeartbeats 4000000 in
set_option maxRecDepth 100000 in
theorem c_X8_allStruck (w : Wd) (v : Vm2) {x n f : Nat} (hx : x + 192 ≤ 3840) (hf : ro v x 1 = nI f) (hf3 : f < 8) (hn : n < 100) : CP w yX8_allStruck cX8_allStruck 3 (some .boolean) (rm 0 0) [.ref (wN w + 178), .int (nI x), .int (nI n)] v (bI (n ≤ 2 * f)) := by
  refine CI.of (by decide) (Nat.le_of_ble_eq_true rfl) ?_
  refine J.iconst 0 (nI 2) dX8_allStruck_0 (by decide +kernel) ?_
  refine J.aload_n 1 dX8_allStruck_1 rfl rfl ?_
  refine V.getR 2 dX8_allStruck_2 fl_RX8_7 r_178_0 ?_
  refine J.iload_n 5 dX8_allStruck_5 rfl rfl ?_
  refine J.iconst 6 (nI 1) dX8_allStruck_6 (by decide +kernel) ?_
  refine V.iadd 7 dX8_allStruck_7 ?_
  refine V.iald 8 dX8_allStruck_8 a_179 (by omega) ?_
  refine J.top hf ?_
  refine V.imul 9 dX8_allStruck_9 ?_
  refine J.iload_n 10 dX8_allStruck_10 rfl rfl ?_
  refine V.icmp_lt 11 18 dX8_allStruck_11 (by decide) (by omega) (by omega) (fun c11 => ?_) (fun c11 => ?_)
  · refine J.iconst 18 (nI 0) dX8_allStruck_18 (by decide +kernel) ?_
    exact V.zret 19 dX8_allStruck_19 (Or.inl rfl) (⟨bI_f (Nat.not_le.mpr c11), rfl⟩)
  · refine J.iconst 14 (nI 1) dX8_allStruck_14 (by decide +kernel) ?_
    refine J.goto 15 19 dX8_allStruck_15 (by decide) ?_
    exact V.zret 19 dX8_allStruck_19 (Or.inr rfl) (⟨bI_t c11, rfl⟩)
set_option maxHeartbeats 4000000 in
set_option maxRecDepth 100000 in
theorem c_X8_middle (w : Wd) (v : Vm2) {x n f : Nat} (hx : x + 192 ≤ 3840) (hf : ro v x 1 = nI f) (hfn : f < n) (hn : n ≤ 8) : CP w yX8_middle cX8_middle 4 (some .int) (rm 0 0) [.ref (wN w + 178), .int (nI x), .int (nI n)] v (fl2 (v 183 f + v 183 (n - 1 - f))) := by
  refine CI.of (by decide) (Nat.le_of_ble_eq_true rfl) ?_
  refine J.aload_n 0 dX8_middle_0 rfl rfl ?_
  refine V.getR 1 dX8_middle_1 fl_RX8_26 r_178_9 ?_
  refine J.aload_n 4 dX8_middle_4 rfl rfl ?_
  refine V.getR 5 dX8_middle_5 fl_RX8_7 r_178_0 ?_
  refine J.iload_n 8 dX8_middle_8 rfl rfl ?_
  refine J.iconst 9 (nI 1) dX8_middle_9 (by decide +kernel) ?_
  refine V.iadd 10 dX8_middle_10 ?_
  refine V.iald 11 dX8_middle_11 a_179 (by omega) ?_
  refine J.top hf ?_
  refine V.iald 12 dX8_middle_12 a_183 (by omega) ?_
  refine J.aload_n 13 dX8_middle_13 rfl rfl ?_
  refine V.getR 14 dX8_middle_14 fl_RX8_26 r_178_9 ?_
  refine J.iload_n 17 dX8_middle_17 rfl rfl ?_
  refine J.iconst 18 (nI 1) dX8_middle_18 (by decide +kernel) ?_
  refine V.isub 19 dX8_middle_19 (by omega) ?_
  refine J.aload_n 20 dX8_middle_20 rfl rfl ?_
  refine V.getR 21 dX8_middle_21 fl_RX8_7 r_178_0 ?_
  refine J.iload_n 24 dX8_middle_24 rfl rfl ?_
  refine J.iconst 25 (nI 1) dX8_middle_25 (by decide +kernel) ?_
  refine V.iadd 26 dX8_middle_26 ?_
  refine V.iald 27 dX8_middle_27 a_179 (by omega) ?_
  refine J.top hf ?_
  refine V.isub 28 dX8_middle_28 (by omega) ?_
  refine V.iald 29 dX8_middle_29 a_183 (by omega) ?_
  refine J.iadd 30 dX8_middle_30 ?_
  refine J.istore_n 31 dX8_middle_31 rfl (by decide) ?_
  refine J.iload_n 32 dX8_middle_32 rfl rfl ?_
  refine J.if_lt 33 42 dX8_middle_33 (by decide) (fun c33 => ?_) (fun c33 => ?_)
  · refine J.iconst 42 (nI 1) dX8_middle_42 (by decide +kernel) ?_
    refine J.iload_n 43 dX8_middle_43 rfl rfl ?_
    refine J.isub 44 dX8_middle_44 ?_
    refine J.iconst 45 (nI 2) dX8_middle_45 (by decide +kernel) ?_
    refine J.idiv 46 dX8_middle_46 (by decide) ?_
    refine J.ineg 47 dX8_middle_47 ?_
    exact V.iret 48 dX8_middle_48 (⟨by unfold fl2; first | rw [if_pos c33] | rw [if_neg c33], rfl⟩)
  · refine J.iload_n 36 dX8_middle_36 rfl rfl ?_
    refine J.iconst 37 (nI 2) dX8_middle_37 (by decide +kernel) ?_
    refine J.idiv 38 dX8_middle_38 (by decide) ?_
    refine J.goto 39 48 dX8_middle_39 (by decide) ?_
    exact V.iret 48 dX8_middle_48 (⟨by unfold fl2; first | rw [if_pos c33] | rw [if_neg c33], rfl⟩)
set_option maxHeartbeats 4000000 in
set_option maxRecDepth 100000 in
theorem c_X8_middleOf (w : Wd) (v : Vm2) {x n f i : Nat} (hx : x + 192 ≤ 3840) (hn0 : v 179 x = nI n) (hf : ro v x 1 = nI f) (hn : n ≤ 8) (hf3 : f < 8) (hi : i < n) : CI w yX8_middleOf cX8_middleOf 4 (some .int) (rm 2 46) [.ref (wN w + 178), .int (nI x), .int (nI i)] v (fun r v' => r = mdF (ro v x) n f i ∧ ∃ o, v' = upR v 183 o) := by
  refine CI.of (by decide) (Nat.le_of_ble_eq_true rfl) ?_
  refine J.aload_n 0 dX8_middleOf_0 rfl rfl ?_
  refine J.iload_n 1 dX8_middleOf_1 rfl rfl ?_
  refine J.aload_n 2 dX8_middleOf_2 rfl rfl ?_
  refine V.getR 3 dX8_middleOf_3 fl_RX8_7 r_178_0 ?_
  refine J.iload_n 6 dX8_middleOf_6 rfl rfl ?_
  refine V.iald 7 dX8_middleOf_7 a_179 (by omega) ?_
  refine J.top hn0 ?_
  refine V.callvP 8 dX8_middleOf_8 ml_RX8_100 mi_yX8_allStruck mv_yX8_allStruck (c_X8_allStruck w _ (by omega) hf (by omega) (by omega)) rfl rfl (Nat.le_of_ble_eq_true rfl) (by decide) (by decide) o_178 rfl rfl ?_
  refine V.if_eqB 11 21 dX8_middleOf_11 (by decide) (fun c11 => ?_) (fun c11 => ?_)
  · have lp : ∀ (m : Nat) (j : Nat) (o : Nat → Int32), (j ≤ n) → (∀ k, k < j → o k = ordF (fun j => heF (ro v x) j i) j k) → n - j < m → J w yX8_middleOf cX8_middleOf 4 (some .int) (rm 2 46) XT (ZJ w 185 0 0 (PI w (fun r v' => r = mdF (ro v x) n f i ∧ ∃ o, v' = upR v 183 o))) 23 [(0, .ref (wN w + 178)), (1, .int (nI x)), (2, .int (nI i)), (3, .int (nI j))] [] 185 (hv w (upR v 183 o)) 0 0 := by
      intro m
      induction m with
      | zero =>
        intro j o hi0 hi1 hm
        exact absurd hm (by omega)
      | succ m ih =>
        intro j o hi0 hi1 hm
        refine J.iload_n 23 dX8_middleOf_23 rfl rfl ?_
        refine J.aload_n 24 dX8_middleOf_24 rfl rfl ?_
        refine V.getR 25 dX8_middleOf_25 fl_RX8_7 r_178_0 ?_
        refine J.iload_n 28 dX8_middleOf_28 rfl rfl ?_
        refine V.iald 29 dX8_middleOf_29 a_179 (by omega) ?_
        refine J.top (b := nI n) (by rw [upR_ne _ _ (by decide)]; exact hn0) ?_
        refine V.icmp_ge 30 51 dX8_middleOf_30 (by decide) (by omega) (by omega) (fun c30 => ?_) (fun c30 => ?_)
        · refine J.aload_n 51 dX8_middleOf_51 rfl rfl ?_
          refine J.iload_n 52 dX8_middleOf_52 rfl rfl ?_
          refine J.aload_n 53 dX8_middleOf_53 rfl rfl ?_
          refine V.getR 54 dX8_middleOf_54 fl_RX8_7 r_178_0 ?_
          refine J.iload_n 57 dX8_middleOf_57 rfl rfl ?_
          refine V.iald 58 dX8_middleOf_58 a_179 (by omega) ?_
          refine J.top (b := nI n) (by rw [upR_ne _ _ (by decide)]; exact hn0) ?_
          refine V.callvP 59 dX8_middleOf_59 ml_RX8_111 mi_yX8_middle mv_yX8_middle (c_X8_middle w _ (by omega) (by rw [ro_upR _ _ _ _ (by decide)]; exact hf) (by omega) (by omega)) rfl rfl (Nat.le_of_ble_eq_true rfl) (by decide) (by decide) o_178 rfl rfl ?_
          obtain rfl : j = n := by omega
          exact V.iret 62 dX8_middleOf_62 (⟨by rw [upR_self]; unfold mdF; rw [if_neg c11, hi1 _ (by omega), hi1 _ (by omega)], _, rfl⟩)
        · refine J.aload_n 33 dX8_middleOf_33 rfl rfl ?_
          refine J.iload_n 34 dX8_middleOf_34 rfl rfl ?_
          refine J.aload_n 35 dX8_middleOf_35 rfl rfl ?_
          refine J.iload_n 36 dX8_middleOf_36 rfl rfl ?_
          refine J.iload_n 37 dX8_middleOf_37 rfl rfl ?_
          refine J.iload_n 38 dX8_middleOf_38 rfl rfl ?_
          refine V.callvP 39 dX8_middleOf_39 ml_RX8_104 mi_yX8_heardOf mv_yX8_heardOf (c_X8_heardOf w _ (by omega) (by omega) (by omega)) rfl rfl (Nat.le_of_ble_eq_true rfl) (by decide) (by decide) o_178 rfl rfl ?_
          refine J.top (b := heF (ro v x) j i) (by rw [ro_upR _ _ _ _ (by decide)]) ?_
          refine V.callvU 42 dX8_middleOf_42 ml_RX8_108 mi_yX8_put mv_yX8_put (c_X8_put w _ (by omega)) rfl rfl (Nat.le_of_ble_eq_true rfl) (by decide) (by decide) o_178 rfl rfl (fun v42 h42 => ?_)
          subst h42
          refine V.iinc 45 dX8_middleOf_45 rfl (by decide) ?_
          refine J.goto 48 23 dX8_middleOf_48 (by decide) ?_
          refine V.heapv (upR_upR _ _ _ _) ?_
          exact ih (j + 1) _ (by omega) (fun k hk => by rw [upR_self]; exact putF_congr _ j _ _ hi1 k hk) (by omega)
    refine J.iconst 21 (nI 0) dX8_middleOf_21 (by decide +kernel) ?_
    refine J.istore_n 22 dX8_middleOf_22 rfl (by decide) ?_
    refine V.heapv (upR_id v 183) ?_
    exact lp (n + 1) 0 _ (by omega) (fun k hk => absurd hk (by omega)) (by omega)
  · refine J.aload_n 14 dX8_middleOf_14 rfl rfl ?_
    refine J.iload_n 15 dX8_middleOf_15 rfl rfl ?_
    refine J.iload_n 16 dX8_middleOf_16 rfl rfl ?_
    refine V.callvP 17 dX8_middleOf_17 ml_RX8_97 mi_yX8_aim mv_yX8_aim (c_X8_aim w _ (by omega)) rfl rfl (Nat.le_of_ble_eq_true rfl) (by decide) (by decide) o_178 rfl rfl ?_
    exact V.iret 20 dX8_middleOf_20 (⟨by unfold mdF; rw [if_pos c11], _, upR_id v 183⟩)
