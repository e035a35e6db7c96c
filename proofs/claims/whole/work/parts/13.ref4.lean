/-! ===== part 13: the reference: round, extreme, worst, rank, farthest, sets ===== -/
theorem upR_comm (v : Vm2) {a b : Nat} (f g : Nat → Int32) (h : a ≠ b) : upR (upR v a f) b g = upR (upR v b g) a f := by
  funext c
  by_cases h1 : c = a
  · subst h1
    simp [upR, h]
  · by_cases h2 : c = b
    · subst h2
      simp [upR, h1]
    · simp [upR, h1, h2]
theorem fill_s {u : Vm2} {c i : Nat} {g : Nat → Int32} {x : Int32} (h : ∀ k, k < i → u c k = g k) (hx : x = g i) : ∀ k, k < i + 1 → up2 u c i x c k = g k := by
  intro k hk
  by_cases hki : k = i
  · subst hki
    simp [up2, hx]
  · simp only [up2, hki, and_false, if_false]
    exact h k (by omega)
def rnW (f : Nat → Int32) (x n s : Nat) (g : Nat → Int32) : Nat → Int32 := fun b => if x + 19 ≤ b ∧ b < x + 19 + s then g (b - (x + 19)) else f b
theorem rnW_s (f : Nat → Int32) (x n s : Nat) (g : Nat → Int32) : upd (rnW f x n s g) (x + 19 + s) (g s) = rnW f x n (s + 1) g := by
  funext b
  simp only [upd, rnW]
  by_cases h : b = x + 19 + s
  · rw [if_pos h, if_pos (by omega)]
    congr 1
    omega
  · rw [if_neg h]
    by_cases h2 : x + 19 ≤ b ∧ b < x + 19 + s
    · rw [if_pos h2, if_pos (by omega)]
    · rw [if_neg h2, if_neg (by omega)]
theorem rnW_0 (f : Nat → Int32) (x n : Nat) (g : Nat → Int32) : f = rnW f x n 0 g := by
  funext b
  simp only [rnW]
  rw [if_neg (by omega)]
theorem two_c {u v : Vm2} (h : ∀ a, a ≠ 183 → a ≠ 184 → u a = v a) : u = upR (upR v 183 (u 183)) 184 (u 184) := by
  funext a
  by_cases e1 : a = 184
  · subst e1
    rw [upR_self]
  · rw [upR_ne _ _ e1]
    by_cases e2 : a = 183
    · subst e2
      rw [upR_self]
    · rw [upR_ne _ _ e2]
      exact h a e2 e1
def exG (ρ : Nat → Int32) (i : Nat) (t : Int32) (j : Nat) : Int32 := if liF ρ j then t else heF ρ j i
def exF (ρ : Nat → Int32) (n f i : Nat) (t : Int32) : Int32 := fl2 (ordF (exG ρ i t) n f + ordF (exG ρ i t) n (n - 1 - f))
def wfar (ρ : Nat → Int32) (n f i k : Nat) : Int32 := if i ≠ k ∧ trF ρ i ∧ trF ρ k then exF ρ n f i (nI 500000000) - exF ρ n f k (-500000000) else nI 0
def wIn (ρ : Nat → Int32) (n f i : Nat) : Nat → Int32 → Int32
  | 0, a => a
  | k + 1, a => if wfar ρ n f i k ≤ wIn ρ n f i k a then wIn ρ n f i k a else wfar ρ n f i k
def wOut (ρ : Nat → Int32) (n f : Nat) : Nat → Int32
  | 0 => nI 0
  | i + 1 => wIn ρ n f i n (wOut ρ n f i)
def wrF (ρ : Nat → Int32) (n f : Nat) : Int32 := if cntT ρ n < 2 then (if cntT ρ n = 0 then -1 else nI 0) else if n ≤ 2 * f then apF ρ n else if f < cntL ρ n then nI 1000000 else wOut ρ n f n
def mlF (ρ : Nat → Int32) (n : Nat) : Int32 := if cntS ρ n = 0 then -1 else if ρ 1 ≤ (nI (cntS ρ n) - nI 1) / nI 3 then ρ 1 else (nI (cntS ρ n) - nI 1) / nI 3
abbrev rkP (ρ : Nat → Int32) (j i k : Nat) : Prop := heF ρ k i < heF ρ j i ∨ (heF ρ k i = heF ρ j i ∧ k < j)
def rkF (ρ : Nat → Int32) (j i : Nat) : Nat → Nat
  | 0 => 0
  | k + 1 => rkF ρ j i k + (if rkP ρ j i k then 1 else 0)
theorem rkF_s (ρ : Nat → Int32) (j i k : Nat) : rkF ρ j i (k + 1) = rkF ρ j i k + (if rkP ρ j i k then 1 else 0) := rfl
theorem rkF_le (ρ : Nat → Int32) (j i : Nat) : ∀ n, rkF ρ j i n ≤ n
  | 0 => Nat.le_refl 0
  | n + 1 => by unfold rkF; have := rkF_le ρ j i n; split <;> omega
def bsI (p : Nat → Prop) [DecidablePred p] : Nat → Int32
  | 0 => nI 0
  | c + 1 => bsI p c ||| (if p c then nI 1 <<< (nI c &&& 31) else nI 0)
def rsI (ρ : Nat → Int32) : Nat → Int32
  | 0 => nI 0
  | a + 1 => rsI ρ a ||| (ρ (184 + a) <<< (nI a &&& 31))
def smI (g : Nat → Int32) : Nat → Int32
  | 0 => nI 0
  | c + 1 => smI g c + g c

set_option maxHeartbeats 4000000 in
set_option maxRecDepth 100000 in
theorem c_X8_roundIn (w : Wd) (v : Vm2) {x n f : Nat} (hx : x + 192 ≤ 3840) (hn0 : v 179 x = nI n) (hf : ro v x 1 = nI f) (hn : n ≤ 8) (hf3 : f < 8) : CU w yX8_roundIn cX8_roundIn 3 (rm 3 69) [.ref (wN w + 178), .int (nI x)] v (fun v' => ∃ o g, v' = upR (upR (upR v 183 o) 184 g) 179 (rnW (v 179) x n n (rdF (ro v x) n f))) := by
  refine CU.of (by decide) (Nat.le_of_ble_eq_true rfl) ?_
  have K : ∀ u : Vm2, (∀ a, a ≠ 183 → a ≠ 184 → u a = v a) → (∀ k, k < n → u 184 k = rdF (ro v x) n f k) → J w yX8_roundIn cX8_roundIn 3 none (rm 3 69) XT (ZJ w 185 0 0 (PU w (fun v' => ∃ o g, v' = upR (upR (upR v 183 o) 184 g) 179 (rnW (v 179) x n n (rdF (ro v x) n f))))) 64 [(0, .ref (wN w + 178)), (1, .int (nI x)), (2, .int (nI n))] [] 185 (hv w (u)) 0 0 := by
    intro u h1 h2
    have lq : ∀ (m : Nat) (s : Nat), (s ≤ n) → n - s < m → J w yX8_roundIn cX8_roundIn 3 none (rm 3 69) XT (ZJ w 185 0 0 (PU w (fun v' => ∃ o g, v' = upR (upR (upR v 183 o) 184 g) 179 (rnW (v 179) x n n (rdF (ro v x) n f))))) 66 [(0, .ref (wN w + 178)), (1, .int (nI x)), (2, .int (nI s))] [] 185 (hv w (upR u 179 (rnW (v 179) x n s (rdF (ro v x) n f)))) 0 0 := by
      intro m
      induction m with
      | zero =>
        intro s hi0 hm
        exact absurd hm (by omega)
      | succ m ih =>
        intro s hi0 hm
        refine J.iload_n 66 dX8_roundIn_66 rfl rfl ?_
        refine J.aload_n 67 dX8_roundIn_67 rfl rfl ?_
        refine V.getR 68 dX8_roundIn_68 fl_RX8_7 r_178_0 ?_
        refine J.iload_n 71 dX8_roundIn_71 rfl rfl ?_
        refine V.iald 72 dX8_roundIn_72 a_179 (by omega) ?_
        refine J.top (congrFun (upR_self _ _ _) _) ?_
        refine J.top (b := nI n) (by unfold rnW; rw [if_neg (by omega)]; exact hn0) ?_
        refine V.icmp_ge 73 99 dX8_roundIn_73 (by decide) (by omega) (by omega) (fun c73 => ?_) (fun c73 => ?_)
        · obtain rfl : s = n := by omega
          exact V.vret 99 dX8_roundIn_99 (⟨u 183, u 184, by rw [← two_c h1]⟩)
        · refine J.aload_n 76 dX8_roundIn_76 rfl rfl ?_
          refine V.getR 77 dX8_roundIn_77 fl_RX8_7 r_178_0 ?_
          refine J.iload_n 80 dX8_roundIn_80 rfl rfl ?_
          refine J.bipush 81 (nI 19) dX8_roundIn_81 (by decide +kernel) ?_
          refine V.iadd 83 dX8_roundIn_83 ?_
          refine J.iload_n 84 dX8_roundIn_84 rfl rfl ?_
          refine V.iadd 85 dX8_roundIn_85 ?_
          refine J.aload_n 86 dX8_roundIn_86 rfl rfl ?_
          refine V.getR 87 dX8_roundIn_87 fl_RX8_29 r_178_10 ?_
          refine J.iload_n 90 dX8_roundIn_90 rfl rfl ?_
          refine V.iald 91 dX8_roundIn_91 a_184 (by omega) ?_
          refine J.top (b := rdF (ro v x) n f s) (by rw [upR_ne _ _ (by decide)]; exact h2 s (by omega)) ?_
          refine V.iast 92 dX8_roundIn_92 a_179 (by omega) ?_
          refine V.heapv (up2_upR _ _ _ _ _) ?_
          rw [rnW_s]
          refine V.iinc 93 dX8_roundIn_93 rfl (by decide) ?_
          refine J.goto 96 66 dX8_roundIn_96 (by decide) ?_
          exact ih (s + 1) (by omega) (by omega)
    refine J.iconst 64 (nI 0) dX8_roundIn_64 (by decide +kernel) ?_
    refine J.istore_n 65 dX8_roundIn_65 rfl (by decide) ?_
    refine V.heapv (v' := upR u 179 (rnW (v 179) x n 0 (rdF (ro v x) n f))) (by rw [← rnW_0, ← h1 179 (by decide) (by decide)]; exact upR_id u 179) ?_
    exact lq (n + 1) 0 (by omega) (by omega)
  have lp : ∀ (m : Nat) (i : Nat) (u : Vm2), (i ≤ n) → (∀ a, a ≠ 183 → a ≠ 184 → u a = v a) → (∀ k, k < i → u 184 k = rdF (ro v x) n f k) → n - i < m → J w yX8_roundIn cX8_roundIn 3 none (rm 3 69) XT (ZJ w 185 0 0 (PU w (fun v' => ∃ o g, v' = upR (upR (upR v 183 o) 184 g) 179 (rnW (v 179) x n n (rdF (ro v x) n f))))) 2 [(0, .ref (wN w + 178)), (1, .int (nI x)), (2, .int (nI i))] [] 185 (hv w (u)) 0 0 := by
    intro m
    induction m with
    | zero =>
      intro i u hi0 hi1 hi2 hm
      exact absurd hm (by omega)
    | succ m ih =>
      intro i u hi0 hi1 hi2 hm
      have hro : ro u x = ro v x := by funext k; simp only [ro]; rw [hi1 179 (by decide) (by decide)]
      refine J.iload_n 2 dX8_roundIn_2 rfl rfl ?_
      refine J.aload_n 3 dX8_roundIn_3 rfl rfl ?_
      refine V.getR 4 dX8_roundIn_4 fl_RX8_7 r_178_0 ?_
      refine J.iload_n 7 dX8_roundIn_7 rfl rfl ?_
      refine V.iald 8 dX8_roundIn_8 a_179 (by omega) ?_
      refine J.top (b := nI n) (by rw [hi1 179 (by decide) (by decide)]; exact hn0) ?_
      refine V.icmp_ge 9 64 dX8_roundIn_9 (by decide) (by omega) (by omega) (fun c9 => ?_) (fun c9 => ?_)
      · obtain rfl : i = n := by omega
        exact K u hi1 hi2
      · refine J.aload_n 12 dX8_roundIn_12 rfl rfl ?_
        refine V.getR 13 dX8_roundIn_13 fl_RX8_29 r_178_10 ?_
        refine J.iload_n 16 dX8_roundIn_16 rfl rfl ?_
        refine J.aload_n 17 dX8_roundIn_17 rfl rfl ?_
        refine J.iload_n 18 dX8_roundIn_18 rfl rfl ?_
        refine J.iload_n 19 dX8_roundIn_19 rfl rfl ?_
        refine V.callvP 20 dX8_roundIn_20 ml_RX8_114 mi_yX8_isTrue mv_yX8_isTrue (c_X8_isTrue w _ (by omega)) rfl rfl (Nat.le_of_ble_eq_true rfl) (by decide) (by decide) o_178 rfl rfl ?_
        rw [hro]
        refine V.if_eqB 23 46 dX8_roundIn_23 (by decide) (fun c23 => ?_) (fun c23 => ?_)
        · refine J.aload_n 46 dX8_roundIn_46 rfl rfl ?_
          refine V.getR 47 dX8_roundIn_47 fl_RX8_7 r_178_0 ?_
          refine J.iload_n 50 dX8_roundIn_50 rfl rfl ?_
          refine J.bipush 51 (nI 19) dX8_roundIn_51 (by decide +kernel) ?_
          refine V.iadd 53 dX8_roundIn_53 ?_
          refine J.iload_n 54 dX8_roundIn_54 rfl rfl ?_
          refine V.iadd 55 dX8_roundIn_55 ?_
          refine V.iald 56 dX8_roundIn_56 a_179 (by omega) ?_
          refine V.iast 57 dX8_roundIn_57 a_184 (by omega) ?_
          refine V.iinc 58 dX8_roundIn_58 rfl (by decide) ?_
          refine J.goto 61 2 dX8_roundIn_61 (by decide) ?_
          first | exact ih (i + 1) _ (by omega) (fun a h1 h2 => by rw [up2_ne _ _ _ h2]; exact hu9 a h1 h2) (fill_s hf9 (by rw [hu9 179 (by decide) (by decide)]; unfold rdF; rw [if_pos c23, ← ro_at])) (by omega) | exact ih (i + 1) _ (by omega) (fun a h1 h2 => by rw [up2_ne _ _ _ h2]; exact hi1 a h1 h2) (fill_s hi2 (by rw [hi1 179 (by decide) (by decide)]; unfold rdF; rw [if_neg c23, ← ro_at])) (by omega)
        · refine J.aload_n 26 dX8_roundIn_26 rfl rfl ?_
          refine J.iload_n 27 dX8_roundIn_27 rfl rfl ?_
          refine J.iload_n 28 dX8_roundIn_28 rfl rfl ?_
          refine V.callv 29 dX8_roundIn_29 ml_RX8_117 mi_yX8_middleOf mv_yX8_middleOf (c_X8_middleOf w _ (by omega) (by rw [hi1 179 (by decide) (by decide)]; exact hn0) (by rw [hro]; exact hf) (by omega) (by omega) (by omega)) rfl rfl (Nat.le_of_ble_eq_true rfl) (by decide) (by decide) o_178 rfl rfl (fun r29 v29 h29 => ?_)
          obtain ⟨rfl, o29, rfl⟩ := h29
          rw [hro]
          have hu9 : ∀ a, a ≠ 183 → a ≠ 184 → upR u 183 o29 a = v a := fun a h1 h2 => by rw [upR_ne _ _ h1]; exact hi1 a h1 h2
          have hf9 : ∀ k, k < i → upR u 183 o29 184 k = rdF (ro v x) n f k := fun k hk => by rw [upR_ne _ _ (by decide)]; exact hi2 k hk
          refine J.aload_n 32 dX8_roundIn_32 rfl rfl ?_
          refine V.getR 33 dX8_roundIn_33 fl_RX8_7 r_178_0 ?_
          refine J.iload_n 36 dX8_roundIn_36 rfl rfl ?_
          refine J.iconst 37 (nI 3) dX8_roundIn_37 (by decide +kernel) ?_
          refine V.iadd 38 dX8_roundIn_38 ?_
          refine J.iload_n 39 dX8_roundIn_39 rfl rfl ?_
          refine V.iadd 40 dX8_roundIn_40 ?_
          refine V.iald 41 dX8_roundIn_41 a_179 (by omega) ?_
          refine J.isub 42 dX8_roundIn_42 ?_
          refine J.goto 43 57 dX8_roundIn_43 (by decide) ?_
          refine V.iast 57 dX8_roundIn_57 a_184 (by omega) ?_
          refine V.iinc 58 dX8_roundIn_58 rfl (by decide) ?_
          refine J.goto 61 2 dX8_roundIn_61 (by decide) ?_
          first | exact ih (i + 1) _ (by omega) (fun a h1 h2 => by rw [up2_ne _ _ _ h2]; exact hu9 a h1 h2) (fill_s hf9 (by rw [hu9 179 (by decide) (by decide)]; unfold rdF; rw [if_pos c23, ← ro_at])) (by omega) | exact ih (i + 1) _ (by omega) (fun a h1 h2 => by rw [up2_ne _ _ _ h2]; exact hi1 a h1 h2) (fill_s hi2 (by rw [hi1 179 (by decide) (by decide)]; unfold rdF; rw [if_neg c23, ← ro_at])) (by omega)
  refine J.iconst 0 (nI 0) dX8_roundIn_0 (by decide +kernel) ?_
  refine J.istore_n 1 dX8_roundIn_1 rfl (by decide) ?_
  exact lp (n + 1) 0 v (by omega) (fun _ _ _ => rfl) (fun k hk => absurd hk (by omega)) (by omega)
set_option maxHeartbeats 4000000 in
set_option maxRecDepth 100000 in
theorem c_X8_extreme (w : Wd) (v : Vm2) {n f i : Nat} {t : Int32} (hn0 : v 179 0 = nI n) (hf : v 179 1 = nI f) (hn : n ≤ 8) (hfn : f < n) (hi : i < 8) : CI w yX8_extreme cX8_extreme 4 (some .int) (rm 2 46) [.ref (wN w + 178), .int (nI i), .int t] v (fun r v' => r = exF (v 179) n f i t ∧ ∃ o, v' = upR v 183 o) := by
  refine CI.of (by decide) (Nat.le_of_ble_eq_true rfl) ?_
  have hu9 : ∀ o, upR v 183 o 179 = v 179 := fun o => upR_ne v o (by decide)
  have lp : ∀ (m : Nat) (j : Nat) (o : Nat → Int32), (j ≤ n) → (∀ k, k < j → o k = ordF (exG (v 179) i t) j k) → n - j < m → J w yX8_extreme cX8_extreme 4 (some .int) (rm 2 46) XT (ZJ w 185 0 0 (PI w (fun r v' => r = exF (v 179) n f i t ∧ ∃ o, v' = upR v 183 o))) 2 [(0, .ref (wN w + 178)), (1, .int (nI i)), (2, .int t), (3, .int (nI j))] [] 185 (hv w (upR v 183 o)) 0 0 := by
    intro m
    induction m with
    | zero =>
      intro j o hi0 hi1 hm
      exact absurd hm (by omega)
    | succ m ih =>
      intro j o hi0 hi1 hm
      refine J.iload_n 2 dX8_extreme_2 rfl rfl ?_
      refine J.aload_n 3 dX8_extreme_3 rfl rfl ?_
      refine V.getR 4 dX8_extreme_4 fl_RX8_7 r_178_0 ?_
      refine J.iconst 7 (nI 0) dX8_extreme_7 (by decide +kernel) ?_
      refine V.iald 8 dX8_extreme_8 a_179 (by omega) ?_
      refine J.top (b := nI n) (by rw [hu9]; exact hn0) ?_
      refine V.icmp_ge 9 43 dX8_extreme_9 (by decide) (by omega) (by omega) (fun c9 => ?_) (fun c9 => ?_)
      · refine J.aload_n 43 dX8_extreme_43 rfl rfl ?_
        refine J.iconst 44 (nI 0) dX8_extreme_44 (by decide +kernel) ?_
        refine J.aload_n 45 dX8_extreme_45 rfl rfl ?_
        refine V.getR 46 dX8_extreme_46 fl_RX8_7 r_178_0 ?_
        refine J.iconst 49 (nI 0) dX8_extreme_49 (by decide +kernel) ?_
        refine V.iald 50 dX8_extreme_50 a_179 (by omega) ?_
        refine J.top (b := nI n) (by rw [hu9]; exact hn0) ?_
        refine V.callvP 51 dX8_extreme_51 ml_RX8_111 mi_yX8_middle mv_yX8_middle (c_X8_middle w _ (by omega) (by rw [ro_zero, hu9]; exact hf) (by omega) (by omega)) rfl rfl (Nat.le_of_ble_eq_true rfl) (by decide) (by decide) o_178 rfl rfl ?_
        obtain rfl : j = n := by omega
        exact V.iret 54 dX8_extreme_54 (⟨by rw [upR_self]; unfold exF; rw [hi1 _ (by omega), hi1 _ (by omega)], _, rfl⟩)
      · refine J.aload_n 12 dX8_extreme_12 rfl rfl ?_
        refine J.iload_n 13 dX8_extreme_13 rfl rfl ?_
        refine J.aload_n 14 dX8_extreme_14 rfl rfl ?_
        refine J.iconst 15 (nI 0) dX8_extreme_15 (by decide +kernel) ?_
        refine J.iload_n 16 dX8_extreme_16 rfl rfl ?_
        refine V.callvP 17 dX8_extreme_17 ml_RX8_120 mi_yX8_isLiar mv_yX8_isLiar (c_X8_isLiar w _ (by omega)) rfl rfl (Nat.le_of_ble_eq_true rfl) (by decide) (by decide) o_178 rfl rfl ?_
        rw [ro_zero, hu9]
        refine V.if_eqB 20 27 dX8_extreme_20 (by decide) (fun c20 => ?_) (fun c20 => ?_)
        · have eg : exG (v 179) i t j = heF (v 179) j i := by unfold exG; rw [if_neg c20]
          refine J.aload_n 27 dX8_extreme_27 rfl rfl ?_
          refine J.iconst 28 (nI 0) dX8_extreme_28 (by decide +kernel) ?_
          refine J.iload_n 29 dX8_extreme_29 rfl rfl ?_
          refine J.iload_n 30 dX8_extreme_30 rfl rfl ?_
          refine V.callvP 31 dX8_extreme_31 ml_RX8_104 mi_yX8_heardOf mv_yX8_heardOf (c_X8_heardOf w _ (by omega) (by omega) (by omega)) rfl rfl (Nat.le_of_ble_eq_true rfl) (by decide) (by decide) o_178 rfl rfl ?_
          rw [ro_zero, hu9]
          refine V.callvU 34 dX8_extreme_34 ml_RX8_108 mi_yX8_put mv_yX8_put (c_X8_put w _ (by omega)) rfl rfl (Nat.le_of_ble_eq_true rfl) (by decide) (by decide) o_178 rfl rfl (fun v34 h34 => ?_)
          subst h34
          refine V.iinc 37 dX8_extreme_37 rfl (by decide) ?_
          refine J.goto 40 2 dX8_extreme_40 (by decide) ?_
          refine V.heapv (upR_upR _ _ _ _) ?_
          exact ih (j + 1) _ (by omega) (fun k hk => by rw [upR_self]; unfold ordF; rw [eg]; exact putF_congr _ j _ _ hi1 k hk) (by omega)
        · have eg : exG (v 179) i t j = t := by unfold exG; rw [if_pos c20]
          refine J.iload_n 23 dX8_extreme_23 rfl rfl ?_
          refine J.goto 24 34 dX8_extreme_24 (by decide) ?_
          refine V.callvU 34 dX8_extreme_34 ml_RX8_108 mi_yX8_put mv_yX8_put (c_X8_put w _ (by omega)) rfl rfl (Nat.le_of_ble_eq_true rfl) (by decide) (by decide) o_178 rfl rfl (fun v34 h34 => ?_)
          subst h34
          refine V.iinc 37 dX8_extreme_37 rfl (by decide) ?_
          refine J.goto 40 2 dX8_extreme_40 (by decide) ?_
          refine V.heapv (upR_upR _ _ _ _) ?_
          exact ih (j + 1) _ (by omega) (fun k hk => by rw [upR_self]; unfold ordF; rw [eg]; exact putF_congr _ j _ _ hi1 k hk) (by omega)
  refine J.iconst 0 (nI 0) dX8_extreme_0 (by decide +kernel) ?_
  refine J.istore_n 1 dX8_extreme_1 rfl (by decide) ?_
  refine V.heapv (upR_id v 183) ?_
  exact lp (n + 1) 0 _ (by omega) (fun k hk => absurd hk (by omega)) (by omega)
set_option maxHeartbeats 4000000 in
set_option maxRecDepth 100000 in
theorem c_X8_rank (w : Wd) (v : Vm2) {n j i : Nat} (hn0 : v 179 0 = nI n) (hn : n ≤ 8) (hj : j < 8) (hi : i < 8) : CP w yX8_rank cX8_rank 7 (some .int) (rm 2 46) [.ref (wN w + 178), .int (nI j), .int (nI i)] v (nI (rkF (v 179) j i n)) := by
  refine CI.of (by decide) (Nat.le_of_ble_eq_true rfl) ?_
  have lp : ∀ (m : Nat) (k : Nat), (k ≤ n) → n - k < m → J w yX8_rank cX8_rank 7 (some .int) (rm 2 46) XT (ZJ w 185 0 0 (PI w (fun r v' => r = nI (rkF (v 179) j i n) ∧ v' = v))) 14 [(0, .ref (wN w + 178)), (1, .int (nI j)), (2, .int (nI i)), (3, .int (heF (v 179) j i)), (4, .int (nI (rkF (v 179) j i k))), (5, .int (nI k))] [] 185 (hv w (v)) 0 0 := by
    intro m
    induction m with
    | zero =>
      intro k hi0 hm
      exact absurd hm (by omega)
    | succ m ih =>
      intro k hi0 hm
      refine J.iload 14 dX8_rank_14 rfl ?_
      refine J.aload_n 16 dX8_rank_16 rfl rfl ?_
      refine V.getR 17 dX8_rank_17 fl_RX8_7 r_178_0 ?_
      refine J.iconst 20 (nI 0) dX8_rank_20 (by decide +kernel) ?_
      refine V.iald 21 dX8_rank_21 a_179 (by omega) ?_
      refine J.top hn0 ?_
      refine V.icmp_ge 22 69 dX8_rank_22 (by decide) (by omega) (by omega) (fun c22 => ?_) (fun c22 => ?_)
      · refine J.iload 69 dX8_rank_69 rfl ?_
        obtain rfl : k = n := by omega
        exact V.iret 71 dX8_rank_71 (⟨rfl, rfl⟩)
      · refine J.aload_n 25 dX8_rank_25 rfl rfl ?_
        refine J.iconst 26 (nI 0) dX8_rank_26 (by decide +kernel) ?_
        refine J.iload 27 dX8_rank_27 rfl ?_
        refine J.iload_n 29 dX8_rank_29 rfl rfl ?_
        refine V.callvP 30 dX8_rank_30 ml_RX8_104 mi_yX8_heardOf mv_yX8_heardOf (c_X8_heardOf w _ (by omega) (by omega) (by omega)) rfl rfl (Nat.le_of_ble_eq_true rfl) (by decide) (by decide) o_178 rfl rfl ?_
        rw [ro_zero]
        refine J.istore 33 dX8_rank_33 (by decide) ?_
        refine J.iload 35 dX8_rank_35 rfl ?_
        refine J.iload 37 dX8_rank_37 rfl ?_
        refine J.iload_n 39 dX8_rank_39 rfl rfl ?_
        refine J.icmp_lt 40 55 dX8_rank_40 (by decide) (fun c40 => ?_) (fun c40 => ?_)
        · have e1 : rkF (v 179) j i (k + 1) = rkF (v 179) j i k + 1 := by rw [rkF_s, if_pos (Or.inl c40)]
          refine J.iconst 55 (nI 1) dX8_rank_55 (by decide +kernel) ?_
          refine J.goto 56 60 dX8_rank_56 (by decide) ?_
          refine V.iadd 60 dX8_rank_60 ?_
          refine J.istore 61 dX8_rank_61 (by decide) ?_
          refine V.iinc 63 dX8_rank_63 rfl (by decide) ?_
          refine J.goto 66 14 dX8_rank_66 (by decide) ?_
          refine J.drop 6 ?_
          have q := ih (k + 1) (by omega) (by omega)
          rw [e1] at q
          exact q
        · refine J.iload 43 dX8_rank_43 rfl ?_
          refine J.iload_n 45 dX8_rank_45 rfl rfl ?_
          refine J.icmp_ne 46 59 dX8_rank_46 (by decide) (fun c46 => ?_) (fun c46 => ?_)
          · have e1 : rkF (v 179) j i (k + 1) = rkF (v 179) j i k + 0 := by rw [rkF_s, if_neg (fun z => z.elim c40 (fun z => c46 z.1))]
            refine J.iconst 59 (nI 0) dX8_rank_59 (by decide +kernel) ?_
            refine V.iadd 60 dX8_rank_60 ?_
            refine J.istore 61 dX8_rank_61 (by decide) ?_
            refine V.iinc 63 dX8_rank_63 rfl (by decide) ?_
            refine J.goto 66 14 dX8_rank_66 (by decide) ?_
            refine J.drop 6 ?_
            have q := ih (k + 1) (by omega) (by omega)
            rw [e1] at q
            exact q
          · refine J.iload 49 dX8_rank_49 rfl ?_
            refine J.iload_n 51 dX8_rank_51 rfl rfl ?_
            refine V.icmp_ge 52 59 dX8_rank_52 (by decide) (by omega) (by omega) (fun c52 => ?_) (fun c52 => ?_)
            · have e1 : rkF (v 179) j i (k + 1) = rkF (v 179) j i k + 0 := by rw [rkF_s, if_neg (fun z => z.elim c40 (fun z => absurd z.2 (Nat.not_lt.mpr c52)))]
              refine J.iconst 59 (nI 0) dX8_rank_59 (by decide +kernel) ?_
              refine V.iadd 60 dX8_rank_60 ?_
              refine J.istore 61 dX8_rank_61 (by decide) ?_
              refine V.iinc 63 dX8_rank_63 rfl (by decide) ?_
              refine J.goto 66 14 dX8_rank_66 (by decide) ?_
              refine J.drop 6 ?_
              have q := ih (k + 1) (by omega) (by omega)
              rw [e1] at q
              exact q
            · have e1 : rkF (v 179) j i (k + 1) = rkF (v 179) j i k + 1 := by rw [rkF_s, if_pos (Or.inr ⟨c46, c52⟩)]
              refine J.iconst 55 (nI 1) dX8_rank_55 (by decide +kernel) ?_
              refine J.goto 56 60 dX8_rank_56 (by decide) ?_
              refine V.iadd 60 dX8_rank_60 ?_
              refine J.istore 61 dX8_rank_61 (by decide) ?_
              refine V.iinc 63 dX8_rank_63 rfl (by decide) ?_
              refine J.goto 66 14 dX8_rank_66 (by decide) ?_
              refine J.drop 6 ?_
              have q := ih (k + 1) (by omega) (by omega)
              rw [e1] at q
              exact q
  refine J.aload_n 0 dX8_rank_0 rfl rfl ?_
  refine J.iconst 1 (nI 0) dX8_rank_1 (by decide +kernel) ?_
  refine J.iload_n 2 dX8_rank_2 rfl rfl ?_
  refine J.iload_n 3 dX8_rank_3 rfl rfl ?_
  refine V.callvP 4 dX8_rank_4 ml_RX8_104 mi_yX8_heardOf mv_yX8_heardOf (c_X8_heardOf w _ (by omega) (by omega) (by omega)) rfl rfl (Nat.le_of_ble_eq_true rfl) (by decide) (by decide) o_178 rfl rfl ?_
  rw [ro_zero]
  refine J.istore_n 7 dX8_rank_7 rfl (by decide) ?_
  refine J.iconst 8 (nI 0) dX8_rank_8 (by decide +kernel) ?_
  refine J.istore 9 dX8_rank_9 (by decide) ?_
  refine J.iconst 11 (nI 0) dX8_rank_11 (by decide +kernel) ?_
  refine J.istore 12 dX8_rank_12 (by decide) ?_
  exact lp (n + 1) 0 (by omega) (by omega)
set_option maxHeartbeats 4000000 in
set_option maxRecDepth 100000 in
theorem c_X8_mayLie (w : Wd) (v : Vm2) {n : Nat} (hn0 : v 179 0 = nI n) (hn : n ≤ 8) : CP w yX8_mayLie cX8_mayLie 3 (some .int) (rm 0 0) [.ref (wN w + 178)] v (mlF (v 179) n) := by
  refine CI.of (by decide) (Nat.le_of_ble_eq_true rfl) ?_
  have hcs := cntS_le (v 179) n
  have K : J w yX8_mayLie cX8_mayLie 3 (some .int) (rm 0 0) XT (ZJ w 185 0 0 (PI w (fun r v' => r = mlF (v 179) n ∧ v' = v))) 40 [(0, .ref (wN w + 178)), (1, .int (nI (cntS (v 179) n))), (2, .int (nI n))] [] 185 (hv w (v)) 0 0 := by
    refine J.iload_n 40 dX8_mayLie_40 rfl rfl ?_
    refine J.iconst 41 (nI 1) dX8_mayLie_41 (by decide +kernel) ?_
    refine J.isub 42 dX8_mayLie_42 ?_
    refine J.iconst 43 (nI 3) dX8_mayLie_43 (by decide +kernel) ?_
    refine J.idiv 44 dX8_mayLie_44 (by decide) ?_
    refine J.istore_n 45 dX8_mayLie_45 rfl (by decide) ?_
    refine J.iload_n 46 dX8_mayLie_46 rfl rfl ?_
    refine V.if_ne 47 54 dX8_mayLie_47 (by decide) (by omega) (fun c47 => ?_) (fun c47 => ?_)
    · refine J.iload_n 54 dX8_mayLie_54 rfl rfl ?_
      refine J.aload_n 55 dX8_mayLie_55 rfl rfl ?_
      refine V.getR 56 dX8_mayLie_56 fl_RX8_7 r_178_0 ?_
      refine J.iconst 59 (nI 1) dX8_mayLie_59 (by decide +kernel) ?_
      refine V.iald 60 dX8_mayLie_60 a_179 (by omega) ?_
      refine J.icmp_ge 61 68 dX8_mayLie_61 (by decide) (fun c61 => ?_) (fun c61 => ?_)
      · refine J.aload_n 68 dX8_mayLie_68 rfl rfl ?_
        refine V.getR 69 dX8_mayLie_69 fl_RX8_7 r_178_0 ?_
        refine J.iconst 72 (nI 1) dX8_mayLie_72 (by decide +kernel) ?_
        refine V.iald 73 dX8_mayLie_73 a_179 (by omega) ?_
        exact V.iret 74 dX8_mayLie_74 (⟨by unfold mlF; rw [if_neg c47]; first | exact (if_pos c61).symm | exact (if_neg c61).symm, rfl⟩)
      · refine J.iload_n 64 dX8_mayLie_64 rfl rfl ?_
        refine J.goto 65 74 dX8_mayLie_65 (by decide) ?_
        exact V.iret 74 dX8_mayLie_74 (⟨by unfold mlF; rw [if_neg c47]; first | exact (if_pos c61).symm | exact (if_neg c61).symm, rfl⟩)
    · refine J.iconst 50 (-1) dX8_mayLie_50 (by decide +kernel) ?_
      refine J.goto 51 74 dX8_mayLie_51 (by decide) ?_
      exact V.iret 74 dX8_mayLie_74 (⟨by unfold mlF; rw [if_pos c47], rfl⟩)
  have lp : ∀ (m : Nat) (c : Nat), (c ≤ n) → n - c < m → J w yX8_mayLie cX8_mayLie 3 (some .int) (rm 0 0) XT (ZJ w 185 0 0 (PI w (fun r v' => r = mlF (v 179) n ∧ v' = v))) 4 [(0, .ref (wN w + 178)), (1, .int (nI (cntS (v 179) c))), (2, .int (nI c))] [] 185 (hv w (v)) 0 0 := by
    intro m
    induction m with
    | zero =>
      intro c hi0 hm
      exact absurd hm (by omega)
    | succ m ih =>
      intro c hi0 hm
      refine J.iload_n 4 dX8_mayLie_4 rfl rfl ?_
      refine J.aload_n 5 dX8_mayLie_5 rfl rfl ?_
      refine V.getR 6 dX8_mayLie_6 fl_RX8_7 r_178_0 ?_
      refine J.iconst 9 (nI 0) dX8_mayLie_9 (by decide +kernel) ?_
      refine V.iald 10 dX8_mayLie_10 a_179 (by omega) ?_
      refine J.top hn0 ?_
      refine V.icmp_ge 11 40 dX8_mayLie_11 (by decide) (by omega) (by omega) (fun c11 => ?_) (fun c11 => ?_)
      · obtain rfl : c = n := by omega
        exact K
      · refine J.iload_n 14 dX8_mayLie_14 rfl rfl ?_
        refine J.aload_n 15 dX8_mayLie_15 rfl rfl ?_
        refine V.getR 16 dX8_mayLie_16 fl_RX8_7 r_178_0 ?_
        refine J.bipush 19 (nI 35) dX8_mayLie_19 (by decide +kernel) ?_
        refine J.iload_n 21 dX8_mayLie_21 rfl rfl ?_
        refine V.iadd 22 dX8_mayLie_22 ?_
        refine V.iald 23 dX8_mayLie_23 a_179 (by omega) ?_
        refine J.if_ne 24 31 dX8_mayLie_24 (by decide) (fun c24 => ?_) (fun c24 => ?_)
        · have e1 : cntS (v 179) (c + 1) = cntS (v 179) c + 0 := by simp [cntS, c24]
          refine J.iconst 31 (nI 0) dX8_mayLie_31 (by decide +kernel) ?_
          refine V.iadd 32 dX8_mayLie_32 ?_
          refine J.istore_n 33 dX8_mayLie_33 rfl (by decide) ?_
          refine V.iinc 34 dX8_mayLie_34 rfl (by decide) ?_
          refine J.goto 37 4 dX8_mayLie_37 (by decide) ?_
          have q := ih (c + 1) (by omega) (by omega)
          rw [e1] at q
          exact q
        · have e1 : cntS (v 179) (c + 1) = cntS (v 179) c + 1 := by simp [cntS, c24]
          refine J.iconst 27 (nI 1) dX8_mayLie_27 (by decide +kernel) ?_
          refine J.goto 28 32 dX8_mayLie_28 (by decide) ?_
          refine V.iadd 32 dX8_mayLie_32 ?_
          refine J.istore_n 33 dX8_mayLie_33 rfl (by decide) ?_
          refine V.iinc 34 dX8_mayLie_34 rfl (by decide) ?_
          refine J.goto 37 4 dX8_mayLie_37 (by decide) ?_
          have q := ih (c + 1) (by omega) (by omega)
          rw [e1] at q
          exact q
  refine J.iconst 0 (nI 0) dX8_mayLie_0 (by decide +kernel) ?_
  refine J.istore_n 1 dX8_mayLie_1 rfl (by decide) ?_
  refine J.iconst 2 (nI 0) dX8_mayLie_2 (by decide +kernel) ?_
  refine J.istore_n 3 dX8_mayLie_3 rfl (by decide) ?_
  exact lp (n + 1) 0 (by omega) (by omega)
set_option maxHeartbeats 4000000 in
set_option maxRecDepth 100000 in
theorem c_X8_rungSet (w : Wd) (v : Vm2) {ma : Nat} (hm0 : v 179 171 = nI ma) (hma : ma ≤ 6) : CP w yX8_rungSet cX8_rungSet 3 (some .int) (rm 0 0) [.ref (wN w + 178)] v (rsI (v 179) ma) := by
  refine CI.of (by decide) (Nat.le_of_ble_eq_true rfl) ?_
  have lp : ∀ (m : Nat) (a : Nat), (a ≤ ma) → ma - a < m → J w yX8_rungSet cX8_rungSet 3 (some .int) (rm 0 0) XT (ZJ w 185 0 0 (PI w (fun r v' => r = rsI (v 179) ma ∧ v' = v))) 4 [(0, .ref (wN w + 178)), (1, .int (rsI (v 179) a)), (2, .int (nI a))] [] 185 (hv w (v)) 0 0 := by
    intro m
    induction m with
    | zero =>
      intro a hi0 hm
      exact absurd hm (by omega)
    | succ m ih =>
      intro a hi0 hm
      refine J.iload_n 4 dX8_rungSet_4 rfl rfl ?_
      refine J.aload_n 5 dX8_rungSet_5 rfl rfl ?_
      refine V.getR 6 dX8_rungSet_6 fl_RX8_7 r_178_0 ?_
      refine J.sipush 9 (nI 171) dX8_rungSet_9 (by decide +kernel) ?_
      refine V.iald 12 dX8_rungSet_12 a_179 (by omega) ?_
      refine J.top hm0 ?_
      refine V.icmp_ge 13 37 dX8_rungSet_13 (by decide) (by omega) (by omega) (fun c13 => ?_) (fun c13 => ?_)
      · refine J.iload_n 37 dX8_rungSet_37 rfl rfl ?_
        obtain rfl : a = ma := by omega
        exact V.iret 38 dX8_rungSet_38 (⟨rfl, rfl⟩)
      · refine J.iload_n 16 dX8_rungSet_16 rfl rfl ?_
        refine J.aload_n 17 dX8_rungSet_17 rfl rfl ?_
        refine V.getR 18 dX8_rungSet_18 fl_RX8_7 r_178_0 ?_
        refine J.sipush 21 (nI 184) dX8_rungSet_21 (by decide +kernel) ?_
        refine J.iload_n 24 dX8_rungSet_24 rfl rfl ?_
        refine V.iadd 25 dX8_rungSet_25 ?_
        refine V.iald 26 dX8_rungSet_26 a_179 (by omega) ?_
        refine J.iload_n 27 dX8_rungSet_27 rfl rfl ?_
        refine J.ishl 28 dX8_rungSet_28 ?_
        refine J.ior 29 dX8_rungSet_29 ?_
        refine J.istore_n 30 dX8_rungSet_30 rfl (by decide) ?_
        refine V.iinc 31 dX8_rungSet_31 rfl (by decide) ?_
        refine J.goto 34 4 dX8_rungSet_34 (by decide) ?_
        exact ih (a + 1) (by omega) (by omega)
  refine J.iconst 0 (nI 0) dX8_rungSet_0 (by decide +kernel) ?_
  refine J.istore_n 1 dX8_rungSet_1 rfl (by decide) ?_
  refine J.iconst 2 (nI 0) dX8_rungSet_2 (by decide +kernel) ?_
  refine J.istore_n 3 dX8_rungSet_3 rfl (by decide) ?_
  exact lp (ma + 1) 0 (by omega) (by omega)
