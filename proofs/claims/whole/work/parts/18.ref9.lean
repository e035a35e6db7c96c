/-! ===== part 18: the text: a model of its reading, and the reference's reading ===== -/
def skF (t : Nat → Int32) (s : Nat) : Nat → Nat → Nat
  | 0, a => a
  | m + 1, a => if a < s ∧ t a = nI 32 then skF t s m (a + 1) else a
def skp (t : Nat → Int32) (s a : Nat) : Nat := skF t s (s - a) a
theorem skp_y {t : Nat → Int32} {s a : Nat} (h : a < s) (h2 : t a = nI 32) : skp t s a = skp t s (a + 1) := by
  unfold skp
  obtain ⟨r, hr⟩ : ∃ r, s - a = r + 1 := ⟨s - a - 1, by omega⟩
  rw [hr, show s - (a + 1) = r by omega]
  exact if_pos ⟨h, h2⟩
theorem skp_n {t : Nat → Int32} {s a : Nat} (h : ¬ (a < s ∧ t a = nI 32)) : skp t s a = a := by
  unfold skp
  cases hr : s - a with
  | zero => rfl
  | succ r => exact if_neg h
theorem skp_le (t : Nat → Int32) (s : Nat) : ∀ (m a : Nat), s - a < m → a ≤ s → a ≤ skp t s a ∧ skp t s a ≤ s
  | 0, a, h, _ => absurd h (by omega)
  | m + 1, a, h, ha => by
    by_cases hc : a < s ∧ t a = nI 32
    · rw [skp_y hc.1 hc.2]
      have := skp_le t s m (a + 1) (by omega) (by omega)
      omega
    · rw [skp_n hc]
      omega
theorem skp_in {t : Nat → Int32} {s a : Nat} (h : a ≤ s) : a ≤ skp t s a ∧ skp t s a ≤ s := skp_le t s (s - a + 1) a (by omega) h
theorem skp_st (t : Nat → Int32) (s : Nat) : ∀ (m a : Nat), s - a < m → ¬ (skp t s a < s ∧ t (skp t s a) = nI 32)
  | 0, a, h => absurd h (by omega)
  | m + 1, a, h => by
    by_cases hc : a < s ∧ t a = nI 32
    · rw [skp_y hc.1 hc.2]
      exact skp_st t s m (a + 1) (by omega)
    · rw [skp_n hc]
      exact hc
theorem skp_skp (t : Nat → Int32) (s a : Nat) : skp t s (skp t s a) = skp t s a := skp_n (skp_st t s (s - a + 1) a (by omega))
def ltr (t : Nat → Int32) (s a : Nat) : Int32 := if a < s then t a else nI 0
abbrev isD (x : Int32) : Prop := inF x (nI 48) (nI 57)
def dgF (t : Nat → Int32) (s fr : Nat) : Nat → Nat → Int32 → Nat × Int32
  | 0, a, x => (a, x)
  | m + 1, a, x => if a < s ∧ isD (t a) then dgF t s fr m (a + 1) (if a - fr < 4 then nI 10 * x + t a - nI 48 else x) else (a, x)
def dg (t : Nat → Int32) (s fr a : Nat) (x : Int32) : Nat × Int32 := dgF t s fr (s - a) a x
theorem dg_y {t : Nat → Int32} {s fr a : Nat} {x : Int32} (h : a < s) (h2 : isD (t a)) : dg t s fr a x = dg t s fr (a + 1) (if a - fr < 4 then nI 10 * x + t a - nI 48 else x) := by
  unfold dg
  obtain ⟨r, hr⟩ : ∃ r, s - a = r + 1 := ⟨s - a - 1, by omega⟩
  rw [hr, show s - (a + 1) = r by omega]
  exact if_pos ⟨h, h2⟩
theorem dg_n {t : Nat → Int32} {s fr a : Nat} {x : Int32} (h : ¬ (a < s ∧ isD (t a))) : dg t s fr a x = (a, x) := by
  unfold dg
  cases hr : s - a with
  | zero => rfl
  | succ r => exact if_neg h
theorem dg_le (t : Nat → Int32) (s fr : Nat) : ∀ (m a : Nat) (x : Int32), s - a < m → a ≤ s → a ≤ (dg t s fr a x).1 ∧ (dg t s fr a x).1 ≤ s
  | 0, a, x, h, _ => absurd h (by omega)
  | m + 1, a, x, h, ha => by
    by_cases hc : a < s ∧ isD (t a)
    · rw [dg_y hc.1 hc.2]
      have := dg_le t s fr m (a + 1) (if a - fr < 4 then nI 10 * x + t a - nI 48 else x) (by omega) (by omega)
      omega
    · rw [dg_n hc]
      exact ⟨Nat.le_refl a, ha⟩
theorem dg_in {t : Nat → Int32} {s fr a : Nat} {x : Int32} (h : a ≤ s) : a ≤ (dg t s fr a x).1 ∧ (dg t s fr a x).1 ≤ s := dg_le t s fr (s - a + 1) a x (by omega) h
/-- a number that begins at fr: where it ends, its value, its fault -/
def nuE (t : Nat → Int32) (s fr : Nat) : Nat := (dg t s fr fr (nI 0)).1
def nuV (t : Nat → Int32) (s fr : Nat) : Int32 := (dg t s fr fr (nI 0)).2
def nuK (t : Nat → Int32) (s fr : Nat) (lo hi : Int32) : Nat := if ¬ isD (ltr t s fr) then 1 else if 4 < nuE t s fr - fr ∨ ¬ inF (nuV t s fr) lo hi then 2 else 0
/-- the reference's fields behind a number: at, wrong, place, from -/
def nuU (v : Vm2) (t : Nat → Int32) (s fr : Nat) (lo hi : Int32) : Vm2 := if nuK t s fr lo hi = 0 then up2 (up2 v 178 11 (nI (nuE t s fr))) 178 14 (nI fr) else up2 (up2 (up2 (up2 v 178 11 (nI (nuE t s fr))) 178 14 (nI fr)) 178 12 (nI (nuK t s fr lo hi))) 178 13 (nI fr)
theorem up2_up2 (v : Vm2) (k i : Nat) (x y : Int32) : up2 (up2 v k i x) k i y = up2 v k i y := by
  funext a b
  by_cases h : a = k ∧ b = i
  · simp [up2, h]
  · simp only [up2, if_neg h]
theorem up2_cm (v : Vm2) {k i j : Nat} (x y : Int32) (h : i ≠ j) : up2 (up2 v k i x) k j y = up2 (up2 v k j y) k i x := by
  funext a b
  simp only [up2]
  by_cases h1 : a = k ∧ b = j
  · rw [if_pos h1, if_neg (by omega)]
    exact (if_pos h1).symm
  · rw [if_neg h1]
    by_cases h2 : a = k ∧ b = i
    · rw [if_pos h2, if_pos h2]
    · rw [if_neg h2, if_neg h2, if_neg h1]
theorem up2_id (v : Vm2) {k i : Nat} {x : Int32} (h : v k i = x) : v = up2 v k i x := by
  funext a b
  by_cases h1 : a = k ∧ b = i
  · simp only [up2, if_pos h1]
    rw [h1.1, h1.2]
    exact h
  · simp only [up2, if_neg h1]
theorem up2_o (v : Vm2) {k i a b : Nat} (x : Int32) (h : ¬ (a = k ∧ b = i)) : up2 v k i x a b = v a b := by simp only [up2, if_neg h]

set_option maxHeartbeats 4000000 in
set_option maxRecDepth 100000 in
theorem c_X8_here (w : Wd) (v : Vm2) {s a : Nat} (ha0 : v 178 11 = nI a) (hs0 : v 178 4 = nI s) (ha : a ≤ s + 1) (hs : s ≤ 200) : CI w yX8_here cX8_here 1 (some .int) (rm 0 0) [.ref (wN w + 178)] v (fun r v' => r = ltr (v 180) s (skp (v 180) s a) ∧ v' = up2 v 178 11 (nI (skp (v 180) s a))) := by
  refine CI.of (by decide) (Nat.le_of_ble_eq_true rfl) ?_
  have lp : ∀ (m : Nat) (p : Nat), (p ≤ s + 1) → (skp (v 180) s p = skp (v 180) s a) → s - p < m → J w yX8_here cX8_here 1 (some .int) (rm 0 0) XT (ZJ w 185 0 0 (PI w (fun r v' => r = ltr (v 180) s (skp (v 180) s a) ∧ v' = up2 v 178 11 (nI (skp (v 180) s a))))) 0 [(0, .ref (wN w + 178))] [] 185 (hv w (up2 v 178 11 (nI p))) 0 0 := by
    intro m
    induction m with
    | zero =>
      intro p hi0 hi1 hm
      exact absurd hm (by omega)
    | succ m ih =>
      intro p hi0 hi1 hm
      refine J.aload_n 0 dX8_here_0 rfl rfl ?_
      refine V.getI 1 dX8_here_1 fl_RX8_51 i_178_11 ?_
      refine J.top (b := nI p) (up2_self _ _ _ _) ?_
      refine J.aload_n 4 dX8_here_4 rfl rfl ?_
      refine V.getI 5 dX8_here_5 fl_RX8_37 i_178_4 ?_
      refine J.top (b := nI s) ((up2_o _ _ (by omega)).trans hs0) ?_
      refine V.icmp_ge 8 38 dX8_here_8 (by decide) (by omega) (by omega) (fun c8 => ?_) (fun c8 => ?_)
      · have ep : skp (v 180) s p = p := skp_n (by omega)
        refine J.aload_n 38 dX8_here_38 rfl rfl ?_
        refine V.getI 39 dX8_here_39 fl_RX8_51 i_178_11 ?_
        refine J.top (b := nI p) (up2_self _ _ _ _) ?_
        refine J.aload_n 42 dX8_here_42 rfl rfl ?_
        refine V.getI 43 dX8_here_43 fl_RX8_37 i_178_4 ?_
        refine J.top (b := nI s) ((up2_o _ _ (by omega)).trans hs0) ?_
        refine V.icmp_ge 46 61 dX8_here_46 (by decide) (by omega) (by omega) (fun c46 => ?_) (fun c46 => ?_)
        · refine J.iconst 61 (nI 0) dX8_here_61 (by decide +kernel) ?_
          exact V.iret 62 dX8_here_62 (⟨by rw [← hi1, ep]; unfold ltr; first | exact (if_pos c46).symm | exact (if_neg (by omega)).symm, by rw [← hi1, ep]⟩)
        · refine J.aload_n 49 dX8_here_49 rfl rfl ?_
          refine V.getR 50 dX8_here_50 fl_RX8_13 r_178_3 ?_
          refine J.aload_n 53 dX8_here_53 rfl rfl ?_
          refine V.getI 54 dX8_here_54 fl_RX8_51 i_178_11 ?_
          refine J.top (b := nI p) (up2_self _ _ _ _) ?_
          refine V.iald 57 dX8_here_57 a_180 (by omega) ?_
          refine J.top (b := v 180 p) (up2_o _ _ (by omega)) ?_
          refine J.goto 58 62 dX8_here_58 (by decide) ?_
          exact V.iret 62 dX8_here_62 (⟨by rw [← hi1, ep]; unfold ltr; first | exact (if_pos c46).symm | exact (if_neg (by omega)).symm, by rw [← hi1, ep]⟩)
      · refine J.aload_n 11 dX8_here_11 rfl rfl ?_
        refine V.getR 12 dX8_here_12 fl_RX8_13 r_178_3 ?_
        refine J.aload_n 15 dX8_here_15 rfl rfl ?_
        refine V.getI 16 dX8_here_16 fl_RX8_51 i_178_11 ?_
        refine J.top (b := nI p) (up2_self _ _ _ _) ?_
        refine V.iald 19 dX8_here_19 a_180 (by omega) ?_
        refine J.top (b := v 180 p) (up2_o _ _ (by omega)) ?_
        refine J.bipush 20 (nI 32) dX8_here_20 (by decide +kernel) ?_
        refine J.icmp_ne 22 38 dX8_here_22 (by decide) (fun c22 => ?_) (fun c22 => ?_)
        · have ep : skp (v 180) s p = p := skp_n (fun z => c22 z.2)
          refine J.aload_n 38 dX8_here_38 rfl rfl ?_
          refine V.getI 39 dX8_here_39 fl_RX8_51 i_178_11 ?_
          refine J.top (b := nI p) (up2_self _ _ _ _) ?_
          refine J.aload_n 42 dX8_here_42 rfl rfl ?_
          refine V.getI 43 dX8_here_43 fl_RX8_37 i_178_4 ?_
          refine J.top (b := nI s) ((up2_o _ _ (by omega)).trans hs0) ?_
          refine V.icmp_ge 46 61 dX8_here_46 (by decide) (by omega) (by omega) (fun c46 => ?_) (fun c46 => ?_)
          · refine J.iconst 61 (nI 0) dX8_here_61 (by decide +kernel) ?_
            exact V.iret 62 dX8_here_62 (⟨by rw [← hi1, ep]; unfold ltr; first | exact (if_pos c46).symm | exact (if_neg (by omega)).symm, by rw [← hi1, ep]⟩)
          · refine J.aload_n 49 dX8_here_49 rfl rfl ?_
            refine V.getR 50 dX8_here_50 fl_RX8_13 r_178_3 ?_
            refine J.aload_n 53 dX8_here_53 rfl rfl ?_
            refine V.getI 54 dX8_here_54 fl_RX8_51 i_178_11 ?_
            refine J.top (b := nI p) (up2_self _ _ _ _) ?_
            refine V.iald 57 dX8_here_57 a_180 (by omega) ?_
            refine J.top (b := v 180 p) (up2_o _ _ (by omega)) ?_
            refine J.goto 58 62 dX8_here_58 (by decide) ?_
            exact V.iret 62 dX8_here_62 (⟨by rw [← hi1, ep]; unfold ltr; first | exact (if_pos c46).symm | exact (if_neg (by omega)).symm, by rw [← hi1, ep]⟩)
        · refine J.aload_n 25 dX8_here_25 rfl rfl ?_
          refine J.dup 26 dX8_here_26 rfl ?_
          refine V.getI 27 dX8_here_27 fl_RX8_51 i_178_11 ?_
          refine J.top (b := nI p) (up2_self _ _ _ _) ?_
          refine J.iconst 30 (nI 1) dX8_here_30 (by decide +kernel) ?_
          refine V.iadd 31 dX8_here_31 ?_
          refine V.putI 32 dX8_here_32 fl_RX8_51 fp_8_11 i_178_11 ?_
          refine V.heapv (up2_up2 _ _ _ _ _) ?_
          refine J.goto 35 0 dX8_here_35 (by decide) ?_
          exact ih (p + 1) (by omega) (by rw [← hi1]; exact (skp_y c8 c22).symm) (by omega)
  refine V.heapv (up2_id v ha0) ?_
  exact lp (s + 1) a ha rfl (by omega)
set_option maxHeartbeats 4000000 in
set_option maxRecDepth 100000 in
theorem c_X8_fail (w : Wd) (v : Vm2) {k p : Int32} : CU w yX8_fail cX8_fail 3 (rm 1 20) [.ref (wN w + 178), .int k, .int p] v (fun v' => v' = if v 178 12 = 0 then up2 (up2 v 178 12 k) 178 13 p else v) := by
  refine CU.of (by decide) (Nat.le_of_ble_eq_true rfl) ?_
  refine J.aload_n 0 dX8_fail_0 rfl rfl ?_
  refine V.callvP 1 dX8_fail_1 ml_RX8_44 mi_yX8_fine mv_yX8_fine (c_X8_fine w _) rfl rfl (Nat.le_of_ble_eq_true rfl) (by decide) (by decide) o_178 rfl rfl ?_
  refine V.if_eqB 4 17 dX8_fail_4 (by decide) (fun c4 => ?_) (fun c4 => ?_)
  · exact V.vret 17 dX8_fail_17 (by first | rw [if_pos c4] | rw [if_neg c4])
  · refine J.aload_n 7 dX8_fail_7 rfl rfl ?_
    refine J.iload_n 8 dX8_fail_8 rfl rfl ?_
    refine V.putI 9 dX8_fail_9 fl_RX8_41 fp_8_12 i_178_12 ?_
    refine J.aload_n 12 dX8_fail_12 rfl rfl ?_
    refine J.iload_n 13 dX8_fail_13 rfl rfl ?_
    refine V.putI 14 dX8_fail_14 fl_RX8_48 fp_8_13 i_178_13 ?_
    exact V.vret 17 dX8_fail_17 (by first | rw [if_pos c4] | rw [if_neg c4])
theorem k_fail (w : Wd) (v : Vm2) {k p : Int32} (h : v 178 12 = 0) : CU w yX8_fail cX8_fail 3 (rm 1 20) [.ref (wN w + 178), .int k, .int p] v (fun v' => v' = up2 (up2 v 178 12 k) 178 13 p) := by
  have h1 := c_X8_fail w v (k := k) (p := p)
  rw [if_pos h] at h1
  exact h1
set_option maxHeartbeats 4000000 in
set_option maxRecDepth 100000 in
theorem c_X8_number (w : Wd) (v : Vm2) {s a : Nat} {lo hi : Int32} (ha0 : v 178 11 = nI a) (hs0 : v 178 4 = nI s) (hw0 : v 178 12 = 0) (ha : a ≤ s) (hs : s ≤ 200) : CI w yX8_number cX8_number 5 (some .int) (rm 2 42) [.ref (wN w + 178), .int lo, .int hi] v (fun r v' => r = nuV (v 180) s (skp (v 180) s a) ∧ v' = nuU v (v 180) s (skp (v 180) s a) lo hi) := by
  refine CI.of (by decide) (Nat.le_of_ble_eq_true rfl) ?_
  have hsk := skp_in (t := v 180) ha
  obtain ⟨fr, hfr⟩ : ∃ fr, fr = skp (v 180) s a := ⟨_, rfl⟩
  have lp : ∀ (m : Nat) (p : Nat) (x : Int32), (fr ≤ p) → (p ≤ s) → (dg (v 180) s fr p x = dg (v 180) s fr fr (nI 0)) → s - p < m → J w yX8_number cX8_number 5 (some .int) (rm 2 42) XT (ZJ w 185 0 0 (PI w (fun r v' => r = nuV (v 180) s (skp (v 180) s a) ∧ v' = nuU v (v 180) s (skp (v 180) s a) lo hi))) 25 [(0, .ref (wN w + 178)), (1, .int lo), (2, .int hi), (3, .int (ltr (v 180) s fr)), (4, .int x)] [] 185 (hv w (up2 (up2 v 178 11 (nI p)) 178 14 (nI fr))) 0 0 := by
    intro m
    induction m with
    | zero =>
      intro p x hi0 hi1 hi2 hm
      exact absurd hm (by omega)
    | succ m ih =>
      intro p x hi0 hi1 hi2 hm
      refine J.aload_n 25 dX8_number_25 rfl rfl ?_
      refine V.getI 26 dX8_number_26 fl_RX8_51 i_178_11 ?_
      refine J.top (b := nI p) (by rw [up2_o _ _ (by omega), up2_self]) ?_
      refine J.aload_n 29 dX8_number_29 rfl rfl ?_
      refine V.getI 30 dX8_number_30 fl_RX8_37 i_178_4 ?_
      refine J.top (b := nI s) (by rw [up2_o _ _ (by omega), up2_o _ _ (by omega)]; exact hs0) ?_
      refine V.icmp_ge 33 106 dX8_number_33 (by decide) (by omega) (by omega) (fun c33 => ?_) (fun c33 => ?_)
      · have ed : dg (v 180) s fr p x = (p, x) := dg_n (by omega)
        have eE : nuE (v 180) s fr = p := by unfold nuE; rw [← hi2, ed]
        have eV : nuV (v 180) s fr = x := by unfold nuV; rw [← hi2, ed]
        refine J.iload_n 106 dX8_number_106 rfl rfl ?_
        refine J.bipush 107 (nI 48) dX8_number_107 (by decide +kernel) ?_
        refine J.bipush 109 (nI 57) dX8_number_109 (by decide +kernel) ?_
        refine V.callsP 111 dX8_number_111 ml_RX8_32 mi_yX8_in ms_yX8_in (c_X8_in w _ _ _ _) rfl rfl (Nat.le_of_ble_eq_true rfl) (by decide) (by decide) ?_
        refine V.if_neB 114 129 dX8_number_114 (by decide) (fun c114 => ?_) (fun c114 => ?_)
        · refine J.aload_n 129 dX8_number_129 rfl rfl ?_
          refine V.getI 130 dX8_number_130 fl_RX8_51 i_178_11 ?_
          refine J.top (b := nI p) (by rw [up2_o _ _ (by omega), up2_self]) ?_
          refine J.aload_n 133 dX8_number_133 rfl rfl ?_
          refine V.getI 134 dX8_number_134 fl_RX8_58 i_178_14 ?_
          refine J.top (b := nI fr) (up2_self _ _ _ _) ?_
          refine V.isub 137 dX8_number_137 (by omega) ?_
          refine J.iconst 138 (nI 4) dX8_number_138 (by decide +kernel) ?_
          refine V.icmp_gt 139 152 dX8_number_139 (by decide) (by omega) (by omega) (fun c139 => ?_) (fun c139 => ?_)
          · have eK : nuK (v 180) s fr lo hi = 2 := by unfold nuK; rw [if_neg (fun z => z c114), if_pos (Or.inl (by rw [eE]; exact c139))]
            refine J.aload_n 152 dX8_number_152 rfl rfl ?_
            refine J.iconst 153 (nI 2) dX8_number_153 (by decide +kernel) ?_
            refine J.aload_n 154 dX8_number_154 rfl rfl ?_
            refine V.getI 155 dX8_number_155 fl_RX8_58 i_178_14 ?_
            refine J.top (b := nI fr) (up2_self _ _ _ _) ?_
            refine V.callvU 158 dX8_number_158 ml_RX8_61 mi_yX8_fail mv_yX8_fail (k_fail w _ (by rw [up2_o _ _ (by omega), up2_o _ _ (by omega)]; exact hw0)) rfl rfl (Nat.le_of_ble_eq_true rfl) (by decide) (by decide) o_178 rfl rfl (fun v158 h158 => ?_)
            subst h158
            refine J.iload 161 dX8_number_161 rfl ?_
            exact V.iret 163 dX8_number_163 (⟨by rw [← hfr, eV], by unfold nuU; rw [← hfr, eE, eK]; rfl⟩)
          · refine J.iload 142 dX8_number_142 rfl ?_
            refine J.iload_n 144 dX8_number_144 rfl rfl ?_
            refine J.iload_n 145 dX8_number_145 rfl rfl ?_
            refine V.callsP 146 dX8_number_146 ml_RX8_32 mi_yX8_in ms_yX8_in (c_X8_in w _ _ _ _) rfl rfl (Nat.le_of_ble_eq_true rfl) (by decide) (by decide) ?_
            refine V.if_neB 149 161 dX8_number_149 (by decide) (fun c149 => ?_) (fun c149 => ?_)
            · have eK : nuK (v 180) s fr lo hi = 0 := by unfold nuK; rw [if_neg (fun z => z c114), if_neg (fun z => z.elim (fun z => by rw [eE] at z; omega) (fun z => z (by rw [eV]; exact c149)))]
              refine J.iload 161 dX8_number_161 rfl ?_
              exact V.iret 163 dX8_number_163 (⟨by rw [← hfr, eV], by unfold nuU; rw [← hfr, eE, eK]; rfl⟩)
            · have eK : nuK (v 180) s fr lo hi = 2 := by unfold nuK; rw [if_neg (fun z => z c114), if_pos (Or.inr (fun z => c149 (by rw [eV] at z; exact z)))]
              refine J.aload_n 152 dX8_number_152 rfl rfl ?_
              refine J.iconst 153 (nI 2) dX8_number_153 (by decide +kernel) ?_
              refine J.aload_n 154 dX8_number_154 rfl rfl ?_
              refine V.getI 155 dX8_number_155 fl_RX8_58 i_178_14 ?_
              refine J.top (b := nI fr) (up2_self _ _ _ _) ?_
              refine V.callvU 158 dX8_number_158 ml_RX8_61 mi_yX8_fail mv_yX8_fail (k_fail w _ (by rw [up2_o _ _ (by omega), up2_o _ _ (by omega)]; exact hw0)) rfl rfl (Nat.le_of_ble_eq_true rfl) (by decide) (by decide) o_178 rfl rfl (fun v158 h158 => ?_)
              subst h158
              refine J.iload 161 dX8_number_161 rfl ?_
              exact V.iret 163 dX8_number_163 (⟨by rw [← hfr, eV], by unfold nuU; rw [← hfr, eE, eK]; rfl⟩)
        · refine J.aload_n 117 dX8_number_117 rfl rfl ?_
          refine J.iconst 118 (nI 1) dX8_number_118 (by decide +kernel) ?_
          refine J.aload_n 119 dX8_number_119 rfl rfl ?_
          refine V.getI 120 dX8_number_120 fl_RX8_58 i_178_14 ?_
          refine J.top (b := nI fr) (up2_self _ _ _ _) ?_
          refine V.callvU 123 dX8_number_123 ml_RX8_61 mi_yX8_fail mv_yX8_fail (k_fail w _ (by rw [up2_o _ _ (by omega), up2_o _ _ (by omega)]; exact hw0)) rfl rfl (Nat.le_of_ble_eq_true rfl) (by decide) (by decide) o_178 rfl rfl (fun v123 h123 => ?_)
          subst h123
          have eK : nuK (v 180) s fr lo hi = 1 := if_pos c114
          refine J.goto 126 161 dX8_number_126 (by decide) ?_
          refine J.iload 161 dX8_number_161 rfl ?_
          exact V.iret 163 dX8_number_163 (⟨by rw [← hfr, eV], by unfold nuU; rw [← hfr, eE, eK]; rfl⟩)
      · refine J.aload_n 36 dX8_number_36 rfl rfl ?_
        refine V.getR 37 dX8_number_37 fl_RX8_13 r_178_3 ?_
        refine J.aload_n 40 dX8_number_40 rfl rfl ?_
        refine V.getI 41 dX8_number_41 fl_RX8_51 i_178_11 ?_
        refine J.top (b := nI p) (by rw [up2_o _ _ (by omega), up2_self]) ?_
        refine V.iald 44 dX8_number_44 a_180 (by omega) ?_
        refine J.top (b := v 180 p) (by rw [up2_o _ _ (by omega), up2_o _ _ (by omega)]) ?_
        refine J.bipush 45 (nI 48) dX8_number_45 (by decide +kernel) ?_
        refine J.bipush 47 (nI 57) dX8_number_47 (by decide +kernel) ?_
        refine V.callsP 49 dX8_number_49 ml_RX8_32 mi_yX8_in ms_yX8_in (c_X8_in w _ _ _ _) rfl rfl (Nat.le_of_ble_eq_true rfl) (by decide) (by decide) ?_
        refine V.if_eqB 52 106 dX8_number_52 (by decide) (fun c52 => ?_) (fun c52 => ?_)
        · have ed : dg (v 180) s fr p x = (p, x) := dg_n (fun z => c52 z.2)
          have eE : nuE (v 180) s fr = p := by unfold nuE; rw [← hi2, ed]
          have eV : nuV (v 180) s fr = x := by unfold nuV; rw [← hi2, ed]
          refine J.iload_n 106 dX8_number_106 rfl rfl ?_
          refine J.bipush 107 (nI 48) dX8_number_107 (by decide +kernel) ?_
          refine J.bipush 109 (nI 57) dX8_number_109 (by decide +kernel) ?_
          refine V.callsP 111 dX8_number_111 ml_RX8_32 mi_yX8_in ms_yX8_in (c_X8_in w _ _ _ _) rfl rfl (Nat.le_of_ble_eq_true rfl) (by decide) (by decide) ?_
          refine V.if_neB 114 129 dX8_number_114 (by decide) (fun c114 => ?_) (fun c114 => ?_)
          · refine J.aload_n 129 dX8_number_129 rfl rfl ?_
            refine V.getI 130 dX8_number_130 fl_RX8_51 i_178_11 ?_
            refine J.top (b := nI p) (by rw [up2_o _ _ (by omega), up2_self]) ?_
            refine J.aload_n 133 dX8_number_133 rfl rfl ?_
            refine V.getI 134 dX8_number_134 fl_RX8_58 i_178_14 ?_
            refine J.top (b := nI fr) (up2_self _ _ _ _) ?_
            refine V.isub 137 dX8_number_137 (by omega) ?_
            refine J.iconst 138 (nI 4) dX8_number_138 (by decide +kernel) ?_
            refine V.icmp_gt 139 152 dX8_number_139 (by decide) (by omega) (by omega) (fun c139 => ?_) (fun c139 => ?_)
            · have eK : nuK (v 180) s fr lo hi = 2 := by unfold nuK; rw [if_neg (fun z => z c114), if_pos (Or.inl (by rw [eE]; exact c139))]
              refine J.aload_n 152 dX8_number_152 rfl rfl ?_
              refine J.iconst 153 (nI 2) dX8_number_153 (by decide +kernel) ?_
              refine J.aload_n 154 dX8_number_154 rfl rfl ?_
              refine V.getI 155 dX8_number_155 fl_RX8_58 i_178_14 ?_
              refine J.top (b := nI fr) (up2_self _ _ _ _) ?_
              refine V.callvU 158 dX8_number_158 ml_RX8_61 mi_yX8_fail mv_yX8_fail (k_fail w _ (by rw [up2_o _ _ (by omega), up2_o _ _ (by omega)]; exact hw0)) rfl rfl (Nat.le_of_ble_eq_true rfl) (by decide) (by decide) o_178 rfl rfl (fun v158 h158 => ?_)
              subst h158
              refine J.iload 161 dX8_number_161 rfl ?_
              exact V.iret 163 dX8_number_163 (⟨by rw [← hfr, eV], by unfold nuU; rw [← hfr, eE, eK]; rfl⟩)
            · refine J.iload 142 dX8_number_142 rfl ?_
              refine J.iload_n 144 dX8_number_144 rfl rfl ?_
              refine J.iload_n 145 dX8_number_145 rfl rfl ?_
              refine V.callsP 146 dX8_number_146 ml_RX8_32 mi_yX8_in ms_yX8_in (c_X8_in w _ _ _ _) rfl rfl (Nat.le_of_ble_eq_true rfl) (by decide) (by decide) ?_
              refine V.if_neB 149 161 dX8_number_149 (by decide) (fun c149 => ?_) (fun c149 => ?_)
              · have eK : nuK (v 180) s fr lo hi = 0 := by unfold nuK; rw [if_neg (fun z => z c114), if_neg (fun z => z.elim (fun z => by rw [eE] at z; omega) (fun z => z (by rw [eV]; exact c149)))]
                refine J.iload 161 dX8_number_161 rfl ?_
                exact V.iret 163 dX8_number_163 (⟨by rw [← hfr, eV], by unfold nuU; rw [← hfr, eE, eK]; rfl⟩)
              · have eK : nuK (v 180) s fr lo hi = 2 := by unfold nuK; rw [if_neg (fun z => z c114), if_pos (Or.inr (fun z => c149 (by rw [eV] at z; exact z)))]
                refine J.aload_n 152 dX8_number_152 rfl rfl ?_
                refine J.iconst 153 (nI 2) dX8_number_153 (by decide +kernel) ?_
                refine J.aload_n 154 dX8_number_154 rfl rfl ?_
                refine V.getI 155 dX8_number_155 fl_RX8_58 i_178_14 ?_
                refine J.top (b := nI fr) (up2_self _ _ _ _) ?_
                refine V.callvU 158 dX8_number_158 ml_RX8_61 mi_yX8_fail mv_yX8_fail (k_fail w _ (by rw [up2_o _ _ (by omega), up2_o _ _ (by omega)]; exact hw0)) rfl rfl (Nat.le_of_ble_eq_true rfl) (by decide) (by decide) o_178 rfl rfl (fun v158 h158 => ?_)
                subst h158
                refine J.iload 161 dX8_number_161 rfl ?_
                exact V.iret 163 dX8_number_163 (⟨by rw [← hfr, eV], by unfold nuU; rw [← hfr, eE, eK]; rfl⟩)
          · refine J.aload_n 117 dX8_number_117 rfl rfl ?_
            refine J.iconst 118 (nI 1) dX8_number_118 (by decide +kernel) ?_
            refine J.aload_n 119 dX8_number_119 rfl rfl ?_
            refine V.getI 120 dX8_number_120 fl_RX8_58 i_178_14 ?_
            refine J.top (b := nI fr) (up2_self _ _ _ _) ?_
            refine V.callvU 123 dX8_number_123 ml_RX8_61 mi_yX8_fail mv_yX8_fail (k_fail w _ (by rw [up2_o _ _ (by omega), up2_o _ _ (by omega)]; exact hw0)) rfl rfl (Nat.le_of_ble_eq_true rfl) (by decide) (by decide) o_178 rfl rfl (fun v123 h123 => ?_)
            subst h123
            have eK : nuK (v 180) s fr lo hi = 1 := if_pos c114
            refine J.goto 126 161 dX8_number_126 (by decide) ?_
            refine J.iload 161 dX8_number_161 rfl ?_
            exact V.iret 163 dX8_number_163 (⟨by rw [← hfr, eV], by unfold nuU; rw [← hfr, eE, eK]; rfl⟩)
        · refine J.aload_n 55 dX8_number_55 rfl rfl ?_
          refine V.getI 56 dX8_number_56 fl_RX8_51 i_178_11 ?_
          refine J.top (b := nI p) (by rw [up2_o _ _ (by omega), up2_self]) ?_
          refine J.aload_n 59 dX8_number_59 rfl rfl ?_
          refine V.getI 60 dX8_number_60 fl_RX8_58 i_178_14 ?_
          refine J.top (b := nI fr) (up2_self _ _ _ _) ?_
          refine V.isub 63 dX8_number_63 (by omega) ?_
          refine J.iconst 64 (nI 4) dX8_number_64 (by decide +kernel) ?_
          refine V.icmp_ge 65 89 dX8_number_65 (by decide) (by omega) (by omega) (fun c65 => ?_) (fun c65 => ?_)
          · have ex : (if p - fr < 4 then nI 10 * x + v 180 p - nI 48 else x) = x := if_neg (by omega)
            refine J.iload 89 dX8_number_89 rfl ?_
            refine J.istore 91 dX8_number_91 (by decide) ?_
            refine J.aload_n 93 dX8_number_93 rfl rfl ?_
            refine J.dup 94 dX8_number_94 rfl ?_
            refine V.getI 95 dX8_number_95 fl_RX8_51 i_178_11 ?_
            refine J.top (b := nI p) (by rw [up2_o _ _ (by omega), up2_self]) ?_
            refine J.iconst 98 (nI 1) dX8_number_98 (by decide +kernel) ?_
            refine V.iadd 99 dX8_number_99 ?_
            refine V.putI 100 dX8_number_100 fl_RX8_51 fp_8_11 i_178_11 ?_
            refine V.heapv (v' := up2 (up2 v 178 11 (nI (p + 1))) 178 14 (nI fr)) (by rw [up2_cm _ _ _ (by decide), up2_up2]) ?_
            refine J.goto 103 25 dX8_number_103 (by decide) ?_
            exact ih (p + 1) _ (by omega) (by omega) (by rw [← hi2, dg_y c33 c52, ex]) (by omega)
          · have ex : (if p - fr < 4 then nI 10 * x + v 180 p - nI 48 else x) = nI 10 * x + v 180 p - nI 48 := if_pos c65
            refine J.bipush 68 (nI 10) dX8_number_68 (by decide +kernel) ?_
            refine J.iload 70 dX8_number_70 rfl ?_
            refine J.imul 72 dX8_number_72 ?_
            refine J.aload_n 73 dX8_number_73 rfl rfl ?_
            refine V.getR 74 dX8_number_74 fl_RX8_13 r_178_3 ?_
            refine J.aload_n 77 dX8_number_77 rfl rfl ?_
            refine V.getI 78 dX8_number_78 fl_RX8_51 i_178_11 ?_
            refine J.top (b := nI p) (by rw [up2_o _ _ (by omega), up2_self]) ?_
            refine V.iald 81 dX8_number_81 a_180 (by omega) ?_
            refine J.top (b := v 180 p) (by rw [up2_o _ _ (by omega), up2_o _ _ (by omega)]) ?_
            refine J.iadd 82 dX8_number_82 ?_
            refine J.bipush 83 (nI 48) dX8_number_83 (by decide +kernel) ?_
            refine J.isub 85 dX8_number_85 ?_
            refine J.goto 86 91 dX8_number_86 (by decide) ?_
            refine J.istore 91 dX8_number_91 (by decide) ?_
            refine J.aload_n 93 dX8_number_93 rfl rfl ?_
            refine J.dup 94 dX8_number_94 rfl ?_
            refine V.getI 95 dX8_number_95 fl_RX8_51 i_178_11 ?_
            refine J.top (b := nI p) (by rw [up2_o _ _ (by omega), up2_self]) ?_
            refine J.iconst 98 (nI 1) dX8_number_98 (by decide +kernel) ?_
            refine V.iadd 99 dX8_number_99 ?_
            refine V.putI 100 dX8_number_100 fl_RX8_51 fp_8_11 i_178_11 ?_
            refine V.heapv (v' := up2 (up2 v 178 11 (nI (p + 1))) 178 14 (nI fr)) (by rw [up2_cm _ _ _ (by decide), up2_up2]) ?_
            refine J.goto 103 25 dX8_number_103 (by decide) ?_
            exact ih (p + 1) _ (by omega) (by omega) (by rw [← hi2, dg_y c33 c52, ex]) (by omega)
  refine J.aload_n 0 dX8_number_0 rfl rfl ?_
  refine V.callvP 1 dX8_number_1 ml_RX8_44 mi_yX8_fine mv_yX8_fine (c_X8_fine w _) rfl rfl (Nat.le_of_ble_eq_true rfl) (by decide) (by decide) o_178 rfl rfl ?_
  refine V.if_neB 4 9 dX8_number_4 (by decide) (fun c4 => ?_) (fun c4 => absurd hw0 c4)
  refine J.aload_n 9 dX8_number_9 rfl rfl ?_
  refine V.callv 10 dX8_number_10 ml_RX8_54 mi_yX8_here mv_yX8_here (c_X8_here w _ ha0 hs0 (by omega) hs) rfl rfl (Nat.le_of_ble_eq_true rfl) (by decide) (by decide) o_178 rfl rfl (fun r10 v10 h10 => ?_)
  obtain ⟨rfl, rfl⟩ := h10
  rw [← hfr]
  refine J.istore_n 13 dX8_number_13 rfl (by decide) ?_
  refine J.aload_n 14 dX8_number_14 rfl rfl ?_
  refine J.aload_n 15 dX8_number_15 rfl rfl ?_
  refine V.getI 16 dX8_number_16 fl_RX8_51 i_178_11 ?_
  refine J.top (b := nI fr) (up2_self _ _ _ _) ?_
  refine V.putI 19 dX8_number_19 fl_RX8_58 fp_8_14 i_178_14 ?_
  refine J.iconst 22 (nI 0) dX8_number_22 (by decide +kernel) ?_
  refine J.istore 23 dX8_number_23 (by decide) ?_
  have q := lp (s + 1) fr (nI 0) (by omega) (by omega) rfl (by omega)
  rw [← hfr] at q
  exact q
