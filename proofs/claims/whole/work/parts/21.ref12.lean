/-! ===== part 21: the reference's clocks() ===== -/
def paF (t : Nat → Int32) (s : Nat) : Nat → Nat → (Nat → Int32) → Nat → Nat → (Nat × Nat) ⊕ (Nat → Int32)
  | 0, _, ρ, _, _ => .inr ρ
  | m + 1, a, ρ, tf, ts => if skp t s a < s then (match clR t s (skp t s a) ρ (ρ 0).toNatClampNeg tf ts with
    | .inl e => .inl e
    | .inr (a1, ρ1, tf1, ts1) => paF t s m a1 ρ1 tf1 ts1) else .inr ρ
def rw0 : Nat → Int32 := fun k => if k = 2 then nI 10 else 0
def pa (t : Nat → Int32) (s : Nat) : (Nat × Nat) ⊕ (Nat → Int32) := paF t s (s + 1) 0 rw0 0 0
/-- what a text that is read so far has told -/
def Wp (ρ : Nat → Int32) (n : Nat) : Prop := ρ 0 = nI n ∧ n ≤ 8 ∧ (∃ f, f ≤ 3 ∧ ρ 1 = nI f) ∧ (∃ st, st ≤ 80 ∧ ρ 2 = nI st) ∧ (∀ c, c < n → (∃ x, x ≤ 9999 ∧ ρ (3 + c) = nI x) ∧ ∃ r, 90 ≤ r ∧ r ≤ 110 ∧ ρ (11 + c) = nI r) ∧ (∀ c, c < 8 → ρ (27 + c) = 0 ∨ (ρ (27 + c) = nI 1 ∧ c < n)) ∧ ∀ k, (19 ≤ k ∧ k < 27) ∨ (35 ≤ k ∧ k < 192) → ρ k = 0
theorem inF_nI {x : Int32} {a b : Nat} (ha : a < 2 ^ 31) (hb : b < 2 ^ 31) (h : inF x (nI a) (nI b)) : ∃ y, a ≤ y ∧ y ≤ b ∧ x = nI y := by
  have h1 := Int32.le_iff_toInt_le.mp h.1
  have h2 := Int32.le_iff_toInt_le.mp h.2
  have e2 := nI_toInt hb
  have e1 := nI_toInt ha
  obtain ⟨j, hj, e⟩ := nI_of (x := x) (fun q => by
    have := Int32.lt_iff_toInt_lt.mp q
    have h0 : (0 : Int32).toInt = 0 := by decide
    omega)
  have e3 := nI_toInt hj
  rw [← e] at e3
  exact ⟨j, by omega, by omega, e⟩
theorem Wp.n {ρ : Nat → Int32} {n : Nat} (h : Wp ρ n) : (ρ 0).toNatClampNeg = n := by
  rw [h.1]
  have := h.2.1
  exact nI_clamp (by omega)
theorem numS_r {t : Nat → Int32} {s a : Nat} {lo hi : Int32} {k : Int32 → Nat → PR} {q : Nat × (Nat → Int32) × Nat × Nat} (h : numS t s a lo hi k = .inr q) : inF (nuV t s (skp t s a)) lo hi ∧ k (nuV t s (skp t s a)) (nuE t s (skp t s a)) = .inr q := by
  unfold numS at h
  split at h
  · rename_i e
    exact ⟨nuK_in e, h⟩
  · cases h
/-- a clause that is read: it goes on behind itself, and keeps what a row must be -/
theorem clM_ok {t : Nat → Int32} {s a n tf ts a1 tf1 ts1 : Nat} {ρ ρ1 : Nat → Int32} (ha : a < s) (hW : Wp ρ n) (htf : tf ≤ 1) (hts : ts ≤ 1) (h : clM t s a ρ n tf ts = .inr (a1, ρ1, tf1, ts1)) : a < a1 ∧ a1 ≤ s ∧ tf1 ≤ 1 ∧ ts1 ≤ 1 ∧ ∃ n1, Wp ρ1 n1 := by
  have hle := clM_le ha h
  obtain ⟨w0, w1, w2, w3, w4, w5, w6⟩ := id hW
  unfold clM at h
  split at h
  · unfold clK at h
    split at h
    · cases h
    · rename_i hn8
      obtain ⟨hv1, h⟩ := numS_r h
      have b1 := nuE_in (t := t) (show a + 1 ≤ s by omega)
      obtain ⟨hv2, h⟩ := numS_r h
      have b2 := nuE_in (t := t) b1.1
      obtain ⟨x1, -, hx1, ex1⟩ := inF_nI (by decide) (by decide) hv1
      obtain ⟨x2, hx2, hx2', ex2⟩ := inF_nI (by decide) (by decide) hv2
      cases h
      refine ⟨by omega, hle, htf, hts, n + 1, upd_self _ _ _, by omega, ?_, ?_, ?_, ?_, ?_⟩
      · obtain ⟨f, hf, e⟩ := w2
        exact ⟨f, hf, by rw [upd_ne _ _ (by omega), upd_ne _ _ (by omega), upd_ne _ _ (by omega)]; exact e⟩
      · obtain ⟨f, hf, e⟩ := w3
        exact ⟨f, hf, by rw [upd_ne _ _ (by omega), upd_ne _ _ (by omega), upd_ne _ _ (by omega)]; exact e⟩
      · intro c hc
        by_cases hcn : c = n
        · subst hcn
          exact ⟨⟨x1, hx1, by rw [upd_ne _ _ (by omega), upd_ne _ _ (by omega), upd_self]; exact ex1⟩, ⟨x2, hx2, hx2', by rw [upd_ne _ _ (by omega), upd_self]; exact ex2⟩⟩
        · obtain ⟨⟨y, hy, e⟩, ⟨r, hr, hr', e'⟩⟩ := w4 c (by omega)
          exact ⟨⟨y, hy, by rw [upd_ne _ _ (by omega), upd_ne _ _ (by omega), upd_ne _ _ (by omega)]; exact e⟩, ⟨r, hr, hr', by rw [upd_ne _ _ (by omega), upd_ne _ _ (by omega), upd_ne _ _ (by omega)]; exact e'⟩⟩
      · intro c hc
        rw [upd_ne _ _ (by omega), upd_ne _ _ (by omega), upd_ne _ _ (by omega)]
        rcases w5 c hc with e | ⟨e, hcn⟩
        · exact Or.inl e
        · exact Or.inr ⟨e, by omega⟩
      · intro k hk
        rw [upd_ne _ _ (by omega), upd_ne _ _ (by omega), upd_ne _ _ (by omega)]
        exact w6 k hk
  · unfold clO at h
    split at h
    · cases h
    · split at h
      · obtain ⟨hv1, h⟩ := numS_r h
        have b1 := nuE_in (t := t) (show a + 1 ≤ s by omega)
        obtain ⟨x1, -, hx1, ex1⟩ := inF_nI (by decide) (by decide) hv1
        cases h
        refine ⟨by omega, hle, by decide, hts, n, ?_, w1, ⟨x1, hx1, by rw [upd_self]; exact ex1⟩, ?_, ?_, ?_, ?_⟩
        · rw [upd_ne _ _ (by omega)]; exact w0
        · obtain ⟨f, hf, e⟩ := w3
          exact ⟨f, hf, by rw [upd_ne _ _ (by omega)]; exact e⟩
        · intro c hc
          rw [upd_ne _ _ (by omega), upd_ne _ _ (by omega)]
          exact w4 c hc
        · intro c hc
          rw [upd_ne _ _ (by omega)]
          exact w5 c hc
        · intro k hk
          rw [upd_ne _ _ (by omega)]
          exact w6 k hk
      · split at h
        · obtain ⟨hv1, h⟩ := numS_r h
          have b1 := nuE_in (t := t) (show a + 1 ≤ s by omega)
          obtain ⟨x1, -, hx1, ex1⟩ := inF_nI (by decide) (by decide) hv1
          cases h
          refine ⟨by omega, hle, htf, by decide, n, ?_, w1, ?_, ⟨x1, hx1, by rw [upd_self]; exact ex1⟩, ?_, ?_, ?_⟩
          · rw [upd_ne _ _ (by omega)]; exact w0
          · obtain ⟨f, hf, e⟩ := w2
            exact ⟨f, hf, by rw [upd_ne _ _ (by omega)]; exact e⟩
          · intro c hc
            rw [upd_ne _ _ (by omega), upd_ne _ _ (by omega)]
            exact w4 c hc
          · intro c hc
            rw [upd_ne _ _ (by omega)]
            exact w5 c hc
          · intro k hk
            rw [upd_ne _ _ (by omega)]
            exact w6 k hk
        · split at h
          · obtain ⟨hv1, h⟩ := numS_r h
            have b1 := nuE_in (t := t) (show a + 1 ≤ s by omega)
            obtain ⟨c1, hc1, ec⟩ := (clkB_nI (n := n) (by omega)).mp ((inF_clk (by omega)).mp hv1)
            rw [ec, nI_clamp (by omega)] at h
            split at h
            · cases h
            · cases h
              refine ⟨by omega, hle, htf, hts, n, ?_, w1, ?_, ?_, ?_, ?_, ?_⟩
              · rw [upd_ne _ _ (by omega)]; exact w0
              · obtain ⟨f, hf, e⟩ := w2
                exact ⟨f, hf, by rw [upd_ne _ _ (by omega)]; exact e⟩
              · obtain ⟨f, hf, e⟩ := w3
                exact ⟨f, hf, by rw [upd_ne _ _ (by omega)]; exact e⟩
              · intro c hc
                rw [upd_ne _ _ (by omega), upd_ne _ _ (by omega)]
                exact w4 c hc
              · intro c hc
                by_cases hcc : c = c1
                · subst hcc
                  exact Or.inr ⟨upd_self _ _ _, hc1⟩
                · rw [upd_ne _ _ (by omega)]
                  exact w5 c hc
              · intro k hk
                rw [upd_ne _ _ (by omega)]
                exact w6 k hk
          · cases h
theorem clR_ok {t : Nat → Int32} {s a n tf ts a1 tf1 ts1 : Nat} {ρ ρ1 : Nat → Int32} (ha : a < s) (hW : Wp ρ n) (htf : tf ≤ 1) (hts : ts ≤ 1) (h : clR t s a ρ n tf ts = .inr (a1, ρ1, tf1, ts1)) : a < a1 ∧ a1 ≤ s ∧ tf1 ≤ 1 ∧ ts1 ≤ 1 ∧ ∃ n1, Wp ρ1 n1 := by
  unfold clR at h
  split at h
  · cases h
  · rename_i a2 ρ2 tf2 ts2 hM
    obtain ⟨g1, g2, g3, g4, g5⟩ := clM_ok ha hW htf hts hM
    have hk := skp_in (t := t) g2
    unfold semi at h
    split at h
    · rename_i e
      cases h
      have : skp t s a2 < s := by
        rcases Nat.lt_or_ge (skp t s a2) s with q | q
        · exact q
        · rw [show ltr t s (skp t s a2) = nI 0 from if_neg (by omega)] at e
          exact absurd e (by decide)
      exact ⟨by omega, by omega, g3, g4, g5⟩
    · cases h
theorem Wp_rw0 : Wp rw0 0 := ⟨rfl, by decide, ⟨0, by decide, rfl⟩, ⟨10, by decide, rfl⟩, fun c hc => absurd hc (by omega), fun c hc => Or.inl (by simp [rw0]; omega), fun k hk => by simp [rw0]; omega⟩
/-- equal but for what the reference uses in passing -/
def EqR (u v : Vm2) : Prop := (∀ c, c ≠ 178 → c ≠ 179 → c ≠ 183 → c ≠ 184 → u c = v c) ∧ (∀ b, b < 3648 → u 179 b = v 179 b) ∧ ∀ i, i < 11 → u 178 i = v 178 i
def clW (v : Vm2) (ρ : Nat → Int32) : Vm2 := up2 (up2 (up2 (up2 (up2 (upR v 179 (fun b => if b < 191 then ρ b else v 179 b)) 178 5 (-1)) 178 4 (nI 0)) 178 1 (nI 0)) 178 2 (nI 0)) 178 8 (nI 0)
def clF (v : Vm2) (s : Nat) : Vm2 := match pa (v 180) s with
  | .inl (_, p) => up2 (up2 v 178 5 (nI p)) 178 4 (nI 0)
  | .inr ρ => clW v ρ
def clX (v : Vm2) (s : Nat) : Int32 := match pa (v 180) s with
  | .inl (k, _) => -10 - nI k
  | .inr ρ => ρ 0

def zrK (v : Vm2) (k : Nat) : Vm2 := fun a b => if a = 179 ∧ 3648 ≤ b ∧ b < 3648 + k then 0 else v a b
theorem zrK_0 (v : Vm2) : v = zrK v 0 := by
  funext a b
  simp only [zrK]
  rw [if_neg (by omega)]
theorem zrK_s (v : Vm2) (k : Nat) : up2 (zrK v k) 179 (3648 + k) (nI 0) = zrK v (k + 1) := by
  funext a b
  simp only [up2, zrK]
  by_cases h : a = 179 ∧ b = 3648 + k
  · rw [if_pos h, if_pos (by omega)]
    rfl
  · rw [if_neg h]
    by_cases h2 : a = 179 ∧ 3648 ≤ b ∧ b < 3648 + k
    · rw [if_pos h2, if_pos (by omega)]
    · rw [if_neg h2, if_neg (by omega)]
theorem Gd_start (v : Vm2) : Gd (up2 v 178 5 (-1)) (up2 (zrK (up2 (up2 (up2 (up2 (up2 v 178 11 (nI 0)) 178 12 (nI 0)) 178 5 (-1)) 178 15 (nI 0)) 178 16 (nI 0)) 192) 179 3650 (nI 10)) 0 rw0 0 0 := by
  refine ⟨fun c c1 c2 => ?_, fun b hb => ?_, fun i hi => ?_, fun k hk => ?_, ?_, ?_, ?_, ?_⟩
  · rw [up2_ne _ _ _ c2]
    funext b
    simp only [zrK]
    rw [if_neg (by omega), up2_ne _ _ _ c1, up2_ne _ _ _ c1, up2_ne _ _ _ c1, up2_ne _ _ _ c1, up2_ne _ _ _ c1, up2_ne _ _ _ c1]
  · simp only [up2, zrK]
    rw [if_neg (by omega), if_neg (by omega), if_neg (by omega), if_neg (by omega), if_neg (by omega), if_neg (by omega), if_neg (by omega), if_neg (by omega)]
  · simp only [up2, zrK]
    rw [if_neg (by omega), if_neg (by omega), if_neg (by omega), if_neg (by omega)]
    by_cases h : i = 5
    · subst h
      simp
    · simp [h, show ¬ i = 11 by omega, show ¬ i = 12 by omega]
  · show (if (179 : Nat) = 179 ∧ 3648 + k = 3650 then _ else if (179 : Nat) = 179 ∧ 3648 ≤ 3648 + k ∧ 3648 + k < 3648 + 192 then _ else _) = (if k = 2 then _ else _)
    by_cases h : k = 2
    · subst h
      simp
    · rw [if_neg (show ¬ (179 = 179 ∧ 3648 + k = 3650) by omega), if_pos (show 179 = 179 ∧ 3648 ≤ 3648 + k ∧ 3648 + k < 3648 + 192 by omega), if_neg h]
  · simp [up2, zrK]
  · simp [up2, zrK]; rfl
  · simp [up2, zrK]
  · simp [up2, zrK]
theorem EqR_bad {v u : Vm2} {s k p : Nat} (hB : Bd (up2 v 178 5 (-1)) u s k p) : EqR (up2 (up2 u 178 4 (nI 0)) 178 5 (nI p)) (up2 (up2 v 178 5 (nI p)) 178 4 (nI 0)) := by
  obtain ⟨h1, h2, h3, -⟩ := hB
  refine ⟨fun c c1 c2 c3 c4 => ?_, fun b hb => ?_, fun i hi => ?_⟩
  · rw [up2_ne _ _ _ c1, up2_ne _ _ _ c1, up2_ne _ _ _ c1, up2_ne _ _ _ c1, h1 c c1 c2, up2_ne _ _ _ c1]
  · rw [up2_o _ _ (by omega), up2_o _ _ (by omega), up2_o _ _ (by omega), up2_o _ _ (by omega), h2 b hb, up2_o _ _ (by omega)]
  · by_cases e1 : i = 5
    · subst e1
      simp [up2]
    · by_cases e2 : i = 4
      · subst e2
        simp [up2]
      · rw [up2_o _ _ (by omega), up2_o _ _ (by omega), up2_o _ _ (by omega), up2_o _ _ (by omega), h3 i hi, up2_o _ _ (by omega)]
theorem clK_0 {v u : Vm2} {a tf ts : Nat} {ρ : Nat → Int32} (hG : Gd (up2 v 178 5 (-1)) u a ρ tf ts) : up2 (up2 (up2 (cpR (up2 (up2 u 178 4 (nI 0)) 179 3839 (v 179 191)) 3648 0) 178 1 (nI 0)) 178 2 (nI 0)) 178 8 (nI 0) 179 0 = ρ 0 := by
  rw [up2_o _ _ (by omega), up2_o _ _ (by omega), up2_o _ _ (by omega)]
  show (if (179 : Nat) = 179 ∧ 0 ≤ 0 ∧ 0 < 0 + 192 then _ else _) = _
  rw [if_pos (by decide), up2_o _ _ (by omega), up2_o _ _ (by omega)]
  exact hG.2.2.2.1 0 (by decide)
theorem EqR_good {v u : Vm2} {a tf ts : Nat} {ρ : Nat → Int32} (hG : Gd (up2 v 178 5 (-1)) u a ρ tf ts) : EqR (up2 (up2 (up2 (cpR (up2 (up2 u 178 4 (nI 0)) 179 3839 (v 179 191)) 3648 0) 178 1 (nI 0)) 178 2 (nI 0)) 178 8 (nI 0)) (clW v ρ) := by
  obtain ⟨h1, h2, h3, h4, -⟩ := hG
  unfold clW
  refine ⟨fun c c1 c2 c3 c4 => ?_, fun b hb => ?_, fun i hi => ?_⟩
  · rw [up2_ne _ _ _ c1, up2_ne _ _ _ c1, up2_ne _ _ _ c1, up2_ne _ _ _ c1, up2_ne _ _ _ c1, up2_ne _ _ _ c1, up2_ne _ _ _ c1, up2_ne _ _ _ c1, upR_ne _ _ c2]
    funext b
    simp only [cpK]
    rw [if_neg (by omega), up2_ne _ _ _ c2, up2_ne _ _ _ c1, h1 c c1 c2, up2_ne _ _ _ c1]
  · rw [up2_o _ _ (by omega), up2_o _ _ (by omega), up2_o _ _ (by omega), up2_o _ _ (by omega), up2_o _ _ (by omega), up2_o _ _ (by omega), up2_o _ _ (by omega), up2_o _ _ (by omega), upR_self]
    show (if (179 : Nat) = 179 ∧ 0 ≤ b ∧ b < 0 + 192 then _ else _) = _
    by_cases hb1 : b < 192
    · rw [if_pos (show (179 : Nat) = 179 ∧ 0 ≤ b ∧ b < 0 + 192 by omega)]
      by_cases hb2 : b = 191
      · subst hb2
        simp [up2]
      · rw [up2_o _ _ (by omega), up2_o _ _ (by omega), if_pos (by omega), show 3648 + (b - 0) = 3648 + b by omega, h4 b hb1]
    · rw [if_neg (by omega), up2_o _ _ (by omega), up2_o _ _ (by omega), if_neg (by omega), h2 b hb, up2_o _ _ (by omega)]
  · have e : i = 8 ∨ i = 2 ∨ i = 1 ∨ i = 4 ∨ i = 5 ∨ (i ≠ 8 ∧ i ≠ 2 ∧ i ≠ 1 ∧ i ≠ 4 ∧ i ≠ 5) := by omega
    rcases e with rfl | rfl | rfl | rfl | rfl | e
    · simp [up2]
    · simp [up2]
    · simp [up2]
    · simp [up2, cpK]
    · have h5 := h3 5 (by decide)
      rw [up2_self] at h5
      simp [up2, cpK]
      exact h5
    · have h5 := h3 i hi
      rw [up2_o _ _ (by omega)] at h5
      rw [up2_o _ _ (by omega), up2_o _ _ (by omega), up2_o _ _ (by omega), up2_o _ _ (by omega), up2_o _ _ (by omega), up2_o _ _ (by omega), up2_o _ _ (by omega), up2_o _ _ (by omega), upR_ne _ _ (by decide)]
      simp only [cpK]
      rw [if_neg (by omega), up2_o _ _ (by omega), up2_o _ _ (by omega)]
      exact h5
theorem skp_hi (t : Nat → Int32) (s a : Nat) : skp t s a ≤ s + 1 ∨ skp t s a = a := by
  rcases Nat.lt_or_ge s a with h | h
  · exact Or.inr (skp_n (by omega))
  · have := skp_in (t := t) h
    exact Or.inl (by omega)
set_option maxHeartbeats 4000000 in
set_option maxRecDepth 100000 in
theorem c_X8_clocks (w : Wd) (v : Vm2) {s : Nat} (hs0 : v 178 4 = nI s) (hs : s ≤ 200) : CI w yX8_clocks cX8_clocks 2 (some .int) (rm 5 112) [.ref (wN w + 178)] v (fun r v' => r = clX v s ∧ EqR v' (clF v s)) := by
  refine CI.of (by decide) (Nat.le_of_ble_eq_true rfl) ?_
  have hs1 : (up2 v 178 5 (-1)) 178 4 = nI s := (up2_o _ _ (by omega)).trans hs0
  have h180 : (up2 v 178 5 (-1)) 180 = v 180 := up2_ne _ _ _ (by decide)
  have KB : ∀ (u : Vm2) (x : Int32) (k p : Nat), Bd (up2 v 178 5 (-1)) u s k p → pa (v 180) s = .inl (k, p) → J w yX8_clocks cX8_clocks 2 (some .int) (rm 5 112) XT (ZJ w 185 0 0 (PI w (fun r v' => r = clX v s ∧ EqR v' (clF v s)))) 66 [(0, .ref (wN w + 178)), (1, .int x)] [] 185 (hv w (u)) 0 0 := by
    intro u x k p hB hp
    refine J.aload_n 66 dX8_clocks_66 rfl rfl ?_
    refine V.callvP 67 dX8_clocks_67 ml_RX8_44 mi_yX8_fine mv_yX8_fine (c_X8_fine w _) rfl rfl (Nat.le_of_ble_eq_true rfl) (by decide) (by decide) o_178 rfl rfl ?_
    refine V.if_eqB 70 96 dX8_clocks_70 (by decide) (fun c70 => ?_) (fun c70 => absurd c70 hB.w0)
    refine J.aload_n 96 dX8_clocks_96 rfl rfl ?_
    refine J.iconst 97 (nI 0) dX8_clocks_97 (by decide +kernel) ?_
    refine V.putI 98 dX8_clocks_98 fl_RX8_37 fp_8_4 i_178_4 ?_
    refine J.aload_n 101 dX8_clocks_101 rfl rfl ?_
    refine V.callvP 102 dX8_clocks_102 ml_RX8_44 mi_yX8_fine mv_yX8_fine (c_X8_fine w _) rfl rfl (Nat.le_of_ble_eq_true rfl) (by decide) (by decide) o_178 rfl rfl ?_
    refine V.if_neB 105 124 dX8_clocks_105 (by decide) (fun c105 => absurd (show up2 u 178 4 (nI 0) 178 12 = 0 from c105) (by rw [up2_o _ _ (by omega)]; exact hB.w0)) (fun c105 => ?_)
    refine J.aload_n 108 dX8_clocks_108 rfl rfl ?_
    refine J.aload_n 109 dX8_clocks_109 rfl rfl ?_
    refine V.getI 110 dX8_clocks_110 fl_RX8_48 i_178_13 ?_
    refine J.top (b := nI p) ((up2_o _ _ (by omega)).trans hB.2.2.2.2.1) ?_
    refine V.putI 113 dX8_clocks_113 fl_RX8_16 fp_8_5 i_178_5 ?_
    refine J.bipush 116 (-10) dX8_clocks_116 (by decide +kernel) ?_
    refine J.aload_n 118 dX8_clocks_118 rfl rfl ?_
    refine V.getI 119 dX8_clocks_119 fl_RX8_41 i_178_12 ?_
    refine J.top (b := nI k) (by rw [up2_o _ _ (by omega), up2_o _ _ (by omega)]; exact hB.2.2.2.1) ?_
    refine J.isub 122 dX8_clocks_122 ?_
    exact V.iret 123 dX8_clocks_123 (⟨by unfold clX; rw [hp], by unfold clF; rw [hp]; exact EqR_bad hB⟩)
  have KG : ∀ (u : Vm2) (x : Int32) (ρ : Nat → Int32) (a n tf ts : Nat), Gd (up2 v 178 5 (-1)) u a ρ tf ts → a = s → Wp ρ n → pa (v 180) s = .inr ρ → J w yX8_clocks cX8_clocks 2 (some .int) (rm 5 112) XT (ZJ w 185 0 0 (PI w (fun r v' => r = clX v s ∧ EqR v' (clF v s)))) 66 [(0, .ref (wN w + 178)), (1, .int x)] [] 185 (hv w (u)) 0 0 := by
    intro u x ρ a n tf ts hG has hW hp
    refine J.aload_n 66 dX8_clocks_66 rfl rfl ?_
    refine V.callvP 67 dX8_clocks_67 ml_RX8_44 mi_yX8_fine mv_yX8_fine (c_X8_fine w _) rfl rfl (Nat.le_of_ble_eq_true rfl) (by decide) (by decide) o_178 rfl rfl ?_
    refine V.if_eqB 70 96 dX8_clocks_70 (by decide) (fun c70 => absurd hG.2.2.2.2.2.1 c70) (fun c70 => ?_)
    refine J.aload_n 73 dX8_clocks_73 rfl rfl ?_
    refine V.getI 74 dX8_clocks_74 fl_RX8_51 i_178_11 ?_
    refine J.top hG.2.2.2.2.1 ?_
    refine J.aload_n 77 dX8_clocks_77 rfl rfl ?_
    refine V.getI 78 dX8_clocks_78 fl_RX8_37 i_178_4 ?_
    refine J.top ((hG.2.2.1 4 (by decide)).trans hs1) ?_
    refine V.icmp_ge 81 96 dX8_clocks_81 (by decide) (by omega) (by omega) (fun c81 => ?_) (fun c81 => absurd c81 (by omega))
    refine J.aload_n 96 dX8_clocks_96 rfl rfl ?_
    refine J.iconst 97 (nI 0) dX8_clocks_97 (by decide +kernel) ?_
    refine V.putI 98 dX8_clocks_98 fl_RX8_37 fp_8_4 i_178_4 ?_
    refine J.aload_n 101 dX8_clocks_101 rfl rfl ?_
    refine V.callvP 102 dX8_clocks_102 ml_RX8_44 mi_yX8_fine mv_yX8_fine (c_X8_fine w _) rfl rfl (Nat.le_of_ble_eq_true rfl) (by decide) (by decide) o_178 rfl rfl ?_
    refine V.if_neB 105 124 dX8_clocks_105 (by decide) (fun c105 => ?_) (fun c105 => absurd ((up2_o _ _ (by omega)).trans hG.2.2.2.2.2.1) c105)
    refine J.aload_n 124 dX8_clocks_124 rfl rfl ?_
    refine V.getR 125 dX8_clocks_125 fl_RX8_7 r_178_0 ?_
    refine J.sipush 128 (nI 3839) dX8_clocks_128 (by decide +kernel) ?_
    refine J.aload_n 131 dX8_clocks_131 rfl rfl ?_
    refine V.getR 132 dX8_clocks_132 fl_RX8_7 r_178_0 ?_
    refine J.sipush 135 (nI 191) dX8_clocks_135 (by decide +kernel) ?_
    refine V.iald 138 dX8_clocks_138 a_179 (by omega) ?_
    refine J.top (b := v 179 191) (by rw [up2_o _ _ (by omega), hG.2.1 191 (by decide), up2_o _ _ (by omega)]) ?_
    refine V.iast 139 dX8_clocks_139 a_179 (by omega) ?_
    refine J.aload_n 140 dX8_clocks_140 rfl rfl ?_
    refine J.sipush 141 (nI 3648) dX8_clocks_141 (by decide +kernel) ?_
    refine J.iconst 144 (nI 0) dX8_clocks_144 (by decide +kernel) ?_
    refine V.callvU 145 dX8_clocks_145 ml_RX8_85 mi_yX8_copyRow mv_yX8_copyRow (c_X8_copyRow w _ (by decide) (by decide) (by decide)) rfl rfl (Nat.le_of_ble_eq_true rfl) (by decide) (by decide) o_178 rfl rfl (fun v145 h145 => ?_)
    subst h145
    refine J.aload_n 148 dX8_clocks_148 rfl rfl ?_
    refine J.iconst 149 (nI 0) dX8_clocks_149 (by decide +kernel) ?_
    refine V.putI 150 dX8_clocks_150 fl_RX8_88 fp_8_1 i_178_1 ?_
    refine J.aload_n 153 dX8_clocks_153 rfl rfl ?_
    refine J.iconst 154 (nI 0) dX8_clocks_154 (by decide +kernel) ?_
    refine V.putI 155 dX8_clocks_155 fl_RX8_91 fp_8_2 i_178_2 ?_
    refine J.aload_n 158 dX8_clocks_158 rfl rfl ?_
    refine J.iconst 159 (nI 0) dX8_clocks_159 (by decide +kernel) ?_
    refine V.putI 160 dX8_clocks_160 fl_RX8_94 fp_8_8 i_178_8 ?_
    refine J.aload_n 163 dX8_clocks_163 rfl rfl ?_
    refine V.getR 164 dX8_clocks_164 fl_RX8_7 r_178_0 ?_
    refine J.iconst 167 (nI 0) dX8_clocks_167 (by decide +kernel) ?_
    refine V.iald 168 dX8_clocks_168 a_179 (by omega) ?_
    exact V.iret 169 dX8_clocks_169 (⟨by unfold clX; rw [hp]; exact clK_0 hG, by unfold clF; rw [hp]; exact EqR_good hG⟩)
  have lp : ∀ (m : Nat) (a n tf ts : Nat) (ρ : Nat → Int32) (u : Vm2) (x : Int32), (a ≤ s) → (Gd (up2 v 178 5 (-1)) u (skp (v 180) s a) ρ tf ts) → (Wp ρ n) → (tf ≤ 1) → (ts ≤ 1) → (paF (v 180) s m a ρ tf ts = pa (v 180) s) → s - a < m → J w yX8_clocks cX8_clocks 2 (some .int) (rm 5 112) XT (ZJ w 185 0 0 (PI w (fun r v' => r = clX v s ∧ EqR v' (clF v s)))) 66 [(0, .ref (wN w + 178)), (1, .int x)] [] 185 (hv w (u)) 0 0 := by
    intro m
    induction m with
    | zero =>
      intro a n tf ts ρ u x hi0 hi1 hi2 hi3 hi4 hi5 hm
      exact absurd hm (by omega)
    | succ m ih =>
      intro a n tf ts ρ u x hi0 hi1 hi2 hi3 hi4 hi5 hm
      by_cases hlt : skp (v 180) s a < s
      · have hpf : paF (v 180) s (m + 1) a ρ tf ts = (match clR (v 180) s (skp (v 180) s a) ρ n tf ts with
          | .inl e => .inl e
          | .inr (a1, ρ1, tf1, ts1) => paF (v 180) s m a1 ρ1 tf1 ts1) := by
          show (if _ then _ else _) = _
          rw [if_pos hlt, hi2.n]
        refine J.aload_n 66 dX8_clocks_66 rfl rfl ?_
        refine V.callvP 67 dX8_clocks_67 ml_RX8_44 mi_yX8_fine mv_yX8_fine (c_X8_fine w _) rfl rfl (Nat.le_of_ble_eq_true rfl) (by decide) (by decide) o_178 rfl rfl ?_
        refine V.if_eqB 70 96 dX8_clocks_70 (by decide) (fun c70 => absurd hi1.2.2.2.2.2.1 c70) (fun c70 => ?_)
        refine J.aload_n 73 dX8_clocks_73 rfl rfl ?_
        refine V.getI 74 dX8_clocks_74 fl_RX8_51 i_178_11 ?_
        refine J.top hi1.2.2.2.2.1 ?_
        refine J.aload_n 77 dX8_clocks_77 rfl rfl ?_
        refine V.getI 78 dX8_clocks_78 fl_RX8_37 i_178_4 ?_
        refine J.top ((hi1.2.2.1 4 (by decide)).trans hs1) ?_
        refine V.icmp_ge 81 96 dX8_clocks_81 (by decide) (by omega) (by omega) (fun c81 => absurd c81 (by omega)) (fun c81 => ?_)
        refine J.aload_n 84 dX8_clocks_84 rfl rfl ?_
        refine V.callvU 85 dX8_clocks_85 ml_RX8_82 mi_yX8_readClause mv_yX8_readClause (k_readClause w hi1 hs1 (by omega) hs hi2.1 hi2.2.1 hlt (by rw [h180]; exact skp_skp _ _ _) hi3 hi4) rfl rfl (Nat.le_of_ble_eq_true rfl) (by decide) (by decide) o_178 rfl rfl (fun u85 h85 => ?_)
        rw [h180] at h85
        cases hR : clR (v 180) s (skp (v 180) s a) ρ n tf ts with
        | inl e =>
          obtain ⟨k, p⟩ := e
          rw [hR] at h85 hpf
          have hB : Bd (up2 v 178 5 (-1)) u85 s k p := h85
          obtain ⟨ab, hab, eab⟩ := hB.2.2.2.2.2.1
          refine J.aload_n 88 dX8_clocks_88 rfl rfl ?_
          refine V.callv 89 dX8_clocks_89 ml_RX8_54 mi_yX8_here mv_yX8_here (c_X8_here w u85 eab ((hB.2.2.1 4 (by decide)).trans hs1) hab hs) rfl rfl (Nat.le_of_ble_eq_true rfl) (by decide) (by decide) o_178 rfl rfl (fun r89 u89 h89 => ?_)
          rw [hB.1 180 (by decide) (by decide), h180] at h89
          obtain ⟨rfl, rfl⟩ := h89
          refine J.istore_n 92 dX8_clocks_92 rfl (by decide) ?_
          refine J.goto 93 66 dX8_clocks_93 (by decide) ?_
          exact KB _ _ k p (hB.at (by have := skp_hi (v 180) s ab; omega)) (hi5.symm.trans hpf)
        | inr e =>
          obtain ⟨a1, ρ1, tf1, ts1⟩ := e
          rw [hR] at h85 hpf
          obtain ⟨hG1, -⟩ : Gd (up2 v 178 5 (-1)) u85 a1 ρ1 tf1 ts1 ∧ a1 ≤ s + 1 := h85
          obtain ⟨g1, g2, g3, g4, n1, g5⟩ := clR_ok hlt hi2 hi3 hi4 hR
          have hsa := skp_in (t := v 180) hi0
          refine J.aload_n 88 dX8_clocks_88 rfl rfl ?_
          refine V.callv 89 dX8_clocks_89 ml_RX8_54 mi_yX8_here mv_yX8_here (c_X8_here w u85 hG1.2.2.2.2.1 ((hG1.2.2.1 4 (by decide)).trans hs1) (by omega) hs) rfl rfl (Nat.le_of_ble_eq_true rfl) (by decide) (by decide) o_178 rfl rfl (fun r89 u89 h89 => ?_)
          rw [hG1.1 180 (by decide) (by decide), h180] at h89
          obtain ⟨rfl, rfl⟩ := h89
          refine J.istore_n 92 dX8_clocks_92 rfl (by decide) ?_
          refine J.goto 93 66 dX8_clocks_93 (by decide) ?_
          exact ih a1 n1 tf1 ts1 ρ1 _ _ g2 hG1.at g5 g3 g4 (hpf.symm.trans hi5) (by omega)
      · have hsa := skp_in (t := v 180) hi0
        have hpf : paF (v 180) s (m + 1) a ρ tf ts = .inr ρ := if_neg hlt
        exact KG u x ρ _ n tf ts hi1 (by omega) hi2 (hi5.symm.trans hpf)
  have KZ : J w yX8_clocks cX8_clocks 2 (some .int) (rm 5 112) XT (ZJ w 185 0 0 (PI w (fun r v' => r = clX v s ∧ EqR v' (clF v s)))) 51 [(0, .ref (wN w + 178)), (1, .int (nI 192))] [] 185 (hv w (zrK (up2 (up2 (up2 (up2 (up2 v 178 11 (nI 0)) 178 12 (nI 0)) 178 5 (-1)) 178 15 (nI 0)) 178 16 (nI 0)) 192)) 0 0 := by
    refine J.aload_n 51 dX8_clocks_51 rfl rfl ?_
    refine V.getR 52 dX8_clocks_52 fl_RX8_7 r_178_0 ?_
    refine J.sipush 55 (nI 3650) dX8_clocks_55 (by decide +kernel) ?_
    refine J.bipush 58 (nI 10) dX8_clocks_58 (by decide +kernel) ?_
    refine V.iast 60 dX8_clocks_60 a_179 (by omega) ?_
    have hG0 := Gd_start v
    refine J.aload_n 61 dX8_clocks_61 rfl rfl ?_
    refine V.callv 62 dX8_clocks_62 ml_RX8_54 mi_yX8_here mv_yX8_here (c_X8_here w _ hG0.2.2.2.2.1 ((hG0.2.2.1 4 (by decide)).trans hs1) (by omega) hs) rfl rfl (Nat.le_of_ble_eq_true rfl) (by decide) (by decide) o_178 rfl rfl (fun r62 u62 h62 => ?_)
    rw [hG0.1 180 (by decide) (by decide), h180] at h62
    obtain ⟨rfl, rfl⟩ := h62
    refine J.istore_n 65 dX8_clocks_65 rfl (by decide) ?_
    exact lp (s + 1) 0 0 0 0 rw0 _ _ (by omega) hG0.at Wp_rw0 (by decide) (by decide) rfl (by omega)
  have lz : ∀ (m : Nat) (k : Nat), (k ≤ 192) → 192 - k < m → J w yX8_clocks cX8_clocks 2 (some .int) (rm 5 112) XT (ZJ w 185 0 0 (PI w (fun r v' => r = clX v s ∧ EqR v' (clF v s)))) 27 [(0, .ref (wN w + 178)), (1, .int (nI k))] [] 185 (hv w (zrK (up2 (up2 (up2 (up2 (up2 v 178 11 (nI 0)) 178 12 (nI 0)) 178 5 (-1)) 178 15 (nI 0)) 178 16 (nI 0)) k)) 0 0 := by
    intro m
    induction m with
    | zero =>
      intro k hi0 hm
      exact absurd hm (by omega)
    | succ m ih =>
      intro k hi0 hm
      refine J.iload_n 27 dX8_clocks_27 rfl rfl ?_
      refine J.sipush 28 (nI 192) dX8_clocks_28 (by decide +kernel) ?_
      refine V.icmp_ge 31 51 dX8_clocks_31 (by decide) (by omega) (by omega) (fun c31 => ?_) (fun c31 => ?_)
      · obtain rfl : k = 192 := by omega
        exact KZ
      · refine J.aload_n 34 dX8_clocks_34 rfl rfl ?_
        refine V.getR 35 dX8_clocks_35 fl_RX8_7 r_178_0 ?_
        refine J.sipush 38 (nI 3648) dX8_clocks_38 (by decide +kernel) ?_
        refine J.iload_n 41 dX8_clocks_41 rfl rfl ?_
        refine V.iadd 42 dX8_clocks_42 ?_
        refine J.iconst 43 (nI 0) dX8_clocks_43 (by decide +kernel) ?_
        refine V.iast 44 dX8_clocks_44 a_179 (by omega) ?_
        rw [zrK_s]
        refine V.iinc 45 dX8_clocks_45 rfl (by decide) ?_
        refine J.goto 48 27 dX8_clocks_48 (by decide) ?_
        exact ih (k + 1) (by omega) (by omega)
  refine J.aload_n 0 dX8_clocks_0 rfl rfl ?_
  refine J.iconst 1 (nI 0) dX8_clocks_1 (by decide +kernel) ?_
  refine V.putI 2 dX8_clocks_2 fl_RX8_51 fp_8_11 i_178_11 ?_
  refine J.aload_n 5 dX8_clocks_5 rfl rfl ?_
  refine J.iconst 6 (nI 0) dX8_clocks_6 (by decide +kernel) ?_
  refine V.putI 7 dX8_clocks_7 fl_RX8_41 fp_8_12 i_178_12 ?_
  refine J.aload_n 10 dX8_clocks_10 rfl rfl ?_
  refine J.iconst 11 (-1) dX8_clocks_11 (by decide +kernel) ?_
  refine V.putI 12 dX8_clocks_12 fl_RX8_16 fp_8_5 i_178_5 ?_
  refine J.aload_n 15 dX8_clocks_15 rfl rfl ?_
  refine J.iconst 16 (nI 0) dX8_clocks_16 (by decide +kernel) ?_
  refine V.putI 17 dX8_clocks_17 fl_RX8_69 fp_8_15 i_178_15 ?_
  refine J.aload_n 20 dX8_clocks_20 rfl rfl ?_
  refine J.iconst 21 (nI 0) dX8_clocks_21 (by decide +kernel) ?_
  refine V.putI 22 dX8_clocks_22 fl_RX8_72 fp_8_16 i_178_16 ?_
  refine J.iconst 25 (nI 0) dX8_clocks_25 (by decide +kernel) ?_
  refine J.istore_n 26 dX8_clocks_26 rfl (by decide) ?_
  refine V.heapv (zrK_0 _) ?_
  exact lz 193 0 (by omega) (by omega)
