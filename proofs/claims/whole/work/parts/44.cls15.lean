/-! ===== part 44: how the numbers grow ===== -/
theorem i_ring (a r s h : Int32) : a + (r + s) + (h - s) = a + h + r := by grind
theorem aim_tkA (ρ : Nat → Int32) : ∀ m, m ≤ 8 → ∀ c, c < 8 → aimF (tkA ρ m) c = if c < m ∧ ρ (35 + c) = 0 then aimF ρ c + ρ (11 + c) else aimF ρ c
  | 0, _, c, _ => by rw [if_neg (by omega)]; rfl
  | m + 1, hm, c, hc => by
    have ih := aim_tkA ρ m (by omega)
    show aimF (tkC (tkA ρ m) m) c = _
    unfold tkC
    rw [tkA_at ρ m (35 + m) (by omega) (by omega)]
    by_cases e : ρ (35 + m) = 0
    · rw [if_pos e]
      by_cases ec : c = m
      · subst ec
        rw [if_pos ⟨by omega, e⟩]
        have i0 := ih c hc
        rw [if_neg (by omega)] at i0
        rw [← i0]
        unfold aimF
        rw [upd_ne _ _ (by omega), upd_self, upd_self, upd_ne _ _ (by omega), tkA_at ρ c (11 + c) (by omega) (by omega)]
        exact i_ring _ _ _ _
      · have i0 := ih c hc
        unfold aimF at i0 ⊢
        rw [upd_ne _ _ (by omega), upd_ne _ _ (by omega), upd_ne _ _ (by omega), upd_ne _ _ (by omega), i0]
        by_cases z : c < m ∧ ρ (35 + c) = 0
        · rw [if_pos z, if_pos ⟨by omega, z.2⟩]
        · rw [if_neg z, if_neg (fun y => z ⟨by omega, y.2⟩)]
    · rw [if_neg e, ih c hc]
      by_cases z : c < m ∧ ρ (35 + c) = 0
      · rw [if_pos z, if_pos ⟨by omega, z.2⟩]
      · rw [if_neg z, if_neg (fun y => z ⟨by have := y.1; by_cases h : c = m; exact absurd (h ▸ y.2) e; omega, y.2⟩)]
theorem Bn.tk {ρ : Nat → Int32} {n f ma B : Nat} (h : Bn ρ n B) (hW : Wf ρ n f ma) (hB : B ≤ 1000000000) : Bn (tkF ρ n ma) n (B + 110) := by
  have hn := hW.2.1
  have hma := hW.2.2.2.2.2.2.1
  obtain ⟨h1, h2, h3⟩ := h
  refine ⟨fun c hc => ?_, fun k hk => ?_, fun c hc => ?_⟩
  · have e : aimF (tkF ρ n ma) c = aimF (tkA ρ n) c := by
      unfold aimF tkF
      rw [rgA_at _ _ _ (by omega), rgA_at _ _ _ (by omega), upd_ne _ _ (by omega), upd_ne _ _ (by omega)]
    rw [e, aim_tkA ρ n hn c (by omega)]
    split
    · exact (h1 c hc).add (h3 c hc) (by omega)
    · exact (h1 c hc).mono (by omega)
  · unfold tkF
    rw [rgA_at _ _ _ (by omega), upd_ne _ _ (by omega), tkA_at _ _ _ (by omega) (by omega)]
    exact h2 k hk
  · unfold tkF
    rw [rgA_at _ _ _ (by omega), upd_ne _ _ (by omega), tkA_at _ _ _ (by omega) (by omega)]
    exact h3 c hc
theorem Bn.rd {ρ : Nat → Int32} {n f B : Nat} (h : Bn ρ n B) (hn : n ≤ 8) (hB : B ≤ 1000000000) : Bn (rnW ρ 0 n n (rdF ρ n f)) n (B + 9999) := by
  refine ⟨fun c hc => ?_, fun k hk => ?_, fun c hc => ?_⟩
  · unfold aimF
    rw [rn_at (by omega), show rnW ρ 0 n n (rdF ρ n f) (19 + c) = rdF ρ n f c from by unfold rnW; rw [if_pos (by omega), show 19 + c - (0 + 19) = c by omega]]
    unfold rdF
    split
    · rw [sb_ad]; exact h.md hB hn hc
    · exact (h.1 c hc).mono (by omega)
  · rw [rn_at (by omega)]; exact h.2.1 k hk
  · rw [rn_at (by omega)]; exact h.2.2 c hc
theorem Wf.rd {ρ : Nat → Int32} {n f ma : Nat} (h : Wf ρ n f ma) : Wf (rnW ρ 0 n n (rdF ρ n f)) n f ma := by
  have := h.2.1
  exact h.cg (fun k _ h2 => rn_at (by omega))
theorem Bn.jo {ρ : Nat → Int32} {n f ma B c : Nat} (h : Bn ρ n B) (hW : Wf ρ n f ma) (hc : c < n) (hB : B ≤ 1000000000) (hs : 2 * f < cntS ρ n) : Bn (jrA (jnW ρ (jnM ρ n f c) c) c ma) n (B + 9999) := by
  have hn := hW.2.1
  have hma := hW.2.2.2.2.2.2.1
  have o : ∀ k, k < 184 → jrA (jnW ρ (jnM ρ n f c) c) c ma k = jnW ρ (jnM ρ n f c) c k := fun k hk => jrA_at _ _ _ _ (by omega)
  refine ⟨fun d hd => ?_, fun k hk => ?_, fun d hd => ?_⟩
  · unfold aimF
    rw [o _ (by omega), o _ (by omega)]
    by_cases e : d = c
    · subst e
      unfold jnW
      rw [upd_ne _ _ (by omega), upd_ne _ _ (by omega), upd_self, upd_ne _ _ (by omega), upd_self, show ∀ x : Int32, x + nI 0 = x from fun x => Int32.add_zero x]
      exact (h.jn hB hn hc hs).2
    · rw [jnW_at _ (by omega) (by omega) (by omega), jnW_at _ (by omega) (by omega) (by omega)]
      exact (h.1 d hd).mono (by omega)
  · rw [o _ (by omega), jnW_at _ (by omega) (by omega) (by omega)]; exact h.2.1 k hk
  · rw [o _ (by omega), jnW_at _ (by omega) (by omega) (by omega)]; exact h.2.2 d hd
theorem Bn.le {ρ : Nat → Int32} {n B d : Nat} {x : Int32} (h : Bn ρ n B) (hn : n ≤ 8) (hd : d < 128) (hx : Wi 9999 x) : Bn (upd ρ (43 + d) x) n B := by
  refine ⟨fun c hc => ?_, fun k hk => ?_, fun c hc => ?_⟩
  · unfold aimF; rw [upd_ne _ _ (by omega), upd_ne _ _ (by omega)]; exact h.1 c hc
  · by_cases e : k = d
    · subst e; rw [upd_self]; exact hx
    · rw [upd_ne _ _ (by omega)]; exact h.2.1 k hk
  · rw [upd_ne _ _ (by omega)]; exact h.2.2 c hc
theorem Wf.cg2 {ρ σ : Nat → Int32} {n f ma : Nat} (h : Wf ρ n f ma) (e : ∀ k, k < 190 → (k < 11 ∨ (27 ≤ k ∧ k < 43) ∨ 171 ≤ k) → σ k = ρ k) : Wf σ n f ma := by
  obtain ⟨h1, h2, h3, h4, h5, h6, h7, h8, h9⟩ := h
  refine ⟨?_, h2, ?_, h4, ?_, ?_, h7, fun c hc => ?_, fun a ha => ?_⟩
  · rw [e _ (by omega) (by omega)]; exact h1
  · rw [e _ (by omega) (by omega)]; exact h3
  · rw [e _ (by omega) (by omega)]; exact h5
  · rw [e _ (by omega) (by omega)]; exact h6
  · rw [e _ (by omega) (by omega), e _ (by omega) (by omega)]; exact h8 c hc
  · obtain ⟨h01, cl, hcl, ecl, hal⟩ := h9 a ha
    rw [e (184 + a) (by omega) (by omega), e (172 + a) (by omega) (by omega), e (178 + a) (by omega) (by omega)]
    exact ⟨h01, cl, hcl, ecl, fun z => by rw [e (3 + cl) (by omega) (by omega)]; exact hal z⟩
theorem Wf.li {ρ : Nat → Int32} {n f ma c : Nat} {x : Int32} (h : Wf ρ n f ma) (hc : c < n) (hx : x = 0 ∨ x = nI 1) : Wf (upd ρ (27 + c) x) n f ma := by
  obtain ⟨h1, h2, h3, h4, h5, h6, h7, h8, h9⟩ := h
  refine ⟨?_, h2, ?_, h4, ?_, ?_, h7, fun d hd => ⟨?_, ?_⟩, fun a ha => ?_⟩
  · rw [upd_ne _ _ (by omega)]; exact h1
  · rw [upd_ne _ _ (by omega)]; exact h3
  · rw [upd_ne _ _ (by omega)]; exact h5
  · rw [upd_ne _ _ (by omega)]; exact h6
  · by_cases e : d = c
    · subst e
      rw [upd_self]
      exact hx.imp id (fun z => ⟨z, hc⟩)
    · rw [upd_ne _ _ (by omega)]; exact (h8 d hd).1
  · rw [upd_ne _ _ (by omega)]; exact (h8 d hd).2
  · obtain ⟨h01, cl, hcl, ecl, hal⟩ := h9 a ha
    rw [upd_ne _ _ (by omega), upd_ne _ _ (by omega), upd_ne _ _ (by omega)]
    exact ⟨h01, cl, hcl, ecl, fun z => by rw [upd_ne _ _ (by omega)]; exact hal z⟩
theorem Wf.sd {ρ : Nat → Int32} {n f ma c : Nat} {x : Int32} (h : Wf ρ n f ma) (hc : c < n) (hx : x = 0 ∨ x = nI 1) : Wf (upd ρ (35 + c) x) n f ma := by
  obtain ⟨h1, h2, h3, h4, h5, h6, h7, h8, h9⟩ := h
  refine ⟨?_, h2, ?_, h4, ?_, ?_, h7, fun d hd => ⟨?_, ?_⟩, fun a ha => ?_⟩
  · rw [upd_ne _ _ (by omega)]; exact h1
  · rw [upd_ne _ _ (by omega)]; exact h3
  · rw [upd_ne _ _ (by omega)]; exact h5
  · rw [upd_ne _ _ (by omega)]; exact h6
  · rw [upd_ne _ _ (by omega)]; exact (h8 d hd).1
  · by_cases e : d = c
    · subst e
      rw [upd_self]
      exact hx.imp id (fun z => ⟨z, hc⟩)
    · rw [upd_ne _ _ (by omega)]; exact (h8 d hd).2
  · obtain ⟨h01, cl, hcl, ecl, hal⟩ := h9 a ha
    rw [upd_ne _ _ (by omega), upd_ne _ _ (by omega), upd_ne _ _ (by omega)]
    exact ⟨h01, cl, hcl, ecl, fun z => by rw [upd_ne _ _ (by omega)]; exact hal z⟩
theorem smI_cn {g : Nat → Int32} : ∀ n, (∀ c, c < n → g c = 0 ∨ g c = nI 1) → smI g n = nI (cn8 g n)
  | 0, _ => rfl
  | n + 1, h => by
    show smI g n + g n = nI (cn8 g n + (decide (g n = nI 1)).toNat)
    rw [smI_cn n (fun c hc => h c (by omega))]
    rcases h n (by omega) with e | e
    · rw [e]
      show nI (cn8 g n) + 0 = nI (cn8 g n + 0)
      rw [Int32.add_zero, Nat.add_zero]
    · rw [e, decide_eq_true rfl]
      exact nI_add _ _
