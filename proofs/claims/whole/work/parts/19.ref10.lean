theorem QJ.weak {w : Wd} {n' : Nat} {post post' : Po} (hp : ∀ r h', post r h' → post' r h') {a : Array Value} {s t : State} {o : Outcome} (h : QJ w n' post a s o t) : QJ w n' post' a s o t := by
  obtain ⟨r, h', h1, h2, h3⟩ := h
  exact ⟨r, h', h1, hp r h' h2, h3⟩
theorem Ct.weak {w : Wd} {y : MethodName} {cc : ByteArray} {mL : Nat} {rt : Option FieldType} {R : Room} {av : List Value} {n : Nat} {h : Nat → va_E} {n' : Nat} {post post' : Po} (hc : Ct w y cc mL rt R av n h n' post) (hp : ∀ r h', post r h' → post' r h') : Ct w y cc mL rt R av n h n' post' := by
  intro p e ha hk hx s m args below hf hpre hP hK
  obtain ⟨t, o, h1, h2, h3, hq, hF⟩ := hc p e ha hk hx s m args below hf hpre hP hK
  exact ⟨t, o, h1, h2, h3, QJ.weak hp hq, hF⟩
/-! ===== part 19: the text's clauses ===== -/
abbrev PR : Type := (Nat × Nat) ⊕ (Nat × (Nat → Int32) × Nat × Nat)
def semi (t : Nat → Int32) (s a : Nat) (ρ : Nat → Int32) (tf ts : Nat) : PR := if ltr t s (skp t s a) = nI 59 then .inr (skp t s a + 1, ρ, tf, ts) else .inl (1, skp t s a)
def numS (t : Nat → Int32) (s a : Nat) (lo hi : Int32) (k : Int32 → Nat → PR) : PR := if nuK t s (skp t s a) lo hi = 0 then k (nuV t s (skp t s a)) (nuE t s (skp t s a)) else .inl (nuK t s (skp t s a) lo hi, skp t s a)
/-- a clause ahead of its semicolon -/
def clK (t : Nat → Int32) (s a b : Nat) (ρ : Nat → Int32) (n tf ts : Nat) : PR := if n = 8 then .inl (3, b) else numS t s a (nI 0) (nI 9999) (fun x1 a1 => numS t s a1 (nI 90) (nI 110) (fun x2 a2 => .inr (a2, upd (upd (upd ρ (3 + n) x1) (11 + n) x2) 0 (nI (n + 1)), tf, ts)))
def clO (t : Nat → Int32) (s a b : Nat) (wd : Int32) (ρ : Nat → Int32) (n tf ts : Nat) : PR :=
  if (wd = nI 102 ∧ tf = 1) ∨ (wd = nI 115 ∧ ts = 1) then .inl (4, b)
  else if wd = nI 102 then numS t s a (nI 0) (nI 3) (fun x a1 => .inr (a1, upd ρ 1 x, 1, ts))
  else if wd = nI 115 then numS t s a (nI 0) (nI 80) (fun x a1 => .inr (a1, upd ρ 2 x, tf, 1))
  else if wd = nI 108 then numS t s a (nI 0) (nI n - nI 1) (fun x a1 => if ρ (27 + x.toNatClampNeg) = nI 1 then .inl (4, skp t s a) else .inr (a1, upd ρ (27 + x.toNatClampNeg) (nI 1), tf, ts))
  else .inl (1, b)
def clM (t : Nat → Int32) (s a : Nat) (ρ : Nat → Int32) (n tf ts : Nat) : PR := if t a = nI 107 then clK t s (a + 1) a ρ n tf ts else clO t s (a + 1) a (t a) ρ n tf ts
def clR (t : Nat → Int32) (s a : Nat) (ρ : Nat → Int32) (n tf ts : Nat) : PR := match clM t s a ρ n tf ts with
  | .inl e => .inl e
  | .inr (a1, ρ1, tf1, ts1) => semi t s a1 ρ1 tf1 ts1
/-- the reference's memory while it reads, v at the start, u now: no fault yet -/
def Gd (v u : Vm2) (a : Nat) (ρ : Nat → Int32) (tf ts : Nat) : Prop := (∀ c, c ≠ 178 → c ≠ 179 → u c = v c) ∧ (∀ b, b < 3648 → u 179 b = v 179 b) ∧ (∀ i, i < 11 → u 178 i = v 178 i) ∧ (∀ k, k < 192 → u 179 (3648 + k) = ρ k) ∧ u 178 11 = nI a ∧ u 178 12 = 0 ∧ u 178 15 = nI tf ∧ u 178 16 = nI ts
/-- a fault has been found -/
def Bd (v u : Vm2) (s k p : Nat) : Prop := (∀ c, c ≠ 178 → c ≠ 179 → u c = v c) ∧ (∀ b, b < 3648 → u 179 b = v 179 b) ∧ (∀ i, i < 11 → u 178 i = v 178 i) ∧ u 178 12 = nI k ∧ u 178 13 = nI p ∧ (∃ a, a ≤ s + 1 ∧ u 178 11 = nI a) ∧ 0 < k ∧ k < 5
theorem Gd.at {v u : Vm2} {a a' tf ts : Nat} {ρ : Nat → Int32} (h : Gd v u a ρ tf ts) : Gd v (up2 u 178 11 (nI a')) a' ρ tf ts := by
  obtain ⟨h1, h2, h3, h4, h5, h6, h7, h8⟩ := h
  exact ⟨fun c c1 c2 => by rw [up2_ne _ _ _ c1]; exact h1 c c1 c2, fun b hb => by rw [up2_o _ _ (by omega)]; exact h2 b hb, fun i hi => by rw [up2_o _ _ (by omega)]; exact h3 i hi, fun k hk => by rw [up2_o _ _ (by omega)]; exact h4 k hk, up2_self _ _ _ _, by rw [up2_o _ _ (by omega)]; exact h6, by rw [up2_o _ _ (by omega)]; exact h7, by rw [up2_o _ _ (by omega)]; exact h8⟩
theorem Gd.from {v u : Vm2} {a tf ts : Nat} {ρ : Nat → Int32} {x : Int32} (h : Gd v u a ρ tf ts) : Gd v (up2 u 178 14 x) a ρ tf ts := by
  obtain ⟨h1, h2, h3, h4, h5, h6, h7, h8⟩ := h
  exact ⟨fun c c1 c2 => by rw [up2_ne _ _ _ c1]; exact h1 c c1 c2, fun b hb => by rw [up2_o _ _ (by omega)]; exact h2 b hb, fun i hi => by rw [up2_o _ _ (by omega)]; exact h3 i hi, fun k hk => by rw [up2_o _ _ (by omega)]; exact h4 k hk, by rw [up2_o _ _ (by omega)]; exact h5, by rw [up2_o _ _ (by omega)]; exact h6, by rw [up2_o _ _ (by omega)]; exact h7, by rw [up2_o _ _ (by omega)]; exact h8⟩
theorem Gd.tf {v u : Vm2} {a tf ts tf' : Nat} {ρ : Nat → Int32} (h : Gd v u a ρ tf ts) : Gd v (up2 u 178 15 (nI tf')) a ρ tf' ts := by
  obtain ⟨h1, h2, h3, h4, h5, h6, h7, h8⟩ := h
  exact ⟨fun c c1 c2 => by rw [up2_ne _ _ _ c1]; exact h1 c c1 c2, fun b hb => by rw [up2_o _ _ (by omega)]; exact h2 b hb, fun i hi => by rw [up2_o _ _ (by omega)]; exact h3 i hi, fun k hk => by rw [up2_o _ _ (by omega)]; exact h4 k hk, by rw [up2_o _ _ (by omega)]; exact h5, by rw [up2_o _ _ (by omega)]; exact h6, up2_self _ _ _ _, by rw [up2_o _ _ (by omega)]; exact h8⟩
theorem Gd.ts {v u : Vm2} {a tf ts ts' : Nat} {ρ : Nat → Int32} (h : Gd v u a ρ tf ts) : Gd v (up2 u 178 16 (nI ts')) a ρ tf ts' := by
  obtain ⟨h1, h2, h3, h4, h5, h6, h7, h8⟩ := h
  exact ⟨fun c c1 c2 => by rw [up2_ne _ _ _ c1]; exact h1 c c1 c2, fun b hb => by rw [up2_o _ _ (by omega)]; exact h2 b hb, fun i hi => by rw [up2_o _ _ (by omega)]; exact h3 i hi, fun k hk => by rw [up2_o _ _ (by omega)]; exact h4 k hk, by rw [up2_o _ _ (by omega)]; exact h5, by rw [up2_o _ _ (by omega)]; exact h6, by rw [up2_o _ _ (by omega)]; exact h7, up2_self _ _ _ _⟩
theorem Gd.row {v u : Vm2} {a tf ts j q : Nat} {ρ : Nat → Int32} {x : Int32} (h : Gd v u a ρ tf ts) (hq : q = 3648 + j) (hj : j < 192) : Gd v (up2 u 179 q x) a (upd ρ j x) tf ts := by
  subst hq
  obtain ⟨h1, h2, h3, h4, h5, h6, h7, h8⟩ := h
  refine ⟨fun c c1 c2 => by rw [up2_ne _ _ _ c2]; exact h1 c c1 c2, fun b hb => by rw [up2_o _ _ (by omega)]; exact h2 b hb, fun i hi => by rw [up2_o _ _ (by omega)]; exact h3 i hi, fun k hk => ?_, by rw [up2_o _ _ (by omega)]; exact h5, by rw [up2_o _ _ (by omega)]; exact h6, by rw [up2_o _ _ (by omega)]; exact h7, by rw [up2_o _ _ (by omega)]; exact h8⟩
  by_cases hkj : k = j
  · subst hkj
    rw [up2_self, upd_self]
  · rw [up2_o _ _ (by omega), upd_ne _ _ hkj]
    exact h4 k hk
theorem Gd.bad {v u : Vm2} {a tf ts s k p : Nat} {ρ : Nat → Int32} (h : Gd v u a ρ tf ts) (ha : a ≤ s + 1) (hk : 0 < k) (hk5 : k < 5) : Bd v (up2 (up2 u 178 12 (nI k)) 178 13 (nI p)) s k p := by
  obtain ⟨h1, h2, h3, h4, h5, h6, h7, h8⟩ := h
  exact ⟨fun c c1 c2 => by rw [up2_ne _ _ _ c1, up2_ne _ _ _ c1]; exact h1 c c1 c2, fun b hb => by rw [up2_o _ _ (by omega), up2_o _ _ (by omega)]; exact h2 b hb, fun i hi => by rw [up2_o _ _ (by omega), up2_o _ _ (by omega)]; exact h3 i hi, by rw [up2_o _ _ (by omega), up2_self], up2_self _ _ _ _, ⟨a, ha, by rw [up2_o _ _ (by omega), up2_o _ _ (by omega)]; exact h5⟩, hk, hk5⟩
theorem Bd.row {v u : Vm2} {s k p q : Nat} {x : Int32} (h : Bd v u s k p) (hq : 3648 ≤ q) : Bd v (up2 u 179 q x) s k p := by
  obtain ⟨h1, h2, h3, h4, h5, ⟨a, ha, h6⟩, h7, h8⟩ := h
  exact ⟨fun c c1 c2 => by rw [up2_ne _ _ _ c2]; exact h1 c c1 c2, fun b hb => by rw [up2_o _ _ (by omega)]; exact h2 b hb, fun i hi => by rw [up2_o _ _ (by omega)]; exact h3 i hi, by rw [up2_o _ _ (by omega)]; exact h4, by rw [up2_o _ _ (by omega)]; exact h5, ⟨a, ha, by rw [up2_o _ _ (by omega)]; exact h6⟩, h7, h8⟩
theorem Bd.at {v u : Vm2} {s k p a' : Nat} (h : Bd v u s k p) (ha : a' ≤ s + 1) : Bd v (up2 u 178 11 (nI a')) s k p := by
  obtain ⟨h1, h2, h3, h4, h5, -, h7, h8⟩ := h
  exact ⟨fun c c1 c2 => by rw [up2_ne _ _ _ c1]; exact h1 c c1 c2, fun b hb => by rw [up2_o _ _ (by omega)]; exact h2 b hb, fun i hi => by rw [up2_o _ _ (by omega)]; exact h3 i hi, by rw [up2_o _ _ (by omega)]; exact h4, by rw [up2_o _ _ (by omega)]; exact h5, ⟨a', ha, up2_self _ _ _ _⟩, h7, h8⟩
theorem Bd.w0 {v u : Vm2} {s k p : Nat} (h : Bd v u s k p) : ¬ u 178 12 = 0 := by
  rw [h.2.2.2.1]
  exact nI_ne0 h.2.2.2.2.2.2.1 (by have := h.2.2.2.2.2.2.2; omega)
theorem nuK_lt (t : Nat → Int32) (s fr : Nat) (lo hi : Int32) : nuK t s fr lo hi < 5 := by
  unfold nuK
  split
  · decide
  · split <;> decide
theorem k_number (w : Wd) (v u : Vm2) {s a tf ts : Nat} {ρ : Nat → Int32} {lo hi : Int32} (hG : Gd v u a ρ tf ts) (hs0 : v 178 4 = nI s) (ha : a ≤ s) (hs : s ≤ 200) : CI w yX8_number cX8_number 5 (some .int) (rm 2 42) [.ref (wN w + 178), .int lo, .int hi] u (fun r u' => r = nuV (v 180) s (skp (v 180) s a) ∧ (nuK (v 180) s (skp (v 180) s a) lo hi = 0 → Gd v u' (nuE (v 180) s (skp (v 180) s a)) ρ tf ts ∧ u' 178 14 = nI (skp (v 180) s a)) ∧ (nuK (v 180) s (skp (v 180) s a) lo hi ≠ 0 → Bd v u' s (nuK (v 180) s (skp (v 180) s a) lo hi) (skp (v 180) s a))) := by
  have h := c_X8_number w u (lo := lo) (hi := hi) hG.2.2.2.2.1 ((hG.2.2.1 4 (by decide)).trans hs0) hG.2.2.2.2.2.1 ha hs
  rw [hG.1 180 (by decide) (by decide)] at h
  have hk := skp_in (t := v 180) ha
  have hd := dg_in (t := v 180) (fr := skp (v 180) s a) (x := nI 0) hk.2
  refine Ct.weak h ?_
  rintro r h' ⟨x, v', rfl, rfl, rfl, rfl⟩
  refine ⟨_, _, rfl, rfl, rfl, fun e => ?_, fun e => ?_⟩
  · unfold nuU
    rw [if_pos e]
    exact ⟨hG.at.from, up2_self _ _ _ _⟩
  · unfold nuU
    rw [if_neg e]
    exact hG.at.from.bad (s := s) (by unfold nuE; omega) (Nat.pos_of_ne_zero e) (nuK_lt _ _ _ _ _)

