/-! ===== part 38: the council: the farthest lie, the worst ===== -/
/-! extremes: high -/
def HiR (o1 o2 : Nat → Int32) (t1 t2 : Int32) (m e : Nat) : Prop := e ≤ m ∧ (∀ k, k < m - e → o1 k = o2 k ∧ o1 k < t1 ∧ o1 k < t2) ∧ ∀ k, m - e ≤ k → k < m → o1 k = t1 ∧ o2 k = t2
theorem HiR.x {t1 t2 x : Int32} (h1 : x < t1) (h2 : x < t2) : ∀ (m e : Nat) (o1 o2 : Nat → Int32), HiR o1 o2 t1 t2 m e → HiR (putF o1 m x) (putF o2 m x) t1 t2 (m + 1) e
  | m, 0, o1, o2, ⟨ha, hb, hc⟩ => by
    refine ⟨by omega, fun k hk => ?_, fun k k1 k2 => absurd k2 (by omega)⟩
    refine ⟨putF_congr x m _ _ (fun j hj => (hb j (by omega)).1) k (by omega), ?_⟩
    exact putF_all (p := fun y => y < t1 ∧ y < t2) ⟨h1, h2⟩ m _ (fun j hj => (hb j (by omega)).2) k (by omega)
  | 0, e + 1, o1, o2, ⟨ha, hb, hc⟩ => absurd ha (by omega)
  | m + 1, e + 1, o1, o2, ⟨ha, hb, hc⟩ => by
    have hm := hc m (by omega) (by omega)
    unfold putF
    rw [hm.1, hm.2, if_pos h1, if_pos h2]
    have ih := HiR.x h1 h2 m e (upd o1 (m + 1) t1) (upd o2 (m + 1) t2) ⟨by omega, fun k hk => by
      rw [upd_ne _ _ (by omega), upd_ne _ _ (by omega)]; exact hb k (by omega), fun k k1 k2 => by
      rw [upd_ne _ _ (by omega), upd_ne _ _ (by omega)]; exact hc k (by omega) (by omega)⟩
    refine ⟨by omega, fun k hk => ih.2.1 k (by omega), fun k k1 k2 => ?_⟩
    by_cases e9 : k = m + 1
    · subst e9
      rw [putF_in _ _ _ _ (by omega), putF_in _ _ _ _ (by omega), upd_self, upd_self]
      exact ⟨rfl, rfl⟩
    · exact ih.2.2 k (by omega) (by omega)
theorem putF_top {o : Nat → Int32} {t : Int32} : ∀ m, (∀ k, k < m → ¬ t < o k) → putF o m t = upd o m t
  | 0, _ => rfl
  | m + 1, h => by
    unfold putF
    rw [if_neg (h m (by omega))]
theorem HiR.t {t1 t2 : Int32} {m e : Nat} {o1 o2 : Nat → Int32} (h : HiR o1 o2 t1 t2 m e) : HiR (putF o1 m t1) (putF o2 m t2) t1 t2 (m + 1) (e + 1) := by
  obtain ⟨ha, hb, hc⟩ := h
  have g1 : ∀ k, k < m → ¬ t1 < o1 k ∧ ¬ t2 < o2 k := fun k hk => by
    by_cases z : k < m - e
    · have := hb k z
      exact ⟨fun y => Int32.lt_irrefl (Int32.lt_trans y this.2.1), fun y => by rw [← this.1] at y; exact Int32.lt_irrefl (Int32.lt_trans y this.2.2)⟩
    · have := hc k (by omega) hk
      rw [this.1, this.2]
      exact ⟨Int32.lt_irrefl, Int32.lt_irrefl⟩
  rw [putF_top m (fun k hk => (g1 k hk).1), putF_top m (fun k hk => (g1 k hk).2)]
  refine ⟨by omega, fun k hk => ?_, fun k k1 k2 => ?_⟩
  · rw [upd_ne _ _ (by omega), upd_ne _ _ (by omega)]
    exact hb k (by omega)
  · by_cases e9 : k = m
    · subst e9; rw [upd_self, upd_self]; exact ⟨rfl, rfl⟩
    · rw [upd_ne _ _ e9, upd_ne _ _ e9]
      exact hc k (by omega) (by omega)
/-! low -/
def LoR (o1 o2 : Nat → Int32) (t1 t2 : Int32) (m e : Nat) : Prop := e ≤ m ∧ (∀ k, k < e → o1 k = t1 ∧ o2 k = t2) ∧ ∀ k, e ≤ k → k < m → o1 k = o2 k ∧ t1 < o1 k ∧ t2 < o1 k
theorem LoR.x {t1 t2 x : Int32} (h1 : t1 < x) (h2 : t2 < x) : ∀ (m e : Nat) (o1 o2 : Nat → Int32), LoR o1 o2 t1 t2 m e → LoR (putF o1 m x) (putF o2 m x) t1 t2 (m + 1) e
  | 0, e, o1, o2, ⟨ha, hb, hc⟩ => by
    obtain rfl : e = 0 := by omega
    refine ⟨by omega, fun k hk => absurd hk (by omega), fun k k1 k2 => ?_⟩
    obtain rfl : k = 0 := by omega
    unfold putF
    rw [upd_self, upd_self]
    exact ⟨rfl, h1, h2⟩
  | m + 1, e, o1, o2, ⟨ha, hb, hc⟩ => by
    have stop : LoR (upd o1 (m + 1) x) (upd o2 (m + 1) x) t1 t2 (m + 1 + 1) e := by
      refine ⟨by omega, fun k hk => ?_, fun k k1 k2 => ?_⟩
      · rw [upd_ne _ _ (by omega), upd_ne _ _ (by omega)]; exact hb k hk
      · by_cases e9 : k = m + 1
        · subst e9; rw [upd_self, upd_self]; exact ⟨rfl, h1, h2⟩
        · rw [upd_ne _ _ e9, upd_ne _ _ e9]; exact hc k k1 (by omega)
    by_cases he : e ≤ m
    · have hm := hc m he (by omega)
      unfold putF
      rw [← hm.1]
      by_cases z : x < o1 m
      · rw [if_pos z, if_pos z]
        have ih := LoR.x h1 h2 m e (upd o1 (m + 1) (o1 m)) (upd o2 (m + 1) (o1 m)) ⟨he, fun k hk => by
          rw [upd_ne _ _ (by omega), upd_ne _ _ (by omega)]; exact hb k hk, fun k k1 k2 => by
          rw [upd_ne _ _ (by omega), upd_ne _ _ (by omega)]; exact hc k k1 (by omega)⟩
        refine ⟨by omega, fun k hk => ih.2.1 k hk, fun k k1 k2 => ?_⟩
        by_cases e9 : k = m + 1
        · subst e9
          rw [putF_in _ _ _ _ (by omega), putF_in _ _ _ _ (by omega), upd_self, upd_self]
          exact ⟨rfl, hm.2⟩
        · exact ih.2.2 k k1 (by omega)
      · rw [if_neg z, if_neg z]
        exact stop
    · have hm := hb m (by omega)
      unfold putF
      rw [hm.1, hm.2, if_neg (fun z => Int32.lt_irrefl (Int32.lt_trans z h1)), if_neg (fun z => Int32.lt_irrefl (Int32.lt_trans z h2))]
      exact stop
theorem LoR.t {t1 t2 : Int32} : ∀ (m e : Nat) (o1 o2 : Nat → Int32), LoR o1 o2 t1 t2 m e → LoR (putF o1 m t1) (putF o2 m t2) t1 t2 (m + 1) (e + 1)
  | 0, e, o1, o2, ⟨ha, hb, hc⟩ => by
    obtain rfl : e = 0 := by omega
    refine ⟨by omega, fun k hk => ?_, fun k k1 k2 => absurd k2 (by omega)⟩
    obtain rfl : k = 0 := by omega
    unfold putF
    rw [upd_self, upd_self]
    exact ⟨rfl, rfl⟩
  | m + 1, e, o1, o2, ⟨ha, hb, hc⟩ => by
    by_cases he : e ≤ m
    · have hm := hc m he (by omega)
      unfold putF
      rw [← hm.1, if_pos hm.2.1, if_pos hm.2.2]
      have ih := LoR.t (t1 := t1) (t2 := t2) m e (upd o1 (m + 1) (o1 m)) (upd o2 (m + 1) (o1 m)) ⟨he, fun k hk => by
          rw [upd_ne _ _ (by omega), upd_ne _ _ (by omega)]; exact hb k hk, fun k k1 k2 => by
          rw [upd_ne _ _ (by omega), upd_ne _ _ (by omega)]; exact hc k k1 (by omega)⟩
      refine ⟨by omega, fun k hk => ih.2.1 k hk, fun k k1 k2 => ?_⟩
      by_cases e9 : k = m + 1
      · subst e9
        rw [putF_in _ _ _ _ (by omega), putF_in _ _ _ _ (by omega), upd_self, upd_self]
        exact ⟨rfl, hm.2⟩
      · exact ih.2.2 k k1 (by omega)
    · have hm := hb m (by omega)
      unfold putF
      rw [hm.1, hm.2, if_neg Int32.lt_irrefl, if_neg Int32.lt_irrefl]
      refine ⟨by omega, fun k hk => ?_, fun k k1 k2 => absurd k2 (by omega)⟩
      by_cases e9 : k = m + 1
      · subst e9; rw [upd_self, upd_self]; exact ⟨rfl, rfl⟩
      · rw [upd_ne _ _ e9, upd_ne _ _ e9]; exact hb k (by omega)
theorem ex_hi {ρ : Nat → Int32} {i : Nat} {t1 t2 : Int32} {N : Nat} (hh : ∀ j, j < N → heF ρ j i < t1 ∧ heF ρ j i < t2) : ∀ n, n ≤ N → HiR (ordF (exG ρ i t1) n) (ordF (exG ρ i t2) n) t1 t2 n (cntL ρ n)
  | 0, _ => ⟨Nat.le_refl 0, fun k hk => absurd hk (by omega), fun k k1 k2 => absurd k2 (by omega)⟩
  | n + 1, hn => by
    have ih := ex_hi hh n (by omega)
    by_cases e : liF ρ n
    · have e2 : cntL ρ (n + 1) = cntL ρ n + 1 := by show cntL ρ n + (if liF ρ n then 1 else 0) = _; rw [if_pos e]
      have g : ∀ t, exG ρ i t n = t := fun t => if_pos e
      rw [e2]
      show HiR (putF _ n (exG ρ i t1 n)) (putF _ n (exG ρ i t2 n)) _ _ _ _
      rw [g, g]
      exact ih.t
    · have e2 : cntL ρ (n + 1) = cntL ρ n := by show cntL ρ n + (if liF ρ n then 1 else 0) = _; rw [if_neg e, Nat.add_zero]
      have g : ∀ t, exG ρ i t n = heF ρ n i := fun t => if_neg e
      rw [e2]
      show HiR (putF _ n (exG ρ i t1 n)) (putF _ n (exG ρ i t2 n)) _ _ _ _
      rw [g, g]
      exact HiR.x (hh n (by omega)).1 (hh n (by omega)).2 n _ _ _ ih
theorem ex_lo {ρ : Nat → Int32} {i : Nat} {t1 t2 : Int32} {N : Nat} (hh : ∀ j, j < N → t1 < heF ρ j i ∧ t2 < heF ρ j i) : ∀ n, n ≤ N → LoR (ordF (exG ρ i t1) n) (ordF (exG ρ i t2) n) t1 t2 n (cntL ρ n)
  | 0, _ => ⟨Nat.le_refl 0, fun k hk => absurd hk (by show ¬ k < 0; omega), fun k k1 k2 => absurd k2 (by omega)⟩
  | n + 1, hn => by
    have ih := ex_lo hh n (by omega)
    by_cases e : liF ρ n
    · have e2 : cntL ρ (n + 1) = cntL ρ n + 1 := by show cntL ρ n + (if liF ρ n then 1 else 0) = _; rw [if_pos e]
      have g : ∀ t, exG ρ i t n = t := fun t => if_pos e
      rw [e2]
      show LoR (putF _ n (exG ρ i t1 n)) (putF _ n (exG ρ i t2 n)) _ _ _ _
      rw [g, g]
      exact LoR.t n _ _ _ ih
    · have e2 : cntL ρ (n + 1) = cntL ρ n := by show cntL ρ n + (if liF ρ n then 1 else 0) = _; rw [if_neg e, Nat.add_zero]
      have g : ∀ t, exG ρ i t n = heF ρ n i := fun t => if_neg e
      rw [e2]
      show LoR (putF _ n (exG ρ i t1 n)) (putF _ n (exG ρ i t2 n)) _ _ _ _
      rw [g, g]
      exact LoR.x (hh n (by omega)).1 (hh n (by omega)).2 n _ _ _ ih
/-- which of the values -/
theorem ex_val {ρ : Nat → Int32} {i n : Nat} {t : Int32} {D : Nat} (hh : ∀ j, j < n → Wi D (heF ρ j i)) : ∀ k, k < n → ordF (exG ρ i t) n k = t ∨ Wi D (ordF (exG ρ i t) n k) := by
  refine ordF_all (p := fun y => y = t ∨ Wi D y) n (fun j hj => ?_)
  unfold exG
  split
  · exact Or.inl rfl
  · exact Or.inr (hh j hj)
theorem ex_up {ρ : Nat → Int32} {n f i D : Nat} (hh : ∀ j, j < n → Wi D (heF ρ j i)) (hD : D < 500000000) (hf : ¬ n ≤ 2 * f) (hl : cntL ρ n ≤ f) : fdF (ordF (exG ρ i (nI 1000000000)) n f + ordF (exG ρ i (nI 1000000000)) n (n - 1 - f)) (nI 2) = exF ρ n f i (nI 500000000) := by
  have a1 : (nI 1000000000).toInt = 1000000000 := by decide +kernel
  have a2 : (nI 500000000).toInt = 500000000 := by decide +kernel
  have H := ex_hi (ρ := ρ) (i := i) (t1 := nI 1000000000) (t2 := nI 500000000) (fun j hj => ⟨Int32.lt_iff_toInt_lt.mpr (by have := (hh j hj).2; omega), Int32.lt_iff_toInt_lt.mpr (by have := (hh j hj).2; omega)⟩) n (Nat.le_refl n)
  have p := H.2.1 f (by omega)
  have q := H.2.1 (n - 1 - f) (by omega)
  unfold exF
  rw [← p.1, ← q.1]
  have w1 : Wi D (ordF (exG ρ i (nI 1000000000)) n f) := (ex_val hh f (by omega)).resolve_left (fun z => by have := p.2.1; rw [z] at this; exact Int32.lt_irrefl this)
  have w2 : Wi D (ordF (exG ρ i (nI 1000000000)) n (n - 1 - f)) := (ex_val hh _ (by omega)).resolve_left (fun z => by have := q.2.1; rw [z] at this; exact Int32.lt_irrefl this)
  exact (w1.fl w2 (by omega)).1
theorem ex_dn {ρ : Nat → Int32} {n f i D : Nat} (hh : ∀ j, j < n → Wi D (heF ρ j i)) (hD : D < 500000000) (hf : ¬ n ≤ 2 * f) (hl : cntL ρ n ≤ f) : fdF (ordF (exG ρ i (-1000000000)) n f + ordF (exG ρ i (-1000000000)) n (n - 1 - f)) (nI 2) = exF ρ n f i (-500000000) := by
  have a1 : (-1000000000 : Int32).toInt = -1000000000 := by decide +kernel
  have a2 : (-500000000 : Int32).toInt = -500000000 := by decide +kernel
  have H := ex_lo (ρ := ρ) (i := i) (t1 := -1000000000) (t2 := -500000000) (fun j hj => ⟨Int32.lt_iff_toInt_lt.mpr (by have := (hh j hj).1; omega), Int32.lt_iff_toInt_lt.mpr (by have := (hh j hj).1; omega)⟩) n (Nat.le_refl n)
  have p := H.2.2 f (by omega) (by omega)
  have q := H.2.2 (n - 1 - f) (by omega) (by omega)
  unfold exF
  rw [← p.1, ← q.1]
  have w1 : Wi D (ordF (exG ρ i (-1000000000)) n f) := (ex_val hh f (by omega)).resolve_left (fun z => by have := p.2.1; rw [z] at this; exact Int32.lt_irrefl this)
  have w2 : Wi D (ordF (exG ρ i (-1000000000)) n (n - 1 - f)) := (ex_val hh _ (by omega)).resolve_left (fun z => by have := q.2.1; rw [z] at this; exact Int32.lt_irrefl this)
  exact (w1.fl w2 (by omega)).1
/-! how many are true -/
theorem cT_lo (ρ : Nat → Int32) : ∀ n, (cntT ρ n = 0 → loI ρ n = none ∧ hiI ρ n = none) ∧ (cntT ρ n = 1 → ∃ c, loI ρ n = some c ∧ hiI ρ n = some c)
  | 0 => ⟨fun _ => ⟨rfl, rfl⟩, fun h => absurd h (by show ¬ 0 = 1; omega)⟩
  | n + 1 => by
    obtain ⟨i0, i1⟩ := cT_lo ρ n
    by_cases e : trF ρ n
    · have e2 : cntT ρ (n + 1) = cntT ρ n + 1 := by show cntT ρ n + (if trF ρ n then 1 else 0) = _; rw [if_pos e]
      rw [e2]
      refine ⟨fun h => absurd h (by omega), fun h => ?_⟩
      obtain ⟨a, b⟩ := i0 (by omega)
      refine ⟨n, ?_, ?_⟩
      · unfold loI; rw [if_pos e, a]
      · unfold hiI; rw [if_pos e, b]
    · have e2 : cntT ρ (n + 1) = cntT ρ n := by show cntT ρ n + (if trF ρ n then 1 else 0) = _; rw [if_neg e, Nat.add_zero]
      have e3 : loI ρ (n + 1) = loI ρ n := by conv => lhs; unfold loI; rw [if_neg e]
      have e4 : hiI ρ (n + 1) = hiI ρ n := by conv => lhs; unfold hiI; rw [if_neg e]
      rw [e2, e3, e4]
      exact ⟨i0, i1⟩
theorem ap_few {ρ : Nat → Int32} {n : Nat} (h : cntT ρ n < 2) : apF ρ n = if cntT ρ n = 0 then -1 else nI 0 := by
  obtain ⟨i0, i1⟩ := cT_lo ρ n
  unfold apF
  by_cases e : cntT ρ n = 0
  · obtain ⟨a, b⟩ := i0 e
    rw [if_pos e, a, b]
  · obtain ⟨c, a, b⟩ := i1 (by omega)
    rw [if_neg e, a, b]
    show aimF ρ c - aimF ρ c = nI 0
    exact Int32.sub_self _
/-! farthest -/
theorem mb_he {ρ : Nat → Int32} {n j i k : Nat} {x : Int32} (hl : liF ρ j) (hij : i ≠ j) (hn : n ≤ 8) (hj : j < n) (hi : i < n) (hk : k < n) : heF (upd ρ (107 + 8 * j + i) x) k i = mbG ρ j i x k := by
  have o : ∀ b, b < 107 → upd ρ (107 + 8 * j + i) x b = ρ b := fun b hb => upd_ne _ _ (by omega)
  have oa : ∀ c, c < 8 → aimF (upd ρ (107 + 8 * j + i) x) c = aimF ρ c := fun c hc => by unfold aimF; rw [o _ (by omega), o _ (by omega)]
  unfold mbG heF
  rw [o (35 + k) (by omega), o (27 + k) (by omega), oa i (by omega), oa k (by omega)]
  by_cases e : k = j
  · subst e
    rw [if_pos rfl, if_neg (fun z => z.elim (fun z => hij z.symm) (fun z => by rw [hl.2] at z; exact absurd z (by decide))), if_pos hl.1, show 107 + 8 * k + i = 107 + (8 * k + i) by omega, upd_self]
  · rw [if_neg e, upd_ne _ _ (show 107 + (8 * k + i) ≠ 107 + 8 * j + i by omega), o (43 + (8 * k + i)) (by omega)]
theorem mb_eq {ρ : Nat → Int32} {n f j i B : Nat} {x : Int32} (hB : Bn ρ n B) (hB9 : B ≤ 1000000000) (hx : Wi 9999 x) (hl : liF ρ j) (hij : i ≠ j) (hn : n ≤ 8) (hj : j < n) (hi : i < n) (hf : ¬ n ≤ 2 * f) : fdF (ordF (mbG ρ j i x) n f + ordF (mbG ρ j i x) n (n - 1 - f)) (nI 2) - aimF ρ i = frD ρ n f j i x ∧ Wi (B + (B + 9999)) (frD ρ n f j i x) := by
  have hh : ∀ k, k < n → Wi (B + 9999) (mbG ρ j i x k) := fun k hk => by
    unfold mbG
    split
    · exact (hB.1 i hi).add hx (by omega)
    · exact hB.he hB9 hn hk hi
  have q := or_fl hh (by omega) hf
  have oa : aimF (upd ρ (107 + 8 * j + i) x) i = aimF ρ i := by unfold aimF; rw [upd_ne _ _ (by omega), upd_ne _ _ (by omega)]
  have e : frD ρ n f j i x = fl2 (ordF (mbG ρ j i x) n f + ordF (mbG ρ j i x) n (n - 1 - f)) - aimF ρ i := by
    unfold frD mdF
    rw [if_neg hf, oa, ordF_congr n (fun k hk => mb_he hl hij hn hj hi hk)]
  rw [e, q.1]
  refine ⟨rfl, ?_⟩
  have := q.2.sub (hB.1 i hi) (by omega)
  exact this.mono (by omega)
theorem ab_nn {x : Int32} {D : Nat} (h : Wi D x) (hD : D < 2147483648) : ¬ abF x ≤ -1 := by
  intro z
  have z' := Int32.le_iff_toInt_le.mp z
  have m1 : (-1 : Int32).toInt = -1 := by decide
  have h0 : (0 : Int32).toInt = 0 := by decide
  unfold abF at z'
  by_cases c : 0 ≤ x
  · rw [if_pos c] at z'
    have := Int32.le_iff_toInt_le.mp c
    omega
  · rw [if_neg c] at z'
    have c' := Int32.lt_iff_toInt_lt.mp (Int32.not_le.mp c)
    rw [Jvm.Kit.i32_neg (by have := h.1; omega)] at z'
    omega
theorem fr_3 {ρ : Nat → Int32} {n f j i : Nat} (h0 : ¬ abF (frD ρ n f j i (-9999)) ≤ -1) : (frS ρ n f j i 3).1 = if abF (frD ρ n f j i (nI 9999)) ≤ (if abF (frD ρ n f j i (nI 0)) ≤ abF (frD ρ n f j i (-9999)) then abF (frD ρ n f j i (-9999)) else abF (frD ρ n f j i (nI 0))) then (if abF (frD ρ n f j i (nI 0)) ≤ abF (frD ρ n f j i (-9999)) then nI 0 else nI 9999) else nI 19998 := by
  have l0 : lkF 0 = -9999 := by decide
  have l1 : lkF 1 = nI 0 := by decide
  have l2 : lkF 2 = nI 9999 := by decide
  have s1 : frS ρ n f j i 1 = (nI 0, abF (frD ρ n f j i (-9999))) := by
    show (if abF (frD ρ n f j i (lkF 0)) ≤ -1 then _ else _, if abF (frD ρ n f j i (lkF 0)) ≤ -1 then _ else _) = _
    rw [l0, if_neg h0, if_neg h0]
    rfl
  have s2 : frS ρ n f j i 2 = (if abF (frD ρ n f j i (nI 0)) ≤ abF (frD ρ n f j i (-9999)) then nI 0 else nI 9999, if abF (frD ρ n f j i (nI 0)) ≤ abF (frD ρ n f j i (-9999)) then abF (frD ρ n f j i (-9999)) else abF (frD ρ n f j i (nI 0))) := by
    show (if abF (frD ρ n f j i (lkF 1)) ≤ (frS ρ n f j i 1).2 then _ else _, if abF (frD ρ n f j i (lkF 1)) ≤ (frS ρ n f j i 1).2 then _ else _) = _
    rw [s1, l1]
    rfl
  have s3 : (frS ρ n f j i 3).1 = if abF (frD ρ n f j i (lkF 2)) ≤ (frS ρ n f j i 2).2 then (frS ρ n f j i 2).1 else lkF 2 + nI 9999 := by rw [frS]
  rw [s3]
  have a3 : nI 9999 + nI 9999 = nI 19998 := by decide
  rw [s2, l2, a3]
theorem fr_all {ρ : Nat → Int32} {n f j i : Nat} (hf : n ≤ 2 * f) (ht : trF ρ i) (hl : liF ρ j) : frF ρ n f j i = nI 0 := by
  have d : ∀ x, frD ρ n f j i x = 0 := fun x => by unfold frD mdF; rw [if_pos hf]; exact Int32.sub_self _
  unfold frF
  rw [if_pos ⟨ht, hl⟩, fr_3 (by rw [d]; decide), d, d, d]
  decide

theorem J.iincW {w : Wd} {y : MethodName} {cc : ByteArray} {mL : Nat} {rt : Option FieldType} {R : Room} {X : Array Value → State → Prop} {Qf : List Frame → Array Value → State → State → Prop} {L : List (Nat × Value)} {S : List Value} {n : Nat} {h : Nat → va_E} {ca sl : Nat} (pc : Nat) {i : Nat} {d : Int} {x : Int32} (hd : decode cc pc = .ok (.iinc i d, 6)) (v : Int32) (hx : lget L i = some (.int x)) (hv : x + Int32.ofInt d = v) (hn : i < mL) (k : J w y cc mL rt R X Qf (pc + 6) (lset L i (.int v)) S n h ca sl) : J w y cc mL rt R X Qf pc L S n h ca sl := by
  intro p e s m args below meth c C ls H locs hl hP hS
  obtain ⟨k0, hk0⟩ := List.getElem?_of_mem (lget_mem hx)
  exact lv_iincW C.1 C.2.1 hd hl hk0 hv hn rfl (fun ls' hl' => k p e s m args below meth c C ls' H locs (lins_has hl') hP hS)
theorem wi_m : Wi 9999 (-9999) := by unfold Wi; decide
theorem wi_0 : Wi 9999 (nI 0) := by unfold Wi; decide
theorem wi_p : Wi 9999 (nI 9999) := by unfold Wi; decide
theorem fr_r {ρ : Nat → Int32} {n f j i : Nat} {x : Int32} (h0 : ¬ abF (frD ρ n f j i (-9999)) ≤ -1) (ht : trF ρ i) (hl : liF ρ j) (h : (if abF (frD ρ n f j i (nI 9999)) ≤ (if abF (frD ρ n f j i (nI 0)) ≤ abF (frD ρ n f j i (-9999)) then abF (frD ρ n f j i (-9999)) else abF (frD ρ n f j i (nI 0))) then (if abF (frD ρ n f j i (nI 0)) ≤ abF (frD ρ n f j i (-9999)) then nI 0 else nI 9999) else nI 19998) = x) : frF ρ n f j i = x := by
  unfold frF
  rw [if_pos ⟨ht, hl⟩, fr_3 h0]
  exact h
theorem i99 : (-9999 : Int32) + nI 9999 = nI 0 := by decide
theorem i98 : nI 0 + nI 9999 = nI 9999 := by decide
theorem i97 : nI 9999 + nI 9999 = nI 19998 := by decide

set_option maxHeartbeats 600000 in
set_option maxRecDepth 100000 in
theorem c_X1_farthest (w : Wd) (v : Vm2) {q : Nat} (hq : IsS q) {ρ : Nat → Int32} {n ma : Nat} (hR : RepS v q ρ n ma) {f : Nat} (hW : Wf ρ n f ma) {j i B : Nat} (hj : j < n) (hi : i < n) (ht : trF ρ i) (hl : liF ρ j) (hB : Bn ρ n B) (hB9 : B ≤ 500000000) : CI w yX1_farthest cX1_farthest 8 (some .int) (rm 3 68) [.ref (wN w + 19), .ref (wN w + q), .int (nI j), .int (nI i)] v (fun r v' => r + nI 9999 = frF ρ n f j i ∧ FrC v' v) := by
  have hn := hW.2.1
  have hf3 := hW.2.2.2.1
  have hB8 : B ≤ 1000000000 := by omega
  have hij : i ≠ j := fun z => by have a := ht.1; have b := hl.1; rw [z, b] at a; exact absurd a (by decide)
  refine CI.of (by decide) (Nat.le_of_ble_eq_true rfl) ?_
  refine J.sipush 0 (-9999) dX1_farthest_0 (by decide +kernel) ?_
  refine J.istore 3 dX1_farthest_3 (by decide) ?_
  refine J.aload_n 5 dX1_farthest_5 rfl rfl ?_
  refine V.callvP 6 dX1_farthest_6 ml_RX1_52 mi_yX5_allStruck mv_yX5_allStruck (c_X5_allStruck w _ hq (hR.1.1.trans hW.1) (hR.1.2.1.trans hW.2.2.1) (by omega) (by omega)) rfl rfl (Nat.le_of_ble_eq_true rfl) (by decide) (by decide) hq.o rfl rfl ?_
  refine V.if_eqB 9 15 dX1_farthest_9 (by decide) (fun c9 => ?_) (fun c9 => ?_)
  · have hns := c9
    have h0 := ab_nn (mb_eq (x := -9999) (f := f) hB hB8 wi_m hl hij hn hj hi hns).2 (by omega)
    have K2 : ∀ (u : Vm2) (b bf : Int32), FrC u v → b + nI 9999 = (if abF (frD ρ n f j i (nI 0)) ≤ abF (frD ρ n f j i (-9999)) then nI 0 else nI 9999) → bf = (if abF (frD ρ n f j i (nI 0)) ≤ abF (frD ρ n f j i (-9999)) then abF (frD ρ n f j i (-9999)) else abF (frD ρ n f j i (nI 0))) → J w yX1_farthest cX1_farthest 8 (some .int) (rm 3 68) XT (ZJ w 185 0 0 (PI w (fun r v' => r + nI 9999 = frF ρ n f j i ∧ FrC v' v))) 38 [(0, .ref (wN w + 19)), (1, .ref (wN w + q)), (2, .int (nI j)), (3, .int (nI i)), (4, .int b), (5, .int bf), (6, .int (nI 9999))] [] 185 (hv w (u)) 0 0 := by
      intro u b bf hf9 hb9 hbf
      have hR9 := hR.frc hq hf9
      refine J.iload 38 dX1_farthest_38 rfl ?_
      refine J.sipush 40 (nI 9999) dX1_farthest_40 (by decide +kernel) ?_
      refine J.icmp_gt 43 90 dX1_farthest_43 (by decide) (fun q => absurd q (by decide)) (fun _ => ?_)
      refine J.aload_n 46 dX1_farthest_46 rfl rfl ?_
      refine J.aload_n 47 dX1_farthest_47 rfl rfl ?_
      refine J.iload_n 48 dX1_farthest_48 rfl rfl ?_
      refine J.iload_n 49 dX1_farthest_49 rfl rfl ?_
      refine J.iload 50 dX1_farthest_50 rfl ?_
      refine V.callv 52 dX1_farthest_52 ml_RX1_90 mi_yX1_middleByLie mv_yX1_middleByLie (c_X1_middleByLie w _ hq hR9 hW hj hi hns) rfl rfl (Nat.le_of_ble_eq_true rfl) (by decide) (by decide) o_19 rfl rfl (fun r52 v52 h52 => ?_)
      obtain ⟨rfl, hf8, -⟩ := h52
      have hf9 := hf8.trans hf9
      have hR9 := hR.frc hq hf9
      refine J.aload_n 55 dX1_farthest_55 rfl rfl ?_
      refine J.iload_n 56 dX1_farthest_56 rfl rfl ?_
      refine V.callvP 57 dX1_farthest_57 ml_RX1_87 mi_yX5_aim mv_yX5_aim (c_X5_aim w _ hq hR9 (by omega) (by omega)) rfl rfl (Nat.le_of_ble_eq_true rfl) (by decide) (by decide) hq.o rfl rfl ?_
      refine J.isub 60 dX1_farthest_60 ?_
      refine J.top (mb_eq (f := f) hB hB8 wi_p hl hij hn hj hi hns).1 ?_
      refine V.callsP 61 dX1_farthest_61 ml_RX1_94 mi_yJ9_abs_0f7a4 ms_yJ9_abs_0f7a4 (c_J9_abs_0f7a4 w _ _) rfl rfl (Nat.le_of_ble_eq_true rfl) (by decide) (by decide) ?_
      refine J.istore 64 dX1_farthest_64 (by decide) ?_
      refine J.iload 66 dX1_farthest_66 rfl ?_
      refine J.iload 68 dX1_farthest_68 rfl ?_
      refine J.icmp_le 70 81 dX1_farthest_70 (by decide) (fun c70 => ?_) (fun c70 => ?_)
      · have hz : (if abF (frD ρ n f j i (nI 9999)) ≤ (if abF (frD ρ n f j i (nI 0)) ≤ abF (frD ρ n f j i (-9999)) then abF (frD ρ n f j i (-9999)) else abF (frD ρ n f j i (nI 0))) then (if abF (frD ρ n f j i (nI 0)) ≤ abF (frD ρ n f j i (-9999)) then nI 0 else nI 9999) else nI 19998) = b + nI 9999 := by rw [← hbf, if_pos c70]; exact hb9.symm
        refine J.iincW 81 dX1_farthest_81 (nI 19998) rfl (by decide +kernel) (by decide) ?_
        refine J.goto 87 38 dX1_farthest_87 (by decide) ?_
        refine J.iload 38 dX1_farthest_38 rfl ?_
        refine J.sipush 40 (nI 9999) dX1_farthest_40 (by decide +kernel) ?_
        refine J.icmp_gt 43 90 dX1_farthest_43 (by decide) (fun _ => ?_) (fun q => absurd q (by decide))
        refine J.iload 90 dX1_farthest_90 rfl ?_
        exact V.iret 92 dX1_farthest_92 (⟨by first | exact (fr_r h0 ht hl hz).symm | exact i97.trans (fr_r h0 ht hl hz).symm, hf9⟩)
      · have hz : (if abF (frD ρ n f j i (nI 9999)) ≤ (if abF (frD ρ n f j i (nI 0)) ≤ abF (frD ρ n f j i (-9999)) then abF (frD ρ n f j i (-9999)) else abF (frD ρ n f j i (nI 0))) then (if abF (frD ρ n f j i (nI 0)) ≤ abF (frD ρ n f j i (-9999)) then nI 0 else nI 9999) else nI 19998) = nI 19998 := by rw [← hbf, if_neg c70]
        refine J.iload 73 dX1_farthest_73 rfl ?_
        refine J.istore 75 dX1_farthest_75 (by decide) ?_
        refine J.iload 77 dX1_farthest_77 rfl ?_
        refine J.istore 79 dX1_farthest_79 (by decide) ?_
        refine J.iincW 81 dX1_farthest_81 (nI 19998) rfl (by decide +kernel) (by decide) ?_
        refine J.goto 87 38 dX1_farthest_87 (by decide) ?_
        refine J.iload 38 dX1_farthest_38 rfl ?_
        refine J.sipush 40 (nI 9999) dX1_farthest_40 (by decide +kernel) ?_
        refine J.icmp_gt 43 90 dX1_farthest_43 (by decide) (fun _ => ?_) (fun q => absurd q (by decide))
        refine J.iload 90 dX1_farthest_90 rfl ?_
        exact V.iret 92 dX1_farthest_92 (⟨by first | exact (fr_r h0 ht hl hz).symm | exact i97.trans (fr_r h0 ht hl hz).symm, hf9⟩)
    have K1 : ∀ u : Vm2, FrC u v → J w yX1_farthest cX1_farthest 8 (some .int) (rm 3 68) XT (ZJ w 185 0 0 (PI w (fun r v' => r + nI 9999 = frF ρ n f j i ∧ FrC v' v))) 38 [(0, .ref (wN w + 19)), (1, .ref (wN w + q)), (2, .int (nI j)), (3, .int (nI i)), (4, .int (-9999)), (5, .int (abF (frD ρ n f j i (-9999)))), (6, .int (nI 0))] [] 185 (hv w (u)) 0 0 := by
      intro u hf9
      have hR9 := hR.frc hq hf9
      refine J.iload 38 dX1_farthest_38 rfl ?_
      refine J.sipush 40 (nI 9999) dX1_farthest_40 (by decide +kernel) ?_
      refine J.icmp_gt 43 90 dX1_farthest_43 (by decide) (fun q => absurd q (by decide)) (fun _ => ?_)
      refine J.aload_n 46 dX1_farthest_46 rfl rfl ?_
      refine J.aload_n 47 dX1_farthest_47 rfl rfl ?_
      refine J.iload_n 48 dX1_farthest_48 rfl rfl ?_
      refine J.iload_n 49 dX1_farthest_49 rfl rfl ?_
      refine J.iload 50 dX1_farthest_50 rfl ?_
      refine V.callv 52 dX1_farthest_52 ml_RX1_90 mi_yX1_middleByLie mv_yX1_middleByLie (c_X1_middleByLie w _ hq hR9 hW hj hi hns) rfl rfl (Nat.le_of_ble_eq_true rfl) (by decide) (by decide) o_19 rfl rfl (fun r52 v52 h52 => ?_)
      obtain ⟨rfl, hf8, -⟩ := h52
      have hf9 := hf8.trans hf9
      have hR9 := hR.frc hq hf9
      refine J.aload_n 55 dX1_farthest_55 rfl rfl ?_
      refine J.iload_n 56 dX1_farthest_56 rfl rfl ?_
      refine V.callvP 57 dX1_farthest_57 ml_RX1_87 mi_yX5_aim mv_yX5_aim (c_X5_aim w _ hq hR9 (by omega) (by omega)) rfl rfl (Nat.le_of_ble_eq_true rfl) (by decide) (by decide) hq.o rfl rfl ?_
      refine J.isub 60 dX1_farthest_60 ?_
      refine J.top (mb_eq (f := f) hB hB8 wi_0 hl hij hn hj hi hns).1 ?_
      refine V.callsP 61 dX1_farthest_61 ml_RX1_94 mi_yJ9_abs_0f7a4 ms_yJ9_abs_0f7a4 (c_J9_abs_0f7a4 w _ _) rfl rfl (Nat.le_of_ble_eq_true rfl) (by decide) (by decide) ?_
      refine J.istore 64 dX1_farthest_64 (by decide) ?_
      refine J.iload 66 dX1_farthest_66 rfl ?_
      refine J.iload 68 dX1_farthest_68 rfl ?_
      refine J.icmp_le 70 81 dX1_farthest_70 (by decide) (fun c70 => ?_) (fun c70 => ?_)
      · refine J.iincW 81 dX1_farthest_81 (nI 9999) rfl (by decide +kernel) (by decide) ?_
        refine J.goto 87 38 dX1_farthest_87 (by decide) ?_
        refine J.drop 7 ?_
        first | exact K2 _ _ _ hf9 (i99.trans (if_pos c70).symm) (if_pos c70).symm | exact K2 _ _ _ hf9 (i98.trans (if_neg c70).symm) (if_neg c70).symm
      · refine J.iload 73 dX1_farthest_73 rfl ?_
        refine J.istore 75 dX1_farthest_75 (by decide) ?_
        refine J.iload 77 dX1_farthest_77 rfl ?_
        refine J.istore 79 dX1_farthest_79 (by decide) ?_
        refine J.iincW 81 dX1_farthest_81 (nI 9999) rfl (by decide +kernel) (by decide) ?_
        refine J.goto 87 38 dX1_farthest_87 (by decide) ?_
        refine J.drop 7 ?_
        first | exact K2 _ _ _ hf9 (i99.trans (if_pos c70).symm) (if_pos c70).symm | exact K2 _ _ _ hf9 (i98.trans (if_neg c70).symm) (if_neg c70).symm
    refine J.aload_n 15 dX1_farthest_15 rfl rfl ?_
    refine J.aload_n 16 dX1_farthest_16 rfl rfl ?_
    refine J.iload_n 17 dX1_farthest_17 rfl rfl ?_
    refine J.iload_n 18 dX1_farthest_18 rfl rfl ?_
    refine J.iload 19 dX1_farthest_19 rfl ?_
    refine V.callv 21 dX1_farthest_21 ml_RX1_90 mi_yX1_middleByLie mv_yX1_middleByLie (c_X1_middleByLie w _ hq hR hW hj hi hns) rfl rfl (Nat.le_of_ble_eq_true rfl) (by decide) (by decide) o_19 rfl rfl (fun r21 v21 h21 => ?_)
    obtain ⟨rfl, hf8, -⟩ := h21
    have hf9 := hf8
    have hR9 := hR.frc hq hf9
    refine J.aload_n 24 dX1_farthest_24 rfl rfl ?_
    refine J.iload_n 25 dX1_farthest_25 rfl rfl ?_
    refine V.callvP 26 dX1_farthest_26 ml_RX1_87 mi_yX5_aim mv_yX5_aim (c_X5_aim w _ hq hR9 (by omega) (by omega)) rfl rfl (Nat.le_of_ble_eq_true rfl) (by decide) (by decide) hq.o rfl rfl ?_
    refine J.isub 29 dX1_farthest_29 ?_
    refine J.top (mb_eq (f := f) hB hB8 wi_m hl hij hn hj hi hns).1 ?_
    refine V.callsP 30 dX1_farthest_30 ml_RX1_94 mi_yJ9_abs_0f7a4 ms_yJ9_abs_0f7a4 (c_J9_abs_0f7a4 w _ _) rfl rfl (Nat.le_of_ble_eq_true rfl) (by decide) (by decide) ?_
    refine J.istore 33 dX1_farthest_33 (by decide) ?_
    refine J.iconst 35 (nI 0) dX1_farthest_35 (by decide +kernel) ?_
    refine J.istore 36 dX1_farthest_36 (by decide) ?_
    exact K1 _ hf9
  · refine J.iload 12 dX1_farthest_12 rfl ?_
    exact V.iret 14 dX1_farthest_14 (⟨by rw [fr_all c9 ht hl]; exact i99, FrC.rf v⟩)
theorem w_sk {ρ : Nat → Int32} {n f i k : Nat} {a : Int32} (h0 : 0 ≤ wIn ρ n f i k a) (hw : ¬ (i ≠ k ∧ trF ρ i ∧ trF ρ k)) : wIn ρ n f i (k + 1) a = wIn ρ n f i k a := by
  have e : wfar ρ n f i k = nI 0 := if_neg hw
  show (if wfar ρ n f i k ≤ wIn ρ n f i k a then _ else _) = _
  rw [e, if_pos (show nI 0 ≤ _ from h0)]
theorem w_mx {ρ : Nat → Int32} {n f i k : Nat} {a x : Int32} (hx : x = wfar ρ n f i k) : wIn ρ n f i (k + 1) a = maF (wIn ρ n f i k a) x := by
  subst hx
  show (if wfar ρ n f i k ≤ wIn ρ n f i k a then _ else _) = _
  unfold maF
  by_cases h : wIn ρ n f i k a < wfar ρ n f i k
  · rw [if_pos h, if_neg (Int32.not_le.mpr h)]
  · rw [if_neg h, if_pos (Int32.not_lt.mp h)]
theorem wIn_nn {ρ : Nat → Int32} {n f i : Nat} {a : Int32} (h : 0 ≤ a) : ∀ k, 0 ≤ wIn ρ n f i k a
  | 0 => h
  | k + 1 => by
    have ih := wIn_nn (ρ := ρ) (n := n) (f := f) (i := i) h k
    show 0 ≤ (if wfar ρ n f i k ≤ wIn ρ n f i k a then _ else _)
    by_cases c : wfar ρ n f i k ≤ wIn ρ n f i k a
    · rw [if_pos c]; exact ih
    · rw [if_neg c]; exact Int32.le_trans ih (Int32.le_of_lt (Int32.not_le.mp c))
theorem wOut_nn {ρ : Nat → Int32} {n f : Nat} : ∀ k, 0 ≤ wOut ρ n f k
  | 0 => by show (0 : Int32) ≤ nI 0; decide
  | k + 1 => wIn_nn (wOut_nn k) n
set_option maxHeartbeats 600000 in
set_option maxRecDepth 100000 in
theorem c_X1_widestPair (w : Wd) (v : Vm2) {q : Nat} (hq : IsS q) {ρ : Nat → Int32} {n ma : Nat} (hR : RepS v q ρ n ma) {f : Nat} (hW : Wf ρ n f ma) (hHL : ∀ i, i < n → trF ρ i → v 23 i = exF ρ n f i (-500000000) ∧ v 24 i = exF ρ n f i (nI 500000000)) : CI w yX1_widestPair cX1_widestPair 5 (some .int) (rm 2 42) [.ref (wN w + 19), .ref (wN w + q)] v (fun r v' => r = wOut ρ n f n ∧ v' = v) := by
  refine CI.of (by decide) (Nat.le_of_ble_eq_true rfl) ?_
  have hn := hW.2.1
  have l2 : ∀ (m : Nat) (i k : Nat), (i < n) → (k ≤ n) → (i < n → J w yX1_widestPair cX1_widestPair 5 (some .int) (rm 2 42) XT (ZJ w 185 0 0 (PI w (fun r v' => r = wOut ρ n f n ∧ v' = v))) 72 [(0, .ref (wN w + 19)), (1, .ref (wN w + q)), (2, .int (wIn ρ n f i n (wOut ρ n f i))), (3, .int (nI i))] [] 185 (hv w (v)) 0 0) → n - k < m → J w yX1_widestPair cX1_widestPair 5 (some .int) (rm 2 42) XT (ZJ w 185 0 0 (PI w (fun r v' => r = wOut ρ n f n ∧ v' = v))) 15 [(0, .ref (wN w + 19)), (1, .ref (wN w + q)), (2, .int (wIn ρ n f i k (wOut ρ n f i))), (3, .int (nI i)), (4, .int (nI k))] [] 185 (hv w (v)) 0 0 := by
    intro m
    induction m with
    | zero =>
      intro i k hi0 hi1 hi2 hm
      exact absurd hm (by omega)
    | succ m ih =>
      intro i k hi0 hi1 hi2 hm
      refine J.iload 15 dX1_widestPair_15 rfl ?_
      refine J.aload_n 17 dX1_widestPair_17 rfl rfl ?_
      refine V.getI 18 dX1_widestPair_18 fl_RX1_32 hq.i0 ?_
      refine J.top (b := nI n) (hR.1.1.trans hW.1) ?_
      refine V.icmp_ge 21 72 dX1_widestPair_21 (by decide) (by omega) (by omega) (fun c21 => ?_) (fun c21 => ?_)
      · obtain rfl : k = n := by omega
        refine J.drop 4 ?_
        exact hi2 hi0
      · refine J.iload_n 24 dX1_widestPair_24 rfl rfl ?_
        refine J.iload 25 dX1_widestPair_25 rfl ?_
        refine V.icmp_eq 27 66 dX1_widestPair_27 (by decide) (by omega) (by omega) (fun c27 => ?_) (fun c27 => ?_)
        · have e9 := w_sk (ρ := ρ) (f := f) (a := wOut ρ n f i) (wIn_nn (ρ := ρ) (n := n) (f := f) (i := i) (wOut_nn i) k) (show ¬ (i ≠ k ∧ trF ρ i ∧ trF ρ k) from fun z => z.1 c27)
          refine V.iinc 66 dX1_widestPair_66 rfl (by decide) ?_
          refine J.goto 69 15 dX1_widestPair_69 (by decide) ?_
          have q9 := ih i (k + 1) hi0 (by omega) (fun hh => hi2 hh) (by omega)
          rw [e9] at q9
          exact q9
        · refine J.aload_n 30 dX1_widestPair_30 rfl rfl ?_
          refine J.iload_n 31 dX1_widestPair_31 rfl rfl ?_
          refine V.callvP 32 dX1_widestPair_32 ml_RX1_56 mi_yX5_isTrue mv_yX5_isTrue (c_X5_isTrue w _ hq hR hW (by omega)) rfl rfl (Nat.le_of_ble_eq_true rfl) (by decide) (by decide) hq.o rfl rfl ?_
          refine V.if_eqB 35 66 dX1_widestPair_35 (by decide) (fun c35 => ?_) (fun c35 => ?_)
          · have e9 := w_sk (ρ := ρ) (f := f) (a := wOut ρ n f i) (wIn_nn (ρ := ρ) (n := n) (f := f) (i := i) (wOut_nn i) k) (show ¬ (i ≠ k ∧ trF ρ i ∧ trF ρ k) from fun z => c35 z.2.1)
            refine V.iinc 66 dX1_widestPair_66 rfl (by decide) ?_
            refine J.goto 69 15 dX1_widestPair_69 (by decide) ?_
            have q9 := ih i (k + 1) hi0 (by omega) (fun hh => hi2 hh) (by omega)
            rw [e9] at q9
            exact q9
          · refine J.aload_n 38 dX1_widestPair_38 rfl rfl ?_
            refine J.iload 39 dX1_widestPair_39 rfl ?_
            refine V.callvP 41 dX1_widestPair_41 ml_RX1_56 mi_yX5_isTrue mv_yX5_isTrue (c_X5_isTrue w _ hq hR hW (by omega)) rfl rfl (Nat.le_of_ble_eq_true rfl) (by decide) (by decide) hq.o rfl rfl ?_
            refine V.if_eqB 44 66 dX1_widestPair_44 (by decide) (fun c44 => ?_) (fun c44 => ?_)
            · have e9 := w_sk (ρ := ρ) (f := f) (a := wOut ρ n f i) (wIn_nn (ρ := ρ) (n := n) (f := f) (i := i) (wOut_nn i) k) (show ¬ (i ≠ k ∧ trF ρ i ∧ trF ρ k) from fun z => c44 z.2.2)
              refine V.iinc 66 dX1_widestPair_66 rfl (by decide) ?_
              refine J.goto 69 15 dX1_widestPair_69 (by decide) ?_
              have q9 := ih i (k + 1) hi0 (by omega) (fun hh => hi2 hh) (by omega)
              rw [e9] at q9
              exact q9
            · refine J.iload_n 47 dX1_widestPair_47 rfl rfl ?_
              refine J.aload_n 48 dX1_widestPair_48 rfl rfl ?_
              refine V.getR 49 dX1_widestPair_49 fl_RX1_25 r_19_3 ?_
              refine J.iload_n 52 dX1_widestPair_52 rfl rfl ?_
              refine V.iald 53 dX1_widestPair_53 a_24 (by omega) ?_
              refine J.top (hHL i (by omega) c35).2 ?_
              refine J.aload_n 54 dX1_widestPair_54 rfl rfl ?_
              refine V.getR 55 dX1_widestPair_55 fl_RX1_22 r_19_2 ?_
              refine J.iload 58 dX1_widestPair_58 rfl ?_
              refine V.iald 60 dX1_widestPair_60 a_23 (by omega) ?_
              refine J.top (hHL k (by omega) c44).1 ?_
              refine J.isub 61 dX1_widestPair_61 ?_
              have e9 := w_mx (a := wOut ρ n f i) (show _ = wfar ρ n f i k from (if_pos ⟨c27, c35, c44⟩).symm)
              refine V.callsP 62 dX1_widestPair_62 ml_RX1_127 mi_yJ9_max_7cf53 ms_yJ9_max_7cf53 (c_J9_max_7cf53 w _ _ _) rfl rfl (Nat.le_of_ble_eq_true rfl) (by decide) (by decide) ?_
              refine J.istore_n 65 dX1_widestPair_65 rfl (by decide) ?_
              refine V.iinc 66 dX1_widestPair_66 rfl (by decide) ?_
              refine J.goto 69 15 dX1_widestPair_69 (by decide) ?_
              have q9 := ih i (k + 1) hi0 (by omega) (fun hh => hi2 hh) (by omega)
              rw [e9] at q9
              exact q9
  have l1 : ∀ (m : Nat) (i : Nat), (i ≤ n) → n - i < m → J w yX1_widestPair cX1_widestPair 5 (some .int) (rm 2 42) XT (ZJ w 185 0 0 (PI w (fun r v' => r = wOut ρ n f n ∧ v' = v))) 4 [(0, .ref (wN w + 19)), (1, .ref (wN w + q)), (2, .int (wOut ρ n f i)), (3, .int (nI i))] [] 185 (hv w (v)) 0 0 := by
    intro m
    induction m with
    | zero =>
      intro i hi0 hm
      exact absurd hm (by omega)
    | succ m ih =>
      intro i hi0 hm
      have K72 : i < n → J w yX1_widestPair cX1_widestPair 5 (some .int) (rm 2 42) XT (ZJ w 185 0 0 (PI w (fun r v' => r = wOut ρ n f n ∧ v' = v))) 72 [(0, .ref (wN w + 19)), (1, .ref (wN w + q)), (2, .int (wIn ρ n f i n (wOut ρ n f i))), (3, .int (nI i))] [] 185 (hv w (v)) 0 0 := by
        intro hin
        refine V.iinc 72 dX1_widestPair_72 rfl (by decide) ?_
        refine J.goto 75 4 dX1_widestPair_75 (by decide) ?_
        exact ih (i + 1) (by omega) (by omega)
      refine J.iload_n 4 dX1_widestPair_4 rfl rfl ?_
      refine J.aload_n 5 dX1_widestPair_5 rfl rfl ?_
      refine V.getI 6 dX1_widestPair_6 fl_RX1_32 hq.i0 ?_
      refine J.top (b := nI n) (hR.1.1.trans hW.1) ?_
      refine V.icmp_ge 9 78 dX1_widestPair_9 (by decide) (by omega) (by omega) (fun c9 => ?_) (fun c9 => ?_)
      · refine J.iload_n 78 dX1_widestPair_78 rfl rfl ?_
        obtain rfl : i = n := by omega
        exact V.iret 79 dX1_widestPair_79 (⟨rfl, rfl⟩)
      · refine J.iconst 12 (nI 0) dX1_widestPair_12 (by decide +kernel) ?_
        refine J.istore 13 dX1_widestPair_13 (by decide) ?_
        exact l2 (n + 1) i 0 (by omega) (by omega) K72 (by omega)
  refine J.iconst 0 (nI 0) dX1_widestPair_0 (by decide +kernel) ?_
  refine J.istore_n 1 dX1_widestPair_1 rfl (by decide) ?_
  refine J.iconst 2 (nI 0) dX1_widestPair_2 (by decide +kernel) ?_
  refine J.istore_n 3 dX1_widestPair_3 rfl (by decide) ?_
  exact l1 (n + 1) 0 (by omega) (by omega)
def HL (u : Vm2) (ρ : Nat → Int32) (n f k : Nat) : Prop := ∀ i, i < k → trF ρ i → u 23 i = exF ρ n f i (-500000000) ∧ u 24 i = exF ρ n f i (nI 500000000)
theorem HL.n {u : Vm2} {ρ : Nat → Int32} {n f k : Nat} (h : HL u ρ n f k) (hk : ¬ trF ρ k) : HL u ρ n f (k + 1) := fun i h1 h2 => h i (by have : i ≠ k := fun z => hk (z ▸ h2); omega) h2
theorem HL.y {u u1 u2 : Vm2} {ρ : Nat → Int32} {n f k : Nat} {a b : Int32} (h : HL u ρ n f k) (e1 : u1 23 = u 23) (e2 : u1 24 = u 24) (e3 : u2 23 = up2 u1 23 k a 23) (e4 : u2 24 = up2 u1 23 k a 24) (ha : a = exF ρ n f k (-500000000)) (hb : b = exF ρ n f k (nI 500000000)) : HL (up2 u2 24 k b) ρ n f (k + 1) := by
  intro i h1 h2
  rw [up2_ne _ _ _ (show (23 : Nat) ≠ 24 by decide), e3]
  by_cases e : i = k
  · subst e
    rw [up2_self, up2_self]
    exact ⟨ha, hb⟩
  · rw [up2_o _ _ (fun z => e z.2), up2_o _ _ (fun z => e z.2), e1, e4, up2_ne _ _ _ (by decide), e2]
    exact h i (by omega) h2
set_option maxHeartbeats 600000 in
set_option maxRecDepth 100000 in
theorem c_X1_worst (w : Wd) (v : Vm2) {q : Nat} (hq : IsS q) {ρ : Nat → Int32} {n ma : Nat} (hR : RepS v q ρ n ma) {f : Nat} (hW : Wf ρ n f ma) {B : Nat} (hB : Bn ρ n B) (hB9 : B ≤ 400000000) : CI w yX1_worst cX1_worst 3 (some .int) (rm 3 67) [.ref (wN w + 19), .ref (wN w + q)] v (fun r v' => r = wrF ρ n f ∧ FrC v' v) := by
  have hn := hW.2.1
  have hf3 := hW.2.2.2.1
  have hB8 : B ≤ 1000000000 := by omega
  have hct := cntT_le ρ n
  have hcl := cntL_le ρ n
  refine CI.of (by decide) (Nat.le_of_ble_eq_true rfl) ?_
  refine J.aload_n 0 dX1_worst_0 rfl rfl ?_
  refine V.callvP 1 dX1_worst_1 ml_RX1_99 mi_yX5_trueSet mv_yX5_trueSet (c_X5_trueSet w _ hq hR hW) rfl rfl (Nat.le_of_ble_eq_true rfl) (by decide) (by decide) hq.o rfl rfl ?_
  refine V.callsP 4 dX1_worst_4 ml_RX1_102 mi_yJ6_bitCount_0f7a4 ms_yJ6_bitCount_0f7a4 (c_J6_bitCount_0f7a4 w _ _) rfl rfl (Nat.le_of_ble_eq_true rfl) (by decide) (by decide) ?_
  refine J.top (ts_cn hn) ?_
  refine J.iconst 7 (nI 2) dX1_worst_7 (by decide +kernel) ?_
  refine V.icmp_lt 8 18 dX1_worst_8 (by decide) (by omega) (by omega) (fun c8 => ?_) (fun c8 => ?_)
  · refine J.aload_n 18 dX1_worst_18 rfl rfl ?_
    refine V.callvP 19 dX1_worst_19 ml_RX1_107 mi_yX5_apart mv_yX5_apart (c_X5_apart w _ hq hR hW) rfl rfl (Nat.le_of_ble_eq_true rfl) (by decide) (by decide) hq.o rfl rfl ?_
    exact V.iret 22 dX1_worst_22 (⟨by first | (unfold wrF; rw [if_pos c8]; exact ap_few c8) | (unfold wrF; rw [if_neg (by omega), if_pos c15]), FrC.rf v⟩)
  · refine J.aload_n 11 dX1_worst_11 rfl rfl ?_
    refine V.callvP 12 dX1_worst_12 ml_RX1_52 mi_yX5_allStruck mv_yX5_allStruck (c_X5_allStruck w _ hq (hR.1.1.trans hW.1) (hR.1.2.1.trans hW.2.2.1) (by omega) (by omega)) rfl rfl (Nat.le_of_ble_eq_true rfl) (by decide) (by decide) hq.o rfl rfl ?_
    refine V.if_eqB 15 23 dX1_worst_15 (by decide) (fun c15 => ?_) (fun c15 => ?_)
    · have hns := c15
      refine J.aload_n 23 dX1_worst_23 rfl rfl ?_
      refine V.getI 24 dX1_worst_24 fl_RX1_110 hq.i3 ?_
      refine J.top hR.2.1.1 ?_
      refine J.aload_n 27 dX1_worst_27 rfl rfl ?_
      refine V.getI 28 dX1_worst_28 fl_RX1_77 hq.i4 ?_
      refine J.top hR.2.1.2.1 ?_
      refine J.iconst 31 (-1) dX1_worst_31 (by decide +kernel) ?_
      refine J.ixor 32 dX1_worst_32 ?_
      refine J.iand 33 dX1_worst_33 ?_
      refine V.callsP 34 dX1_worst_34 ml_RX1_102 mi_yJ6_bitCount_0f7a4 ms_yJ6_bitCount_0f7a4 (c_J6_bitCount_0f7a4 w _ _) rfl rfl (Nat.le_of_ble_eq_true rfl) (by decide) (by decide) ?_
      refine J.top (li_cn hW) ?_
      refine J.aload_n 37 dX1_worst_37 rfl rfl ?_
      refine V.getI 38 dX1_worst_38 fl_RX1_45 hq.i1 ?_
      refine J.top (b := nI f) (hR.1.2.1.trans hW.2.2.1) ?_
      refine V.icmp_le 41 47 dX1_worst_41 (by decide) (by omega) (by omega) (fun c41 => ?_) (fun c41 => ?_)
      · have hl9 := c41
        have lp : ∀ (m : Nat) (k : Nat) (u : Vm2), (k ≤ n) → (RepS u q ρ n ma) → (FrC u v) → (HL u ρ n f k) → n - k < m → J w yX1_worst cX1_worst 3 (some .int) (rm 3 67) XT (ZJ w 185 0 0 (PI w (fun r v' => r = wrF ρ n f ∧ FrC v' v))) 49 [(0, .ref (wN w + 19)), (1, .ref (wN w + q)), (2, .int (nI k))] [] 185 (hv w (u)) 0 0 := by
          intro m
          induction m with
          | zero =>
            intro k u hi0 hi1 hi2 hi3 hm
            exact absurd hm (by omega)
          | succ m ih =>
            intro k u hi0 hi1 hi2 hi3 hm
            refine J.iload_n 49 dX1_worst_49 rfl rfl ?_
            refine J.aload_n 50 dX1_worst_50 rfl rfl ?_
            refine V.getI 51 dX1_worst_51 fl_RX1_32 hq.i0 ?_
            refine J.top (b := nI n) (hi1.1.1.trans hW.1) ?_
            refine V.icmp_ge 54 99 dX1_worst_54 (by decide) (by omega) (by omega) (fun c54 => ?_) (fun c54 => ?_)
            · obtain rfl : k = n := by omega
              refine J.aload_n 99 dX1_worst_99 rfl rfl ?_
              refine J.aload_n 100 dX1_worst_100 rfl rfl ?_
              refine V.callvP 101 dX1_worst_101 ml_RX1_120 mi_yX1_widestPair mv_yX1_widestPair (c_X1_widestPair w _ hq hi1 hW hi3) rfl rfl (Nat.le_of_ble_eq_true rfl) (by decide) (by decide) o_19 rfl rfl ?_
              exact V.iret 104 dX1_worst_104 (⟨by unfold wrF; rw [if_neg (by omega), if_neg hns, if_neg (by omega)], hi2⟩)
            · refine J.aload_n 57 dX1_worst_57 rfl rfl ?_
              refine J.iload_n 58 dX1_worst_58 rfl rfl ?_
              refine V.callvP 59 dX1_worst_59 ml_RX1_56 mi_yX5_isTrue mv_yX5_isTrue (c_X5_isTrue w _ hq hi1 hW (by omega)) rfl rfl (Nat.le_of_ble_eq_true rfl) (by decide) (by decide) hq.o rfl rfl ?_
              refine V.if_eqB 62 93 dX1_worst_62 (by decide) (fun c62 => ?_) (fun c62 => ?_)
              · refine V.iinc 93 dX1_worst_93 rfl (by decide) ?_
                refine J.goto 96 49 dX1_worst_96 (by decide) ?_
                first | exact ih (k + 1) _ (by omega) hi1 hi2 (hi3.n c62) (by omega) | exact ih (k + 1) _ (by omega) (hR7.frc hq (h89b.up (by omega) (by omega))) (((h89b.trans (h75b.up (by omega) (by omega))).trans hi2).up (by omega) (by omega)) (hi3.y h75d h75e h89d h89e (h75a.trans (ex_dn (fun j hj => hB.he hB8 hn hj c54) (by omega) hns hl9)) (h89a.trans (ex_up (fun j hj => hB.he hB8 hn hj c54) (by omega) hns hl9))) (by omega)
              · refine J.aload_n 65 dX1_worst_65 rfl rfl ?_
                refine V.getR 66 dX1_worst_66 fl_RX1_22 r_19_2 ?_
                refine J.iload_n 69 dX1_worst_69 rfl rfl ?_
                refine J.aload_n 70 dX1_worst_70 rfl rfl ?_
                refine J.aload_n 71 dX1_worst_71 rfl rfl ?_
                refine J.iload_n 72 dX1_worst_72 rfl rfl ?_
                refine J.ldc 73 (-1000000000) dX1_worst_73 kc_RX1_114 ?_
                refine V.callv 75 dX1_worst_75 ml_RX1_115 mi_yX1_middleWithLiarsAt mv_yX1_middleWithLiarsAt (c_X1_middleWithLiarsAt w _ hq hi1 hW c54 hns) rfl rfl (Nat.le_of_ble_eq_true rfl) (by decide) (by decide) o_19 rfl rfl (fun r75 v75 h75 => ?_)
                obtain ⟨h75a, h75b, h75c, h75d, h75e⟩ := h75
                refine V.iast 78 dX1_worst_78 a_23 (by omega) ?_
                have hR7 := hi1.frc hq (h75b.up (k := 23) (i := k) (x := r75) (by omega) (by omega))
                refine J.aload_n 79 dX1_worst_79 rfl rfl ?_
                refine V.getR 80 dX1_worst_80 fl_RX1_25 r_19_3 ?_
                refine J.iload_n 83 dX1_worst_83 rfl rfl ?_
                refine J.aload_n 84 dX1_worst_84 rfl rfl ?_
                refine J.aload_n 85 dX1_worst_85 rfl rfl ?_
                refine J.iload_n 86 dX1_worst_86 rfl rfl ?_
                refine J.ldc 87 (1000000000) dX1_worst_87 kc_RX1_119 (J.top (b := nI 1000000000) (by decide +kernel) ?_)
                refine V.callv 89 dX1_worst_89 ml_RX1_115 mi_yX1_middleWithLiarsAt mv_yX1_middleWithLiarsAt (c_X1_middleWithLiarsAt w _ hq hR7 hW c54 hns) rfl rfl (Nat.le_of_ble_eq_true rfl) (by decide) (by decide) o_19 rfl rfl (fun r89 v89 h89 => ?_)
                obtain ⟨h89a, h89b, h89c, h89d, h89e⟩ := h89
                refine V.iast 92 dX1_worst_92 a_24 (by omega) ?_
                refine V.iinc 93 dX1_worst_93 rfl (by decide) ?_
                refine J.goto 96 49 dX1_worst_96 (by decide) ?_
                first | exact ih (k + 1) _ (by omega) hi1 hi2 (hi3.n c62) (by omega) | exact ih (k + 1) _ (by omega) (hR7.frc hq (h89b.up (by omega) (by omega))) (((h89b.trans (h75b.up (by omega) (by omega))).trans hi2).up (by omega) (by omega)) (hi3.y h75d h75e h89d h89e (h75a.trans (ex_dn (fun j hj => hB.he hB8 hn hj c54) (by omega) hns hl9)) (h89a.trans (ex_up (fun j hj => hB.he hB8 hn hj c54) (by omega) hns hl9))) (by omega)
        refine J.iconst 47 (nI 0) dX1_worst_47 (by decide +kernel) ?_
        refine J.istore_n 48 dX1_worst_48 rfl (by decide) ?_
        exact lp (n + 1) 0 v (by omega) hR (FrC.rf v) (fun i hi => absurd hi (by omega)) (by omega)
      · refine J.ldc 44 (1000000) dX1_worst_44 kc_RX1_113 (J.top (b := nI 1000000) (by decide +kernel) ?_)
        exact V.iret 46 dX1_worst_46 (⟨by unfold wrF; rw [if_neg (by omega), if_neg c15, if_pos c41], FrC.rf v⟩)
    · refine J.aload_n 18 dX1_worst_18 rfl rfl ?_
      refine V.callvP 19 dX1_worst_19 ml_RX1_107 mi_yX5_apart mv_yX5_apart (c_X5_apart w _ hq hR hW) rfl rfl (Nat.le_of_ble_eq_true rfl) (by decide) (by decide) hq.o rfl rfl ?_
      exact V.iret 22 dX1_worst_22 (⟨by first | (unfold wrF; rw [if_pos c8]; exact ap_few c8) | (unfold wrF; rw [if_neg (by omega), if_pos c15]), FrC.rf v⟩)
