/-! ===== part 48: texts, books, images, what is undone ===== -/
theorem Mr.txt {u v b c : Vm2} {n f ma K nx s wr a B s' : Nat} (h : Mr v b n f ma K nx s wr a B) (hu : ∀ k, k ≠ 17 → k ≠ 18 → (k < 9 ∨ 17 ≤ k) → k < 178 → u k = v k) (hc : ∀ k, 179 ≤ k → k ≠ 180 → c k = b k) (h9 : ∀ i, i ≠ 4 → i ≠ 5 → c 178 i = b 178 i) (ht : u 17 1 = nI s' ∧ c 178 4 = nI s' ∧ s' ≤ 200 ∧ u 18 = c 180 ∧ u 17 5 = c 178 5) : Mr u c n f ma K nx s' wr a B := by
  obtain ⟨h1, h2, h3, h4, h5, h6, h7, h8⟩ := h
  have g := hc 179 (by omega) (by omega)
  have hq : ∀ q x, 25 ≤ q → q + 8 ≤ 178 → HsR v b q x B → HsR u c q x B := fun q x q1 q2 z => z.cg (Nat.le_refl B) (fun k k1 k2 => hu k (by omega) (by omega) (by omega) (by omega)) (fun k _ => by rw [g])
  refine ⟨?_, ?_, fun k hk => ?_, ht, ?_, ?_, ?_, fun i hi => ?_⟩
  · rw [g]; exact ⟨h1.1.same (fun k k1 k2 => hu k (by omega) (by omega) (by omega) (by omega)), h1.2⟩
  · rw [hu 25 (by omega) (by omega) (by omega) (by omega), h9 1 (by omega) (by omega)]; exact h2
  · exact hq _ _ (by omega) (by omega) (h3 k hk)
  · rw [hu 155 (by omega) (by omega) (by omega) (by omega), hu 156 (by omega) (by omega) (by omega) (by omega), hu 157 (by omega) (by omega) (by omega) (by omega), h9 8 (by omega) (by omega), hc 181 (by omega) (by omega), hc 182 (by omega) (by omega)]; exact h5
  · rw [hu 158 (by omega) (by omega) (by omega) (by omega), g]; exact h6
  · rw [hu 177 (by omega) (by omega) (by omega) (by omega), h9 2 (by omega) (by omega)]; exact h7
  · rw [hu 177 (by omega) (by omega) (by omega) (by omega), hu 176 (by omega) (by omega) (by omega) (by omega), g]
    rcases h8 i hi with z | ⟨z1, z2, z3⟩
    · exact Or.inl z
    · exact Or.inr ⟨z1, hq _ _ (by omega) (by omega) z2, z3⟩
theorem Mr.boo {u v b c : Vm2} {n f ma K nx s wr a B wr' : Nat} (h : Mr v b n f ma K nx s wr a B) (hu : ∀ k, (k < 155 ∨ 158 ≤ k) → k < 178 → u k = v k) (hc : ∀ k, 179 ≤ k → k ≠ 181 → k ≠ 182 → c k = b k) (h9 : ∀ i, i ≠ 8 → c 178 i = b 178 i) (ht : u 155 2 = nI wr' ∧ c 178 8 = nI wr' ∧ wr' ≤ 20 ∧ u 156 = c 181 ∧ u 157 = c 182) : Mr u c n f ma K nx s wr' a B := by
  obtain ⟨h1, h2, h3, h4, h5, h6, h7, h8⟩ := h
  have g := hc 179 (by omega) (by omega) (by omega)
  have hq : ∀ q x, (q + 8 ≤ 155 ∨ 158 ≤ q) → q + 8 ≤ 178 → HsR v b q x B → HsR u c q x B := fun q x q1 q2 z => z.cg (Nat.le_refl B) (fun k k1 k2 => hu k (by omega) (by omega)) (fun k _ => by rw [g])
  refine ⟨?_, ?_, fun k hk => ?_, ?_, ht, ?_, ?_, fun i hi => ?_⟩
  · rw [g]; exact ⟨h1.1.same (fun k k1 k2 => hu k (by omega) (by omega)), h1.2⟩
  · rw [hu 25 (by omega) (by omega), h9 1 (by omega)]; exact h2
  · exact hq _ _ (by omega) (by omega) (h3 k hk)
  · rw [hu 17 (by omega) (by omega), hu 18 (by omega) (by omega), h9 4 (by omega), h9 5 (by omega), hc 180 (by omega) (by omega) (by omega)]; exact h4
  · rw [hu 158 (by omega) (by omega), g]; exact h6
  · rw [hu 177 (by omega) (by omega), h9 2 (by omega)]; exact h7
  · rw [hu 177 (by omega) (by omega), hu 176 (by omega) (by omega), g]
    rcases h8 i hi with z | ⟨z1, z2, z3⟩
    · exact Or.inl z
    · exact Or.inr ⟨z1, hq _ _ (by omega) (by omega) z2, z3⟩
theorem Mr.see {u v b c : Vm2} {n f ma K nx s wr a B a' : Nat} (h : Mr v b n f ma K nx s wr a B) (hu : ∀ k, k ≠ 158 → k < 178 → u k = v k) (hc : ∀ k, 178 ≤ k → k ≠ 179 → c k = b k) (h9 : ∀ i, i ≠ 191 → c 179 i = b 179 i) (ht : u 158 0 = nI a' ∧ c 179 191 = nI a' ∧ a' < 2 ^ 31) : Mr u c n f ma K nx s wr a' B := by
  obtain ⟨h1, h2, h3, h4, h5, h6, h7, h8⟩ := h
  have hn := h1.2.1.2.1
  have hma := h1.2.1.2.2.2.2.2.2.1
  have hq : ∀ q x, (q + 8 ≤ 158 ∨ 159 ≤ q) → q + 8 ≤ 178 → 192 ≤ x → HsR v b q x B → HsR u c q x B := fun q x q1 q2 q3 z => z.cg (Nat.le_refl B) (fun k k1 k2 => hu k (by omega) (by omega)) (fun k _ => h9 _ (by omega))
  refine ⟨⟨?_, ?_, ?_⟩, ?_, fun k hk => ?_, ?_, ?_, ht, ?_, fun i hi => ?_⟩
  · exact (h1.1.same (fun k k1 k2 => hu k (by omega) (by omega))).cg hn hma (fun k hk => h9 k (by omega))
  · exact h1.2.1.cg9 (fun k hk => h9 k (by omega))
  · exact h1.2.2.cg hn (fun k hk => h9 k (by omega))
  · rw [hu 25 (by omega) (by omega), hc 178 (by omega) (by omega)]; exact h2
  · exact hq _ _ (by omega) (by omega) (by omega) (h3 k hk)
  · rw [hu 17 (by omega) (by omega), hu 18 (by omega) (by omega), hc 178 (by omega) (by omega), hc 180 (by omega) (by omega)]; exact h4
  · rw [hu 155 (by omega) (by omega), hu 156 (by omega) (by omega), hu 157 (by omega) (by omega), hc 178 (by omega) (by omega), hc 181 (by omega) (by omega), hc 182 (by omega) (by omega)]; exact h5
  · rw [hu 177 (by omega) (by omega), hc 178 (by omega) (by omega)]; exact h7
  · rw [hu 177 (by omega) (by omega), hu 176 (by omega) (by omega), h9 _ (by omega)]
    rcases h8 i hi with z | ⟨z1, z2, z3⟩
    · exact Or.inl z
    · exact Or.inr ⟨z1, hq _ _ (by omega) (by omega) (by omega) z2, z3⟩
theorem cp_in {b : Vm2} {x y k : Nat} (hk : k < 192) : cpR b x y 179 (y + k) = b 179 (x + k) := by
  unfold cpR cpK
  rw [if_pos ⟨rfl, by omega, by omega⟩]
  exact congrArg (b 179) (by omega)
theorem cp_out {b : Vm2} {x y k : Nat} (hk : k < y ∨ y + 192 ≤ k) : cpR b x y 179 k = b 179 k := by
  unfold cpR cpK
  rw [if_neg (by omega)]
theorem cp_o {b : Vm2} {x y c : Nat} (hc : c ≠ 179) : cpR b x y c = b c := by
  funext k
  unfold cpR cpK
  rw [if_neg (fun z => hc z.1)]
/-- undone -/
theorem Mr.und {u v b : Vm2} {n f ma K nx s wr a B t : Nat} (h : Mr v b n f ma K nx s wr a B) (ht1 : 1 ≤ t) (ht : t ≤ K) (hu : Cp u (up2 (up2 v 25 1 (nI ((nx + 16 - t) % 16))) 25 2 (nI (K - t))) 1 (27 + 8 * ((nx + 16 - t) % 16)) 8) : u 1 7 = b 179 (192 * (K - t + 1) + 190) ∧ ∃ n' f' ma', Mr u (up2 (cpR (up2 b 178 1 (nI (K - t))) (192 * (K - t + 1)) 0) 179 191 (b 179 191)) n' f' ma' (K - t) ((nx + 16 - t) % 16) s wr a B := by
  obtain ⟨h1, h2, h3, h4, h5, h6, h7, h8⟩ := h
  have hK := h2.2.2.2.1
  have hnx := h2.2.1
  obtain ⟨n', f', ma', r1, r2, r3⟩ := h3 (K - t) (by omega)
  have ei : (nx + 16 - K + (K - t)) % 16 = (nx + 16 - t) % 16 := by omega
  rw [ei] at r1
  have hn := r2.2.1
  have hma := r2.2.2.2.2.2.2.1
  have o : ∀ k, k ≠ 25 → (up2 (up2 v 25 1 (nI ((nx + 16 - t) % 16))) 25 2 (nI (K - t))) k = v k := fun k hk => by rw [up2_ne _ _ _ hk, up2_ne _ _ _ hk]
  have hf : ∀ k, 9 ≤ k → k ≠ 25 → u k = v k := fun k k1 k2 => (hu.1 k (by omega)).trans (o k k2)
  have hR := hu.rep hn hma (r1.same (fun k k1 k2 => o k (by omega)))
  have e0 : ∀ k, k < 191 → (up2 (cpR (up2 b 178 1 (nI (K - t))) (192 * (K - t + 1)) 0) 179 191 (b 179 191)) 179 k = ro b (192 * (K - t + 1)) k := fun k hk => by
    rw [up2_o _ _ (by omega)]
    have := cp_in (b := up2 b 178 1 (nI (K - t))) (x := 192 * (K - t + 1)) (y := 0) (k := k) (by omega)
    rw [Nat.zero_add] at this
    rw [this, up2_ne _ _ _ (by decide)]
    rfl
  have e1 : ∀ k, 192 ≤ k → (up2 (cpR (up2 b 178 1 (nI (K - t))) (192 * (K - t + 1)) 0) 179 191 (b 179 191)) 179 k = b 179 k := fun k hk => by
    rw [up2_o _ _ (by omega), cp_out (by omega), up2_ne _ _ _ (by decide)]
  have e8 : ∀ i, i ≠ 1 → (up2 (cpR (up2 b 178 1 (nI (K - t))) (192 * (K - t + 1)) 0) 179 191 (b 179 191)) 178 i = b 178 i := fun i hi => by
    rw [up2_ne _ _ _ (by decide), cp_o (by decide), up2_o _ _ (by omega)]
  have ec : ∀ k, 180 ≤ k → (up2 (cpR (up2 b 178 1 (nI (K - t))) (192 * (K - t + 1)) 0) 179 191 (b 179 191)) k = b k := fun k hk => by
    rw [up2_ne _ _ _ (by omega), cp_o (by omega), up2_ne _ _ _ (by omega)]
  have u25 : u 25 = (up2 (up2 v 25 1 (nI ((nx + 16 - t) % 16))) 25 2 (nI (K - t))) 25 := hu.1 25 (by omega)
  refine ⟨hR.1.2.2.2.2, n', f', ma', ⟨hR.cg hn hma e0, r2.cg9 e0, r3.cg hn (fun k hk => e0 k (by omega))⟩, ⟨?_, by omega, ?_, by omega, ?_⟩, fun k hk => ?_, ?_, ?_, ⟨?_, up2_self _ _ _ _ |>.trans h6.2.1, h6.2.2⟩, ?_, fun i hi => ?_⟩
  · rw [u25, up2_o _ _ (by omega), up2_self]
  · rw [u25, up2_self]
  · rw [up2_ne _ _ _ (by decide), cp_o (by decide), up2_self]
  · have ek : ((nx + 16 - t) % 16 + 16 - (K - t) + k) % 16 = (nx + 16 - K + k) % 16 := by omega
    rw [ek]
    exact (h3 k (by omega)).cg (Nat.le_refl B) (fun j j1 j2 => hf j (by omega) (by omega)) (fun j hj => e1 _ (by omega))
  · rw [hf 17 (by omega) (by omega), hf 18 (by omega) (by omega), e8 4 (by omega), e8 5 (by omega), ec 180 (by omega)]; exact h4
  · rw [hf 155 (by omega) (by omega), hf 156 (by omega) (by omega), hf 157 (by omega) (by omega), e8 8 (by omega), ec 181 (by omega), ec 182 (by omega)]; exact h5
  · rw [hf 158 (by omega) (by omega)]; exact h6.1
  · rw [hf 177 (by omega) (by omega), e8 2 (by omega)]; exact h7
  · rw [hf 177 (by omega) (by omega), hf 176 (by omega) (by omega), e1 _ (by omega)]
    rcases h8 i hi with z | ⟨z1, z2, z3⟩
    · exact Or.inl z
    · exact Or.inr ⟨z1, z2.cg (Nat.le_refl B) (fun j j1 j2 => hf j (by omega) (by omega)) (fun j hj => e1 _ (by omega)), z3⟩
theorem isS_im : ∀ i, i < 2 → IsS (160 + 8 * i) := by
  intro i hi
  obtain rfl | rfl : i = 0 ∨ i = 1 := by omega
  · exact isS_160
  · exact isS_168
theorem im_el : ∀ i, i < 2 → ([160, 168] : List Nat)[i]? = some (160 + 8 * i) := by decide
/-- an image kept -/
theorem Mr.kee {u v b : Vm2} {n f ma K nx s wr a B i : Nat} (h : Mr v b n f ma K nx s wr a B) (hi : i < 2) (hu : Cp u v (160 + 8 * i) 1 8) : Mr (up2 (up2 (up2 u 176 i (nI a)) 177 i (nI 1)) 25 2 (nI 0)) (up2 (up2 (cpR b 0 (3264 + 192 * i)) 178 2 (b 178 2 ||| (nI 1 <<< (nI i &&& 31)))) 178 1 (nI 0)) n f ma 0 nx s wr a B := by
  obtain ⟨h1, h2, h3, h4, h5, h6, h7, h8⟩ := h
  have hn := h1.2.1.2.1
  have hma := h1.2.1.2.2.2.2.2.2.1
  have hw : ∀ k, k ≠ 176 → k ≠ 177 → k ≠ 25 → (up2 (up2 (up2 u 176 i (nI a)) 177 i (nI 1)) 25 2 (nI 0)) k = u k := fun k k1 k2 k3 => by rw [up2_ne _ _ _ k3, up2_ne _ _ _ k2, up2_ne _ _ _ k1]
  have hf : ∀ k, k ≠ 176 → k ≠ 177 → k ≠ 25 → (k < 160 + 8 * i ∨ 160 + 8 * i + 8 ≤ k) → (up2 (up2 (up2 u 176 i (nI a)) 177 i (nI 1)) 25 2 (nI 0)) k = v k := fun k k1 k2 k3 k4 => (hw k k1 k2 k3).trans (hu.1 k k4)
  have e0 : ∀ k, (k < 3264 + 192 * i ∨ 3264 + 192 * i + 192 ≤ k) → (up2 (up2 (cpR b 0 (3264 + 192 * i)) 178 2 (b 178 2 ||| (nI 1 <<< (nI i &&& 31)))) 178 1 (nI 0)) 179 k = b 179 k := fun k hk => by
    rw [up2_ne _ _ _ (by decide), up2_ne _ _ _ (by decide), cp_out hk]
  have ei : ∀ k, k < 192 → (up2 (up2 (cpR b 0 (3264 + 192 * i)) 178 2 (b 178 2 ||| (nI 1 <<< (nI i &&& 31)))) 178 1 (nI 0)) 179 (3264 + 192 * i + k) = b 179 k := fun k hk => by
    rw [up2_ne _ _ _ (by decide), up2_ne _ _ _ (by decide), cp_in hk, Nat.zero_add]
  have e8 : ∀ j, j ≠ 1 → j ≠ 2 → (up2 (up2 (cpR b 0 (3264 + 192 * i)) 178 2 (b 178 2 ||| (nI 1 <<< (nI i &&& 31)))) 178 1 (nI 0)) 178 j = b 178 j := fun j j1 j2 => by
    rw [up2_o _ _ (by omega), up2_o _ _ (by omega), cp_o (by decide)]
  have ec : ∀ k, 180 ≤ k → (up2 (up2 (cpR b 0 (3264 + 192 * i)) 178 2 (b 178 2 ||| (nI 1 <<< (nI i &&& 31)))) 178 1 (nI 0)) k = b k := fun k hk => by
    rw [up2_ne _ _ _ (by omega), up2_ne _ _ _ (by omega), cp_o (by omega)]
  have w7 : ∀ j, j ≠ i → (up2 (up2 (up2 u 176 i (nI a)) 177 i (nI 1)) 25 2 (nI 0)) 177 j = v 177 j := fun j hj => by
    rw [up2_ne _ _ _ (by decide), up2_o _ _ (by omega), up2_ne _ _ _ (by decide), hu.1 177 (by omega)]
  have w7i : (up2 (up2 (up2 u 176 i (nI a)) 177 i (nI 1)) 25 2 (nI 0)) 177 i = nI 1 := by rw [up2_ne _ _ _ (by decide), up2_self]
  have w6 : ∀ j, j ≠ i → (up2 (up2 (up2 u 176 i (nI a)) 177 i (nI 1)) 25 2 (nI 0)) 176 j = v 176 j := fun j hj => by
    rw [up2_ne _ _ _ (by decide), up2_ne _ _ _ (by decide), up2_o _ _ (by omega), hu.1 176 (by omega)]
  have w6i : (up2 (up2 (up2 u 176 i (nI a)) 177 i (nI 1)) 25 2 (nI 0)) 176 i = nI a := by rw [up2_ne _ _ _ (by decide), up2_ne _ _ _ (by decide), up2_self]
  refine ⟨⟨?_, ?_, ?_⟩, ⟨?_, h2.2.1, up2_self _ _ _ _, by omega, up2_self _ _ _ _⟩, fun k hk => absurd hk (by omega), ?_, ?_, ?_, ?_, fun j hj => ?_⟩
  · exact (h1.1.same (fun k k1 k2 => hf k (by omega) (by omega) (by omega) (by omega))).cg hn hma (fun k hk => e0 k (by omega))
  · exact h1.2.1.cg9 (fun k hk => e0 k (by omega))
  · exact h1.2.2.cg hn (fun k hk => e0 k (by omega))
  · rw [up2_o _ _ (by omega), up2_ne _ _ _ (by decide), up2_ne _ _ _ (by decide), hu.1 25 (by omega)]; exact h2.1
  · rw [hf 17 (by omega) (by omega) (by omega) (by omega), hf 18 (by omega) (by omega) (by omega) (by omega), e8 4 (by omega) (by omega), e8 5 (by omega) (by omega), ec 180 (by omega)]; exact h4
  · rw [hf 155 (by omega) (by omega) (by omega) (by omega), hf 156 (by omega) (by omega) (by omega) (by omega), hf 157 (by omega) (by omega) (by omega) (by omega), e8 8 (by omega) (by omega), ec 181 (by omega), ec 182 (by omega)]; exact h5
  · rw [hf 158 (by omega) (by omega) (by omega) (by omega), e0 191 (by omega)]; exact h6
  · rw [up2_o _ _ (by omega), up2_self, h7, BM_s _ (by omega)]
    refine BM_congr (fun j hj => ?_)
    by_cases e : j = i
    · subst e; rw [upd_self, if_pos hi, w7i]
    · rw [upd_ne _ _ e, w7 j e]
  · by_cases e : j = i
    · subst e
      refine Or.inr ⟨w7i, ⟨n, f, ma, ?_, ?_, ?_⟩, a, h6.2.2, w6i, ?_⟩
      · exact ((hu.rep hn hma h1.1).same (fun k k1 k2 => hw k (by omega) (by omega) (by omega))).cg hn hma (fun k hk => ei k (by omega))
      · exact h1.2.1.cg9 (fun k hk => ei k (by omega))
      · exact h1.2.2.cg hn (fun k hk => ei k (by omega))
      · rw [ei 191 (by omega)]; exact h6.2.1
    · rw [w7 j e, w6 j e, e0 (3264 + 192 * j + 191) (by omega)]
      rcases h8 j hj with z | ⟨z1, z2, z3⟩
      · exact Or.inl z
      · exact Or.inr ⟨z1, z2.cg (Nat.le_refl B) (fun k k1 k2 => hf k (by omega) (by omega) (by omega) (by omega)) (fun k hk => e0 _ (by omega)), z3⟩
/-- gone back to an image -/
theorem Mr.bac {u v b : Vm2} {n f ma K nx s wr a B i : Nat} (h : Mr v b n f ma K nx s wr a B) (hi : i < 2) (hk : v 177 i = nI 1) (hu : Cp u v 1 (160 + 8 * i) 8) : MR (up2 (up2 u 158 0 (v 176 i)) 25 2 (nI 0)) (up2 (cpR b (3264 + 192 * i) 0) 178 1 (nI 0)) B := by
  obtain ⟨h1, h2, h3, h4, h5, h6, h7, h8⟩ := h
  rcases h8 i hi with z | ⟨z1, ⟨n', f', ma', r1, r2, r3⟩, a1, z3, z4, z5⟩
  · rw [z] at hk; exact absurd hk (by decide)
  have hn := r2.2.1
  have hma := r2.2.2.2.2.2.2.1
  have hw : ∀ k, k ≠ 158 → k ≠ 25 → (up2 (up2 u 158 0 (v 176 i)) 25 2 (nI 0)) k = u k := fun k k1 k2 => by rw [up2_ne _ _ _ k2, up2_ne _ _ _ k1]
  have hf : ∀ k, 9 ≤ k → k ≠ 158 → k ≠ 25 → (up2 (up2 u 158 0 (v 176 i)) 25 2 (nI 0)) k = v k := fun k k1 k2 k3 => (hw k k2 k3).trans (hu.1 k (by omega))
  have e0 : ∀ k, k < 192 → (up2 (cpR b (3264 + 192 * i) 0) 178 1 (nI 0)) 179 k = ro b (3264 + 192 * i) k := fun k hk => by
    rw [up2_ne _ _ _ (by decide)]
    have := cp_in (b := b) (x := 3264 + 192 * i) (y := 0) (k := k) hk
    rw [Nat.zero_add] at this
    rw [this]
    rfl
  have e1 : ∀ k, 192 ≤ k → (up2 (cpR b (3264 + 192 * i) 0) 178 1 (nI 0)) 179 k = b 179 k := fun k hk => by rw [up2_ne _ _ _ (by decide), cp_out (by omega)]
  have e8 : ∀ j, j ≠ 1 → (up2 (cpR b (3264 + 192 * i) 0) 178 1 (nI 0)) 178 j = b 178 j := fun j hj => by rw [up2_o _ _ (by omega), cp_o (by decide)]
  have ec : ∀ k, 180 ≤ k → (up2 (cpR b (3264 + 192 * i) 0) 178 1 (nI 0)) k = b k := fun k hk => by rw [up2_ne _ _ _ (by omega), cp_o (by omega)]
  refine ⟨n', f', ma', 0, nx, s, wr, a1, ⟨?_, ?_, ?_⟩, ⟨?_, h2.2.1, up2_self _ _ _ _, by omega, up2_self _ _ _ _⟩, fun k hk => absurd hk (by omega), ?_, ?_, ⟨?_, ?_, z3⟩, ?_, fun j hj => ?_⟩
  · exact ((hu.rep hn hma r1).same (fun k k1 k2 => hw k (by omega) (by omega))).cg hn hma (fun k hk => e0 k (by omega))
  · exact r2.cg9 (fun k hk => e0 k (by omega))
  · exact r3.cg hn (fun k hk => e0 k (by omega))
  · rw [up2_o _ _ (by omega), up2_ne _ _ _ (by decide), hu.1 25 (by omega)]; exact h2.1
  · rw [hf 17 (by omega) (by omega) (by omega), hf 18 (by omega) (by omega) (by omega), e8 4 (by omega), e8 5 (by omega), ec 180 (by omega)]; exact h4
  · rw [hf 155 (by omega) (by omega) (by omega), hf 156 (by omega) (by omega) (by omega), hf 157 (by omega) (by omega) (by omega), e8 8 (by omega), ec 181 (by omega), ec 182 (by omega)]; exact h5
  · rw [up2_ne _ _ _ (by decide), up2_self]; exact z4
  · rw [e0 191 (by omega)]; exact z5
  · rw [hf 177 (by omega) (by omega) (by omega), e8 2 (by omega)]; exact h7
  · rw [hf 177 (by omega) (by omega) (by omega), hf 176 (by omega) (by omega) (by omega), e1 _ (by omega)]
    rcases h8 j hj with z | ⟨y1, y2, y3⟩
    · exact Or.inl z
    · exact Or.inr ⟨y1, y2.cg (Nat.le_refl B) (fun k k1 k2 => hf k (by omega) (by omega) (by omega)) (fun k hk => e1 _ (by omega)), y3⟩
theorem cW_8 (b : Vm2) (ρ : Nat → Int32) (i : Nat) : clW b ρ 178 i = if i = 8 then nI 0 else if i = 2 then nI 0 else if i = 1 then nI 0 else if i = 4 then nI 0 else if i = 5 then -1 else b 178 i := by
  unfold clW
  by_cases z : i = 8
  · subst z; rw [up2_self]; rfl
  rw [up2_o _ _ (by omega), if_neg z]
  by_cases z : i = 2
  · subst z; rw [up2_self]; rfl
  rw [up2_o _ _ (by omega), if_neg z]
  by_cases z : i = 1
  · subst z; rw [up2_self]; rfl
  rw [up2_o _ _ (by omega), if_neg z]
  by_cases z : i = 4
  · subst z; rw [up2_self]; rfl
  rw [up2_o _ _ (by omega), if_neg z]
  by_cases z : i = 5
  · subst z; rw [up2_self]; rfl
  rw [up2_o _ _ (by omega), if_neg z, upR_ne _ _ (by decide)]
theorem cW_9 (b : Vm2) (ρ : Nat → Int32) (i : Nat) : clW b ρ 179 i = if i < 191 then ρ i else b 179 i := by
  unfold clW
  rw [up2_ne _ _ _ (by decide), up2_ne _ _ _ (by decide), up2_ne _ _ _ (by decide), up2_ne _ _ _ (by decide), up2_ne _ _ _ (by decide), upR_self]
theorem cW_c (b : Vm2) (ρ : Nat → Int32) {k : Nat} (hk : 180 ≤ k) : clW b ρ k = b k := by
  unfold clW
  rw [up2_ne _ _ _ (by omega), up2_ne _ _ _ (by omega), up2_ne _ _ _ (by omega), up2_ne _ _ _ (by omega), up2_ne _ _ _ (by omega), upR_ne _ _ (by omega)]
/-- a text that was read -/
theorem Wp.wf {ρ : Nat → Int32} {n : Nat} (h : Wp ρ n) : ∃ f, Wf ρ n f 0 ∧ Bn ρ n 9999 := by
  obtain ⟨w0, w1, ⟨f, hf, ef⟩, w3, w4, w5, w6⟩ := h
  refine ⟨f, ⟨w0, w1, ef, hf, w3, ?_, by omega, fun c hc => ⟨w5 c hc, Or.inl (w6 (35 + c) (by omega))⟩, fun a ha => absurd ha (by omega)⟩, fun c hc => ?_, fun k hk => ?_, fun c hc => ?_⟩
  · rw [w6 171 (by omega)]; rfl
  · obtain ⟨⟨x, hx, ex⟩, -⟩ := w4 c hc
    unfold aimF
    rw [w6 (19 + c) (by omega), Int32.add_zero, ex]
    unfold Wi
    rw [nI_toInt (by omega)]
    omega
  · rw [w6 (43 + k) (by omega)]
    unfold Wi
    decide
  · obtain ⟨-, r, h1, h2, er⟩ := w4 c hc
    rw [er]
    unfold Wi
    rw [nI_toInt (by omega)]
    omega
theorem Mr.clk {u v b : Vm2} {ρ : Nat → Int32} {n f ma K nx s wr a B n' : Nat} (h : Mr v b n f ma K nx s wr a B) (hW : Wp ρ n') (hR : RepS u 1 ρ n' 0) (hf : ∀ k, k ≠ 17 → (k < 1 ∨ 17 ≤ k) → k ≠ 25 → k ≠ 155 → k ≠ 177 → k < 178 → u k = v k) (h25 : u 25 1 = v 25 1) (h252 : u 25 2 = nI 0) (h17 : u 17 1 = nI 0) (h175 : u 17 5 = -1) (h155 : u 155 2 = nI 0) (h177 : ∀ i, i < 2 → u 177 i = 0) (hB : 9999 ≤ B) : MR u (clW b ρ) B := by
  obtain ⟨h1, h2, h3, h4, h5, h6, h7, h8⟩ := h
  obtain ⟨f', hWf, hBn⟩ := hW.wf
  have e : ∀ k, k < 191 → clW b ρ 179 k = ρ k := fun k hk => by rw [cW_9, if_pos hk]
  refine ⟨n', f', 0, 0, nx, 0, 0, a, ⟨hR.cg hWf.2.1 (by omega) e, hWf.cg9 e, (hBn.cg hWf.2.1 (fun k hk => e k (by omega))).mono hB⟩, ⟨h25.trans h2.1, h2.2.1, h252, by omega, by rw [cW_8]; rfl⟩, fun k hk => absurd hk (by omega), ⟨h17, by rw [cW_8]; rfl, by omega, ?_, h175.trans (by rw [cW_8]; rfl)⟩, ⟨h155, by rw [cW_8]; rfl, by omega, ?_, ?_⟩, ⟨?_, ?_, h6.2.2⟩, ?_, fun i hi => Or.inl (h177 i hi)⟩
  · rw [hf 18 (by omega) (by omega) (by omega) (by omega) (by omega) (by omega), cW_c _ _ (by omega)]; exact h4.2.2.2.1
  · rw [hf 156 (by omega) (by omega) (by omega) (by omega) (by omega) (by omega), cW_c _ _ (by omega)]; exact h5.2.2.2.1
  · rw [hf 157 (by omega) (by omega) (by omega) (by omega) (by omega) (by omega), cW_c _ _ (by omega)]; exact h5.2.2.2.2
  · rw [hf 158 (by omega) (by omega) (by omega) (by omega) (by omega) (by omega)]; exact h6.1
  · rw [cW_9, if_neg (by omega)]; exact h6.2.1
  · rw [cW_8]
    show nI 0 = _
    refine BM_0.trans (BM_congr (fun i _ => ?_))
    by_cases z : i < 2
    · rw [if_pos z, h177 i z]
    · rw [if_neg z]

set_option maxHeartbeats 1000000 in
set_option maxRecDepth 100000 in
theorem q_feed (w : Wd) (v : Vm2) {b : Vm2} {n f ma K nx s wr a0 B : Nat} (hM : Mr v b n f ma K nx s wr a0 B) (hB : B ≤ 100000000) {x : Int32} : CI w yX7_feed cX7_feed 2 (some .int) (rm 1 22) [.ref (wN w + 0), .int x] v (fun r v' => r = (F_feed b s x).1 ∧ MR v' (F_feed b s x).2 (B + 160000) ∧ Rq v' v) := by
  have hR := hM.1.1
  have hW := hM.1.2.1
  have hBn := hM.1.2.2
  have hn := hW.2.1
  have hf3 := hW.2.2.2.1
  have hma := hW.2.2.2.2.2.2.1
  have hnx := hM.2.1.2.1
  have hK := hM.2.1.2.2.2.1
  have hs9 := hM.2.2.2.1.2.2.1
  refine CI.of (by decide) (Nat.le_of_ble_eq_true rfl) ?_
  refine J.iload_n 0 dX7_feed_0 rfl rfl ?_
  refine J.iconst 1 (nI 0) dX7_feed_1 (by decide +kernel) ?_
  refine J.sipush 2 (nI 255) dX7_feed_2 (by decide +kernel) ?_
  refine V.callsP 5 dX7_feed_5 ml_RX7_66 mi_yX7_between ms_yX7_between (c_X7_between w _) rfl rfl (Nat.le_of_ble_eq_true rfl) (by decide) (by decide) ?_
  refine V.if_neB 8 14 dX7_feed_8 (by decide) (fun c8 => ?_) (fun c8 => ?_)
  · refine J.aload_n 14 dX7_feed_14 rfl rfl ?_
    refine V.getR 15 dX7_feed_15 fl_RX7_22 r_0_2 ?_
    refine V.getI 18 dX7_feed_18 fl_RX7_71 i_17_1 ?_
    refine J.top hM.2.2.2.1.1 ?_
    refine J.sipush 21 (nI 200) dX7_feed_21 (by decide +kernel) ?_
    refine V.icmp_lt 24 30 dX7_feed_24 (by decide) (by omega) (by omega) (fun c24 => ?_) (fun c24 => ?_)
    · refine J.aload_n 30 dX7_feed_30 rfl rfl ?_
      refine V.getR 31 dX7_feed_31 fl_RX7_22 r_0_2 ?_
      refine J.iload_n 34 dX7_feed_34 rfl rfl ?_
      refine V.callv 35 dX7_feed_35 ml_RX7_76 mi_yX6_append mv_yX6_append (c_X6_append w _ hM.2.2.2.1.1 c24) rfl rfl (Nat.le_of_ble_eq_true rfl) (by decide) (by decide) o_17 rfl rfl (fun r35 v35 h35 => ?_)
      obtain ⟨rfl, rfl⟩ := h35
      exact V.iret 38 dX7_feed_38 (by unfold F_feed; rw [if_neg (fun z => z c8), if_neg (by omega)]; exact ⟨rfl, (hM.txt (fun k h1 h2 _ _ => by rw [up2_ne _ _ _ h1, up2_ne _ _ _ h2]) (fun k h1 h2 => by rw [up2_ne _ _ _ (by omega), up2_ne _ _ _ h2]) (fun i h1 h2 => by rw [up2_o _ _ (by omega), up2_ne _ _ _ (by decide)]) ⟨up2_self _ _ _ _, up2_self _ _ _ _, by omega, by rw [up2_ne _ _ _ (by decide), up2_row, up2_ne _ _ _ (by decide), up2_row, hM.2.2.2.1.2.2.2.1], by rw [up2_o _ _ (by omega), up2_ne _ _ _ (by decide), up2_o _ _ (by omega), up2_ne _ _ _ (by decide)]; exact hM.2.2.2.1.2.2.2.2⟩).x (by omega), ((Rq.rf v).up (by decide)).up (by decide)⟩)
    · refine J.ldc 27 (-1000000004) dX7_feed_27 kc_RX7_75 ?_
      exact V.iret 29 dX7_feed_29 (by unfold F_feed; rw [if_neg (fun z => z c8), if_pos (by omega)]; exact ⟨rfl, hM.x (by omega), Rq.rf v⟩)
  · refine J.ldc 11 (-1000000002) dX7_feed_11 kc_RX7_70 ?_
    exact V.iret 13 dX7_feed_13 (by unfold F_feed; rw [if_pos c8]; exact ⟨rfl, hM.x (by omega), Rq.rf v⟩)
set_option maxHeartbeats 1000000 in
set_option maxRecDepth 100000 in
theorem q_write (w : Wd) (v : Vm2) {b : Vm2} {n f ma K nx s wr a0 B : Nat} (hM : Mr v b n f ma K nx s wr a0 B) (hB : B ≤ 100000000) {c x : Int32} : CI w yX7_write cX7_write 3 (some .int) (rm 1 22) [.ref (wN w + 0), .int c, .int x] v (fun r v' => r = (F_write b n wr c x).1 ∧ MR v' (F_write b n wr c x).2 (B + 160000) ∧ Rq v' v) := by
  have hR := hM.1.1
  have hW := hM.1.2.1
  have hBn := hM.1.2.2
  have hn := hW.2.1
  have hf3 := hW.2.2.2.1
  have hma := hW.2.2.2.2.2.2.1
  have hnx := hM.2.1.2.1
  have hK := hM.2.1.2.2.2.1
  have hs9 := hM.2.2.2.2.1.2.2.1
  refine CI.of (by decide) (Nat.le_of_ble_eq_true rfl) ?_
  refine J.aload_n 0 dX7_write_0 rfl rfl ?_
  refine V.getR 1 dX7_write_1 fl_RX7_10 r_0_0 ?_
  refine J.iload_n 4 dX7_write_4 rfl rfl ?_
  refine V.callvP 5 dX7_write_5 ml_RX7_138 mi_yX5_has mv_yX5_has (c_X5_has w _ isS_1 _ (hR.1.1.trans hW.1) (by omega)) rfl rfl (Nat.le_of_ble_eq_true rfl) (by decide) (by decide) isS_1.o rfl rfl ?_
  refine V.if_neB 8 14 dX7_write_8 (by decide) (fun c8 => ?_) (fun c8 => ?_)
  · refine J.aload_n 14 dX7_write_14 rfl rfl ?_
    refine V.getR 15 dX7_write_15 fl_RX7_43 r_0_5 ?_
    refine V.getI 18 dX7_write_18 fl_RX7_91 i_155_2 ?_
    refine J.top hM.2.2.2.2.1.1 ?_
    refine J.bipush 21 (nI 20) dX7_write_21 (by decide +kernel) ?_
    refine V.icmp_lt 23 29 dX7_write_23 (by decide) (by omega) (by omega) (fun c23 => ?_) (fun c23 => ?_)
    · refine J.aload_n 29 dX7_write_29 rfl rfl ?_
      refine V.getR 30 dX7_write_30 fl_RX7_43 r_0_5 ?_
      refine J.iload_n 33 dX7_write_33 rfl rfl ?_
      refine J.iload_n 34 dX7_write_34 rfl rfl ?_
      refine V.callv 35 dX7_write_35 ml_RX7_240 mi_yX0_append mv_yX0_append (c_X0_append w _ hM.2.2.2.2.1.1 c23) rfl rfl (Nat.le_of_ble_eq_true rfl) (by decide) (by decide) o_155 rfl rfl (fun r35 v35 h35 => ?_)
      obtain ⟨rfl, rfl⟩ := h35
      exact V.iret 38 dX7_write_38 (by unfold F_write; rw [if_neg (fun z => z c8), if_neg (by omega)]; exact ⟨rfl, (hM.boo (fun k h1 h2 => by rw [up2_ne _ _ _ (by omega), up2_ne _ _ _ (by omega), up2_ne _ _ _ (by omega)]) (fun k h1 h2 h3 => by rw [up2_ne _ _ _ (by omega), up2_ne _ _ _ h3, up2_ne _ _ _ h2]) (fun i h1 => by rw [up2_o _ _ (by omega), up2_ne _ _ _ (by decide), up2_ne _ _ _ (by decide)]) ⟨up2_self _ _ _ _, up2_self _ _ _ _, by omega, by rw [up2_ne _ _ _ (by decide), up2_ne _ _ _ (by decide), up2_row, up2_ne _ _ _ (by decide), up2_ne _ _ _ (by decide), up2_row, hM.2.2.2.2.1.2.2.2.1], by rw [up2_ne _ _ _ (by decide), up2_row, up2_ne _ _ _ (by decide), up2_ne _ _ _ (by decide), up2_row, up2_ne _ _ _ (by decide), hM.2.2.2.2.1.2.2.2.2]⟩).x (by omega), (((Rq.rf v).up (by decide)).up (by decide)).up (by decide)⟩)
    · refine J.ldc 26 (-1000000004) dX7_write_26 kc_RX7_75 ?_
      exact V.iret 28 dX7_write_28 (by unfold F_write; rw [if_neg (fun z => z c8), if_pos (by omega)]; exact ⟨rfl, hM.x (by omega), Rq.rf v⟩)
  · refine J.ldc 11 (-1000000001) dX7_write_11 kc_RX7_142 ?_
    exact V.iret 13 dX7_write_13 (by unfold F_write; rw [if_pos c8]; exact ⟨rfl, hM.x (by omega), Rq.rf v⟩)
def F_tear (b : Vm2) : Int32 × Vm2 := (b 178 8, up2 b 178 8 (nI 0))
set_option maxHeartbeats 1000000 in
set_option maxRecDepth 100000 in
theorem q_tear (w : Wd) (v : Vm2) {b : Vm2} {n f ma K nx s wr a0 B : Nat} (hM : Mr v b n f ma K nx s wr a0 B) (hB : B ≤ 100000000)  : CI w yX7_tear cX7_tear 2 (some .int) (rm 0 0) [.ref (wN w + 0)] v (fun r v' => r = (F_tear b).1 ∧ MR v' (F_tear b).2 (B + 160000) ∧ Rq v' v) := by
  have hR := hM.1.1
  have hW := hM.1.2.1
  have hBn := hM.1.2.2
  have hn := hW.2.1
  have hf3 := hW.2.2.2.1
  have hma := hW.2.2.2.2.2.2.1
  have hnx := hM.2.1.2.1
  have hK := hM.2.1.2.2.2.1
  refine CI.of (by decide) (Nat.le_of_ble_eq_true rfl) ?_
  refine J.aload_n 0 dX7_tear_0 rfl rfl ?_
  refine V.getR 1 dX7_tear_1 fl_RX7_43 r_0_5 ?_
  refine V.getI 4 dX7_tear_4 fl_RX7_91 i_155_2 ?_
  refine J.istore_n 7 dX7_tear_7 rfl (by decide) ?_
  refine J.aload_n 8 dX7_tear_8 rfl rfl ?_
  refine V.getR 9 dX7_tear_9 fl_RX7_43 r_0_5 ?_
  refine J.iconst 12 (nI 0) dX7_tear_12 (by decide +kernel) ?_
  refine V.putI 13 dX7_tear_13 fl_RX7_91 fp_0_2 i_155_2 ?_
  refine J.iload_n 16 dX7_tear_16 rfl rfl ?_
  exact V.iret 17 dX7_tear_17 (⟨hM.2.2.2.2.1.1.trans hM.2.2.2.2.1.2.1.symm, (hM.boo (u := up2 v 155 2 (nI 0)) (c := up2 b 178 8 (nI 0)) (wr' := 0) (fun k h1 h2 => up2_ne _ _ _ (by omega)) (fun k h1 h2 h3 => up2_ne _ _ _ (by omega)) (fun i h1 => up2_o _ _ (by omega)) ⟨up2_self _ _ _ _, up2_self _ _ _ _, by omega, by rw [up2_ne _ _ _ (by decide), up2_ne _ _ _ (by decide)]; exact hM.2.2.2.2.1.2.2.2.1, by rw [up2_ne _ _ _ (by decide), up2_ne _ _ _ (by decide)]; exact hM.2.2.2.2.1.2.2.2.2⟩).x (by omega), (Rq.rf v).up (by decide)⟩)
set_option maxHeartbeats 1000000 in
set_option maxRecDepth 100000 in
theorem q_seed (w : Wd) (v : Vm2) {b : Vm2} {n f ma K nx s wr a0 B : Nat} (hM : Mr v b n f ma K nx s wr a0 B) (hB : B ≤ 100000000) {x : Int32} : CI w yX7_seed cX7_seed 3 (some .int) (rm 0 0) [.ref (wN w + 0), .int x] v (fun r v' => r = (F_seed b x).1 ∧ MR v' (F_seed b x).2 (B + 160000) ∧ Rq v' v) := by
  have hR := hM.1.1
  have hW := hM.1.2.1
  have hBn := hM.1.2.2
  have hn := hW.2.1
  have hf3 := hW.2.2.2.1
  have hma := hW.2.2.2.2.2.2.1
  have hnx := hM.2.1.2.1
  have hK := hM.2.1.2.2.2.1
  refine CI.of (by decide) (Nat.le_of_ble_eq_true rfl) ?_
  refine J.iload_n 0 dX7_seed_0 rfl rfl ?_
  refine J.if_ge 1 7 dX7_seed_1 (by decide) (fun c1 => ?_) (fun c1 => ?_)
  · obtain ⟨y, hy, rfl⟩ := nI_of (x := x) (Int32.not_lt.mpr c1)
    refine J.aload_n 7 dX7_seed_7 rfl rfl ?_
    refine V.getR 8 dX7_seed_8 fl_RX7_50 r_0_6 ?_
    refine V.getI 11 dX7_seed_11 fl_RX7_242 i_158_0 ?_
    refine J.istore_n 14 dX7_seed_14 rfl (by decide) ?_
    refine J.aload_n 15 dX7_seed_15 rfl rfl ?_
    refine V.getR 16 dX7_seed_16 fl_RX7_50 r_0_6 ?_
    refine J.iload_n 19 dX7_seed_19 rfl rfl ?_
    refine V.putI 20 dX7_seed_20 fl_RX7_242 fp_2_0 i_158_0 ?_
    refine J.iload_n 23 dX7_seed_23 rfl rfl ?_
    exact V.iret 24 dX7_seed_24 (by unfold F_seed; rw [if_neg (Int32.not_lt.mpr c1)]; exact ⟨hM.2.2.2.2.2.1.1.trans hM.2.2.2.2.2.1.2.1.symm, (hM.see (u := up2 v 158 0 (nI y)) (c := up2 b 179 191 (nI y)) (a' := y) (fun k h1 h2 => up2_ne _ _ _ h1) (fun k h1 h2 => up2_ne _ _ _ h2) (fun i h1 => up2_o _ _ (by omega)) ⟨up2_self _ _ _ _, up2_self _ _ _ _, hy⟩).x (by omega), (Rq.rf v).up (by decide)⟩)
  · refine J.ldc 4 (-1000000002) dX7_seed_4 kc_RX7_70 ?_
    exact V.iret 6 dX7_seed_6 (by unfold F_seed; rw [if_pos (Int32.not_le.mp c1)]; exact ⟨rfl, hM.x (by omega), Rq.rf v⟩)
set_option maxHeartbeats 1000000 in
set_option maxRecDepth 100000 in
theorem q_undoN (w : Wd) (v : Vm2) {b : Vm2} {n f ma K nx s wr a0 B : Nat} (hM : Mr v b n f ma K nx s wr a0 B) (hB : B ≤ 100000000) {t : Nat} (ht1 : 1 ≤ t) (ht : t ≤ 16) (hin : inF (nI t) (nI 1) (nI 16)) : CI w yX7_undo cX7_undo 2 (some .int) (rm 3 83) [.ref (wN w + 0), .int (nI t)] v (fun r v' => r = (F_undo b K (nI t)).1 ∧ MR v' (F_undo b K (nI t)).2 (B + 160000) ∧ Rq v' v) := by
  have hR := hM.1.1
  have hW := hM.1.2.1
  have hBn := hM.1.2.2
  have hn := hW.2.1
  have hf3 := hW.2.2.2.1
  have hma := hW.2.2.2.2.2.2.1
  have hnx := hM.2.1.2.1
  have hK := hM.2.1.2.2.2.1
  refine CI.of (by decide) (Nat.le_of_ble_eq_true rfl) ?_
  refine J.iload_n 0 dX7_undo_0 rfl rfl ?_
  refine J.iconst 1 (nI 1) dX7_undo_1 (by decide +kernel) ?_
  refine J.bipush 2 (nI 16) dX7_undo_2 (by decide +kernel) ?_
  refine V.callsP 4 dX7_undo_4 ml_RX7_66 mi_yX7_between ms_yX7_between (c_X7_between w _) rfl rfl (Nat.le_of_ble_eq_true rfl) (by decide) (by decide) ?_
  refine V.if_neB 7 13 dX7_undo_7 (by decide) (fun c7 => ?_) (fun c7 => absurd hin c7)
  refine J.iload_n 13 dX7_undo_13 rfl rfl ?_
  refine J.aload_n 14 dX7_undo_14 rfl rfl ?_
  refine V.getR 15 dX7_undo_15 fl_RX7_36 r_0_4 ?_
  refine V.getI 18 dX7_undo_18 fl_RX7_137 i_25_2 ?_
  refine J.top hM.2.1.2.2.1 ?_
  refine V.icmp_le 21 27 dX7_undo_21 (by decide) (by omega) (by omega) (fun c21 => ?_) (fun c21 => ?_)
  · refine J.aload_n 27 dX7_undo_27 rfl rfl ?_
    refine V.getR 28 dX7_undo_28 fl_RX7_36 r_0_4 ?_
    refine J.iload_n 31 dX7_undo_31 rfl rfl ?_
    refine J.aload_n 32 dX7_undo_32 rfl rfl ?_
    refine V.getR 33 dX7_undo_33 fl_RX7_10 r_0_0 ?_
    refine V.callvU 36 dX7_undo_36 ml_RX7_236 mi_yX4_takeBack mv_yX4_takeBack (c_X4_takeBack w _ hM.2.1.1 hnx hM.2.1.2.2.1 hK ht1 c21 isS_1 (by decide)) rfl rfl (Nat.le_of_ble_eq_true rfl) (by decide) (by decide) o_25 rfl rfl (fun v36 h36 => ?_)
    obtain ⟨g1, n1, f1, ma1, g2⟩ := hM.und ht1 c21 h36
    refine J.aload_n 39 dX7_undo_39 rfl rfl ?_
    refine V.getR 40 dX7_undo_40 fl_RX7_10 r_0_0 ?_
    refine V.getI 43 dX7_undo_43 fl_RX7_131 isS_1.i7 ?_
    exact V.iret 46 dX7_undo_46 (by unfold F_undo; rw [if_neg (fun z => z hin), show ix (nI t) = t from nI_clamp (by omega), if_neg (by omega)]; exact ⟨g1, g2.x (by omega), (h36.rq (by decide)).trans (((Rq.rf v).up (by decide)).up (by decide))⟩)
  · refine J.ldc 24 (-1000000003) dX7_undo_24 kc_RX7_220 ?_
    exact V.iret 26 dX7_undo_26 (by unfold F_undo; rw [if_neg (fun z => z hin), show ix (nI t) = t from nI_clamp (by omega), if_pos (by omega)]; exact ⟨rfl, hM.x (by omega), Rq.rf v⟩)
set_option maxHeartbeats 1000000 in
set_option maxRecDepth 100000 in
theorem q_undoO (w : Wd) (v : Vm2) {b : Vm2} {n f ma K nx s wr a0 B : Nat} (hM : Mr v b n f ma K nx s wr a0 B) (hB : B ≤ 100000000) {x : Int32} (hx : ¬ inF x (nI 1) (nI 16)) : CI w yX7_undo cX7_undo 2 (some .int) (rm 3 83) [.ref (wN w + 0), .int x] v (fun r v' => r = (F_undo b K x).1 ∧ MR v' (F_undo b K x).2 (B + 160000) ∧ Rq v' v) := by
  have hR := hM.1.1
  have hW := hM.1.2.1
  have hBn := hM.1.2.2
  have hn := hW.2.1
  have hf3 := hW.2.2.2.1
  have hma := hW.2.2.2.2.2.2.1
  have hnx := hM.2.1.2.1
  have hK := hM.2.1.2.2.2.1
  refine CI.of (by decide) (Nat.le_of_ble_eq_true rfl) ?_
  refine J.iload_n 0 dX7_undo_0 rfl rfl ?_
  refine J.iconst 1 (nI 1) dX7_undo_1 (by decide +kernel) ?_
  refine J.bipush 2 (nI 16) dX7_undo_2 (by decide +kernel) ?_
  refine V.callsP 4 dX7_undo_4 ml_RX7_66 mi_yX7_between ms_yX7_between (c_X7_between w _) rfl rfl (Nat.le_of_ble_eq_true rfl) (by decide) (by decide) ?_
  refine V.if_neB 7 13 dX7_undo_7 (by decide) (fun c7 => absurd c7 hx) (fun c7 => ?_)
  refine J.ldc 10 (-1000000002) dX7_undo_10 kc_RX7_70 ?_
  exact V.iret 12 dX7_undo_12 (by unfold F_undo; rw [if_pos hx]; exact ⟨rfl, hM.x (by omega), Rq.rf v⟩)
set_option maxHeartbeats 1000000 in
set_option maxRecDepth 100000 in
theorem q_keepN (w : Wd) (v : Vm2) {b : Vm2} {n f ma K nx s wr a0 B : Nat} (hM : Mr v b n f ma K nx s wr a0 B) (hB : B ≤ 100000000) {i : Nat} (hi : i < 2) (hin : inF (nI i) (nI 0) (nI 1)) : CI w yX7_keep cX7_keep 2 (some .int) (rm 2 61) [.ref (wN w + 0), .int (nI i)] v (fun r v' => r = (F_keep b (nI i)).1 ∧ MR v' (F_keep b (nI i)).2 (B + 160000) ∧ Rq v' v) := by
  have hR := hM.1.1
  have hW := hM.1.2.1
  have hBn := hM.1.2.2
  have hn := hW.2.1
  have hf3 := hW.2.2.2.1
  have hma := hW.2.2.2.2.2.2.1
  have hnx := hM.2.1.2.1
  have hK := hM.2.1.2.2.2.1
  refine CI.of (by decide) (Nat.le_of_ble_eq_true rfl) ?_
  refine J.iload_n 0 dX7_keep_0 rfl rfl ?_
  refine J.iconst 1 (nI 0) dX7_keep_1 (by decide +kernel) ?_
  refine J.iconst 2 (nI 1) dX7_keep_2 (by decide +kernel) ?_
  refine V.callsP 3 dX7_keep_3 ml_RX7_66 mi_yX7_between ms_yX7_between (c_X7_between w _) rfl rfl (Nat.le_of_ble_eq_true rfl) (by decide) (by decide) ?_
  refine V.if_neB 6 12 dX7_keep_6 (by decide) (fun c6 => ?_) (fun c6 => absurd hin c6)
  refine J.aload_n 12 dX7_keep_12 rfl rfl ?_
  refine V.getR 13 dX7_keep_13 fl_RX7_54 r_0_7 ?_
  refine J.iload_n 16 dX7_keep_16 rfl rfl ?_
  refine V.aald 17 dX7_keep_17 a_159 (hi) (im_el i hi) ?_
  refine J.aload_n 18 dX7_keep_18 rfl rfl ?_
  refine V.getR 19 dX7_keep_19 fl_RX7_10 r_0_0 ?_
  refine V.callvU 22 dX7_keep_22 ml_RX7_84 mi_yX5_copyFrom mv_yX5_copyFrom (c_X5_copyFrom w _ (isS_im i hi) isS_1 (by omega)) rfl rfl (Nat.le_of_ble_eq_true rfl) (by decide) (by decide) (isS_im i hi).o rfl rfl (fun v22 h22 => ?_)
  refine J.aload_n 25 dX7_keep_25 rfl rfl ?_
  refine V.getR 26 dX7_keep_26 fl_RX7_58 r_0_8 ?_
  refine J.iload_n 29 dX7_keep_29 rfl rfl ?_
  refine J.aload_n 30 dX7_keep_30 rfl rfl ?_
  refine V.getR 31 dX7_keep_31 fl_RX7_50 r_0_6 ?_
  refine V.getI 34 dX7_keep_34 fl_RX7_242 i_158_0 ?_
  refine J.top (b := nI a0) (by rw [h22.1 158 (by omega)]; exact hM.2.2.2.2.2.1.1) ?_
  refine V.iast 37 dX7_keep_37 a_176 (by omega) ?_
  refine J.aload_n 38 dX7_keep_38 rfl rfl ?_
  refine V.getR 39 dX7_keep_39 fl_RX7_62 r_0_9 ?_
  refine J.iload_n 42 dX7_keep_42 rfl rfl ?_
  refine J.iconst 43 (nI 1) dX7_keep_43 (by decide +kernel) ?_
  refine V.zast 44 dX7_keep_44 a_177 (by omega) (by first | exact Or.inl rfl | exact Or.inr rfl) ?_
  refine J.aload_n 45 dX7_keep_45 rfl rfl ?_
  refine V.getR 46 dX7_keep_46 fl_RX7_36 r_0_4 ?_
  refine V.callvU 49 dX7_keep_49 ml_RX7_88 mi_yX4_forget mv_yX4_forget (c_X4_forget w _) rfl rfl (Nat.le_of_ble_eq_true rfl) (by decide) (by decide) o_25 rfl rfl (fun v49 h49 => ?_)
  subst h49
  refine J.iconst 52 (nI 1) dX7_keep_52 (by decide +kernel) ?_
  exact V.iret 53 dX7_keep_53 (by unfold F_keep; rw [if_neg (fun z => z hin), show ix (nI i) = i from nI_clamp (by omega)]; exact ⟨rfl, (hM.kee hi h22).x (by omega), ((((h22.rq (by omega)).up (by decide)).up (by decide)).up (by decide))⟩)
set_option maxHeartbeats 1000000 in
set_option maxRecDepth 100000 in
theorem q_keepO (w : Wd) (v : Vm2) {b : Vm2} {n f ma K nx s wr a0 B : Nat} (hM : Mr v b n f ma K nx s wr a0 B) (hB : B ≤ 100000000) {x : Int32} (hx : ¬ inF x (nI 0) (nI 1)) : CI w yX7_keep cX7_keep 2 (some .int) (rm 2 61) [.ref (wN w + 0), .int x] v (fun r v' => r = (F_keep b x).1 ∧ MR v' (F_keep b x).2 (B + 160000) ∧ Rq v' v) := by
  have hR := hM.1.1
  have hW := hM.1.2.1
  have hBn := hM.1.2.2
  have hn := hW.2.1
  have hf3 := hW.2.2.2.1
  have hma := hW.2.2.2.2.2.2.1
  have hnx := hM.2.1.2.1
  have hK := hM.2.1.2.2.2.1
  refine CI.of (by decide) (Nat.le_of_ble_eq_true rfl) ?_
  refine J.iload_n 0 dX7_keep_0 rfl rfl ?_
  refine J.iconst 1 (nI 0) dX7_keep_1 (by decide +kernel) ?_
  refine J.iconst 2 (nI 1) dX7_keep_2 (by decide +kernel) ?_
  refine V.callsP 3 dX7_keep_3 ml_RX7_66 mi_yX7_between ms_yX7_between (c_X7_between w _) rfl rfl (Nat.le_of_ble_eq_true rfl) (by decide) (by decide) ?_
  refine V.if_neB 6 12 dX7_keep_6 (by decide) (fun c6 => absurd c6 hx) (fun c6 => ?_)
  refine J.ldc 9 (-1000000001) dX7_keep_9 kc_RX7_142 ?_
  exact V.iret 11 dX7_keep_11 (by unfold F_keep; rw [if_pos hx]; exact ⟨rfl, hM.x (by omega), Rq.rf v⟩)
set_option maxHeartbeats 1000000 in
set_option maxRecDepth 100000 in
theorem q_goBackN (w : Wd) (v : Vm2) {b : Vm2} {n f ma K nx s wr a0 B : Nat} (hM : Mr v b n f ma K nx s wr a0 B) (hB : B ≤ 100000000) {i : Nat} (hi : i < 2) (hin : inF (nI i) (nI 0) (nI 1)) : CI w yX7_goBack cX7_goBack 2 (some .int) (rm 2 61) [.ref (wN w + 0), .int (nI i)] v (fun r v' => r = (F_goBack b (nI i)).1 ∧ MR v' (F_goBack b (nI i)).2 (B + 160000) ∧ Rq v' v) := by
  have hR := hM.1.1
  have hW := hM.1.2.1
  have hBn := hM.1.2.2
  have hn := hW.2.1
  have hf3 := hW.2.2.2.1
  have hma := hW.2.2.2.2.2.2.1
  have hnx := hM.2.1.2.1
  have hK := hM.2.1.2.2.2.1
  refine CI.of (by decide) (Nat.le_of_ble_eq_true rfl) ?_
  refine J.iload_n 0 dX7_goBack_0 rfl rfl ?_
  refine J.iconst 1 (nI 0) dX7_goBack_1 (by decide +kernel) ?_
  refine J.iconst 2 (nI 1) dX7_goBack_2 (by decide +kernel) ?_
  refine V.callsP 3 dX7_goBack_3 ml_RX7_66 mi_yX7_between ms_yX7_between (c_X7_between w _) rfl rfl (Nat.le_of_ble_eq_true rfl) (by decide) (by decide) ?_
  refine V.if_neB 6 12 dX7_goBack_6 (by decide) (fun c6 => ?_) (fun c6 => absurd hin c6)
  refine J.aload_n 12 dX7_goBack_12 rfl rfl ?_
  refine V.getR 13 dX7_goBack_13 fl_RX7_62 r_0_9 ?_
  refine J.iload_n 16 dX7_goBack_16 rfl rfl ?_
  refine V.zald 17 dX7_goBack_17 a_177 (by omega) ?_
  refine J.if_ne 18 24 dX7_goBack_18 (by decide) (fun c18 => ?_) (fun c18 => ?_)
  · have hk1 : v 177 i = nI 1 := (hM.2.2.2.2.2.2.2 i hi).elim (fun z => absurd z c18) (fun z => z.1)
    refine J.aload_n 24 dX7_goBack_24 rfl rfl ?_
    refine V.getR 25 dX7_goBack_25 fl_RX7_10 r_0_0 ?_
    refine J.aload_n 28 dX7_goBack_28 rfl rfl ?_
    refine V.getR 29 dX7_goBack_29 fl_RX7_54 r_0_7 ?_
    refine J.iload_n 32 dX7_goBack_32 rfl rfl ?_
    refine V.aald 33 dX7_goBack_33 a_159 (hi) (im_el i hi) ?_
    refine V.callvU 34 dX7_goBack_34 ml_RX7_84 mi_yX5_copyFrom mv_yX5_copyFrom (c_X5_copyFrom w _ isS_1 (isS_im i hi) (by omega)) rfl rfl (Nat.le_of_ble_eq_true rfl) (by decide) (by decide) isS_1.o rfl rfl (fun v34 h34 => ?_)
    refine J.aload_n 37 dX7_goBack_37 rfl rfl ?_
    refine V.getR 38 dX7_goBack_38 fl_RX7_50 r_0_6 ?_
    refine J.aload_n 41 dX7_goBack_41 rfl rfl ?_
    refine V.getR 42 dX7_goBack_42 fl_RX7_58 r_0_8 ?_
    refine J.iload_n 45 dX7_goBack_45 rfl rfl ?_
    refine V.iald 46 dX7_goBack_46 a_176 (by omega) ?_
    refine J.top (b := v 176 i) (by rw [h34.1 176 (by omega)]) ?_
    refine V.putI 47 dX7_goBack_47 fl_RX7_242 fp_2_0 i_158_0 ?_
    refine J.aload_n 50 dX7_goBack_50 rfl rfl ?_
    refine V.getR 51 dX7_goBack_51 fl_RX7_36 r_0_4 ?_
    refine V.callvU 54 dX7_goBack_54 ml_RX7_88 mi_yX4_forget mv_yX4_forget (c_X4_forget w _) rfl rfl (Nat.le_of_ble_eq_true rfl) (by decide) (by decide) o_25 rfl rfl (fun v54 h54 => ?_)
    subst h54
    refine J.iconst 57 (nI 1) dX7_goBack_57 (by decide +kernel) ?_
    exact V.iret 58 dX7_goBack_58 (by unfold F_goBack; rw [if_neg (fun z => z hin), if_neg (show ¬ ¬ (b 178 2 >>> (nI i &&& 31)) &&& nI 1 = nI 1 from fun z => z (by rw [hM.2.2.2.2.2.2.1]; exact (bt_i (by omega)).mpr (by rw [if_pos hi]; exact hk1))), show ix (nI i) = i from nI_clamp (by omega)]; obtain ⟨g1, g2, g3, g4, g5, g6, g7, g8, g9⟩ := hM.bac hi hk1 h34; exact ⟨rfl, g9.x (by omega), ((h34.rq (by decide)).up (by decide)).up (by decide)⟩)
  · refine J.ldc 21 (-1000000003) dX7_goBack_21 kc_RX7_220 ?_
    exact V.iret 23 dX7_goBack_23 (by unfold F_goBack; rw [if_neg (fun z => z hin), if_pos (show ¬ (b 178 2 >>> (nI i &&& 31)) &&& nI 1 = nI 1 from fun z => by rw [hM.2.2.2.2.2.2.1] at z; have := (bt_i (by omega)).mp z; rw [if_pos hi, c18] at this; exact absurd this (by decide))]; exact ⟨rfl, hM.x (by omega), Rq.rf v⟩)
set_option maxHeartbeats 1000000 in
set_option maxRecDepth 100000 in
theorem q_goBackO (w : Wd) (v : Vm2) {b : Vm2} {n f ma K nx s wr a0 B : Nat} (hM : Mr v b n f ma K nx s wr a0 B) (hB : B ≤ 100000000) {x : Int32} (hx : ¬ inF x (nI 0) (nI 1)) : CI w yX7_goBack cX7_goBack 2 (some .int) (rm 2 61) [.ref (wN w + 0), .int x] v (fun r v' => r = (F_goBack b x).1 ∧ MR v' (F_goBack b x).2 (B + 160000) ∧ Rq v' v) := by
  have hR := hM.1.1
  have hW := hM.1.2.1
  have hBn := hM.1.2.2
  have hn := hW.2.1
  have hf3 := hW.2.2.2.1
  have hma := hW.2.2.2.2.2.2.1
  have hnx := hM.2.1.2.1
  have hK := hM.2.1.2.2.2.1
  refine CI.of (by decide) (Nat.le_of_ble_eq_true rfl) ?_
  refine J.iload_n 0 dX7_goBack_0 rfl rfl ?_
  refine J.iconst 1 (nI 0) dX7_goBack_1 (by decide +kernel) ?_
  refine J.iconst 2 (nI 1) dX7_goBack_2 (by decide +kernel) ?_
  refine V.callsP 3 dX7_goBack_3 ml_RX7_66 mi_yX7_between ms_yX7_between (c_X7_between w _) rfl rfl (Nat.le_of_ble_eq_true rfl) (by decide) (by decide) ?_
  refine V.if_neB 6 12 dX7_goBack_6 (by decide) (fun c6 => absurd c6 hx) (fun c6 => ?_)
  refine J.ldc 9 (-1000000001) dX7_goBack_9 kc_RX7_142 ?_
  exact V.iret 11 dX7_goBack_11 (by unfold F_goBack; rw [if_pos hx]; exact ⟨rfl, hM.x (by omega), Rq.rf v⟩)
def F_clocks (b : Vm2) (s : Nat) : Int32 × Vm2 := (clX b s, clF b s)
set_option maxHeartbeats 1000000 in
set_option maxRecDepth 100000 in
theorem q_clocks (w : Wd) (v : Vm2) {b : Vm2} {n f ma K nx s wr a0 B : Nat} (hM : Mr v b n f ma K nx s wr a0 B) (hB : B ≤ 100000000) (hB9 : 9999 ≤ B) : CI w yX7_clocks cX7_clocks 3 (some .int) (rm 5 111) [.ref (wN w + 0)] v (fun r v' => r = (F_clocks b s).1 ∧ MR v' (F_clocks b s).2 (B + 160000) ∧ Rq v' v) := by
  have hR := hM.1.1
  have hW := hM.1.2.1
  have hBn := hM.1.2.2
  have hn := hW.2.1
  have hf3 := hW.2.2.2.1
  have hma := hW.2.2.2.2.2.2.1
  have hnx := hM.2.1.2.1
  have hK := hM.2.1.2.2.2.1
  refine CI.of (by decide) (Nat.le_of_ble_eq_true rfl) ?_
  refine J.aload_n 0 dX7_clocks_0 rfl rfl ?_
  refine V.getR 1 dX7_clocks_1 fl_RX7_22 r_0_2 ?_
  refine J.aload_n 4 dX7_clocks_4 rfl rfl ?_
  refine V.getR 5 dX7_clocks_5 fl_RX7_16 r_0_1 ?_
  refine V.callv 8 dX7_clocks_8 ml_RX7_80 mi_yX6_readInto mv_yX6_readInto (c_X6_readInto w _ isS_9 hM.2.2.2.1.1 hM.2.2.2.1.2.2.1) rfl rfl (Nat.le_of_ble_eq_true rfl) (by decide) (by decide) o_17 rfl rfl (fun r8 v8 h8 => ?_)
  obtain ⟨hF8, hl8, h8⟩ := h8
  have e18 := hM.2.2.2.1.2.2.2.1
  rw [e18] at h8
  rcases hp : pa (b 180) s with ⟨k, p⟩ | ρ
  · rw [hp] at h8
    obtain ⟨h0, h5, rfl, hp5⟩ := h8
    refine J.istore_n 11 dX7_clocks_11 rfl (by decide) ?_
    refine J.iload_n 12 dX7_clocks_12 rfl rfl ?_
    refine V.if_eq 13 21 dX7_clocks_13 (by decide) (by omega) (fun c13 => absurd c13 (by omega)) (fun c13 => ?_)
    refine J.bipush 16 (-10) dX7_clocks_16 (by decide +kernel) ?_
    refine J.iload_n 18 dX7_clocks_18 rfl rfl ?_
    refine J.isub 19 dX7_clocks_19 ?_
    exact V.iret 20 dX7_clocks_20 (by unfold F_clocks clX clF; rw [hp]; exact ⟨rfl, (hM.txt (fun k h1 h2 h3 h4 => hF8 k h1 (by omega)) (fun k h1 h2 => by rw [up2_ne _ _ _ (by omega), up2_ne _ _ _ (by omega)]) (fun i h1 h2 => by rw [up2_o _ _ (by omega), up2_o _ _ (by omega)]) ⟨hl8, up2_self _ _ _ _, by omega, by rw [hF8 18 (by decide) (by omega), up2_ne _ _ _ (by decide), up2_ne _ _ _ (by decide)]; exact e18, by rw [up2_o _ _ (by omega), up2_self]; exact hp5⟩).x (by omega), hF8.rq (by decide)⟩)
  · rw [hp] at h8
    obtain ⟨rfl, hp5, n1, hR8, hW8⟩ := h8
    refine J.istore_n 11 dX7_clocks_11 rfl (by decide) ?_
    refine J.iload_n 12 dX7_clocks_12 rfl rfl ?_
    refine J.if_eq 13 21 dX7_clocks_13 (by decide) (fun _ => ?_) (fun q => absurd q (by decide))
    refine J.aload_n 21 dX7_clocks_21 rfl rfl ?_
    refine V.getR 22 dX7_clocks_22 fl_RX7_10 r_0_0 ?_
    refine J.aload_n 25 dX7_clocks_25 rfl rfl ?_
    refine V.getR 26 dX7_clocks_26 fl_RX7_16 r_0_1 ?_
    refine V.callvU 29 dX7_clocks_29 ml_RX7_84 mi_yX5_copyFrom mv_yX5_copyFrom (c_X5_copyFrom w _ isS_1 isS_9 (by omega)) rfl rfl (Nat.le_of_ble_eq_true rfl) (by decide) (by decide) isS_1.o rfl rfl (fun v29 h29 => ?_)
    refine J.aload_n 32 dX7_clocks_32 rfl rfl ?_
    refine V.getR 33 dX7_clocks_33 fl_RX7_36 r_0_4 ?_
    refine V.callvU 36 dX7_clocks_36 ml_RX7_88 mi_yX4_forget mv_yX4_forget (c_X4_forget w _) rfl rfl (Nat.le_of_ble_eq_true rfl) (by decide) (by decide) o_25 rfl rfl (fun v36 h36 => ?_)
    subst h36
    refine J.aload_n 39 dX7_clocks_39 rfl rfl ?_
    refine V.getR 40 dX7_clocks_40 fl_RX7_43 r_0_5 ?_
    refine J.iconst 43 (nI 0) dX7_clocks_43 (by decide +kernel) ?_
    refine V.putI 44 dX7_clocks_44 fl_RX7_91 fp_0_2 i_155_2 ?_
    refine J.iconst 47 (nI 0) dX7_clocks_47 (by decide +kernel) ?_
    refine J.istore_n 48 dX7_clocks_48 rfl (by decide) ?_
    refine J.iload_n 49 dX7_clocks_49 rfl rfl ?_
    refine J.iconst 50 (nI 2) dX7_clocks_50 (by decide +kernel) ?_
    refine J.icmp_ge 51 67 dX7_clocks_51 (by decide) (fun q => absurd q (by decide)) (fun _ => ?_)
    refine J.aload_n 54 dX7_clocks_54 rfl rfl ?_
    refine V.getR 55 dX7_clocks_55 fl_RX7_62 r_0_9 ?_
    refine J.iload_n 58 dX7_clocks_58 rfl rfl ?_
    refine J.iconst 59 (nI 0) dX7_clocks_59 (by decide +kernel) ?_
    refine V.zast 60 dX7_clocks_60 a_177 (by omega) (by first | exact Or.inl rfl | exact Or.inr rfl) ?_
    refine J.iinc 61 dX7_clocks_61 (nI 1) rfl (by decide +kernel) (by decide) ?_
    refine J.goto 64 49 dX7_clocks_64 (by decide) ?_
    refine J.iload_n 49 dX7_clocks_49 rfl rfl ?_
    refine J.iconst 50 (nI 2) dX7_clocks_50 (by decide +kernel) ?_
    refine J.icmp_ge 51 67 dX7_clocks_51 (by decide) (fun q => absurd q (by decide)) (fun _ => ?_)
    refine J.aload_n 54 dX7_clocks_54 rfl rfl ?_
    refine V.getR 55 dX7_clocks_55 fl_RX7_62 r_0_9 ?_
    refine J.iload_n 58 dX7_clocks_58 rfl rfl ?_
    refine J.iconst 59 (nI 0) dX7_clocks_59 (by decide +kernel) ?_
    refine V.zast 60 dX7_clocks_60 a_177 (by omega) (by first | exact Or.inl rfl | exact Or.inr rfl) ?_
    refine J.iinc 61 dX7_clocks_61 (nI 2) rfl (by decide +kernel) (by decide) ?_
    refine J.goto 64 49 dX7_clocks_64 (by decide) ?_
    refine J.iload_n 49 dX7_clocks_49 rfl rfl ?_
    refine J.iconst 50 (nI 2) dX7_clocks_50 (by decide +kernel) ?_
    refine J.icmp_ge 51 67 dX7_clocks_51 (by decide) (fun _ => ?_) (fun q => absurd q (by decide))
    have hR9 : RepS (up2 (up2 (up2 (up2 v29 25 2 (nI 0)) 155 2 (nI 0)) 177 0 (nI 0)) 177 1 (nI 0)) 1 ρ n1 0 := (h29.rep hW8.2.1 (by omega) hR8).same (fun k h1 h2 => by rw [up2_ne _ _ _ (by omega), up2_ne _ _ _ (by omega), up2_ne _ _ _ (by omega), up2_ne _ _ _ (by omega)])
    have hf17 : (up2 (up2 (up2 (up2 v29 25 2 (nI 0)) 155 2 (nI 0)) 177 0 (nI 0)) 177 1 (nI 0)) 17 = v8 17 := by rw [up2_ne _ _ _ (by decide), up2_ne _ _ _ (by decide), up2_ne _ _ _ (by decide), up2_ne _ _ _ (by decide), h29.1 17 (by omega)]
    have hf9 : ∀ k, k ≠ 17 → (k < 1 ∨ 17 ≤ k) → k ≠ 25 → k ≠ 155 → k ≠ 177 → k < 178 → (up2 (up2 (up2 (up2 v29 25 2 (nI 0)) 155 2 (nI 0)) 177 0 (nI 0)) 177 1 (nI 0)) k = v k := fun k h1 h2 h3 h4 h5 h6 => by rw [up2_ne _ _ _ h5, up2_ne _ _ _ h5, up2_ne _ _ _ h4, up2_ne _ _ _ h3, h29.1 k (by omega), hF8 k h1 (by omega)]
    have hk9 : ∀ i, i < 2 → (up2 (up2 (up2 (up2 v29 25 2 (nI 0)) 155 2 (nI 0)) 177 0 (nI 0)) 177 1 (nI 0)) 177 i = 0 := fun i hi => by
      obtain rfl | rfl : i = 0 ∨ i = 1 := by omega
      · rw [up2_o _ _ (by omega), up2_self]; rfl
      · rw [up2_self]; rfl
    refine J.aload_n 67 dX7_clocks_67 rfl rfl ?_
    refine V.getR 68 dX7_clocks_68 fl_RX7_10 r_0_0 ?_
    refine V.getI 71 dX7_clocks_71 fl_RX7_94 isS_1.i0 ?_
    exact V.iret 74 dX7_clocks_74 (by unfold F_clocks clX clF; rw [hp]; exact ⟨hR9.1.1, by obtain ⟨g1, g2, g3, g4, g5, g6, g7, g8, g9⟩ := hM.clk hW8 hR9 hf9 (by rw [up2_ne _ _ _ (by decide), up2_ne _ _ _ (by decide), up2_ne _ _ _ (by decide), up2_o _ _ (by omega), h29.1 25 (by omega), hF8 25 (by decide) (by omega)]) (by rw [up2_ne _ _ _ (by decide), up2_ne _ _ _ (by decide), up2_ne _ _ _ (by decide), up2_self]) (by rw [hf17]; exact hl8) (by rw [hf17]; exact hp5) (by rw [up2_ne _ _ _ (by decide), up2_ne _ _ _ (by decide), up2_self]) hk9 hB9; exact g9.x (by omega), (((((h29.rq (by decide)).trans (hF8.rq (by decide))).up (by decide)).up (by decide)).up (by decide)).up (by decide)⟩)
