/-! ===== part 43: the two memories side by side ===== -/
theorem RepS.cg {v : Vm2} {q n ma : Nat} {ρ σ : Nat → Int32} (h : RepS v q ρ n ma) (hn : n ≤ 8) (hma : ma ≤ 6) (e : ∀ k, k < 191 → σ k = ρ k) : RepS v q σ n ma := by
  obtain ⟨⟨a1, a2, a3, a4, a5⟩, ⟨b1, b2, b3⟩, c1, c2, c3⟩ := h
  refine ⟨⟨?_, ?_, ?_, ?_, ?_⟩, ⟨?_, ?_, ?_⟩, fun k hk => ⟨?_, ?_, ?_⟩, fun k hk => ⟨?_, ?_⟩, fun k hk => ⟨?_, ?_⟩⟩
  · rw [e _ (by omega)]; exact a1
  · rw [e _ (by omega)]; exact a2
  · rw [e _ (by omega)]; exact a3
  · rw [e _ (by omega)]; exact a4
  · rw [e _ (by omega)]; exact a5
  · rw [b1]; exact BM_congr (fun k hk => by rw [e _ (by omega)])
  · rw [b2]; exact BM_congr (fun k hk => by rw [e _ (by omega)])
  · rw [b3]
    refine BM_congr (fun k hk => ?_)
    by_cases z : k < ma
    · rw [if_pos z, if_pos z, e _ (by omega)]
    · rw [if_neg z, if_neg z]
  · rw [e _ (by omega)]; exact (c1 k hk).1
  · rw [e _ (by omega)]; exact (c1 k hk).2.1
  · rw [e _ (by omega)]; exact (c1 k hk).2.2
  · rw [e _ (by omega)]; exact (c2 k hk).1
  · rw [e _ (by omega)]; exact (c2 k hk).2
  · rw [e _ (by omega)]; exact (c3 k hk).1
  · rw [e _ (by omega)]; exact (c3 k hk).2
theorem Wf.cg9 {ρ σ : Nat → Int32} {n f ma : Nat} (h : Wf ρ n f ma) (e : ∀ k, k < 191 → σ k = ρ k) : Wf σ n f ma := h.cg (fun k hk _ => e k (by omega))
theorem Bn.cg {ρ σ : Nat → Int32} {n B : Nat} (h : Bn ρ n B) (hn : n ≤ 8) (e : ∀ k, (k < 27 ∨ (43 ≤ k ∧ k < 171)) → σ k = ρ k) : Bn σ n B := by
  obtain ⟨h1, h2, h3⟩ := h
  refine ⟨fun c hc => ?_, fun k hk => ?_, fun c hc => ?_⟩
  · unfold aimF; rw [e _ (by omega), e _ (by omega)]; exact h1 c hc
  · rw [e _ (by omega)]; exact h2 k hk
  · rw [e _ (by omega)]; exact h3 c hc
def HsR (v b : Vm2) (q x B : Nat) : Prop := ∃ n f ma, RepS v q (ro b x) n ma ∧ Wf (ro b x) n f ma ∧ Bn (ro b x) n B
theorem HsR.cg {u v b c : Vm2} {q x y B E : Nat} (h : HsR v b q x B) (hB : B ≤ E) (hu : ∀ k, q ≤ k → k < q + 8 → u k = v k) (hc : ∀ k, k < 192 → c 179 (y + k) = b 179 (x + k)) : HsR u c q y E := by
  obtain ⟨n, f, ma, hR, hW, hb⟩ := h
  have e : ∀ k, k < 191 → ro c y k = ro b x k := fun k hk => hc k (by omega)
  exact ⟨n, f, ma, (hR.same hu).cg hW.2.1 hW.2.2.2.2.2.2.1 e, hW.cg9 e, (hb.cg hW.2.1 (fun k hk => e k (by omega))).mono hB⟩
def Mr (v b : Vm2) (n f ma K nx s wr a B : Nat) : Prop :=
  (RepS v 1 (b 179) n ma ∧ Wf (b 179) n f ma ∧ Bn (b 179) n B) ∧
  (v 25 1 = nI nx ∧ nx < 16 ∧ v 25 2 = nI K ∧ K ≤ 16 ∧ b 178 1 = nI K) ∧
  (∀ k, k < K → HsR v b (27 + 8 * ((nx + 16 - K + k) % 16)) (192 * (k + 1)) B) ∧
  (v 17 1 = nI s ∧ b 178 4 = nI s ∧ s ≤ 200 ∧ v 18 = b 180 ∧ v 17 5 = b 178 5) ∧
  (v 155 2 = nI wr ∧ b 178 8 = nI wr ∧ wr ≤ 20 ∧ v 156 = b 181 ∧ v 157 = b 182) ∧
  (v 158 0 = nI a ∧ b 179 191 = nI a ∧ a < 2 ^ 31) ∧
  (b 178 2 = BM (fun i => if i < 2 then v 177 i else 0) ∧ ∀ i, i < 2 → v 177 i = 0 ∨ (v 177 i = nI 1 ∧ HsR v b (160 + 8 * i) (3264 + 192 * i) B ∧ ∃ a1, a1 < 2 ^ 31 ∧ v 176 i = nI a1 ∧ b 179 (3264 + 192 * i + 191) = nI a1))
theorem Mr.now {u v b c : Vm2} {n f ma K nx s wr a B n' f' ma' E : Nat} (h : Mr v b n f ma K nx s wr a B) (hB : B ≤ E) (hu : ∀ k, 17 ≤ k → (k < 20 ∨ 25 ≤ k) → k < 178 → u k = v k) (hc : ∀ k, k ≠ 179 → 178 ≤ k → k < 183 → c k = b k) (hc2 : ∀ k, 191 ≤ k → k < 3648 → c 179 k = b 179 k) (hR : RepS u 1 (c 179) n' ma') (hW : Wf (c 179) n' f' ma') (hb : Bn (c 179) n' E) : Mr u c n' f' ma' K nx s wr a E := by
  obtain ⟨h1, h2, h3, h4, h5, h6, h7, h8⟩ := h
  have u17 := hu 17 (by omega) (by omega) (by omega)
  have u18 := hu 18 (by omega) (by omega) (by omega)
  have u25 := hu 25 (by omega) (by omega) (by omega)
  have u155 := hu 155 (by omega) (by omega) (by omega)
  have u156 := hu 156 (by omega) (by omega) (by omega)
  have u157 := hu 157 (by omega) (by omega) (by omega)
  have u158 := hu 158 (by omega) (by omega) (by omega)
  have u176 := hu 176 (by omega) (by omega) (by omega)
  have u177 := hu 177 (by omega) (by omega) (by omega)
  have c178 := hc 178 (by omega) (by omega) (by omega)
  have c180 := hc 180 (by omega) (by omega) (by omega)
  have c181 := hc 181 (by omega) (by omega) (by omega)
  have c182 := hc 182 (by omega) (by omega) (by omega)
  refine ⟨⟨hR, hW, hb⟩, ?_, fun k hk => ?_, ?_, ?_, ?_, ?_, fun i hi => ?_⟩
  · rw [u25, c178]; exact h2
  · have := h2.2.2.2.1
    exact (h3 k hk).cg hB (fun k h1 h2 => hu k (by omega) (by omega) (by omega)) (fun k hk => hc2 _ (by omega) (by omega))
  · rw [u17, c178, u18, c180]; exact h4
  · rw [u155, c178, u156, u157, c181, c182]; exact h5
  · rw [u158, hc2 191 (by omega) (by omega)]; exact h6
  · rw [c178, u177]; exact h7
  · rw [u177, u176]
    rcases h8 i hi with z | ⟨z1, z2, a1, z3, z4, z5⟩
    · exact Or.inl z
    · refine Or.inr ⟨z1, z2.cg hB (fun k h1 h2 => hu k (by omega) (by omega) (by omega)) (fun k hk => hc2 _ (by omega) (by omega)), a1, z3, z4, ?_⟩
      rw [hc2 _ (by omega) (by omega)]; exact z5
/-- what the reference uses in passing does not count -/
theorem Mr.eqr {v b c : Vm2} {n f ma K nx s wr a B : Nat} (h : Mr v b n f ma K nx s wr a B) (e : EqR c b) : Mr v c n f ma K nx s wr a B := by
  have g : ∀ k, k < 191 → c 179 k = b 179 k := fun k hk => e.2.1 k (by omega)
  obtain ⟨⟨hR, hW, hb⟩, h2, h3, h4, h5, h6, h7, h8⟩ := h
  have c180 := e.1 180 (by omega) (by omega) (by omega) (by omega)
  have c181 := e.1 181 (by omega) (by omega) (by omega) (by omega)
  have c182 := e.1 182 (by omega) (by omega) (by omega) (by omega)
  refine ⟨⟨hR.cg hW.2.1 hW.2.2.2.2.2.2.1 g, hW.cg9 g, hb.cg hW.2.1 (fun k hk => g k (by omega))⟩, ?_, fun k hk => ?_, ?_, ?_, ?_, ?_, fun i hi => ?_⟩
  · rw [e.2.2 1 (by omega)]; exact h2
  · have := h2.2.2.2.1
    exact (h3 k hk).cg (Nat.le_refl B) (fun k _ _ => rfl) (fun k hk => e.2.1 _ (by omega))
  · rw [e.2.2 4 (by omega), e.2.2 5 (by omega), c180]; exact h4
  · rw [e.2.2 8 (by omega), c181, c182]; exact h5
  · rw [e.2.1 191 (by omega)]; exact h6
  · rw [e.2.2 2 (by omega)]; exact h7
  · rcases h8 i hi with z | ⟨z1, z2, a1, z3, z4, z5⟩
    · exact Or.inl z
    · refine Or.inr ⟨z1, z2.cg (Nat.le_refl B) (fun k _ _ => rfl) (fun k hk => e.2.1 _ (by omega)), a1, z3, z4, ?_⟩
      rw [e.2.1 _ (by omega)]; exact z5
/-- only the first cells count of the one, only the last of the other -/
theorem Mr.cells {u v b c : Vm2} {n f ma K nx s wr a B : Nat} (h : Mr v b n f ma K nx s wr a B) (hu : ∀ k, k < 178 → u k = v k) (hc : ∀ k, 178 ≤ k → c k = b k) : Mr u c n f ma K nx s wr a B := by
  have g : c 179 = b 179 := hc 179 (by omega)
  obtain ⟨⟨hR, hW, hb⟩, hrest⟩ := id h
  exact h.now (Nat.le_refl B) (fun k _ _ hk => hu k hk) (fun k _ hk _ => hc k hk) (fun k _ _ => by rw [g]) (by rw [g]; exact hR.same (fun k h1 h2 => hu k (by omega))) (by rw [g]; exact hW) (by rw [g]; exact hb)
theorem Mr.mono {v b : Vm2} {n f ma K nx s wr a B E : Nat} (h : Mr v b n f ma K nx s wr a B) (hB : B ≤ E) : Mr v b n f ma K nx s wr a E := h.now hB (fun _ _ _ _ => rfl) (fun _ _ _ _ => rfl) (fun _ _ _ => rfl) h.1.1 h.1.2.1 (h.1.2.2.mono hB)
/-- the row of trials and the council's rows don't count -/
theorem Mr.fr {u v b : Vm2} {n f ma K nx s wr a B : Nat} (h : Mr v b n f ma K nx s wr a B) (hu : ∀ k, (k < 9 ∨ 17 ≤ k) → (k < 20 ∨ 25 ≤ k) → k < 178 → u k = v k) : Mr u b n f ma K nx s wr a B :=
  h.now (Nat.le_refl B) (fun k h1 h2 h3 => hu k (by omega) h2 h3) (fun _ _ _ _ => rfl) (fun _ _ _ => rfl) (h.1.1.same (fun k h1 h2 => hu k (by omega) (by omega) (by omega))) h.1.2.1 h.1.2.2
theorem rm_old {b : Vm2} {K j i : Nat} (hK : K < 16) (hj : j < K) (hi : i < 192) : (rmF b K) 179 (192 * (j + 1) + i) = b 179 (192 * (j + 1) + i) := by
  unfold rmF
  rw [if_neg (by omega)]
  simp only [up2, cpK]
  rw [if_neg (by omega), if_neg (by omega)]
theorem rm_new {b : Vm2} {K i : Nat} (hK : K ≤ 16) (hi : i < 192) : (rmF b K) 179 (192 * nK K + i) = b 179 i := by
  unfold rmF nK
  by_cases e : K = 16
  · rw [if_pos e, if_pos e]
    simp only [up2, cpK, shK]
    rw [if_neg (by omega), if_pos ⟨trivial, by omega, by omega⟩, if_neg (by omega), if_neg (by omega)]
    exact congrArg (b 179) (by omega)
  · rw [if_neg e, if_neg e]
    simp only [up2, cpK]
    rw [if_neg (by omega), if_pos ⟨trivial, by omega, by omega⟩]
    exact congrArg (b 179) (by omega)
theorem rm_sh {b : Vm2} {j i : Nat} (hj : j < 15) (hi : i < 192) : (rmF b 16) 179 (192 * (j + 1) + i) = b 179 (192 * (j + 1 + 1) + i) := by
  unfold rmF
  rw [if_pos rfl]
  simp only [up2, cpK, shK]
  rw [if_neg (by omega), if_neg (by omega), if_neg (by omega), if_pos ⟨trivial, by omega, by omega⟩]
  exact congrArg (b 179) (by omega)
theorem rm_im {b : Vm2} {K x : Nat} (hK : K ≤ 16) (hx : 3264 ≤ x) : (rmF b K) 179 x = b 179 x := by
  unfold rmF
  by_cases e : K = 16
  · rw [if_pos e]
    simp only [up2, cpK, shK]
    rw [if_neg (by omega), if_neg (by omega), if_neg (by omega), if_neg (by omega)]
  · rw [if_neg e]
    simp only [up2, cpK]
    rw [if_neg (by omega), if_neg (by omega)]
theorem rm_8 {b : Vm2} {K i : Nat} (hi : i ≠ 1) : (rmF b K) 178 i = b 178 i := by
  unfold rmF
  by_cases e : K = 16
  · rw [if_pos e]
    simp only [up2, cpK, shK]
    rw [if_neg (by omega), if_neg (by omega), if_neg (by omega), if_neg (by omega)]
  · rw [if_neg e]
    simp only [up2, cpK]
    rw [if_neg (by omega), if_neg (by omega)]
theorem Mr.rem {u v b : Vm2} {n f ma K nx s wr a B : Nat} (h : Mr v b n f ma K nx s wr a B) (hu : Cp u v (27 + 8 * nx) 1 8) : Mr (up2 (up2 u 25 1 (nI ((nx + 1) % 16))) 25 2 (nI (nK K))) (rmF b K) n f ma (nK K) ((nx + 1) % 16) s wr a B := by
  obtain ⟨⟨hR, hW, hb⟩, ⟨x1, x2, x3, x4, x5⟩, h3, h4, h5, h6, h7, h8⟩ := h
  have hn := hW.2.1
  have hma := hW.2.2.2.2.2.2.1
  have hf := hu.1
  have o : ∀ {y : Int32} k, k ≠ 25 → up2 (up2 u 25 1 (nI ((nx + 1) % 16))) 25 2 y k = u k := fun k hk => by rw [up2_ne _ _ _ hk, up2_ne _ _ _ hk]
  have o2 : ∀ {y : Int32} k, k ≠ 25 → (k < 27 + 8 * nx ∨ 27 + 8 * nx + 8 ≤ k) → up2 (up2 u 25 1 (nI ((nx + 1) % 16))) 25 2 y k = v k := fun k hk h2 => by rw [o k hk]; exact hf k h2
  have r0 := rmF_row b x4
  have hnK : nK K ≤ 16 ∧ 1 ≤ nK K := by unfold nK; split <;> omega
  refine ⟨⟨?_, ?_, ?_⟩, ?_, fun k hk => ?_, ?_, ?_, ?_, ?_, fun i hi => ?_⟩
  · exact (hR.same (fun k h1 h2 => o2 k (by omega) (by omega))).cg hn hma (fun k hk => r0 k (by omega))
  · exact hW.cg9 (fun k hk => r0 k (by omega))
  · exact hb.cg hn (fun k hk => r0 k (by omega))
  · refine ⟨?_, by omega, up2_self _ _ _ _, hnK.1, rmF_k b K⟩
    rw [up2_o _ _ (by omega), up2_self]
  · by_cases e : k + 1 = nK K
    · have hk2 : ((nx + 1) % 16 + 16 - nK K + k) % 16 = nx := by omega
      rw [hk2, e]
      refine ⟨n, f, ma, ?_, ?_, ?_⟩
      · exact (((hu.rep hn hma hR).same (fun k h1 h2 => o k (by omega)))).cg hn hma (fun k hk => rm_new x4 (by omega))
      · exact hW.cg9 (fun k hk => rm_new x4 (by omega))
      · exact hb.cg hn (fun k hk => rm_new x4 (by omega))
    · by_cases e2 : K = 16
      · subst e2
        have e3 : nK 16 = 16 := rfl
        rw [e3] at hk e hnK
        rw [e3]
        have hk2 : ((nx + 1) % 16 + 16 - 16 + k) % 16 = (nx + 16 - 16 + (k + 1)) % 16 := by omega
        rw [hk2]
        refine (h3 (k + 1) (by omega)).cg (Nat.le_refl B) (fun j h1 h2 => o2 j (by omega) (by omega)) (fun j hj => rm_sh (by omega) hj)
      · have e3 : nK K = K + 1 := if_neg e2
        rw [e3] at hk e hnK
        rw [e3]
        have hk2 : ((nx + 1) % 16 + 16 - (K + 1) + k) % 16 = (nx + 16 - K + k) % 16 := by omega
        rw [hk2]
        refine (h3 k (by omega)).cg (Nat.le_refl B) (fun j h1 h2 => o2 j (by omega) (by omega)) (fun j hj => rm_old (by omega) (by omega) hj)
  · rw [o2 17 (by omega) (by omega), o2 18 (by omega) (by omega), rm_8 (by omega), rm_8 (by omega), rmF_o b (by omega) (by omega)]; exact h4
  · rw [o2 155 (by omega) (by omega), o2 156 (by omega) (by omega), o2 157 (by omega) (by omega), rm_8 (by omega), rmF_o b (by omega) (by omega), rmF_o b (by omega) (by omega)]; exact h5
  · rw [o2 158 (by omega) (by omega), r0 191 (by omega)]; exact h6
  · rw [o2 177 (by omega) (by omega), rm_8 (by omega)]; exact h7
  · rw [o2 177 (by omega) (by omega), o2 176 (by omega) (by omega)]
    rcases h8 i hi with z | ⟨z1, z2, a1, z3, z4, z5⟩
    · exact Or.inl z
    · refine Or.inr ⟨z1, z2.cg (Nat.le_refl B) (fun k h1 h2 => o2 k (by omega) (by omega)) (fun k hk => rm_im x4 (by omega)), a1, z3, z4, ?_⟩
      rw [rm_im x4 (by omega)]; exact z5
/-- for some numbers -/
def MR (v b : Vm2) (B : Nat) : Prop := ∃ n f ma K nx s wr a, Mr v b n f ma K nx s wr a B
theorem Mr.x {v b : Vm2} {n f ma K nx s wr a B E : Nat} (h : Mr v b n f ma K nx s wr a B) (hB : B ≤ E) : MR v b E := ⟨n, f, ma, K, nx, s, wr, a, h.mono hB⟩
/-- the reference's cells stay -/
def Rq (u v : Vm2) : Prop := ∀ k, 178 ≤ k → u k = v k
theorem Rq.rf (v : Vm2) : Rq v v := fun _ _ => rfl
theorem Rq.trans {u v x : Vm2} (h1 : Rq u v) (h2 : Rq v x) : Rq u x := fun k hk => (h1 k hk).trans (h2 k hk)
theorem Rq.up {u v : Vm2} {k i : Nat} {x : Int32} (h : Rq u v) (hk : k < 178) : Rq (up2 u k i x) v := fun a ha => by rw [up2_ne _ _ _ (by omega)]; exact h a ha
theorem Cp.rq {u v : Vm2} {q q2 : Nat} (h : Cp u v q q2 8) (hq : q + 8 ≤ 178) : Rq u v := fun k hk => h.1 k (by omega)
theorem FrC.rq {u v : Vm2} (h : FrC u v) : Rq u v := fun k hk => h k (by omega)
theorem FrS.rq {u v : Vm2} {q : Nat} (h : FrS u v q) (hq : q + 8 ≤ 178) : Rq u v := fun k hk => h k (by omega)
theorem FrQ.rq {u v : Vm2} {q : Nat} (h : FrQ u v q) (hq : q + 8 ≤ 178) : Rq u v := fun k hk => h k (by omega) (by omega)
theorem FrX.rq {u v : Vm2} {q : Nat} (h : FrX u v q) (hq : q + 8 ≤ 178) : Rq u v := fun k hk => h k (by omega) (by omega)
