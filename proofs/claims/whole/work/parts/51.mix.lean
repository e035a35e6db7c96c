/-! ===== part 51: the class's cells beside the reference's ===== -/
def mix (u v : Vm2) : Vm2 := fun k => if k < 178 then u k else v k
theorem mx_hi (u v : Vm2) {k : Nat} (h : 178 ≤ k) : mix u v k = v k := if_neg (by omega)
theorem mx_lo (u v : Vm2) {k : Nat} (h : k < 178) : mix u v k = u k := if_pos h
theorem mx8 (u v : Vm2) : mix u v 178 = v 178 := mx_hi u v (by decide)
theorem mx9 (u v : Vm2) : mix u v 179 = v 179 := mx_hi u v (by decide)
theorem mx0 (u v : Vm2) : mix u v 180 = v 180 := mx_hi u v (by decide)
theorem mx1 (u v : Vm2) : mix u v 181 = v 181 := mx_hi u v (by decide)
theorem mx2 (u v : Vm2) : mix u v 182 = v 182 := mx_hi u v (by decide)
theorem Rq.mx {u v : Vm2} (h : Rq u v) : u = mix u v := by
  funext k
  by_cases hk : k < 178
  · rw [mx_lo _ _ hk]
  · rw [mx_hi _ _ (by omega)]; exact h k (by omega)
theorem mx_up (u v : Vm2) {k : Nat} (i : Nat) (x : Int32) (h : 178 ≤ k) : up2 (mix u v) k i x = mix u (up2 v k i x) := by
  funext a
  by_cases ha : a < 178
  · rw [mx_lo _ _ ha, up2_ne _ _ _ (by omega), mx_lo _ _ ha]
  · rw [mx_hi _ _ (by omega)]
    by_cases e : a = k
    · subst e; rw [up2_row, up2_row, mx_hi _ _ h]
    · rw [up2_ne _ _ _ e, up2_ne _ _ _ e, mx_hi _ _ (by omega)]
theorem mx_R (u v : Vm2) {k : Nat} (f : Nat → Int32) (h : 178 ≤ k) : upR (mix u v) k f = mix u (upR v k f) := by
  funext a
  by_cases ha : a < 178
  · rw [mx_lo _ _ ha, upR_ne _ _ (by omega), mx_lo _ _ ha]
  · rw [mx_hi _ _ (by omega)]
    by_cases e : a = k
    · subst e; rw [upR_self, upR_self]
    · rw [upR_ne _ _ e, upR_ne _ _ e, mx_hi _ _ (by omega)]
theorem mx_cp (u v : Vm2) (x y n : Nat) : cpK (mix u v) x y n = mix u (cpK v x y n) := by
  funext a b
  by_cases ha : a < 178
  · rw [mx_lo u (cpK v x y n) ha]
    unfold cpK
    rw [if_neg (by omega), mx_lo _ _ ha]
  · rw [mx_hi u (cpK v x y n) (by omega)]
    unfold cpK
    rw [mx9, mx_hi u v (by omega)]
theorem mx_cR (u v : Vm2) (x y : Nat) : cpR (mix u v) x y = mix u (cpR v x y) := mx_cp u v x y 192
theorem mx_sh (u v : Vm2) (k : Nat) : shK (mix u v) k = mix u (shK v k) := by
  funext a b
  by_cases ha : a < 178
  · rw [mx_lo u (shK v k) ha]
    unfold shK
    rw [if_neg (by omega), mx_lo _ _ ha]
  · rw [mx_hi u (shK v k) (by omega)]
    unfold shK
    rw [mx9, mx_hi u v (by omega)]
theorem mx_rm (u v : Vm2) (K : Nat) : rmF (mix u v) K = mix u (rmF v K) := by
  unfold rmF
  by_cases h : K = 16
  · rw [if_pos h, if_pos h, mx_sh, mx_up _ _ _ _ (by decide), mx_cR, mx_up _ _ _ _ (by decide)]
  · rw [if_neg h, if_neg h, mx_cR, mx_up _ _ _ _ (by decide)]
theorem mx_ite {c : Prop} [Decidable c] {u : Vm2} {p1 p2 q1 q2 : Int32 × Vm2} (h1 : p1 = (q1.1, mix u q1.2)) (h2 : p2 = (q2.1, mix u q2.2)) : (if c then p1 else p2) = ((if c then q1 else q2).1, mix u (if c then q1 else q2).2) := by
  by_cases h : c
  · rw [if_pos h, if_pos h]; exact h1
  · rw [if_neg h, if_neg h]; exact h2
section MX
variable (u b : Vm2)
theorem mF_feed (s : Nat) (x : Int32) : F_feed (mix u b) s x = ((F_feed b s x).1, mix u (F_feed b s x).2) := by
  unfold F_feed
  exact mx_ite rfl (mx_ite rfl (by rw [mx_up _ _ _ _ (by decide), mx_up _ _ _ _ (by decide)]))
theorem mF_clocks (s : Nat) : F_clocks (mix u b) s = ((F_clocks b s).1, mix u (F_clocks b s).2) := by
  unfold F_clocks clX clF
  rw [mx0]
  rcases pa (b 180) s with ⟨k, p⟩ | ρ
  · show (_, up2 (up2 (mix u b) 178 5 (nI p)) 178 4 (nI 0)) = (_, mix u (up2 (up2 b 178 5 (nI p)) 178 4 (nI 0)))
    rw [mx_up _ _ _ _ (by decide), mx_up _ _ _ _ (by decide)]
  · show (_, clW (mix u b) ρ) = (_, mix u (clW b ρ))
    unfold clW
    rw [mx9, mx_R _ _ _ (by decide), mx_up _ _ _ _ (by decide), mx_up _ _ _ _ (by decide), mx_up _ _ _ _ (by decide), mx_up _ _ _ _ (by decide), mx_up _ _ _ _ (by decide)]
theorem mF_told (n f ma wr : Nat) (x : Int32) : F_told (mix u b) n f ma wr x = F_told b n f ma wr x := by
  unfold F_told tdK
  rw [mx8, mx9, mx1, mx2]
theorem mF_lie (n K : Nat) (j i x : Int32) : F_lie (mix u b) n K j i x = ((F_lie b n K j i x).1, mix u (F_lie b n K j i x).2) := by
  unfold F_lie
  rw [mx9, mx_rm, mx_up _ _ _ _ (by decide)]
  exact mx_ite rfl (mx_ite rfl rfl)
theorem mF_error (n K : Nat) (j i x : Int32) : F_error (mix u b) n K j i x = ((F_error b n K j i x).1, mix u (F_error b n K j i x).2) := by
  unfold F_error
  rw [mx9, mx_rm, mx_up _ _ _ _ (by decide)]
  exact mx_ite rfl (mx_ite rfl rfl)
theorem mF_liar (n K : Nat) (c z : Int32) : F_liar (mix u b) n K c z = ((F_liar b n K c z).1, mix u (F_liar b n K c z).2) := by
  unfold F_liar
  rw [mx9, mx_rm, mx_up _ _ _ _ (by decide)]
  exact mx_ite rfl rfl
theorem mF_stand (n K : Nat) (c : Int32) : F_stand (mix u b) n K c = ((F_stand b n K c).1, mix u (F_stand b n K c).2) := by
  unfold F_stand
  rw [mx9, mx_rm, mx_up _ _ _ _ (by decide)]
  exact mx_ite rfl (mx_ite rfl rfl)
theorem mF_join (n f K ma : Nat) (c : Int32) : F_join (mix u b) n f K ma c = ((F_join b n f K ma c).1, mix u (F_join b n f K ma c).2) := by
  unfold F_join
  rw [mx9, mx_rm, mx9, mx_R _ _ _ (by decide)]
  exact mx_ite rfl (mx_ite rfl rfl)
theorem mF_alarm (n K ma : Nat) (c x : Int32) : F_alarm (mix u b) n K ma c x = ((F_alarm b n K ma c x).1, mix u (F_alarm b n K ma c x).2) := by
  unfold F_alarm alW
  rw [mx9, mx_rm, mx_up _ _ _ _ (by decide), mx_up _ _ _ _ (by decide), mx_up _ _ _ _ (by decide), mx_up _ _ _ _ (by decide)]
  exact mx_ite rfl (mx_ite rfl (mx_ite rfl rfl))
theorem mF_undo (K : Nat) (x : Int32) : F_undo (mix u b) K x = ((F_undo b K x).1, mix u (F_undo b K x).2) := by
  unfold F_undo
  rw [mx9, mx_up _ _ _ _ (by decide), mx_cR, mx_up _ _ _ _ (by decide)]
  exact mx_ite rfl (mx_ite rfl rfl)
theorem mF_write (n wr : Nat) (c x : Int32) : F_write (mix u b) n wr c x = ((F_write b n wr c x).1, mix u (F_write b n wr c x).2) := by
  unfold F_write
  rw [mx_up _ _ _ _ (by decide), mx_up _ _ _ _ (by decide), mx_up _ _ _ _ (by decide)]
  exact mx_ite rfl (mx_ite rfl rfl)
theorem mF_tear : F_tear (mix u b) = ((F_tear b).1, mix u (F_tear b).2) := by
  unfold F_tear
  rw [mx8, mx_up _ _ _ _ (by decide)]
theorem mF_seed (x : Int32) : F_seed (mix u b) x = ((F_seed b x).1, mix u (F_seed b x).2) := by
  unfold F_seed
  rw [mx9, mx_up _ _ _ _ (by decide)]
  exact mx_ite rfl rfl
theorem mF_keep (x : Int32) : F_keep (mix u b) x = ((F_keep b x).1, mix u (F_keep b x).2) := by
  unfold F_keep
  rw [mx8, mx_cR, mx_up _ _ _ _ (by decide), mx_up _ _ _ _ (by decide)]
  exact mx_ite rfl rfl
theorem mF_goBack (x : Int32) : F_goBack (mix u b) x = ((F_goBack b x).1, mix u (F_goBack b x).2) := by
  unfold F_goBack
  rw [mx8, mx_cR, mx_up _ _ _ _ (by decide)]
  exact mx_ite rfl (mx_ite rfl rfl)
theorem mF_tick (n K ma : Nat) (x : Int32) : F_tick (mix u b) n K ma x = ((F_tick b n K ma x).1, mix u (F_tick b n K ma x).2) := by
  unfold F_tick
  rw [mx_rm, mx9, mx_R _ _ _ (by decide)]
  exact mx_ite rfl rfl
theorem mF_round (n f K : Nat) : F_round (mix u b) n f K = ((F_round b n f K).1, mix u (F_round b n f K).2) := by
  unfold F_round
  rw [mx_rm, mx9, mx_R _ _ _ (by decide)]
end MX
theorem mx_dr1 (u b : Vm2) (n f ma K a : Nat) : dr1 (mix u b) n f ma K a = mix u (dr1 b n f ma K a) := by
  unfold dr1
  rw [mx_rm, mx9, mx_R _ _ _ (by decide)]
theorem mx_drV (u : Vm2) (n f ma : Nat) : ∀ (t : Nat) (b : Vm2) (K a : Nat), drV n f ma t (mix u b) K a = mix u (drV n f ma t b K a)
  | 0, b, K, a => by rw [drV_0, drV_0]
  | t + 1, b, K, a => by rw [drV_s, drV_s, mx_dr1, mx_drV u n f ma t]
theorem mF_drift (u b : Vm2) (n f ma K a : Nat) (x : Int32) : F_drift (mix u b) n f ma K a x = ((F_drift b n f ma K a x).1, mix u (F_drift b n f ma K a x).2) := by
  unfold F_drift
  rw [mx_drV, mx9, mx9]
  exact mx_ite rfl (mx_ite rfl rfl)
theorem Mr.tr {u v b c : Vm2} {n f ma K nx s wr a B : Nat} (h : Mr v b n f ma K nx s wr a B) (hu : ∀ k, k < 178 → u k = v k) (h9 : ∀ i, i < 3648 → c 179 i = b 179 i) (h8 : ∀ i, i < 11 → c 178 i = b 178 i) (h0 : c 180 = b 180) (h1 : c 181 = b 181) (h2 : c 182 = b 182) : Mr u c n f ma K nx s wr a B := by
  obtain ⟨g1, g2, g3, g4, g5, g6, g7, g8⟩ := h
  have hn := g1.2.1.2.1
  have hma := g1.2.1.2.2.2.2.2.2.1
  have hK := g2.2.2.2.1
  have hq : ∀ q x, q + 8 ≤ 178 → x + 192 ≤ 3648 → HsR v b q x B → HsR u c q x B := fun q x q1 q2 z => z.cg (Nat.le_refl B) (fun k k1 k2 => hu k (by omega)) (fun k hk => h9 _ (by omega))
  refine ⟨⟨?_, ?_, ?_⟩, ?_, fun k hk => ?_, ?_, ?_, ?_, ?_, fun i hi => ?_⟩
  · exact (g1.1.same (fun k k1 k2 => hu k (by omega))).cg hn hma (fun k hk => h9 k (by omega))
  · exact g1.2.1.cg9 (fun k hk => h9 k (by omega))
  · exact g1.2.2.cg hn (fun k hk => h9 k (by omega))
  · rw [hu 25 (by omega), h8 1 (by omega)]; exact g2
  · exact hq _ _ (by omega) (by omega) (g3 k hk)
  · rw [hu 17 (by omega), hu 18 (by omega), h8 4 (by omega), h8 5 (by omega), h0]; exact g4
  · rw [hu 155 (by omega), hu 156 (by omega), hu 157 (by omega), h8 8 (by omega), h1, h2]; exact g5
  · rw [hu 158 (by omega), h9 191 (by omega)]; exact g6
  · rw [hu 177 (by omega), h8 2 (by omega)]; exact g7
  · rw [hu 177 (by omega), hu 176 (by omega), h9 (3264 + 192 * i + 191) (by omega)]
    rcases g8 i hi with z | ⟨z1, z2, z3⟩
    · exact Or.inl z
    · exact Or.inr ⟨z1, hq _ _ (by omega) (by omega) z2, z3⟩
theorem stp {u x c : Vm2} {E : Nat} (hm : MR x c E) (he : EqR u (mix x c)) : MR u u E := by
  obtain ⟨n, f, ma, K, nx, s, wr, a, h⟩ := hm
  refine ⟨n, f, ma, K, nx, s, wr, a, h.tr (fun k hk => ?_) (fun i hi => ?_) (fun i hi => ?_) ?_ ?_ ?_⟩
  · rw [he.1 k (by omega) (by omega) (by omega) (by omega)]; exact mx_lo _ _ hk
  · rw [he.2.1 i hi, mx9]
  · rw [he.2.2 i hi, mx8]
  · rw [he.1 180 (by decide) (by decide) (by decide) (by decide), mx0]
  · rw [he.1 181 (by decide) (by decide) (by decide) (by decide), mx1]
  · rw [he.1 182 (by decide) (by decide) (by decide) (by decide), mx2]
/-! the start -/
theorem v0_O {k c : Nat} (h : isO k c) (i : Nat) : v0 k i = if c = 5 ∧ i = 2 then nI 10 else if (c = 6 ∨ c = 8) ∧ i = 5 then -1 else 0 := by
  obtain ⟨fs, h⟩ := h.ex
  unfold v0
  rw [h]
  rfl
theorem v0_A {k N : Nat} (h : isIA k N) (hN : N ≠ 3840) : v0 k = fun _ => 0 := by
  unfold v0
  rw [h.2.1, w0_i hN]
theorem v0_9 (i : Nat) : v0 179 i = if i = 2 then nI 10 else 0 := by
  unfold v0
  rw [a_179.2.1]
  show (if 3840 = 3840 ∧ i = 2 then nI 10 else (0 : Int32)) = _
  by_cases h : i = 2
  · rw [if_pos ⟨rfl, h⟩, if_pos h]
  · rw [if_neg (fun z => h z.2), if_neg h]
theorem v0_90 {i : Nat} (h : i ≠ 2) : v0 179 i = 0 := by rw [v0_9, if_neg h]
theorem v0_Z : v0 177 = fun _ => 0 := by
  unfold v0
  rw [a_177.2.1]
  rfl
theorem Mr0 : Mr v0 v0 0 0 0 0 0 0 0 0 9999 := by
  have q1 : ∀ i, v0 1 i = if i = 2 then nI 10 else 0 := fun i => by
    rw [v0_O isS_1.o i]
    by_cases h : i = 2
    · rw [if_pos ⟨rfl, h⟩, if_pos h]
    · rw [if_neg (fun z => h z.2), if_neg h, if_neg (fun z => by rcases z.1 with y | y <;> exact absurd y (by decide))]
  have bm : ∀ o, 3 ≤ o → nI 0 = BM (fun c => v0 179 (o + c)) := fun o ho => by
    refine BM_0.trans (BM_congr (fun c _ => ?_))
    rw [v0_90 (by omega)]
  refine ⟨⟨⟨⟨?_, ?_, ?_, ?_, ?_⟩, ⟨?_, ?_, ?_⟩, fun c hc => absurd hc (by omega), fun k hk => ⟨?_, ?_⟩, fun a ha => absurd ha (by omega)⟩, ⟨?_, by omega, ?_, by omega, ⟨10, by omega, ?_⟩, ?_, by omega, fun c hc => ⟨Or.inl ?_, Or.inl ?_⟩, fun a ha => absurd ha (by omega)⟩, fun c hc => absurd hc (by omega), fun k hk => ?_, fun c hc => absurd hc (by omega)⟩, ⟨?_, by omega, ?_, by omega, ?_⟩, fun k hk => absurd hk (by omega), ⟨?_, ?_, by omega, ?_, ?_⟩, ⟨?_, ?_, by omega, ?_, ?_⟩, ⟨?_, ?_, by omega⟩, ?_, fun i hi => Or.inl ?_⟩
  · rw [q1, v0_9]
  · rw [q1, v0_9]
  · rw [q1, v0_9]
  · rw [q1, v0_9]; rfl
  · rw [q1, v0_9]; rfl
  · rw [q1]; exact bm 27 (by omega)
  · rw [q1]; exact bm 35 (by omega)
  · rw [q1]
    refine BM_0.trans (BM_congr (fun c _ => ?_))
    rw [if_neg (by omega)]
  · rw [v0_A isS_1.a11 (by decide), v0_90 (by omega)]
  · rw [v0_A isS_1.a12 (by decide), v0_90 (by omega)]
  · exact v0_90 (by decide)
  · exact v0_90 (by decide)
  · rw [v0_9]; rfl
  · exact v0_90 (by decide)
  · exact v0_90 (by omega)
  · exact v0_90 (by omega)
  · rw [v0_90 (by omega)]
    unfold Wi
    decide
  · rw [v0_O o_25]; decide
  · rw [v0_O o_25]; decide
  · rw [v0_O o_178]; decide
  · rw [v0_O o_17]; decide
  · rw [v0_O o_178]; decide
  · rw [v0_A a_18 (by decide), v0_A a_180 (by decide)]
  · rw [v0_O o_17, v0_O o_178]; decide
  · rw [v0_O o_155]; decide
  · rw [v0_O o_178]; decide
  · rw [v0_A a_156 (by decide), v0_A a_181 (by decide)]
  · rw [v0_A a_157 (by decide), v0_A a_182 (by decide)]
  · rw [v0_O o_158]; decide
  · exact v0_90 (by decide)
  · rw [v0_O o_178, v0_Z]
    refine Eq.trans ?_ (BM_0.trans (BM_congr (fun c _ => ?_)))
    · decide
    · by_cases z : c < 2
      · rw [if_pos z]
      · rw [if_neg z]
  · rw [v0_Z]
