/-! ===== part 32: a State that changes ===== -/
def FrS (u v : Vm2) (q : Nat) : Prop := ∀ k, (k < q ∨ q + 8 ≤ k) → u k = v k
theorem FrS.rf (v : Vm2) (q : Nat) : FrS v v q := fun _ _ => rfl
theorem FrS.up {u v : Vm2} {q k i : Nat} {x : Int32} (h : FrS u v q) (h1 : q ≤ k) (h2 : k < q + 8) : FrS (up2 u k i x) v q := fun a ha => by rw [up2_ne _ _ _ (by omega)]; exact h a ha
theorem FrS.upR {u v : Vm2} {q k : Nat} {f : Nat → Int32} (h : FrS u v q) (h1 : q ≤ k) (h2 : k < q + 8) : FrS (upR u k f) v q := fun a ha => by rw [upR_ne _ _ (by omega)]; exact h a ha
theorem FrS.trans {u v x : Vm2} {q : Nat} (h1 : FrS u v q) (h2 : FrS v x q) : FrS u x q := fun a ha => (h1 a ha).trans (h2 a ha)
theorem RepS.val {v : Vm2} {q n ma c : Nat} {ρ : Nat → Int32} (h : RepS v q ρ n ma) (hc : c < n) (hn : n ≤ 8) (hma : ma ≤ 6) (x : Int32) : RepS (up2 v (q + 1) c x) q (upd ρ (3 + c) x) n ma := by
  obtain ⟨⟨a1, a2, a3, a4, a5⟩, ⟨b1, b2, b3⟩, c1, c2, c3⟩ := h
  refine ⟨⟨?_, ?_, ?_, ?_, ?_⟩, ⟨?_, ?_, ?_⟩, fun k hk => ⟨?_, ?_, ?_⟩, fun k hk => ⟨?_, ?_⟩, fun k hk => ⟨?_, ?_⟩⟩
  · rw [up2_o _ _ (by omega), upd_ne _ _ (by omega)]; exact a1
  · rw [up2_o _ _ (by omega), upd_ne _ _ (by omega)]; exact a2
  · rw [up2_o _ _ (by omega), upd_ne _ _ (by omega)]; exact a3
  · rw [up2_o _ _ (by omega), upd_ne _ _ (by omega)]; exact a4
  · rw [up2_o _ _ (by omega), upd_ne _ _ (by omega)]; exact a5
  · rw [up2_o _ _ (by omega), b1]; exact BM_congr (fun k hk => by rw [upd_ne _ _ (by omega)])
  · rw [up2_o _ _ (by omega), b2]; exact BM_congr (fun k hk => by rw [upd_ne _ _ (by omega)])
  · rw [up2_o _ _ (by omega), b3]; exact BM_congr (fun k hk => by rw [upd_ne _ _ (by omega)])
  · by_cases e : k = c
    · subst e; rw [up2_self, upd_self]
    · rw [up2_o _ _ (by omega), upd_ne _ _ (by omega)]; exact (c1 k hk).1
  · rw [up2_o _ _ (by omega), upd_ne _ _ (by omega)]; exact (c1 k hk).2.1
  · rw [up2_o _ _ (by omega), upd_ne _ _ (by omega)]; exact (c1 k hk).2.2
  · rw [up2_o _ _ (by omega), upd_ne _ _ (by omega)]; exact (c2 k hk).1
  · rw [up2_o _ _ (by omega), upd_ne _ _ (by omega)]; exact (c2 k hk).2
  · rw [up2_o _ _ (by omega), upd_ne _ _ (by omega)]; exact (c3 k hk).1
  · rw [up2_o _ _ (by omega), upd_ne _ _ (by omega)]; exact (c3 k hk).2
theorem RepS.ahd {v : Vm2} {q n ma c : Nat} {ρ : Nat → Int32} (h : RepS v q ρ n ma) (hc : c < n) (hn : n ≤ 8) (hma : ma ≤ 6) (x : Int32) : RepS (up2 v (q + 3) c x) q (upd ρ (19 + c) x) n ma := by
  obtain ⟨⟨a1, a2, a3, a4, a5⟩, ⟨b1, b2, b3⟩, c1, c2, c3⟩ := h
  refine ⟨⟨?_, ?_, ?_, ?_, ?_⟩, ⟨?_, ?_, ?_⟩, fun k hk => ⟨?_, ?_, ?_⟩, fun k hk => ⟨?_, ?_⟩, fun k hk => ⟨?_, ?_⟩⟩
  · rw [up2_o _ _ (by omega), upd_ne _ _ (by omega)]; exact a1
  · rw [up2_o _ _ (by omega), upd_ne _ _ (by omega)]; exact a2
  · rw [up2_o _ _ (by omega), upd_ne _ _ (by omega)]; exact a3
  · rw [up2_o _ _ (by omega), upd_ne _ _ (by omega)]; exact a4
  · rw [up2_o _ _ (by omega), upd_ne _ _ (by omega)]; exact a5
  · rw [up2_o _ _ (by omega), b1]; exact BM_congr (fun k hk => by rw [upd_ne _ _ (by omega)])
  · rw [up2_o _ _ (by omega), b2]; exact BM_congr (fun k hk => by rw [upd_ne _ _ (by omega)])
  · rw [up2_o _ _ (by omega), b3]; exact BM_congr (fun k hk => by rw [upd_ne _ _ (by omega)])
  · rw [up2_o _ _ (by omega), upd_ne _ _ (by omega)]; exact (c1 k hk).1
  · rw [up2_o _ _ (by omega), upd_ne _ _ (by omega)]; exact (c1 k hk).2.1
  · by_cases e : k = c
    · subst e; rw [up2_self, upd_self]
    · rw [up2_o _ _ (by omega), upd_ne _ _ (by omega)]; exact (c1 k hk).2.2
  · rw [up2_o _ _ (by omega), upd_ne _ _ (by omega)]; exact (c2 k hk).1
  · rw [up2_o _ _ (by omega), upd_ne _ _ (by omega)]; exact (c2 k hk).2
  · rw [up2_o _ _ (by omega), upd_ne _ _ (by omega)]; exact (c3 k hk).1
  · rw [up2_o _ _ (by omega), upd_ne _ _ (by omega)]; exact (c3 k hk).2
/-- scalars of a State: times, liars, standing, rung -/
theorem RepS.tim {v : Vm2} {q n ma : Nat} {ρ : Nat → Int32} (h : RepS v q ρ n ma) (hn : n ≤ 8) (hma : ma ≤ 6) (x : Int32) : RepS (up2 v q 7 x) q (upd ρ 190 x) n ma := by
  obtain ⟨⟨a1, a2, a3, a4, a5⟩, ⟨b1, b2, b3⟩, c1, c2, c3⟩ := h
  refine ⟨⟨?_, ?_, ?_, ?_, ?_⟩, ⟨?_, ?_, ?_⟩, fun k hk => ⟨?_, ?_, ?_⟩, fun k hk => ⟨?_, ?_⟩, fun k hk => ⟨?_, ?_⟩⟩
  · rw [up2_o _ _ (by omega), upd_ne _ _ (by omega)]; exact a1
  · rw [up2_o _ _ (by omega), upd_ne _ _ (by omega)]; exact a2
  · rw [up2_o _ _ (by omega), upd_ne _ _ (by omega)]; exact a3
  · rw [up2_o _ _ (by omega), upd_ne _ _ (by omega)]; exact a4
  · rw [up2_self, upd_self]
  · rw [up2_o _ _ (by omega), b1]; exact BM_congr (fun k hk => by rw [upd_ne _ _ (by omega)])
  · rw [up2_o _ _ (by omega), b2]; exact BM_congr (fun k hk => by rw [upd_ne _ _ (by omega)])
  · rw [up2_o _ _ (by omega), b3]
    refine BM_congr (fun k hk => ?_)
    by_cases e : k < ma
    · rw [if_pos e, if_pos e, upd_ne _ _ (by omega)]
    · rw [if_neg e, if_neg e]
  · rw [up2_o _ _ (by omega), upd_ne _ _ (by omega)]; exact (c1 k hk).1
  · rw [up2_o _ _ (by omega), upd_ne _ _ (by omega)]; exact (c1 k hk).2.1
  · rw [up2_o _ _ (by omega), upd_ne _ _ (by omega)]; exact (c1 k hk).2.2
  · rw [up2_o _ _ (by omega), upd_ne _ _ (by omega)]; exact (c2 k hk).1
  · rw [up2_o _ _ (by omega), upd_ne _ _ (by omega)]; exact (c2 k hk).2
  · rw [up2_o _ _ (by omega), upd_ne _ _ (by omega)]; exact (c3 k hk).1
  · rw [up2_o _ _ (by omega), upd_ne _ _ (by omega)]; exact (c3 k hk).2
/-- ringing: what is due is rung -/
abbrev due (ρ : Nat → Int32) (a : Nat) : Prop := ρ (178 + a) ≤ ρ (3 + (ρ (172 + a)).toNatClampNeg)
def rgX (ρ : Nat → Int32) (ma : Nat) : Nat → Int32 := fun k => if 184 ≤ k ∧ k < 184 + ma ∧ due ρ (k - 184) then nI 1 else ρ k
def nwX (ρ : Nat → Int32) (ma : Nat) : Nat → Int32 := fun a => if a < ma ∧ ¬ ρ (184 + a) = nI 1 ∧ due ρ a then nI 1 else 0
theorem BM_or (f g : Nat → Int32) : BM f ||| BM g = BM (fun c => if f c = nI 1 ∨ g c = nI 1 then nI 1 else nI 0) := by
  have h : ∀ b0 b1 b2 b3 b4 b5 b6 b7 d0 d1 d2 d3 d4 d5 d6 d7 : Bool, nI (b8 b0 b1 b2 b3 b4 b5 b6 b7) ||| nI (b8 d0 d1 d2 d3 d4 d5 d6 d7) = nI (b8 (b0 || d0) (b1 || d1) (b2 || d2) (b3 || d3) (b4 || d4) (b5 || d5) (b6 || d6) (b7 || d7)) := by
    intro b0 b1 b2 b3 b4 b5 b6 b7 d0 d1 d2 d3 d4 d5 d6 d7
    have h2 : ∀ c, c < 8 → True := fun _ _ => trivial
    apply Int32.toBitVec_inj.mp
    apply BitVec.eq_of_toNat_eq
    rw [Int32.toBitVec_or, BitVec.toNat_or]
    have e : ∀ x0 x1 x2 x3 x4 x5 x6 x7 : Bool, (nI (b8 x0 x1 x2 x3 x4 x5 x6 x7)).toBitVec.toNat = b8 x0 x1 x2 x3 x4 x5 x6 x7 := by decide +kernel
    rw [e, e, e]
    apply Nat.eq_of_testBit_eq
    intro i
    rw [Nat.testBit_or]
    have t : ∀ x0 x1 x2 x3 x4 x5 x6 x7 : Bool, ∀ j : Fin 8, (b8 x0 x1 x2 x3 x4 x5 x6 x7).testBit j.val = [x0, x1, x2, x3, x4, x5, x6, x7].getD j.val false := by decide +kernel
    have u : ∀ x0 x1 x2 x3 x4 x5 x6 x7 : Bool, b8 x0 x1 x2 x3 x4 x5 x6 x7 < 2 ^ 8 := by decide +kernel
    by_cases hi : i < 8
    · rw [t _ _ _ _ _ _ _ _ ⟨i, hi⟩, t _ _ _ _ _ _ _ _ ⟨i, hi⟩, t _ _ _ _ _ _ _ _ ⟨i, hi⟩]
      obtain rfl | rfl | rfl | rfl | rfl | rfl | rfl | rfl : i = 0 ∨ i = 1 ∨ i = 2 ∨ i = 3 ∨ i = 4 ∨ i = 5 ∨ i = 6 ∨ i = 7 := by omega
      all_goals rfl
    · have hp : 2 ^ 8 ≤ 2 ^ i := Nat.pow_le_pow_right (by decide) (by omega)
      rw [Nat.testBit_lt_two_pow (Nat.lt_of_lt_of_le (u _ _ _ _ _ _ _ _) hp), Nat.testBit_lt_two_pow (Nat.lt_of_lt_of_le (u _ _ _ _ _ _ _ _) hp), Nat.testBit_lt_two_pow (Nat.lt_of_lt_of_le (u _ _ _ _ _ _ _ _) hp)]
      rfl
  unfold BM
  rw [h]
  have d : ∀ c, (decide (f c = nI 1) || decide (g c = nI 1)) = decide ((if f c = nI 1 ∨ g c = nI 1 then nI 1 else nI 0) = nI 1) := by
    intro c
    by_cases h1 : f c = nI 1 <;> by_cases h2 : g c = nI 1 <;> simp [h1, h2, n01]
  rw [d, d, d, d, d, d, d, d]

/-- the alarms of a row: rung or not, of clocks that are -/
def Al0 (ρ : Nat → Int32) (n ma : Nat) : Prop := ∀ a, a < ma → (ρ (184 + a) = 0 ∨ ρ (184 + a) = nI 1) ∧ ∃ cl, cl < n ∧ ρ (172 + a) = nI cl
theorem BM_0 : nI 0 = BM (fun _ => 0) := by decide +kernel
def nwK (ρ : Nat → Int32) (ma k : Nat) : Nat → Int32 := fun a => if a < k then nwX ρ ma a else 0
theorem nwK_y {ρ : Nat → Int32} {ma k : Nat} (h : nwX ρ ma k = nI 1) (c : Nat) : (upd (nwK ρ ma k) k (nI 1) c = nI 1 ↔ nwK ρ ma (k + 1) c = nI 1) := by
  unfold nwK
  by_cases e : c = k
  · subst e
    rw [upd_self, if_pos (by omega), h]
  · rw [upd_ne _ _ e]
    by_cases e2 : c < k
    · rw [if_pos e2, if_pos (by omega)]
    · rw [if_neg e2, if_neg (by omega)]
theorem nwK_n {ρ : Nat → Int32} {ma k : Nat} (h : ¬ nwX ρ ma k = nI 1) (c : Nat) : (nwK ρ ma k c = nI 1 ↔ nwK ρ ma (k + 1) c = nI 1) := by
  unfold nwK
  by_cases e : c = k
  · subst e
    rw [if_neg (by omega), if_pos (by omega)]
    exact ⟨fun z => absurd z (by decide), fun z => absurd z h⟩
  · by_cases e2 : c < k
    · rw [if_pos e2, if_pos (by omega)]
    · rw [if_neg e2, if_neg (by omega)]
theorem rg_rep {v : Vm2} {q n ma : Nat} {ρ : Nat → Int32} (h : RepS v q ρ n ma) (hn : n ≤ 8) (hma : ma ≤ 6) (hA : Al0 ρ n ma) : RepS (up2 v q 6 (v q 6 ||| BM (nwX ρ ma))) q (rgX ρ ma) n ma := by
  obtain ⟨⟨a1, a2, a3, a4, a5⟩, ⟨b1, b2, b3⟩, c1, c2, c3⟩ := h
  have o : ∀ k, (k < 184 ∨ 184 + ma ≤ k) → rgX ρ ma k = ρ k := fun k hk => if_neg (by omega)
  refine ⟨⟨?_, ?_, ?_, ?_, ?_⟩, ⟨?_, ?_, ?_⟩, fun k hk => ⟨?_, ?_, ?_⟩, fun k hk => ⟨?_, ?_⟩, fun k hk => ⟨?_, ?_⟩⟩
  · rw [up2_o _ _ (by omega), o _ (by omega)]; exact a1
  · rw [up2_o _ _ (by omega), o _ (by omega)]; exact a2
  · rw [up2_o _ _ (by omega), o _ (by omega)]; exact a3
  · rw [up2_o _ _ (by omega), o _ (by omega)]; exact a4
  · rw [up2_o _ _ (by omega), o _ (by omega)]; exact a5
  · rw [up2_o _ _ (by omega), b1]; exact BM_congr (fun k hk => by rw [o _ (by omega)])
  · rw [up2_o _ _ (by omega), b2]; exact BM_congr (fun k hk => by rw [o _ (by omega)])
  · rw [up2_self, b3, BM_or]
    refine BM_congr (fun k hk => ?_)
    by_cases e : k < ma
    · rw [if_pos e, if_pos e]
      unfold rgX nwX
      by_cases d : due ρ k
      · rw [if_pos (show 184 ≤ 184 + k ∧ 184 + k < 184 + ma ∧ due ρ (184 + k - 184) from ⟨by omega, by omega, by rw [Nat.add_sub_cancel_left]; exact d⟩)]
        by_cases r1 : ρ (184 + k) = nI 1
        · rw [if_pos (Or.inl r1)]
        · rw [if_pos (Or.inr (if_pos ⟨e, r1, d⟩))]
      · rw [if_neg (show ¬ (184 ≤ 184 + k ∧ 184 + k < 184 + ma ∧ due ρ (184 + k - 184)) from fun z => d (by have := z.2.2; rw [Nat.add_sub_cancel_left] at this; exact this)), if_neg (show ¬ (k < ma ∧ ¬ ρ (184 + k) = nI 1 ∧ due ρ k) from fun z => d z.2.2)]
        by_cases r1 : ρ (184 + k) = nI 1
        · rw [if_pos (Or.inl r1)]; exact ⟨fun _ => r1, fun _ => rfl⟩
        · rw [if_neg (fun z => z.elim r1 (fun z => absurd z (by decide)))]; exact ⟨fun z => absurd z n01, fun z => absurd z r1⟩
    · rw [if_neg e, if_neg e]
      unfold nwX
      rw [if_neg (show ¬ (k < ma ∧ _) from fun z => e z.1), if_neg (fun z => z.elim (fun z => absurd z (by decide)) (fun z => absurd z (by decide)))]
      decide
  · rw [up2_o _ _ (by omega), o _ (by omega)]; exact (c1 k hk).1
  · rw [up2_o _ _ (by omega), o _ (by omega)]; exact (c1 k hk).2.1
  · rw [up2_o _ _ (by omega), o _ (by omega)]; exact (c1 k hk).2.2
  · rw [up2_o _ _ (by omega), o _ (by omega)]; exact (c2 k hk).1
  · rw [up2_o _ _ (by omega), o _ (by omega)]; exact (c2 k hk).2
  · rw [up2_o _ _ (by omega), o _ (by omega)]; exact (c3 k hk).1
  · rw [up2_o _ _ (by omega), o _ (by omega)]; exact (c3 k hk).2
theorem bt_0 {f : Nat → Int32} {c : Nat} (hc : c < 8) : ((BM f >>> (nI c &&& 31)) &&& nI 1 = 0) ↔ ¬ f c = nI 1 := by
  rw [BM_t f hc]
  by_cases h : f c = nI 1
  · rw [if_pos h]; exact ⟨fun z => absurd z (by decide), fun z => absurd h z⟩
  · rw [if_neg h]; exact ⟨fun _ => h, fun _ => rfl⟩
theorem BM_set {f g : Nat → Int32} {c : Nat} (hc : c < 8) (h : ∀ k, upd f c (nI 1) k = nI 1 ↔ g k = nI 1) : BM f ||| (nI 1 <<< (nI c &&& 31)) = BM g := by
  rw [BM_s f hc]
  exact BM_congr (fun k _ => h k)

theorem nwK_e {ρ : Nat → Int32} {a : Nat} (c : Nat) : nwK ρ a a c = nI 1 ↔ nwX ρ a c = nI 1 := by
  unfold nwK
  by_cases e : c < a
  · rw [if_pos e]
  · rw [if_neg e]
    unfold nwX
    rw [if_neg (fun z => e z.1)]
set_option maxHeartbeats 600000 in
set_option maxRecDepth 100000 in
theorem c_X5_ring (w : Wd) (v : Vm2) {q : Nat} (hq : IsS q) {ρ : Nat → Int32} {n ma : Nat} (hR : RepS v q ρ n ma) (hm0 : ρ 171 = nI ma) (hn : n ≤ 8) (hma : ma ≤ 6) (hA : Al0 ρ n ma) : CI w yX5_ring cX5_ring 3 (some .int) (rm 0 0) [.ref (wN w + q)] v (fun r v' => r = BM (nwX ρ ma) ∧ v' = up2 v q 6 (v q 6 ||| BM (nwX ρ ma))) := by
  refine CI.of (by decide) (Nat.le_of_ble_eq_true rfl) ?_
  have lp : ∀ (m : Nat) (a : Nat), (a ≤ ma) → ma - a < m → J w yX5_ring cX5_ring 3 (some .int) (rm 0 0) XT (ZJ w 185 0 0 (PI w (fun r v' => r = BM (nwX ρ ma) ∧ v' = up2 v q 6 (v q 6 ||| BM (nwX ρ ma))))) 4 [(0, .ref (wN w + q)), (1, .int (BM (nwK ρ ma a))), (2, .int (nI a))] [] 185 (hv w (v)) 0 0 := by
    intro m
    induction m with
    | zero =>
      intro a hi0 hm
      exact absurd hm (by omega)
    | succ m ih =>
      intro a hi0 hm
      refine J.iload_n 4 dX5_ring_4 rfl rfl ?_
      refine J.aload_n 5 dX5_ring_5 rfl rfl ?_
      refine V.getI 6 dX5_ring_6 fl_RX5_49 hq.i5 ?_
      refine J.top (hR.1.2.2.2.1.trans hm0) ?_
      refine V.icmp_ge 9 55 dX5_ring_9 (by decide) (by omega) (by omega) (fun c9 => ?_) (fun c9 => ?_)
      · refine J.aload_n 55 dX5_ring_55 rfl rfl ?_
        refine J.dup 56 dX5_ring_56 rfl ?_
        refine V.getI 57 dX5_ring_57 fl_RX5_52 hq.i6 ?_
        refine J.iload_n 60 dX5_ring_60 rfl rfl ?_
        refine J.ior 61 dX5_ring_61 ?_
        refine V.putI 62 dX5_ring_62 fl_RX5_52 fp_5_6 hq.i6 ?_
        refine J.iload_n 65 dX5_ring_65 rfl rfl ?_
        obtain rfl : a = ma := by omega
        have ew : BM (nwK ρ a a) = BM (nwX ρ a) := BM_congr (fun c _ => nwK_e c)
        exact V.iret 66 dX5_ring_66 (by rw [ew]; exact ⟨rfl, rfl⟩)
      · obtain ⟨h01, cl, hcl, ecl⟩ := hA a c9
        have ec9 : (ρ (172 + a)).toNatClampNeg = cl := by rw [ecl]; exact nI_clamp (by omega)
        refine J.aload_n 12 dX5_ring_12 rfl rfl ?_
        refine V.getI 13 dX5_ring_13 fl_RX5_52 hq.i6 ?_
        refine J.top hR.2.1.2.2 ?_
        refine J.iload_n 16 dX5_ring_16 rfl rfl ?_
        refine J.ishr 17 dX5_ring_17 ?_
        refine J.iconst 18 (nI 1) dX5_ring_18 (by decide +kernel) ?_
        refine J.iand 19 dX5_ring_19 ?_
        refine J.if_ne 20 49 dX5_ring_20 (by decide) (fun c20 => ?_) (fun c20 => ?_)
        · have hnw : ¬ nwX ρ ma a = nI 1 := by unfold nwX; rw [if_neg (fun z => c20 ((bt_0 (by omega)).mpr (by rw [if_pos c9]; exact z.2.1)))]; decide
          have e9 : BM (nwK ρ ma (a + 1)) = BM (nwK ρ ma a) := (BM_congr (fun c _ => nwK_n hnw c)).symm
          refine V.iinc 49 dX5_ring_49 rfl (by decide) ?_
          refine J.goto 52 4 dX5_ring_52 (by decide) ?_
          have q9 := ih (a + 1) (by omega) (by omega)
          rw [e9] at q9
          exact q9
        · have hr0 : ¬ ρ (184 + a) = nI 1 := by have := (bt_0 (by omega)).mp c20; rw [if_pos c9] at this; exact this
          refine J.aload_n 23 dX5_ring_23 rfl rfl ?_
          refine V.getR 24 dX5_ring_24 fl_RX5_15 hq.r8 ?_
          refine J.aload_n 27 dX5_ring_27 rfl rfl ?_
          refine V.getR 28 dX5_ring_28 fl_RX5_31 hq.r13 ?_
          refine J.iload_n 31 dX5_ring_31 rfl rfl ?_
          refine V.iald 32 dX5_ring_32 hq.a13 (by omega) ?_
          refine J.top ((hR.2.2.2.2 a c9).1.trans ecl) ?_
          refine V.iald 33 dX5_ring_33 hq.a8 (by omega) ?_
          refine J.top (hR.2.2.1 cl hcl).1 ?_
          refine J.aload_n 34 dX5_ring_34 rfl rfl ?_
          refine V.getR 35 dX5_ring_35 fl_RX5_34 hq.r14 ?_
          refine J.iload_n 38 dX5_ring_38 rfl rfl ?_
          refine V.iald 39 dX5_ring_39 hq.a14 (by omega) ?_
          refine J.top (hR.2.2.2.2 a c9).2 ?_
          refine J.icmp_lt 40 49 dX5_ring_40 (by decide) (fun c40 => ?_) (fun c40 => ?_)
          · have hnw : ¬ nwX ρ ma a = nI 1 := by unfold nwX; rw [if_neg (fun z => absurd c40 (Int32.not_lt.mpr (by have := z.2.2; unfold due at this; rw [ec9] at this; exact this)))]; decide
            have e9 : BM (nwK ρ ma (a + 1)) = BM (nwK ρ ma a) := (BM_congr (fun c _ => nwK_n hnw c)).symm
            refine V.iinc 49 dX5_ring_49 rfl (by decide) ?_
            refine J.goto 52 4 dX5_ring_52 (by decide) ?_
            have q9 := ih (a + 1) (by omega) (by omega)
            rw [e9] at q9
            exact q9
          · have hnw : nwX ρ ma a = nI 1 := if_pos ⟨c9, hr0, by unfold due; rw [ec9]; exact Int32.not_lt.mp c40⟩
            have e9 : BM (nwK ρ ma (a + 1)) = BM (nwK ρ ma a) ||| (nI 1 <<< (nI a &&& 31)) := (BM_set (by omega) (nwK_y hnw)).symm
            refine J.iload_n 43 dX5_ring_43 rfl rfl ?_
            refine J.iconst 44 (nI 1) dX5_ring_44 (by decide +kernel) ?_
            refine J.iload_n 45 dX5_ring_45 rfl rfl ?_
            refine J.ishl 46 dX5_ring_46 ?_
            refine J.ior 47 dX5_ring_47 ?_
            refine J.istore_n 48 dX5_ring_48 rfl (by decide) ?_
            refine V.iinc 49 dX5_ring_49 rfl (by decide) ?_
            refine J.goto 52 4 dX5_ring_52 (by decide) ?_
            have q9 := ih (a + 1) (by omega) (by omega)
            rw [e9] at q9
            exact q9
  refine J.iconst 0 (nI 0) dX5_ring_0 (by decide +kernel) ?_
  refine J.istore_n 1 dX5_ring_1 rfl (by decide) ?_
  refine J.iconst 2 (nI 0) dX5_ring_2 (by decide +kernel) ?_
  refine J.istore_n 3 dX5_ring_3 rfl (by decide) ?_
  have e0 : nI 0 = BM (nwK ρ ma 0) := BM_0.trans (BM_congr (fun c _ => by unfold nwK; rw [if_neg (by omega)]))
  have q9 := lp (ma + 1) 0 (by omega) (by omega)
  rw [← e0] at q9
  exact q9
