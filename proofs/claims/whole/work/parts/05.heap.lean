/-! ===== rows of J that touch the heap ===== -/
theorem PP.set {w : Wd} {n : Nat} {h : Nat → va_E} {H H1 : Heap} {k : Nat} {e : va_E} (hP : PP w n h H) (hk : k < n) (he : va_at (wD w) vwCl (wN w + k, e) H1) (hz : H1.size = H.size) (oq : ∀ q : Nat, q ≠ wN w + k → H1[q]? = H[q]?) : PP w n (va_up h k e) H1 :=
  ⟨by rw [hz]; exact hP.1, by rw [← wsn_set]; exact hP.2.set (wsn_D w n h) (wsn_get w h hk) he oq⟩
theorem PP.push {w : Wd} {n : Nat} {h : Nat → va_E} {H H1 : Heap} {e : va_E} (hP : PP w n h H) (he : va_at (wD w) vwCl (wN w + n, e) H1) (hz : H1.size = H.size + 1) (oq : ∀ q : Nat, q < H.size → H1[q]? = H[q]?) : PP w (n + 1) (va_up h n e) H1 := by
  refine ⟨by rw [hz, hP.1]; omega, ?_⟩
  rw [← wsn_push]
  refine (hP.2.kept (fun k q hq => oq q.1 (hP.2 k q hq).lt)).app (fun k q hq => ?_)
  have hz : k < 1 := (List.getElem?_eq_some_iff.mp hq).1
  rw [show k = 0 by omega] at hq
  cases hq
  exact he
theorem PP.at {w : Wd} {n : Nat} {h : Nat → va_E} {H : Heap} {k : Nat} {e : va_E} (hP : PP w n h H) (hk : k < n) (he : h k = e) : va_at (wD w) vwCl (wN w + k, e) H := by
  rw [← he]
  exact hP.2 k _ (wsn_get w h hk)
theorem vaS_push {A : Nat → Prop} {H0 H H1 : Heap} {locs : List Loc} (hS : va_S A H0 H locs) (hz : H1.size = H.size + 1) (oq : ∀ q : Nat, q < H.size → H1[q]? = H[q]?) : va_S A H0 H1 locs :=
  ⟨Nat.le_trans hS.1 (by omega), fun x h1 h2 => (oq x (Nat.lt_of_lt_of_le h1 hS.1)).trans (hS.2.1 x h1 h2), hS.2.2⟩
/-- a field's link out of a class, and what the tables say of the field -/
def FL (own : String) (idx ci j : Nat) : Prop := ∃ (C : String) (T : u_T) (Nf : Nat), vwCl[ci]? = some (C, T, Nf) ∧ j < Nf ∧ (∀ x ∈ u_ws C T Nf, x ∈ AG) ∧ (T j).1 = C ∧
  (Cond.fieldLink own idx C (T j).2.1 (T j).2.2.1 ∈ AG ∨ ∃ host, Cond.fieldLinkNest own idx C (T j).2.1 (T j).2.2.1 host ∈ lw_tbl)
def FP (ci j : Nat) (ty : FieldType) (fin : Bool) : Prop := ∃ (C : String) (T : u_T) (Nf : Nat) (ty0 : Nat → FieldType), vwCl[ci]? = some (C, T, Nf) ∧ (∀ k, k < Nf → parseFieldDescriptor (T k).2.2.1 = some (ty0 k)) ∧ (∀ a, a < Nf → ∀ b, b < Nf → a ≠ b → (T a).2.1 ≠ (T b).2.1) ∧ (T j).2.2.2 = fin ∧ parseFieldDescriptor (T j).2.2.1 = some ty
section JH
variable {w : Wd} {y : MethodName} {cc : ByteArray} {mL : Nat} {rt : Option FieldType} {R : Room} {X : Array Value → State → Prop} {Qf : List Frame → Array Value → State → State → Prop} {L : List (Nat × Value)} {S : List Value} {n : Nat} {h : Nat → va_E} {ca sl : Nat}
theorem J.getf (pc : Nat) {idx k ci j : Nat} {fs : List Value} {v : Value} (hd : decode cc pc = .ok (.getfield idx, 3)) (hF : FL y.cls idx ci j) (hk : k < n) (he : h k = .inr (ci, fs)) (hf : fs[j]? = some v) (kk : J w y cc mL rt R X Qf (pc + 3) L (v :: S) n h ca sl) : J w y cc mL rt R X Qf pc L (.ref (wN w + k) :: S) n h ca sl := by
  intro p e s m args below meth c C ls H locs hl hP hS
  obtain ⟨hx, hb, hml, hr, hlk, hnm, hown, hts, hK, hN, hX⟩ := id C
  obtain ⟨D, T, Nf, hc, hj, hin, hsm, hlink⟩ := hF
  have hw : (wsn w n h)[k]? = some (wN w + k, .inr (ci, fs)) := by rw [wsn_get w h hk, he]
  rcases hlink with hlink | ⟨host, hlink⟩
  · exact va_get hx hb hts hin hown hK.1 hP.2 k hw hc j hj (hts _ hlink) (fun x hx => by rw [hsm] at hx; exact hx) hf hd (kk p e s m args below meth c C ls H locs hl hP hS)
  · exact va_getN hx hb hts hin hown hK.1 hP.2 k hw hc j hj (va_Nw.use rfl (hK.2.1 _ hlink rfl)) (fun x hx => by rw [hsm] at hx; exact hx) hf hd (kk p e s m args below meth c C ls H locs hl hP hS)
theorem J.putf (pc : Nat) {idx k ci j : Nat} {fs : List Value} {v : Value} {ty : FieldType} (hd : decode cc pc = .ok (.putfield idx, 3)) (hF : FL y.cls idx ci j) (hQ : FP ci j ty false) (hk : k < n) (he : h k = .inr (ci, fs)) (hj : j < fs.length) (hn : narrow ty v = v) (hfit : fits ty v = true) (kk : J w y cc mL rt R X Qf (pc + 3) L S n (va_up h k (.inr (ci, fs.set j v))) ca sl) : J w y cc mL rt R X Qf pc L (v :: .ref (wN w + k) :: S) n h ca sl := by
  intro p e s m args below meth c C ls H locs hl hP hS
  obtain ⟨hx, hb, hml, hr, hlk, hnm, hown, hts, hK, hN, hX⟩ := id C
  obtain ⟨D, T, Nf, hc, hj9, hin, hsm, hlink⟩ := hF
  obtain ⟨D', T', Nf', ty0, hc', hty, hne, hfin, hd2⟩ := hQ
  have heq := Option.some.inj (hc.symm.trans hc')
  cases heq
  have hap := va_apart (own := y.cls) hts hin ty0 hty hne hK.1 hc
  obtain ⟨r, h1, cell, q1, q2, q3, q4⟩ := hP.at hk he
  have hr9 : r = (D, T, Nf) := Option.some.inj (h1.symm.trans hc)
  subst hr9
  obtain ⟨hS9, hfc, kC, hkC, hkind⟩ := hK.1.1 ci _ hc
  obtain ⟨cf, kf, fi, f, hi, hsl⟩ := hS9 j hj9
  have hlay := hts _ (hin _ (u_in_lay hj9))
  unfold u_lay at hlay
  rw [if_neg (by rw [hfin]; decide)] at hlay
  have hst := (u_facts hfc hkC (u_lays hts hin hj9) hi).1
  have h6 := u_store hfc hkC hkind hlay hi hd2 hn hfit
  rcases hlink with hlink | ⟨host, hlink⟩
  · refine W.putK hx hb (f := f) ⟨hown, hts _ hlink, ⟨_, _, _, by rw [hsm] at hi; exact hi⟩, hst⟩ (by rw [q2]; exact h6) q1 q3 (by rw [hsl]; exact k2_hasslot (q4 j hj9)) rfl rfl hd fun H' e1 e2 e3 => ?_
    rw [hsl] at e1 ⊢
    exact kk p e s m args below meth c C ls H' _ hl (hP.set hk ⟨_, hc, t_OB.to (V := updV (vp_V fs) j v) ⟨_, e1, q2, q3, t_set q4 hap hj9 v⟩ (fun i _ => vp_updV_set hj v i)⟩ e2 e3) (hS.put e2 e3 (Nat.le_add_right _ _))
  · refine va_WputK hx hb (f := f) hown (va_Nw.use rfl (hK.2.1 _ hlink rfl)) (by rw [hsm] at hi; exact hi) hst (by rw [q2]; exact h6) q1 q3 (by rw [hsl]; exact k2_hasslot (q4 j hj9)) rfl rfl hd fun H' e1 e2 e3 => ?_
    rw [hsl] at e1 ⊢
    exact kk p e s m args below meth c C ls H' _ hl (hP.set hk ⟨_, hc, t_OB.to (V := updV (vp_V fs) j v) ⟨_, e1, q2, q3, t_set q4 hap hj9 v⟩ (fun i _ => vp_updV_set hj v i)⟩ e2 e3) (hS.put e2 e3 (Nat.le_add_right _ _))
theorem J.putF (pc : Nat) {idx k ci j : Nat} {fs : List Value} {v : Value} {ty : FieldType} (hd : decode cc pc = .ok (.putfield idx, 3)) (hF : ∃ (T : u_T) (Nf : Nat), vwCl[ci]? = some (y.cls, T, Nf) ∧ j < Nf ∧ (∀ x ∈ u_ws y.cls T Nf, x ∈ AG) ∧ (T j).1 = y.cls ∧ Cond.fieldLink y.cls idx y.cls (T j).2.1 (T j).2.2.1 ∈ AG) (hQ : FP ci j ty true) (hini : y.name = "<init>") (hk : k < n) (he : h k = .inr (ci, fs)) (hj : j < fs.length) (hn : narrow ty v = v) (hfit : fits ty v = true) (kk : J w y cc mL rt R X Qf (pc + 3) L S n (va_up h k (.inr (ci, fs.set j v))) ca sl) : J w y cc mL rt R X Qf pc L (v :: .ref (wN w + k) :: S) n h ca sl := by
  intro p e s m args below meth c C ls H locs hl hP hS
  obtain ⟨hx, hb, hml, hr, hlk, hnm, hown, hts, hK, hN, hX⟩ := id C
  obtain ⟨T, Nf, hc, hj9, hin, hsm, hlink⟩ := hF
  obtain ⟨D', T', Nf', ty0, hc', hty, hne, hfin, hd2⟩ := hQ
  have heq := Option.some.inj (hc.symm.trans hc')
  cases heq
  have hap := va_apart (own := y.cls) hts hin ty0 hty hne hK.1 hc
  obtain ⟨r, h1, cell, q1, q2, q3, q4⟩ := hP.at hk he
  have hr9 : r = (y.cls, T, Nf) := Option.some.inj (h1.symm.trans hc)
  subst hr9
  obtain ⟨hS9, hfc, kC, hkC, hkind⟩ := hK.1.1 ci _ hc
  obtain ⟨cf, kf, fi, f, hi, hsl⟩ := hS9 j hj9
  have hlay := hts _ (hin _ (u_in_lay hj9))
  unfold u_lay at hlay
  rw [if_pos hfin] at hlay
  have hst := (u_facts hfc hkC (u_lays hts hin hj9) hi).1
  have hcf : m.cls = cf := by
    obtain ⟨_, _, c', _, _, _, -, -, hf', -, -, -, hown2, -⟩ := Cond.laysFinal_spec hlay
    have e1 : c' = cf := by have := hi.symm.trans hf'; simp at this; exact this.1.symm
    rw [hsm] at hown2
    rw [← e1]; exact Option.some.inj (hown.symm.trans hown2)
  have h6 := u_fits hfc hkC hkind (Or.inr hlay) hi hd2 hn hfit
  refine W.putFinK hx hb hown (hts _ hlink) (by rw [hsm] at hi; exact hi) hst hcf (by rw [hnm]; exact hini) (by rw [q2]; exact h6) q1 q3 (by rw [hsl]; exact k2_hasslot (q4 j hj9)) rfl rfl hd fun H' e1 e2 e3 => ?_
  rw [hsl] at e1 ⊢
  exact kk p e s m args below meth c C ls H' _ hl (hP.set hk ⟨_, hc, t_OB.to (V := updV (vp_V fs) j v) ⟨_, e1, q2, q3, t_set q4 hap hj9 v⟩ (fun i _ => vp_updV_set hj v i)⟩ e2 e3) (hS.put e2 e3 (Nat.le_add_right _ _))
theorem J.iald (pc : Nat) {k N' : Nat} {f : Nat → Int32} {i : Int32} (hd : decode cc pc = .ok (.iaload, 1)) (hk : k < n) (he : h k = .inl (wI w, N', .inl f)) (hi : vp_in i N') (kk : J w y cc mL rt R X Qf (pc + 1) L (.int (f i.toNatClampNeg) :: S) n h ca sl) : J w y cc mL rt R X Qf pc L (.int i :: .ref (wN w + k) :: S) n h ca sl := by
  intro p e s m args below meth c C ls H locs hl hP hS
  obtain ⟨hx, hb, hml, hr, hlk, hnm, hown, hts, hK, hN, hX⟩ := id C
  exact va_iald hx hb hK.1 hP.2 k 0 (by rw [wsn_get w h hk, he]) rfl hi hd (kk p e s m args below meth c C ls H locs hl hP hS)
theorem J.zald (pc : Nat) {k N' : Nat} {f : Nat → Int32} {i : Int32} (hd : decode cc pc = .ok (.baload, 1)) (hk : k < n) (he : h k = .inl (wZ w, N', .inl f)) (hi : vp_in i N') (kk : J w y cc mL rt R X Qf (pc + 1) L (.int (f i.toNatClampNeg) :: S) n h ca sl) : J w y cc mL rt R X Qf pc L (.int i :: .ref (wN w + k) :: S) n h ca sl := by
  intro p e s m args below meth c C ls H locs hl hP hS
  obtain ⟨hx, hb, hml, hr, hlk, hnm, hown, hts, hK, hN, hX⟩ := id C
  exact va_zald hx hb hK.1 hP.2 k 1 (by rw [wsn_get w h hk, he]) rfl hi hd (kk p e s m args below meth c C ls H locs hl hP hS)
theorem J.aald (pc : Nat) {k N' : Nat} {f : Nat → Option Nat} {i : Int32} (hd : decode cc pc = .ok (.aaload, 1)) (hk : k < n) (he : h k = .inl (wS w, N', .inr (.inr (.inr (.inr f))))) (hi : vp_in i N') (v : Value) (hv : va_rf (f i.toNatClampNeg) = v) (kk : J w y cc mL rt R X Qf (pc + 1) L (v :: S) n h ca sl) : J w y cc mL rt R X Qf pc L (.int i :: .ref (wN w + k) :: S) n h ca sl := by
  intro p e s m args below meth c C ls H locs hl hP hS
  obtain ⟨hx, hb, hml, hr, hlk, hnm, hown, hts, hK, hN, hX⟩ := id C
  subst hv
  exact va_aldq hx hb hK.1 hP.2 k 2 (by rw [wsn_get w h hk, he]) rfl hi hd (kk p e s m args below meth c C ls H locs hl hP hS)
theorem J.alen (pc : Nat) {k N' : Nat} {f : Nat → Int32} (hd : decode cc pc = .ok (.arraylength, 1)) (hk : k < n) (he : h k = .inl (wI w, N', .inl f)) (kk : J w y cc mL rt R X Qf (pc + 1) L (.int (nI N') :: S) n h ca sl) : J w y cc mL rt R X Qf pc L (.ref (wN w + k) :: S) n h ca sl := by
  intro p e s m args below meth c C ls H locs hl hP hS
  obtain ⟨hx, hb, hml, hr, hlk, hnm, hown, hts, hK, hN, hX⟩ := id C
  exact va_alen hx hb hK.1 hP.2 k 0 (x := (N', .inl f)) (by rw [wsn_get w h hk, he]) rfl rfl hd (kk p e s m args below meth c C ls H locs hl hP hS)
theorem J.iast (pc : Nat) {k N' : Nat} {f : Nat → Int32} {i x : Int32} (hd : decode cc pc = .ok (.iastore, 1)) (hk : k < n) (he : h k = .inl (wI w, N', .inl f)) (hi : vp_in i N') (kk : J w y cc mL rt R X Qf (pc + 1) L S n (va_up h k (.inl (wI w, N', .inl (upd f i.toNatClampNeg x)))) ca sl) : J w y cc mL rt R X Qf pc L (.int x :: .int i :: .ref (wN w + k) :: S) n h ca sl := by
  intro p e s m args below meth c C ls H locs hl hP hS
  obtain ⟨hx, hb, hml, hr, hlk, hnm, hown, hts, hK, hN, hX⟩ := id C
  refine W.iast hx hb (hP.at hk he) ((hK.1.2 0 _ rfl).1 N' (fun j => .int (f j))) (fun q => by cases q) (by show ¬ (i < 0 ∨ (arrV _ _ _).slots.size ≤ _); rw [arrV_size]; exact hi) rfl rfl hd fun H1 e1 z oq => ?_
  refine kk p e s m args below meth c C ls H1 _ hl (hP.set hk ?_ z oq) (hS.put z oq (Nat.le_add_right _ _))
  show H1[_]? = some (vp_cell _ _)
  rw [e1, vp_cell_i, vp_cell_i, arrV_store]
  congr 2
  funext q
  by_cases hq : q = i.toNatClampNeg
  · subst hq
    simp [updV, upd]
  · simp [updV, upd, hq]
theorem J.zast (pc : Nat) {k N' : Nat} {f : Nat → Int32} {i x : Int32} (hd : decode cc pc = .ok (.bastore, 1)) (hk : k < n) (he : h k = .inl (wZ w, N', .inl f)) (hi : vp_in i N') (hb01 : x = 0 ∨ x = 1) (kk : J w y cc mL rt R X Qf (pc + 1) L S n (va_up h k (.inl (wZ w, N', .inl (upd f i.toNatClampNeg x)))) ca sl) : J w y cc mL rt R X Qf pc L (.int x :: .int i :: .ref (wN w + k) :: S) n h ca sl := by
  intro p e s m args below meth c C ls H locs hl hP hS
  obtain ⟨hx, hb, hml, hr, hlk, hnm, hown, hts, hK, hN, hX⟩ := id C
  refine W.zast hx hb (hP.at hk he) ((hK.1.2 1 _ rfl).1 N' (fun j => .int (f j))) (fun q => by cases q) (by show ¬ (i < 0 ∨ (arrV _ _ _).slots.size ≤ _); rw [arrV_size]; exact hi) rfl rfl hd fun H1 e1 z oq => ?_
  refine kk p e s m args below meth c C ls H1 _ hl (hP.set hk ?_ z oq) (hS.put z oq (Nat.le_add_right _ _))
  show H1[_]? = some (vp_cell _ _)
  have hnar : narrow .boolean (.int x) = .int x := by rcases hb01 with rfl | rfl <;> rfl
  rw [e1, hnar, vp_cell_i, vp_cell_i, arrV_store]
  congr 2
  funext q
  by_cases hq : q = i.toNatClampNeg
  · subst hq
    simp [updV, upd]
  · simp [updV, upd, hq]
theorem J.aast (pc : Nat) {k N' j ci : Nat} {vs : List Value} {r : vw_C} {f : Nat → Option Nat} {i : Int32} (hd : decode cc pc = .ok (.aastore, 1)) (hk : k < n) (he : h k = .inl (wS w, N', .inr (.inr (.inr (.inr f))))) (hj : j < n) (hv : h j = .inr (ci, vs)) (hc : vwCl[ci]? = some r) (hr1 : r.1 = "LiarClocks$State") (hi : vp_in i N') (kk : J w y cc mL rt R X Qf (pc + 1) L S n (va_up h k (.inl (wS w, N', .inr (.inr (.inr (.inr (va_up f i.toNatClampNeg (some (wN w + j)))))))) ) ca sl) : J w y cc mL rt R X Qf pc L (.ref (wN w + j) :: .int i :: .ref (wN w + k) :: S) n h ca sl := by
  intro p e s m args below meth c C ls H locs hl hP hS
  obtain ⟨hx, hb, hml, hr, hlk, hnm, hown, hts, hK, hN, hX⟩ := id C
  have hlt : i.toNatClampNeg < N' := Nat.not_le.mp fun q => hi (Or.inr q)
  have h0 : ¬ i < 0 := fun q => hi (Or.inl q)
  obtain ⟨r', hr', cellV, g1, g2, g3, -⟩ := hP.at hj hv
  have hcls := (hK.1.1 ci r hc).2
  obtain ⟨kA, comp, k1, k2, k3, -⟩ := (hK.1.2 2 _ rfl).2
  have hcomp : comp = (wD w).1 ci := Option.some.inj (k3.symm.trans (by rw [← hr1]; exact hcls.1))
  subst hcomp
  obtain ⟨kC, hkC, -⟩ := hcls.2
  refine W.aast hx hb (hP.at hk he) (fun q h => by cases h) (fun h => by cases h) k1 k2 rfl hkC ⟨h0, by show _ < (arrV _ _ _).slots.size; rw [arrV_size]; exact hlt⟩ g1 (fun q h => by rw [g3] at h; cases h) (by rw [g2]; exact hkC) (by rw [g2]; exact va_assign hcls) rfl rfl hd fun H1 e1 z oq => ?_
  refine kk p e s m args below meth c C ls H1 _ hl (hP.set hk ?_ z oq) (hS.put z oq (Nat.le_add_right _ _))
  show H1[_]? = some (vp_cell _ _)
  rw [e1, vp_cell_q, vp_cell_q, arrV_store]
  congr 2
  funext q
  by_cases hq : q = i.toNatClampNeg
  · subst hq
    simp [updV, va_up, va_rf]
  · simp [updV, va_up, hq]
theorem J.new (pc : Nat) {idx ci Nf : Nat} {Cn : String} {T : u_T} {ty : Nat → FieldType} (fs : List Value) (hd : decode cc pc = .ok (.new idx, 3)) (hc : vwCl[ci]? = some (Cn, T, Nf)) (hin : ∀ x ∈ u_ws Cn T Nf, x ∈ AG) (hty : ∀ k, k < Nf → parseFieldDescriptor (T k).2.2.1 = some (ty k)) (hcl : Cond.classLink y.cls idx Cn ∈ AG) (hinst : Cond.instantiable Cn Nf ∈ AG) (hini : Cond.initialized Cn ∈ AG) (hfs : ∀ j, j < Nf → defaultValue (ty j) = vp_V fs j) (hca : ca + 1 ≤ R.cells) (hsl : sl + Nf ≤ R.slots) (kk : J w y cc mL rt R X Qf (pc + 3) L (.ref (wN w + n) :: S) (n + 1) (va_up h n (.inr (ci, fs))) (ca + 1) (sl + Nf)) : J w y cc mL rt R X Qf pc L S n h ca sl := by
  intro p e s m args below meth c C ls H locs hl hP hS
  obtain ⟨hx, hb, hml, hr, hlk, hnm, hown, hts, hK, hN, hX⟩ := id C
  have hKn := hK.1.1 ci _ hc
  refine W.newcK hx hb hown (hts _ hcl) (hts _ hinst) (hts _ hini) rfl hd hca hsl hKn.2.1 hP.1 fun H1 kC hkC e1 z1 o1 => ?_
  have o2 : ∀ q : Nat, q < H.size → H1[q]? = H[q]? := fun q hq => o1 q (by rw [← hP.1]; exact hq)
  have z2 : H1.size = H.size + 1 := by rw [z1, hP.1]
  exact kk p e s m args below meth c C ls H1 locs hl (hP.push ⟨_, hc, (u_born ty hts hin hKn hkC e1 hty).to hfs⟩ z2 o2) (vaS_push hS z2 o2)
theorem J.newa (pc : Nat) {v : Int32} {N' : Nat} (hd : decode cc pc = .ok (.newarray .int, 2)) (harr : Cond.arrayClass .int ∈ AG) (hv : ¬ v < 0) (hN' : v.toNatClampNeg = N') (hby : N' * 4 ≤ 536870912) (hca : ca + 1 ≤ R.cells) (hsl : sl + N' ≤ R.slots) (kk : J w y cc mL rt R X Qf (pc + 2) L (.ref (wN w + n) :: S) (n + 1) (va_up h n (.inl (wI w, N', .inl (fun _ => 0)))) (ca + 1) (sl + N')) : J w y cc mL rt R X Qf pc L (.int v :: S) n h ca sl := by
  intro p e s m args below meth c C ls H locs hl hP hS
  obtain ⟨hx, hb, hml, hr, hlk, hnm, hown, hts, hK, hN, hX⟩ := id C
  refine va_newaK (atype := .int) hx hb (hts _ harr) rfl hd rfl hv hN' hby hca hsl hP.1 fun H1 cA e1 z1 o1 hAr hNm => ?_
  have o2 : ∀ q : Nat, q < H.size → H1[q]? = H[q]? := fun q hq => o1 q (by rw [← hP.1]; exact hq)
  have z2 : H1.size = H.size + 1 := by rw [z1, hP.1]
  have hcA : cA = wI w := Option.some.inj (hNm.symm.trans (hK.1.2 0 _ rfl).2)
  subst hcA
  exact kk p e s m args below meth c C ls H1 locs hl (hP.push e1 z2 o2) (vaS_push hS z2 o2)
theorem J.newz (pc : Nat) {v : Int32} {N' : Nat} (hd : decode cc pc = .ok (.newarray .boolean, 2)) (harr : Cond.arrayClass .boolean ∈ AG) (hv : ¬ v < 0) (hN' : v.toNatClampNeg = N') (hby : N' * 1 ≤ 536870912) (hca : ca + 1 ≤ R.cells) (hsl : sl + N' ≤ R.slots) (kk : J w y cc mL rt R X Qf (pc + 2) L (.ref (wN w + n) :: S) (n + 1) (va_up h n (.inl (wZ w, N', .inl (fun _ => 0)))) (ca + 1) (sl + N')) : J w y cc mL rt R X Qf pc L (.int v :: S) n h ca sl := by
  intro p e s m args below meth c C ls H locs hl hP hS
  obtain ⟨hx, hb, hml, hr, hlk, hnm, hown, hts, hK, hN, hX⟩ := id C
  refine va_newaK (atype := .boolean) hx hb (hts _ harr) rfl hd rfl hv hN' hby hca hsl hP.1 fun H1 cA e1 z1 o1 hAr hNm => ?_
  have o2 : ∀ q : Nat, q < H.size → H1[q]? = H[q]? := fun q hq => o1 q (by rw [← hP.1]; exact hq)
  have z2 : H1.size = H.size + 1 := by rw [z1, hP.1]
  have hcA : cA = wZ w := Option.some.inj (hNm.symm.trans (hK.1.2 1 _ rfl).2)
  subst hcA
  exact kk p e s m args below meth c C ls H1 locs hl (hP.push e1 z2 o2) (vaS_push hS z2 o2)
theorem J.anew (pc : Nat) {idx : Nat} {v : Int32} {N' : Nat} (hd : decode cc pc = .ok (.anewarray idx, 3)) (hcl : Cond.classLink y.cls idx "LiarClocks$State" ∈ AG) (hv : ¬ v < 0) (hN' : v.toNatClampNeg = N') (hby : N' * 4 ≤ 536870912) (hca : ca + 1 ≤ R.cells) (hsl : sl + N' ≤ R.slots) (kk : J w y cc mL rt R X Qf (pc + 3) L (.ref (wN w + n) :: S) (n + 1) (va_up h n (.inl (wS w, N', .inr (.inr (.inr (.inr (fun _ => none))))))) (ca + 1) (sl + N')) : J w y cc mL rt R X Qf pc L (.int v :: S) n h ca sl := by
  intro p e s m args below meth c C ls H locs hl hP hS
  obtain ⟨hx, hb, hml, hr, hlk, hnm, hown, hts, hK, hN, hX⟩ := id C
  subst hN'
  refine W.anew hx hb hown (hts _ hcl) (va_AO.use hK.2.2) rfl hd rfl hv hby hca hsl fun cA kA comp f1 f2 f3 f4 => ?_
  have hcA : cA = wS w := by
    obtain ⟨_, _, _, _, _, g⟩ := (hK.1.2 2 _ rfl).2
    exact Option.some.inj (f1.symm.trans g)
  subst hcA
  generalize hH1 : H.push ({ cls := wS w, slots := Array.replicate v.toNatClampNeg .null, vm := .none } : Cell) = H1
  have z1 : H1.size = H.size + 1 := by rw [← hH1, Array.size_push]
  have e1 : H1[H.size]? = some (arrV (wS w) v.toNatClampNeg (fun _ => .null)) := by rw [← hH1, Array.getElem?_push_size, ← arrV_new]
  have o1 : ∀ q : Nat, q < H.size → H1[q]? = H[q]? := fun q hq => by rw [← hH1, Array.getElem?_push, if_neg (Nat.ne_of_lt hq)]
  rw [hP.1] at e1 ⊢
  exact kk p e s m args below meth c C ls H1 locs hl (hP.push e1 z1 o1) (vaS_push hS z1 o1)
theorem J.objInit (pc : Nat) {idx a : Nat} (hd : decode cc pc = .ok (.invokespecial idx, 3)) (hl1 : Cond.methodLink y.cls idx objectInit ∈ AG) (hl2 : Cond.instanceMethod objectInit ∈ AG) (hl3 : Cond.code objectInit ⟨#[0xb1]⟩ 1 none ∈ AG) (hfr : 1 ≤ R.frames) (hlo : (S.map fun v => v.category).sum + 12 ≤ R.locals) (kk : J w y cc mL rt R X Qf (pc + 3) L S n h ca sl) : J w y cc mL rt R X Qf pc L (.ref a :: S) n h ca sl := by
  intro p e s m args below meth c C ls H locs hl hP hS
  obtain ⟨hx, hb, hml, hr, hlk, hnm, hown, hts, hK, hN, hX⟩ := id C
  refine W.objInit hx hb hown (hts _ hl1) (hts _ hl2) (hts _ hl3) rfl (by rw [hml]; exact hl.1) rfl hd hfr (by show 2 * 0 + _ + 12 ≤ _; omega) ?_
  exact kk p e s m args below meth c C ls H locs hl hP hS
/-- System.arraycopy from one int row of the world to another -/
theorem J.copy (pc : Nat) {idx k0 k1 n0 n1 : Nat} {f g : Nat → Int32} {sp dp nn : Int32} (hd : decode cc pc = .ok (.invokestatic idx, 3)) (hw1 : Cond.methodLink y.cls idx arraycopyName ∈ AG) (hw2 : Cond.native arraycopyName ∈ AG) (hw3 : Cond.static arraycopyName ∈ AG) (hw4 : Cond.initialized "java/lang/System" ∈ AG) (hk0 : k0 < n) (hk1 : k1 < n) (he0 : h k0 = .inl (wI w, n0, .inl f)) (he1 : h k1 = .inl (wI w, n1, .inl g))
    (h1 : ¬ sp < 0) (h2 : ¬ dp < 0) (h3 : ¬ nn < 0) (h4 : sp.toNatClampNeg + nn.toNatClampNeg ≤ n0) (h5 : dp.toNatClampNeg + nn.toNatClampNeg ≤ n1) (hfr : 1 ≤ R.frames) (hlo : (S.map fun v => v.category).sum + (nativeFrameWords "java/lang/System" "arraycopy" 5 + 11) ≤ R.locals)
    (kk : J w y cc mL rt R X Qf (pc + 3) L S n (va_up h k1 (.inl (wI w, n1, .inl (va_cpy f g sp.toNatClampNeg dp.toNatClampNeg nn.toNatClampNeg)))) ca sl) : J w y cc mL rt R X Qf pc L (.int nn :: .int dp :: .ref (wN w + k1) :: .int sp :: .ref (wN w + k0) :: S) n h ca sl := by
  intro p e s m args below meth c C ls H locs hl hP hS
  obtain ⟨hx, hb, hml, hr, hlk, hnm, hown, hts, hK, hN, hX⟩ := id C
  intro T hT X0
  have nni : ∀ z : Int32, ¬ z < 0 → z.toInt = (z.toNatClampNeg : Int) := by
    intro z hz
    have hz0 : (0 : Int) ≤ z.toInt := by
      have := Int32.not_lt.mp hz
      simpa using Int32.le_iff_toInt_le.mp this
    show z.toInt = ((z.toInt.toNat : Nat) : Int)
    omega
  have hc0 : H[wN w + k0]? = some (vp_cell (wI w) (n0, .inl f)) := hP.at hk0 he0
  have hc1 : H[wN w + k1]? = some (vp_cell (wI w) (n1, .inl g)) := hP.at hk1 he1
  obtain ⟨-, kc0, hkc0, cm0, hkk0⟩ := (hK.1.2 0 _ rfl).1 n0 (fun j => .int (f j))
  obtain ⟨-, kc1, hkc1, cm1, hkk1⟩ := (hK.1.2 0 _ rfl).1 n1 (fun j => .int (g j))
  obtain ⟨vm', X', step⟩ := X0.arraycopy hx hown (hts _ hw1) (hts _ hw2) (hts _ hw3) (hts _ hw4) (src := wN w + k0) (dst := wN w + k1) (cs := vp_cell (wI w) (n0, .inl f)) (cd := vp_cell (wI w) (n1, .inl g)) (srcPos := sp) (destPos := dp) (n := nn) (by rw [hT]; exact hc0) (by rw [hT]; exact hc1)
    (fun _ h => by cases h) (fun _ h => by cases h) (fun h => by cases h) (fun h => by cases h) hkc0 hkc1 hkk0 hkk1 (by simp [refKind]) h1 h2 h3
    (by rw [nni sp h1, nni nn h3]; show ¬ _ > ((arrV (wI w) n0 (fun j => .int (f j))).slots.size : Int); rw [arrV_size]; omega)
    (by rw [nni dp h2, nni nn h3]; show ¬ _ > ((arrV (wI w) n1 (fun j => .int (g j))).slots.size : Int); rw [arrV_size]; omega)
    (fun vm₁ _ i hi => by
      have e : (vp_cell (wI w) (n0, .inl f)).slots.getD (sp.toNatClampNeg + i) .null = .int (f (sp.toNatClampNeg + i)) := by
        show (arrV (wI w) n0 (fun j => .int (f j))).slots.getD _ _ = _
        rw [Array.getD_eq_getD_getElem?, arrV_read _ _ (by omega)]
        rfl
      refine ⟨?_, ?_⟩
      · rw [e]
        rfl
      · rw [e]
        exact trivial)
    (g := F0 m pc ls (.int nn :: .int dp :: .ref (wN w + k1) :: .int sp :: .ref (wN w + k0) :: S)) rfl (by rw [hml]; exact hl.1) (rest := S) rfl (by rw [hb]; exact hd) hfr (by show 2 * 0 + _ + _ ≤ _; omega)
  have e1 : copied (vp_cell (wI w) (n0, .inl f)) (vp_cell (wI w) (n1, .inl g)) sp dp nn = vp_cell (wI w) (n1, .inl (va_cpy f g sp.toNatClampNeg dp.toNatClampNeg nn.toNatClampNeg)) := va_copied (fun z => .int z) (wI w) (wI w) f g h4
  rw [e1] at X' step
  have hlt : wN w + k1 < H.size := (Array.getElem?_eq_some_iff.mp hc1).1
  generalize hgn : va_cpy f g sp.toNatClampNeg dp.toNatClampNeg nn.toNatClampNeg = gn at X' step kk
  have hheap : ((T.setVm vm').setCell (wN w + k1) (vp_cell (wI w) (n1, .inl gn))).heap = H.setIfInBounds (wN w + k1) (vp_cell (wI w) (n1, .inl gn)) := by rw [← hT]; rfl
  have oq : ∀ q : Nat, q ≠ wN w + k1 → (H.setIfInBounds (wN w + k1) (vp_cell (wI w) (n1, .inl gn)))[q]? = H[q]? := fun q hq => by simp [Array.getElem?_setIfInBounds, Ne.symm hq]
  obtain ⟨t, a1, b1⟩ := kk p e s m args below meth c C ls _ _ hl (hP.set hk1 (show (H.setIfInBounds (wN w + k1) _)[wN w + k1]? = some _ by simp [Array.getElem?_setIfInBounds, hlt]) (by simp) oq) ⟨by simp; exact hS.1, fun q g1 g2 => by
      rw [oq q (fun e => g2 (by rw [e]; exact Nat.le_add_right _ _))]
      exact hS.2.1 q g1 g2, fun q hq => by
      rcases List.mem_append.mp hq with h | h
      · exact hS.2.2 q h
      · obtain ⟨z, -, hz⟩ := List.mem_map.mp h
        rw [← hz]
        exact Nat.le_add_right _ _⟩ _ hheap X'
  exact ⟨t, step t a1, b1⟩
end JH
/-! calls -/
def MLk (own : String) (idx : Nat) (y' : MethodName) : Prop := Cond.methodLink own idx y' ∈ AG ∨ ∃ host, Cond.methodLinkNest own idx y' host ∈ lw_tbl
/-- what the tables say of a callee of np parameters -/
def MIn (y' : MethodName) (cc' : ByteArray) (mL' : Nat) (rt' : Option FieldType) (np : Nat) : Prop := Cond.code y' cc' mL' rt' ∈ AG ∧ Cond.initialized y'.cls ∈ AG ∧ (y'.cls ≠ "java/lang/invoke/MethodHandle" ∧ y'.cls ≠ "java/lang/invoke/VarHandle" ∧ (parseMethodDescriptor y'.desc).map (fun d => d.parameters.length) = some np)
def MIv (y' : MethodName) : Prop := Cond.instanceMethod y' ∈ AG ∧ Cond.selects y'.cls y' y' ∈ AG
def MIs (y' : MethodName) : Prop := Cond.static y' ∈ AG
theorem AG_GoodIn {y' : MethodName} {cc' : ByteArray} {mL' : Nat} {rt' : Option FieldType} (hc : Cond.code y' cc' mL' rt' ∈ AG) : GoodIn AG (.code y' cc' mL' rt' :: AG) := fun x hx => by
  have hm : x ∈ AG := (List.mem_cons.mp hx).elim (fun e => e ▸ hc) id
  exact ⟨hm, good_of_word (AG_good x hm)⟩
theorem PJ_blind {w : Wd} {n : Nat} {h : Nat → va_E} {av : List Value} : FrameBlind (PJ w n h av) := fun a U g mk q => ⟨q.1, q.2.1, KK.same (u := U) (U := U.calling g mk a) rfl q.2.2⟩
section JC
variable {w : Wd} {y : MethodName} {cc : ByteArray} {mL : Nat} {rt : Option FieldType} {R : Room} {X : Array Value → State → Prop} {Qf : List Frame → Array Value → State → State → Prop} {L : List (Nat × Value)} {S S0 : List Value} {n : Nat} {h : Nat → va_E} {ca sl : Nat}
variable {y' : MethodName} {cc' : ByteArray} {mL' : Nat} {rt' : Option FieldType} {R' : Room} {as : List Value} {n' : Nat} {post : Po}
theorem J.run {pc mc ms : Nat} {av : Array Value} (hr : ∀ (p : Program) (e : Env) (s : State) (m : MethodId) (args : Array Value) (below : List Frame) (meth : Method) (c : Code), Cx w y cc mL rt X p s m args meth c → ∀ (ls : Array Slot) (H : Heap) (locs : List Loc), lv_has ls mL L → PP w n h H → va_S (fun q : Nat => wN w ≤ q) s.heap H locs →
      va_Run p (wl w) e R s m args below meth c H locs ca sl mc ms (F0 m pc ls S0) S (QJ w n' post av) (fun q : Nat => wN w ≤ q))
    (kk : ∀ (r : Option Value) (h' : Nat → va_E), post r h' → J w y cc mL rt R X Qf (pc + 3) L (r.toList ++ S) n' h' (ca + mc) (sl + ms)) : J w y cc mL rt R X Qf pc L S0 n h ca sl := by
  intro p e s m args below meth c C ls H locs hl hP hS T hT X0
  obtain ⟨v, st₀, t, T', L9, h0, X', hL, e1, e2, ⟨r, h', hv, hp, hP', hz, hq⟩, st⟩ := hr p e s m args below meth c C ls H locs hl hP hS T hT X0
  cases hv
  rw [h0] at hz hq
  obtain ⟨t2, a1, b1⟩ := kk v h' hp p e s m args below meth c C ls T'.heap (locs ++ L9) hl (by rw [e1]; exact hP') ⟨Nat.le_trans hS.1 (by rw [e1]; exact hz), fun q g1 g2 => by
      rw [e1, hq q (Nat.not_le.mp g2)]
      exact hS.2.1 q g1 g2, fun q hq => by
      rcases List.mem_append.mp hq with g | g
      · exact hS.2.2 q g
      · exact hL q g⟩ T' rfl X'
  exact ⟨t2, st t2 a1, b1⟩
theorem J.callv (pc : Nat) {idx k ci np : Nat} {fs : List Value} {q : vw_C} (hd : decode cc pc = .ok (.invokevirtual idx, 3)) (hk9 : MLk y.cls idx y') (hi9 : MIn y' cc' mL' rt' np) (hv9 : MIv y') (hc9 : Ct w y' cc' mL' rt' R' (.ref (wN w + k) :: as) n h n' post) (hst : S0 = as.reverse ++ .ref (wN w + k) :: S) (hnp : as.length = np) (hW : (S.map fun v => v.category).sum ≤ 8) (hR : R'.frames + 1 ≤ R.frames ∧ 8 + (mL' + 11) + R'.locals ≤ R.locals) (hf : ca + R'.cells ≤ R.cells ∧ sl + R'.slots ≤ R.slots)
    (hk : k < n) (he : h k = .inr (ci, fs)) (hcl : vwCl[ci]? = some q) (hq1 : q.1 = y'.cls)
    (kk : ∀ (r : Option Value) (h' : Nat → va_E), post r h' → J w y cc mL rt R X Qf (pc + 3) L (r.toList ++ S) n' h' (ca + R'.cells) (sl + R'.slots)) : J w y cc mL rt R X Qf pc L S0 n h ca sl := by
  subst hst
  refine J.run (av := (.ref (wN w + k) :: as).toArray) ?_ kk
  intro p e s m args below meth c C ls H locs hl hP hS
  obtain ⟨hx, hb, hml, hr, hlk, hnm, hown, hts, hK, hN, hX⟩ := id C
  have hre := va_recv (q0 := k) hK.1 hP.2 hcl (by rw [wsn_get w h hk, he])
  rw [hq1] at hre
  have hpre : PreV s H y'.cls (wN w + k) (PJ w n h (.ref (wN w + k) :: as)) as := ⟨PJ_blind, hre, fun U hU hW => ⟨rfl, by rw [hU]; exact hP, hK.warm hW⟩⟩
  rcases hk9 with hk9 | ⟨host, hk9⟩
  · exact va_runV ⟨hx, hb, hml, hown, hts⟩ hc9 ⟨callB_of np hts (AG_GoodIn hi9.1) rfl rfl rfl (hts _ hi9.2.1) (hts _ hk9) hi9.2.2 hR, hts _ hv9.1, hts _ hv9.2⟩ hpre rfl hnp hl.1 rfl (lv_room hW) hd hf
  · exact va_runVN ⟨hx, hb, hml, hown, hts⟩ hc9 ⟨va_cnB np hts (AG_GoodIn hi9.1) rfl rfl rfl (hK.2.1 _ hk9 rfl) (hts _ hi9.2.1) hi9.2.2 hR, hts _ hv9.1, hts _ hv9.2⟩ hpre rfl hnp hl.1 rfl (lv_room hW) hd hf
theorem J.calls (pc : Nat) {idx np : Nat} (hd : decode cc pc = .ok (.invokestatic idx, 3)) (hk9 : MLk y.cls idx y') (hi9 : MIn y' cc' mL' rt' np) (hv9 : MIs y') (hc9 : Ct w y' cc' mL' rt' R' as n h n' post) (hst : S0 = as.reverse ++ S) (hnp : as.length = np) (hW : (S.map fun v => v.category).sum ≤ 8) (hR : R'.frames + 1 ≤ R.frames ∧ 8 + (mL' + 11) + R'.locals ≤ R.locals) (hf : ca + R'.cells ≤ R.cells ∧ sl + R'.slots ≤ R.slots)
    (kk : ∀ (r : Option Value) (h' : Nat → va_E), post r h' → J w y cc mL rt R X Qf (pc + 3) L (r.toList ++ S) n' h' (ca + R'.cells) (sl + R'.slots)) : J w y cc mL rt R X Qf pc L S0 n h ca sl := by
  subst hst
  refine J.run (av := as.toArray) ?_ kk
  intro p e s m args below meth c C ls H locs hl hP hS
  obtain ⟨hx, hb, hml, hr, hlk, hnm, hown, hts, hK, hN, hX⟩ := id C
  have hpre : PreS s H (PJ w n h as) as := ⟨PJ_blind, fun U hU hW => ⟨rfl, by rw [hU]; exact hP, hK.warm hW⟩⟩
  rcases hk9 with hk9 | ⟨host, hk9⟩
  · exact va_runS ⟨hx, hb, hml, hown, hts⟩ hc9 ⟨callB_of np hts (AG_GoodIn hi9.1) rfl rfl rfl (hts _ hi9.2.1) (hts _ hk9) hi9.2.2 hR, hts _ hv9⟩ hpre rfl hnp hl.1 rfl (lv_room hW) hd hf
  · exact va_runSN ⟨hx, hb, hml, hown, hts⟩ hc9 ⟨va_cnB np hts (AG_GoodIn hi9.1) rfl rfl rfl (hK.2.1 _ hk9 rfl) (hts _ hi9.2.1) hi9.2.2 hR, hts _ hv9, trivial⟩ hpre rfl hnp hl.1 rfl (lv_room hW) hd hf
theorem J.calli (pc : Nat) {idx k np : Nat} (hd : decode cc pc = .ok (.invokespecial idx, 3)) (hk9 : MLk y.cls idx y') (hi9 : MIn y' cc' mL' none np) (hv9 : Cond.instanceMethod y' ∈ AG) (hy9 : y'.name = "<init>") (hc9 : Ct w y' cc' mL' none R' (.ref (wN w + k) :: as) n h n' post) (hst : S0 = as.reverse ++ .ref (wN w + k) :: S) (hnp : as.length = np) (hW : (S.map fun v => v.category).sum ≤ 8) (hR : R'.frames + 1 ≤ R.frames ∧ 8 + (mL' + 11) + R'.locals ≤ R.locals) (hf : ca + R'.cells ≤ R.cells ∧ sl + R'.slots ≤ R.slots)
    (kk : ∀ (r : Option Value) (h' : Nat → va_E), post r h' → J w y cc mL rt R X Qf (pc + 3) L (r.toList ++ S) n' h' (ca + R'.cells) (sl + R'.slots)) : J w y cc mL rt R X Qf pc L S0 n h ca sl := by
  subst hst
  refine J.run (av := (.ref (wN w + k) :: as).toArray) ?_ kk
  intro p e s m args below meth c C ls H locs hl hP hS
  obtain ⟨hx, hb, hml, hr, hlk, hnm, hown, hts, hK, hN, hX⟩ := id C
  have hpre : PreS s H (PJ w n h (.ref (wN w + k) :: as)) (.ref (wN w + k) :: as) := ⟨PJ_blind, fun U hU hW => ⟨rfl, by rw [hU]; exact hP, hK.warm hW⟩⟩
  rcases hk9 with hk9 | ⟨host, hk9⟩
  · exact va_runI ⟨hx, hb, hml, hown, hts⟩ hc9 ⟨callB_of np hts (AG_GoodIn hi9.1) rfl rfl rfl (hts _ hi9.2.1) (hts _ hk9) hi9.2.2 hR, hy9, hts _ hv9⟩ hpre rfl hnp hl.1 rfl (lv_room hW) hd hf
  · exact va_runIN ⟨hx, hb, hml, hown, hts⟩ hc9 ⟨va_cnB np hts (AG_GoodIn hi9.1) rfl rfl rfl (hK.2.1 _ hk9 rfl) (hts _ hi9.2.1) hi9.2.2 hR, hy9, hts _ hv9⟩ hpre rfl hnp hl.1 rfl (lv_room hW) hd hf
end JC
