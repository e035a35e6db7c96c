/-! ===== the world behind the constructors: its shape is fixed, its ints are v : cell → place → Int32 ===== -/
abbrev Shp : Type := (Nat × List (Option Nat)) ⊕ (Nat ⊕ (Nat ⊕ List Nat))
def stF (q : Nat) : List (Option Nat) := [none, none, none, none, none, none, none, none, some (q + 1), some (q + 2), some (q + 3), some (q + 4), some (q + 5), some (q + 6), some (q + 7)]
def stB (q : Nat) : List Shp := [.inl (5, stF q), .inr (.inl 8), .inr (.inl 8), .inr (.inl 8), .inr (.inl 64), .inr (.inl 64), .inr (.inl 6), .inr (.inl 6)]
def layL : List Shp := [.inl (7, [some 1, some 9, some 17, some 19, some 25, some 155, some 158, some 159, some 176, some 177])] ++ stB 1 ++ stB 9
  ++ [.inl (6, [some 18, none, none, none, none, none, none, none]), .inr (.inl 200), .inl (1, [some 20, some 22, some 23, some 24]), .inl (3, [some 21, none]), .inr (.inl 8), .inr (.inl 8), .inr (.inl 8), .inr (.inl 8), .inl (4, [some 26, none, none]), .inr (.inr (.inr ((List.range 16).map (fun i => 27 + 8 * i))))]
  ++ (List.range 16).flatMap (fun i => stB (27 + 8 * i))
  ++ [.inl (0, [some 156, some 157, none]), .inr (.inl 20), .inr (.inl 20), .inl (2, [none]), .inr (.inr (.inr [160, 168]))] ++ stB 160 ++ stB 168 ++ [.inr (.inl 2), .inr (.inr (.inl 2))]
  ++ [.inl (8, [some 179, none, none, some 180, none, none, some 181, some 182, none, some 183, some 184, none, none, none, none, none, none]), .inr (.inl 3840), .inr (.inl 200), .inr (.inl 20), .inr (.inl 20), .inr (.inl 8), .inr (.inl 8)]
def lay (k : Nat) : Shp := layL.getD k (.inr (.inl 0))
def cvt (N : Nat) (f : Nat → Int32) (j : Nat) (o : Option Nat) : Value := match o with
  | none => .int (f j)
  | some t => .ref (N + t)
def mkf (N : Nat) (f : Nat → Int32) : Nat → List (Option Nat) → List Value
  | _, [] => []
  | j, o :: r => cvt N f j o :: mkf N f (j + 1) r
def mkc (w : Wd) (s : Shp) (f : Nat → Int32) : va_E := match s with
  | .inl (c, fs) => .inr (c, mkf (wN w) f 0 fs)
  | .inr (.inl n) => .inl (wI w, n, .inl f)
  | .inr (.inr (.inl n)) => .inl (wZ w, n, .inl f)
  | .inr (.inr (.inr ts)) => .inl (wS w, ts.length, .inr (.inr (.inr (.inr (fun k => (ts[k]?).map (wN w + ·))))))
abbrev Vm2 : Type := Nat → Nat → Int32
def hv (w : Wd) (v : Vm2) : Nat → va_E := fun k => mkc w (lay k) (v k)
def up2 (v : Vm2) (k i : Nat) (x : Int32) : Vm2 := fun a b => if a = k ∧ b = i then x else v a b
def upR (v : Vm2) (k : Nat) (f : Nat → Int32) : Vm2 := fun a => if a = k then f else v a
theorem up2_row (v : Vm2) (k i : Nat) (x : Int32) : up2 v k i x k = upd (v k) i x := by
  funext b
  simp [up2, upd]
theorem up2_ne (v : Vm2) {k a : Nat} (i : Nat) (x : Int32) (h : a ≠ k) : up2 v k i x a = v a := by
  funext b
  simp [up2, h]
theorem mkf_len (N : Nat) (f : Nat → Int32) : ∀ (fs : List (Option Nat)) (j : Nat), (mkf N f j fs).length = fs.length
  | [], _ => rfl
  | _ :: r, j => by simp [mkf, mkf_len N f r (j + 1)]
theorem mkf_get (N : Nat) (f : Nat → Int32) : ∀ (fs : List (Option Nat)) (j i : Nat), (mkf N f j fs)[i]? = (fs[i]?).map (cvt N f (j + i))
  | [], _, _ => by simp [mkf]
  | o :: r, j, 0 => by simp [mkf]
  | o :: r, j, i + 1 => by
    simp only [mkf, List.getElem?_cons_succ]
    rw [mkf_get N f r (j + 1) i, show j + 1 + i = j + (i + 1) by omega]
theorem mkf_out (N : Nat) (f : Nat → Int32) (a : Nat) (x : Int32) : ∀ (fs : List (Option Nat)) (j : Nat), a < j → mkf N (upd f a x) j fs = mkf N f j fs
  | [], _, _ => rfl
  | o :: r, j, h => by
    simp only [mkf]
    rw [mkf_out N f a x r (j + 1) (by omega)]
    congr 1
    cases o with
    | none => simp [cvt, upd, show ¬ j = a by omega]
    | some t => rfl
theorem mkf_set (N : Nat) (f : Nat → Int32) (x : Int32) : ∀ (fs : List (Option Nat)) (j i : Nat), fs[i]? = some none → (mkf N f j fs).set i (.int x) = mkf N (upd f (j + i) x) j fs
  | [], _, _, h => by simp at h
  | o :: r, j, 0, h => by
    simp only [List.getElem?_cons_zero] at h
    cases h
    simp only [mkf, List.set_cons_zero, Nat.add_zero]
    rw [mkf_out N f j x r (j + 1) (by omega)]
    simp [cvt, upd]
  | o :: r, j, i + 1, h => by
    simp only [List.getElem?_cons_succ] at h
    simp only [mkf, List.set_cons_succ]
    rw [mkf_set N f x r (j + 1) i h, show j + 1 + i = j + (i + 1) by omega]
    congr 1
    cases o with
    | none => simp [cvt, upd, show ¬ j = j + (i + 1) by omega]
    | some t => rfl
def fldS (s : Shp) (c j : Nat) : Option (Option Nat) := match s with
  | .inl (c', fs) => if c' = c then fs[j]? else none
  | _ => none
def objS (s : Shp) : Option Nat := match s with
  | .inl (c', _) => some c'
  | _ => none
def isO (k c : Nat) : Prop := k < 185 ∧ objS (lay k) = some c
def isIF (k c j : Nat) : Prop := k < 185 ∧ fldS (lay k) c j = some none
def isRF (k c j t : Nat) : Prop := k < 185 ∧ fldS (lay k) c j = some (some t)
def isIA (k n : Nat) : Prop := k < 185 ∧ lay k = .inr (.inl n) ∧ n < 2 ^ 31
def isZA (k n : Nat) : Prop := k < 185 ∧ lay k = .inr (.inr (.inl n)) ∧ n < 2 ^ 31
def isQA (k : Nat) (ts : List Nat) : Prop := k < 185 ∧ lay k = .inr (.inr (.inr ts)) ∧ ts.length < 2 ^ 31
theorem isO.ex {k c : Nat} (h : isO k c) : ∃ fs, lay k = .inl (c, fs) := by
  obtain ⟨-, h⟩ := h
  cases hl : lay k with
  | inl p =>
    obtain ⟨c', fs⟩ := p
    rw [hl] at h
    simp only [objS, Option.some.injEq] at h
    exact ⟨fs, by rw [h]⟩
  | inr p => rw [hl] at h; cases h
theorem fldS_ex {k c j : Nat} {o : Option Nat} (h : fldS (lay k) c j = some o) : ∃ fs, lay k = .inl (c, fs) ∧ fs[j]? = some o := by
  cases hl : lay k with
  | inl p =>
    obtain ⟨c', fs⟩ := p
    rw [hl] at h
    simp only [fldS] at h
    split at h
    · rename_i e
      exact ⟨fs, by rw [e], h⟩
    · cases h
  | inr p => rw [hl] at h; cases h
theorem hv_obj {w : Wd} {v : Vm2} {k c : Nat} {fs : List (Option Nat)} (h : lay k = .inl (c, fs)) : hv w v k = .inr (c, mkf (wN w) (v k) 0 fs) := by simp [hv, mkc, h]
theorem hv_ia {w : Wd} {v : Vm2} {k n : Nat} (h : isIA k n) : hv w v k = .inl (wI w, n, .inl (v k)) := by simp [hv, mkc, h.2.1]
theorem hv_za {w : Wd} {v : Vm2} {k n : Nat} (h : isZA k n) : hv w v k = .inl (wZ w, n, .inl (v k)) := by simp [hv, mkc, h.2.1]
theorem hv_qa {w : Wd} {v : Vm2} {k : Nat} {ts : List Nat} (h : isQA k ts) : hv w v k = .inl (wS w, ts.length, .inr (.inr (.inr (.inr (fun i => (ts[i]?).map (wN w + ·)))))) := by simp [hv, mkc, h.2.1]
theorem hv_up {w : Wd} {v : Vm2} {k : Nat} {f : Nat → Int32} {e : va_E} (he : e = mkc w (lay k) f) : va_up (hv w v) k e = hv w (upR v k f) := by
  funext a
  by_cases ha : a = k
  · subst ha
    rw [va_up_self, he]
    simp [hv, upR]
  · rw [va_up_ne _ _ ha]
    simp [hv, upR, ha]
theorem upR_upd (v : Vm2) (k i : Nat) (x : Int32) : upR v k (upd (v k) i x) = up2 v k i x := by
  funext a b
  by_cases ha : a = k
  · subst ha
    simp [upR, up2, upd]
  · simp [upR, up2, ha]
theorem nI_cl {c n : Nat} (hc : c < n) (hn : n < 2 ^ 31) : (nI c).toNatClampNeg = c := nI_clamp (by omega)
abbrev rm (f l : Nat) : Room := { frames := f, cells := 0, slots := 0, locals := l }
def PI (w : Wd) (P : Int32 → Vm2 → Prop) : Po := fun r h' => ∃ (x : Int32) (v' : Vm2), r = some (.int x) ∧ h' = hv w v' ∧ P x v'
def PU (w : Wd) (P : Vm2 → Prop) : Po := fun r h' => ∃ v' : Vm2, r = none ∧ h' = hv w v' ∧ P v'
/-- contracts: an int comes back, or nothing -/
def CI (w : Wd) (y : MethodName) (cc : ByteArray) (mL : Nat) (rt : Option FieldType) (R : Room) (av : List Value) (v : Vm2) (P : Int32 → Vm2 → Prop) : Prop := Ct w y cc mL rt R av 185 (hv w v) 185 (PI w P)
def CU (w : Wd) (y : MethodName) (cc : ByteArray) (mL : Nat) (R : Room) (av : List Value) (v : Vm2) (P : Vm2 → Prop) : Prop := Ct w y cc mL none R av 185 (hv w v) 185 (PU w P)
/-- a method that changes nothing and answers e -/
abbrev CP (w : Wd) (y : MethodName) (cc : ByteArray) (mL : Nat) (rt : Option FieldType) (R : Room) (av : List Value) (v : Vm2) (e : Int32) : Prop := CI w y cc mL rt R av v (fun x v' => x = e ∧ v' = v)
section VR
variable {w : Wd} {y : MethodName} {cc : ByteArray} {mL : Nat} {rt : Option FieldType} {R : Room} {X : Array Value → State → Prop} {Qf : List Frame → Array Value → State → State → Prop} {L : List (Nat × Value)} {S : List Value} {v : Vm2} {ca sl : Nat}
theorem V.getI (pc : Nat) {idx k c j : Nat} (hd : decode cc pc = .ok (.getfield idx, 3)) (hF : FL y.cls idx c j) (hs : isIF k c j) (kk : J w y cc mL rt R X Qf (pc + 3) L (.int (v k j) :: S) 185 (hv w v) ca sl) : J w y cc mL rt R X Qf pc L (.ref (wN w + k) :: S) 185 (hv w v) ca sl := by
  obtain ⟨fs, h1, h2⟩ := fldS_ex hs.2
  refine J.getf pc hd hF hs.1 (hv_obj h1) (v := .int (v k j)) ?_ kk
  rw [mkf_get, h2]
  simp [cvt]
theorem V.getR (pc : Nat) {idx k c j t : Nat} (hd : decode cc pc = .ok (.getfield idx, 3)) (hF : FL y.cls idx c j) (hs : isRF k c j t) (kk : J w y cc mL rt R X Qf (pc + 3) L (.ref (wN w + t) :: S) 185 (hv w v) ca sl) : J w y cc mL rt R X Qf pc L (.ref (wN w + k) :: S) 185 (hv w v) ca sl := by
  obtain ⟨fs, h1, h2⟩ := fldS_ex hs.2
  refine J.getf pc hd hF hs.1 (hv_obj h1) (v := .ref (wN w + t)) ?_ kk
  rw [mkf_get, h2]
  simp [cvt]
theorem V.putI (pc : Nat) {idx k c j : Nat} {x : Int32} (hd : decode cc pc = .ok (.putfield idx, 3)) (hF : FL y.cls idx c j) (hQ : FP c j .int false) (hs : isIF k c j) (kk : J w y cc mL rt R X Qf (pc + 3) L S 185 (hv w (up2 v k j x)) ca sl) : J w y cc mL rt R X Qf pc L (.int x :: .ref (wN w + k) :: S) 185 (hv w v) ca sl := by
  obtain ⟨fs, h1, h2⟩ := fldS_ex hs.2
  refine J.putf pc hd hF hQ hs.1 (hv_obj h1) (by rw [mkf_len]; exact (List.getElem?_eq_some_iff.mp h2).1) rfl rfl ?_
  refine J.heap ?_ kk
  rw [mkf_set _ _ _ _ _ _ h2, Nat.zero_add, hv_up (f := upd (v k) j x) (by simp [mkc, h1]), upR_upd]
theorem V.putZ (pc : Nat) {idx k c j : Nat} {x : Int32} (hd : decode cc pc = .ok (.putfield idx, 3)) (hF : FL y.cls idx c j) (hQ : FP c j .boolean false) (hs : isIF k c j) (hx : x = 0 ∨ x = 1) (kk : J w y cc mL rt R X Qf (pc + 3) L S 185 (hv w (up2 v k j x)) ca sl) : J w y cc mL rt R X Qf pc L (.int x :: .ref (wN w + k) :: S) 185 (hv w v) ca sl := by
  obtain ⟨fs, h1, h2⟩ := fldS_ex hs.2
  refine J.putf pc hd hF hQ hs.1 (hv_obj h1) (by rw [mkf_len]; exact (List.getElem?_eq_some_iff.mp h2).1) (by rcases hx with rfl | rfl <;> rfl) (by rcases hx with rfl | rfl <;> rfl) ?_
  refine J.heap ?_ kk
  rw [mkf_set _ _ _ _ _ _ h2, Nat.zero_add, hv_up (f := upd (v k) j x) (by simp [mkc, h1]), upR_upd]
theorem V.iald (pc : Nat) {k n c : Nat} (hd : decode cc pc = .ok (.iaload, 1)) (hs : isIA k n) (hc : c < n) (kk : J w y cc mL rt R X Qf (pc + 1) L (.int (v k c) :: S) 185 (hv w v) ca sl) : J w y cc mL rt R X Qf pc L (.int (nI c) :: .ref (wN w + k) :: S) 185 (hv w v) ca sl := by
  refine J.iald pc hd hs.1 (hv_ia hs) (vp_in_nI hc hs.2.2) ?_
  rw [nI_cl hc hs.2.2]
  exact kk
theorem V.zald (pc : Nat) {k n c : Nat} (hd : decode cc pc = .ok (.baload, 1)) (hs : isZA k n) (hc : c < n) (kk : J w y cc mL rt R X Qf (pc + 1) L (.int (v k c) :: S) 185 (hv w v) ca sl) : J w y cc mL rt R X Qf pc L (.int (nI c) :: .ref (wN w + k) :: S) 185 (hv w v) ca sl := by
  refine J.zald pc hd hs.1 (hv_za hs) (vp_in_nI hc hs.2.2) ?_
  rw [nI_cl hc hs.2.2]
  exact kk
theorem V.aald (pc : Nat) {k c t : Nat} {ts : List Nat} (hd : decode cc pc = .ok (.aaload, 1)) (hs : isQA k ts) (hc : c < ts.length) (ht : ts[c]? = some t) (kk : J w y cc mL rt R X Qf (pc + 1) L (.ref (wN w + t) :: S) 185 (hv w v) ca sl) : J w y cc mL rt R X Qf pc L (.int (nI c) :: .ref (wN w + k) :: S) 185 (hv w v) ca sl := by
  refine J.aald pc hd hs.1 (hv_qa hs) (vp_in_nI hc hs.2.2) (.ref (wN w + t)) ?_ kk
  rw [nI_cl hc hs.2.2]
  simp [ht, va_rf]
theorem V.alen (pc : Nat) {k n : Nat} (hd : decode cc pc = .ok (.arraylength, 1)) (hs : isIA k n) (kk : J w y cc mL rt R X Qf (pc + 1) L (.int (nI n) :: S) 185 (hv w v) ca sl) : J w y cc mL rt R X Qf pc L (.ref (wN w + k) :: S) 185 (hv w v) ca sl :=
  J.alen pc hd hs.1 (hv_ia hs) kk
theorem V.iast (pc : Nat) {k n c : Nat} {x : Int32} (hd : decode cc pc = .ok (.iastore, 1)) (hs : isIA k n) (hc : c < n) (kk : J w y cc mL rt R X Qf (pc + 1) L S 185 (hv w (up2 v k c x)) ca sl) : J w y cc mL rt R X Qf pc L (.int x :: .int (nI c) :: .ref (wN w + k) :: S) 185 (hv w v) ca sl := by
  refine J.iast pc hd hs.1 (hv_ia hs) (vp_in_nI hc hs.2.2) ?_
  refine J.heap ?_ kk
  rw [nI_cl hc hs.2.2, hv_up (f := upd (v k) c x) (by simp [mkc, hs.2.1]), upR_upd]
theorem V.zast (pc : Nat) {k n c : Nat} {x : Int32} (hd : decode cc pc = .ok (.bastore, 1)) (hs : isZA k n) (hc : c < n) (hx : x = 0 ∨ x = 1) (kk : J w y cc mL rt R X Qf (pc + 1) L S 185 (hv w (up2 v k c x)) ca sl) : J w y cc mL rt R X Qf pc L (.int x :: .int (nI c) :: .ref (wN w + k) :: S) 185 (hv w v) ca sl := by
  refine J.zast pc hd hs.1 (hv_za hs) (vp_in_nI hc hs.2.2) hx ?_
  refine J.heap ?_ kk
  rw [nI_cl hc hs.2.2, hv_up (f := upd (v k) c x) (by simp [mkc, hs.2.1]), upR_upd]
theorem V.copy (pc : Nat) {idx k0 k1 n0 n1 sp dp m : Nat} (hd : decode cc pc = .ok (.invokestatic idx, 3)) (hw1 : Cond.methodLink y.cls idx arraycopyName ∈ AG) (hs0 : isIA k0 n0) (hs1 : isIA k1 n1) (h4 : sp + m ≤ n0) (h5 : dp + m ≤ n1) (hfr : 1 ≤ R.frames) (hlo : (S.map fun v => v.category).sum + (nativeFrameWords "java/lang/System" "arraycopy" 5 + 11) ≤ R.locals)
    (kk : J w y cc mL rt R X Qf (pc + 3) L S 185 (hv w (upR v k1 (va_cpy (v k0) (v k1) sp dp m))) ca sl) : J w y cc mL rt R X Qf pc L (.int (nI m) :: .int (nI dp) :: .ref (wN w + k1) :: .int (nI sp) :: .ref (wN w + k0) :: S) 185 (hv w v) ca sl := by
  have b0 := hs0.2.2
  have b1 := hs1.2.2
  have e1 : (nI sp).toNatClampNeg = sp := nI_clamp (by omega)
  have e2 : (nI dp).toNatClampNeg = dp := nI_clamp (by omega)
  have e3 : (nI m).toNatClampNeg = m := nI_clamp (by omega)
  refine J.copy pc hd hw1 nat_copy st_copy iz_RJ10 hs0.1 hs1.1 (hv_ia hs0) (hv_ia hs1) (nI_pos (by omega)) (nI_pos (by omega)) (nI_pos (by omega)) (by rw [e1, e3]; exact h4) (by rw [e2, e3]; exact h5) hfr hlo ?_
  refine J.heap ?_ kk
  rw [e1, e2, e3, hv_up (f := va_cpy (v k0) (v k1) sp dp m) (by simp [mkc, hs1.2.1])]
/-! numbers that are small -/
theorem V.iadd (pc : Nat) {a b : Nat} {n : Nat} {h : Nat → va_E} (hd : decode cc pc = .ok (.iadd, 1)) (k : J w y cc mL rt R X Qf (pc + 1) L (.int (nI (a + b)) :: S) n h ca sl) : J w y cc mL rt R X Qf pc L (.int (nI b) :: .int (nI a) :: S) n h ca sl :=
  J.iadd pc hd (J.top (nI_add a b) k)
theorem V.imul (pc : Nat) {a b : Nat} {n : Nat} {h : Nat → va_E} (hd : decode cc pc = .ok (.imul, 1)) (k : J w y cc mL rt R X Qf (pc + 1) L (.int (nI (a * b)) :: S) n h ca sl) : J w y cc mL rt R X Qf pc L (.int (nI b) :: .int (nI a) :: S) n h ca sl :=
  J.imul pc hd (J.top (pk_mul a b) k)
theorem V.isub (pc : Nat) {a b : Nat} {n : Nat} {h : Nat → va_E} (hd : decode cc pc = .ok (.isub, 1)) (hb : b ≤ a) (k : J w y cc mL rt R X Qf (pc + 1) L (.int (nI (a - b)) :: S) n h ca sl) : J w y cc mL rt R X Qf pc L (.int (nI b) :: .int (nI a) :: S) n h ca sl :=
  J.isub pc hd (J.top (pk_sub hb) k)
theorem V.iinc (pc : Nat) {i a : Nat} {n : Nat} {h : Nat → va_E} (hd : decode cc pc = .ok (.iinc i 1, 3)) (hx : lget L i = some (.int (nI a))) (hn : i < mL) (k : J w y cc mL rt R X Qf (pc + 3) (lset L i (.int (nI (a + 1)))) S n h ca sl) : J w y cc mL rt R X Qf pc L S n h ca sl :=
  J.iinc pc hd (nI (a + 1)) hx (nI_1 a) hn k
end VR
section VC
variable {w : Wd} {y : MethodName} {cc : ByteArray} {mL : Nat} {rt : Option FieldType} {R : Room} {X : Array Value → State → Prop} {Qf : List Frame → Array Value → State → State → Prop} {L : List (Nat × Value)} {S S0 : List Value} {v : Vm2} {ca sl : Nat}
variable {y' : MethodName} {cc' : ByteArray} {mL' : Nat} {rt' : Option FieldType} {f' l' : Nat} {as : List Value}
theorem V.callv (pc : Nat) {idx k ci np : Nat} {q : vw_C} {P : Int32 → Vm2 → Prop} (hd : decode cc pc = .ok (.invokevirtual idx, 3)) (hk9 : MLk y.cls idx y') (hi9 : MIn y' cc' mL' rt' np) (hv9 : MIv y') (hc9 : CI w y' cc' mL' rt' (rm f' l') (.ref (wN w + k) :: as) v P) (hst : S0 = as.reverse ++ .ref (wN w + k) :: S) (hnp : as.length = np) (hW : (S.map fun v => v.category).sum ≤ 8) (hR : f' + 1 ≤ R.frames ∧ 8 + (mL' + 11) + l' ≤ R.locals) (hf : ca ≤ R.cells ∧ sl ≤ R.slots)
    (hk : isO k ci) (hcl : vwCl[ci]? = some q) (hq1 : q.1 = y'.cls)
    (kk : ∀ (x : Int32) (v' : Vm2), P x v' → J w y cc mL rt R X Qf (pc + 3) L (.int x :: S) 185 (hv w v') ca sl) : J w y cc mL rt R X Qf pc L S0 185 (hv w v) ca sl := by
  obtain ⟨fs, hfs⟩ := hk.ex
  refine J.callv pc hd hk9 hi9 hv9 hc9 hst hnp hW hR hf hk.1 (hv_obj hfs) hcl hq1 ?_
  intro r h' hp
  obtain ⟨x, v', rfl, rfl, hp⟩ := hp
  exact kk x v' hp
theorem V.callvP (pc : Nat) {idx k ci np : Nat} {q : vw_C} {e : Int32} (hd : decode cc pc = .ok (.invokevirtual idx, 3)) (hk9 : MLk y.cls idx y') (hi9 : MIn y' cc' mL' rt' np) (hv9 : MIv y') (hc9 : CP w y' cc' mL' rt' (rm f' l') (.ref (wN w + k) :: as) v e) (hst : S0 = as.reverse ++ .ref (wN w + k) :: S) (hnp : as.length = np) (hW : (S.map fun v => v.category).sum ≤ 8) (hR : f' + 1 ≤ R.frames ∧ 8 + (mL' + 11) + l' ≤ R.locals) (hf : ca ≤ R.cells ∧ sl ≤ R.slots)
    (hk : isO k ci) (hcl : vwCl[ci]? = some q) (hq1 : q.1 = y'.cls)
    (kk : J w y cc mL rt R X Qf (pc + 3) L (.int e :: S) 185 (hv w v) ca sl) : J w y cc mL rt R X Qf pc L S0 185 (hv w v) ca sl := by
  refine V.callv pc hd hk9 hi9 hv9 hc9 hst hnp hW hR hf hk hcl hq1 ?_
  rintro x v' ⟨rfl, rfl⟩
  exact kk
theorem V.callvU (pc : Nat) {idx k ci np : Nat} {q : vw_C} {P : Vm2 → Prop} (hd : decode cc pc = .ok (.invokevirtual idx, 3)) (hk9 : MLk y.cls idx y') (hi9 : MIn y' cc' mL' none np) (hv9 : MIv y') (hc9 : CU w y' cc' mL' (rm f' l') (.ref (wN w + k) :: as) v P) (hst : S0 = as.reverse ++ .ref (wN w + k) :: S) (hnp : as.length = np) (hW : (S.map fun v => v.category).sum ≤ 8) (hR : f' + 1 ≤ R.frames ∧ 8 + (mL' + 11) + l' ≤ R.locals) (hf : ca ≤ R.cells ∧ sl ≤ R.slots)
    (hk : isO k ci) (hcl : vwCl[ci]? = some q) (hq1 : q.1 = y'.cls)
    (kk : ∀ (v' : Vm2), P v' → J w y cc mL rt R X Qf (pc + 3) L S 185 (hv w v') ca sl) : J w y cc mL rt R X Qf pc L S0 185 (hv w v) ca sl := by
  obtain ⟨fs, hfs⟩ := hk.ex
  refine J.callv pc hd hk9 hi9 hv9 hc9 hst hnp hW hR hf hk.1 (hv_obj hfs) hcl hq1 ?_
  intro r h' hp
  obtain ⟨v', rfl, rfl, hp⟩ := hp
  exact kk v' hp
theorem V.calls (pc : Nat) {idx np : Nat} {P : Int32 → Vm2 → Prop} (hd : decode cc pc = .ok (.invokestatic idx, 3)) (hk9 : MLk y.cls idx y') (hi9 : MIn y' cc' mL' rt' np) (hv9 : MIs y') (hc9 : CI w y' cc' mL' rt' (rm f' l') as v P) (hst : S0 = as.reverse ++ S) (hnp : as.length = np) (hW : (S.map fun v => v.category).sum ≤ 8) (hR : f' + 1 ≤ R.frames ∧ 8 + (mL' + 11) + l' ≤ R.locals) (hf : ca ≤ R.cells ∧ sl ≤ R.slots)
    (kk : ∀ (x : Int32) (v' : Vm2), P x v' → J w y cc mL rt R X Qf (pc + 3) L (.int x :: S) 185 (hv w v') ca sl) : J w y cc mL rt R X Qf pc L S0 185 (hv w v) ca sl := by
  refine J.calls pc hd hk9 hi9 hv9 hc9 hst hnp hW hR hf ?_
  intro r h' hp
  obtain ⟨x, v', rfl, rfl, hp⟩ := hp
  exact kk x v' hp
theorem V.callsP (pc : Nat) {idx np : Nat} {e : Int32} (hd : decode cc pc = .ok (.invokestatic idx, 3)) (hk9 : MLk y.cls idx y') (hi9 : MIn y' cc' mL' rt' np) (hv9 : MIs y') (hc9 : CP w y' cc' mL' rt' (rm f' l') as v e) (hst : S0 = as.reverse ++ S) (hnp : as.length = np) (hW : (S.map fun v => v.category).sum ≤ 8) (hR : f' + 1 ≤ R.frames ∧ 8 + (mL' + 11) + l' ≤ R.locals) (hf : ca ≤ R.cells ∧ sl ≤ R.slots)
    (kk : J w y cc mL rt R X Qf (pc + 3) L (.int e :: S) 185 (hv w v) ca sl) : J w y cc mL rt R X Qf pc L S0 185 (hv w v) ca sl := by
  refine V.calls pc hd hk9 hi9 hv9 hc9 hst hnp hW hR hf ?_
  rintro x v' ⟨rfl, rfl⟩
  exact kk
theorem V.callsU (pc : Nat) {idx np : Nat} {P : Vm2 → Prop} (hd : decode cc pc = .ok (.invokestatic idx, 3)) (hk9 : MLk y.cls idx y') (hi9 : MIn y' cc' mL' none np) (hv9 : MIs y') (hc9 : CU w y' cc' mL' (rm f' l') as v P) (hst : S0 = as.reverse ++ S) (hnp : as.length = np) (hW : (S.map fun v => v.category).sum ≤ 8) (hR : f' + 1 ≤ R.frames ∧ 8 + (mL' + 11) + l' ≤ R.locals) (hf : ca ≤ R.cells ∧ sl ≤ R.slots)
    (kk : ∀ (v' : Vm2), P v' → J w y cc mL rt R X Qf (pc + 3) L S 185 (hv w v') ca sl) : J w y cc mL rt R X Qf pc L S0 185 (hv w v) ca sl := by
  refine J.calls pc hd hk9 hi9 hv9 hc9 hst hnp hW hR hf ?_
  intro r h' hp
  obtain ⟨v', rfl, rfl, hp⟩ := hp
  exact kk v' hp
end VC
section VE
variable {w : Wd} {y : MethodName} {cc : ByteArray} {mL : Nat} {R : Room} {X : Array Value → State → Prop} {L : List (Nat × Value)} {v : Vm2}
theorem V.iret (pc : Nat) {x : Int32} {P : Int32 → Vm2 → Prop} (hd : decode cc pc = .ok (.ireturn, 1)) (hp : P x v) : J w y cc mL (some .int) R X (ZJ w 185 0 0 (PI w P)) pc L [.int x] 185 (hv w v) 0 0 := J.iret pc hd ⟨x, v, rfl, rfl, hp⟩
theorem V.zret (pc : Nat) {x : Int32} {P : Int32 → Vm2 → Prop} (hd : decode cc pc = .ok (.ireturn, 1)) (hx : x = 0 ∨ x = 1) (hp : P x v) : J w y cc mL (some .boolean) R X (ZJ w 185 0 0 (PI w P)) pc L [.int x] 185 (hv w v) 0 0 := J.zret pc hd hx ⟨x, v, rfl, rfl, hp⟩
theorem V.vret (pc : Nat) {P : Vm2 → Prop} (hd : decode cc pc = .ok (.return_, 1)) (hp : P v) : J w y cc mL none R X (ZJ w 185 0 0 (PU w P)) pc L [] 185 (hv w v) 0 0 := J.vret pc hd ⟨v, rfl, rfl, hp⟩
theorem CI.of {rt : Option FieldType} {f l : Nat} {av : List Value} {P : Int32 → Vm2 → Prop} (hy : plainName y.cls = true) (hle : (lg_sl av).length ≤ mL) (k : J w y cc mL rt (rm f l) XT (ZJ w 185 0 0 (PI w P)) 0 (lv_args 0 av) [] 185 (hv w v) 0 0) : CI w y cc mL rt (rm f l) av v P := Ct.of hy hle rfl k
theorem CU.of {f l : Nat} {av : List Value} {P : Vm2 → Prop} (hy : plainName y.cls = true) (hle : (lg_sl av).length ≤ mL) (k : J w y cc mL none (rm f l) XT (ZJ w 185 0 0 (PU w P)) 0 (lv_args 0 av) [] 185 (hv w v) 0 0) : CU w y cc mL (rm f l) av v P := Ct.of hy hle rfl k
end VE
