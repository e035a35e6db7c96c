/-! ===== the layer J: one global world of cells at base + k, contracts that speak of all of it ===== -/
def isNest : Cond → Bool
  | .fieldLinkNest .. => true
  | .methodLinkNest .. => true
  | _ => false
def AG : List Cond := lw_tbl.filter goodWord
theorem AG_mem {x : Cond} (h : x ∈ lw_tbl) (g : goodWord x = true) : x ∈ AG := List.mem_filter.mpr ⟨h, g⟩
theorem AG_good : ∀ x ∈ AG, goodWord x = true := fun _ h => (List.mem_filter.mp h).2
abbrev Wd : Type := Launch × va_G × Nat × ClassId × ClassId × ClassId
abbrev wl (w : Wd) : Launch := w.1
abbrev wD (w : Wd) : va_G := w.2.1
abbrev wN (w : Wd) : Nat := w.2.2.1
abbrev wI (w : Wd) : ClassId := w.2.2.2.1
abbrev wZ (w : Wd) : ClassId := w.2.2.2.2.1
abbrev wS (w : Wd) : ClassId := w.2.2.2.2.2
abbrev wtys (w : Wd) : List (ClassId × FieldType) := [(wI w, .int), (wZ w, .boolean), (wS w, .object "LiarClocks$State")]
def wsn (w : Wd) (n : Nat) (h : Nat → va_E) : va_W := (List.range n).map (fun k => (wN w + k, h k))
def PP (w : Wd) (n : Nat) (h : Nat → va_E) (H : Heap) : Prop := H.size = wN w + n ∧ va_P (wD w) vwCl (wsn w n h) H
def KK (w : Wd) (U : State) : Prop := va_K (wD w) vwCl (wtys w) U ∧ (∀ x ∈ lw_tbl, isNest x = true → va_Nw x U) ∧ va_AO "LiarClocks$State" U
theorem wsn_get (w : Wd) {n : Nat} (h : Nat → va_E) {k : Nat} (hk : k < n) : (wsn w n h)[k]? = some (wN w + k, h k) := by
  simp [wsn, hk]
theorem wsn_len (w : Wd) (n : Nat) (h : Nat → va_E) : (wsn w n h).length = n := by simp [wsn]
theorem wsn_set (w : Wd) (n : Nat) (h : Nat → va_E) (k : Nat) (e : va_E) : (wsn w n h).set k (wN w + k, e) = wsn w n (va_up h k e) := by
  apply List.ext_getElem?
  intro j
  by_cases hj : j < n
  · by_cases hk : j = k
    · subst hk
      rw [List.getElem?_set_self (by rw [wsn_len]; exact hj), wsn_get w _ hj, va_up_self]
    · rw [List.getElem?_set_ne (Ne.symm hk), wsn_get w _ hj, wsn_get w _ hj, va_up_ne _ _ hk]
  · rw [List.getElem?_eq_none (by rw [List.length_set, wsn_len]; omega), List.getElem?_eq_none (by rw [wsn_len]; omega)]
theorem wsn_push (w : Wd) (n : Nat) (h : Nat → va_E) (e : va_E) : wsn w n h ++ [(wN w + n, e)] = wsn w (n + 1) (va_up h n e) := by
  apply List.ext_getElem?
  intro j
  by_cases hj : j < n
  · rw [List.getElem?_append_left (by rw [wsn_len]; exact hj), wsn_get w _ hj, wsn_get w _ (by omega), va_up_ne _ _ (by omega)]
  · by_cases hk : j = n
    · subst hk
      rw [List.getElem?_append_right (by rw [wsn_len]; omega), wsn_len, wsn_get w _ (by omega), va_up_self]
      simp
    · rw [List.getElem?_eq_none (by rw [List.length_append, wsn_len]; simp; omega), List.getElem?_eq_none (by rw [wsn_len]; omega)]
theorem wsn_D (w : Wd) (n : Nat) (h : Nat → va_E) : va_D (fun q : Nat => wN w ≤ q) (wsn w n h) := by
  have key : ∀ (i : Nat) (p : Nat × va_E), (wsn w n h)[i]? = some p → p.1 = wN w + i := by
    intro i p hp
    have hi : i < n := by
      have := (List.getElem?_eq_some_iff.mp hp).1
      rwa [wsn_len] at this
    rw [wsn_get w _ hi] at hp
    cases hp
    rfl
  refine ⟨fun i j p q hp hq hpq => ?_, fun k q hq => ?_⟩
  · have h1 := key i p hp
    have h2 := key j q hq
    omega
  · have h1 := key k q hq
    omega
theorem KK.warm {w : Wd} {s U : State} (h : KK w s) (hW : s.WarmedH U.vm) : KK w U := by
  refine ⟨va_K.moved hW.alike h.1, fun x hx hn => ?_, va_AO.moved hW.alike h.2.2⟩
  have hz := h.2.1 x hx hn
  cases x <;> first | exact va_Nw.warmF hW hz | exact va_Nw.warmM hW hz | (exact absurd hn (by simp [isNest]))
theorem KK.same {w : Wd} {u U : State} (hv : u.vm = U.vm) (h : KK w u) : KK w U := by
  refine ⟨va_K.moved (by rw [hv]; exact Vm.Alike.refl _) h.1, fun x hx hn => ?_, va_AO.moved (by rw [hv]; exact Vm.Alike.refl _) h.2.2⟩
  have hz := h.2.1 x hx hn
  cases x <;> first | exact va_Nw.same rfl hv hz | (exact absurd hn (by simp [isNest]))
/-- what stands at every step of a method: the machine, its code, the tables' words, the world's classes -/
def Cx (w : Wd) (y : MethodName) (cc : ByteArray) (mL : Nat) (rt : Option FieldType) (X : Array Value → State → Prop) (p : Program) (s : State) (m : MethodId) (args : Array Value) (meth : Method) (c : Code) : Prop :=
  p.tables.exec = Jvm.exec ∧ c.code = cc ∧ c.maxLocals = mL ∧ meth.sig.returnType = rt ∧ meth.locks = false ∧ meth.name = y.name ∧ s.vm.findClass y.cls = some m.cls ∧ (∀ x ∈ AG, x.before args s = true) ∧ KK w s ∧ wN w ≤ s.heap.size ∧ X args s
/-- the judgement: from pc, with locals L, stack S, the world h of n cells, the method comes to its end Qf -/
def J (w : Wd) (y : MethodName) (cc : ByteArray) (mL : Nat) (rt : Option FieldType) (R : Room) (X : Array Value → State → Prop) (Qf : List Frame → Array Value → State → State → Prop) (pc : Nat) (L : List (Nat × Value)) (S : List Value) (n : Nat) (h : Nat → va_E) (ca sl : Nat) : Prop :=
  ∀ (p : Program) (e : Env) (s : State) (m : MethodId) (args : Array Value) (below : List Frame) (meth : Method) (c : Code), Cx w y cc mL rt X p s m args meth c →
  ∀ (ls : Array Slot) (H : Heap) (locs : List Loc), lv_has ls mL L → PP w n h H → va_S (fun q : Nat => wN w ≤ q) s.heap H locs → W p (wl w) e R s m args below meth c H locs ca sl (Qf below args s) (F0 m pc ls S)
abbrev Po : Type := Option Value → (Nat → va_E) → Prop
def QJ (w : Wd) (n' : Nat) (post : Po) : Array Value → State → Outcome → State → Prop := fun _ st o t =>
  ∃ (r : Option Value) (h' : Nat → va_E), o = .returned r ∧ post r h' ∧ PP w n' h' t.heap ∧ st.heap.size ≤ t.heap.size ∧ ∀ q : Nat, q < wN w → t.heap[q]? = st.heap[q]?
def PJ (w : Wd) (n : Nat) (h : Nat → va_E) (av : List Value) : Array Value → State → Prop := fun v U => v = av.toArray ∧ PP w n h U.heap ∧ KK w U
def ZJ (w : Wd) (n' mc ms : Nat) (post : Po) : List Frame → Array Value → State → State → Prop := fun below args s => MQ below (QJ w n' post) args s mc ms (fun q : Nat => wN w ≤ q)
def XT : Array Value → State → Prop := fun _ _ => True
/-- a contract over the whole world -/
def Ct (w : Wd) (y : MethodName) (cc : ByteArray) (mL : Nat) (rt : Option FieldType) (R : Room) (av : List Value) (n : Nat) (h : Nat → va_E) (n' : Nat) (post : Po) : Prop :=
  Met (wl w) y (.code y cc mL rt :: AG) R (PJ w n h av) (QJ w n' post) R.cells R.slots (fun q : Nat => wN w ≤ q)
/-- the locals that are looked up -/
def lget : List (Nat × Value) → Nat → Option Value
  | [], _ => none
  | (j, v) :: r, i => if j = i then some v else lget r i
def lins : List (Nat × Value) → Nat → Value → List (Nat × Value)
  | [], i, v => [(i, v)]
  | (j, u) :: r, i, v => if i < j then (i, v) :: (j, u) :: r else (j, u) :: lins r i v
theorem lins_mem : ∀ {F : List (Nat × Value)} {i : Nat} {v : Value} {q : Nat × Value}, q ∈ lins F i v → q ∈ (i, v) :: F
  | [], _, _, _, h => h
  | (j, u) :: r, i, v, q, h => by
    unfold lins at h
    split at h
    · exact h
    · rcases List.mem_cons.mp h with h | h
      · exact List.mem_cons_of_mem _ (List.mem_cons.mpr (Or.inl h))
      · rcases List.mem_cons.mp (lins_mem h) with h | h
        · exact List.mem_cons.mpr (Or.inl h)
        · exact List.mem_cons_of_mem _ (List.mem_cons_of_mem _ h)
theorem lins_has {ls : Array Slot} {nL : Nat} {F : List (Nat × Value)} {i : Nat} {v : Value} (h : lv_has ls nL ((i, v) :: F)) : lv_has ls nL (lins F i v) := ⟨h.1, h.2.1, fun q hq => h.2.2 q (lins_mem hq)⟩
def lset (L : List (Nat × Value)) (i : Nat) (v : Value) : List (Nat × Value) :=
  lins (L.filter (fun q => !(q.1 == i) && !(q.1 + 1 == i && q.2.category == 2))) i v
def ldrop (L : List (Nat × Value)) (i : Nat) : List (Nat × Value) := L.filter (fun q => !(q.1 == i))
theorem lget_mem : ∀ {L : List (Nat × Value)} {i : Nat} {v : Value}, lget L i = some v → (i, v) ∈ L
  | [], _, _, h => by cases h
  | (j, u) :: r, i, v, h => by
    unfold lget at h
    split at h
    · rename_i e
      cases h
      subst e
      exact List.mem_cons_self
    · exact List.mem_cons_of_mem _ (lget_mem h)
theorem lget_at {ls : Array Slot} {nL : Nat} {L : List (Nat × Value)} (h : lv_has ls nL L) {i : Nat} {v : Value} (hk : lget L i = some v) : ls[i]? = some (.val v) := h.2.2 (i, v) (lget_mem hk)
theorem Ct.of {w : Wd} {y : MethodName} {cc : ByteArray} {mL : Nat} {rt : Option FieldType} {R : Room} {av : List Value} {n : Nat} {h : Nat → va_E} {n' : Nat} {post : Po} {L : List (Nat × Value)} (hy : plainName y.cls = true) (hle : (lg_sl av).length ≤ mL) (hL : lv_args 0 av = L)
    (k : J w y cc mL rt R XT (ZJ w n' R.cells R.slots post) 0 L [] n h 0 0) : Ct w y cc mL rt R av n h n' post := by
  refine Met.ofW (cc := cc) (maxL := mL) (ret := rt) hy rfl ?_
  intro p e s m args below meth c s₁ B hml hv
  obtain ⟨rfl, hP, hK⟩ := hv
  have hts := atoms_spec (ws := .code y cc mL rt :: AG) B.pre
  have hl := lv_entry av (n := mL) hle
  rw [lg_entry_eq]
  rw [hL] at hl
  have hsz : wN w ≤ s.heap.size := by rw [hP.1]; omega
  exact k p e s m _ below meth c ⟨B.exec, B.bytes, hml, B.returns, B.notSynchronized, (name_of_methodNamed B.named B.method).1, findClass_of_methodNamed B.named, fun x hx => hts x (List.mem_cons_of_mem _ hx), hK, hsz, trivial⟩ _ s.heap [] hl hP va_S.rf
section JR
variable {w : Wd} {y : MethodName} {cc : ByteArray} {mL : Nat} {rt : Option FieldType} {R : Room} {X : Array Value → State → Prop} {Qf : List Frame → Array Value → State → State → Prop} {L : List (Nat × Value)} {S : List Value} {n : Nat} {h : Nat → va_E} {ca sl : Nat}

theorem J.iadd (pc : Nat) {a b : Int32} (hd : decode cc pc = .ok (.iadd, 1))  (k : J w y cc mL rt R X Qf (pc + 1) L (.int (a + b) :: S) n h ca sl) : J w y cc mL rt R X Qf pc L (.int b :: .int a :: S) n h ca sl := by
  intro p e s m args below meth c C ls H locs hl hP hS
  exact lv_iadd C.1 C.2.1 hd  (k p e s m args below meth c C ls H locs hl hP hS)
theorem J.isub (pc : Nat) {a b : Int32} (hd : decode cc pc = .ok (.isub, 1))  (k : J w y cc mL rt R X Qf (pc + 1) L (.int (a - b) :: S) n h ca sl) : J w y cc mL rt R X Qf pc L (.int b :: .int a :: S) n h ca sl := by
  intro p e s m args below meth c C ls H locs hl hP hS
  exact lv_isub C.1 C.2.1 hd  (k p e s m args below meth c C ls H locs hl hP hS)
theorem J.imul (pc : Nat) {a b : Int32} (hd : decode cc pc = .ok (.imul, 1))  (k : J w y cc mL rt R X Qf (pc + 1) L (.int (a * b) :: S) n h ca sl) : J w y cc mL rt R X Qf pc L (.int b :: .int a :: S) n h ca sl := by
  intro p e s m args below meth c C ls H locs hl hP hS
  exact lv_imul C.1 C.2.1 hd  (k p e s m args below meth c C ls H locs hl hP hS)
theorem J.iand (pc : Nat) {a b : Int32} (hd : decode cc pc = .ok (.iand, 1))  (k : J w y cc mL rt R X Qf (pc + 1) L (.int (a &&& b) :: S) n h ca sl) : J w y cc mL rt R X Qf pc L (.int b :: .int a :: S) n h ca sl := by
  intro p e s m args below meth c C ls H locs hl hP hS
  exact lv_iand C.1 C.2.1 hd  (k p e s m args below meth c C ls H locs hl hP hS)
theorem J.ior (pc : Nat) {a b : Int32} (hd : decode cc pc = .ok (.ior, 1))  (k : J w y cc mL rt R X Qf (pc + 1) L (.int (a ||| b) :: S) n h ca sl) : J w y cc mL rt R X Qf pc L (.int b :: .int a :: S) n h ca sl := by
  intro p e s m args below meth c C ls H locs hl hP hS
  exact lv_ior C.1 C.2.1 hd  (k p e s m args below meth c C ls H locs hl hP hS)
theorem J.ixor (pc : Nat) {a b : Int32} (hd : decode cc pc = .ok (.ixor, 1))  (k : J w y cc mL rt R X Qf (pc + 1) L (.int (a ^^^ b) :: S) n h ca sl) : J w y cc mL rt R X Qf pc L (.int b :: .int a :: S) n h ca sl := by
  intro p e s m args below meth c C ls H locs hl hP hS
  exact lv_ixor C.1 C.2.1 hd  (k p e s m args below meth c C ls H locs hl hP hS)
theorem J.ishl (pc : Nat) {a b : Int32} (hd : decode cc pc = .ok (.ishl, 1))  (k : J w y cc mL rt R X Qf (pc + 1) L (.int (a <<< (b &&& 31)) :: S) n h ca sl) : J w y cc mL rt R X Qf pc L (.int b :: .int a :: S) n h ca sl := by
  intro p e s m args below meth c C ls H locs hl hP hS
  exact lv_ishl C.1 C.2.1 hd  (k p e s m args below meth c C ls H locs hl hP hS)
theorem J.ishr (pc : Nat) {a b : Int32} (hd : decode cc pc = .ok (.ishr, 1))  (k : J w y cc mL rt R X Qf (pc + 1) L (.int (a >>> (b &&& 31)) :: S) n h ca sl) : J w y cc mL rt R X Qf pc L (.int b :: .int a :: S) n h ca sl := by
  intro p e s m args below meth c C ls H locs hl hP hS
  exact lv_ishr C.1 C.2.1 hd  (k p e s m args below meth c C ls H locs hl hP hS)
theorem J.idiv (pc : Nat) {a b : Int32} (hd : decode cc pc = .ok (.idiv, 1)) (hne : ¬ b = 0) (k : J w y cc mL rt R X Qf (pc + 1) L (.int (a / b) :: S) n h ca sl) : J w y cc mL rt R X Qf pc L (.int b :: .int a :: S) n h ca sl := by
  intro p e s m args below meth c C ls H locs hl hP hS
  exact lv_idiv C.1 C.2.1 hd hne (k p e s m args below meth c C ls H locs hl hP hS)
theorem J.irem (pc : Nat) {a b : Int32} (hd : decode cc pc = .ok (.irem, 1)) (hne : ¬ b = 0) (k : J w y cc mL rt R X Qf (pc + 1) L (.int (a - a / b * b) :: S) n h ca sl) : J w y cc mL rt R X Qf pc L (.int b :: .int a :: S) n h ca sl := by
  intro p e s m args below meth c C ls H locs hl hP hS
  exact lv_irem C.1 C.2.1 hd hne (k p e s m args below meth c C ls H locs hl hP hS)
theorem J.ineg (pc : Nat) {a : Int32} (hd : decode cc pc = .ok (.ineg, 1))  (k : J w y cc mL rt R X Qf (pc + 1) L (.int (-a) :: S) n h ca sl) : J w y cc mL rt R X Qf pc L (.int a :: S) n h ca sl := by
  intro p e s m args below meth c C ls H locs hl hP hS
  exact lv_ineg C.1 C.2.1 hd  (k p e s m args below meth c C ls H locs hl hP hS)
theorem J.ladd (pc : Nat) {a b : Int64} (hd : decode cc pc = .ok (.ladd, 1))  (k : J w y cc mL rt R X Qf (pc + 1) L (.long (a + b) :: S) n h ca sl) : J w y cc mL rt R X Qf pc L (.long b :: .long a :: S) n h ca sl := by
  intro p e s m args below meth c C ls H locs hl hP hS
  exact lv_ladd C.1 C.2.1 hd  (k p e s m args below meth c C ls H locs hl hP hS)
theorem J.lmul (pc : Nat) {a b : Int64} (hd : decode cc pc = .ok (.lmul, 1))  (k : J w y cc mL rt R X Qf (pc + 1) L (.long (a * b) :: S) n h ca sl) : J w y cc mL rt R X Qf pc L (.long b :: .long a :: S) n h ca sl := by
  intro p e s m args below meth c C ls H locs hl hP hS
  exact lv_lmul C.1 C.2.1 hd  (k p e s m args below meth c C ls H locs hl hP hS)
theorem J.lrem (pc : Nat) {a b : Int64} (hd : decode cc pc = .ok (.lrem, 1)) (hne : ¬ b = 0) (k : J w y cc mL rt R X Qf (pc + 1) L (.long (a - a / b * b) :: S) n h ca sl) : J w y cc mL rt R X Qf pc L (.long b :: .long a :: S) n h ca sl := by
  intro p e s m args below meth c C ls H locs hl hP hS
  exact lv_lrem C.1 C.2.1 hd hne (k p e s m args below meth c C ls H locs hl hP hS)
theorem J.i2l (pc : Nat) {a : Int32} (hd : decode cc pc = .ok (.i2l, 1))  (k : J w y cc mL rt R X Qf (pc + 1) L (.long a.toInt64 :: S) n h ca sl) : J w y cc mL rt R X Qf pc L (.int a :: S) n h ca sl := by
  intro p e s m args below meth c C ls H locs hl hP hS
  exact lv_i2l C.1 C.2.1 hd rfl (k p e s m args below meth c C ls H locs hl hP hS)
theorem J.l2i (pc : Nat) {a : Int64} (hd : decode cc pc = .ok (.l2i, 1))  (k : J w y cc mL rt R X Qf (pc + 1) L (.int a.toInt32 :: S) n h ca sl) : J w y cc mL rt R X Qf pc L (.long a :: S) n h ca sl := by
  intro p e s m args below meth c C ls H locs hl hP hS
  exact lv_l2i C.1 C.2.1 hd rfl (k p e s m args below meth c C ls H locs hl hP hS)
theorem J.iushr (pc : Nat) {a b : Int32} (hd : decode cc pc = .ok (.iushr, 1))  (k : J w y cc mL rt R X Qf (pc + 1) L (.int (a.toUInt32 >>> (b.toUInt32 &&& Int32.toUInt32 31)).toInt32 :: S) n h ca sl) : J w y cc mL rt R X Qf pc L (.int b :: .int a :: S) n h ca sl := by
  intro p e s m args below meth c C ls H locs hl hP hS
  exact lv_iushr C.1 C.2.1 hd rfl (k p e s m args below meth c C ls H locs hl hP hS)
theorem J.dup (pc : Nat) {a : Value} (hd : decode cc pc = .ok (.dup, 1)) (ha : a.category = 1) (k : J w y cc mL rt R X Qf (pc + 1) L (a :: a :: S) n h ca sl) : J w y cc mL rt R X Qf pc L (a :: S) n h ca sl := by
  intro p e s m args below meth c C ls H locs hl hP hS
  exact lv_dup C.1 C.2.1 hd ha (k p e s m args below meth c C ls H locs hl hP hS)
theorem J.pop (pc : Nat) {a : Value} (hd : decode cc pc = .ok (.pop, 1)) (ha : a.category = 1) (k : J w y cc mL rt R X Qf (pc + 1) L S n h ca sl) : J w y cc mL rt R X Qf pc L (a :: S) n h ca sl := by
  intro p e s m args below meth c C ls H locs hl hP hS
  exact lv_pop C.1 C.2.1 hd ha (k p e s m args below meth c C ls H locs hl hP hS)
theorem J.dup2 (pc : Nat) {a b : Value} (hd : decode cc pc = .ok (.dup2, 1)) (ha : a.category = 1) (hb : b.category = 1) (k : J w y cc mL rt R X Qf (pc + 1) L (a :: b :: a :: b :: S) n h ca sl) : J w y cc mL rt R X Qf pc L (a :: b :: S) n h ca sl := by
  intro p e s m args below meth c C ls H locs hl hP hS
  exact lv_dup2_11 C.1 C.2.1 hd ha hb (k p e s m args below meth c C ls H locs hl hP hS)
theorem J.iconst (pc : Nat) {i : Int} (v : Int32) (hd : decode cc pc = .ok (.iconst i, 1)) (hv : Int32.ofInt i = v) (k : J w y cc mL rt R X Qf (pc + 1) L (.int v :: S) n h ca sl) : J w y cc mL rt R X Qf pc L S n h ca sl := by
  intro p e s m args below meth c C ls H locs hl hP hS
  exact lv_iconst C.1 C.2.1 hd hv (k p e s m args below meth c C ls H locs hl hP hS)
theorem J.bipush (pc : Nat) {i : Int} (v : Int32) (hd : decode cc pc = .ok (.bipush i, 2)) (hv : (Int8.ofInt i).toInt32 = v) (k : J w y cc mL rt R X Qf (pc + 2) L (.int v :: S) n h ca sl) : J w y cc mL rt R X Qf pc L S n h ca sl := by
  intro p e s m args below meth c C ls H locs hl hP hS
  exact lv_bipush C.1 C.2.1 hd hv (k p e s m args below meth c C ls H locs hl hP hS)
theorem J.sipush (pc : Nat) {i : Int} (v : Int32) (hd : decode cc pc = .ok (.sipush i, 3)) (hv : (Int16.ofInt i).toInt32 = v) (k : J w y cc mL rt R X Qf (pc + 3) L (.int v :: S) n h ca sl) : J w y cc mL rt R X Qf pc L S n h ca sl := by
  intro p e s m args below meth c C ls H locs hl hP hS
  exact lv_sipush C.1 C.2.1 hd hv (k p e s m args below meth c C ls H locs hl hP hS)
theorem J.ldc (pc : Nat) {i : Nat} (v : Int32) (hd : decode cc pc = .ok (.ldc i, 2)) (hw : Cond.constant y.cls i v ∈ AG) (k : J w y cc mL rt R X Qf (pc + 2) L (.int v :: S) n h ca sl) : J w y cc mL rt R X Qf pc L S n h ca sl := by
  intro p e s m args below meth c C ls H locs hl hP hS
  exact lv_ldc C.1 C.2.1 C.2.2.2.2.2.2.1 (C.2.2.2.2.2.2.2.1 _ hw) hd (k p e s m args below meth c C ls H locs hl hP hS)
theorem J.ldcw (pc : Nat) {i : Nat} (v : Int32) (hd : decode cc pc = .ok (.ldc_w i, 3)) (hw : Cond.constant y.cls i v ∈ AG) (k : J w y cc mL rt R X Qf (pc + 3) L (.int v :: S) n h ca sl) : J w y cc mL rt R X Qf pc L S n h ca sl := by
  intro p e s m args below meth c C ls H locs hl hP hS
  exact lv_ldcw C.1 C.2.1 C.2.2.2.2.2.2.1 (C.2.2.2.2.2.2.2.1 _ hw) hd (k p e s m args below meth c C ls H locs hl hP hS)
theorem J.ldc2 (pc : Nat) {i : Nat} (v : Int64) (hd : decode cc pc = .ok (.ldc2_w i, 3)) (hw : Cond.constantLong y.cls i v ∈ AG) (k : J w y cc mL rt R X Qf (pc + 3) L (.long v :: S) n h ca sl) : J w y cc mL rt R X Qf pc L S n h ca sl := by
  intro p e s m args below meth c C ls H locs hl hP hS
  exact lv_ldc2 C.1 C.2.1 C.2.2.2.2.2.2.1 (C.2.2.2.2.2.2.2.1 _ hw) hd (k p e s m args below meth c C ls H locs hl hP hS)
theorem J.iload_n (pc : Nat) {i : Nat} {k4 : Fin 4} {v : Int32} (hd : decode cc pc = .ok (.iload_n k4, 1)) (hi : (k4 : Nat) = i) (hv : lget L i = some (.int v)) (k : J w y cc mL rt R X Qf (pc + 1) L (.int v :: S) n h ca sl) : J w y cc mL rt R X Qf pc L S n h ca sl := by
  intro p e s m args below meth c C ls H locs hl hP hS
  exact lv_iload_n C.1 C.2.1 hd hi (lget_at hl hv) (k p e s m args below meth c C ls H locs hl hP hS)
theorem J.iload (pc : Nat) {i : Nat} {v : Int32} (hd : decode cc pc = .ok (.iload i, 2)) (hv : lget L i = some (.int v)) (k : J w y cc mL rt R X Qf (pc + 2) L (.int v :: S) n h ca sl) : J w y cc mL rt R X Qf pc L S n h ca sl := by
  intro p e s m args below meth c C ls H locs hl hP hS
  exact lv_iload C.1 C.2.1 hd (lget_at hl hv) (k p e s m args below meth c C ls H locs hl hP hS)
theorem J.aload_n (pc : Nat) {i : Nat} {k4 : Fin 4} {v : Nat} (hd : decode cc pc = .ok (.aload_n k4, 1)) (hi : (k4 : Nat) = i) (hv : lget L i = some (.ref v)) (k : J w y cc mL rt R X Qf (pc + 1) L (.ref v :: S) n h ca sl) : J w y cc mL rt R X Qf pc L S n h ca sl := by
  intro p e s m args below meth c C ls H locs hl hP hS
  exact lv_aload_n C.1 C.2.1 hd hi (lget_at hl hv) (k p e s m args below meth c C ls H locs hl hP hS)
theorem J.aload (pc : Nat) {i : Nat} {v : Nat} (hd : decode cc pc = .ok (.aload i, 2)) (hv : lget L i = some (.ref v)) (k : J w y cc mL rt R X Qf (pc + 2) L (.ref v :: S) n h ca sl) : J w y cc mL rt R X Qf pc L S n h ca sl := by
  intro p e s m args below meth c C ls H locs hl hP hS
  exact lv_aload C.1 C.2.1 hd (lget_at hl hv) (k p e s m args below meth c C ls H locs hl hP hS)
theorem J.lload_n (pc : Nat) {i : Nat} {k4 : Fin 4} {v : Int64} (hd : decode cc pc = .ok (.lload_n k4, 1)) (hi : (k4 : Nat) = i) (hv : lget L i = some (.long v)) (k : J w y cc mL rt R X Qf (pc + 1) L (.long v :: S) n h ca sl) : J w y cc mL rt R X Qf pc L S n h ca sl := by
  intro p e s m args below meth c C ls H locs hl hP hS
  exact lv_lload_n C.1 C.2.1 hd hi (lget_at hl hv) (k p e s m args below meth c C ls H locs hl hP hS)
theorem J.istore_n (pc : Nat) {i : Nat} {k4 : Fin 4} {v : Int32} (hd : decode cc pc = .ok (.istore_n k4, 1)) (hi : (k4 : Nat) = i) (hn : i < mL) (k : J w y cc mL rt R X Qf (pc + 1) (lset L i (.int v)) S n h ca sl) : J w y cc mL rt R X Qf pc L (.int v :: S) n h ca sl := by
  intro p e s m args below meth c C ls H locs hl hP hS
  exact lv_istore_n C.1 C.2.1 hd hi hl hn rfl (fun ls' hl' => k p e s m args below meth c C ls' H locs (lins_has hl') hP hS)
theorem J.istore (pc : Nat) {i : Nat} {v : Int32} (hd : decode cc pc = .ok (.istore i, 2)) (hn : i < mL) (k : J w y cc mL rt R X Qf (pc + 2) (lset L i (.int v)) S n h ca sl) : J w y cc mL rt R X Qf pc L (.int v :: S) n h ca sl := by
  intro p e s m args below meth c C ls H locs hl hP hS
  exact lv_istore C.1 C.2.1 hd  hl hn rfl (fun ls' hl' => k p e s m args below meth c C ls' H locs (lins_has hl') hP hS)
theorem J.astore_n (pc : Nat) {i : Nat} {k4 : Fin 4} {v : Nat} (hd : decode cc pc = .ok (.astore_n k4, 1)) (hi : (k4 : Nat) = i) (hn : i < mL) (k : J w y cc mL rt R X Qf (pc + 1) (lset L i (.ref v)) S n h ca sl) : J w y cc mL rt R X Qf pc L (.ref v :: S) n h ca sl := by
  intro p e s m args below meth c C ls H locs hl hP hS
  exact lv_astore_n C.1 C.2.1 hd hi hl hn rfl (fun ls' hl' => k p e s m args below meth c C ls' H locs (lins_has hl') hP hS)
def lset2 (L : List (Nat × Value)) (i : Nat) (v : Value) : List (Nat × Value) :=
  lins (L.filter (fun q => !(q.1 == i) && (!(q.1 == i + 1) && !(q.1 + 1 == i && q.2.category == 2)))) i v
theorem J.lstore_n (pc : Nat) {i : Nat} {k4 : Fin 4} {v : Int64} (hd : decode cc pc = .ok (.lstore_n k4, 1)) (hi : (k4 : Nat) = i) (hn : i + 1 < mL) (k : J w y cc mL rt R X Qf (pc + 1) (lset2 L i (.long v)) S n h ca sl) : J w y cc mL rt R X Qf pc L (.long v :: S) n h ca sl := by
  intro p e s m args below meth c C ls H locs hl hP hS
  exact lv_lstore_n C.1 C.2.1 hd hi hl hn rfl (fun ls' hl' => k p e s m args below meth c C ls' H locs (lins_has hl') hP hS)
theorem J.iinc (pc : Nat) {i : Nat} {d : Int} {x : Int32} (hd : decode cc pc = .ok (.iinc i d, 3)) (v : Int32) (hx : lget L i = some (.int x)) (hv : x + Int32.ofInt d = v) (hn : i < mL) (k : J w y cc mL rt R X Qf (pc + 3) (lset L i (.int v)) S n h ca sl) : J w y cc mL rt R X Qf pc L S n h ca sl := by
  intro p e s m args below meth c C ls H locs hl hP hS
  obtain ⟨k0, hk0⟩ := List.getElem?_of_mem (lget_mem hx)
  exact lv_iinc C.1 C.2.1 hd hl hk0 hv hn rfl (fun ls' hl' => k p e s m args below meth c C ls' H locs (lins_has hl') hP hS)
theorem J.icmp_eq (pc tgt : Nat) {o : Int} {a b : Int32} (hd : decode cc pc = .ok (.if_icmp .eq o, 3)) (ht : (pc : Int) + o = (tgt : Int)) (kt : a = b → J w y cc mL rt R X Qf tgt L S n h ca sl) (kf : ¬ a = b → J w y cc mL rt R X Qf (pc + 3) L S n h ca sl) : J w y cc mL rt R X Qf pc L (.int b :: .int a :: S) n h ca sl := by
  intro p e s m args below meth c C ls H locs hl hP hS
  exact lv_icmp_eq C.1 C.2.1 hd ht (fun q => kt q p e s m args below meth c C ls H locs hl hP hS) (fun q => kf q p e s m args below meth c C ls H locs hl hP hS)
theorem J.if_eq (pc tgt : Nat) {o : Int} {a : Int32} (hd : decode cc pc = .ok (.ifCond .eq o, 3)) (ht : (pc : Int) + o = (tgt : Int)) (kt : a = 0 → J w y cc mL rt R X Qf tgt L S n h ca sl) (kf : ¬ a = 0 → J w y cc mL rt R X Qf (pc + 3) L S n h ca sl) : J w y cc mL rt R X Qf pc L (.int a :: S) n h ca sl := by
  intro p e s m args below meth c C ls H locs hl hP hS
  exact lv_if_eq C.1 C.2.1 hd ht (fun q => kt q p e s m args below meth c C ls H locs hl hP hS) (fun q => kf q p e s m args below meth c C ls H locs hl hP hS)
theorem J.icmp_ne (pc tgt : Nat) {o : Int} {a b : Int32} (hd : decode cc pc = .ok (.if_icmp .ne o, 3)) (ht : (pc : Int) + o = (tgt : Int)) (kt : ¬ a = b → J w y cc mL rt R X Qf tgt L S n h ca sl) (kf : a = b → J w y cc mL rt R X Qf (pc + 3) L S n h ca sl) : J w y cc mL rt R X Qf pc L (.int b :: .int a :: S) n h ca sl := by
  intro p e s m args below meth c C ls H locs hl hP hS
  exact lv_icmp_ne C.1 C.2.1 hd ht (fun q => kt q p e s m args below meth c C ls H locs hl hP hS) (fun q => kf q p e s m args below meth c C ls H locs hl hP hS)
theorem J.if_ne (pc tgt : Nat) {o : Int} {a : Int32} (hd : decode cc pc = .ok (.ifCond .ne o, 3)) (ht : (pc : Int) + o = (tgt : Int)) (kt : ¬ a = 0 → J w y cc mL rt R X Qf tgt L S n h ca sl) (kf : a = 0 → J w y cc mL rt R X Qf (pc + 3) L S n h ca sl) : J w y cc mL rt R X Qf pc L (.int a :: S) n h ca sl := by
  intro p e s m args below meth c C ls H locs hl hP hS
  exact lv_if_ne C.1 C.2.1 hd ht (fun q => kt q p e s m args below meth c C ls H locs hl hP hS) (fun q => kf q p e s m args below meth c C ls H locs hl hP hS)
theorem J.icmp_lt (pc tgt : Nat) {o : Int} {a b : Int32} (hd : decode cc pc = .ok (.if_icmp .lt o, 3)) (ht : (pc : Int) + o = (tgt : Int)) (kt : a < b → J w y cc mL rt R X Qf tgt L S n h ca sl) (kf : ¬ a < b → J w y cc mL rt R X Qf (pc + 3) L S n h ca sl) : J w y cc mL rt R X Qf pc L (.int b :: .int a :: S) n h ca sl := by
  intro p e s m args below meth c C ls H locs hl hP hS
  exact lv_icmp_lt C.1 C.2.1 hd ht (fun q => kt q p e s m args below meth c C ls H locs hl hP hS) (fun q => kf q p e s m args below meth c C ls H locs hl hP hS)
theorem J.if_lt (pc tgt : Nat) {o : Int} {a : Int32} (hd : decode cc pc = .ok (.ifCond .lt o, 3)) (ht : (pc : Int) + o = (tgt : Int)) (kt : a < 0 → J w y cc mL rt R X Qf tgt L S n h ca sl) (kf : ¬ a < 0 → J w y cc mL rt R X Qf (pc + 3) L S n h ca sl) : J w y cc mL rt R X Qf pc L (.int a :: S) n h ca sl := by
  intro p e s m args below meth c C ls H locs hl hP hS
  exact lv_if_lt C.1 C.2.1 hd ht (fun q => kt q p e s m args below meth c C ls H locs hl hP hS) (fun q => kf q p e s m args below meth c C ls H locs hl hP hS)
theorem J.icmp_ge (pc tgt : Nat) {o : Int} {a b : Int32} (hd : decode cc pc = .ok (.if_icmp .ge o, 3)) (ht : (pc : Int) + o = (tgt : Int)) (kt : b ≤ a → J w y cc mL rt R X Qf tgt L S n h ca sl) (kf : ¬ b ≤ a → J w y cc mL rt R X Qf (pc + 3) L S n h ca sl) : J w y cc mL rt R X Qf pc L (.int b :: .int a :: S) n h ca sl := by
  intro p e s m args below meth c C ls H locs hl hP hS
  exact lv_icmp_ge C.1 C.2.1 hd ht (fun q => kt q p e s m args below meth c C ls H locs hl hP hS) (fun q => kf q p e s m args below meth c C ls H locs hl hP hS)
theorem J.if_ge (pc tgt : Nat) {o : Int} {a : Int32} (hd : decode cc pc = .ok (.ifCond .ge o, 3)) (ht : (pc : Int) + o = (tgt : Int)) (kt : 0 ≤ a → J w y cc mL rt R X Qf tgt L S n h ca sl) (kf : ¬ 0 ≤ a → J w y cc mL rt R X Qf (pc + 3) L S n h ca sl) : J w y cc mL rt R X Qf pc L (.int a :: S) n h ca sl := by
  intro p e s m args below meth c C ls H locs hl hP hS
  exact lv_if_ge C.1 C.2.1 hd ht (fun q => kt q p e s m args below meth c C ls H locs hl hP hS) (fun q => kf q p e s m args below meth c C ls H locs hl hP hS)
theorem J.icmp_gt (pc tgt : Nat) {o : Int} {a b : Int32} (hd : decode cc pc = .ok (.if_icmp .gt o, 3)) (ht : (pc : Int) + o = (tgt : Int)) (kt : b < a → J w y cc mL rt R X Qf tgt L S n h ca sl) (kf : ¬ b < a → J w y cc mL rt R X Qf (pc + 3) L S n h ca sl) : J w y cc mL rt R X Qf pc L (.int b :: .int a :: S) n h ca sl := by
  intro p e s m args below meth c C ls H locs hl hP hS
  exact lv_icmp_gt C.1 C.2.1 hd ht (fun q => kt q p e s m args below meth c C ls H locs hl hP hS) (fun q => kf q p e s m args below meth c C ls H locs hl hP hS)
theorem J.if_gt (pc tgt : Nat) {o : Int} {a : Int32} (hd : decode cc pc = .ok (.ifCond .gt o, 3)) (ht : (pc : Int) + o = (tgt : Int)) (kt : 0 < a → J w y cc mL rt R X Qf tgt L S n h ca sl) (kf : ¬ 0 < a → J w y cc mL rt R X Qf (pc + 3) L S n h ca sl) : J w y cc mL rt R X Qf pc L (.int a :: S) n h ca sl := by
  intro p e s m args below meth c C ls H locs hl hP hS
  exact lv_if_gt C.1 C.2.1 hd ht (fun q => kt q p e s m args below meth c C ls H locs hl hP hS) (fun q => kf q p e s m args below meth c C ls H locs hl hP hS)
theorem J.icmp_le (pc tgt : Nat) {o : Int} {a b : Int32} (hd : decode cc pc = .ok (.if_icmp .le o, 3)) (ht : (pc : Int) + o = (tgt : Int)) (kt : a ≤ b → J w y cc mL rt R X Qf tgt L S n h ca sl) (kf : ¬ a ≤ b → J w y cc mL rt R X Qf (pc + 3) L S n h ca sl) : J w y cc mL rt R X Qf pc L (.int b :: .int a :: S) n h ca sl := by
  intro p e s m args below meth c C ls H locs hl hP hS
  exact lv_icmp_le C.1 C.2.1 hd ht (fun q => kt q p e s m args below meth c C ls H locs hl hP hS) (fun q => kf q p e s m args below meth c C ls H locs hl hP hS)
theorem J.if_le (pc tgt : Nat) {o : Int} {a : Int32} (hd : decode cc pc = .ok (.ifCond .le o, 3)) (ht : (pc : Int) + o = (tgt : Int)) (kt : a ≤ 0 → J w y cc mL rt R X Qf tgt L S n h ca sl) (kf : ¬ a ≤ 0 → J w y cc mL rt R X Qf (pc + 3) L S n h ca sl) : J w y cc mL rt R X Qf pc L (.int a :: S) n h ca sl := by
  intro p e s m args below meth c C ls H locs hl hP hS
  exact lv_if_le C.1 C.2.1 hd ht (fun q => kt q p e s m args below meth c C ls H locs hl hP hS) (fun q => kf q p e s m args below meth c C ls H locs hl hP hS)
theorem J.goto (pc tgt : Nat) {o : Int} (hd : decode cc pc = .ok (.goto o, 3)) (ht : (pc : Int) + o = (tgt : Int)) (k : J w y cc mL rt R X Qf tgt L S n h ca sl) : J w y cc mL rt R X Qf pc L S n h ca sl := by
  intro p e s m args below meth c C ls H locs hl hP hS
  exact lv_goto C.1 C.2.1 hd ht (k p e s m args below meth c C ls H locs hl hP hS)
theorem J.tableIn (pc tgt : Nat) {d lo hi o : Int} {os : Array Int} {ln : Nat} {a : Int32} (hd : decode cc pc = .ok (.tableswitch d lo hi os, ln)) (h1 : ¬ a.toInt < lo) (h2 : ¬ hi < a.toInt) (ho : os[(a.toInt - lo).toNat]? = some o) (ht : (pc : Int) + o = (tgt : Int)) (k : J w y cc mL rt R X Qf tgt L S n h ca sl) : J w y cc mL rt R X Qf pc L (.int a :: S) n h ca sl := by
  intro p e s m args below meth c C ls H locs hl hP hS
  exact lv_tableIn C.1 C.2.1 hd h1 h2 ho ht (k p e s m args below meth c C ls H locs hl hP hS)
theorem J.tableOut (pc tgt : Nat) {d lo hi : Int} {os : Array Int} {ln : Nat} {a : Int32} (hd : decode cc pc = .ok (.tableswitch d lo hi os, ln)) (h1 : a.toInt < lo ∨ hi < a.toInt) (ht : (pc : Int) + d = (tgt : Int)) (k : J w y cc mL rt R X Qf tgt L S n h ca sl) : J w y cc mL rt R X Qf pc L (.int a :: S) n h ca sl := by
  intro p e s m args below meth c C ls H locs hl hP hS
  exact lv_tableOut C.1 C.2.1 hd h1 ht (k p e s m args below meth c C ls H locs hl hP hS)
theorem J.lookup (pc tgt : Nat) {d o : Int} {ps : Array (Int × Int)} {ln : Nat} {a : Int32} (hd : decode cc pc = .ok (.lookupswitch d ps, ln)) (hp : (ps.toList.zip (ps.toList.drop 1)).all (fun (a, next) => a.1 < next.1) = true) (ho : Op.lookupswitch.offset ps.toList d a.toInt = o) (ht : (pc : Int) + o = (tgt : Int)) (k : J w y cc mL rt R X Qf tgt L S n h ca sl) : J w y cc mL rt R X Qf pc L (.int a :: S) n h ca sl := by
  intro p e s m args below meth c C ls H locs hl hP hS
  exact lv_lookup C.1 C.2.1 hd hp ho ht (k p e s m args below meth c C ls H locs hl hP hS)
theorem J.locals {L' : List (Nat × Value)} {pc : Nat} (hs : ∀ q ∈ L', q ∈ L) (k : J w y cc mL rt R X Qf pc L' S n h ca sl) : J w y cc mL rt R X Qf pc L S n h ca sl := by
  intro p e s m args below meth c C ls H locs hl hP hS
  exact k p e s m args below meth c C ls H locs ⟨hl.1, hl.2.1, fun q hq => hl.2.2 q (hs q hq)⟩ hP hS
theorem J.drop (i : Nat) {pc : Nat} (k : J w y cc mL rt R X Qf pc (ldrop L i) S n h ca sl) : J w y cc mL rt R X Qf pc L S n h ca sl := J.locals (fun q hq => (List.mem_filter.mp hq).1) k
theorem J.heap {h' : Nat → va_E} {pc : Nat} (he : h = h') (k : J w y cc mL rt R X Qf pc L S n h' ca sl) : J w y cc mL rt R X Qf pc L S n h ca sl := by
  subst he
  exact k
theorem J.top {pc : Nat} {a b : Int32} (he : a = b) (k : J w y cc mL rt R X Qf pc L (.int b :: S) n h ca sl) : J w y cc mL rt R X Qf pc L (.int a :: S) n h ca sl := by
  subst he
  exact k
theorem J.widen {pc k1 k2 : Nat} (h1 : ca ≤ k1) (h2 : sl ≤ k2) (k : J w y cc mL rt R X Qf pc L S n h k1 k2) : J w y cc mL rt R X Qf pc L S n h ca sl := by
  intro p e s m args below meth c C ls H locs hl hP hS
  exact W.widen h1 h2 (k p e s m args below meth c C ls H locs hl hP hS)
end JR
section JE
variable {w : Wd} {y : MethodName} {cc : ByteArray} {mL : Nat} {R : Room} {X : Array Value → State → Prop} {L : List (Nat × Value)} {n : Nat} {h : Nat → va_E} {mc ms : Nat} {post : Po}
theorem QJ.end {s t : State} {H : Heap} {locs : List Loc} {args : Array Value} {r : Option Value} (hP : PP w n h H) (hS : va_S (fun q : Nat => wN w ≤ q) s.heap H locs) (hN : wN w ≤ s.heap.size) (hp : post r h) (ht : t.heap = H) : QJ w n post args s (.returned r) t :=
  ⟨r, h, rfl, hp, by rw [ht]; exact hP, by rw [ht]; exact hS.1, fun q hq => by rw [ht]; exact hS.2.1 q (Nat.lt_of_lt_of_le hq hN) (Nat.not_le.mpr hq)⟩
theorem J.iret (pc : Nat) {v : Int32} (hd : decode cc pc = .ok (.ireturn, 1)) (hp : post (some (.int v)) h) : J w y cc mL (some .int) R X (ZJ w n mc ms post) pc L [.int v] n h mc ms := by
  intro p e s m args below meth c C ls H locs hl hP hS
  exact W.iret C.1 C.2.1 C.2.2.2.1 (fun t ht _ => QJ.end hP hS C.2.2.2.2.2.2.2.2.2.1 hp ht) hS.2.2 hd C.2.2.2.2.1
theorem J.zret (pc : Nat) {v : Int32} (hd : decode cc pc = .ok (.ireturn, 1)) (hb : v = 0 ∨ v = 1) (hp : post (some (.int v)) h) : J w y cc mL (some .boolean) R X (ZJ w n mc ms post) pc L [.int v] n h mc ms := by
  intro p e s m args below meth c C ls H locs hl hP hS
  exact W.zret C.1 C.2.1 C.2.2.2.1 (by rcases hb with rfl | rfl <;> rfl) (fun t ht _ => QJ.end hP hS C.2.2.2.2.2.2.2.2.2.1 hp ht) hS.2.2 hd C.2.2.2.2.1
theorem J.vret (pc : Nat) (hd : decode cc pc = .ok (.return_, 1)) (hp : post none h) : J w y cc mL none R X (ZJ w n mc ms post) pc L [] n h mc ms := by
  intro p e s m args below meth c C ls H locs hl hP hS
  exact W.vret C.1 C.2.1 C.2.2.2.1 (fun t ht _ => QJ.end hP hS C.2.2.2.2.2.2.2.2.2.1 hp ht) hS.2.2 hd C.2.2.2.2.1
end JE

