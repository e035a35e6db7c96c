/-! ===== part 50: what is made ===== -/
abbrev rk (f l c s : Nat) : Room := { frames := f, cells := c, slots := s, locals := l }
def w0 (s : Shp) : Nat → Int32 := match s with
  | .inl (c, _) => fun i => if c = 5 ∧ i = 2 then nI 10 else if (c = 6 ∨ c = 8) ∧ i = 5 then -1 else 0
  | .inr (.inl n) => fun i => if n = 3840 ∧ i = 2 then nI 10 else 0
  | .inr (.inr _) => fun _ => 0
def v0 : Vm2 := fun k => w0 (lay k)
def e0 (w : Wd) (k : Nat) : va_E := mkc w (lay k) (w0 (lay k))
theorem hv_v0 (w : Wd) (k : Nat) : hv w v0 k = e0 w k := rfl
theorem w0_i {N : Nat} (hN : N ≠ 3840) : w0 (.inr (.inl N)) = fun _ => 0 := by
  funext i
  show (if N = 3840 ∧ i = 2 then nI 10 else 0) = (0 : Int32)
  rw [if_neg (fun z => hN z.1)]
theorem e0_i {w : Wd} {k N : Nat} (h : lay k = .inr (.inl N)) (hN : N ≠ 3840) : .inl (wI w, N, .inl (fun _ => 0)) = e0 w k := by
  unfold e0
  rw [h, w0_i hN]
  rfl
theorem e0_z {w : Wd} {k N : Nat} (h : lay k = .inr (.inr (.inl N))) : .inl (wZ w, N, .inl (fun _ => 0)) = e0 w k := by
  unfold e0
  rw [h]
  rfl
/-- a constructor of the object at q: it makes the cells q + 1 .. m, all that was before stays -/
def CN (w : Wd) (y : MethodName) (cc : ByteArray) (mL : Nat) (R : Room) (q m : Nat) (h : Nat → va_E) : Prop :=
  Ct w y cc mL none R [.ref (wN w + q)] (q + 1) h m (fun r h' => r = none ∧ (∀ k, k < q → h' k = h k) ∧ ∀ k, q ≤ k → k < m → h' k = e0 w k)
section JN
variable {w : Wd} {y : MethodName} {cc : ByteArray} {mL : Nat} {rt : Option FieldType} {R : Room} {X : Array Value → State → Prop} {Qf : List Frame → Array Value → State → State → Prop} {L : List (Nat × Value)} {S : List Value} {n n' : Nat} {h h' : Nat → va_E} {ca sl : Nat}
theorem J.nn {pc : Nat} (e : n = n') (k : J w y cc mL rt R X Qf pc L S n' h ca sl) : J w y cc mL rt R X Qf pc L S n h ca sl := by
  subst e
  exact k
theorem J.world {pc : Nat} (e : ∀ k, k < n → h k = h' k) (k : J w y cc mL rt R X Qf pc L S n h' ca sl) : J w y cc mL rt R X Qf pc L S n h ca sl := by
  intro p e9 s m args below meth c C ls H locs hl hP hS
  refine k p e9 s m args below meth c C ls H locs hl ⟨hP.1, ?_⟩ hS
  have hw : wsn w n h = wsn w n h' := by
    unfold wsn
    refine List.map_congr_left (fun q hq => ?_)
    rw [e q (List.mem_range.mp hq)]
  rw [← hw]
  exact hP.2
end JN
abbrev nl0 : List Value := [.null, .null, .int 0]
theorem df0 : ∀ j, j < 3 → defaultValue (tyX0 j) = vp_V nl0 j := by
  intro j hj
  match j, hj with
  | 0, _ => rfl
  | 1, _ => rfl
  | 2, _ => rfl
  | k + 3, hk => exact absurd hk (by omega)
abbrev nl1 : List Value := [.null, .null, .null, .null]
theorem df1 : ∀ j, j < 4 → defaultValue (tyX1 j) = vp_V nl1 j := by
  intro j hj
  match j, hj with
  | 0, _ => rfl
  | 1, _ => rfl
  | 2, _ => rfl
  | 3, _ => rfl
  | k + 4, hk => exact absurd hk (by omega)
abbrev nl2 : List Value := [.int 0]
theorem df2 : ∀ j, j < 1 → defaultValue (tyX2 j) = vp_V nl2 j := by
  intro j hj
  match j, hj with
  | 0, _ => rfl
  | k + 1, hk => exact absurd hk (by omega)
abbrev nl3 : List Value := [.null, .int 0]
theorem df3 : ∀ j, j < 2 → defaultValue (tyX3 j) = vp_V nl3 j := by
  intro j hj
  match j, hj with
  | 0, _ => rfl
  | 1, _ => rfl
  | k + 2, hk => exact absurd hk (by omega)
abbrev nl4 : List Value := [.null, .int 0, .int 0]
theorem df4 : ∀ j, j < 3 → defaultValue (tyX4 j) = vp_V nl4 j := by
  intro j hj
  match j, hj with
  | 0, _ => rfl
  | 1, _ => rfl
  | 2, _ => rfl
  | k + 3, hk => exact absurd hk (by omega)
abbrev nl5 : List Value := [.int 0, .int 0, .int 0, .int 0, .int 0, .int 0, .int 0, .int 0, .null, .null, .null, .null, .null, .null, .null]
theorem df5 : ∀ j, j < 15 → defaultValue (tyX5 j) = vp_V nl5 j := by
  intro j hj
  match j, hj with
  | 0, _ => rfl
  | 1, _ => rfl
  | 2, _ => rfl
  | 3, _ => rfl
  | 4, _ => rfl
  | 5, _ => rfl
  | 6, _ => rfl
  | 7, _ => rfl
  | 8, _ => rfl
  | 9, _ => rfl
  | 10, _ => rfl
  | 11, _ => rfl
  | 12, _ => rfl
  | 13, _ => rfl
  | 14, _ => rfl
  | k + 15, hk => exact absurd hk (by omega)
abbrev nl6 : List Value := [.null, .int 0, .int 0, .int 0, .int 0, .int 0, .int 0, .int 0]
theorem df6 : ∀ j, j < 8 → defaultValue (tyX6 j) = vp_V nl6 j := by
  intro j hj
  match j, hj with
  | 0, _ => rfl
  | 1, _ => rfl
  | 2, _ => rfl
  | 3, _ => rfl
  | 4, _ => rfl
  | 5, _ => rfl
  | 6, _ => rfl
  | 7, _ => rfl
  | k + 8, hk => exact absurd hk (by omega)
abbrev nl7 : List Value := [.null, .null, .null, .null, .null, .null, .null, .null, .null, .null]
theorem df7 : ∀ j, j < 10 → defaultValue (tyX7 j) = vp_V nl7 j := by
  intro j hj
  match j, hj with
  | 0, _ => rfl
  | 1, _ => rfl
  | 2, _ => rfl
  | 3, _ => rfl
  | 4, _ => rfl
  | 5, _ => rfl
  | 6, _ => rfl
  | 7, _ => rfl
  | 8, _ => rfl
  | 9, _ => rfl
  | k + 10, hk => exact absurd hk (by omega)
abbrev nl8 : List Value := [.null, .int 0, .int 0, .null, .int 0, .int 0, .null, .null, .int 0, .null, .null, .int 0, .int 0, .int 0, .int 0, .int 0, .int 0]
theorem df8 : ∀ j, j < 17 → defaultValue (tyX8 j) = vp_V nl8 j := by
  intro j hj
  match j, hj with
  | 0, _ => rfl
  | 1, _ => rfl
  | 2, _ => rfl
  | 3, _ => rfl
  | 4, _ => rfl
  | 5, _ => rfl
  | 6, _ => rfl
  | 7, _ => rfl
  | 8, _ => rfl
  | 9, _ => rfl
  | 10, _ => rfl
  | 11, _ => rfl
  | 12, _ => rfl
  | 13, _ => rfl
  | 14, _ => rfl
  | 15, _ => rfl
  | 16, _ => rfl
  | k + 17, hk => exact absurd hk (by omega)
set_option maxHeartbeats 1000000 in
set_option maxRecDepth 100000 in
theorem k_X5 (w : Wd) (h : Nat → va_E) {q : Nat} (hq : IsS q) (h0 : h (q) = .inr (5, nl5)) : CN w yX5_init cX5_init 1 (rk 1 20 7 164) (q) (q + 8) h := by
  refine Ct.of (by decide) (Nat.le_of_ble_eq_true rfl) rfl ?_
  refine J.aload_n 0 dX5_init_0 rfl rfl ?_
  refine J.objInit 1 dX5_init_1 ml_RX5_3 im_obj co_obj (by decide) (Nat.le_of_ble_eq_true rfl) ?_
  refine J.aload_n 4 dX5_init_4 rfl rfl ?_
  refine J.bipush 5 (nI 10) dX5_init_5 (by decide +kernel) ?_
  obtain ⟨g1, e1⟩ : ∃ H : Nat → va_E, H = va_up h (q) (.inr (5, [.int 0, .int 0, .int (nI 10), .int 0, .int 0, .int 0, .int 0, .int 0, .null, .null, .null, .null, .null, .null, .null])) := ⟨_, rfl⟩
  refine J.putf 7 dX5_init_7 fl_RX5_9 fp_5_2 (by omega) h0 (Nat.le_of_ble_eq_true rfl) rfl rfl (J.heap e1.symm ?_)
  have z1 : g1 (q) = .inr (5, [.int 0, .int 0, .int (nI 10), .int 0, .int 0, .int 0, .int 0, .int 0, .null, .null, .null, .null, .null, .null, .null]) := by rw [e1]; exact va_up_self _ _ _
  have l1 : ∀ k, k < q → g1 k = h k := fun k hk => by rw [e1]; exact (va_up_ne _ _ (by omega)).trans ((fun k _ => rfl) k hk)
  have i1 : ∀ k, q < k → k < q + 1 → g1 k = e0 w k := fun k h1 h2 => by rw [e1, va_up_ne _ _ (by omega)]; exact (fun k h1 h2 => absurd h1 (by omega)) k h1 (by omega)
  refine J.aload_n 10 dX5_init_10 rfl rfl ?_
  refine J.bipush 11 (nI 8) dX5_init_11 (by decide +kernel) ?_
  obtain ⟨g2, e2⟩ : ∃ H : Nat → va_E, H = va_up g1 (q + 1) (.inl (wI w, 8, .inl (fun _ => 0))) := ⟨_, rfl⟩
  refine J.newa 13 dX5_init_13 ac_int (nI_pos (by decide)) (nI_clamp (by decide)) (by decide) (by decide) (by decide) (J.heap e2.symm ?_)
  have z2 : g2 (q) = .inr (5, [.int 0, .int 0, .int (nI 10), .int 0, .int 0, .int 0, .int 0, .int 0, .null, .null, .null, .null, .null, .null, .null]) := by rw [e2, va_up_ne _ _ (by omega)]; exact z1
  have l2 : ∀ k, k < q → g2 k = h k := fun k hk => by rw [e2]; exact (va_up_ne _ _ (by omega)).trans (l1 k hk)
  have i2 : ∀ k, q < k → k < q + 2 → g2 k = e0 w k := fun k h1 h2 => by
    by_cases hk : k = q + 1
    · subst hk; rw [e2, va_up_self]; exact e0_i (hq.a8.2.1) (by decide)
    · rw [e2, va_up_ne _ _ hk]; exact i1 k h1 (by omega)
  obtain ⟨g3, e3⟩ : ∃ H : Nat → va_E, H = va_up g2 (q) (.inr (5, [.int 0, .int 0, .int (nI 10), .int 0, .int 0, .int 0, .int 0, .int 0, .ref (wN w + (q + 1)), .null, .null, .null, .null, .null, .null])) := ⟨_, rfl⟩
  refine J.putF 15 dX5_init_15 ff_RX5_15 fp_5_8 rfl (by omega) z2 (Nat.le_of_ble_eq_true rfl) rfl rfl (J.heap e3.symm ?_)
  have z3 : g3 (q) = .inr (5, [.int 0, .int 0, .int (nI 10), .int 0, .int 0, .int 0, .int 0, .int 0, .ref (wN w + (q + 1)), .null, .null, .null, .null, .null, .null]) := by rw [e3]; exact va_up_self _ _ _
  have l3 : ∀ k, k < q → g3 k = h k := fun k hk => by rw [e3]; exact (va_up_ne _ _ (by omega)).trans (l2 k hk)
  have i3 : ∀ k, q < k → k < q + 2 → g3 k = e0 w k := fun k h1 h2 => by rw [e3, va_up_ne _ _ (by omega)]; exact i2 k h1 (by omega)
  refine J.aload_n 18 dX5_init_18 rfl rfl ?_
  refine J.bipush 19 (nI 8) dX5_init_19 (by decide +kernel) ?_
  obtain ⟨g4, e4⟩ : ∃ H : Nat → va_E, H = va_up g3 (q + 2) (.inl (wI w, 8, .inl (fun _ => 0))) := ⟨_, rfl⟩
  refine J.newa 21 dX5_init_21 ac_int (nI_pos (by decide)) (nI_clamp (by decide)) (by decide) (by decide) (by decide) (J.heap e4.symm ?_)
  have z4 : g4 (q) = .inr (5, [.int 0, .int 0, .int (nI 10), .int 0, .int 0, .int 0, .int 0, .int 0, .ref (wN w + (q + 1)), .null, .null, .null, .null, .null, .null]) := by rw [e4, va_up_ne _ _ (by omega)]; exact z3
  have l4 : ∀ k, k < q → g4 k = h k := fun k hk => by rw [e4]; exact (va_up_ne _ _ (by omega)).trans (l3 k hk)
  have i4 : ∀ k, q < k → k < q + 3 → g4 k = e0 w k := fun k h1 h2 => by
    by_cases hk : k = q + 2
    · subst hk; rw [e4, va_up_self]; exact e0_i (hq.a9.2.1) (by decide)
    · rw [e4, va_up_ne _ _ hk]; exact i3 k h1 (by omega)
  obtain ⟨g5, e5⟩ : ∃ H : Nat → va_E, H = va_up g4 (q) (.inr (5, [.int 0, .int 0, .int (nI 10), .int 0, .int 0, .int 0, .int 0, .int 0, .ref (wN w + (q + 1)), .ref (wN w + (q + 2)), .null, .null, .null, .null, .null])) := ⟨_, rfl⟩
  refine J.putF 23 dX5_init_23 ff_RX5_19 fp_5_9 rfl (by omega) z4 (Nat.le_of_ble_eq_true rfl) rfl rfl (J.heap e5.symm ?_)
  have z5 : g5 (q) = .inr (5, [.int 0, .int 0, .int (nI 10), .int 0, .int 0, .int 0, .int 0, .int 0, .ref (wN w + (q + 1)), .ref (wN w + (q + 2)), .null, .null, .null, .null, .null]) := by rw [e5]; exact va_up_self _ _ _
  have l5 : ∀ k, k < q → g5 k = h k := fun k hk => by rw [e5]; exact (va_up_ne _ _ (by omega)).trans (l4 k hk)
  have i5 : ∀ k, q < k → k < q + 3 → g5 k = e0 w k := fun k h1 h2 => by rw [e5, va_up_ne _ _ (by omega)]; exact i4 k h1 (by omega)
  refine J.aload_n 26 dX5_init_26 rfl rfl ?_
  refine J.bipush 27 (nI 8) dX5_init_27 (by decide +kernel) ?_
  obtain ⟨g6, e6⟩ : ∃ H : Nat → va_E, H = va_up g5 (q + 3) (.inl (wI w, 8, .inl (fun _ => 0))) := ⟨_, rfl⟩
  refine J.newa 29 dX5_init_29 ac_int (nI_pos (by decide)) (nI_clamp (by decide)) (by decide) (by decide) (by decide) (J.heap e6.symm ?_)
  have z6 : g6 (q) = .inr (5, [.int 0, .int 0, .int (nI 10), .int 0, .int 0, .int 0, .int 0, .int 0, .ref (wN w + (q + 1)), .ref (wN w + (q + 2)), .null, .null, .null, .null, .null]) := by rw [e6, va_up_ne _ _ (by omega)]; exact z5
  have l6 : ∀ k, k < q → g6 k = h k := fun k hk => by rw [e6]; exact (va_up_ne _ _ (by omega)).trans (l5 k hk)
  have i6 : ∀ k, q < k → k < q + 4 → g6 k = e0 w k := fun k h1 h2 => by
    by_cases hk : k = q + 3
    · subst hk; rw [e6, va_up_self]; exact e0_i (hq.a10.2.1) (by decide)
    · rw [e6, va_up_ne _ _ hk]; exact i5 k h1 (by omega)
  obtain ⟨g7, e7⟩ : ∃ H : Nat → va_E, H = va_up g6 (q) (.inr (5, [.int 0, .int 0, .int (nI 10), .int 0, .int 0, .int 0, .int 0, .int 0, .ref (wN w + (q + 1)), .ref (wN w + (q + 2)), .ref (wN w + (q + 3)), .null, .null, .null, .null])) := ⟨_, rfl⟩
  refine J.putF 31 dX5_init_31 ff_RX5_22 fp_5_10 rfl (by omega) z6 (Nat.le_of_ble_eq_true rfl) rfl rfl (J.heap e7.symm ?_)
  have z7 : g7 (q) = .inr (5, [.int 0, .int 0, .int (nI 10), .int 0, .int 0, .int 0, .int 0, .int 0, .ref (wN w + (q + 1)), .ref (wN w + (q + 2)), .ref (wN w + (q + 3)), .null, .null, .null, .null]) := by rw [e7]; exact va_up_self _ _ _
  have l7 : ∀ k, k < q → g7 k = h k := fun k hk => by rw [e7]; exact (va_up_ne _ _ (by omega)).trans (l6 k hk)
  have i7 : ∀ k, q < k → k < q + 4 → g7 k = e0 w k := fun k h1 h2 => by rw [e7, va_up_ne _ _ (by omega)]; exact i6 k h1 (by omega)
  refine J.aload_n 34 dX5_init_34 rfl rfl ?_
  refine J.bipush 35 (nI 64) dX5_init_35 (by decide +kernel) ?_
  obtain ⟨g8, e8⟩ : ∃ H : Nat → va_E, H = va_up g7 (q + 4) (.inl (wI w, 64, .inl (fun _ => 0))) := ⟨_, rfl⟩
  refine J.newa 37 dX5_init_37 ac_int (nI_pos (by decide)) (nI_clamp (by decide)) (by decide) (by decide) (by decide) (J.heap e8.symm ?_)
  have z8 : g8 (q) = .inr (5, [.int 0, .int 0, .int (nI 10), .int 0, .int 0, .int 0, .int 0, .int 0, .ref (wN w + (q + 1)), .ref (wN w + (q + 2)), .ref (wN w + (q + 3)), .null, .null, .null, .null]) := by rw [e8, va_up_ne _ _ (by omega)]; exact z7
  have l8 : ∀ k, k < q → g8 k = h k := fun k hk => by rw [e8]; exact (va_up_ne _ _ (by omega)).trans (l7 k hk)
  have i8 : ∀ k, q < k → k < q + 5 → g8 k = e0 w k := fun k h1 h2 => by
    by_cases hk : k = q + 4
    · subst hk; rw [e8, va_up_self]; exact e0_i (hq.a11.2.1) (by decide)
    · rw [e8, va_up_ne _ _ hk]; exact i7 k h1 (by omega)
  obtain ⟨g9, e9⟩ : ∃ H : Nat → va_E, H = va_up g8 (q) (.inr (5, [.int 0, .int 0, .int (nI 10), .int 0, .int 0, .int 0, .int 0, .int 0, .ref (wN w + (q + 1)), .ref (wN w + (q + 2)), .ref (wN w + (q + 3)), .ref (wN w + (q + 4)), .null, .null, .null])) := ⟨_, rfl⟩
  refine J.putF 39 dX5_init_39 ff_RX5_25 fp_5_11 rfl (by omega) z8 (Nat.le_of_ble_eq_true rfl) rfl rfl (J.heap e9.symm ?_)
  have z9 : g9 (q) = .inr (5, [.int 0, .int 0, .int (nI 10), .int 0, .int 0, .int 0, .int 0, .int 0, .ref (wN w + (q + 1)), .ref (wN w + (q + 2)), .ref (wN w + (q + 3)), .ref (wN w + (q + 4)), .null, .null, .null]) := by rw [e9]; exact va_up_self _ _ _
  have l9 : ∀ k, k < q → g9 k = h k := fun k hk => by rw [e9]; exact (va_up_ne _ _ (by omega)).trans (l8 k hk)
  have i9 : ∀ k, q < k → k < q + 5 → g9 k = e0 w k := fun k h1 h2 => by rw [e9, va_up_ne _ _ (by omega)]; exact i8 k h1 (by omega)
  refine J.aload_n 42 dX5_init_42 rfl rfl ?_
  refine J.bipush 43 (nI 64) dX5_init_43 (by decide +kernel) ?_
  obtain ⟨g10, e10⟩ : ∃ H : Nat → va_E, H = va_up g9 (q + 5) (.inl (wI w, 64, .inl (fun _ => 0))) := ⟨_, rfl⟩
  refine J.newa 45 dX5_init_45 ac_int (nI_pos (by decide)) (nI_clamp (by decide)) (by decide) (by decide) (by decide) (J.heap e10.symm ?_)
  have z10 : g10 (q) = .inr (5, [.int 0, .int 0, .int (nI 10), .int 0, .int 0, .int 0, .int 0, .int 0, .ref (wN w + (q + 1)), .ref (wN w + (q + 2)), .ref (wN w + (q + 3)), .ref (wN w + (q + 4)), .null, .null, .null]) := by rw [e10, va_up_ne _ _ (by omega)]; exact z9
  have l10 : ∀ k, k < q → g10 k = h k := fun k hk => by rw [e10]; exact (va_up_ne _ _ (by omega)).trans (l9 k hk)
  have i10 : ∀ k, q < k → k < q + 6 → g10 k = e0 w k := fun k h1 h2 => by
    by_cases hk : k = q + 5
    · subst hk; rw [e10, va_up_self]; exact e0_i (hq.a12.2.1) (by decide)
    · rw [e10, va_up_ne _ _ hk]; exact i9 k h1 (by omega)
  obtain ⟨g11, e11⟩ : ∃ H : Nat → va_E, H = va_up g10 (q) (.inr (5, [.int 0, .int 0, .int (nI 10), .int 0, .int 0, .int 0, .int 0, .int 0, .ref (wN w + (q + 1)), .ref (wN w + (q + 2)), .ref (wN w + (q + 3)), .ref (wN w + (q + 4)), .ref (wN w + (q + 5)), .null, .null])) := ⟨_, rfl⟩
  refine J.putF 47 dX5_init_47 ff_RX5_28 fp_5_12 rfl (by omega) z10 (Nat.le_of_ble_eq_true rfl) rfl rfl (J.heap e11.symm ?_)
  have z11 : g11 (q) = .inr (5, [.int 0, .int 0, .int (nI 10), .int 0, .int 0, .int 0, .int 0, .int 0, .ref (wN w + (q + 1)), .ref (wN w + (q + 2)), .ref (wN w + (q + 3)), .ref (wN w + (q + 4)), .ref (wN w + (q + 5)), .null, .null]) := by rw [e11]; exact va_up_self _ _ _
  have l11 : ∀ k, k < q → g11 k = h k := fun k hk => by rw [e11]; exact (va_up_ne _ _ (by omega)).trans (l10 k hk)
  have i11 : ∀ k, q < k → k < q + 6 → g11 k = e0 w k := fun k h1 h2 => by rw [e11, va_up_ne _ _ (by omega)]; exact i10 k h1 (by omega)
  refine J.aload_n 50 dX5_init_50 rfl rfl ?_
  refine J.bipush 51 (nI 6) dX5_init_51 (by decide +kernel) ?_
  obtain ⟨g12, e12⟩ : ∃ H : Nat → va_E, H = va_up g11 (q + 6) (.inl (wI w, 6, .inl (fun _ => 0))) := ⟨_, rfl⟩
  refine J.newa 53 dX5_init_53 ac_int (nI_pos (by decide)) (nI_clamp (by decide)) (by decide) (by decide) (by decide) (J.heap e12.symm ?_)
  have z12 : g12 (q) = .inr (5, [.int 0, .int 0, .int (nI 10), .int 0, .int 0, .int 0, .int 0, .int 0, .ref (wN w + (q + 1)), .ref (wN w + (q + 2)), .ref (wN w + (q + 3)), .ref (wN w + (q + 4)), .ref (wN w + (q + 5)), .null, .null]) := by rw [e12, va_up_ne _ _ (by omega)]; exact z11
  have l12 : ∀ k, k < q → g12 k = h k := fun k hk => by rw [e12]; exact (va_up_ne _ _ (by omega)).trans (l11 k hk)
  have i12 : ∀ k, q < k → k < q + 7 → g12 k = e0 w k := fun k h1 h2 => by
    by_cases hk : k = q + 6
    · subst hk; rw [e12, va_up_self]; exact e0_i (hq.a13.2.1) (by decide)
    · rw [e12, va_up_ne _ _ hk]; exact i11 k h1 (by omega)
  obtain ⟨g13, e13⟩ : ∃ H : Nat → va_E, H = va_up g12 (q) (.inr (5, [.int 0, .int 0, .int (nI 10), .int 0, .int 0, .int 0, .int 0, .int 0, .ref (wN w + (q + 1)), .ref (wN w + (q + 2)), .ref (wN w + (q + 3)), .ref (wN w + (q + 4)), .ref (wN w + (q + 5)), .ref (wN w + (q + 6)), .null])) := ⟨_, rfl⟩
  refine J.putF 55 dX5_init_55 ff_RX5_31 fp_5_13 rfl (by omega) z12 (Nat.le_of_ble_eq_true rfl) rfl rfl (J.heap e13.symm ?_)
  have z13 : g13 (q) = .inr (5, [.int 0, .int 0, .int (nI 10), .int 0, .int 0, .int 0, .int 0, .int 0, .ref (wN w + (q + 1)), .ref (wN w + (q + 2)), .ref (wN w + (q + 3)), .ref (wN w + (q + 4)), .ref (wN w + (q + 5)), .ref (wN w + (q + 6)), .null]) := by rw [e13]; exact va_up_self _ _ _
  have l13 : ∀ k, k < q → g13 k = h k := fun k hk => by rw [e13]; exact (va_up_ne _ _ (by omega)).trans (l12 k hk)
  have i13 : ∀ k, q < k → k < q + 7 → g13 k = e0 w k := fun k h1 h2 => by rw [e13, va_up_ne _ _ (by omega)]; exact i12 k h1 (by omega)
  refine J.aload_n 58 dX5_init_58 rfl rfl ?_
  refine J.bipush 59 (nI 6) dX5_init_59 (by decide +kernel) ?_
  obtain ⟨g14, e14⟩ : ∃ H : Nat → va_E, H = va_up g13 (q + 7) (.inl (wI w, 6, .inl (fun _ => 0))) := ⟨_, rfl⟩
  refine J.newa 61 dX5_init_61 ac_int (nI_pos (by decide)) (nI_clamp (by decide)) (by decide) (by decide) (by decide) (J.heap e14.symm ?_)
  have z14 : g14 (q) = .inr (5, [.int 0, .int 0, .int (nI 10), .int 0, .int 0, .int 0, .int 0, .int 0, .ref (wN w + (q + 1)), .ref (wN w + (q + 2)), .ref (wN w + (q + 3)), .ref (wN w + (q + 4)), .ref (wN w + (q + 5)), .ref (wN w + (q + 6)), .null]) := by rw [e14, va_up_ne _ _ (by omega)]; exact z13
  have l14 : ∀ k, k < q → g14 k = h k := fun k hk => by rw [e14]; exact (va_up_ne _ _ (by omega)).trans (l13 k hk)
  have i14 : ∀ k, q < k → k < q + 8 → g14 k = e0 w k := fun k h1 h2 => by
    by_cases hk : k = q + 7
    · subst hk; rw [e14, va_up_self]; exact e0_i (hq.a14.2.1) (by decide)
    · rw [e14, va_up_ne _ _ hk]; exact i13 k h1 (by omega)
  obtain ⟨g15, e15⟩ : ∃ H : Nat → va_E, H = va_up g14 (q) (.inr (5, [.int 0, .int 0, .int (nI 10), .int 0, .int 0, .int 0, .int 0, .int 0, .ref (wN w + (q + 1)), .ref (wN w + (q + 2)), .ref (wN w + (q + 3)), .ref (wN w + (q + 4)), .ref (wN w + (q + 5)), .ref (wN w + (q + 6)), .ref (wN w + (q + 7))])) := ⟨_, rfl⟩
  refine J.putF 63 dX5_init_63 ff_RX5_34 fp_5_14 rfl (by omega) z14 (Nat.le_of_ble_eq_true rfl) rfl rfl (J.heap e15.symm ?_)
  have z15 : g15 (q) = .inr (5, [.int 0, .int 0, .int (nI 10), .int 0, .int 0, .int 0, .int 0, .int 0, .ref (wN w + (q + 1)), .ref (wN w + (q + 2)), .ref (wN w + (q + 3)), .ref (wN w + (q + 4)), .ref (wN w + (q + 5)), .ref (wN w + (q + 6)), .ref (wN w + (q + 7))]) := by rw [e15]; exact va_up_self _ _ _
  have l15 : ∀ k, k < q → g15 k = h k := fun k hk => by rw [e15]; exact (va_up_ne _ _ (by omega)).trans (l14 k hk)
  have i15 : ∀ k, q < k → k < q + 8 → g15 k = e0 w k := fun k h1 h2 => by rw [e15, va_up_ne _ _ (by omega)]; exact i14 k h1 (by omega)
  refine J.vret 66 dX5_init_66 ⟨rfl, l15, fun k h1 h2 => ?_⟩
  by_cases hk : k = q
  · subst hk; rw [z15]; exact (by unfold e0; rw [hq.2.1]; rfl)
  exact i15 k (by omega) h2
theorem e0_S (w : Wd) {q : Nat} (hq : IsS q) : e0 w q = .inr (5, mkf (wN w) (w0 (.inl (5, stF q))) 0 (stF q)) := by
  unfold e0
  rw [hq.2.1]
  rfl
set_option maxHeartbeats 1000000 in
set_option maxRecDepth 100000 in
theorem k_X6 (w : Wd) (h : Nat → va_E) (h0 : h (17) = .inr (6, nl6)) : CN w yX6_init cX6_init 1 (rk 1 20 1 200) (17) (19) h := by
  refine Ct.of (by decide) (Nat.le_of_ble_eq_true rfl) rfl ?_
  refine J.aload_n 0 dX6_init_0 rfl rfl ?_
  refine J.objInit 1 dX6_init_1 ml_RX6_3 im_obj co_obj (by decide) (Nat.le_of_ble_eq_true rfl) ?_
  refine J.aload_n 4 dX6_init_4 rfl rfl ?_
  refine J.sipush 5 (nI 200) dX6_init_5 (by decide +kernel) ?_
  obtain ⟨g1, e1⟩ : ∃ H : Nat → va_E, H = va_up h (18) (.inl (wI w, 200, .inl (fun _ => 0))) := ⟨_, rfl⟩
  refine J.newa 8 dX6_init_8 ac_int (nI_pos (by decide)) (nI_clamp (by decide)) (by decide) (by decide) (by decide) (J.heap e1.symm ?_)
  have z1 : g1 (17) = .inr (6, [.null, .int 0, .int 0, .int 0, .int 0, .int 0, .int 0, .int 0]) := by rw [e1, va_up_ne _ _ (by omega)]; exact h0
  have l1 : ∀ k, k < 17 → g1 k = h k := fun k hk => by rw [e1]; exact (va_up_ne _ _ (by omega)).trans ((fun k _ => rfl) k hk)
  have i1 : ∀ k, 17 < k → k < 19 → g1 k = e0 w k := fun k h1 h2 => by
    by_cases hk : k = 18
    · subst hk; rw [e1, va_up_self]; exact e0_i (a_18.2.1) (by decide)
    · rw [e1, va_up_ne _ _ hk]; exact (fun k h1 h2 => absurd h1 (by omega)) k h1 (by omega)
  obtain ⟨g2, e2⟩ : ∃ H : Nat → va_E, H = va_up g1 (17) (.inr (6, [.ref (wN w + 18), .int 0, .int 0, .int 0, .int 0, .int 0, .int 0, .int 0])) := ⟨_, rfl⟩
  refine J.putF 10 dX6_init_10 ff_RX6_9 fp_6_0 rfl (by omega) z1 (Nat.le_of_ble_eq_true rfl) rfl rfl (J.heap e2.symm ?_)
  have z2 : g2 (17) = .inr (6, [.ref (wN w + 18), .int 0, .int 0, .int 0, .int 0, .int 0, .int 0, .int 0]) := by rw [e2]; exact va_up_self _ _ _
  have l2 : ∀ k, k < 17 → g2 k = h k := fun k hk => by rw [e2]; exact (va_up_ne _ _ (by omega)).trans (l1 k hk)
  have i2 : ∀ k, 17 < k → k < 19 → g2 k = e0 w k := fun k h1 h2 => by rw [e2, va_up_ne _ _ (by omega)]; exact i1 k h1 (by omega)
  refine J.aload_n 13 dX6_init_13 rfl rfl ?_
  refine J.iconst 14 (-1) dX6_init_14 (by decide +kernel) ?_
  obtain ⟨g3, e3⟩ : ∃ H : Nat → va_E, H = va_up g2 (17) (.inr (6, [.ref (wN w + 18), .int 0, .int 0, .int 0, .int 0, .int (-1), .int 0, .int 0])) := ⟨_, rfl⟩
  refine J.putf 15 dX6_init_15 fl_RX6_15 fp_6_5 (by omega) z2 (Nat.le_of_ble_eq_true rfl) rfl rfl (J.heap e3.symm ?_)
  have z3 : g3 (17) = .inr (6, [.ref (wN w + 18), .int 0, .int 0, .int 0, .int 0, .int (-1), .int 0, .int 0]) := by rw [e3]; exact va_up_self _ _ _
  have l3 : ∀ k, k < 17 → g3 k = h k := fun k hk => by rw [e3]; exact (va_up_ne _ _ (by omega)).trans (l2 k hk)
  have i3 : ∀ k, 17 < k → k < 19 → g3 k = e0 w k := fun k h1 h2 => by rw [e3, va_up_ne _ _ (by omega)]; exact i2 k h1 (by omega)
  refine J.vret 18 dX6_init_18 ⟨rfl, l3, fun k h1 h2 => ?_⟩
  by_cases hk : k = 17
  · subst hk; rw [z3]; exact (by unfold e0; rw [show lay 17 = .inl (6, [some 18, none, none, none, none, none, none, none]) from by decide +kernel]; rfl)
  exact i3 k (by omega) h2
set_option maxHeartbeats 1000000 in
set_option maxRecDepth 100000 in
theorem k_X3 (w : Wd) (h : Nat → va_E) (h0 : h (20) = .inr (3, nl3)) : CN w yX3_init cX3_init 1 (rk 1 20 1 8) (20) (22) h := by
  refine Ct.of (by decide) (Nat.le_of_ble_eq_true rfl) rfl ?_
  refine J.aload_n 0 dX3_init_0 rfl rfl ?_
  refine J.objInit 1 dX3_init_1 ml_RX3_3 im_obj co_obj (by decide) (Nat.le_of_ble_eq_true rfl) ?_
  refine J.aload_n 4 dX3_init_4 rfl rfl ?_
  refine J.bipush 5 (nI 8) dX3_init_5 (by decide +kernel) ?_
  obtain ⟨g1, e1⟩ : ∃ H : Nat → va_E, H = va_up h (21) (.inl (wI w, 8, .inl (fun _ => 0))) := ⟨_, rfl⟩
  refine J.newa 7 dX3_init_7 ac_int (nI_pos (by decide)) (nI_clamp (by decide)) (by decide) (by decide) (by decide) (J.heap e1.symm ?_)
  have z1 : g1 (20) = .inr (3, [.null, .int 0]) := by rw [e1, va_up_ne _ _ (by omega)]; exact h0
  have l1 : ∀ k, k < 20 → g1 k = h k := fun k hk => by rw [e1]; exact (va_up_ne _ _ (by omega)).trans ((fun k _ => rfl) k hk)
  have i1 : ∀ k, 20 < k → k < 22 → g1 k = e0 w k := fun k h1 h2 => by
    by_cases hk : k = 21
    · subst hk; rw [e1, va_up_self]; exact e0_i (a_21.2.1) (by decide)
    · rw [e1, va_up_ne _ _ hk]; exact (fun k h1 h2 => absurd h1 (by omega)) k h1 (by omega)
  obtain ⟨g2, e2⟩ : ∃ H : Nat → va_E, H = va_up g1 (20) (.inr (3, [.ref (wN w + 21), .int 0])) := ⟨_, rfl⟩
  refine J.putF 9 dX3_init_9 ff_RX3_9 fp_3_0 rfl (by omega) z1 (Nat.le_of_ble_eq_true rfl) rfl rfl (J.heap e2.symm ?_)
  have z2 : g2 (20) = .inr (3, [.ref (wN w + 21), .int 0]) := by rw [e2]; exact va_up_self _ _ _
  have l2 : ∀ k, k < 20 → g2 k = h k := fun k hk => by rw [e2]; exact (va_up_ne _ _ (by omega)).trans (l1 k hk)
  have i2 : ∀ k, 20 < k → k < 22 → g2 k = e0 w k := fun k h1 h2 => by rw [e2, va_up_ne _ _ (by omega)]; exact i1 k h1 (by omega)
  refine J.vret 12 dX3_init_12 ⟨rfl, l2, fun k h1 h2 => ?_⟩
  by_cases hk : k = 20
  · subst hk; rw [z2]; exact (by unfold e0; rw [show lay 20 = .inl (3, [some 21, none]) from by decide +kernel]; rfl)
  exact i2 k (by omega) h2
set_option maxHeartbeats 1000000 in
set_option maxRecDepth 100000 in
theorem k_X1 (w : Wd) (h : Nat → va_E) (h0 : h (19) = .inr (1, nl1)) : CN w yX1_init cX1_init 1 (rk 2 40 5 34) (19) (25) h := by
  refine Ct.of (by decide) (Nat.le_of_ble_eq_true rfl) rfl ?_
  refine J.aload_n 0 dX1_init_0 rfl rfl ?_
  refine J.objInit 1 dX1_init_1 ml_RX1_3 im_obj co_obj (by decide) (Nat.le_of_ble_eq_true rfl) ?_
  refine J.aload_n 4 dX1_init_4 rfl rfl ?_
  obtain ⟨g1, e1⟩ : ∃ H : Nat → va_E, H = va_up h (20) (.inr (3, nl3)) := ⟨_, rfl⟩
  refine J.new 5 nl3 dX1_init_5 rfl inG3 tyX3_ok cl_RX1_9 it_RX3 iz_RX3 df3 (by decide) (by decide) (J.heap e1.symm ?_)
  have z1 : g1 (19) = .inr (1, [.null, .null, .null, .null]) := by rw [e1, va_up_ne _ _ (by omega)]; exact h0
  have l1 : ∀ k, k < 19 → g1 k = h k := fun k hk => by rw [e1]; exact (va_up_ne _ _ (by omega)).trans ((fun k _ => rfl) k hk)
  have y1_1 : g1 (20) = .inr (3, nl3) := by rw [e1]; exact va_up_self _ _ _
  have i1 : ∀ k, 19 < k → k < 21 → k ≠ 20 → g1 k = e0 w k := fun k h1 h2 x0 => by rw [e1, va_up_ne _ _ (by omega)]; exact (fun k h1 h2 => absurd h1 (by omega)) k h1 (by omega)
  refine J.dup 8 dX1_init_8 rfl ?_
  refine J.calli 9 dX1_init_9 ml_RX1_11 mi_yX3_init mn_yX3_init rfl (k_X3 w _ y1_1) rfl rfl (Nat.le_of_ble_eq_true rfl) (by decide) (by decide) ?_
  rintro _ g2 ⟨rfl, a2, b2⟩
  have z2 : g2 (19) = .inr (1, [.null, .null, .null, .null]) := (a2 _ (by omega)).trans z1
  have l2 : ∀ k, k < 19 → g2 k = h k := fun k hk => (a2 k (by omega)).trans (l1 k hk)
  have i2 : ∀ k, 19 < k → k < 22 → g2 k = e0 w k := fun k h1 h2 => by
    by_cases hk : k < 20
    · rw [a2 k hk]; exact i1 k h1 (by omega) (by omega)
    · exact b2 k (by omega) h2
  obtain ⟨g3, e3⟩ : ∃ H : Nat → va_E, H = va_up g2 (19) (.inr (1, [.ref (wN w + 20), .null, .null, .null])) := ⟨_, rfl⟩
  refine J.putF 12 dX1_init_12 ff_RX1_12 fp_1_0 rfl (by omega) z2 (Nat.le_of_ble_eq_true rfl) rfl rfl (J.heap e3.symm ?_)
  have z3 : g3 (19) = .inr (1, [.ref (wN w + 20), .null, .null, .null]) := by rw [e3]; exact va_up_self _ _ _
  have l3 : ∀ k, k < 19 → g3 k = h k := fun k hk => by rw [e3]; exact (va_up_ne _ _ (by omega)).trans (l2 k hk)
  have i3 : ∀ k, 19 < k → k < 22 → g3 k = e0 w k := fun k h1 h2 => by rw [e3, va_up_ne _ _ (by omega)]; exact i2 k h1 (by omega)
  refine J.aload_n 15 dX1_init_15 rfl rfl ?_
  refine J.bipush 16 (nI 8) dX1_init_16 (by decide +kernel) ?_
  obtain ⟨g4, e4⟩ : ∃ H : Nat → va_E, H = va_up g3 (22) (.inl (wI w, 8, .inl (fun _ => 0))) := ⟨_, rfl⟩
  refine J.newa 18 dX1_init_18 ac_int (nI_pos (by decide)) (nI_clamp (by decide)) (by decide) (by decide) (by decide) (J.heap e4.symm ?_)
  have z4 : g4 (19) = .inr (1, [.ref (wN w + 20), .null, .null, .null]) := by rw [e4, va_up_ne _ _ (by omega)]; exact z3
  have l4 : ∀ k, k < 19 → g4 k = h k := fun k hk => by rw [e4]; exact (va_up_ne _ _ (by omega)).trans (l3 k hk)
  have i4 : ∀ k, 19 < k → k < 23 → g4 k = e0 w k := fun k h1 h2 => by
    by_cases hk : k = 22
    · subst hk; rw [e4, va_up_self]; exact e0_i (a_22.2.1) (by decide)
    · rw [e4, va_up_ne _ _ hk]; exact i3 k h1 (by omega)
  obtain ⟨g5, e5⟩ : ∃ H : Nat → va_E, H = va_up g4 (19) (.inr (1, [.ref (wN w + 20), .ref (wN w + 22), .null, .null])) := ⟨_, rfl⟩
  refine J.putF 20 dX1_init_20 ff_RX1_18 fp_1_1 rfl (by omega) z4 (Nat.le_of_ble_eq_true rfl) rfl rfl (J.heap e5.symm ?_)
  have z5 : g5 (19) = .inr (1, [.ref (wN w + 20), .ref (wN w + 22), .null, .null]) := by rw [e5]; exact va_up_self _ _ _
  have l5 : ∀ k, k < 19 → g5 k = h k := fun k hk => by rw [e5]; exact (va_up_ne _ _ (by omega)).trans (l4 k hk)
  have i5 : ∀ k, 19 < k → k < 23 → g5 k = e0 w k := fun k h1 h2 => by rw [e5, va_up_ne _ _ (by omega)]; exact i4 k h1 (by omega)
  refine J.aload_n 23 dX1_init_23 rfl rfl ?_
  refine J.bipush 24 (nI 8) dX1_init_24 (by decide +kernel) ?_
  obtain ⟨g6, e6⟩ : ∃ H : Nat → va_E, H = va_up g5 (23) (.inl (wI w, 8, .inl (fun _ => 0))) := ⟨_, rfl⟩
  refine J.newa 26 dX1_init_26 ac_int (nI_pos (by decide)) (nI_clamp (by decide)) (by decide) (by decide) (by decide) (J.heap e6.symm ?_)
  have z6 : g6 (19) = .inr (1, [.ref (wN w + 20), .ref (wN w + 22), .null, .null]) := by rw [e6, va_up_ne _ _ (by omega)]; exact z5
  have l6 : ∀ k, k < 19 → g6 k = h k := fun k hk => by rw [e6]; exact (va_up_ne _ _ (by omega)).trans (l5 k hk)
  have i6 : ∀ k, 19 < k → k < 24 → g6 k = e0 w k := fun k h1 h2 => by
    by_cases hk : k = 23
    · subst hk; rw [e6, va_up_self]; exact e0_i (a_23.2.1) (by decide)
    · rw [e6, va_up_ne _ _ hk]; exact i5 k h1 (by omega)
  obtain ⟨g7, e7⟩ : ∃ H : Nat → va_E, H = va_up g6 (19) (.inr (1, [.ref (wN w + 20), .ref (wN w + 22), .ref (wN w + 23), .null])) := ⟨_, rfl⟩
  refine J.putF 28 dX1_init_28 ff_RX1_22 fp_1_2 rfl (by omega) z6 (Nat.le_of_ble_eq_true rfl) rfl rfl (J.heap e7.symm ?_)
  have z7 : g7 (19) = .inr (1, [.ref (wN w + 20), .ref (wN w + 22), .ref (wN w + 23), .null]) := by rw [e7]; exact va_up_self _ _ _
  have l7 : ∀ k, k < 19 → g7 k = h k := fun k hk => by rw [e7]; exact (va_up_ne _ _ (by omega)).trans (l6 k hk)
  have i7 : ∀ k, 19 < k → k < 24 → g7 k = e0 w k := fun k h1 h2 => by rw [e7, va_up_ne _ _ (by omega)]; exact i6 k h1 (by omega)
  refine J.aload_n 31 dX1_init_31 rfl rfl ?_
  refine J.bipush 32 (nI 8) dX1_init_32 (by decide +kernel) ?_
  obtain ⟨g8, e8⟩ : ∃ H : Nat → va_E, H = va_up g7 (24) (.inl (wI w, 8, .inl (fun _ => 0))) := ⟨_, rfl⟩
  refine J.newa 34 dX1_init_34 ac_int (nI_pos (by decide)) (nI_clamp (by decide)) (by decide) (by decide) (by decide) (J.heap e8.symm ?_)
  have z8 : g8 (19) = .inr (1, [.ref (wN w + 20), .ref (wN w + 22), .ref (wN w + 23), .null]) := by rw [e8, va_up_ne _ _ (by omega)]; exact z7
  have l8 : ∀ k, k < 19 → g8 k = h k := fun k hk => by rw [e8]; exact (va_up_ne _ _ (by omega)).trans (l7 k hk)
  have i8 : ∀ k, 19 < k → k < 25 → g8 k = e0 w k := fun k h1 h2 => by
    by_cases hk : k = 24
    · subst hk; rw [e8, va_up_self]; exact e0_i (a_24.2.1) (by decide)
    · rw [e8, va_up_ne _ _ hk]; exact i7 k h1 (by omega)
  obtain ⟨g9, e9⟩ : ∃ H : Nat → va_E, H = va_up g8 (19) (.inr (1, [.ref (wN w + 20), .ref (wN w + 22), .ref (wN w + 23), .ref (wN w + 24)])) := ⟨_, rfl⟩
  refine J.putF 36 dX1_init_36 ff_RX1_25 fp_1_3 rfl (by omega) z8 (Nat.le_of_ble_eq_true rfl) rfl rfl (J.heap e9.symm ?_)
  have z9 : g9 (19) = .inr (1, [.ref (wN w + 20), .ref (wN w + 22), .ref (wN w + 23), .ref (wN w + 24)]) := by rw [e9]; exact va_up_self _ _ _
  have l9 : ∀ k, k < 19 → g9 k = h k := fun k hk => by rw [e9]; exact (va_up_ne _ _ (by omega)).trans (l8 k hk)
  have i9 : ∀ k, 19 < k → k < 25 → g9 k = e0 w k := fun k h1 h2 => by rw [e9, va_up_ne _ _ (by omega)]; exact i8 k h1 (by omega)
  refine J.vret 39 dX1_init_39 ⟨rfl, l9, fun k h1 h2 => ?_⟩
  by_cases hk : k = 19
  · subst hk; rw [z9]; exact (by unfold e0; rw [show lay 19 = .inl (1, [some 20, some 22, some 23, some 24]) from by decide +kernel]; rfl)
  exact i9 k (by omega) h2
set_option maxHeartbeats 1000000 in
set_option maxRecDepth 100000 in
theorem k_X0 (w : Wd) (h : Nat → va_E) (h0 : h (155) = .inr (0, nl0)) : CN w yX0_init cX0_init 1 (rk 1 20 2 40) (155) (158) h := by
  refine Ct.of (by decide) (Nat.le_of_ble_eq_true rfl) rfl ?_
  refine J.aload_n 0 dX0_init_0 rfl rfl ?_
  refine J.objInit 1 dX0_init_1 ml_RX0_3 im_obj co_obj (by decide) (Nat.le_of_ble_eq_true rfl) ?_
  refine J.aload_n 4 dX0_init_4 rfl rfl ?_
  refine J.bipush 5 (nI 20) dX0_init_5 (by decide +kernel) ?_
  obtain ⟨g1, e1⟩ : ∃ H : Nat → va_E, H = va_up h (156) (.inl (wI w, 20, .inl (fun _ => 0))) := ⟨_, rfl⟩
  refine J.newa 7 dX0_init_7 ac_int (nI_pos (by decide)) (nI_clamp (by decide)) (by decide) (by decide) (by decide) (J.heap e1.symm ?_)
  have z1 : g1 (155) = .inr (0, [.null, .null, .int 0]) := by rw [e1, va_up_ne _ _ (by omega)]; exact h0
  have l1 : ∀ k, k < 155 → g1 k = h k := fun k hk => by rw [e1]; exact (va_up_ne _ _ (by omega)).trans ((fun k _ => rfl) k hk)
  have i1 : ∀ k, 155 < k → k < 157 → g1 k = e0 w k := fun k h1 h2 => by
    by_cases hk : k = 156
    · subst hk; rw [e1, va_up_self]; exact e0_i (a_156.2.1) (by decide)
    · rw [e1, va_up_ne _ _ hk]; exact (fun k h1 h2 => absurd h1 (by omega)) k h1 (by omega)
  obtain ⟨g2, e2⟩ : ∃ H : Nat → va_E, H = va_up g1 (155) (.inr (0, [.ref (wN w + 156), .null, .int 0])) := ⟨_, rfl⟩
  refine J.putF 9 dX0_init_9 ff_RX0_9 fp_0_0 rfl (by omega) z1 (Nat.le_of_ble_eq_true rfl) rfl rfl (J.heap e2.symm ?_)
  have z2 : g2 (155) = .inr (0, [.ref (wN w + 156), .null, .int 0]) := by rw [e2]; exact va_up_self _ _ _
  have l2 : ∀ k, k < 155 → g2 k = h k := fun k hk => by rw [e2]; exact (va_up_ne _ _ (by omega)).trans (l1 k hk)
  have i2 : ∀ k, 155 < k → k < 157 → g2 k = e0 w k := fun k h1 h2 => by rw [e2, va_up_ne _ _ (by omega)]; exact i1 k h1 (by omega)
  refine J.aload_n 12 dX0_init_12 rfl rfl ?_
  refine J.bipush 13 (nI 20) dX0_init_13 (by decide +kernel) ?_
  obtain ⟨g3, e3⟩ : ∃ H : Nat → va_E, H = va_up g2 (157) (.inl (wI w, 20, .inl (fun _ => 0))) := ⟨_, rfl⟩
  refine J.newa 15 dX0_init_15 ac_int (nI_pos (by decide)) (nI_clamp (by decide)) (by decide) (by decide) (by decide) (J.heap e3.symm ?_)
  have z3 : g3 (155) = .inr (0, [.ref (wN w + 156), .null, .int 0]) := by rw [e3, va_up_ne _ _ (by omega)]; exact z2
  have l3 : ∀ k, k < 155 → g3 k = h k := fun k hk => by rw [e3]; exact (va_up_ne _ _ (by omega)).trans (l2 k hk)
  have i3 : ∀ k, 155 < k → k < 158 → g3 k = e0 w k := fun k h1 h2 => by
    by_cases hk : k = 157
    · subst hk; rw [e3, va_up_self]; exact e0_i (a_157.2.1) (by decide)
    · rw [e3, va_up_ne _ _ hk]; exact i2 k h1 (by omega)
  obtain ⟨g4, e4⟩ : ∃ H : Nat → va_E, H = va_up g3 (155) (.inr (0, [.ref (wN w + 156), .ref (wN w + 157), .int 0])) := ⟨_, rfl⟩
  refine J.putF 17 dX0_init_17 ff_RX0_15 fp_0_1 rfl (by omega) z3 (Nat.le_of_ble_eq_true rfl) rfl rfl (J.heap e4.symm ?_)
  have z4 : g4 (155) = .inr (0, [.ref (wN w + 156), .ref (wN w + 157), .int 0]) := by rw [e4]; exact va_up_self _ _ _
  have l4 : ∀ k, k < 155 → g4 k = h k := fun k hk => by rw [e4]; exact (va_up_ne _ _ (by omega)).trans (l3 k hk)
  have i4 : ∀ k, 155 < k → k < 158 → g4 k = e0 w k := fun k h1 h2 => by rw [e4, va_up_ne _ _ (by omega)]; exact i3 k h1 (by omega)
  refine J.vret 20 dX0_init_20 ⟨rfl, l4, fun k h1 h2 => ?_⟩
  by_cases hk : k = 155
  · subst hk; rw [z4]; exact (by unfold e0; rw [show lay 155 = .inl (0, [some 156, some 157, none]) from by decide +kernel]; rfl)
  exact i4 k (by omega) h2
set_option maxHeartbeats 1000000 in
set_option maxRecDepth 100000 in
theorem k_X2 (w : Wd) (h : Nat → va_E) (h0 : h (158) = .inr (2, nl2)) : CN w yX2_init cX2_init 1 (rk 1 20 0 0) (158) (159) h := by
  refine Ct.of (by decide) (Nat.le_of_ble_eq_true rfl) rfl ?_
  refine J.aload_n 0 dX2_init_0 rfl rfl ?_
  refine J.objInit 1 dX2_init_1 ml_RX2_1 im_obj co_obj (by decide) (Nat.le_of_ble_eq_true rfl) ?_
  refine J.vret 4 dX2_init_4 ⟨rfl, (fun k _ => rfl), fun k h1 h2 => ?_⟩
  by_cases hk : k = 158
  · subst hk; rw [h0]; exact (by unfold e0; rw [show lay 158 = .inl (2, [none]) from by decide +kernel]; rfl)
  exact (fun k h1 h2 => absurd h1 (by omega)) k (by omega) h2
def stA (w : Wd) (i : Nat) : Nat → Option Nat := fun k => if k < i then some (wN w + (27 + 8 * k)) else none
theorem stA_0 (w : Wd) : stA w 0 = fun _ => none := rfl
theorem stA_s (w : Wd) (i : Nat) : stA w (i + 1) = va_up (stA w i) i (some (wN w + (27 + 8 * i))) := by
  funext k
  show (if k < i + 1 then some (wN w + (27 + 8 * k)) else none) = if k = i then some (wN w + (27 + 8 * i)) else if k < i then some (wN w + (27 + 8 * k)) else none
  by_cases h : k = i
  · subst h
    rw [if_pos (by omega), if_pos rfl]
  · rw [if_neg h]
    by_cases h2 : k < i
    · rw [if_pos h2, if_pos (by omega)]
    · rw [if_neg h2, if_neg (by omega)]
theorem e0_26 (w : Wd) : .inl (wS w, 16, .inr (.inr (.inr (.inr (stA w 16))))) = e0 w 26 := by
  unfold e0
  rw [a_26.2.1]
  show _ = (.inl (wS w, 16, .inr (.inr (.inr (.inr (fun k => ([27, 35, 43, 51, 59, 67, 75, 83, 91, 99, 107, 115, 123, 131, 139, 147] : List Nat)[k]?.map (wN w + ·)))))) : va_E)
  have e : stA w 16 = fun k => ([27, 35, 43, 51, 59, 67, 75, 83, 91, 99, 107, 115, 123, 131, 139, 147] : List Nat)[k]?.map (wN w + ·) := by
    funext k
    unfold stA
    by_cases h : k < 16
    · rw [if_pos h]
      match k, h with
      | 0, _ => rfl
      | 1, _ => rfl
      | 2, _ => rfl
      | 3, _ => rfl
      | 4, _ => rfl
      | 5, _ => rfl
      | 6, _ => rfl
      | 7, _ => rfl
      | 8, _ => rfl
      | 9, _ => rfl
      | 10, _ => rfl
      | 11, _ => rfl
      | 12, _ => rfl
      | 13, _ => rfl
      | 14, _ => rfl
      | 15, _ => rfl
      | k + 16, h => exact absurd h (by omega)
    · rw [if_neg h, List.getElem?_eq_none (by show 16 ≤ k; omega)]
      rfl
  rw [e]
set_option maxHeartbeats 1000000 in
set_option maxRecDepth 100000 in
theorem k_X4 (w : Wd) (h : Nat → va_E) (h0 : h (25) = .inr (4, nl4)) : CN w yX4_init cX4_init 2 (rk 2 40 129 2880) (25) (155) h := by
  refine Ct.of (by decide) (Nat.le_of_ble_eq_true rfl) rfl ?_
  have lp : ∀ (m i : Nat) (g : Nat → va_E), i ≤ 16 → g 25 = .inr (4, [.ref (wN w + 26), .int 0, .int 0]) → g 26 = .inl (wS w, 16, .inr (.inr (.inr (.inr (stA w i))))) → (∀ k, k < 25 → g k = h k) → (∀ k, 26 < k → k < 27 + 8 * i → g k = e0 w k) → 16 - i < m → J w yX4_init cX4_init 2 none (rk 2 40 129 2880) XT (ZJ w 155 129 2880 (fun r h' => r = none ∧ (∀ k, k < 25 → h' k = h k) ∧ ∀ k, 25 ≤ k → k < 155 → h' k = e0 w k)) 15 [(0, .ref (wN w + 25)), (1, .int (nI i))] [] (27 + 8 * i) g (1 + 8 * i) (16 + 179 * i) := by
    intro m
    induction m with
    | zero => intro i g _ _ _ _ _ hm; exact absurd hm (by omega)
    | succ m ih =>
      intro i g hi z y l inn hm
      refine J.iload_n 15 dX4_init_15 rfl rfl ?_
      refine J.bipush 16 (nI 16) dX4_init_16 (by decide +kernel) ?_
      refine V.icmp_ge 18 40 dX4_init_18 (by decide) (by omega) (by omega) (fun c18 => ?_) (fun c18 => ?_)
      · obtain rfl : i = 16 := by omega
        refine J.vret 40 dX4_init_40 ⟨rfl, l, fun k h1 h2 => ?_⟩
        by_cases hk : k = 25
        · subst hk; rw [z]; exact (by unfold e0; rw [show lay 25 = .inl (4, [some 26, none, none]) from by decide +kernel]; rfl)
        by_cases hp : k = 26
        · subst hp; rw [y]; exact e0_26 w
        exact inn k (by omega) (by omega)
      · refine J.aload_n 21 dX4_init_21 rfl rfl ?_
        refine J.getf 22 dX4_init_22 fl_RX4_11 (by omega) z (v := .ref (wN w + 26)) rfl ?_
        refine J.iload_n 25 dX4_init_25 rfl rfl ?_
        obtain ⟨g1, e1⟩ : ∃ H : Nat → va_E, H = va_up g (27 + 8 * i) (.inr (5, nl5)) := ⟨_, rfl⟩
        refine J.new 26 nl5 dX4_init_26 rfl inG5 tyX5_ok cl_RX4_9 it_RX5 iz_RX5 df5 (show 1 + 8 * i + 1 ≤ 129 by omega) (show 16 + 179 * i + 15 ≤ 2880 by omega) (J.heap e1.symm ?_)
        refine J.dup 29 dX4_init_29 rfl ?_
        refine J.calli 30 dX4_init_30 ml_RX4_17 mi_yX5_init mn_yX5_init rfl (k_X5 w _ (isS_h i c18) (by rw [e1]; exact va_up_self _ _ _)) rfl rfl (Nat.le_of_ble_eq_true rfl) (by decide) (show 1 + 8 * i + 1 + 7 ≤ 129 ∧ 16 + 179 * i + 15 + 164 ≤ 2880 by omega) ?_
        rintro _ g2 ⟨rfl, a2, b2⟩
        have f2 : ∀ k, k < 27 + 8 * i → g2 k = g k := fun k hk => (a2 k hk).trans (by rw [e1]; exact va_up_ne _ _ (by omega))
        obtain ⟨g3, e3⟩ : ∃ H : Nat → va_E, H = va_up g2 26 (.inl (wS w, 16, .inr (.inr (.inr (.inr (stA w (i + 1))))))) := ⟨_, rfl⟩
        refine J.aast 33 dX4_init_33 (by omega) ((f2 26 (by omega)).trans y) (by omega) ((b2 (27 + 8 * i) (by omega) (by omega)).trans (e0_S w (isS_h i c18))) rfl rfl (vp_in_nI c18 (by decide)) (J.heap (h' := g3) (by rw [nI_clamp (by omega), ← stA_s]; exact e3.symm) ?_)
        refine V.iinc 34 dX4_init_34 rfl (by decide) ?_
        refine J.goto 37 15 dX4_init_37 (by decide) ?_
        refine J.nn (n' := 27 + 8 * (i + 1)) (by omega) ?_
        refine J.widen (k1 := 1 + 8 * (i + 1)) (k2 := 16 + 179 * (i + 1)) (show 1 + 8 * i + 1 + 7 ≤ _ by omega) (show 16 + 179 * i + 15 + 164 ≤ _ by omega) ?_
        refine ih (i + 1) g3 (by omega) ?_ ?_ ?_ ?_ (by omega)
        · rw [e3, va_up_ne _ _ (by omega), f2 25 (by omega)]; exact z
        · rw [e3]; exact va_up_self _ _ _
        · intro k hk; rw [e3, va_up_ne _ _ (by omega), f2 k (by omega)]; exact l k hk
        · intro k h1 h2
          rw [e3, va_up_ne _ _ (by omega)]
          by_cases hk : k < 27 + 8 * i
          · rw [f2 k hk]; exact inn k h1 hk
          · exact b2 k (by omega) (by omega)
  refine J.aload_n 0 dX4_init_0 rfl rfl ?_
  refine J.objInit 1 dX4_init_1 ml_RX4_3 im_obj co_obj (by decide) (Nat.le_of_ble_eq_true rfl) ?_
  refine J.aload_n 4 dX4_init_4 rfl rfl ?_
  refine J.bipush 5 (nI 16) dX4_init_5 (by decide +kernel) ?_
  obtain ⟨g1, e1⟩ : ∃ H : Nat → va_E, H = va_up h (26) (.inl (wS w, 16, .inr (.inr (.inr (.inr (fun _ => none)))))) := ⟨_, rfl⟩
  refine J.anew 7 dX4_init_7 cl_RX4_9 (nI_pos (by decide)) (nI_clamp (by decide)) (by decide) (by decide) (by decide) (J.heap e1.symm ?_)
  have z1 : g1 (25) = .inr (4, [.null, .int 0, .int 0]) := by rw [e1, va_up_ne _ _ (by omega)]; exact h0
  have l1 : ∀ k, k < 25 → g1 k = h k := fun k hk => by rw [e1]; exact (va_up_ne _ _ (by omega)).trans ((fun k _ => rfl) k hk)
  have y1_1 : g1 (26) = .inl (wS w, 16, .inr (.inr (.inr (.inr (fun _ => none))))) := by rw [e1]; exact va_up_self _ _ _
  have i1 : ∀ k, 25 < k → k < 27 → k ≠ 26 → g1 k = e0 w k := fun k h1 h2 x0 => by rw [e1, va_up_ne _ _ (by omega)]; exact (fun k h1 h2 => absurd h1 (by omega)) k h1 (by omega)
  obtain ⟨g2, e2⟩ : ∃ H : Nat → va_E, H = va_up g1 (25) (.inr (4, [.ref (wN w + 26), .int 0, .int 0])) := ⟨_, rfl⟩
  refine J.putF 10 dX4_init_10 ff_RX4_11 fp_4_0 rfl (by omega) z1 (Nat.le_of_ble_eq_true rfl) rfl rfl (J.heap e2.symm ?_)
  have z2 : g2 (25) = .inr (4, [.ref (wN w + 26), .int 0, .int 0]) := by rw [e2]; exact va_up_self _ _ _
  have l2 : ∀ k, k < 25 → g2 k = h k := fun k hk => by rw [e2]; exact (va_up_ne _ _ (by omega)).trans (l1 k hk)
  have y1_2 : g2 (26) = .inl (wS w, 16, .inr (.inr (.inr (.inr (fun _ => none))))) := by rw [e2, va_up_ne _ _ (by omega)]; exact y1_1
  have i2 : ∀ k, 25 < k → k < 27 → k ≠ 26 → g2 k = e0 w k := fun k h1 h2 x0 => by rw [e2, va_up_ne _ _ (by omega)]; exact i1 k h1 (by omega) x0
  refine J.iconst 13 (nI 0) dX4_init_13 (by decide +kernel) ?_
  refine J.istore_n 14 dX4_init_14 rfl (by decide) ?_
  exact lp 17 0 g2 (by omega) z2 (y1_2.trans (by rw [stA_0])) l2 (fun k h1 h2 => absurd h1 (by omega)) (by omega)
theorem e0_159 (w : Wd) : .inl (wS w, 2, .inr (.inr (.inr (.inr (va_up (va_up (fun _ => none) 0 (some (wN w + 160))) 1 (some (wN w + 168))))))) = e0 w 159 := by
  unfold e0
  rw [a_159.2.1]
  show _ = (.inl (wS w, 2, .inr (.inr (.inr (.inr (fun k => ([160, 168] : List Nat)[k]?.map (wN w + ·)))))) : va_E)
  have e : va_up (va_up (fun _ => none) 0 (some (wN w + 160))) 1 (some (wN w + 168)) = fun k => ([160, 168] : List Nat)[k]?.map (wN w + ·) := by
    funext k
    match k with
    | 0 => rfl
    | 1 => rfl
    | k + 2 =>
      rw [va_up_ne _ _ (by omega), va_up_ne _ _ (by omega)]
      rfl
  rw [e]
theorem e0_179 (w : Wd) : .inl (wI w, 3840, .inl (upd (fun _ => 0) 2 (nI 10))) = e0 w 179 := by
  unfold e0
  rw [a_179.2.1]
  show _ = (.inl (wI w, 3840, .inl (fun i => if 3840 = 3840 ∧ i = 2 then nI 10 else 0)) : va_E)
  have e : upd (fun _ => 0) 2 (nI 10) = fun i => if 3840 = 3840 ∧ i = 2 then nI 10 else (0 : Int32) := by
    funext i
    by_cases h : i = 2
    · subst h; rw [upd_self, if_pos ⟨rfl, rfl⟩]
    · rw [upd_ne _ _ h, if_neg (fun z => h z.2)]
  rw [e]
set_option maxHeartbeats 1000000 in
set_option maxRecDepth 100000 in
theorem k_X7 (w : Wd) (h : Nat → va_E) (h0 : h (0) = .inr (7, nl7)) : CN w yX7_init cX7_init 2 (rk 3 61 177 3895) (0) (178) h := by
  refine Ct.of (by decide) (Nat.le_of_ble_eq_true rfl) rfl ?_
  refine J.aload_n 0 dX7_init_0 rfl rfl ?_
  refine J.objInit 1 dX7_init_1 ml_RX7_1 im_obj co_obj (by decide) (Nat.le_of_ble_eq_true rfl) ?_
  refine J.aload_n 4 dX7_init_4 rfl rfl ?_
  obtain ⟨g1, e1⟩ : ∃ H : Nat → va_E, H = va_up h (1) (.inr (5, nl5)) := ⟨_, rfl⟩
  refine J.new 5 nl5 dX7_init_5 rfl inG5 tyX5_ok cl_RX7_7 it_RX5 iz_RX5 df5 (by decide) (by decide) (J.heap e1.symm ?_)
  have z1 : g1 (0) = .inr (7, [.null, .null, .null, .null, .null, .null, .null, .null, .null, .null]) := by rw [e1, va_up_ne _ _ (by omega)]; exact h0
  have l1 : ∀ k, k < 0 → g1 k = h k := fun k hk => by rw [e1]; exact (va_up_ne _ _ (by omega)).trans ((fun k _ => rfl) k hk)
  have y1_1 : g1 (1) = .inr (5, nl5) := by rw [e1]; exact va_up_self _ _ _
  have i1 : ∀ k, 0 < k → k < 2 → k ≠ 1 → g1 k = e0 w k := fun k h1 h2 x0 => by rw [e1, va_up_ne _ _ (by omega)]; exact (fun k h1 h2 => absurd h1 (by omega)) k h1 (by omega)
  refine J.dup 8 dX7_init_8 rfl ?_
  refine J.calli 9 dX7_init_9 ml_RX7_9 mi_yX5_init mn_yX5_init rfl (k_X5 w _ isS_1 y1_1) rfl rfl (Nat.le_of_ble_eq_true rfl) (by decide) (by decide) ?_
  rintro _ g2 ⟨rfl, a2, b2⟩
  have z2 : g2 (0) = .inr (7, [.null, .null, .null, .null, .null, .null, .null, .null, .null, .null]) := (a2 _ (by omega)).trans z1
  have l2 : ∀ k, k < 0 → g2 k = h k := fun k hk => (a2 k (by omega)).trans (l1 k hk)
  have i2 : ∀ k, 0 < k → k < 9 → g2 k = e0 w k := fun k h1 h2 => by
    by_cases hk : k < 1
    · rw [a2 k hk]; exact i1 k h1 (by omega) (by omega)
    · exact b2 k (by omega) h2
  obtain ⟨g3, e3⟩ : ∃ H : Nat → va_E, H = va_up g2 (0) (.inr (7, [.ref (wN w + 1), .null, .null, .null, .null, .null, .null, .null, .null, .null])) := ⟨_, rfl⟩
  refine J.putF 12 dX7_init_12 ff_RX7_10 fp_7_0 rfl (by omega) z2 (Nat.le_of_ble_eq_true rfl) rfl rfl (J.heap e3.symm ?_)
  have z3 : g3 (0) = .inr (7, [.ref (wN w + 1), .null, .null, .null, .null, .null, .null, .null, .null, .null]) := by rw [e3]; exact va_up_self _ _ _
  have l3 : ∀ k, k < 0 → g3 k = h k := fun k hk => by rw [e3]; exact (va_up_ne _ _ (by omega)).trans (l2 k hk)
  have i3 : ∀ k, 0 < k → k < 9 → g3 k = e0 w k := fun k h1 h2 => by rw [e3, va_up_ne _ _ (by omega)]; exact i2 k h1 (by omega)
  refine J.aload_n 15 dX7_init_15 rfl rfl ?_
  obtain ⟨g4, e4⟩ : ∃ H : Nat → va_E, H = va_up g3 (9) (.inr (5, nl5)) := ⟨_, rfl⟩
  refine J.new 16 nl5 dX7_init_16 rfl inG5 tyX5_ok cl_RX7_7 it_RX5 iz_RX5 df5 (by decide) (by decide) (J.heap e4.symm ?_)
  have z4 : g4 (0) = .inr (7, [.ref (wN w + 1), .null, .null, .null, .null, .null, .null, .null, .null, .null]) := by rw [e4, va_up_ne _ _ (by omega)]; exact z3
  have l4 : ∀ k, k < 0 → g4 k = h k := fun k hk => by rw [e4]; exact (va_up_ne _ _ (by omega)).trans (l3 k hk)
  have y9_4 : g4 (9) = .inr (5, nl5) := by rw [e4]; exact va_up_self _ _ _
  have i4 : ∀ k, 0 < k → k < 10 → k ≠ 9 → g4 k = e0 w k := fun k h1 h2 x0 => by rw [e4, va_up_ne _ _ (by omega)]; exact i3 k h1 (by omega)
  refine J.dup 19 dX7_init_19 rfl ?_
  refine J.calli 20 dX7_init_20 ml_RX7_9 mi_yX5_init mn_yX5_init rfl (k_X5 w _ isS_9 y9_4) rfl rfl (Nat.le_of_ble_eq_true rfl) (by decide) (by decide) ?_
  rintro _ g5 ⟨rfl, a5, b5⟩
  have z5 : g5 (0) = .inr (7, [.ref (wN w + 1), .null, .null, .null, .null, .null, .null, .null, .null, .null]) := (a5 _ (by omega)).trans z4
  have l5 : ∀ k, k < 0 → g5 k = h k := fun k hk => (a5 k (by omega)).trans (l4 k hk)
  have i5 : ∀ k, 0 < k → k < 17 → g5 k = e0 w k := fun k h1 h2 => by
    by_cases hk : k < 9
    · rw [a5 k hk]; exact i4 k h1 (by omega) (by omega)
    · exact b5 k (by omega) h2
  obtain ⟨g6, e6⟩ : ∃ H : Nat → va_E, H = va_up g5 (0) (.inr (7, [.ref (wN w + 1), .ref (wN w + 9), .null, .null, .null, .null, .null, .null, .null, .null])) := ⟨_, rfl⟩
  refine J.putF 23 dX7_init_23 ff_RX7_16 fp_7_1 rfl (by omega) z5 (Nat.le_of_ble_eq_true rfl) rfl rfl (J.heap e6.symm ?_)
  have z6 : g6 (0) = .inr (7, [.ref (wN w + 1), .ref (wN w + 9), .null, .null, .null, .null, .null, .null, .null, .null]) := by rw [e6]; exact va_up_self _ _ _
  have l6 : ∀ k, k < 0 → g6 k = h k := fun k hk => by rw [e6]; exact (va_up_ne _ _ (by omega)).trans (l5 k hk)
  have i6 : ∀ k, 0 < k → k < 17 → g6 k = e0 w k := fun k h1 h2 => by rw [e6, va_up_ne _ _ (by omega)]; exact i5 k h1 (by omega)
  refine J.aload_n 26 dX7_init_26 rfl rfl ?_
  obtain ⟨g7, e7⟩ : ∃ H : Nat → va_E, H = va_up g6 (17) (.inr (6, nl6)) := ⟨_, rfl⟩
  refine J.new 27 nl6 dX7_init_27 rfl inG6 tyX6_ok cl_RX7_19 it_RX6 iz_RX6 df6 (by decide) (by decide) (J.heap e7.symm ?_)
  have z7 : g7 (0) = .inr (7, [.ref (wN w + 1), .ref (wN w + 9), .null, .null, .null, .null, .null, .null, .null, .null]) := by rw [e7, va_up_ne _ _ (by omega)]; exact z6
  have l7 : ∀ k, k < 0 → g7 k = h k := fun k hk => by rw [e7]; exact (va_up_ne _ _ (by omega)).trans (l6 k hk)
  have y17_7 : g7 (17) = .inr (6, nl6) := by rw [e7]; exact va_up_self _ _ _
  have i7 : ∀ k, 0 < k → k < 18 → k ≠ 17 → g7 k = e0 w k := fun k h1 h2 x0 => by rw [e7, va_up_ne _ _ (by omega)]; exact i6 k h1 (by omega)
  refine J.dup 30 dX7_init_30 rfl ?_
  refine J.calli 31 dX7_init_31 ml_RX7_21 mi_yX6_init mn_yX6_init rfl (k_X6 w _ y17_7) rfl rfl (Nat.le_of_ble_eq_true rfl) (by decide) (by decide) ?_
  rintro _ g8 ⟨rfl, a8, b8⟩
  have z8 : g8 (0) = .inr (7, [.ref (wN w + 1), .ref (wN w + 9), .null, .null, .null, .null, .null, .null, .null, .null]) := (a8 _ (by omega)).trans z7
  have l8 : ∀ k, k < 0 → g8 k = h k := fun k hk => (a8 k (by omega)).trans (l7 k hk)
  have i8 : ∀ k, 0 < k → k < 19 → g8 k = e0 w k := fun k h1 h2 => by
    by_cases hk : k < 17
    · rw [a8 k hk]; exact i7 k h1 (by omega) (by omega)
    · exact b8 k (by omega) h2
  obtain ⟨g9, e9⟩ : ∃ H : Nat → va_E, H = va_up g8 (0) (.inr (7, [.ref (wN w + 1), .ref (wN w + 9), .ref (wN w + 17), .null, .null, .null, .null, .null, .null, .null])) := ⟨_, rfl⟩
  refine J.putF 34 dX7_init_34 ff_RX7_22 fp_7_2 rfl (by omega) z8 (Nat.le_of_ble_eq_true rfl) rfl rfl (J.heap e9.symm ?_)
  have z9 : g9 (0) = .inr (7, [.ref (wN w + 1), .ref (wN w + 9), .ref (wN w + 17), .null, .null, .null, .null, .null, .null, .null]) := by rw [e9]; exact va_up_self _ _ _
  have l9 : ∀ k, k < 0 → g9 k = h k := fun k hk => by rw [e9]; exact (va_up_ne _ _ (by omega)).trans (l8 k hk)
  have i9 : ∀ k, 0 < k → k < 19 → g9 k = e0 w k := fun k h1 h2 => by rw [e9, va_up_ne _ _ (by omega)]; exact i8 k h1 (by omega)
  refine J.aload_n 37 dX7_init_37 rfl rfl ?_
  obtain ⟨g10, e10⟩ : ∃ H : Nat → va_E, H = va_up g9 (19) (.inr (1, nl1)) := ⟨_, rfl⟩
  refine J.new 38 nl1 dX7_init_38 rfl inG1 tyX1_ok cl_RX7_26 it_RX1 iz_RX1 df1 (by decide) (by decide) (J.heap e10.symm ?_)
  have z10 : g10 (0) = .inr (7, [.ref (wN w + 1), .ref (wN w + 9), .ref (wN w + 17), .null, .null, .null, .null, .null, .null, .null]) := by rw [e10, va_up_ne _ _ (by omega)]; exact z9
  have l10 : ∀ k, k < 0 → g10 k = h k := fun k hk => by rw [e10]; exact (va_up_ne _ _ (by omega)).trans (l9 k hk)
  have y19_10 : g10 (19) = .inr (1, nl1) := by rw [e10]; exact va_up_self _ _ _
  have i10 : ∀ k, 0 < k → k < 20 → k ≠ 19 → g10 k = e0 w k := fun k h1 h2 x0 => by rw [e10, va_up_ne _ _ (by omega)]; exact i9 k h1 (by omega)
  refine J.dup 41 dX7_init_41 rfl ?_
  refine J.calli 42 dX7_init_42 ml_RX7_28 mi_yX1_init mn_yX1_init rfl (k_X1 w _ y19_10) rfl rfl (Nat.le_of_ble_eq_true rfl) (by decide) (by decide) ?_
  rintro _ g11 ⟨rfl, a11, b11⟩
  have z11 : g11 (0) = .inr (7, [.ref (wN w + 1), .ref (wN w + 9), .ref (wN w + 17), .null, .null, .null, .null, .null, .null, .null]) := (a11 _ (by omega)).trans z10
  have l11 : ∀ k, k < 0 → g11 k = h k := fun k hk => (a11 k (by omega)).trans (l10 k hk)
  have i11 : ∀ k, 0 < k → k < 25 → g11 k = e0 w k := fun k h1 h2 => by
    by_cases hk : k < 19
    · rw [a11 k hk]; exact i10 k h1 (by omega) (by omega)
    · exact b11 k (by omega) h2
  obtain ⟨g12, e12⟩ : ∃ H : Nat → va_E, H = va_up g11 (0) (.inr (7, [.ref (wN w + 1), .ref (wN w + 9), .ref (wN w + 17), .ref (wN w + 19), .null, .null, .null, .null, .null, .null])) := ⟨_, rfl⟩
  refine J.putF 45 dX7_init_45 ff_RX7_29 fp_7_3 rfl (by omega) z11 (Nat.le_of_ble_eq_true rfl) rfl rfl (J.heap e12.symm ?_)
  have z12 : g12 (0) = .inr (7, [.ref (wN w + 1), .ref (wN w + 9), .ref (wN w + 17), .ref (wN w + 19), .null, .null, .null, .null, .null, .null]) := by rw [e12]; exact va_up_self _ _ _
  have l12 : ∀ k, k < 0 → g12 k = h k := fun k hk => by rw [e12]; exact (va_up_ne _ _ (by omega)).trans (l11 k hk)
  have i12 : ∀ k, 0 < k → k < 25 → g12 k = e0 w k := fun k h1 h2 => by rw [e12, va_up_ne _ _ (by omega)]; exact i11 k h1 (by omega)
  refine J.aload_n 48 dX7_init_48 rfl rfl ?_
  obtain ⟨g13, e13⟩ : ∃ H : Nat → va_E, H = va_up g12 (25) (.inr (4, nl4)) := ⟨_, rfl⟩
  refine J.new 49 nl4 dX7_init_49 rfl inG4 tyX4_ok cl_RX7_33 it_RX4 iz_RX4 df4 (by decide) (by decide) (J.heap e13.symm ?_)
  have z13 : g13 (0) = .inr (7, [.ref (wN w + 1), .ref (wN w + 9), .ref (wN w + 17), .ref (wN w + 19), .null, .null, .null, .null, .null, .null]) := by rw [e13, va_up_ne _ _ (by omega)]; exact z12
  have l13 : ∀ k, k < 0 → g13 k = h k := fun k hk => by rw [e13]; exact (va_up_ne _ _ (by omega)).trans (l12 k hk)
  have y25_13 : g13 (25) = .inr (4, nl4) := by rw [e13]; exact va_up_self _ _ _
  have i13 : ∀ k, 0 < k → k < 26 → k ≠ 25 → g13 k = e0 w k := fun k h1 h2 x0 => by rw [e13, va_up_ne _ _ (by omega)]; exact i12 k h1 (by omega)
  refine J.dup 52 dX7_init_52 rfl ?_
  refine J.calli 53 dX7_init_53 ml_RX7_35 mi_yX4_init mn_yX4_init rfl (k_X4 w _ y25_13) rfl rfl (Nat.le_of_ble_eq_true rfl) (by decide) (by decide) ?_
  rintro _ g14 ⟨rfl, a14, b14⟩
  have z14 : g14 (0) = .inr (7, [.ref (wN w + 1), .ref (wN w + 9), .ref (wN w + 17), .ref (wN w + 19), .null, .null, .null, .null, .null, .null]) := (a14 _ (by omega)).trans z13
  have l14 : ∀ k, k < 0 → g14 k = h k := fun k hk => (a14 k (by omega)).trans (l13 k hk)
  have i14 : ∀ k, 0 < k → k < 155 → g14 k = e0 w k := fun k h1 h2 => by
    by_cases hk : k < 25
    · rw [a14 k hk]; exact i13 k h1 (by omega) (by omega)
    · exact b14 k (by omega) h2
  obtain ⟨g15, e15⟩ : ∃ H : Nat → va_E, H = va_up g14 (0) (.inr (7, [.ref (wN w + 1), .ref (wN w + 9), .ref (wN w + 17), .ref (wN w + 19), .ref (wN w + 25), .null, .null, .null, .null, .null])) := ⟨_, rfl⟩
  refine J.putF 56 dX7_init_56 ff_RX7_36 fp_7_4 rfl (by omega) z14 (Nat.le_of_ble_eq_true rfl) rfl rfl (J.heap e15.symm ?_)
  have z15 : g15 (0) = .inr (7, [.ref (wN w + 1), .ref (wN w + 9), .ref (wN w + 17), .ref (wN w + 19), .ref (wN w + 25), .null, .null, .null, .null, .null]) := by rw [e15]; exact va_up_self _ _ _
  have l15 : ∀ k, k < 0 → g15 k = h k := fun k hk => by rw [e15]; exact (va_up_ne _ _ (by omega)).trans (l14 k hk)
  have i15 : ∀ k, 0 < k → k < 155 → g15 k = e0 w k := fun k h1 h2 => by rw [e15, va_up_ne _ _ (by omega)]; exact i14 k h1 (by omega)
  refine J.aload_n 59 dX7_init_59 rfl rfl ?_
  obtain ⟨g16, e16⟩ : ∃ H : Nat → va_E, H = va_up g15 (155) (.inr (0, nl0)) := ⟨_, rfl⟩
  refine J.new 60 nl0 dX7_init_60 rfl inG0 tyX0_ok cl_RX7_40 it_RX0 iz_RX0 df0 (by decide) (by decide) (J.heap e16.symm ?_)
  have z16 : g16 (0) = .inr (7, [.ref (wN w + 1), .ref (wN w + 9), .ref (wN w + 17), .ref (wN w + 19), .ref (wN w + 25), .null, .null, .null, .null, .null]) := by rw [e16, va_up_ne _ _ (by omega)]; exact z15
  have l16 : ∀ k, k < 0 → g16 k = h k := fun k hk => by rw [e16]; exact (va_up_ne _ _ (by omega)).trans (l15 k hk)
  have y155_16 : g16 (155) = .inr (0, nl0) := by rw [e16]; exact va_up_self _ _ _
  have i16 : ∀ k, 0 < k → k < 156 → k ≠ 155 → g16 k = e0 w k := fun k h1 h2 x0 => by rw [e16, va_up_ne _ _ (by omega)]; exact i15 k h1 (by omega)
  refine J.dup 63 dX7_init_63 rfl ?_
  refine J.calli 64 dX7_init_64 ml_RX7_42 mi_yX0_init mn_yX0_init rfl (k_X0 w _ y155_16) rfl rfl (Nat.le_of_ble_eq_true rfl) (by decide) (by decide) ?_
  rintro _ g17 ⟨rfl, a17, b17⟩
  have z17 : g17 (0) = .inr (7, [.ref (wN w + 1), .ref (wN w + 9), .ref (wN w + 17), .ref (wN w + 19), .ref (wN w + 25), .null, .null, .null, .null, .null]) := (a17 _ (by omega)).trans z16
  have l17 : ∀ k, k < 0 → g17 k = h k := fun k hk => (a17 k (by omega)).trans (l16 k hk)
  have i17 : ∀ k, 0 < k → k < 158 → g17 k = e0 w k := fun k h1 h2 => by
    by_cases hk : k < 155
    · rw [a17 k hk]; exact i16 k h1 (by omega) (by omega)
    · exact b17 k (by omega) h2
  obtain ⟨g18, e18⟩ : ∃ H : Nat → va_E, H = va_up g17 (0) (.inr (7, [.ref (wN w + 1), .ref (wN w + 9), .ref (wN w + 17), .ref (wN w + 19), .ref (wN w + 25), .ref (wN w + 155), .null, .null, .null, .null])) := ⟨_, rfl⟩
  refine J.putF 67 dX7_init_67 ff_RX7_43 fp_7_5 rfl (by omega) z17 (Nat.le_of_ble_eq_true rfl) rfl rfl (J.heap e18.symm ?_)
  have z18 : g18 (0) = .inr (7, [.ref (wN w + 1), .ref (wN w + 9), .ref (wN w + 17), .ref (wN w + 19), .ref (wN w + 25), .ref (wN w + 155), .null, .null, .null, .null]) := by rw [e18]; exact va_up_self _ _ _
  have l18 : ∀ k, k < 0 → g18 k = h k := fun k hk => by rw [e18]; exact (va_up_ne _ _ (by omega)).trans (l17 k hk)
  have i18 : ∀ k, 0 < k → k < 158 → g18 k = e0 w k := fun k h1 h2 => by rw [e18, va_up_ne _ _ (by omega)]; exact i17 k h1 (by omega)
  refine J.aload_n 70 dX7_init_70 rfl rfl ?_
  obtain ⟨g19, e19⟩ : ∃ H : Nat → va_E, H = va_up g18 (158) (.inr (2, nl2)) := ⟨_, rfl⟩
  refine J.new 71 nl2 dX7_init_71 rfl inG2 tyX2_ok cl_RX7_47 it_RX2 iz_RX2 df2 (by decide) (by decide) (J.heap e19.symm ?_)
  have z19 : g19 (0) = .inr (7, [.ref (wN w + 1), .ref (wN w + 9), .ref (wN w + 17), .ref (wN w + 19), .ref (wN w + 25), .ref (wN w + 155), .null, .null, .null, .null]) := by rw [e19, va_up_ne _ _ (by omega)]; exact z18
  have l19 : ∀ k, k < 0 → g19 k = h k := fun k hk => by rw [e19]; exact (va_up_ne _ _ (by omega)).trans (l18 k hk)
  have y158_19 : g19 (158) = .inr (2, nl2) := by rw [e19]; exact va_up_self _ _ _
  have i19 : ∀ k, 0 < k → k < 159 → k ≠ 158 → g19 k = e0 w k := fun k h1 h2 x0 => by rw [e19, va_up_ne _ _ (by omega)]; exact i18 k h1 (by omega)
  refine J.dup 74 dX7_init_74 rfl ?_
  refine J.calli 75 dX7_init_75 ml_RX7_49 mi_yX2_init mn_yX2_init rfl (k_X2 w _ y158_19) rfl rfl (Nat.le_of_ble_eq_true rfl) (by decide) (by decide) ?_
  rintro _ g20 ⟨rfl, a20, b20⟩
  have z20 : g20 (0) = .inr (7, [.ref (wN w + 1), .ref (wN w + 9), .ref (wN w + 17), .ref (wN w + 19), .ref (wN w + 25), .ref (wN w + 155), .null, .null, .null, .null]) := (a20 _ (by omega)).trans z19
  have l20 : ∀ k, k < 0 → g20 k = h k := fun k hk => (a20 k (by omega)).trans (l19 k hk)
  have i20 : ∀ k, 0 < k → k < 159 → g20 k = e0 w k := fun k h1 h2 => by
    by_cases hk : k < 158
    · rw [a20 k hk]; exact i19 k h1 (by omega) (by omega)
    · exact b20 k (by omega) h2
  obtain ⟨g21, e21⟩ : ∃ H : Nat → va_E, H = va_up g20 (0) (.inr (7, [.ref (wN w + 1), .ref (wN w + 9), .ref (wN w + 17), .ref (wN w + 19), .ref (wN w + 25), .ref (wN w + 155), .ref (wN w + 158), .null, .null, .null])) := ⟨_, rfl⟩
  refine J.putF 78 dX7_init_78 ff_RX7_50 fp_7_6 rfl (by omega) z20 (Nat.le_of_ble_eq_true rfl) rfl rfl (J.heap e21.symm ?_)
  have z21 : g21 (0) = .inr (7, [.ref (wN w + 1), .ref (wN w + 9), .ref (wN w + 17), .ref (wN w + 19), .ref (wN w + 25), .ref (wN w + 155), .ref (wN w + 158), .null, .null, .null]) := by rw [e21]; exact va_up_self _ _ _
  have l21 : ∀ k, k < 0 → g21 k = h k := fun k hk => by rw [e21]; exact (va_up_ne _ _ (by omega)).trans (l20 k hk)
  have i21 : ∀ k, 0 < k → k < 159 → g21 k = e0 w k := fun k h1 h2 => by rw [e21, va_up_ne _ _ (by omega)]; exact i20 k h1 (by omega)
  refine J.aload_n 81 dX7_init_81 rfl rfl ?_
  refine J.iconst 82 (nI 2) dX7_init_82 (by decide +kernel) ?_
  obtain ⟨g22, e22⟩ : ∃ H : Nat → va_E, H = va_up g21 (159) (.inl (wS w, 2, .inr (.inr (.inr (.inr (fun _ => none)))))) := ⟨_, rfl⟩
  refine J.anew 83 dX7_init_83 cl_RX7_7 (nI_pos (by decide)) (nI_clamp (by decide)) (by decide) (by decide) (by decide) (J.heap e22.symm ?_)
  have z22 : g22 (0) = .inr (7, [.ref (wN w + 1), .ref (wN w + 9), .ref (wN w + 17), .ref (wN w + 19), .ref (wN w + 25), .ref (wN w + 155), .ref (wN w + 158), .null, .null, .null]) := by rw [e22, va_up_ne _ _ (by omega)]; exact z21
  have l22 : ∀ k, k < 0 → g22 k = h k := fun k hk => by rw [e22]; exact (va_up_ne _ _ (by omega)).trans (l21 k hk)
  have y159_22 : g22 (159) = .inl (wS w, 2, .inr (.inr (.inr (.inr (fun _ => none))))) := by rw [e22]; exact va_up_self _ _ _
  have i22 : ∀ k, 0 < k → k < 160 → k ≠ 159 → g22 k = e0 w k := fun k h1 h2 x0 => by rw [e22, va_up_ne _ _ (by omega)]; exact i21 k h1 (by omega)
  obtain ⟨g23, e23⟩ : ∃ H : Nat → va_E, H = va_up g22 (0) (.inr (7, [.ref (wN w + 1), .ref (wN w + 9), .ref (wN w + 17), .ref (wN w + 19), .ref (wN w + 25), .ref (wN w + 155), .ref (wN w + 158), .ref (wN w + 159), .null, .null])) := ⟨_, rfl⟩
  refine J.putF 86 dX7_init_86 ff_RX7_54 fp_7_7 rfl (by omega) z22 (Nat.le_of_ble_eq_true rfl) rfl rfl (J.heap e23.symm ?_)
  have z23 : g23 (0) = .inr (7, [.ref (wN w + 1), .ref (wN w + 9), .ref (wN w + 17), .ref (wN w + 19), .ref (wN w + 25), .ref (wN w + 155), .ref (wN w + 158), .ref (wN w + 159), .null, .null]) := by rw [e23]; exact va_up_self _ _ _
  have l23 : ∀ k, k < 0 → g23 k = h k := fun k hk => by rw [e23]; exact (va_up_ne _ _ (by omega)).trans (l22 k hk)
  have y159_23 : g23 (159) = .inl (wS w, 2, .inr (.inr (.inr (.inr (fun _ => none))))) := by rw [e23, va_up_ne _ _ (by omega)]; exact y159_22
  have i23 : ∀ k, 0 < k → k < 160 → k ≠ 159 → g23 k = e0 w k := fun k h1 h2 x0 => by rw [e23, va_up_ne _ _ (by omega)]; exact i22 k h1 (by omega) x0
  refine J.iconst 89 (nI 0) dX7_init_89 (by decide +kernel) ?_
  refine J.istore_n 90 dX7_init_90 rfl (by decide) ?_
  refine J.iload_n 91 dX7_init_91 rfl rfl ?_
  refine J.iconst 92 (nI 2) dX7_init_92 (by decide +kernel) ?_
  refine J.icmp_ge 93 115 dX7_init_93 (by decide) (fun q => absurd q (by decide)) (fun _ => ?_)
  refine J.aload_n 96 dX7_init_96 rfl rfl ?_
  refine J.getf 97 dX7_init_97 fl_RX7_54 (by omega) z23 (v := .ref (wN w + 159)) rfl ?_
  refine J.iload_n 100 dX7_init_100 rfl rfl ?_
  obtain ⟨g24, e24⟩ : ∃ H : Nat → va_E, H = va_up g23 (160) (.inr (5, nl5)) := ⟨_, rfl⟩
  refine J.new 101 nl5 dX7_init_101 rfl inG5 tyX5_ok cl_RX7_7 it_RX5 iz_RX5 df5 (by decide) (by decide) (J.heap e24.symm ?_)
  have z24 : g24 (0) = .inr (7, [.ref (wN w + 1), .ref (wN w + 9), .ref (wN w + 17), .ref (wN w + 19), .ref (wN w + 25), .ref (wN w + 155), .ref (wN w + 158), .ref (wN w + 159), .null, .null]) := by rw [e24, va_up_ne _ _ (by omega)]; exact z23
  have l24 : ∀ k, k < 0 → g24 k = h k := fun k hk => by rw [e24]; exact (va_up_ne _ _ (by omega)).trans (l23 k hk)
  have y159_24 : g24 (159) = .inl (wS w, 2, .inr (.inr (.inr (.inr (fun _ => none))))) := by rw [e24, va_up_ne _ _ (by omega)]; exact y159_23
  have y160_24 : g24 (160) = .inr (5, nl5) := by rw [e24]; exact va_up_self _ _ _
  have i24 : ∀ k, 0 < k → k < 161 → k ≠ 159 → k ≠ 160 → g24 k = e0 w k := fun k h1 h2 x0 x1 => by rw [e24, va_up_ne _ _ (by omega)]; exact i23 k h1 (by omega) x0
  refine J.dup 104 dX7_init_104 rfl ?_
  refine J.calli 105 dX7_init_105 ml_RX7_9 mi_yX5_init mn_yX5_init rfl (k_X5 w _ isS_160 y160_24) rfl rfl (Nat.le_of_ble_eq_true rfl) (by decide) (by decide) ?_
  rintro _ g25 ⟨rfl, a25, b25⟩
  have z25 : g25 (0) = .inr (7, [.ref (wN w + 1), .ref (wN w + 9), .ref (wN w + 17), .ref (wN w + 19), .ref (wN w + 25), .ref (wN w + 155), .ref (wN w + 158), .ref (wN w + 159), .null, .null]) := (a25 _ (by omega)).trans z24
  have l25 : ∀ k, k < 0 → g25 k = h k := fun k hk => (a25 k (by omega)).trans (l24 k hk)
  have y159_25 : g25 (159) = .inl (wS w, 2, .inr (.inr (.inr (.inr (fun _ => none))))) := (a25 _ (by omega)).trans y159_24
  have i25 : ∀ k, 0 < k → k < 168 → k ≠ 159 → g25 k = e0 w k := fun k h1 h2 x0 => by
    by_cases hk : k < 160
    · rw [a25 k hk]; exact i24 k h1 (by omega) x0 (by omega)
    · exact b25 k (by omega) h2
  obtain ⟨g26, e26⟩ : ∃ H : Nat → va_E, H = va_up g25 (159) (.inl (wS w, 2, .inr (.inr (.inr (.inr (va_up (fun _ => none) 0 (some (wN w + 160)))))))) := ⟨_, rfl⟩
  refine J.aast 108 dX7_init_108 (by omega) y159_25 (by omega) ((i25 160 (by omega) (by omega) (by omega)).trans (e0_S w isS_160)) rfl rfl (vp_in_nI (by decide) (by decide)) (J.heap (h' := g26) (by rw [nI_clamp (by decide)]; exact e26.symm) ?_)
  have z26 : g26 (0) = .inr (7, [.ref (wN w + 1), .ref (wN w + 9), .ref (wN w + 17), .ref (wN w + 19), .ref (wN w + 25), .ref (wN w + 155), .ref (wN w + 158), .ref (wN w + 159), .null, .null]) := by rw [e26, va_up_ne _ _ (by omega)]; exact z25
  have l26 : ∀ k, k < 0 → g26 k = h k := fun k hk => by rw [e26]; exact (va_up_ne _ _ (by omega)).trans (l25 k hk)
  have y159_26 : g26 (159) = .inl (wS w, 2, .inr (.inr (.inr (.inr (va_up (fun _ => none) 0 (some (wN w + 160))))))) := by rw [e26]; exact va_up_self _ _ _
  have i26 : ∀ k, 0 < k → k < 168 → k ≠ 159 → g26 k = e0 w k := fun k h1 h2 x0 => by rw [e26, va_up_ne _ _ (by omega)]; exact i25 k h1 (by omega) x0
  refine J.iinc 109 dX7_init_109 (nI 1) rfl (by decide +kernel) (by decide) ?_
  refine J.goto 112 91 dX7_init_112 (by decide) ?_
  refine J.iload_n 91 dX7_init_91 rfl rfl ?_
  refine J.iconst 92 (nI 2) dX7_init_92 (by decide +kernel) ?_
  refine J.icmp_ge 93 115 dX7_init_93 (by decide) (fun q => absurd q (by decide)) (fun _ => ?_)
  refine J.aload_n 96 dX7_init_96 rfl rfl ?_
  refine J.getf 97 dX7_init_97 fl_RX7_54 (by omega) z26 (v := .ref (wN w + 159)) rfl ?_
  refine J.iload_n 100 dX7_init_100 rfl rfl ?_
  obtain ⟨g27, e27⟩ : ∃ H : Nat → va_E, H = va_up g26 (168) (.inr (5, nl5)) := ⟨_, rfl⟩
  refine J.new 101 nl5 dX7_init_101 rfl inG5 tyX5_ok cl_RX7_7 it_RX5 iz_RX5 df5 (by decide) (by decide) (J.heap e27.symm ?_)
  have z27 : g27 (0) = .inr (7, [.ref (wN w + 1), .ref (wN w + 9), .ref (wN w + 17), .ref (wN w + 19), .ref (wN w + 25), .ref (wN w + 155), .ref (wN w + 158), .ref (wN w + 159), .null, .null]) := by rw [e27, va_up_ne _ _ (by omega)]; exact z26
  have l27 : ∀ k, k < 0 → g27 k = h k := fun k hk => by rw [e27]; exact (va_up_ne _ _ (by omega)).trans (l26 k hk)
  have y159_27 : g27 (159) = .inl (wS w, 2, .inr (.inr (.inr (.inr (va_up (fun _ => none) 0 (some (wN w + 160))))))) := by rw [e27, va_up_ne _ _ (by omega)]; exact y159_26
  have y168_27 : g27 (168) = .inr (5, nl5) := by rw [e27]; exact va_up_self _ _ _
  have i27 : ∀ k, 0 < k → k < 169 → k ≠ 159 → k ≠ 168 → g27 k = e0 w k := fun k h1 h2 x0 x1 => by rw [e27, va_up_ne _ _ (by omega)]; exact i26 k h1 (by omega) x0
  refine J.dup 104 dX7_init_104 rfl ?_
  refine J.calli 105 dX7_init_105 ml_RX7_9 mi_yX5_init mn_yX5_init rfl (k_X5 w _ isS_168 y168_27) rfl rfl (Nat.le_of_ble_eq_true rfl) (by decide) (by decide) ?_
  rintro _ g28 ⟨rfl, a28, b28⟩
  have z28 : g28 (0) = .inr (7, [.ref (wN w + 1), .ref (wN w + 9), .ref (wN w + 17), .ref (wN w + 19), .ref (wN w + 25), .ref (wN w + 155), .ref (wN w + 158), .ref (wN w + 159), .null, .null]) := (a28 _ (by omega)).trans z27
  have l28 : ∀ k, k < 0 → g28 k = h k := fun k hk => (a28 k (by omega)).trans (l27 k hk)
  have y159_28 : g28 (159) = .inl (wS w, 2, .inr (.inr (.inr (.inr (va_up (fun _ => none) 0 (some (wN w + 160))))))) := (a28 _ (by omega)).trans y159_27
  have i28 : ∀ k, 0 < k → k < 176 → k ≠ 159 → g28 k = e0 w k := fun k h1 h2 x0 => by
    by_cases hk : k < 168
    · rw [a28 k hk]; exact i27 k h1 (by omega) x0 (by omega)
    · exact b28 k (by omega) h2
  obtain ⟨g29, e29⟩ : ∃ H : Nat → va_E, H = va_up g28 (159) (.inl (wS w, 2, .inr (.inr (.inr (.inr (va_up (va_up (fun _ => none) 0 (some (wN w + 160))) 1 (some (wN w + 168)))))))) := ⟨_, rfl⟩
  refine J.aast 108 dX7_init_108 (by omega) y159_28 (by omega) ((i28 168 (by omega) (by omega) (by omega)).trans (e0_S w isS_168)) rfl rfl (vp_in_nI (by decide) (by decide)) (J.heap (h' := g29) (by rw [nI_clamp (by decide)]; exact e29.symm) ?_)
  have z29 : g29 (0) = .inr (7, [.ref (wN w + 1), .ref (wN w + 9), .ref (wN w + 17), .ref (wN w + 19), .ref (wN w + 25), .ref (wN w + 155), .ref (wN w + 158), .ref (wN w + 159), .null, .null]) := by rw [e29, va_up_ne _ _ (by omega)]; exact z28
  have l29 : ∀ k, k < 0 → g29 k = h k := fun k hk => by rw [e29]; exact (va_up_ne _ _ (by omega)).trans (l28 k hk)
  have y159_29 : g29 (159) = .inl (wS w, 2, .inr (.inr (.inr (.inr (va_up (va_up (fun _ => none) 0 (some (wN w + 160))) 1 (some (wN w + 168))))))) := by rw [e29]; exact va_up_self _ _ _
  have i29 : ∀ k, 0 < k → k < 176 → k ≠ 159 → g29 k = e0 w k := fun k h1 h2 x0 => by rw [e29, va_up_ne _ _ (by omega)]; exact i28 k h1 (by omega) x0
  refine J.iinc 109 dX7_init_109 (nI 2) rfl (by decide +kernel) (by decide) ?_
  refine J.goto 112 91 dX7_init_112 (by decide) ?_
  refine J.iload_n 91 dX7_init_91 rfl rfl ?_
  refine J.iconst 92 (nI 2) dX7_init_92 (by decide +kernel) ?_
  refine J.icmp_ge 93 115 dX7_init_93 (by decide) (fun _ => ?_) (fun q => absurd q (by decide))
  refine J.aload_n 115 dX7_init_115 rfl rfl ?_
  refine J.iconst 116 (nI 2) dX7_init_116 (by decide +kernel) ?_
  obtain ⟨g30, e30⟩ : ∃ H : Nat → va_E, H = va_up g29 (176) (.inl (wI w, 2, .inl (fun _ => 0))) := ⟨_, rfl⟩
  refine J.newa 117 dX7_init_117 ac_int (nI_pos (by decide)) (nI_clamp (by decide)) (by decide) (by decide) (by decide) (J.heap e30.symm ?_)
  have z30 : g30 (0) = .inr (7, [.ref (wN w + 1), .ref (wN w + 9), .ref (wN w + 17), .ref (wN w + 19), .ref (wN w + 25), .ref (wN w + 155), .ref (wN w + 158), .ref (wN w + 159), .null, .null]) := by rw [e30, va_up_ne _ _ (by omega)]; exact z29
  have l30 : ∀ k, k < 0 → g30 k = h k := fun k hk => by rw [e30]; exact (va_up_ne _ _ (by omega)).trans (l29 k hk)
  have y159_30 : g30 (159) = .inl (wS w, 2, .inr (.inr (.inr (.inr (va_up (va_up (fun _ => none) 0 (some (wN w + 160))) 1 (some (wN w + 168))))))) := by rw [e30, va_up_ne _ _ (by omega)]; exact y159_29
  have i30 : ∀ k, 0 < k → k < 177 → k ≠ 159 → g30 k = e0 w k := fun k h1 h2 x0 => by
    by_cases hk : k = 176
    · subst hk; rw [e30, va_up_self]; exact e0_i (a_176.2.1) (by decide)
    · rw [e30, va_up_ne _ _ hk]; exact i29 k h1 (by omega) x0
  obtain ⟨g31, e31⟩ : ∃ H : Nat → va_E, H = va_up g30 (0) (.inr (7, [.ref (wN w + 1), .ref (wN w + 9), .ref (wN w + 17), .ref (wN w + 19), .ref (wN w + 25), .ref (wN w + 155), .ref (wN w + 158), .ref (wN w + 159), .ref (wN w + 176), .null])) := ⟨_, rfl⟩
  refine J.putF 119 dX7_init_119 ff_RX7_58 fp_7_8 rfl (by omega) z30 (Nat.le_of_ble_eq_true rfl) rfl rfl (J.heap e31.symm ?_)
  have z31 : g31 (0) = .inr (7, [.ref (wN w + 1), .ref (wN w + 9), .ref (wN w + 17), .ref (wN w + 19), .ref (wN w + 25), .ref (wN w + 155), .ref (wN w + 158), .ref (wN w + 159), .ref (wN w + 176), .null]) := by rw [e31]; exact va_up_self _ _ _
  have l31 : ∀ k, k < 0 → g31 k = h k := fun k hk => by rw [e31]; exact (va_up_ne _ _ (by omega)).trans (l30 k hk)
  have y159_31 : g31 (159) = .inl (wS w, 2, .inr (.inr (.inr (.inr (va_up (va_up (fun _ => none) 0 (some (wN w + 160))) 1 (some (wN w + 168))))))) := by rw [e31, va_up_ne _ _ (by omega)]; exact y159_30
  have i31 : ∀ k, 0 < k → k < 177 → k ≠ 159 → g31 k = e0 w k := fun k h1 h2 x0 => by rw [e31, va_up_ne _ _ (by omega)]; exact i30 k h1 (by omega) x0
  refine J.aload_n 122 dX7_init_122 rfl rfl ?_
  refine J.iconst 123 (nI 2) dX7_init_123 (by decide +kernel) ?_
  obtain ⟨g32, e32⟩ : ∃ H : Nat → va_E, H = va_up g31 (177) (.inl (wZ w, 2, .inl (fun _ => 0))) := ⟨_, rfl⟩
  refine J.newz 124 dX7_init_124 ac_boolean (nI_pos (by decide)) (nI_clamp (by decide)) (by decide) (by decide) (by decide) (J.heap e32.symm ?_)
  have z32 : g32 (0) = .inr (7, [.ref (wN w + 1), .ref (wN w + 9), .ref (wN w + 17), .ref (wN w + 19), .ref (wN w + 25), .ref (wN w + 155), .ref (wN w + 158), .ref (wN w + 159), .ref (wN w + 176), .null]) := by rw [e32, va_up_ne _ _ (by omega)]; exact z31
  have l32 : ∀ k, k < 0 → g32 k = h k := fun k hk => by rw [e32]; exact (va_up_ne _ _ (by omega)).trans (l31 k hk)
  have y159_32 : g32 (159) = .inl (wS w, 2, .inr (.inr (.inr (.inr (va_up (va_up (fun _ => none) 0 (some (wN w + 160))) 1 (some (wN w + 168))))))) := by rw [e32, va_up_ne _ _ (by omega)]; exact y159_31
  have i32 : ∀ k, 0 < k → k < 178 → k ≠ 159 → g32 k = e0 w k := fun k h1 h2 x0 => by
    by_cases hk : k = 177
    · subst hk; rw [e32, va_up_self]; exact e0_z (a_177.2.1)
    · rw [e32, va_up_ne _ _ hk]; exact i31 k h1 (by omega) x0
  obtain ⟨g33, e33⟩ : ∃ H : Nat → va_E, H = va_up g32 (0) (.inr (7, [.ref (wN w + 1), .ref (wN w + 9), .ref (wN w + 17), .ref (wN w + 19), .ref (wN w + 25), .ref (wN w + 155), .ref (wN w + 158), .ref (wN w + 159), .ref (wN w + 176), .ref (wN w + 177)])) := ⟨_, rfl⟩
  refine J.putF 126 dX7_init_126 ff_RX7_62 fp_7_9 rfl (by omega) z32 (Nat.le_of_ble_eq_true rfl) rfl rfl (J.heap e33.symm ?_)
  have z33 : g33 (0) = .inr (7, [.ref (wN w + 1), .ref (wN w + 9), .ref (wN w + 17), .ref (wN w + 19), .ref (wN w + 25), .ref (wN w + 155), .ref (wN w + 158), .ref (wN w + 159), .ref (wN w + 176), .ref (wN w + 177)]) := by rw [e33]; exact va_up_self _ _ _
  have l33 : ∀ k, k < 0 → g33 k = h k := fun k hk => by rw [e33]; exact (va_up_ne _ _ (by omega)).trans (l32 k hk)
  have y159_33 : g33 (159) = .inl (wS w, 2, .inr (.inr (.inr (.inr (va_up (va_up (fun _ => none) 0 (some (wN w + 160))) 1 (some (wN w + 168))))))) := by rw [e33, va_up_ne _ _ (by omega)]; exact y159_32
  have i33 : ∀ k, 0 < k → k < 178 → k ≠ 159 → g33 k = e0 w k := fun k h1 h2 x0 => by rw [e33, va_up_ne _ _ (by omega)]; exact i32 k h1 (by omega) x0
  refine J.vret 129 dX7_init_129 ⟨rfl, l33, fun k h1 h2 => ?_⟩
  by_cases hk : k = 0
  · subst hk; rw [z33]; exact (by unfold e0; rw [show lay 0 = .inl (7, [some 1, some 9, some 17, some 19, some 25, some 155, some 158, some 159, some 176, some 177]) from by decide +kernel]; rfl)
  by_cases hp0 : k = 159
  · subst hp0; rw [y159_33]; exact e0_159 w
  exact i33 k (by omega) h2 hp0
set_option maxHeartbeats 1000000 in
set_option maxRecDepth 100000 in
theorem k_X8 (w : Wd) (h : Nat → va_E) (h0 : h (178) = .inr (8, nl8)) : CN w yX8_init cX8_init 1 (rk 1 20 6 4096) (178) (185) h := by
  refine Ct.of (by decide) (Nat.le_of_ble_eq_true rfl) rfl ?_
  refine J.aload_n 0 dX8_init_0 rfl rfl ?_
  refine J.objInit 1 dX8_init_1 ml_RX8_1 im_obj co_obj (by decide) (Nat.le_of_ble_eq_true rfl) ?_
  refine J.aload_n 4 dX8_init_4 rfl rfl ?_
  refine J.sipush 5 (nI 3840) dX8_init_5 (by decide +kernel) ?_
  obtain ⟨g1, e1⟩ : ∃ H : Nat → va_E, H = va_up h (179) (.inl (wI w, 3840, .inl (fun _ => 0))) := ⟨_, rfl⟩
  refine J.newa 8 dX8_init_8 ac_int (nI_pos (by decide)) (nI_clamp (by decide)) (by decide) (by decide) (by decide) (J.heap e1.symm ?_)
  have z1 : g1 (178) = .inr (8, [.null, .int 0, .int 0, .null, .int 0, .int 0, .null, .null, .int 0, .null, .null, .int 0, .int 0, .int 0, .int 0, .int 0, .int 0]) := by rw [e1, va_up_ne _ _ (by omega)]; exact h0
  have l1 : ∀ k, k < 178 → g1 k = h k := fun k hk => by rw [e1]; exact (va_up_ne _ _ (by omega)).trans ((fun k _ => rfl) k hk)
  have y1_1 : g1 (179) = .inl (wI w, 3840, .inl (fun _ => 0)) := by rw [e1]; exact va_up_self _ _ _
  have i1 : ∀ k, 178 < k → k < 180 → k ≠ 179 → g1 k = e0 w k := fun k h1 h2 x0 => by rw [e1, va_up_ne _ _ (by omega)]; exact (fun k h1 h2 => absurd h1 (by omega)) k h1 (by omega)
  obtain ⟨g2, e2⟩ : ∃ H : Nat → va_E, H = va_up g1 (178) (.inr (8, [.ref (wN w + 179), .int 0, .int 0, .null, .int 0, .int 0, .null, .null, .int 0, .null, .null, .int 0, .int 0, .int 0, .int 0, .int 0, .int 0])) := ⟨_, rfl⟩
  refine J.putF 10 dX8_init_10 ff_RX8_7 fp_8_0 rfl (by omega) z1 (Nat.le_of_ble_eq_true rfl) rfl rfl (J.heap e2.symm ?_)
  have z2 : g2 (178) = .inr (8, [.ref (wN w + 179), .int 0, .int 0, .null, .int 0, .int 0, .null, .null, .int 0, .null, .null, .int 0, .int 0, .int 0, .int 0, .int 0, .int 0]) := by rw [e2]; exact va_up_self _ _ _
  have l2 : ∀ k, k < 178 → g2 k = h k := fun k hk => by rw [e2]; exact (va_up_ne _ _ (by omega)).trans (l1 k hk)
  have y1_2 : g2 (179) = .inl (wI w, 3840, .inl (fun _ => 0)) := by rw [e2, va_up_ne _ _ (by omega)]; exact y1_1
  have i2 : ∀ k, 178 < k → k < 180 → k ≠ 179 → g2 k = e0 w k := fun k h1 h2 x0 => by rw [e2, va_up_ne _ _ (by omega)]; exact i1 k h1 (by omega) x0
  refine J.aload_n 13 dX8_init_13 rfl rfl ?_
  refine J.sipush 14 (nI 200) dX8_init_14 (by decide +kernel) ?_
  obtain ⟨g3, e3⟩ : ∃ H : Nat → va_E, H = va_up g2 (180) (.inl (wI w, 200, .inl (fun _ => 0))) := ⟨_, rfl⟩
  refine J.newa 17 dX8_init_17 ac_int (nI_pos (by decide)) (nI_clamp (by decide)) (by decide) (by decide) (by decide) (J.heap e3.symm ?_)
  have z3 : g3 (178) = .inr (8, [.ref (wN w + 179), .int 0, .int 0, .null, .int 0, .int 0, .null, .null, .int 0, .null, .null, .int 0, .int 0, .int 0, .int 0, .int 0, .int 0]) := by rw [e3, va_up_ne _ _ (by omega)]; exact z2
  have l3 : ∀ k, k < 178 → g3 k = h k := fun k hk => by rw [e3]; exact (va_up_ne _ _ (by omega)).trans (l2 k hk)
  have y1_3 : g3 (179) = .inl (wI w, 3840, .inl (fun _ => 0)) := by rw [e3, va_up_ne _ _ (by omega)]; exact y1_2
  have i3 : ∀ k, 178 < k → k < 181 → k ≠ 179 → g3 k = e0 w k := fun k h1 h2 x0 => by
    by_cases hk : k = 180
    · subst hk; rw [e3, va_up_self]; exact e0_i (a_180.2.1) (by decide)
    · rw [e3, va_up_ne _ _ hk]; exact i2 k h1 (by omega) x0
  obtain ⟨g4, e4⟩ : ∃ H : Nat → va_E, H = va_up g3 (178) (.inr (8, [.ref (wN w + 179), .int 0, .int 0, .ref (wN w + 180), .int 0, .int 0, .null, .null, .int 0, .null, .null, .int 0, .int 0, .int 0, .int 0, .int 0, .int 0])) := ⟨_, rfl⟩
  refine J.putF 19 dX8_init_19 ff_RX8_13 fp_8_3 rfl (by omega) z3 (Nat.le_of_ble_eq_true rfl) rfl rfl (J.heap e4.symm ?_)
  have z4 : g4 (178) = .inr (8, [.ref (wN w + 179), .int 0, .int 0, .ref (wN w + 180), .int 0, .int 0, .null, .null, .int 0, .null, .null, .int 0, .int 0, .int 0, .int 0, .int 0, .int 0]) := by rw [e4]; exact va_up_self _ _ _
  have l4 : ∀ k, k < 178 → g4 k = h k := fun k hk => by rw [e4]; exact (va_up_ne _ _ (by omega)).trans (l3 k hk)
  have y1_4 : g4 (179) = .inl (wI w, 3840, .inl (fun _ => 0)) := by rw [e4, va_up_ne _ _ (by omega)]; exact y1_3
  have i4 : ∀ k, 178 < k → k < 181 → k ≠ 179 → g4 k = e0 w k := fun k h1 h2 x0 => by rw [e4, va_up_ne _ _ (by omega)]; exact i3 k h1 (by omega) x0
  refine J.aload_n 22 dX8_init_22 rfl rfl ?_
  refine J.iconst 23 (-1) dX8_init_23 (by decide +kernel) ?_
  obtain ⟨g5, e5⟩ : ∃ H : Nat → va_E, H = va_up g4 (178) (.inr (8, [.ref (wN w + 179), .int 0, .int 0, .ref (wN w + 180), .int 0, .int (-1), .null, .null, .int 0, .null, .null, .int 0, .int 0, .int 0, .int 0, .int 0, .int 0])) := ⟨_, rfl⟩
  refine J.putf 24 dX8_init_24 fl_RX8_16 fp_8_5 (by omega) z4 (Nat.le_of_ble_eq_true rfl) rfl rfl (J.heap e5.symm ?_)
  have z5 : g5 (178) = .inr (8, [.ref (wN w + 179), .int 0, .int 0, .ref (wN w + 180), .int 0, .int (-1), .null, .null, .int 0, .null, .null, .int 0, .int 0, .int 0, .int 0, .int 0, .int 0]) := by rw [e5]; exact va_up_self _ _ _
  have l5 : ∀ k, k < 178 → g5 k = h k := fun k hk => by rw [e5]; exact (va_up_ne _ _ (by omega)).trans (l4 k hk)
  have y1_5 : g5 (179) = .inl (wI w, 3840, .inl (fun _ => 0)) := by rw [e5, va_up_ne _ _ (by omega)]; exact y1_4
  have i5 : ∀ k, 178 < k → k < 181 → k ≠ 179 → g5 k = e0 w k := fun k h1 h2 x0 => by rw [e5, va_up_ne _ _ (by omega)]; exact i4 k h1 (by omega) x0
  refine J.aload_n 27 dX8_init_27 rfl rfl ?_
  refine J.bipush 28 (nI 20) dX8_init_28 (by decide +kernel) ?_
  obtain ⟨g6, e6⟩ : ∃ H : Nat → va_E, H = va_up g5 (181) (.inl (wI w, 20, .inl (fun _ => 0))) := ⟨_, rfl⟩
  refine J.newa 30 dX8_init_30 ac_int (nI_pos (by decide)) (nI_clamp (by decide)) (by decide) (by decide) (by decide) (J.heap e6.symm ?_)
  have z6 : g6 (178) = .inr (8, [.ref (wN w + 179), .int 0, .int 0, .ref (wN w + 180), .int 0, .int (-1), .null, .null, .int 0, .null, .null, .int 0, .int 0, .int 0, .int 0, .int 0, .int 0]) := by rw [e6, va_up_ne _ _ (by omega)]; exact z5
  have l6 : ∀ k, k < 178 → g6 k = h k := fun k hk => by rw [e6]; exact (va_up_ne _ _ (by omega)).trans (l5 k hk)
  have y1_6 : g6 (179) = .inl (wI w, 3840, .inl (fun _ => 0)) := by rw [e6, va_up_ne _ _ (by omega)]; exact y1_5
  have i6 : ∀ k, 178 < k → k < 182 → k ≠ 179 → g6 k = e0 w k := fun k h1 h2 x0 => by
    by_cases hk : k = 181
    · subst hk; rw [e6, va_up_self]; exact e0_i (a_181.2.1) (by decide)
    · rw [e6, va_up_ne _ _ hk]; exact i5 k h1 (by omega) x0
  obtain ⟨g7, e7⟩ : ∃ H : Nat → va_E, H = va_up g6 (178) (.inr (8, [.ref (wN w + 179), .int 0, .int 0, .ref (wN w + 180), .int 0, .int (-1), .ref (wN w + 181), .null, .int 0, .null, .null, .int 0, .int 0, .int 0, .int 0, .int 0, .int 0])) := ⟨_, rfl⟩
  refine J.putF 32 dX8_init_32 ff_RX8_20 fp_8_6 rfl (by omega) z6 (Nat.le_of_ble_eq_true rfl) rfl rfl (J.heap e7.symm ?_)
  have z7 : g7 (178) = .inr (8, [.ref (wN w + 179), .int 0, .int 0, .ref (wN w + 180), .int 0, .int (-1), .ref (wN w + 181), .null, .int 0, .null, .null, .int 0, .int 0, .int 0, .int 0, .int 0, .int 0]) := by rw [e7]; exact va_up_self _ _ _
  have l7 : ∀ k, k < 178 → g7 k = h k := fun k hk => by rw [e7]; exact (va_up_ne _ _ (by omega)).trans (l6 k hk)
  have y1_7 : g7 (179) = .inl (wI w, 3840, .inl (fun _ => 0)) := by rw [e7, va_up_ne _ _ (by omega)]; exact y1_6
  have i7 : ∀ k, 178 < k → k < 182 → k ≠ 179 → g7 k = e0 w k := fun k h1 h2 x0 => by rw [e7, va_up_ne _ _ (by omega)]; exact i6 k h1 (by omega) x0
  refine J.aload_n 35 dX8_init_35 rfl rfl ?_
  refine J.bipush 36 (nI 20) dX8_init_36 (by decide +kernel) ?_
  obtain ⟨g8, e8⟩ : ∃ H : Nat → va_E, H = va_up g7 (182) (.inl (wI w, 20, .inl (fun _ => 0))) := ⟨_, rfl⟩
  refine J.newa 38 dX8_init_38 ac_int (nI_pos (by decide)) (nI_clamp (by decide)) (by decide) (by decide) (by decide) (J.heap e8.symm ?_)
  have z8 : g8 (178) = .inr (8, [.ref (wN w + 179), .int 0, .int 0, .ref (wN w + 180), .int 0, .int (-1), .ref (wN w + 181), .null, .int 0, .null, .null, .int 0, .int 0, .int 0, .int 0, .int 0, .int 0]) := by rw [e8, va_up_ne _ _ (by omega)]; exact z7
  have l8 : ∀ k, k < 178 → g8 k = h k := fun k hk => by rw [e8]; exact (va_up_ne _ _ (by omega)).trans (l7 k hk)
  have y1_8 : g8 (179) = .inl (wI w, 3840, .inl (fun _ => 0)) := by rw [e8, va_up_ne _ _ (by omega)]; exact y1_7
  have i8 : ∀ k, 178 < k → k < 183 → k ≠ 179 → g8 k = e0 w k := fun k h1 h2 x0 => by
    by_cases hk : k = 182
    · subst hk; rw [e8, va_up_self]; exact e0_i (a_182.2.1) (by decide)
    · rw [e8, va_up_ne _ _ hk]; exact i7 k h1 (by omega) x0
  obtain ⟨g9, e9⟩ : ∃ H : Nat → va_E, H = va_up g8 (178) (.inr (8, [.ref (wN w + 179), .int 0, .int 0, .ref (wN w + 180), .int 0, .int (-1), .ref (wN w + 181), .ref (wN w + 182), .int 0, .null, .null, .int 0, .int 0, .int 0, .int 0, .int 0, .int 0])) := ⟨_, rfl⟩
  refine J.putF 40 dX8_init_40 ff_RX8_23 fp_8_7 rfl (by omega) z8 (Nat.le_of_ble_eq_true rfl) rfl rfl (J.heap e9.symm ?_)
  have z9 : g9 (178) = .inr (8, [.ref (wN w + 179), .int 0, .int 0, .ref (wN w + 180), .int 0, .int (-1), .ref (wN w + 181), .ref (wN w + 182), .int 0, .null, .null, .int 0, .int 0, .int 0, .int 0, .int 0, .int 0]) := by rw [e9]; exact va_up_self _ _ _
  have l9 : ∀ k, k < 178 → g9 k = h k := fun k hk => by rw [e9]; exact (va_up_ne _ _ (by omega)).trans (l8 k hk)
  have y1_9 : g9 (179) = .inl (wI w, 3840, .inl (fun _ => 0)) := by rw [e9, va_up_ne _ _ (by omega)]; exact y1_8
  have i9 : ∀ k, 178 < k → k < 183 → k ≠ 179 → g9 k = e0 w k := fun k h1 h2 x0 => by rw [e9, va_up_ne _ _ (by omega)]; exact i8 k h1 (by omega) x0
  refine J.aload_n 43 dX8_init_43 rfl rfl ?_
  refine J.bipush 44 (nI 8) dX8_init_44 (by decide +kernel) ?_
  obtain ⟨g10, e10⟩ : ∃ H : Nat → va_E, H = va_up g9 (183) (.inl (wI w, 8, .inl (fun _ => 0))) := ⟨_, rfl⟩
  refine J.newa 46 dX8_init_46 ac_int (nI_pos (by decide)) (nI_clamp (by decide)) (by decide) (by decide) (by decide) (J.heap e10.symm ?_)
  have z10 : g10 (178) = .inr (8, [.ref (wN w + 179), .int 0, .int 0, .ref (wN w + 180), .int 0, .int (-1), .ref (wN w + 181), .ref (wN w + 182), .int 0, .null, .null, .int 0, .int 0, .int 0, .int 0, .int 0, .int 0]) := by rw [e10, va_up_ne _ _ (by omega)]; exact z9
  have l10 : ∀ k, k < 178 → g10 k = h k := fun k hk => by rw [e10]; exact (va_up_ne _ _ (by omega)).trans (l9 k hk)
  have y1_10 : g10 (179) = .inl (wI w, 3840, .inl (fun _ => 0)) := by rw [e10, va_up_ne _ _ (by omega)]; exact y1_9
  have i10 : ∀ k, 178 < k → k < 184 → k ≠ 179 → g10 k = e0 w k := fun k h1 h2 x0 => by
    by_cases hk : k = 183
    · subst hk; rw [e10, va_up_self]; exact e0_i (a_183.2.1) (by decide)
    · rw [e10, va_up_ne _ _ hk]; exact i9 k h1 (by omega) x0
  obtain ⟨g11, e11⟩ : ∃ H : Nat → va_E, H = va_up g10 (178) (.inr (8, [.ref (wN w + 179), .int 0, .int 0, .ref (wN w + 180), .int 0, .int (-1), .ref (wN w + 181), .ref (wN w + 182), .int 0, .ref (wN w + 183), .null, .int 0, .int 0, .int 0, .int 0, .int 0, .int 0])) := ⟨_, rfl⟩
  refine J.putF 48 dX8_init_48 ff_RX8_26 fp_8_9 rfl (by omega) z10 (Nat.le_of_ble_eq_true rfl) rfl rfl (J.heap e11.symm ?_)
  have z11 : g11 (178) = .inr (8, [.ref (wN w + 179), .int 0, .int 0, .ref (wN w + 180), .int 0, .int (-1), .ref (wN w + 181), .ref (wN w + 182), .int 0, .ref (wN w + 183), .null, .int 0, .int 0, .int 0, .int 0, .int 0, .int 0]) := by rw [e11]; exact va_up_self _ _ _
  have l11 : ∀ k, k < 178 → g11 k = h k := fun k hk => by rw [e11]; exact (va_up_ne _ _ (by omega)).trans (l10 k hk)
  have y1_11 : g11 (179) = .inl (wI w, 3840, .inl (fun _ => 0)) := by rw [e11, va_up_ne _ _ (by omega)]; exact y1_10
  have i11 : ∀ k, 178 < k → k < 184 → k ≠ 179 → g11 k = e0 w k := fun k h1 h2 x0 => by rw [e11, va_up_ne _ _ (by omega)]; exact i10 k h1 (by omega) x0
  refine J.aload_n 51 dX8_init_51 rfl rfl ?_
  refine J.bipush 52 (nI 8) dX8_init_52 (by decide +kernel) ?_
  obtain ⟨g12, e12⟩ : ∃ H : Nat → va_E, H = va_up g11 (184) (.inl (wI w, 8, .inl (fun _ => 0))) := ⟨_, rfl⟩
  refine J.newa 54 dX8_init_54 ac_int (nI_pos (by decide)) (nI_clamp (by decide)) (by decide) (by decide) (by decide) (J.heap e12.symm ?_)
  have z12 : g12 (178) = .inr (8, [.ref (wN w + 179), .int 0, .int 0, .ref (wN w + 180), .int 0, .int (-1), .ref (wN w + 181), .ref (wN w + 182), .int 0, .ref (wN w + 183), .null, .int 0, .int 0, .int 0, .int 0, .int 0, .int 0]) := by rw [e12, va_up_ne _ _ (by omega)]; exact z11
  have l12 : ∀ k, k < 178 → g12 k = h k := fun k hk => by rw [e12]; exact (va_up_ne _ _ (by omega)).trans (l11 k hk)
  have y1_12 : g12 (179) = .inl (wI w, 3840, .inl (fun _ => 0)) := by rw [e12, va_up_ne _ _ (by omega)]; exact y1_11
  have i12 : ∀ k, 178 < k → k < 185 → k ≠ 179 → g12 k = e0 w k := fun k h1 h2 x0 => by
    by_cases hk : k = 184
    · subst hk; rw [e12, va_up_self]; exact e0_i (a_184.2.1) (by decide)
    · rw [e12, va_up_ne _ _ hk]; exact i11 k h1 (by omega) x0
  obtain ⟨g13, e13⟩ : ∃ H : Nat → va_E, H = va_up g12 (178) (.inr (8, [.ref (wN w + 179), .int 0, .int 0, .ref (wN w + 180), .int 0, .int (-1), .ref (wN w + 181), .ref (wN w + 182), .int 0, .ref (wN w + 183), .ref (wN w + 184), .int 0, .int 0, .int 0, .int 0, .int 0, .int 0])) := ⟨_, rfl⟩
  refine J.putF 56 dX8_init_56 ff_RX8_29 fp_8_10 rfl (by omega) z12 (Nat.le_of_ble_eq_true rfl) rfl rfl (J.heap e13.symm ?_)
  have z13 : g13 (178) = .inr (8, [.ref (wN w + 179), .int 0, .int 0, .ref (wN w + 180), .int 0, .int (-1), .ref (wN w + 181), .ref (wN w + 182), .int 0, .ref (wN w + 183), .ref (wN w + 184), .int 0, .int 0, .int 0, .int 0, .int 0, .int 0]) := by rw [e13]; exact va_up_self _ _ _
  have l13 : ∀ k, k < 178 → g13 k = h k := fun k hk => by rw [e13]; exact (va_up_ne _ _ (by omega)).trans (l12 k hk)
  have y1_13 : g13 (179) = .inl (wI w, 3840, .inl (fun _ => 0)) := by rw [e13, va_up_ne _ _ (by omega)]; exact y1_12
  have i13 : ∀ k, 178 < k → k < 185 → k ≠ 179 → g13 k = e0 w k := fun k h1 h2 x0 => by rw [e13, va_up_ne _ _ (by omega)]; exact i12 k h1 (by omega) x0
  refine J.aload_n 59 dX8_init_59 rfl rfl ?_
  refine J.getf 60 dX8_init_60 fl_RX8_7 (by omega) z13 (v := .ref (wN w + 179)) rfl ?_
  refine J.iconst 63 (nI 2) dX8_init_63 (by decide +kernel) ?_
  refine J.bipush 64 (nI 10) dX8_init_64 (by decide +kernel) ?_
  obtain ⟨g14, e14⟩ : ∃ H : Nat → va_E, H = va_up g13 (179) (.inl (wI w, 3840, .inl (upd (fun _ => 0) 2 (nI 10)))) := ⟨_, rfl⟩
  refine J.iast 66 dX8_init_66 (by omega) y1_13 (vp_in_nI (by decide) (by decide)) (J.heap (h' := g14) (by rw [nI_clamp (by decide)]; exact e14.symm) ?_)
  have z14 : g14 (178) = .inr (8, [.ref (wN w + 179), .int 0, .int 0, .ref (wN w + 180), .int 0, .int (-1), .ref (wN w + 181), .ref (wN w + 182), .int 0, .ref (wN w + 183), .ref (wN w + 184), .int 0, .int 0, .int 0, .int 0, .int 0, .int 0]) := by rw [e14, va_up_ne _ _ (by omega)]; exact z13
  have l14 : ∀ k, k < 178 → g14 k = h k := fun k hk => by rw [e14]; exact (va_up_ne _ _ (by omega)).trans (l13 k hk)
  have y1_14 : g14 (179) = .inl (wI w, 3840, .inl (upd (fun _ => 0) 2 (nI 10))) := by rw [e14]; exact va_up_self _ _ _
  have i14 : ∀ k, 178 < k → k < 185 → k ≠ 179 → g14 k = e0 w k := fun k h1 h2 x0 => by rw [e14, va_up_ne _ _ (by omega)]; exact i13 k h1 (by omega) x0
  refine J.vret 67 dX8_init_67 ⟨rfl, l14, fun k h1 h2 => ?_⟩
  by_cases hk : k = 178
  · subst hk; rw [z14]; exact (by unfold e0; rw [show lay 178 = .inl (8, [some 179, none, none, some 180, none, none, some 181, some 182, none, some 183, some 184, none, none, none, none, none, none]) from by decide +kernel]; rfl)
  by_cases hp0 : k = 179
  · subst hp0; rw [y1_14]; exact e0_179 w
  exact i14 k (by omega) h2 hp0
