/-! ===== part 10: the reference's leaves ===== -/
theorem V.heapv {w : Wd} {y : MethodName} {cc : ByteArray} {mL : Nat} {rt : Option FieldType} {R : Room} {X : Array Value → State → Prop} {Qf : List Frame → Array Value → State → State → Prop} {L : List (Nat × Value)} {S : List Value} {v v' : Vm2} {ca sl pc : Nat} (he : v = v') (k : J w y cc mL rt R X Qf pc L S 185 (hv w v') ca sl) : J w y cc mL rt R X Qf pc L S 185 (hv w v) ca sl := by
  subst he
  exact k
def ro (v : Vm2) (x : Nat) : Nat → Int32 := fun k => v 179 (x + k)
theorem ro_at (v : Vm2) (x a b : Nat) : v 179 (x + a + b) = ro v x (a + b) := by simp [ro, Nat.add_assoc]
theorem ro_a1 (v : Vm2) (x a : Nat) : v 179 (x + a) = ro v x a := rfl
def aimF (ρ : Nat → Int32) (c : Nat) : Int32 := ρ (3 + c) + ρ (19 + c)
abbrev trF (ρ : Nat → Int32) (c : Nat) : Prop := ρ (27 + c) = 0 ∧ ρ (35 + c) = 0
abbrev liF (ρ : Nat → Int32) (c : Nat) : Prop := ρ (27 + c) = nI 1 ∧ ρ (35 + c) = 0
abbrev inF (x a b : Int32) : Prop := a ≤ x ∧ x ≤ b
def hasF (s k : Int32) : Prop := (s >>> (k &&& 31)) &&& nI 1 = nI 1
def cpK (v : Vm2) (x y n : Nat) : Vm2 := fun a b => if a = 179 ∧ y ≤ b ∧ b < y + n then v 179 (x + (b - y)) else v a b
abbrev cpR (v : Vm2) (x y : Nat) : Vm2 := cpK v x y 192
theorem cpK_0 (v : Vm2) (x y : Nat) : v = cpK v x y 0 := by
  funext a b
  simp only [cpK]
  rw [if_neg (by omega)]
theorem cpK_s (v : Vm2) (x y n : Nat) (hd : x + 192 ≤ y ∨ y + 192 ≤ x) (hn : n < 192) : up2 (cpK v x y n) 179 (y + n) (cpK v x y n 179 (x + n)) = cpK v x y (n + 1) := by
  funext a b
  simp only [up2, cpK]
  by_cases h1 : a = 179 ∧ b = y + n
  · obtain ⟨rfl, rfl⟩ := h1
    rw [if_pos ⟨rfl, rfl⟩, if_neg (by omega), if_pos (by omega)]
    congr 2
    omega
  · rw [if_neg h1]
    by_cases h2 : a = 179 ∧ y ≤ b ∧ b < y + n
    · rw [if_pos h2, if_pos (by omega)]
    · rw [if_neg h2, if_neg (by omega)]

set_option maxHeartbeats 4000000 in
set_option maxRecDepth 100000 in
theorem c_X8_in (w : Wd) (v : Vm2) (a b c : Int32) : CP w yX8_in cX8_in 3 (some .boolean) (rm 0 0) [.int a, .int b, .int c] v (bI (inF a b c)) := by
  refine CI.of (by decide) (Nat.le_of_ble_eq_true rfl) ?_
  refine J.iload_n 0 dX8_in_0 rfl rfl ?_
  refine J.iload_n 1 dX8_in_1 rfl rfl ?_
  refine J.icmp_lt 2 14 dX8_in_2 (by decide) (fun c2 => ?_) (fun c2 => ?_)
  · refine J.iconst 14 (nI 0) dX8_in_14 (by decide +kernel) ?_
    exact V.zret 15 dX8_in_15 (Or.inl rfl) (⟨bI_f (fun q => by first | exact absurd c2 (Int32.not_lt.mpr q.1) | exact absurd c7 (Int32.not_lt.mpr q.2)), rfl⟩)
  · refine J.iload_n 5 dX8_in_5 rfl rfl ?_
    refine J.iload_n 6 dX8_in_6 rfl rfl ?_
    refine J.icmp_gt 7 14 dX8_in_7 (by decide) (fun c7 => ?_) (fun c7 => ?_)
    · refine J.iconst 14 (nI 0) dX8_in_14 (by decide +kernel) ?_
      exact V.zret 15 dX8_in_15 (Or.inl rfl) (⟨bI_f (fun q => by first | exact absurd c2 (Int32.not_lt.mpr q.1) | exact absurd c7 (Int32.not_lt.mpr q.2)), rfl⟩)
    · refine J.iconst 10 (nI 1) dX8_in_10 (by decide +kernel) ?_
      refine J.goto 11 15 dX8_in_11 (by decide) ?_
      exact V.zret 15 dX8_in_15 (Or.inr rfl) (⟨bI_t ⟨Int32.not_lt.mp c2, Int32.not_lt.mp c7⟩, rfl⟩)
set_option maxHeartbeats 4000000 in
set_option maxRecDepth 100000 in
theorem c_X8_has (w : Wd) (v : Vm2) (a b : Int32) : CP w yX8_has cX8_has 2 (some .boolean) (rm 0 0) [.int a, .int b] v (bI ((a >>> (b &&& 31)) &&& nI 1 = nI 1)) := by
  refine CI.of (by decide) (Nat.le_of_ble_eq_true rfl) ?_
  refine J.iload_n 0 dX8_has_0 rfl rfl ?_
  refine J.iload_n 1 dX8_has_1 rfl rfl ?_
  refine J.ishr 2 dX8_has_2 ?_
  refine J.iconst 3 (nI 1) dX8_has_3 (by decide +kernel) ?_
  refine J.iand 4 dX8_has_4 ?_
  refine J.iconst 5 (nI 1) dX8_has_5 (by decide +kernel) ?_
  refine J.icmp_ne 6 13 dX8_has_6 (by decide) (fun c6 => ?_) (fun c6 => ?_)
  · refine J.iconst 13 (nI 0) dX8_has_13 (by decide +kernel) ?_
    exact V.zret 14 dX8_has_14 (Or.inl rfl) (⟨bI_f c6, rfl⟩)
  · refine J.iconst 9 (nI 1) dX8_has_9 (by decide +kernel) ?_
    refine J.goto 10 14 dX8_has_10 (by decide) ?_
    exact V.zret 14 dX8_has_14 (Or.inr rfl) (⟨bI_t c6, rfl⟩)
set_option maxHeartbeats 4000000 in
set_option maxRecDepth 100000 in
theorem c_X8_aim (w : Wd) (v : Vm2) {x c : Nat} (hc : x + 19 + c < 3840) : CP w yX8_aim cX8_aim 3 (some .int) (rm 0 0) [.ref (wN w + 178), .int (nI x), .int (nI c)] v (aimF (ro v x) c) := by
  refine CI.of (by decide) (Nat.le_of_ble_eq_true rfl) ?_
  refine J.aload_n 0 dX8_aim_0 rfl rfl ?_
  refine V.getR 1 dX8_aim_1 fl_RX8_7 r_178_0 ?_
  refine J.iload_n 4 dX8_aim_4 rfl rfl ?_
  refine J.iconst 5 (nI 3) dX8_aim_5 (by decide +kernel) ?_
  refine V.iadd 6 dX8_aim_6 ?_
  refine J.iload_n 7 dX8_aim_7 rfl rfl ?_
  refine V.iadd 8 dX8_aim_8 ?_
  refine V.iald 9 dX8_aim_9 a_179 (by omega) ?_
  refine J.aload_n 10 dX8_aim_10 rfl rfl ?_
  refine V.getR 11 dX8_aim_11 fl_RX8_7 r_178_0 ?_
  refine J.iload_n 14 dX8_aim_14 rfl rfl ?_
  refine J.bipush 15 (nI 19) dX8_aim_15 (by decide +kernel) ?_
  refine V.iadd 17 dX8_aim_17 ?_
  refine J.iload_n 18 dX8_aim_18 rfl rfl ?_
  refine V.iadd 19 dX8_aim_19 ?_
  refine V.iald 20 dX8_aim_20 a_179 (by omega) ?_
  refine J.iadd 21 dX8_aim_21 ?_
  exact V.iret 22 dX8_aim_22 (⟨by simp only [aimF, ro, Nat.add_assoc], rfl⟩)
set_option maxHeartbeats 4000000 in
set_option maxRecDepth 100000 in
theorem c_X8_isClock (w : Wd) (v : Vm2) (c : Int32) : CP w yX8_isClock cX8_isClock 2 (some .boolean) (rm 1 22) [.ref (wN w + 178), .int c] v (bI (inF c 0 (v 179 0 - 1))) := by
  refine CI.of (by decide) (Nat.le_of_ble_eq_true rfl) ?_
  refine J.iload_n 0 dX8_isClock_0 rfl rfl ?_
  refine J.iconst 1 (nI 0) dX8_isClock_1 (by decide +kernel) ?_
  refine J.aload_n 2 dX8_isClock_2 rfl rfl ?_
  refine V.getR 3 dX8_isClock_3 fl_RX8_7 r_178_0 ?_
  refine J.iconst 6 (nI 0) dX8_isClock_6 (by decide +kernel) ?_
  refine V.iald 7 dX8_isClock_7 a_179 (by omega) ?_
  refine J.iconst 8 (nI 1) dX8_isClock_8 (by decide +kernel) ?_
  refine J.isub 9 dX8_isClock_9 ?_
  refine V.callsP 10 dX8_isClock_10 ml_RX8_32 mi_yX8_in ms_yX8_in (c_X8_in w _ _ _ _) rfl rfl (Nat.le_of_ble_eq_true rfl) (by decide) (by decide) ?_
  exact V.zret 13 dX8_isClock_13 (bI_01 _) (⟨rfl, rfl⟩)
set_option maxHeartbeats 4000000 in
set_option maxRecDepth 100000 in
theorem c_X8_isTrue (w : Wd) (v : Vm2) {x c : Nat} (hc : x + 35 + c < 3840) : CP w yX8_isTrue cX8_isTrue 3 (some .boolean) (rm 0 0) [.ref (wN w + 178), .int (nI x), .int (nI c)] v (bI (trF (ro v x) c)) := by
  refine CI.of (by decide) (Nat.le_of_ble_eq_true rfl) ?_
  refine J.aload_n 0 dX8_isTrue_0 rfl rfl ?_
  refine V.getR 1 dX8_isTrue_1 fl_RX8_7 r_178_0 ?_
  refine J.iload_n 4 dX8_isTrue_4 rfl rfl ?_
  refine J.bipush 5 (nI 27) dX8_isTrue_5 (by decide +kernel) ?_
  refine V.iadd 7 dX8_isTrue_7 ?_
  refine J.iload_n 8 dX8_isTrue_8 rfl rfl ?_
  refine V.iadd 9 dX8_isTrue_9 ?_
  refine V.iald 10 dX8_isTrue_10 a_179 (by omega) ?_
  refine J.if_ne 11 32 dX8_isTrue_11 (by decide) (fun c11 => ?_) (fun c11 => ?_)
  · refine J.iconst 32 (nI 0) dX8_isTrue_32 (by decide +kernel) ?_
    exact V.zret 33 dX8_isTrue_33 (Or.inl rfl) (⟨bI_f (fun q => by first | exact c11 ((ro_at v x 27 c).trans q.1) | exact c25 ((ro_at v x 35 c).trans q.2)), rfl⟩)
  · refine J.aload_n 14 dX8_isTrue_14 rfl rfl ?_
    refine V.getR 15 dX8_isTrue_15 fl_RX8_7 r_178_0 ?_
    refine J.iload_n 18 dX8_isTrue_18 rfl rfl ?_
    refine J.bipush 19 (nI 35) dX8_isTrue_19 (by decide +kernel) ?_
    refine V.iadd 21 dX8_isTrue_21 ?_
    refine J.iload_n 22 dX8_isTrue_22 rfl rfl ?_
    refine V.iadd 23 dX8_isTrue_23 ?_
    refine V.iald 24 dX8_isTrue_24 a_179 (by omega) ?_
    refine J.if_ne 25 32 dX8_isTrue_25 (by decide) (fun c25 => ?_) (fun c25 => ?_)
    · refine J.iconst 32 (nI 0) dX8_isTrue_32 (by decide +kernel) ?_
      exact V.zret 33 dX8_isTrue_33 (Or.inl rfl) (⟨bI_f (fun q => by first | exact c11 ((ro_at v x 27 c).trans q.1) | exact c25 ((ro_at v x 35 c).trans q.2)), rfl⟩)
    · refine J.iconst 28 (nI 1) dX8_isTrue_28 (by decide +kernel) ?_
      refine J.goto 29 33 dX8_isTrue_29 (by decide) ?_
      exact V.zret 33 dX8_isTrue_33 (Or.inr rfl) (⟨bI_t ⟨(ro_at v x 27 c).symm.trans c11, (ro_at v x 35 c).symm.trans c25⟩, rfl⟩)
set_option maxHeartbeats 4000000 in
set_option maxRecDepth 100000 in
theorem c_X8_isLiar (w : Wd) (v : Vm2) {x c : Nat} (hc : x + 35 + c < 3840) : CP w yX8_isLiar cX8_isLiar 3 (some .boolean) (rm 0 0) [.ref (wN w + 178), .int (nI x), .int (nI c)] v (bI (liF (ro v x) c)) := by
  refine CI.of (by decide) (Nat.le_of_ble_eq_true rfl) ?_
  refine J.aload_n 0 dX8_isLiar_0 rfl rfl ?_
  refine V.getR 1 dX8_isLiar_1 fl_RX8_7 r_178_0 ?_
  refine J.iload_n 4 dX8_isLiar_4 rfl rfl ?_
  refine J.bipush 5 (nI 27) dX8_isLiar_5 (by decide +kernel) ?_
  refine V.iadd 7 dX8_isLiar_7 ?_
  refine J.iload_n 8 dX8_isLiar_8 rfl rfl ?_
  refine V.iadd 9 dX8_isLiar_9 ?_
  refine V.iald 10 dX8_isLiar_10 a_179 (by omega) ?_
  refine J.iconst 11 (nI 1) dX8_isLiar_11 (by decide +kernel) ?_
  refine J.icmp_ne 12 33 dX8_isLiar_12 (by decide) (fun c12 => ?_) (fun c12 => ?_)
  · refine J.iconst 33 (nI 0) dX8_isLiar_33 (by decide +kernel) ?_
    exact V.zret 34 dX8_isLiar_34 (Or.inl rfl) (⟨bI_f (fun q => by first | exact c12 ((ro_at v x 27 c).trans q.1) | exact c26 ((ro_at v x 35 c).trans q.2)), rfl⟩)
  · refine J.aload_n 15 dX8_isLiar_15 rfl rfl ?_
    refine V.getR 16 dX8_isLiar_16 fl_RX8_7 r_178_0 ?_
    refine J.iload_n 19 dX8_isLiar_19 rfl rfl ?_
    refine J.bipush 20 (nI 35) dX8_isLiar_20 (by decide +kernel) ?_
    refine V.iadd 22 dX8_isLiar_22 ?_
    refine J.iload_n 23 dX8_isLiar_23 rfl rfl ?_
    refine V.iadd 24 dX8_isLiar_24 ?_
    refine V.iald 25 dX8_isLiar_25 a_179 (by omega) ?_
    refine J.if_ne 26 33 dX8_isLiar_26 (by decide) (fun c26 => ?_) (fun c26 => ?_)
    · refine J.iconst 33 (nI 0) dX8_isLiar_33 (by decide +kernel) ?_
      exact V.zret 34 dX8_isLiar_34 (Or.inl rfl) (⟨bI_f (fun q => by first | exact c12 ((ro_at v x 27 c).trans q.1) | exact c26 ((ro_at v x 35 c).trans q.2)), rfl⟩)
    · refine J.iconst 29 (nI 1) dX8_isLiar_29 (by decide +kernel) ?_
      refine J.goto 30 34 dX8_isLiar_30 (by decide) ?_
      exact V.zret 34 dX8_isLiar_34 (Or.inr rfl) (⟨bI_t ⟨(ro_at v x 27 c).symm.trans c12, (ro_at v x 35 c).symm.trans c26⟩, rfl⟩)
set_option maxHeartbeats 4000000 in
set_option maxRecDepth 100000 in
theorem c_X8_fine (w : Wd) (v : Vm2)  : CP w yX8_fine cX8_fine 1 (some .boolean) (rm 0 0) [.ref (wN w + 178)] v (bI (v 178 12 = 0)) := by
  refine CI.of (by decide) (Nat.le_of_ble_eq_true rfl) ?_
  refine J.aload_n 0 dX8_fine_0 rfl rfl ?_
  refine V.getI 1 dX8_fine_1 fl_RX8_41 i_178_12 ?_
  refine J.if_ne 4 11 dX8_fine_4 (by decide) (fun c4 => ?_) (fun c4 => ?_)
  · refine J.iconst 11 (nI 0) dX8_fine_11 (by decide +kernel) ?_
    exact V.zret 12 dX8_fine_12 (Or.inl rfl) (⟨bI_f c4, rfl⟩)
  · refine J.iconst 7 (nI 1) dX8_fine_7 (by decide +kernel) ?_
    refine J.goto 8 12 dX8_fine_8 (by decide) ?_
    exact V.zret 12 dX8_fine_12 (Or.inr rfl) (⟨bI_t c4, rfl⟩)
set_option maxHeartbeats 4000000 in
set_option maxRecDepth 100000 in
theorem c_X8_copyRow (w : Wd) (v : Vm2) {x y : Nat} (hx : x + 192 ≤ 3840) (hy : y + 192 ≤ 3840) (hd : x + 192 ≤ y ∨ y + 192 ≤ x) : CU w yX8_copyRow cX8_copyRow 4 (rm 0 0) [.ref (wN w + 178), .int (nI x), .int (nI y)] v (fun v' => v' = cpR v x y) := by
  refine CU.of (by decide) (Nat.le_of_ble_eq_true rfl) ?_
  have lp : ∀ (m : Nat) (k : Nat), (k ≤ 192) → 192 - k < m → J w yX8_copyRow cX8_copyRow 4 none (rm 0 0) XT (ZJ w 185 0 0 (PU w (fun v' => v' = cpR v x y))) 2 [(0, .ref (wN w + 178)), (1, .int (nI x)), (2, .int (nI y)), (3, .int (nI k))] [] 185 (hv w (cpK v x y k)) 0 0 := by
    intro m
    induction m with
    | zero =>
      intro k hi0 hm
      exact absurd hm (by omega)
    | succ m ih =>
      intro k hi0 hm
      refine J.iload_n 2 dX8_copyRow_2 rfl rfl ?_
      refine J.sipush 3 (nI 192) dX8_copyRow_3 (by decide +kernel) ?_
      refine V.icmp_ge 6 31 dX8_copyRow_6 (by decide) (by omega) (by omega) (fun c6 => ?_) (fun c6 => ?_)
      · exact V.vret 31 dX8_copyRow_31 (by rw [show k = 192 by omega])
      · refine J.aload_n 9 dX8_copyRow_9 rfl rfl ?_
        refine V.getR 10 dX8_copyRow_10 fl_RX8_7 r_178_0 ?_
        refine J.iload_n 13 dX8_copyRow_13 rfl rfl ?_
        refine J.iload_n 14 dX8_copyRow_14 rfl rfl ?_
        refine V.iadd 15 dX8_copyRow_15 ?_
        refine J.aload_n 16 dX8_copyRow_16 rfl rfl ?_
        refine V.getR 17 dX8_copyRow_17 fl_RX8_7 r_178_0 ?_
        refine J.iload_n 20 dX8_copyRow_20 rfl rfl ?_
        refine J.iload_n 21 dX8_copyRow_21 rfl rfl ?_
        refine V.iadd 22 dX8_copyRow_22 ?_
        refine V.iald 23 dX8_copyRow_23 a_179 (by omega) ?_
        refine V.iast 24 dX8_copyRow_24 a_179 (by omega) ?_
        refine V.iinc 25 dX8_copyRow_25 rfl (by decide) ?_
        refine J.goto 28 2 dX8_copyRow_28 (by decide) ?_
        refine V.heapv (cpK_s v x y k hd (by omega)) ?_
        exact ih (k + 1) (by omega) (by omega)
  refine J.iconst 0 (nI 0) dX8_copyRow_0 (by decide +kernel) ?_
  refine J.istore_n 1 dX8_copyRow_1 rfl (by decide) ?_
  refine V.heapv (cpK_0 v x y) ?_
  exact lp 193 0 (by omega) (by omega)
