/-! ===== part 31: a State of the class stands for a row ===== -/
def RepS (v : Vm2) (q : Nat) (ρ : Nat → Int32) (n ma : Nat) : Prop :=
  (v q 0 = ρ 0 ∧ v q 1 = ρ 1 ∧ v q 2 = ρ 2 ∧ v q 5 = ρ 171 ∧ v q 7 = ρ 190) ∧ (v q 3 = BM (fun c => ρ (27 + c)) ∧ v q 4 = BM (fun c => ρ (35 + c)) ∧ v q 6 = BM (fun a => if a < ma then ρ (184 + a) else 0)) ∧ (∀ c, c < n → v (q + 1) c = ρ (3 + c) ∧ v (q + 2) c = ρ (11 + c) ∧ v (q + 3) c = ρ (19 + c)) ∧ (∀ k, k < 64 → v (q + 4) k = ρ (107 + k) ∧ v (q + 5) k = ρ (43 + k)) ∧ ∀ a, a < ma → v (q + 6) a = ρ (172 + a) ∧ v (q + 7) a = ρ (178 + a)
theorem RepS.same {u v : Vm2} {q n ma : Nat} {ρ : Nat → Int32} (h : RepS v q ρ n ma) (hu : ∀ k, q ≤ k → k < q + 8 → u k = v k) : RepS u q ρ n ma := by
  unfold RepS
  rw [hu q (by omega) (by omega), hu (q + 1) (by omega) (by omega), hu (q + 2) (by omega) (by omega), hu (q + 3) (by omega) (by omega), hu (q + 4) (by omega) (by omega), hu (q + 5) (by omega) (by omega), hu (q + 6) (by omega) (by omega), hu (q + 7) (by omega) (by omega)]
  exact h
/-- what a row is, but for the sizes of its numbers -/
def Wf (ρ : Nat → Int32) (n f ma : Nat) : Prop := ρ 0 = nI n ∧ n ≤ 8 ∧ ρ 1 = nI f ∧ f ≤ 3 ∧ (∃ st, st ≤ 80 ∧ ρ 2 = nI st) ∧ ρ 171 = nI ma ∧ ma ≤ 6 ∧ (∀ c, c < 8 → (ρ (27 + c) = 0 ∨ (ρ (27 + c) = nI 1 ∧ c < n)) ∧ (ρ (35 + c) = 0 ∨ (ρ (35 + c) = nI 1 ∧ c < n))) ∧ ∀ a, a < ma → (ρ (184 + a) = 0 ∨ ρ (184 + a) = nI 1) ∧ ∃ cl, cl < n ∧ ρ (172 + a) = nI cl ∧ (ρ (184 + a) = 0 → ρ (3 + cl) < ρ (178 + a))
theorem Wf.z {ρ : Nat → Int32} {n f ma c : Nat} (h : Wf ρ n f ma) (hc : c < 8) : (ρ (27 + c) = 0 ↔ ¬ ρ (27 + c) = nI 1) ∧ (ρ (35 + c) = 0 ↔ ¬ ρ (35 + c) = nI 1) := by
  obtain ⟨h1, h2⟩ := h.2.2.2.2.2.2.2.1 c hc
  have h01 : ¬ (0 : Int32) = nI 1 := by decide
  constructor
  · rcases h1 with e | ⟨e, -⟩
    · rw [e]; exact ⟨fun _ => h01, fun _ => rfl⟩
    · rw [e]; exact ⟨fun z => absurd z.symm h01, fun z => absurd rfl z⟩
  · rcases h2 with e | ⟨e, -⟩
    · rw [e]; exact ⟨fun _ => h01, fun _ => rfl⟩
    · rw [e]; exact ⟨fun z => absurd z.symm h01, fun z => absurd rfl z⟩
theorem bt_i {f : Nat → Int32} {c : Nat} (hc : c < 8) : ((BM f >>> (nI c &&& 31)) &&& nI 1 = nI 1) ↔ f c = nI 1 := by
  rw [BM_t f hc]
  by_cases h : f c = nI 1
  · rw [if_pos h]; exact ⟨fun _ => h, fun _ => rfl⟩
  · rw [if_neg h]; exact ⟨fun z => absurd z n01, fun z => absurd z h⟩

theorem clk_of {n : Nat} {x : Int32} (hn : n < 2 ^ 31) (h1 : 0 ≤ x) (h2 : x < nI n) : clkB n x := by
  have a := Int32.le_iff_toInt_le.mp h1
  have b := Int32.lt_iff_toInt_lt.mp h2
  rw [nI_toInt hn] at b
  have h0 : (0 : Int32).toInt = 0 := by decide
  exact ⟨by omega, b⟩
theorem clk_no {n : Nat} {x : Int32} (hn : n < 2 ^ 31) (h : clkB n x) : ¬ x < 0 ∧ ¬ nI n ≤ x := by
  have h0 : (0 : Int32).toInt = 0 := by decide
  refine ⟨fun z => ?_, fun z => ?_⟩
  · have := Int32.lt_iff_toInt_lt.mp z
    have := h.1
    omega
  · have b := Int32.le_iff_toInt_le.mp z
    rw [nI_toInt hn] at b
    have := h.2
    omega
set_option maxHeartbeats 4000000 in
set_option maxRecDepth 100000 in
theorem c_X5_way (w : Wd) (v : Vm2) {j i : Nat} : CP w yX5_way cX5_way 2 (some .int) (rm 0 0) [.int (nI j), .int (nI i)] v (nI (j * 8 + i)) := by
  refine CI.of (by decide) (Nat.le_of_ble_eq_true rfl) ?_
  refine J.iload_n 0 dX5_way_0 rfl rfl ?_
  refine J.bipush 1 (nI 8) dX5_way_1 (by decide +kernel) ?_
  refine V.imul 3 dX5_way_3 ?_
  refine J.iload_n 4 dX5_way_4 rfl rfl ?_
  refine V.iadd 5 dX5_way_5 ?_
  exact V.iret 6 dX5_way_6 (⟨rfl, rfl⟩)
set_option maxHeartbeats 4000000 in
set_option maxRecDepth 100000 in
theorem c_X5_has (w : Wd) (v : Vm2) {q : Nat} (hq : IsS q) (c : Int32) {n : Nat} (hn0 : v q 0 = nI n) (hn : n ≤ 8) : CP w yX5_has cX5_has 2 (some .boolean) (rm 0 0) [.ref (wN w + q), .int c] v (bI (clkB n c)) := by
  refine CI.of (by decide) (Nat.le_of_ble_eq_true rfl) ?_
  refine J.iload_n 0 dX5_has_0 rfl rfl ?_
  refine J.if_lt 1 16 dX5_has_1 (by decide) (fun c1 => ?_) (fun c1 => ?_)
  · refine J.iconst 16 (nI 0) dX5_has_16 (by decide +kernel) ?_
    exact V.zret 17 dX5_has_17 (Or.inl rfl) (⟨bI_f (fun z => by first | exact (clk_no (n := n) (by omega) z).1 c1 | exact (clk_no (by omega) z).2 c9), rfl⟩)
  · refine J.iload_n 4 dX5_has_4 rfl rfl ?_
    refine J.aload_n 5 dX5_has_5 rfl rfl ?_
    refine V.getI 6 dX5_has_6 fl_RX5_37 hq.i0 ?_
    refine J.top hn0 ?_
    refine J.icmp_ge 9 16 dX5_has_9 (by decide) (fun c9 => ?_) (fun c9 => ?_)
    · refine J.iconst 16 (nI 0) dX5_has_16 (by decide +kernel) ?_
      exact V.zret 17 dX5_has_17 (Or.inl rfl) (⟨bI_f (fun z => by first | exact (clk_no (n := n) (by omega) z).1 c1 | exact (clk_no (by omega) z).2 c9), rfl⟩)
    · refine J.iconst 12 (nI 1) dX5_has_12 (by decide +kernel) ?_
      refine J.goto 13 17 dX5_has_13 (by decide) ?_
      exact V.zret 17 dX5_has_17 (Or.inr rfl) (⟨bI_t (clk_of (by omega) (Int32.not_lt.mp c1) (Int32.not_le.mp c9)), rfl⟩)
set_option maxHeartbeats 4000000 in
set_option maxRecDepth 100000 in
theorem c_X5_hasBoth (w : Wd) (v : Vm2) {q : Nat} (hq : IsS q) {j i : Int32} {n : Nat} (hn0 : v q 0 = nI n) (hn : n ≤ 8) : CP w yX5_hasBoth cX5_hasBoth 3 (some .boolean) (rm 1 21) [.ref (wN w + q), .int j, .int i] v (bI (prB n j i)) := by
  refine CI.of (by decide) (Nat.le_of_ble_eq_true rfl) ?_
  refine J.aload_n 0 dX5_hasBoth_0 rfl rfl ?_
  refine J.iload_n 1 dX5_hasBoth_1 rfl rfl ?_
  refine V.callvP 2 dX5_hasBoth_2 ml_RX5_70 mi_yX5_has mv_yX5_has (c_X5_has w _ hq _ hn0 (by omega)) rfl rfl (Nat.le_of_ble_eq_true rfl) (by decide) (by decide) hq.o rfl rfl ?_
  refine V.if_eqB 5 25 dX5_hasBoth_5 (by decide) (fun c5 => ?_) (fun c5 => ?_)
  · refine J.iconst 25 (nI 0) dX5_hasBoth_25 (by decide +kernel) ?_
    exact V.zret 26 dX5_hasBoth_26 (Or.inl rfl) (⟨bI_f (fun z => by first | exact c5 z.1 | exact c13 z.2.1 | exact z.2.2 c18), rfl⟩)
  · refine J.aload_n 8 dX5_hasBoth_8 rfl rfl ?_
    refine J.iload_n 9 dX5_hasBoth_9 rfl rfl ?_
    refine V.callvP 10 dX5_hasBoth_10 ml_RX5_70 mi_yX5_has mv_yX5_has (c_X5_has w _ hq _ hn0 (by omega)) rfl rfl (Nat.le_of_ble_eq_true rfl) (by decide) (by decide) hq.o rfl rfl ?_
    refine V.if_eqB 13 25 dX5_hasBoth_13 (by decide) (fun c13 => ?_) (fun c13 => ?_)
    · refine J.iconst 25 (nI 0) dX5_hasBoth_25 (by decide +kernel) ?_
      exact V.zret 26 dX5_hasBoth_26 (Or.inl rfl) (⟨bI_f (fun z => by first | exact c5 z.1 | exact c13 z.2.1 | exact z.2.2 c18), rfl⟩)
    · refine J.iload_n 16 dX5_hasBoth_16 rfl rfl ?_
      refine J.iload_n 17 dX5_hasBoth_17 rfl rfl ?_
      refine J.icmp_eq 18 25 dX5_hasBoth_18 (by decide) (fun c18 => ?_) (fun c18 => ?_)
      · refine J.iconst 25 (nI 0) dX5_hasBoth_25 (by decide +kernel) ?_
        exact V.zret 26 dX5_hasBoth_26 (Or.inl rfl) (⟨bI_f (fun z => by first | exact c5 z.1 | exact c13 z.2.1 | exact z.2.2 c18), rfl⟩)
      · refine J.iconst 21 (nI 1) dX5_hasBoth_21 (by decide +kernel) ?_
        refine J.goto 22 26 dX5_hasBoth_22 (by decide) ?_
        exact V.zret 26 dX5_hasBoth_26 (Or.inr rfl) (⟨bI_t ⟨c5, c13, c18⟩, rfl⟩)
set_option maxHeartbeats 4000000 in
set_option maxRecDepth 100000 in
theorem c_X5_lies (w : Wd) (v : Vm2) {q : Nat} (hq : IsS q) {c : Nat} {g : Nat → Int32} (hb : v q 3 = BM g) (hc : c < 8) : CP w yX5_lies cX5_lies 2 (some .boolean) (rm 0 0) [.ref (wN w + q), .int (nI c)] v (bI (g c = nI 1)) := by
  refine CI.of (by decide) (Nat.le_of_ble_eq_true rfl) ?_
  refine J.aload_n 0 dX5_lies_0 rfl rfl ?_
  refine V.getI 1 dX5_lies_1 fl_RX5_43 hq.i3 ?_
  refine J.top hb ?_
  refine J.iload_n 4 dX5_lies_4 rfl rfl ?_
  refine J.ishr 5 dX5_lies_5 ?_
  refine J.iconst 6 (nI 1) dX5_lies_6 (by decide +kernel) ?_
  refine J.iand 7 dX5_lies_7 ?_
  refine J.iconst 8 (nI 1) dX5_lies_8 (by decide +kernel) ?_
  refine J.icmp_ne 9 16 dX5_lies_9 (by decide) (fun c9 => ?_) (fun c9 => ?_)
  · refine J.iconst 16 (nI 0) dX5_lies_16 (by decide +kernel) ?_
    exact V.zret 17 dX5_lies_17 (Or.inl rfl) (⟨bI_f (fun z => c9 ((bt_i hc).mpr z)), rfl⟩)
  · refine J.iconst 12 (nI 1) dX5_lies_12 (by decide +kernel) ?_
    refine J.goto 13 17 dX5_lies_13 (by decide) ?_
    exact V.zret 17 dX5_lies_17 (Or.inr rfl) (⟨bI_t ((bt_i hc).mp c9), rfl⟩)
set_option maxHeartbeats 4000000 in
set_option maxRecDepth 100000 in
theorem c_X5_stands (w : Wd) (v : Vm2) {q : Nat} (hq : IsS q) {c : Nat} {g : Nat → Int32} (hb : v q 4 = BM g) (hc : c < 8) : CP w yX5_stands cX5_stands 2 (some .boolean) (rm 0 0) [.ref (wN w + q), .int (nI c)] v (bI (g c = nI 1)) := by
  refine CI.of (by decide) (Nat.le_of_ble_eq_true rfl) ?_
  refine J.aload_n 0 dX5_stands_0 rfl rfl ?_
  refine V.getI 1 dX5_stands_1 fl_RX5_46 hq.i4 ?_
  refine J.top hb ?_
  refine J.iload_n 4 dX5_stands_4 rfl rfl ?_
  refine J.ishr 5 dX5_stands_5 ?_
  refine J.iconst 6 (nI 1) dX5_stands_6 (by decide +kernel) ?_
  refine J.iand 7 dX5_stands_7 ?_
  refine J.iconst 8 (nI 1) dX5_stands_8 (by decide +kernel) ?_
  refine J.icmp_ne 9 16 dX5_stands_9 (by decide) (fun c9 => ?_) (fun c9 => ?_)
  · refine J.iconst 16 (nI 0) dX5_stands_16 (by decide +kernel) ?_
    exact V.zret 17 dX5_stands_17 (Or.inl rfl) (⟨bI_f (fun z => c9 ((bt_i hc).mpr z)), rfl⟩)
  · refine J.iconst 12 (nI 1) dX5_stands_12 (by decide +kernel) ?_
    refine J.goto 13 17 dX5_stands_13 (by decide) ?_
    exact V.zret 17 dX5_stands_17 (Or.inr rfl) (⟨bI_t ((bt_i hc).mp c9), rfl⟩)
set_option maxHeartbeats 4000000 in
set_option maxRecDepth 100000 in
theorem c_X5_isTrue (w : Wd) (v : Vm2) {q : Nat} (hq : IsS q) {c : Nat} {ρ : Nat → Int32} {n ma : Nat} (hR : RepS v q ρ n ma) {f : Nat} (hW : Wf ρ n f ma) (hc : c < 8) : CP w yX5_isTrue cX5_isTrue 2 (some .boolean) (rm 1 21) [.ref (wN w + q), .int (nI c)] v (bI (trF ρ c)) := by
  refine CI.of (by decide) (Nat.le_of_ble_eq_true rfl) ?_
  refine J.aload_n 0 dX5_isTrue_0 rfl rfl ?_
  refine J.iload_n 1 dX5_isTrue_1 rfl rfl ?_
  refine V.callvP 2 dX5_isTrue_2 ml_RX5_74 mi_yX5_lies mv_yX5_lies (c_X5_lies w _ hq (g := fun b9 => ρ (27 + b9)) hR.2.1.1 (by omega)) rfl rfl (Nat.le_of_ble_eq_true rfl) (by decide) (by decide) hq.o rfl rfl ?_
  refine V.if_neB 5 20 dX5_isTrue_5 (by decide) (fun c5 => ?_) (fun c5 => ?_)
  · refine J.iconst 20 (nI 0) dX5_isTrue_20 (by decide +kernel) ?_
    exact V.zret 21 dX5_isTrue_21 (Or.inl rfl) (⟨bI_f (fun z => by first | exact (hW.z hc).1.mp z.1 c5 | exact (hW.z hc).2.mp z.2 c13), rfl⟩)
  · refine J.aload_n 8 dX5_isTrue_8 rfl rfl ?_
    refine J.iload_n 9 dX5_isTrue_9 rfl rfl ?_
    refine V.callvP 10 dX5_isTrue_10 ml_RX5_77 mi_yX5_stands mv_yX5_stands (c_X5_stands w _ hq (g := fun b9 => ρ (35 + b9)) hR.2.1.2.1 (by omega)) rfl rfl (Nat.le_of_ble_eq_true rfl) (by decide) (by decide) hq.o rfl rfl ?_
    refine V.if_neB 13 20 dX5_isTrue_13 (by decide) (fun c13 => ?_) (fun c13 => ?_)
    · refine J.iconst 20 (nI 0) dX5_isTrue_20 (by decide +kernel) ?_
      exact V.zret 21 dX5_isTrue_21 (Or.inl rfl) (⟨bI_f (fun z => by first | exact (hW.z hc).1.mp z.1 c5 | exact (hW.z hc).2.mp z.2 c13), rfl⟩)
    · refine J.iconst 16 (nI 1) dX5_isTrue_16 (by decide +kernel) ?_
      refine J.goto 17 21 dX5_isTrue_17 (by decide) ?_
      exact V.zret 21 dX5_isTrue_21 (Or.inr rfl) (⟨bI_t ⟨(hW.z hc).1.mpr c5, (hW.z hc).2.mpr c13⟩, rfl⟩)
set_option maxHeartbeats 4000000 in
set_option maxRecDepth 100000 in
theorem c_X5_tellsLies (w : Wd) (v : Vm2) {q : Nat} (hq : IsS q) {c : Nat} {ρ : Nat → Int32} {n ma : Nat} (hR : RepS v q ρ n ma) {f : Nat} (hW : Wf ρ n f ma) (hc : c < 8) : CP w yX5_tellsLies cX5_tellsLies 2 (some .boolean) (rm 1 21) [.ref (wN w + q), .int (nI c)] v (bI (liF ρ c)) := by
  refine CI.of (by decide) (Nat.le_of_ble_eq_true rfl) ?_
  refine J.aload_n 0 dX5_tellsLies_0 rfl rfl ?_
  refine J.iload_n 1 dX5_tellsLies_1 rfl rfl ?_
  refine V.callvP 2 dX5_tellsLies_2 ml_RX5_74 mi_yX5_lies mv_yX5_lies (c_X5_lies w _ hq (g := fun b9 => ρ (27 + b9)) hR.2.1.1 (by omega)) rfl rfl (Nat.le_of_ble_eq_true rfl) (by decide) (by decide) hq.o rfl rfl ?_
  refine V.if_eqB 5 20 dX5_tellsLies_5 (by decide) (fun c5 => ?_) (fun c5 => ?_)
  · refine J.iconst 20 (nI 0) dX5_tellsLies_20 (by decide +kernel) ?_
    exact V.zret 21 dX5_tellsLies_21 (Or.inl rfl) (⟨bI_f (fun z => by first | exact c5 z.1 | exact (hW.z hc).2.mp z.2 c13), rfl⟩)
  · refine J.aload_n 8 dX5_tellsLies_8 rfl rfl ?_
    refine J.iload_n 9 dX5_tellsLies_9 rfl rfl ?_
    refine V.callvP 10 dX5_tellsLies_10 ml_RX5_77 mi_yX5_stands mv_yX5_stands (c_X5_stands w _ hq (g := fun b9 => ρ (35 + b9)) hR.2.1.2.1 (by omega)) rfl rfl (Nat.le_of_ble_eq_true rfl) (by decide) (by decide) hq.o rfl rfl ?_
    refine V.if_neB 13 20 dX5_tellsLies_13 (by decide) (fun c13 => ?_) (fun c13 => ?_)
    · refine J.iconst 20 (nI 0) dX5_tellsLies_20 (by decide +kernel) ?_
      exact V.zret 21 dX5_tellsLies_21 (Or.inl rfl) (⟨bI_f (fun z => by first | exact c5 z.1 | exact (hW.z hc).2.mp z.2 c13), rfl⟩)
    · refine J.iconst 16 (nI 1) dX5_tellsLies_16 (by decide +kernel) ?_
      refine J.goto 17 21 dX5_tellsLies_17 (by decide) ?_
      exact V.zret 21 dX5_tellsLies_21 (Or.inr rfl) (⟨bI_t ⟨c5, (hW.z hc).2.mpr c13⟩, rfl⟩)
set_option maxHeartbeats 4000000 in
set_option maxRecDepth 100000 in
theorem c_X5_aim (w : Wd) (v : Vm2) {q : Nat} (hq : IsS q) {c : Nat} {ρ : Nat → Int32} {n ma : Nat} (hR : RepS v q ρ n ma) (hc : c < n) (hn : n ≤ 8) : CP w yX5_aim cX5_aim 2 (some .int) (rm 0 0) [.ref (wN w + q), .int (nI c)] v (aimF ρ c) := by
  refine CI.of (by decide) (Nat.le_of_ble_eq_true rfl) ?_
  refine J.aload_n 0 dX5_aim_0 rfl rfl ?_
  refine V.getR 1 dX5_aim_1 fl_RX5_15 hq.r8 ?_
  refine J.iload_n 4 dX5_aim_4 rfl rfl ?_
  refine V.iald 5 dX5_aim_5 hq.a8 (by omega) ?_
  refine J.aload_n 6 dX5_aim_6 rfl rfl ?_
  refine V.getR 7 dX5_aim_7 fl_RX5_22 hq.r10 ?_
  refine J.iload_n 10 dX5_aim_10 rfl rfl ?_
  refine V.iald 11 dX5_aim_11 hq.a10 (by omega) ?_
  refine J.iadd 12 dX5_aim_12 ?_
  exact V.iret 13 dX5_aim_13 (⟨by unfold aimF; rw [(hR.2.2.1 c hc).1, (hR.2.2.1 c hc).2.2], rfl⟩)
set_option maxHeartbeats 4000000 in
set_option maxRecDepth 100000 in
theorem c_X5_heardOf (w : Wd) (v : Vm2) {q : Nat} (hq : IsS q) {j i : Nat} {ρ : Nat → Int32} {n ma : Nat} (hR : RepS v q ρ n ma) (hj : j < n) (hi : i < n) (hn : n ≤ 8) : CP w yX5_heardOf cX5_heardOf 3 (some .int) (rm 1 21) [.ref (wN w + q), .int (nI j), .int (nI i)] v (heF ρ j i) := by
  refine CI.of (by decide) (Nat.le_of_ble_eq_true rfl) ?_
  refine J.iload_n 0 dX5_heardOf_0 rfl rfl ?_
  refine J.iload_n 1 dX5_heardOf_1 rfl rfl ?_
  refine V.icmp_eq 2 13 dX5_heardOf_2 (by decide) (by omega) (by omega) (fun c2 => ?_) (fun c2 => ?_)
  · refine J.aload_n 13 dX5_heardOf_13 rfl rfl ?_
    refine J.iload_n 14 dX5_heardOf_14 rfl rfl ?_
    refine V.callvP 15 dX5_heardOf_15 ml_RX5_80 mi_yX5_aim mv_yX5_aim (c_X5_aim w _ hq hR (by omega) (by omega)) rfl rfl (Nat.le_of_ble_eq_true rfl) (by decide) (by decide) hq.o rfl rfl ?_
    exact V.iret 18 dX5_heardOf_18 (⟨by unfold heF; rw [if_pos (by first | exact Or.inl c2 | exact Or.inr c10)], rfl⟩)
  · refine J.aload_n 5 dX5_heardOf_5 rfl rfl ?_
    refine J.iload_n 6 dX5_heardOf_6 rfl rfl ?_
    refine V.callvP 7 dX5_heardOf_7 ml_RX5_77 mi_yX5_stands mv_yX5_stands (c_X5_stands w _ hq (g := fun b9 => ρ (35 + b9)) hR.2.1.2.1 (by omega)) rfl rfl (Nat.le_of_ble_eq_true rfl) (by decide) (by decide) hq.o rfl rfl ?_
    refine V.if_eqB 10 19 dX5_heardOf_10 (by decide) (fun c10 => ?_) (fun c10 => ?_)
    · refine J.aload_n 19 dX5_heardOf_19 rfl rfl ?_
      refine J.iload_n 20 dX5_heardOf_20 rfl rfl ?_
      refine V.callvP 21 dX5_heardOf_21 ml_RX5_74 mi_yX5_lies mv_yX5_lies (c_X5_lies w _ hq (g := fun b9 => ρ (27 + b9)) hR.2.1.1 (by omega)) rfl rfl (Nat.le_of_ble_eq_true rfl) (by decide) (by decide) hq.o rfl rfl ?_
      refine V.if_eqB 24 46 dX5_heardOf_24 (by decide) (fun c24 => ?_) (fun c24 => ?_)
      · refine J.aload_n 46 dX5_heardOf_46 rfl rfl ?_
        refine J.iload_n 47 dX5_heardOf_47 rfl rfl ?_
        refine V.callvP 48 dX5_heardOf_48 ml_RX5_80 mi_yX5_aim mv_yX5_aim (c_X5_aim w _ hq hR (by omega) (by omega)) rfl rfl (Nat.le_of_ble_eq_true rfl) (by decide) (by decide) hq.o rfl rfl ?_
        refine J.aload_n 51 dX5_heardOf_51 rfl rfl ?_
        refine V.getR 52 dX5_heardOf_52 fl_RX5_28 hq.r12 ?_
        refine J.iload_n 55 dX5_heardOf_55 rfl rfl ?_
        refine J.iload_n 56 dX5_heardOf_56 rfl rfl ?_
        refine V.callsP 57 dX5_heardOf_57 ml_RX5_84 mi_yX5_way ms_yX5_way (c_X5_way w _) rfl rfl (Nat.le_of_ble_eq_true rfl) (by decide) (by decide) ?_
        refine V.iald 60 dX5_heardOf_60 hq.a12 (by omega) ?_
        refine J.top (b := ρ (43 + (8 * j + i))) (by rw [(hR.2.2.2.1 _ (by omega)).2, Nat.mul_comm j 8]) ?_
        refine J.iadd 61 dX5_heardOf_61 ?_
        exact V.iret 62 dX5_heardOf_62 (⟨by unfold heF; rw [if_neg (fun z => z.elim c2 c10)]; first | exact (if_pos c24).symm | exact (if_neg c24).symm, rfl⟩)
      · refine J.aload_n 27 dX5_heardOf_27 rfl rfl ?_
        refine J.iload_n 28 dX5_heardOf_28 rfl rfl ?_
        refine V.callvP 29 dX5_heardOf_29 ml_RX5_80 mi_yX5_aim mv_yX5_aim (c_X5_aim w _ hq hR (by omega) (by omega)) rfl rfl (Nat.le_of_ble_eq_true rfl) (by decide) (by decide) hq.o rfl rfl ?_
        refine J.aload_n 32 dX5_heardOf_32 rfl rfl ?_
        refine V.getR 33 dX5_heardOf_33 fl_RX5_25 hq.r11 ?_
        refine J.iload_n 36 dX5_heardOf_36 rfl rfl ?_
        refine J.iload_n 37 dX5_heardOf_37 rfl rfl ?_
        refine V.callsP 38 dX5_heardOf_38 ml_RX5_84 mi_yX5_way ms_yX5_way (c_X5_way w _) rfl rfl (Nat.le_of_ble_eq_true rfl) (by decide) (by decide) ?_
        refine V.iald 41 dX5_heardOf_41 hq.a11 (by omega) ?_
        refine J.top (b := ρ (107 + (8 * j + i))) (by rw [(hR.2.2.2.1 _ (by omega)).1, Nat.mul_comm j 8]) ?_
        refine J.iadd 42 dX5_heardOf_42 ?_
        refine J.goto 43 62 dX5_heardOf_43 (by decide) ?_
        exact V.iret 62 dX5_heardOf_62 (⟨by unfold heF; rw [if_neg (fun z => z.elim c2 c10)]; first | exact (if_pos c24).symm | exact (if_neg c24).symm, rfl⟩)
    · refine J.aload_n 13 dX5_heardOf_13 rfl rfl ?_
      refine J.iload_n 14 dX5_heardOf_14 rfl rfl ?_
      refine V.callvP 15 dX5_heardOf_15 ml_RX5_80 mi_yX5_aim mv_yX5_aim (c_X5_aim w _ hq hR (by omega) (by omega)) rfl rfl (Nat.le_of_ble_eq_true rfl) (by decide) (by decide) hq.o rfl rfl ?_
      exact V.iret 18 dX5_heardOf_18 (⟨by unfold heF; rw [if_pos (by first | exact Or.inl c2 | exact Or.inr c10)], rfl⟩)
set_option maxHeartbeats 4000000 in
set_option maxRecDepth 100000 in
theorem c_X5_allStruck (w : Wd) (v : Vm2) {q : Nat} (hq : IsS q) {n f : Nat} (hn0 : v q 0 = nI n) (hf0 : v q 1 = nI f) (hn : n ≤ 8) (hf : f ≤ 3) : CP w yX5_allStruck cX5_allStruck 1 (some .boolean) (rm 0 0) [.ref (wN w + q)] v (bI (n ≤ 2 * f)) := by
  refine CI.of (by decide) (Nat.le_of_ble_eq_true rfl) ?_
  refine J.aload_n 0 dX5_allStruck_0 rfl rfl ?_
  refine V.getI 1 dX5_allStruck_1 fl_RX5_37 hq.i0 ?_
  refine J.top hn0 ?_
  refine J.iconst 4 (nI 2) dX5_allStruck_4 (by decide +kernel) ?_
  refine J.aload_n 5 dX5_allStruck_5 rfl rfl ?_
  refine V.getI 6 dX5_allStruck_6 fl_RX5_40 hq.i1 ?_
  refine J.top hf0 ?_
  refine V.imul 9 dX5_allStruck_9 ?_
  refine V.icmp_gt 10 17 dX5_allStruck_10 (by decide) (by omega) (by omega) (fun c10 => ?_) (fun c10 => ?_)
  · refine J.iconst 17 (nI 0) dX5_allStruck_17 (by decide +kernel) ?_
    exact V.zret 18 dX5_allStruck_18 (Or.inl rfl) (⟨bI_f (by omega), rfl⟩)
  · refine J.iconst 13 (nI 1) dX5_allStruck_13 (by decide +kernel) ?_
    refine J.goto 14 18 dX5_allStruck_14 (by decide) ?_
    exact V.zret 18 dX5_allStruck_18 (Or.inr rfl) (⟨bI_t c10, rfl⟩)
set_option maxHeartbeats 4000000 in
set_option maxRecDepth 100000 in
theorem c_X5_rank (w : Wd) (v : Vm2) {q : Nat} (hq : IsS q) {j i : Nat} {ρ : Nat → Int32} {n ma : Nat} (hR : RepS v q ρ n ma) (hn0 : ρ 0 = nI n) (hn : n ≤ 8) (hj : j < n) (hi : i < n) : CP w yX5_rank cX5_rank 7 (some .int) (rm 2 43) [.ref (wN w + q), .int (nI j), .int (nI i)] v (nI (rkF ρ j i n)) := by
  refine CI.of (by decide) (Nat.le_of_ble_eq_true rfl) ?_
  have lp : ∀ (m : Nat) (k : Nat), (k ≤ n) → n - k < m → J w yX5_rank cX5_rank 7 (some .int) (rm 2 43) XT (ZJ w 185 0 0 (PI w (fun r v' => r = nI (rkF ρ j i n) ∧ v' = v))) 13 [(0, .ref (wN w + q)), (1, .int (nI j)), (2, .int (nI i)), (3, .int (heF ρ j i)), (4, .int (nI (rkF ρ j i k))), (5, .int (nI k))] [] 185 (hv w (v)) 0 0 := by
    intro m
    induction m with
    | zero =>
      intro k hi0 hm
      exact absurd hm (by omega)
    | succ m ih =>
      intro k hi0 hm
      refine J.iload 13 dX5_rank_13 rfl ?_
      refine J.aload_n 15 dX5_rank_15 rfl rfl ?_
      refine V.getI 16 dX5_rank_16 fl_RX5_37 hq.i0 ?_
      refine J.top (hR.1.1.trans hn0) ?_
      refine V.icmp_ge 19 58 dX5_rank_19 (by decide) (by omega) (by omega) (fun c19 => ?_) (fun c19 => ?_)
      · refine J.iload 58 dX5_rank_58 rfl ?_
        obtain rfl : k = n := by omega
        exact V.iret 60 dX5_rank_60 (⟨rfl, rfl⟩)
      · refine J.aload_n 22 dX5_rank_22 rfl rfl ?_
        refine J.iload 23 dX5_rank_23 rfl ?_
        refine J.iload_n 25 dX5_rank_25 rfl rfl ?_
        refine V.callvP 26 dX5_rank_26 ml_RX5_88 mi_yX5_heardOf mv_yX5_heardOf (c_X5_heardOf w _ hq hR (by omega) (by omega) (by omega)) rfl rfl (Nat.le_of_ble_eq_true rfl) (by decide) (by decide) hq.o rfl rfl ?_
        refine J.istore 29 dX5_rank_29 (by decide) ?_
        refine J.iload 31 dX5_rank_31 rfl ?_
        refine J.iload_n 33 dX5_rank_33 rfl rfl ?_
        refine J.icmp_lt 34 49 dX5_rank_34 (by decide) (fun c34 => ?_) (fun c34 => ?_)
        · have e1 : rkF ρ j i (k + 1) = rkF ρ j i k + 1 := by rw [rkF_s, if_pos (Or.inl c34)]
          refine V.iinc 49 dX5_rank_49 rfl (by decide) ?_
          refine V.iinc 52 dX5_rank_52 rfl (by decide) ?_
          refine J.goto 55 13 dX5_rank_55 (by decide) ?_
          refine J.drop 6 ?_
          have q9 := ih (k + 1) (by omega) (by omega)
          rw [e1] at q9
          exact q9
        · refine J.iload 37 dX5_rank_37 rfl ?_
          refine J.iload_n 39 dX5_rank_39 rfl rfl ?_
          refine J.icmp_ne 40 52 dX5_rank_40 (by decide) (fun c40 => ?_) (fun c40 => ?_)
          · have e1 : rkF ρ j i (k + 1) = rkF ρ j i k + 0 := by rw [rkF_s, if_neg (fun z => z.elim c34 (fun z => c40 z.1))]
            refine V.iinc 52 dX5_rank_52 rfl (by decide) ?_
            refine J.goto 55 13 dX5_rank_55 (by decide) ?_
            refine J.drop 6 ?_
            have q9 := ih (k + 1) (by omega) (by omega)
            rw [e1] at q9
            exact q9
          · refine J.iload 43 dX5_rank_43 rfl ?_
            refine J.iload_n 45 dX5_rank_45 rfl rfl ?_
            refine V.icmp_ge 46 52 dX5_rank_46 (by decide) (by omega) (by omega) (fun c46 => ?_) (fun c46 => ?_)
            · have e1 : rkF ρ j i (k + 1) = rkF ρ j i k + 0 := by rw [rkF_s, if_neg (fun z => z.elim c34 (fun z => absurd z.2 (Nat.not_lt.mpr c46)))]
              refine V.iinc 52 dX5_rank_52 rfl (by decide) ?_
              refine J.goto 55 13 dX5_rank_55 (by decide) ?_
              refine J.drop 6 ?_
              have q9 := ih (k + 1) (by omega) (by omega)
              rw [e1] at q9
              exact q9
            · have e1 : rkF ρ j i (k + 1) = rkF ρ j i k + 1 := by rw [rkF_s, if_pos (Or.inr ⟨c40, c46⟩)]
              refine V.iinc 49 dX5_rank_49 rfl (by decide) ?_
              refine V.iinc 52 dX5_rank_52 rfl (by decide) ?_
              refine J.goto 55 13 dX5_rank_55 (by decide) ?_
              refine J.drop 6 ?_
              have q9 := ih (k + 1) (by omega) (by omega)
              rw [e1] at q9
              exact q9
  refine J.aload_n 0 dX5_rank_0 rfl rfl ?_
  refine J.iload_n 1 dX5_rank_1 rfl rfl ?_
  refine J.iload_n 2 dX5_rank_2 rfl rfl ?_
  refine V.callvP 3 dX5_rank_3 ml_RX5_88 mi_yX5_heardOf mv_yX5_heardOf (c_X5_heardOf w _ hq hR (by omega) (by omega) (by omega)) rfl rfl (Nat.le_of_ble_eq_true rfl) (by decide) (by decide) hq.o rfl rfl ?_
  refine J.istore_n 6 dX5_rank_6 rfl (by decide) ?_
  refine J.iconst 7 (nI 0) dX5_rank_7 (by decide +kernel) ?_
  refine J.istore 8 dX5_rank_8 (by decide) ?_
  refine J.iconst 10 (nI 0) dX5_rank_10 (by decide +kernel) ?_
  refine J.istore 11 dX5_rank_11 (by decide) ?_
  exact lp (n + 1) 0 (by omega) (by omega)
theorem mi_aim {a b : Int32} : miF a b = if b < a then b else a := rfl
theorem ma_aim {a b : Int32} : maF a b = if a < b then b else a := rfl
set_option maxHeartbeats 4000000 in
set_option maxRecDepth 100000 in
theorem c_X5_apart (w : Wd) (v : Vm2) {q : Nat} (hq : IsS q) {ρ : Nat → Int32} {n ma : Nat} (hR : RepS v q ρ n ma) {f : Nat} (hW : Wf ρ n f ma) : CP w yX5_apart cX5_apart 5 (some .int) (rm 2 42) [.ref (wN w + q)] v (apF ρ n) := by
  refine CI.of (by decide) (Nat.le_of_ble_eq_true rfl) ?_
  have hn := hW.2.1
  have KS : ∀ (m c s l h : Nat), s < 100 → c < n → 0 < s → loI ρ c = some l → hiI ρ c = some h → trF ρ c → (∀ (c s l h : Nat), c ≤ n → 0 < s → s ≤ c → loI ρ c = some l → hiI ρ c = some h → n - c < m → J w yX5_apart cX5_apart 5 (some .int) (rm 2 42) XT (ZJ w 185 0 0 (PI w (fun r v' => r = apF ρ n ∧ v' = v))) 9 [(0, .ref (wN w + q)), (1, .int (nI s)), (2, .int (aimF ρ l)), (3, .int (aimF ρ h)), (4, .int (nI c))] [] 185 (hv w (v)) 0 0) → n - c < m + 1 → s ≤ c → J w yX5_apart cX5_apart 5 (some .int) (rm 2 42) XT (ZJ w 185 0 0 (PI w (fun r v' => r = apF ρ n ∧ v' = v))) 9 [(0, .ref (wN w + q)), (1, .int (nI (s + 1))), (2, .int (if aimF ρ c < aimF ρ l then aimF ρ c else aimF ρ l)), (3, .int (if aimF ρ h < aimF ρ c then aimF ρ c else aimF ρ h)), (4, .int (nI (c + 1)))] [] 185 (hv w (v)) 0 0 := by
    intro m c s l h hs hc h0 h1 h2 ht ih hm hsc
    have e2 : loI ρ (c + 1) = if aimF ρ c < aimF ρ l then some c else some l := by unfold loI; rw [if_pos ht, h1]
    have e3 : hiI ρ (c + 1) = if aimF ρ h < aimF ρ c then some c else some h := by unfold hiI; rw [if_pos ht, h2]
    by_cases q1 : aimF ρ c < aimF ρ l
    · rw [if_pos q1] at e2 ⊢
      by_cases q2 : aimF ρ h < aimF ρ c
      · rw [if_pos q2] at e3 ⊢
        exact ih (c + 1) (s + 1) c c (by omega) (by omega) (by omega) e2 e3 (by omega)
      · rw [if_neg q2] at e3 ⊢
        exact ih (c + 1) (s + 1) c h (by omega) (by omega) (by omega) e2 e3 (by omega)
    · rw [if_neg q1] at e2 ⊢
      by_cases q2 : aimF ρ h < aimF ρ c
      · rw [if_pos q2] at e3 ⊢
        exact ih (c + 1) (s + 1) l c (by omega) (by omega) (by omega) e2 e3 (by omega)
      · rw [if_neg q2] at e3 ⊢
        exact ih (c + 1) (s + 1) l h (by omega) (by omega) (by omega) e2 e3 (by omega)
  have lS : ∀ (m : Nat) (c s l h : Nat), (c ≤ n) → (0 < s) → (s ≤ c) → (loI ρ c = some l) → (hiI ρ c = some h) → n - c < m → J w yX5_apart cX5_apart 5 (some .int) (rm 2 42) XT (ZJ w 185 0 0 (PI w (fun r v' => r = apF ρ n ∧ v' = v))) 9 [(0, .ref (wN w + q)), (1, .int (nI s)), (2, .int (aimF ρ l)), (3, .int (aimF ρ h)), (4, .int (nI c))] [] 185 (hv w (v)) 0 0 := by
    intro m
    induction m with
    | zero =>
      intro c s l h hi0 hi1 hi2 hi3 hi4 hm
      exact absurd hm (by omega)
    | succ m ih =>
      intro c s l h hi0 hi1 hi2 hi3 hi4 hm
      have hll := loI_lt _ _ _ hi3
      have hhh := hiI_lt _ _ _ hi4
      refine J.iload 9 dX5_apart_9 rfl ?_
      refine J.aload_n 11 dX5_apart_11 rfl rfl ?_
      refine V.getI 12 dX5_apart_12 fl_RX5_37 hq.i0 ?_
      refine J.top (hR.1.1.trans hW.1) ?_
      refine V.icmp_ge 15 84 dX5_apart_15 (by decide) (by omega) (by omega) (fun c15 => ?_) (fun c15 => ?_)
      · refine J.iload_n 84 dX5_apart_84 rfl rfl ?_
        refine V.if_ne 85 92 dX5_apart_85 (by decide) (by omega) (fun c85 => ?_) (fun c85 => absurd c85 (by omega))
        refine J.iload_n 92 dX5_apart_92 rfl rfl ?_
        refine J.iload_n 93 dX5_apart_93 rfl rfl ?_
        refine J.isub 94 dX5_apart_94 ?_
        obtain rfl : c = n := by omega
        exact V.iret 95 dX5_apart_95 (⟨by unfold apF; rw [hi3, hi4], rfl⟩)
      · refine J.aload_n 18 dX5_apart_18 rfl rfl ?_
        refine J.iload 19 dX5_apart_19 rfl ?_
        refine V.callvP 21 dX5_apart_21 ml_RX5_91 mi_yX5_isTrue mv_yX5_isTrue (c_X5_isTrue w _ hq hR hW (by omega)) rfl rfl (Nat.le_of_ble_eq_true rfl) (by decide) (by decide) hq.o rfl rfl ?_
        refine V.if_eqB 24 78 dX5_apart_24 (by decide) (fun c24 => ?_) (fun c24 => ?_)
        · have e2 : loI ρ (c + 1) = some l := by unfold loI; rw [if_neg c24, hi3]
          have e3 : hiI ρ (c + 1) = some h := by unfold hiI; rw [if_neg c24, hi4]
          refine V.iinc 78 dX5_apart_78 rfl (by decide) ?_
          refine J.goto 81 9 dX5_apart_81 (by decide) ?_
          first | exact ih (c + 1) s l h (by omega) (by omega) (by omega) e2 e3 (by omega) | exact KS m c s l h (by omega) (by omega) (by omega) hi3 hi4 c24 ih hm (by omega)
        · refine J.iload_n 27 dX5_apart_27 rfl rfl ?_
          refine V.if_ne 28 40 dX5_apart_28 (by decide) (by omega) (fun c28 => ?_) (fun c28 => absurd c28 (by omega))
          refine J.iload_n 40 dX5_apart_40 rfl rfl ?_
          refine J.aload_n 41 dX5_apart_41 rfl rfl ?_
          refine J.iload 42 dX5_apart_42 rfl ?_
          refine V.callvP 44 dX5_apart_44 ml_RX5_80 mi_yX5_aim mv_yX5_aim (c_X5_aim w _ hq hR (by omega) (by omega)) rfl rfl (Nat.le_of_ble_eq_true rfl) (by decide) (by decide) hq.o rfl rfl ?_
          refine V.callsP 47 dX5_apart_47 ml_RX5_94 mi_yJ9_min_7cf53 ms_yJ9_min_7cf53 (c_J9_min_7cf53 w _ _ _) rfl rfl (Nat.le_of_ble_eq_true rfl) (by decide) (by decide) ?_
          rw [mi_aim]
          refine J.istore_n 50 dX5_apart_50 rfl (by decide) ?_
          refine J.iload_n 51 dX5_apart_51 rfl rfl ?_
          refine V.if_ne 52 64 dX5_apart_52 (by decide) (by omega) (fun c52 => ?_) (fun c52 => absurd c52 (by omega))
          refine J.iload_n 64 dX5_apart_64 rfl rfl ?_
          refine J.aload_n 65 dX5_apart_65 rfl rfl ?_
          refine J.iload 66 dX5_apart_66 rfl ?_
          refine V.callvP 68 dX5_apart_68 ml_RX5_80 mi_yX5_aim mv_yX5_aim (c_X5_aim w _ hq hR (by omega) (by omega)) rfl rfl (Nat.le_of_ble_eq_true rfl) (by decide) (by decide) hq.o rfl rfl ?_
          refine V.callsP 71 dX5_apart_71 ml_RX5_99 mi_yJ9_max_7cf53 ms_yJ9_max_7cf53 (c_J9_max_7cf53 w _ _ _) rfl rfl (Nat.le_of_ble_eq_true rfl) (by decide) (by decide) ?_
          rw [ma_aim]
          refine J.istore_n 74 dX5_apart_74 rfl (by decide) ?_
          refine V.iinc 75 dX5_apart_75 rfl (by decide) ?_
          refine V.iinc 78 dX5_apart_78 rfl (by decide) ?_
          refine J.goto 81 9 dX5_apart_81 (by decide) ?_
          first | exact ih (c + 1) s l h (by omega) (by omega) (by omega) e2 e3 (by omega) | exact KS m c s l h (by omega) (by omega) (by omega) hi3 hi4 c24 ih hm (by omega)
  have l0 : ∀ (m : Nat) (c : Nat), (c ≤ n) → (loI ρ c = none) → (hiI ρ c = none) → n - c < m → J w yX5_apart cX5_apart 5 (some .int) (rm 2 42) XT (ZJ w 185 0 0 (PI w (fun r v' => r = apF ρ n ∧ v' = v))) 9 [(0, .ref (wN w + q)), (1, .int (nI 0)), (2, .int (nI 0)), (3, .int (nI 0)), (4, .int (nI c))] [] 185 (hv w (v)) 0 0 := by
    intro m
    induction m with
    | zero =>
      intro c hi0 hi1 hi2 hm
      exact absurd hm (by omega)
    | succ m ih =>
      intro c hi0 hi1 hi2 hm
      refine J.iload 9 dX5_apart_9 rfl ?_
      refine J.aload_n 11 dX5_apart_11 rfl rfl ?_
      refine V.getI 12 dX5_apart_12 fl_RX5_37 hq.i0 ?_
      refine J.top (hR.1.1.trans hW.1) ?_
      refine V.icmp_ge 15 84 dX5_apart_15 (by decide) (by omega) (by omega) (fun c15 => ?_) (fun c15 => ?_)
      · refine J.iload_n 84 dX5_apart_84 rfl rfl ?_
        refine J.if_ne 85 92 dX5_apart_85 (by decide) (fun q => absurd q (by decide)) (fun _ => ?_)
        refine J.iconst 88 (-1) dX5_apart_88 (by decide +kernel) ?_
        refine J.goto 89 95 dX5_apart_89 (by decide) ?_
        obtain rfl : c = n := by omega
        exact V.iret 95 dX5_apart_95 (⟨by unfold apF; rw [hi1, hi2], rfl⟩)
      · refine J.aload_n 18 dX5_apart_18 rfl rfl ?_
        refine J.iload 19 dX5_apart_19 rfl ?_
        refine V.callvP 21 dX5_apart_21 ml_RX5_91 mi_yX5_isTrue mv_yX5_isTrue (c_X5_isTrue w _ hq hR hW (by omega)) rfl rfl (Nat.le_of_ble_eq_true rfl) (by decide) (by decide) hq.o rfl rfl ?_
        refine V.if_eqB 24 78 dX5_apart_24 (by decide) (fun c24 => ?_) (fun c24 => ?_)
        · have e2 : loI ρ (c + 1) = none := by unfold loI; rw [if_neg c24, hi1]
          have e3 : hiI ρ (c + 1) = none := by unfold hiI; rw [if_neg c24, hi2]
          refine V.iinc 78 dX5_apart_78 rfl (by decide) ?_
          refine J.goto 81 9 dX5_apart_81 (by decide) ?_
          first | exact ih (c + 1) (by omega) e2 e3 (by omega) | exact lS (n + 1) (c + 1) 1 c c (by omega) (by omega) (by omega) e2 e3 (by omega)
        · have e2 : loI ρ (c + 1) = some c := by unfold loI; rw [if_pos c24, hi1]
          have e3 : hiI ρ (c + 1) = some c := by unfold hiI; rw [if_pos c24, hi2]
          refine J.iload_n 27 dX5_apart_27 rfl rfl ?_
          refine J.if_ne 28 40 dX5_apart_28 (by decide) (fun q => absurd q (by decide)) (fun _ => ?_)
          refine J.aload_n 31 dX5_apart_31 rfl rfl ?_
          refine J.iload 32 dX5_apart_32 rfl ?_
          refine V.callvP 34 dX5_apart_34 ml_RX5_80 mi_yX5_aim mv_yX5_aim (c_X5_aim w _ hq hR (by omega) (by omega)) rfl rfl (Nat.le_of_ble_eq_true rfl) (by decide) (by decide) hq.o rfl rfl ?_
          refine J.goto 37 50 dX5_apart_37 (by decide) ?_
          refine J.istore_n 50 dX5_apart_50 rfl (by decide) ?_
          refine J.iload_n 51 dX5_apart_51 rfl rfl ?_
          refine J.if_ne 52 64 dX5_apart_52 (by decide) (fun q => absurd q (by decide)) (fun _ => ?_)
          refine J.aload_n 55 dX5_apart_55 rfl rfl ?_
          refine J.iload 56 dX5_apart_56 rfl ?_
          refine V.callvP 58 dX5_apart_58 ml_RX5_80 mi_yX5_aim mv_yX5_aim (c_X5_aim w _ hq hR (by omega) (by omega)) rfl rfl (Nat.le_of_ble_eq_true rfl) (by decide) (by decide) hq.o rfl rfl ?_
          refine J.goto 61 74 dX5_apart_61 (by decide) ?_
          refine J.istore_n 74 dX5_apart_74 rfl (by decide) ?_
          refine V.iinc 75 dX5_apart_75 rfl (by decide) ?_
          refine V.iinc 78 dX5_apart_78 rfl (by decide) ?_
          refine J.goto 81 9 dX5_apart_81 (by decide) ?_
          first | exact ih (c + 1) (by omega) e2 e3 (by omega) | exact lS (n + 1) (c + 1) 1 c c (by omega) (by omega) (by omega) e2 e3 (by omega)
  refine J.iconst 0 (nI 0) dX5_apart_0 (by decide +kernel) ?_
  refine J.istore_n 1 dX5_apart_1 rfl (by decide) ?_
  refine J.iconst 2 (nI 0) dX5_apart_2 (by decide +kernel) ?_
  refine J.istore_n 3 dX5_apart_3 rfl (by decide) ?_
  refine J.iconst 4 (nI 0) dX5_apart_4 (by decide +kernel) ?_
  refine J.istore_n 5 dX5_apart_5 rfl (by decide) ?_
  refine J.iconst 6 (nI 0) dX5_apart_6 (by decide +kernel) ?_
  refine J.istore 7 dX5_apart_7 (by decide) ?_
  exact l0 (n + 1) 0 (by omega) rfl rfl (by omega)
