set_option maxHeartbeats 4000000 in
set_option maxRecDepth 100000 in
theorem c_X8_manyOf (w : Wd) (v : Vm2) {n x : Nat} (hn0 : v 179 0 = nI n) (hn : n ≤ 8) (hx : x < 100) : CP w yX8_manyOf cX8_manyOf 4 (some .int) (rm 0 0) [.ref (wN w + 178), .int (nI x)] v (smI (fun c => v 179 (x + c)) n) := by
  refine CI.of (by decide) (Nat.le_of_ble_eq_true rfl) ?_
  have lp : ∀ (m : Nat) (c : Nat), (c ≤ n) → n - c < m → J w yX8_manyOf cX8_manyOf 4 (some .int) (rm 0 0) XT (ZJ w 185 0 0 (PI w (fun r v' => r = smI (fun c => v 179 (x + c)) n ∧ v' = v))) 4 [(0, .ref (wN w + 178)), (1, .int (nI x)), (2, .int (smI (fun c => v 179 (x + c)) c)), (3, .int (nI c))] [] 185 (hv w (v)) 0 0 := by
    intro m
    induction m with
    | zero =>
      intro c hi0 hm
      exact absurd hm (by omega)
    | succ m ih =>
      intro c hi0 hm
      refine J.iload_n 4 dX8_manyOf_4 rfl rfl ?_
      refine J.aload_n 5 dX8_manyOf_5 rfl rfl ?_
      refine V.getR 6 dX8_manyOf_6 fl_RX8_7 r_178_0 ?_
      refine J.iconst 9 (nI 0) dX8_manyOf_9 (by decide +kernel) ?_
      refine V.iald 10 dX8_manyOf_10 a_179 (by omega) ?_
      refine J.top hn0 ?_
      refine V.icmp_ge 11 31 dX8_manyOf_11 (by decide) (by omega) (by omega) (fun c11 => ?_) (fun c11 => ?_)
      · refine J.iload_n 31 dX8_manyOf_31 rfl rfl ?_
        obtain rfl : c = n := by omega
        exact V.iret 32 dX8_manyOf_32 (⟨rfl, rfl⟩)
      · refine J.iload_n 14 dX8_manyOf_14 rfl rfl ?_
        refine J.aload_n 15 dX8_manyOf_15 rfl rfl ?_
        refine V.getR 16 dX8_manyOf_16 fl_RX8_7 r_178_0 ?_
        refine J.iload_n 19 dX8_manyOf_19 rfl rfl ?_
        refine J.iload_n 20 dX8_manyOf_20 rfl rfl ?_
        refine V.iadd 21 dX8_manyOf_21 ?_
        refine V.iald 22 dX8_manyOf_22 a_179 (by omega) ?_
        refine J.iadd 23 dX8_manyOf_23 ?_
        refine J.istore_n 24 dX8_manyOf_24 rfl (by decide) ?_
        refine V.iinc 25 dX8_manyOf_25 rfl (by decide) ?_
        refine J.goto 28 4 dX8_manyOf_28 (by decide) ?_
        exact ih (c + 1) (by omega) (by omega)
  refine J.iconst 0 (nI 0) dX8_manyOf_0 (by decide +kernel) ?_
  refine J.istore_n 1 dX8_manyOf_1 rfl (by decide) ?_
  refine J.iconst 2 (nI 0) dX8_manyOf_2 (by decide +kernel) ?_
  refine J.istore_n 3 dX8_manyOf_3 rfl (by decide) ?_
  exact lp (n + 1) 0 (by omega) (by omega)
set_option maxHeartbeats 4000000 in
set_option maxRecDepth 100000 in
theorem c_X8_setOf4 (w : Wd) (v : Vm2) {n : Nat} (hn0 : v 179 0 = nI n) (hn : n ≤ 8) : CP w yX8_setOf cX8_setOf 5 (some .int) (rm 1 22) [.ref (wN w + 178), .int (nI 4)] v (bsI (fun c => v 179 (27 + c) = nI 1) n) := by
  refine CI.of (by decide) (Nat.le_of_ble_eq_true rfl) ?_
  have lp : ∀ (m : Nat) (c : Nat), (c ≤ n) → n - c < m → J w yX8_setOf cX8_setOf 5 (some .int) (rm 1 22) XT (ZJ w 185 0 0 (PI w (fun r v' => r = bsI (fun c => v 179 (27 + c) = nI 1) n ∧ v' = v))) 4 [(0, .ref (wN w + 178)), (1, .int (nI 4)), (2, .int (bsI (fun c => v 179 (27 + c) = nI 1) c)), (3, .int (nI c))] [] 185 (hv w (v)) 0 0 := by
    intro m
    induction m with
    | zero =>
      intro c hi0 hm
      exact absurd hm (by omega)
    | succ m ih =>
      intro c hi0 hm
      refine J.iload_n 4 dX8_setOf_4 rfl rfl ?_
      refine J.aload_n 5 dX8_setOf_5 rfl rfl ?_
      refine V.getR 6 dX8_setOf_6 fl_RX8_7 r_178_0 ?_
      refine J.iconst 9 (nI 0) dX8_setOf_9 (by decide +kernel) ?_
      refine V.iald 10 dX8_setOf_10 a_179 (by omega) ?_
      refine J.top hn0 ?_
      refine V.icmp_ge 11 95 dX8_setOf_11 (by decide) (by omega) (by omega) (fun c11 => ?_) (fun c11 => ?_)
      · refine J.iload_n 95 dX8_setOf_95 rfl rfl ?_
        obtain rfl : c = n := by omega
        exact V.iret 96 dX8_setOf_96 (⟨rfl, rfl⟩)
      · refine J.iload_n 14 dX8_setOf_14 rfl rfl ?_
        refine J.iconst 15 (nI 4) dX8_setOf_15 (by decide +kernel) ?_
        refine J.icmp_ne 16 40 dX8_setOf_16 (by decide) (fun q => absurd q (by decide)) (fun _ => ?_)
        refine J.aload_n 19 dX8_setOf_19 rfl rfl ?_
        refine V.getR 20 dX8_setOf_20 fl_RX8_7 r_178_0 ?_
        refine J.bipush 23 (nI 27) dX8_setOf_23 (by decide +kernel) ?_
        refine J.iload_n 25 dX8_setOf_25 rfl rfl ?_
        refine V.iadd 26 dX8_setOf_26 ?_
        refine V.iald 27 dX8_setOf_27 a_179 (by omega) ?_
        refine J.iconst 28 (nI 1) dX8_setOf_28 (by decide +kernel) ?_
        refine J.icmp_ne 29 36 dX8_setOf_29 (by decide) (fun c29 => ?_) (fun c29 => ?_)
        · have e1 : bsI (fun c => v 179 (27 + c) = nI 1) (c + 1) = bsI (fun c => v 179 (27 + c) = nI 1) c ||| nI 0 := by show _ ||| (if _ then _ else _) = _; rw [if_neg c29]
          refine J.iconst 36 (nI 0) dX8_setOf_36 (by decide +kernel) ?_
          refine J.goto 37 72 dX8_setOf_37 (by decide) ?_
          refine J.istore 72 dX8_setOf_72 (by decide) ?_
          refine J.iload_n 74 dX8_setOf_74 rfl rfl ?_
          refine J.iload 75 dX8_setOf_75 rfl ?_
          refine J.if_eq 77 86 dX8_setOf_77 (by decide) (fun _ => ?_) (fun q => absurd q (by decide))
          refine J.iconst 86 (nI 0) dX8_setOf_86 (by decide +kernel) ?_
          refine J.ior 87 dX8_setOf_87 ?_
          refine J.istore_n 88 dX8_setOf_88 rfl (by decide) ?_
          refine V.iinc 89 dX8_setOf_89 rfl (by decide) ?_
          refine J.goto 92 4 dX8_setOf_92 (by decide) ?_
          refine J.drop 4 ?_
          have q := ih (c + 1) (by omega) (by omega)
          rw [e1] at q
          exact q
        · have e1 : bsI (fun c => v 179 (27 + c) = nI 1) (c + 1) = bsI (fun c => v 179 (27 + c) = nI 1) c ||| (nI 1 <<< (nI c &&& 31)) := by show _ ||| (if _ then _ else _) = _; rw [if_pos c29]
          refine J.iconst 32 (nI 1) dX8_setOf_32 (by decide +kernel) ?_
          refine J.goto 33 72 dX8_setOf_33 (by decide) ?_
          refine J.istore 72 dX8_setOf_72 (by decide) ?_
          refine J.iload_n 74 dX8_setOf_74 rfl rfl ?_
          refine J.iload 75 dX8_setOf_75 rfl ?_
          refine J.if_eq 77 86 dX8_setOf_77 (by decide) (fun q => absurd q (by decide)) (fun _ => ?_)
          refine J.iconst 80 (nI 1) dX8_setOf_80 (by decide +kernel) ?_
          refine J.iload_n 81 dX8_setOf_81 rfl rfl ?_
          refine J.ishl 82 dX8_setOf_82 ?_
          refine J.goto 83 87 dX8_setOf_83 (by decide) ?_
          refine J.ior 87 dX8_setOf_87 ?_
          refine J.istore_n 88 dX8_setOf_88 rfl (by decide) ?_
          refine V.iinc 89 dX8_setOf_89 rfl (by decide) ?_
          refine J.goto 92 4 dX8_setOf_92 (by decide) ?_
          refine J.drop 4 ?_
          have q := ih (c + 1) (by omega) (by omega)
          rw [e1] at q
          exact q
  refine J.iconst 0 (nI 0) dX8_setOf_0 (by decide +kernel) ?_
  refine J.istore_n 1 dX8_setOf_1 rfl (by decide) ?_
  refine J.iconst 2 (nI 0) dX8_setOf_2 (by decide +kernel) ?_
  refine J.istore_n 3 dX8_setOf_3 rfl (by decide) ?_
  exact lp (n + 1) 0 (by omega) (by omega)
set_option maxHeartbeats 4000000 in
set_option maxRecDepth 100000 in
theorem c_X8_setOf5 (w : Wd) (v : Vm2) {n : Nat} (hn0 : v 179 0 = nI n) (hn : n ≤ 8) : CP w yX8_setOf cX8_setOf 5 (some .int) (rm 1 22) [.ref (wN w + 178), .int (nI 5)] v (bsI (fun c => v 179 (35 + c) = nI 1) n) := by
  refine CI.of (by decide) (Nat.le_of_ble_eq_true rfl) ?_
  have lp : ∀ (m : Nat) (c : Nat), (c ≤ n) → n - c < m → J w yX8_setOf cX8_setOf 5 (some .int) (rm 1 22) XT (ZJ w 185 0 0 (PI w (fun r v' => r = bsI (fun c => v 179 (35 + c) = nI 1) n ∧ v' = v))) 4 [(0, .ref (wN w + 178)), (1, .int (nI 5)), (2, .int (bsI (fun c => v 179 (35 + c) = nI 1) c)), (3, .int (nI c))] [] 185 (hv w (v)) 0 0 := by
    intro m
    induction m with
    | zero =>
      intro c hi0 hm
      exact absurd hm (by omega)
    | succ m ih =>
      intro c hi0 hm
      refine J.iload_n 4 dX8_setOf_4 rfl rfl ?_
      refine J.aload_n 5 dX8_setOf_5 rfl rfl ?_
      refine V.getR 6 dX8_setOf_6 fl_RX8_7 r_178_0 ?_
      refine J.iconst 9 (nI 0) dX8_setOf_9 (by decide +kernel) ?_
      refine V.iald 10 dX8_setOf_10 a_179 (by omega) ?_
      refine J.top hn0 ?_
      refine V.icmp_ge 11 95 dX8_setOf_11 (by decide) (by omega) (by omega) (fun c11 => ?_) (fun c11 => ?_)
      · refine J.iload_n 95 dX8_setOf_95 rfl rfl ?_
        obtain rfl : c = n := by omega
        exact V.iret 96 dX8_setOf_96 (⟨rfl, rfl⟩)
      · refine J.iload_n 14 dX8_setOf_14 rfl rfl ?_
        refine J.iconst 15 (nI 4) dX8_setOf_15 (by decide +kernel) ?_
        refine J.icmp_ne 16 40 dX8_setOf_16 (by decide) (fun _ => ?_) (fun q => absurd q (by decide))
        refine J.iload_n 40 dX8_setOf_40 rfl rfl ?_
        refine J.iconst 41 (nI 5) dX8_setOf_41 (by decide +kernel) ?_
        refine J.icmp_ne 42 66 dX8_setOf_42 (by decide) (fun q => absurd q (by decide)) (fun _ => ?_)
        refine J.aload_n 45 dX8_setOf_45 rfl rfl ?_
        refine V.getR 46 dX8_setOf_46 fl_RX8_7 r_178_0 ?_
        refine J.bipush 49 (nI 35) dX8_setOf_49 (by decide +kernel) ?_
        refine J.iload_n 51 dX8_setOf_51 rfl rfl ?_
        refine V.iadd 52 dX8_setOf_52 ?_
        refine V.iald 53 dX8_setOf_53 a_179 (by omega) ?_
        refine J.iconst 54 (nI 1) dX8_setOf_54 (by decide +kernel) ?_
        refine J.icmp_ne 55 62 dX8_setOf_55 (by decide) (fun c55 => ?_) (fun c55 => ?_)
        · have e1 : bsI (fun c => v 179 (35 + c) = nI 1) (c + 1) = bsI (fun c => v 179 (35 + c) = nI 1) c ||| nI 0 := by show _ ||| (if _ then _ else _) = _; rw [if_neg c55]
          refine J.iconst 62 (nI 0) dX8_setOf_62 (by decide +kernel) ?_
          refine J.goto 63 72 dX8_setOf_63 (by decide) ?_
          refine J.istore 72 dX8_setOf_72 (by decide) ?_
          refine J.iload_n 74 dX8_setOf_74 rfl rfl ?_
          refine J.iload 75 dX8_setOf_75 rfl ?_
          refine J.if_eq 77 86 dX8_setOf_77 (by decide) (fun _ => ?_) (fun q => absurd q (by decide))
          refine J.iconst 86 (nI 0) dX8_setOf_86 (by decide +kernel) ?_
          refine J.ior 87 dX8_setOf_87 ?_
          refine J.istore_n 88 dX8_setOf_88 rfl (by decide) ?_
          refine V.iinc 89 dX8_setOf_89 rfl (by decide) ?_
          refine J.goto 92 4 dX8_setOf_92 (by decide) ?_
          refine J.drop 4 ?_
          have q := ih (c + 1) (by omega) (by omega)
          rw [e1] at q
          exact q
        · have e1 : bsI (fun c => v 179 (35 + c) = nI 1) (c + 1) = bsI (fun c => v 179 (35 + c) = nI 1) c ||| (nI 1 <<< (nI c &&& 31)) := by show _ ||| (if _ then _ else _) = _; rw [if_pos c55]
          refine J.iconst 58 (nI 1) dX8_setOf_58 (by decide +kernel) ?_
          refine J.goto 59 72 dX8_setOf_59 (by decide) ?_
          refine J.istore 72 dX8_setOf_72 (by decide) ?_
          refine J.iload_n 74 dX8_setOf_74 rfl rfl ?_
          refine J.iload 75 dX8_setOf_75 rfl ?_
          refine J.if_eq 77 86 dX8_setOf_77 (by decide) (fun q => absurd q (by decide)) (fun _ => ?_)
          refine J.iconst 80 (nI 1) dX8_setOf_80 (by decide +kernel) ?_
          refine J.iload_n 81 dX8_setOf_81 rfl rfl ?_
          refine J.ishl 82 dX8_setOf_82 ?_
          refine J.goto 83 87 dX8_setOf_83 (by decide) ?_
          refine J.ior 87 dX8_setOf_87 ?_
          refine J.istore_n 88 dX8_setOf_88 rfl (by decide) ?_
          refine V.iinc 89 dX8_setOf_89 rfl (by decide) ?_
          refine J.goto 92 4 dX8_setOf_92 (by decide) ?_
          refine J.drop 4 ?_
          have q := ih (c + 1) (by omega) (by omega)
          rw [e1] at q
          exact q
  refine J.iconst 0 (nI 0) dX8_setOf_0 (by decide +kernel) ?_
  refine J.istore_n 1 dX8_setOf_1 rfl (by decide) ?_
  refine J.iconst 2 (nI 0) dX8_setOf_2 (by decide +kernel) ?_
  refine J.istore_n 3 dX8_setOf_3 rfl (by decide) ?_
  exact lp (n + 1) 0 (by omega) (by omega)
set_option maxHeartbeats 4000000 in
set_option maxRecDepth 100000 in
theorem c_X8_setOf6 (w : Wd) (v : Vm2) {n : Nat} (hn0 : v 179 0 = nI n) (hn : n ≤ 8) : CP w yX8_setOf cX8_setOf 5 (some .int) (rm 1 22) [.ref (wN w + 178), .int (nI 6)] v (bsI (fun c => trF (v 179) c) n) := by
  refine CI.of (by decide) (Nat.le_of_ble_eq_true rfl) ?_
  have lp : ∀ (m : Nat) (c : Nat), (c ≤ n) → n - c < m → J w yX8_setOf cX8_setOf 5 (some .int) (rm 1 22) XT (ZJ w 185 0 0 (PI w (fun r v' => r = bsI (fun c => trF (v 179) c) n ∧ v' = v))) 4 [(0, .ref (wN w + 178)), (1, .int (nI 6)), (2, .int (bsI (fun c => trF (v 179) c) c)), (3, .int (nI c))] [] 185 (hv w (v)) 0 0 := by
    intro m
    induction m with
    | zero =>
      intro c hi0 hm
      exact absurd hm (by omega)
    | succ m ih =>
      intro c hi0 hm
      refine J.iload_n 4 dX8_setOf_4 rfl rfl ?_
      refine J.aload_n 5 dX8_setOf_5 rfl rfl ?_
      refine V.getR 6 dX8_setOf_6 fl_RX8_7 r_178_0 ?_
      refine J.iconst 9 (nI 0) dX8_setOf_9 (by decide +kernel) ?_
      refine V.iald 10 dX8_setOf_10 a_179 (by omega) ?_
      refine J.top hn0 ?_
      refine V.icmp_ge 11 95 dX8_setOf_11 (by decide) (by omega) (by omega) (fun c11 => ?_) (fun c11 => ?_)
      · refine J.iload_n 95 dX8_setOf_95 rfl rfl ?_
        obtain rfl : c = n := by omega
        exact V.iret 96 dX8_setOf_96 (⟨rfl, rfl⟩)
      · refine J.iload_n 14 dX8_setOf_14 rfl rfl ?_
        refine J.iconst 15 (nI 4) dX8_setOf_15 (by decide +kernel) ?_
        refine J.icmp_ne 16 40 dX8_setOf_16 (by decide) (fun _ => ?_) (fun q => absurd q (by decide))
        refine J.iload_n 40 dX8_setOf_40 rfl rfl ?_
        refine J.iconst 41 (nI 5) dX8_setOf_41 (by decide +kernel) ?_
        refine J.icmp_ne 42 66 dX8_setOf_42 (by decide) (fun _ => ?_) (fun q => absurd q (by decide))
        refine J.aload_n 66 dX8_setOf_66 rfl rfl ?_
        refine J.iconst 67 (nI 0) dX8_setOf_67 (by decide +kernel) ?_
        refine J.iload_n 68 dX8_setOf_68 rfl rfl ?_
        refine V.callvP 69 dX8_setOf_69 ml_RX8_114 mi_yX8_isTrue mv_yX8_isTrue (c_X8_isTrue w _ (by omega)) rfl rfl (Nat.le_of_ble_eq_true rfl) (by decide) (by decide) o_178 rfl rfl ?_
        rw [ro_zero]
        refine J.istore 72 dX8_setOf_72 (by decide) ?_
        refine J.iload_n 74 dX8_setOf_74 rfl rfl ?_
        refine J.iload 75 dX8_setOf_75 rfl ?_
        refine V.if_eqB 77 86 dX8_setOf_77 (by decide) (fun c77 => ?_) (fun c77 => ?_)
        · have e1 : bsI (fun c => trF (v 179) c) (c + 1) = bsI (fun c => trF (v 179) c) c ||| nI 0 := by show _ ||| (if _ then _ else _) = _; rw [if_neg c77]
          refine J.iconst 86 (nI 0) dX8_setOf_86 (by decide +kernel) ?_
          refine J.ior 87 dX8_setOf_87 ?_
          refine J.istore_n 88 dX8_setOf_88 rfl (by decide) ?_
          refine V.iinc 89 dX8_setOf_89 rfl (by decide) ?_
          refine J.goto 92 4 dX8_setOf_92 (by decide) ?_
          refine J.drop 4 ?_
          have q := ih (c + 1) (by omega) (by omega)
          rw [e1] at q
          exact q
        · have e1 : bsI (fun c => trF (v 179) c) (c + 1) = bsI (fun c => trF (v 179) c) c ||| (nI 1 <<< (nI c &&& 31)) := by show _ ||| (if _ then _ else _) = _; rw [if_pos c77]
          refine J.iconst 80 (nI 1) dX8_setOf_80 (by decide +kernel) ?_
          refine J.iload_n 81 dX8_setOf_81 rfl rfl ?_
          refine J.ishl 82 dX8_setOf_82 ?_
          refine J.goto 83 87 dX8_setOf_83 (by decide) ?_
          refine J.ior 87 dX8_setOf_87 ?_
          refine J.istore_n 88 dX8_setOf_88 rfl (by decide) ?_
          refine V.iinc 89 dX8_setOf_89 rfl (by decide) ?_
          refine J.goto 92 4 dX8_setOf_92 (by decide) ?_
          refine J.drop 4 ?_
          have q := ih (c + 1) (by omega) (by omega)
          rw [e1] at q
          exact q
  refine J.iconst 0 (nI 0) dX8_setOf_0 (by decide +kernel) ?_
  refine J.istore_n 1 dX8_setOf_1 rfl (by decide) ?_
  refine J.iconst 2 (nI 0) dX8_setOf_2 (by decide +kernel) ?_
  refine J.istore_n 3 dX8_setOf_3 rfl (by decide) ?_
  exact lp (n + 1) 0 (by omega) (by omega)
set_option maxHeartbeats 4000000 in
set_option maxRecDepth 100000 in
theorem c_X8_wrongEntry (w : Wd) (v : Vm2) {n wr : Nat} (hn0 : v 179 0 = nI n) (hn : n ≤ 8) (hw0 : v 178 8 = nI wr) (hwr : wr ≤ 20) : CP w yX8_wrongEntry cX8_wrongEntry 2 (some .int) (rm 2 43) [.ref (wN w + 178)] v (weF (v 179) (v 181) (v 182) n wr 0) := by
  refine CI.of (by decide) (Nat.le_of_ble_eq_true rfl) ?_
  have lp : ∀ (m : Nat) (k : Nat), (k ≤ wr) → (weF (v 179) (v 181) (v 182) n (wr - k) k = weF (v 179) (v 181) (v 182) n wr 0) → wr - k < m → J w yX8_wrongEntry cX8_wrongEntry 2 (some .int) (rm 2 43) XT (ZJ w 185 0 0 (PI w (fun r v' => r = weF (v 179) (v 181) (v 182) n wr 0 ∧ v' = v))) 2 [(0, .ref (wN w + 178)), (1, .int (nI k))] [] 185 (hv w (v)) 0 0 := by
    intro m
    induction m with
    | zero =>
      intro k hi0 hi1 hm
      exact absurd hm (by omega)
    | succ m ih =>
      intro k hi0 hi1 hm
      refine J.iload_n 2 dX8_wrongEntry_2 rfl rfl ?_
      refine J.aload_n 3 dX8_wrongEntry_3 rfl rfl ?_
      refine V.getI 4 dX8_wrongEntry_4 fl_RX8_94 i_178_8 ?_
      refine J.top hw0 ?_
      refine V.icmp_ge 7 51 dX8_wrongEntry_7 (by decide) (by omega) (by omega) (fun c7 => ?_) (fun c7 => ?_)
      · refine J.iconst 51 (-1) dX8_wrongEntry_51 (by decide +kernel) ?_
        exact V.iret 52 dX8_wrongEntry_52 (⟨by rw [← hi1, show wr - k = 0 by omega]; rfl, rfl⟩)
      · refine J.aload_n 10 dX8_wrongEntry_10 rfl rfl ?_
        refine J.aload_n 11 dX8_wrongEntry_11 rfl rfl ?_
        refine V.getR 12 dX8_wrongEntry_12 fl_RX8_20 r_178_6 ?_
        refine J.iload_n 15 dX8_wrongEntry_15 rfl rfl ?_
        refine V.iald 16 dX8_wrongEntry_16 a_181 (by omega) ?_
        refine V.callvP 17 dX8_wrongEntry_17 ml_RX8_136 mi_yX8_isClock mv_yX8_isClock (k_isClock w _ _ hn0 (by omega)) rfl rfl (Nat.le_of_ble_eq_true rfl) (by decide) (by decide) o_178 rfl rfl ?_
        refine V.if_eqB 20 43 dX8_wrongEntry_20 (by decide) (fun c20 => ?_) (fun c20 => ?_)
        · refine J.iload_n 43 dX8_wrongEntry_43 rfl rfl ?_
          exact V.iret 44 dX8_wrongEntry_44 (⟨by rw [← hi1]; obtain ⟨r, hr⟩ : ∃ r, wr - k = r + 1 := ⟨wr - k - 1, by omega⟩; rw [hr]; refine (if_pos ?_).symm; first | exact fun z => c20 z.1 | (intro z; apply c40; have z2 := z.2; rw [ecl, nI_clamp (by omega)] at z2; exact z2), rfl⟩)
        · obtain ⟨cl, hcl, ecl⟩ := (clkB_nI (by omega)).mp c20
          refine J.aload_n 23 dX8_wrongEntry_23 rfl rfl ?_
          refine J.iconst 24 (nI 0) dX8_wrongEntry_24 (by decide +kernel) ?_
          refine J.aload_n 25 dX8_wrongEntry_25 rfl rfl ?_
          refine V.getR 26 dX8_wrongEntry_26 fl_RX8_20 r_178_6 ?_
          refine J.iload_n 29 dX8_wrongEntry_29 rfl rfl ?_
          refine V.iald 30 dX8_wrongEntry_30 a_181 (by omega) ?_
          refine J.top ecl ?_
          refine V.callvP 31 dX8_wrongEntry_31 ml_RX8_97 mi_yX8_aim mv_yX8_aim (c_X8_aim w _ (by omega)) rfl rfl (Nat.le_of_ble_eq_true rfl) (by decide) (by decide) o_178 rfl rfl ?_
          rw [ro_zero]
          refine J.aload_n 34 dX8_wrongEntry_34 rfl rfl ?_
          refine V.getR 35 dX8_wrongEntry_35 fl_RX8_23 r_178_7 ?_
          refine J.iload_n 38 dX8_wrongEntry_38 rfl rfl ?_
          refine V.iald 39 dX8_wrongEntry_39 a_182 (by omega) ?_
          refine J.icmp_eq 40 45 dX8_wrongEntry_40 (by decide) (fun c40 => ?_) (fun c40 => ?_)
          · refine V.iinc 45 dX8_wrongEntry_45 rfl (by decide) ?_
            refine J.goto 48 2 dX8_wrongEntry_48 (by decide) ?_
            exact ih (k + 1) (by omega) (by rw [← hi1]; obtain ⟨r, hr⟩ : ∃ r, wr - k = r + 1 := ⟨wr - k - 1, by omega⟩; rw [show wr - (k + 1) = r by omega, hr]; refine (if_neg (fun z => z ⟨c20, ?_⟩)).symm; rw [ecl, nI_clamp (by omega)]; exact c40) (by omega)
          · refine J.iload_n 43 dX8_wrongEntry_43 rfl rfl ?_
            exact V.iret 44 dX8_wrongEntry_44 (⟨by rw [← hi1]; obtain ⟨r, hr⟩ : ∃ r, wr - k = r + 1 := ⟨wr - k - 1, by omega⟩; rw [hr]; refine (if_pos ?_).symm; first | exact fun z => c20 z.1 | (intro z; apply c40; have z2 := z.2; rw [ecl, nI_clamp (by omega)] at z2; exact z2), rfl⟩)
  refine J.iconst 0 (nI 0) dX8_wrongEntry_0 (by decide +kernel) ?_
  refine J.istore_n 1 dX8_wrongEntry_1 rfl (by decide) ?_
  exact lp (wr + 1) 0 (by omega) (by rfl) (by omega)
set_option maxHeartbeats 4000000 in
set_option maxRecDepth 100000 in
theorem c_X8_rememberA (w : Wd) (v : Vm2) (hk0 : v 178 1 = nI 16) : CU w yX8_remember cX8_remember 2 (rm 1 23) [.ref (wN w + 178)] v (fun v' => v' = rmF v 16) := by
  refine CU.of (by decide) (Nat.le_of_ble_eq_true rfl) ?_
  have K1 : J w yX8_remember cX8_remember 2 none (rm 1 23) XT (ZJ w 185 0 0 (PU w (fun v' => v' = rmF v 16))) 39 [(0, .ref (wN w + 178)), (1, .int (nI 16))] [] 185 (hv w (shK v 16)) 0 0 := by
    refine J.aload_n 39 dX8_remember_39 rfl rfl ?_
    refine J.dup 40 dX8_remember_40 rfl ?_
    refine V.getI 41 dX8_remember_41 fl_RX8_88 i_178_1 ?_
    refine J.top (b := nI 16) (by rw [show shK v 16 178 = v 178 from by funext b; simp [shK]]; exact hk0) ?_
    refine J.iconst 44 (nI 1) dX8_remember_44 (by decide +kernel) ?_
    refine V.isub 45 dX8_remember_45 (by omega) ?_
    refine V.putI 46 dX8_remember_46 fl_RX8_88 fp_8_1 i_178_1 ?_
    refine J.aload_n 49 dX8_remember_49 rfl rfl ?_
    refine J.iconst 50 (nI 0) dX8_remember_50 (by decide +kernel) ?_
    refine J.sipush 51 (nI 192) dX8_remember_51 (by decide +kernel) ?_
    refine J.aload_n 54 dX8_remember_54 rfl rfl ?_
    refine V.getI 55 dX8_remember_55 fl_RX8_88 i_178_1 ?_
    refine J.top (b := nI 15) (by simp [up2]) ?_
    refine J.iconst 58 (nI 1) dX8_remember_58 (by decide +kernel) ?_
    refine V.iadd 59 dX8_remember_59 ?_
    refine V.imul 60 dX8_remember_60 ?_
    refine V.callvU 61 dX8_remember_61 ml_RX8_85 mi_yX8_copyRow mv_yX8_copyRow (c_X8_copyRow w _ (by omega) (by omega) (by omega)) rfl rfl (Nat.le_of_ble_eq_true rfl) (by decide) (by decide) o_178 rfl rfl (fun v61 h61 => ?_)
    subst h61
    refine J.aload_n 64 dX8_remember_64 rfl rfl ?_
    refine J.dup 65 dX8_remember_65 rfl ?_
    refine V.getI 66 dX8_remember_66 fl_RX8_88 i_178_1 ?_
    refine J.top (b := nI 15) (by simp [up2, cpK]) ?_
    refine J.iconst 69 (nI 1) dX8_remember_69 (by decide +kernel) ?_
    refine V.iadd 70 dX8_remember_70 ?_
    refine V.putI 71 dX8_remember_71 fl_RX8_88 fp_8_1 i_178_1 ?_
    exact V.vret 74 dX8_remember_74 (by unfold rmF; rw [if_pos rfl])
  have lp : ∀ (m : Nat) (k : Nat), (1 ≤ k) → (k ≤ 16) → 16 - k < m → J w yX8_remember cX8_remember 2 none (rm 1 23) XT (ZJ w 185 0 0 (PU w (fun v' => v' = rmF v 16))) 11 [(0, .ref (wN w + 178)), (1, .int (nI k))] [] 185 (hv w (shK v k)) 0 0 := by
    intro m
    induction m with
    | zero =>
      intro k hi0 hi1 hm
      exact absurd hm (by omega)
    | succ m ih =>
      intro k hi0 hi1 hm
      refine J.iload_n 11 dX8_remember_11 rfl rfl ?_
      refine J.bipush 12 (nI 16) dX8_remember_12 (by decide +kernel) ?_
      refine V.icmp_ge 14 39 dX8_remember_14 (by decide) (by omega) (by omega) (fun c14 => ?_) (fun c14 => ?_)
      · obtain rfl : k = 16 := by omega
        exact K1
      · refine J.aload_n 17 dX8_remember_17 rfl rfl ?_
        refine J.sipush 18 (nI 192) dX8_remember_18 (by decide +kernel) ?_
        refine J.iload_n 21 dX8_remember_21 rfl rfl ?_
        refine J.iconst 22 (nI 1) dX8_remember_22 (by decide +kernel) ?_
        refine V.iadd 23 dX8_remember_23 ?_
        refine V.imul 24 dX8_remember_24 ?_
        refine J.sipush 25 (nI 192) dX8_remember_25 (by decide +kernel) ?_
        refine J.iload_n 28 dX8_remember_28 rfl rfl ?_
        refine V.imul 29 dX8_remember_29 ?_
        refine V.callvU 30 dX8_remember_30 ml_RX8_85 mi_yX8_copyRow mv_yX8_copyRow (c_X8_copyRow w _ (by omega) (by omega) (by omega)) rfl rfl (Nat.le_of_ble_eq_true rfl) (by decide) (by decide) o_178 rfl rfl (fun v30 h30 => ?_)
        subst h30
        refine V.iinc 33 dX8_remember_33 rfl (by decide) ?_
        refine J.goto 36 11 dX8_remember_36 (by decide) ?_
        rw [shK_s v k hi0 (by omega)]
        exact ih (k + 1) (by omega) (by omega) (by omega)
  refine J.aload_n 0 dX8_remember_0 rfl rfl ?_
  refine V.getI 1 dX8_remember_1 fl_RX8_88 i_178_1 ?_
  refine J.top hk0 ?_
  refine J.bipush 4 (nI 16) dX8_remember_4 (by decide +kernel) ?_
  refine V.icmp_ne 6 49 dX8_remember_6 (by decide) (by omega) (by omega) (fun c6 => absurd rfl c6) (fun c6 => ?_)
  refine J.iconst 9 (nI 1) dX8_remember_9 (by decide +kernel) ?_
  refine J.istore_n 10 dX8_remember_10 rfl (by decide) ?_
  refine V.heapv (shK_1 v) ?_
  exact lp 16 1 (by omega) (by omega) (by omega)
set_option maxHeartbeats 4000000 in
set_option maxRecDepth 100000 in
theorem c_X8_rememberB (w : Wd) (v : Vm2) {K : Nat} (hk0 : v 178 1 = nI K) (hk : K < 16) : CU w yX8_remember cX8_remember 2 (rm 1 23) [.ref (wN w + 178)] v (fun v' => v' = rmF v K) := by
  refine CU.of (by decide) (Nat.le_of_ble_eq_true rfl) ?_
  refine J.aload_n 0 dX8_remember_0 rfl rfl ?_
  refine V.getI 1 dX8_remember_1 fl_RX8_88 i_178_1 ?_
  refine J.top hk0 ?_
  refine J.bipush 4 (nI 16) dX8_remember_4 (by decide +kernel) ?_
  refine V.icmp_ne 6 49 dX8_remember_6 (by decide) (by omega) (by omega) (fun c6 => ?_) (fun c6 => absurd c6 (by omega))
  refine J.aload_n 49 dX8_remember_49 rfl rfl ?_
  refine J.iconst 50 (nI 0) dX8_remember_50 (by decide +kernel) ?_
  refine J.sipush 51 (nI 192) dX8_remember_51 (by decide +kernel) ?_
  refine J.aload_n 54 dX8_remember_54 rfl rfl ?_
  refine V.getI 55 dX8_remember_55 fl_RX8_88 i_178_1 ?_
  refine J.top hk0 ?_
  refine J.iconst 58 (nI 1) dX8_remember_58 (by decide +kernel) ?_
  refine V.iadd 59 dX8_remember_59 ?_
  refine V.imul 60 dX8_remember_60 ?_
  refine V.callvU 61 dX8_remember_61 ml_RX8_85 mi_yX8_copyRow mv_yX8_copyRow (c_X8_copyRow w _ (by omega) (by omega) (by omega)) rfl rfl (Nat.le_of_ble_eq_true rfl) (by decide) (by decide) o_178 rfl rfl (fun v61 h61 => ?_)
  subst h61
  refine J.aload_n 64 dX8_remember_64 rfl rfl ?_
  refine J.dup 65 dX8_remember_65 rfl ?_
  refine V.getI 66 dX8_remember_66 fl_RX8_88 i_178_1 ?_
  refine J.top (b := nI K) (by simp [cpK]; exact hk0) ?_
  refine J.iconst 69 (nI 1) dX8_remember_69 (by decide +kernel) ?_
  refine V.iadd 70 dX8_remember_70 ?_
  refine V.putI 71 dX8_remember_71 fl_RX8_88 fp_8_1 i_178_1 ?_
  exact V.vret 74 dX8_remember_74 (by unfold rmF; rw [if_neg (by omega)])
theorem k_remember (w : Wd) (v : Vm2) {K : Nat} (hk0 : v 178 1 = nI K) (hk : K ≤ 16) : CU w yX8_remember cX8_remember 2 (rm 1 23) [.ref (wN w + 178)] v (fun v' => v' = rmF v K) := by
  rcases Nat.lt_or_ge K 16 with h | h
  · exact c_X8_rememberB w v hk0 h
  · obtain rfl : K = 16 := by omega
    exact c_X8_rememberA w v hk0
theorem up2_self (v : Vm2) (k i : Nat) (x : Int32) : up2 v k i x k i = x := by simp [up2]
set_option maxHeartbeats 4000000 in
set_option maxRecDepth 100000 in
theorem c_X8_draw (w : Wd) (v : Vm2) {n : Int32} (hn : ¬ n = 0) : CI w yX8_draw cX8_draw 4 (some .int) (rm 0 0) [.ref (wN w + 178), .int n] v (fun r v' => r = drF (v 179 191) n ∧ v' = up2 v 179 191 (sdF (v 179 191))) := by
  refine CI.of (by decide) (Nat.le_of_ble_eq_true rfl) ?_
  refine J.aload_n 0 dX8_draw_0 rfl rfl ?_
  refine V.getR 1 dX8_draw_1 fl_RX8_7 r_178_0 ?_
  refine J.sipush 4 (nI 191) dX8_draw_4 (by decide +kernel) ?_
  refine V.iald 7 dX8_draw_7 a_179 (by omega) ?_
  refine J.i2l 8 dX8_draw_8 ?_
  refine J.ldc2 9 (1103515245) dX8_draw_9 kl_RX8_180 ?_
  refine J.lmul 12 dX8_draw_12 ?_
  refine J.ldc2 13 (12345) dX8_draw_13 kl_RX8_182 ?_
  refine J.ladd 16 dX8_draw_16 ?_
  refine J.ldc2 17 (2147483648) dX8_draw_17 kl_RX8_184 ?_
  refine J.lrem 20 dX8_draw_20 (by decide) ?_
  refine J.lstore_n 21 dX8_draw_21 rfl (by decide) ?_
  refine J.aload_n 22 dX8_draw_22 rfl rfl ?_
  refine V.getR 23 dX8_draw_23 fl_RX8_7 r_178_0 ?_
  refine J.sipush 26 (nI 191) dX8_draw_26 (by decide +kernel) ?_
  refine J.lload_n 29 dX8_draw_29 rfl rfl ?_
  refine J.l2i 30 dX8_draw_30 ?_
  refine V.iast 31 dX8_draw_31 a_179 (by omega) ?_
  refine J.aload_n 32 dX8_draw_32 rfl rfl ?_
  refine V.getR 33 dX8_draw_33 fl_RX8_7 r_178_0 ?_
  refine J.sipush 36 (nI 191) dX8_draw_36 (by decide +kernel) ?_
  refine V.iald 39 dX8_draw_39 a_179 (by omega) ?_
  refine J.top (b := sdF (v 179 191)) (by rw [up2_self]; rfl) ?_
  refine J.ldc 40 (65536) dX8_draw_40 kc_RX8_186 (J.top (b := nI 65536) (by decide +kernel) ?_)
  refine J.idiv 42 dX8_draw_42 (by decide) ?_
  refine J.iload_n 43 dX8_draw_43 rfl rfl ?_
  refine J.irem 44 dX8_draw_44 (hn) ?_
  exact V.iret 45 dX8_draw_45 (⟨rfl, rfl⟩)
