set_option maxHeartbeats 4000000 in
set_option maxRecDepth 100000 in
theorem c_X8_farthest (w : Wd) (v : Vm2) {n f j i : Nat} (hn0 : v 179 0 = nI n) (hf : v 179 1 = nI f) (hn : n ≤ 8) (hf3 : f < 4) (hj : j < n) (hi : i < n) : CI w yX8_farthest cX8_farthest 9 (some .int) (rm 3 69) [.ref (wN w + 178), .int (nI j), .int (nI i)] v (fun r v' => r = frF (v 179) n f j i ∧ ∃ o, v' = upR v 183 o) := by
  refine CI.of (by decide) (Nat.le_of_ble_eq_true rfl) ?_
  have lp : trF (v 179) i → liF (v 179) j → ∀ (m k : Nat) (o g : Nat → Int32), k ≤ 3 → (∀ y, upd g (107 + 8 * j + i) y = upd (v 179) (107 + 8 * j + i) y) → 3 - k < m → J w yX8_farthest cX8_farthest 9 (some .int) (rm 3 69) XT (ZJ w 185 0 0 (PI w (fun r v' => r = frF (v 179) n f j i ∧ ∃ o, v' = upR v 183 o))) 47 [(0, .ref (wN w + 178)), (1, .int (nI j)), (2, .int (nI i)), (3, .int (nI (107 + 8 * j + i))), (4, .int (v 179 (107 + 8 * j + i))), (5, .int (frS (v 179) n f j i k).1), (6, .int (frS (v 179) n f j i k).2), (7, .int (nI k))] [] 185 (hv w (upR (upR v 183 o) 179 g)) 0 0 := by
    intro q1 q2 m
    induction m with
    | zero =>
      intro k o g hi0 hi1 hm
      exact absurd hm (by omega)
    | succ m ih =>
      intro k o g hi0 hi1 hm
      refine J.iload 47 dX8_farthest_47 rfl ?_
      refine J.iconst 49 (nI 3) dX8_farthest_49 (by decide +kernel) ?_
      refine V.icmp_ge 50 143 dX8_farthest_50 (by decide) (by omega) (by omega) (fun c50 => ?_) (fun c50 => ?_)
      · refine J.aload_n 143 dX8_farthest_143 rfl rfl ?_
        refine V.getR 144 dX8_farthest_144 fl_RX8_7 r_178_0 ?_
        refine J.iload_n 147 dX8_farthest_147 rfl rfl ?_
        refine J.iload 148 dX8_farthest_148 rfl ?_
        refine V.iast 150 dX8_farthest_150 a_179 (by omega) ?_
        refine V.heapv (up2_upR _ _ _ _ _) ?_
        refine J.iload 151 dX8_farthest_151 rfl ?_
        obtain rfl : k = 3 := by omega
        exact V.iret 153 dX8_farthest_153 (⟨by unfold frF; rw [if_pos ⟨q1, q2⟩], o, by rw [hi1, upd_id, ← upR_ne v o (by decide : (179 : Nat) ≠ 183)]; exact (upR_id _ _).symm⟩)
      · refine J.aload_n 53 dX8_farthest_53 rfl rfl ?_
        refine V.getR 54 dX8_farthest_54 fl_RX8_7 r_178_0 ?_
        refine J.iload_n 57 dX8_farthest_57 rfl rfl ?_
        refine J.sipush 58 (nI 9999) dX8_farthest_58 (by decide +kernel) ?_
        refine J.iload 61 dX8_farthest_61 rfl ?_
        refine J.iconst 63 (nI 1) dX8_farthest_63 (by decide +kernel) ?_
        refine J.isub 64 dX8_farthest_64 ?_
        refine J.imul 65 dX8_farthest_65 ?_
        refine V.iast 66 dX8_farthest_66 a_179 (by omega) ?_
        refine V.heapv (up2_upR _ _ _ _ _) ?_
        rw [show upd g (107 + 8 * j + i) (nI 9999 * (nI k - nI 1)) = upd (v 179) (107 + 8 * j + i) (lkF k) from hi1 _]
        refine J.aload_n 67 dX8_farthest_67 rfl rfl ?_
        refine J.iconst 68 (nI 0) dX8_farthest_68 (by decide +kernel) ?_
        refine J.iload_n 69 dX8_farthest_69 rfl rfl ?_
        refine V.callv 70 dX8_farthest_70 ml_RX8_117 mi_yX8_middleOf mv_yX8_middleOf (c_X8_middleOf w _ (by omega) (by rw [upR_self, upd_ne _ _ (by omega)]; exact hn0) (by rw [ro_zero, upR_self, upd_ne _ _ (by omega)]; exact hf) (by omega) (by omega) (by omega)) rfl rfl (Nat.le_of_ble_eq_true rfl) (by decide) (by decide) o_178 rfl rfl (fun r70 v70 h70 => ?_)
        obtain ⟨rfl, o70, rfl⟩ := h70
        rw [ro_zero, upR_self]
        refine V.heapv (v' := upR (upR v 183 o70) 179 (upd (v 179) (107 + 8 * j + i) (lkF k))) (by rw [upR_comm _ _ _ (by decide : (179 : Nat) ≠ 183), upR_upR]) ?_
        refine J.aload_n 73 dX8_farthest_73 rfl rfl ?_
        refine J.iconst 74 (nI 0) dX8_farthest_74 (by decide +kernel) ?_
        refine J.iload_n 75 dX8_farthest_75 rfl rfl ?_
        refine V.callvP 76 dX8_farthest_76 ml_RX8_97 mi_yX8_aim mv_yX8_aim (c_X8_aim w _ (by omega)) rfl rfl (Nat.le_of_ble_eq_true rfl) (by decide) (by decide) o_178 rfl rfl ?_
        rw [ro_zero, upR_self]
        refine J.isub 79 dX8_farthest_79 ?_
        refine J.istore 80 dX8_farthest_80 (by decide) ?_
        refine J.iload 82 dX8_farthest_82 rfl ?_
        refine J.if_ge 84 93 dX8_farthest_84 (by decide) (fun c84 => ?_) (fun c84 => ?_)
        · have ea : abF (frD (v 179) n f j i (lkF k)) = _ := if_pos c84
          refine J.iload 93 dX8_farthest_93 rfl ?_
          refine J.istore 95 dX8_farthest_95 (by decide) ?_
          refine J.iload 97 dX8_farthest_97 rfl ?_
          refine J.iload 99 dX8_farthest_99 rfl ?_
          refine J.icmp_le 101 117 dX8_farthest_101 (by decide) (fun c101 => ?_) (fun c101 => ?_)
          · have e5 : (frS (v 179) n f j i (k + 1)).1 = (frS (v 179) n f j i k).1 := by show (if _ ≤ _ then _ else _) = _; rw [ea]; exact if_pos c101
            refine J.iload 117 dX8_farthest_117 rfl ?_
            refine J.istore 119 dX8_farthest_119 (by decide) ?_
            refine J.iload 121 dX8_farthest_121 rfl ?_
            refine J.iload 123 dX8_farthest_123 rfl ?_
            refine J.icmp_le 125 133 dX8_farthest_125 (by decide) (fun c125 => ?_) (fun c125 => ?_)
            · have e6 : (frS (v 179) n f j i (k + 1)).2 = (frS (v 179) n f j i k).2 := by show (if _ ≤ _ then _ else _) = _; rw [ea]; exact if_pos c125
              refine J.iload 133 dX8_farthest_133 rfl ?_
              refine J.istore 135 dX8_farthest_135 (by decide) ?_
              refine V.iinc 137 dX8_farthest_137 rfl (by decide) ?_
              refine J.goto 140 47 dX8_farthest_140 (by decide) ?_
              refine J.drop 8 ?_
              have q := ih (k + 1) o70 (upd (v 179) (107 + 8 * j + i) (lkF k)) (by omega) (fun y => by rw [upd_upd]) (by omega)
              rw [e5, e6] at q
              exact q
            · have e6 : (frS (v 179) n f j i (k + 1)).2 = abF (frD (v 179) n f j i (lkF k)) := by show (if _ ≤ _ then _ else _) = _; rw [ea]; exact if_neg c125
              rw [ea] at e6
              refine J.iload 128 dX8_farthest_128 rfl ?_
              refine J.goto 130 135 dX8_farthest_130 (by decide) ?_
              refine J.istore 135 dX8_farthest_135 (by decide) ?_
              refine V.iinc 137 dX8_farthest_137 rfl (by decide) ?_
              refine J.goto 140 47 dX8_farthest_140 (by decide) ?_
              refine J.drop 8 ?_
              have q := ih (k + 1) o70 (upd (v 179) (107 + 8 * j + i) (lkF k)) (by omega) (fun y => by rw [upd_upd]) (by omega)
              rw [e5, e6] at q
              exact q
          · have e5 : (frS (v 179) n f j i (k + 1)).1 = lkF k + nI 9999 := by show (if _ ≤ _ then _ else _) = _; rw [ea]; exact if_neg c101
            refine J.aload_n 104 dX8_farthest_104 rfl rfl ?_
            refine V.getR 105 dX8_farthest_105 fl_RX8_7 r_178_0 ?_
            refine J.iload_n 108 dX8_farthest_108 rfl rfl ?_
            refine V.iald 109 dX8_farthest_109 a_179 (by omega) ?_
            refine J.top (congrFun (upR_self _ _ _) _) ?_
            refine J.top (upd_self _ _ _) ?_
            refine J.sipush 110 (nI 9999) dX8_farthest_110 (by decide +kernel) ?_
            refine J.iadd 113 dX8_farthest_113 ?_
            refine J.goto 114 119 dX8_farthest_114 (by decide) ?_
            refine J.istore 119 dX8_farthest_119 (by decide) ?_
            refine J.iload 121 dX8_farthest_121 rfl ?_
            refine J.iload 123 dX8_farthest_123 rfl ?_
            refine J.icmp_le 125 133 dX8_farthest_125 (by decide) (fun c125 => ?_) (fun c125 => ?_)
            · have e6 : (frS (v 179) n f j i (k + 1)).2 = (frS (v 179) n f j i k).2 := by show (if _ ≤ _ then _ else _) = _; rw [ea]; exact if_pos c125
              refine J.iload 133 dX8_farthest_133 rfl ?_
              refine J.istore 135 dX8_farthest_135 (by decide) ?_
              refine V.iinc 137 dX8_farthest_137 rfl (by decide) ?_
              refine J.goto 140 47 dX8_farthest_140 (by decide) ?_
              refine J.drop 8 ?_
              have q := ih (k + 1) o70 (upd (v 179) (107 + 8 * j + i) (lkF k)) (by omega) (fun y => by rw [upd_upd]) (by omega)
              rw [e5, e6] at q
              exact q
            · have e6 : (frS (v 179) n f j i (k + 1)).2 = abF (frD (v 179) n f j i (lkF k)) := by show (if _ ≤ _ then _ else _) = _; rw [ea]; exact if_neg c125
              rw [ea] at e6
              refine J.iload 128 dX8_farthest_128 rfl ?_
              refine J.goto 130 135 dX8_farthest_130 (by decide) ?_
              refine J.istore 135 dX8_farthest_135 (by decide) ?_
              refine V.iinc 137 dX8_farthest_137 rfl (by decide) ?_
              refine J.goto 140 47 dX8_farthest_140 (by decide) ?_
              refine J.drop 8 ?_
              have q := ih (k + 1) o70 (upd (v 179) (107 + 8 * j + i) (lkF k)) (by omega) (fun y => by rw [upd_upd]) (by omega)
              rw [e5, e6] at q
              exact q
        · have ea : abF (frD (v 179) n f j i (lkF k)) = _ := if_neg c84
          refine J.iload 87 dX8_farthest_87 rfl ?_
          refine J.ineg 89 dX8_farthest_89 ?_
          refine J.goto 90 95 dX8_farthest_90 (by decide) ?_
          refine J.istore 95 dX8_farthest_95 (by decide) ?_
          refine J.iload 97 dX8_farthest_97 rfl ?_
          refine J.iload 99 dX8_farthest_99 rfl ?_
          refine J.icmp_le 101 117 dX8_farthest_101 (by decide) (fun c101 => ?_) (fun c101 => ?_)
          · have e5 : (frS (v 179) n f j i (k + 1)).1 = (frS (v 179) n f j i k).1 := by show (if _ ≤ _ then _ else _) = _; rw [ea]; exact if_pos c101
            refine J.iload 117 dX8_farthest_117 rfl ?_
            refine J.istore 119 dX8_farthest_119 (by decide) ?_
            refine J.iload 121 dX8_farthest_121 rfl ?_
            refine J.iload 123 dX8_farthest_123 rfl ?_
            refine J.icmp_le 125 133 dX8_farthest_125 (by decide) (fun c125 => ?_) (fun c125 => ?_)
            · have e6 : (frS (v 179) n f j i (k + 1)).2 = (frS (v 179) n f j i k).2 := by show (if _ ≤ _ then _ else _) = _; rw [ea]; exact if_pos c125
              refine J.iload 133 dX8_farthest_133 rfl ?_
              refine J.istore 135 dX8_farthest_135 (by decide) ?_
              refine V.iinc 137 dX8_farthest_137 rfl (by decide) ?_
              refine J.goto 140 47 dX8_farthest_140 (by decide) ?_
              refine J.drop 8 ?_
              have q := ih (k + 1) o70 (upd (v 179) (107 + 8 * j + i) (lkF k)) (by omega) (fun y => by rw [upd_upd]) (by omega)
              rw [e5, e6] at q
              exact q
            · have e6 : (frS (v 179) n f j i (k + 1)).2 = abF (frD (v 179) n f j i (lkF k)) := by show (if _ ≤ _ then _ else _) = _; rw [ea]; exact if_neg c125
              rw [ea] at e6
              refine J.iload 128 dX8_farthest_128 rfl ?_
              refine J.goto 130 135 dX8_farthest_130 (by decide) ?_
              refine J.istore 135 dX8_farthest_135 (by decide) ?_
              refine V.iinc 137 dX8_farthest_137 rfl (by decide) ?_
              refine J.goto 140 47 dX8_farthest_140 (by decide) ?_
              refine J.drop 8 ?_
              have q := ih (k + 1) o70 (upd (v 179) (107 + 8 * j + i) (lkF k)) (by omega) (fun y => by rw [upd_upd]) (by omega)
              rw [e5, e6] at q
              exact q
          · have e5 : (frS (v 179) n f j i (k + 1)).1 = lkF k + nI 9999 := by show (if _ ≤ _ then _ else _) = _; rw [ea]; exact if_neg c101
            refine J.aload_n 104 dX8_farthest_104 rfl rfl ?_
            refine V.getR 105 dX8_farthest_105 fl_RX8_7 r_178_0 ?_
            refine J.iload_n 108 dX8_farthest_108 rfl rfl ?_
            refine V.iald 109 dX8_farthest_109 a_179 (by omega) ?_
            refine J.top (congrFun (upR_self _ _ _) _) ?_
            refine J.top (upd_self _ _ _) ?_
            refine J.sipush 110 (nI 9999) dX8_farthest_110 (by decide +kernel) ?_
            refine J.iadd 113 dX8_farthest_113 ?_
            refine J.goto 114 119 dX8_farthest_114 (by decide) ?_
            refine J.istore 119 dX8_farthest_119 (by decide) ?_
            refine J.iload 121 dX8_farthest_121 rfl ?_
            refine J.iload 123 dX8_farthest_123 rfl ?_
            refine J.icmp_le 125 133 dX8_farthest_125 (by decide) (fun c125 => ?_) (fun c125 => ?_)
            · have e6 : (frS (v 179) n f j i (k + 1)).2 = (frS (v 179) n f j i k).2 := by show (if _ ≤ _ then _ else _) = _; rw [ea]; exact if_pos c125
              refine J.iload 133 dX8_farthest_133 rfl ?_
              refine J.istore 135 dX8_farthest_135 (by decide) ?_
              refine V.iinc 137 dX8_farthest_137 rfl (by decide) ?_
              refine J.goto 140 47 dX8_farthest_140 (by decide) ?_
              refine J.drop 8 ?_
              have q := ih (k + 1) o70 (upd (v 179) (107 + 8 * j + i) (lkF k)) (by omega) (fun y => by rw [upd_upd]) (by omega)
              rw [e5, e6] at q
              exact q
            · have e6 : (frS (v 179) n f j i (k + 1)).2 = abF (frD (v 179) n f j i (lkF k)) := by show (if _ ≤ _ then _ else _) = _; rw [ea]; exact if_neg c125
              rw [ea] at e6
              refine J.iload 128 dX8_farthest_128 rfl ?_
              refine J.goto 130 135 dX8_farthest_130 (by decide) ?_
              refine J.istore 135 dX8_farthest_135 (by decide) ?_
              refine V.iinc 137 dX8_farthest_137 rfl (by decide) ?_
              refine J.goto 140 47 dX8_farthest_140 (by decide) ?_
              refine J.drop 8 ?_
              have q := ih (k + 1) o70 (upd (v 179) (107 + 8 * j + i) (lkF k)) (by omega) (fun y => by rw [upd_upd]) (by omega)
              rw [e5, e6] at q
              exact q
  refine J.aload_n 0 dX8_farthest_0 rfl rfl ?_
  refine J.iconst 1 (nI 0) dX8_farthest_1 (by decide +kernel) ?_
  refine J.iload_n 2 dX8_farthest_2 rfl rfl ?_
  refine V.callvP 3 dX8_farthest_3 ml_RX8_114 mi_yX8_isTrue mv_yX8_isTrue (c_X8_isTrue w _ (by omega)) rfl rfl (Nat.le_of_ble_eq_true rfl) (by decide) (by decide) o_178 rfl rfl ?_
  rw [ro_zero]
  refine V.if_eqB 6 18 dX8_farthest_6 (by decide) (fun c6 => ?_) (fun c6 => ?_)
  · refine J.iconst 18 (-1) dX8_farthest_18 (by decide +kernel) ?_
    exact V.iret 19 dX8_farthest_19 (⟨by unfold frF; rw [if_neg (fun z => by first | exact c6 z.1 | exact c15 z.2)], _, upR_id v 183⟩)
  · refine J.aload_n 9 dX8_farthest_9 rfl rfl ?_
    refine J.iconst 10 (nI 0) dX8_farthest_10 (by decide +kernel) ?_
    refine J.iload_n 11 dX8_farthest_11 rfl rfl ?_
    refine V.callvP 12 dX8_farthest_12 ml_RX8_120 mi_yX8_isLiar mv_yX8_isLiar (c_X8_isLiar w _ (by omega)) rfl rfl (Nat.le_of_ble_eq_true rfl) (by decide) (by decide) o_178 rfl rfl ?_
    rw [ro_zero]
    refine V.if_neB 15 20 dX8_farthest_15 (by decide) (fun c15 => ?_) (fun c15 => ?_)
    · refine J.bipush 20 (nI 107) dX8_farthest_20 (by decide +kernel) ?_
      refine J.bipush 22 (nI 8) dX8_farthest_22 (by decide +kernel) ?_
      refine J.iload_n 24 dX8_farthest_24 rfl rfl ?_
      refine V.imul 25 dX8_farthest_25 ?_
      refine V.iadd 26 dX8_farthest_26 ?_
      refine J.iload_n 27 dX8_farthest_27 rfl rfl ?_
      refine V.iadd 28 dX8_farthest_28 ?_
      refine J.istore_n 29 dX8_farthest_29 rfl (by decide) ?_
      refine J.aload_n 30 dX8_farthest_30 rfl rfl ?_
      refine V.getR 31 dX8_farthest_31 fl_RX8_7 r_178_0 ?_
      refine J.iload_n 34 dX8_farthest_34 rfl rfl ?_
      refine V.iald 35 dX8_farthest_35 a_179 (by omega) ?_
      refine J.istore 36 dX8_farthest_36 (by decide) ?_
      refine J.iconst 38 (nI 0) dX8_farthest_38 (by decide +kernel) ?_
      refine J.istore 39 dX8_farthest_39 (by decide) ?_
      refine J.iconst 41 (-1) dX8_farthest_41 (by decide +kernel) ?_
      refine J.istore 42 dX8_farthest_42 (by decide) ?_
      refine J.iconst 44 (nI 0) dX8_farthest_44 (by decide +kernel) ?_
      refine J.istore 45 dX8_farthest_45 (by decide) ?_
      refine V.heapv (v' := upR (upR v 183 (v 183)) 179 (v 179)) (by rw [← upR_id v 183, ← upR_id v 179]) ?_
      exact lp c6 c15 4 0 _ _ (by omega) (fun _ => rfl) (by omega)
    · refine J.iconst 18 (-1) dX8_farthest_18 (by decide +kernel) ?_
      exact V.iret 19 dX8_farthest_19 (⟨by unfold frF; rw [if_neg (fun z => by first | exact c6 z.1 | exact c15 z.2)], _, upR_id v 183⟩)
