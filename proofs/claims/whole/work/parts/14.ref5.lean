/-! ===== part 14: the reference: worst, farthest, sets, remember, draws ===== -/
def lkF (k : Nat) : Int32 := nI 9999 * (nI k - nI 1)
def frD (ρ : Nat → Int32) (n f j i : Nat) (x : Int32) : Int32 := mdF (upd ρ (107 + 8 * j + i) x) n f i - aimF (upd ρ (107 + 8 * j + i) x) i
def abF (d : Int32) : Int32 := if 0 ≤ d then d else -d
def frS (ρ : Nat → Int32) (n f j i : Nat) : Nat → Int32 × Int32
  | 0 => (nI 0, -1)
  | k + 1 => (if abF (frD ρ n f j i (lkF k)) ≤ (frS ρ n f j i k).2 then (frS ρ n f j i k).1 else lkF k + nI 9999, if abF (frD ρ n f j i (lkF k)) ≤ (frS ρ n f j i k).2 then (frS ρ n f j i k).2 else abF (frD ρ n f j i (lkF k)))
def frF (ρ : Nat → Int32) (n f j i : Nat) : Int32 := if trF ρ i ∧ liF ρ j then (frS ρ n f j i 3).1 else -1
theorem upd_upd (f : Nat → Int32) (k : Nat) (a b : Int32) : upd (upd f k a) k b = upd f k b := by
  funext j
  by_cases h : j = k
  · simp [upd, h]
  · simp [upd, h]
theorem upd_id (f : Nat → Int32) (k : Nat) : upd f k (f k) = f := by
  funext j
  by_cases h : j = k
  · simp [upd, h]
  · simp [upd, h]
theorem upd_self (f : Nat → Int32) (k : Nat) (x : Int32) : upd f k x k = x := by simp [upd]
theorem upd_ne (f : Nat → Int32) {k j : Nat} (x : Int32) (h : j ≠ k) : upd f k x j = f j := by simp [upd, h]
abbrev boW (ρ bo ba : Nat → Int32) (n k : Nat) : Prop := ¬ (clkB n (bo k) ∧ aimF ρ (bo k).toNatClampNeg = ba k)
def weF (ρ bo ba : Nat → Int32) (n : Nat) : Nat → Nat → Int32
  | 0, _ => -1
  | m + 1, k => if boW ρ bo ba n k then nI k else weF ρ bo ba n m (k + 1)
/-- the rows ahead are moved down by one, up to row k -/
def shK (v : Vm2) (k : Nat) : Vm2 := fun a b => if a = 179 ∧ 192 ≤ b ∧ b < 192 * k then v 179 (b + 192) else v a b
theorem shK_1 (v : Vm2) : v = shK v 1 := by
  funext a b
  simp only [shK]
  rw [if_neg (by omega)]
theorem shK_s (v : Vm2) (k : Nat) (hk : 1 ≤ k) (h16 : k < 16) : cpR (shK v k) (192 * (k + 1)) (192 * k) = shK v (k + 1) := by
  funext a b
  simp only [cpK, shK]
  by_cases h : a = 179 ∧ 192 * k ≤ b ∧ b < 192 * k + 192
  · rw [if_pos h, if_neg (by omega), if_pos (by omega)]
    congr 1
    omega
  · rw [if_neg h]
    by_cases h2 : a = 179 ∧ 192 ≤ b ∧ b < 192 * k
    · rw [if_pos h2, if_pos (by omega)]
    · rw [if_neg h2, if_neg (by omega)]
def rmF (v : Vm2) (K : Nat) : Vm2 := if K = 16 then up2 (cpR (up2 (shK v 16) 178 1 (nI 15)) 0 (192 * (15 + 1))) 178 1 (nI 16) else up2 (cpR v 0 (192 * (K + 1))) 178 1 (nI (K + 1))
def sdF (s : Int32) : Int32 := (s.toInt64 * 1103515245 + 12345 - (s.toInt64 * 1103515245 + 12345) / 2147483648 * 2147483648).toInt32
def drF (s n : Int32) : Int32 := sdF s / nI 65536 - sdF s / nI 65536 / n * n

set_option maxHeartbeats 4000000 in
set_option maxRecDepth 100000 in
theorem c_X8_worst (w : Wd) (v : Vm2) {n f : Nat} (hn0 : v 179 0 = nI n) (hf : v 179 1 = nI f) (hn : n ≤ 8) (hf3 : f < 4) : CI w yX8_worst cX8_worst 7 (some .int) (rm 3 69) [.ref (wN w + 178)] v (fun r v' => r = wrF (v 179) n f ∧ ∃ o, v' = upR v 183 o) := by
  refine CI.of (by decide) (Nat.le_of_ble_eq_true rfl) ?_
  have hu9 : ∀ o, upR v 183 o 179 = v 179 := fun o => upR_ne v o (by decide)
  have lo : ¬ cntT (v 179) n < 2 → ¬ n ≤ 2 * f → ¬ f < cntL (v 179) n → ∀ (m i : Nat) (o : Nat → Int32), i ≤ n → n - i < m → J w yX8_worst cX8_worst 7 (some .int) (rm 3 69) XT (ZJ w 185 0 0 (PI w (fun r v' => r = wrF (v 179) n f ∧ ∃ o, v' = upR v 183 o))) 92 [(0, .ref (wN w + 178)), (1, .int (nI (cntT (v 179) n))), (2, .int (wOut (v 179) n f i)), (3, .int (nI i))] [] 185 (hv w (upR v 183 o)) 0 0 := by
    intro q1 q2 q3 m
    induction m with
    | zero =>
      intro i o hi0 hm
      exact absurd hm (by omega)
    | succ m ih =>
      intro i o hi0 hm
      refine J.iload_n 92 dX8_worst_92 rfl rfl ?_
      refine J.aload_n 93 dX8_worst_93 rfl rfl ?_
      refine V.getR 94 dX8_worst_94 fl_RX8_7 r_178_0 ?_
      refine J.iconst 97 (nI 0) dX8_worst_97 (by decide +kernel) ?_
      refine V.iald 98 dX8_worst_98 a_179 (by omega) ?_
      refine J.top (b := nI n) (by rw [hu9]; exact hn0) ?_
      refine V.icmp_ge 99 200 dX8_worst_99 (by decide) (by omega) (by omega) (fun c99 => ?_) (fun c99 => ?_)
      · refine J.iload_n 200 dX8_worst_200 rfl rfl ?_
        obtain rfl : i = n := by omega
        exact V.iret 201 dX8_worst_201 (⟨by unfold wrF; rw [if_neg q1, if_neg q2, if_neg q3], _, rfl⟩)
      · have C : ∀ o, J w yX8_worst cX8_worst 7 (some .int) (rm 3 69) XT (ZJ w 185 0 0 (PI w (fun r v' => r = wrF (v 179) n f ∧ ∃ o, v' = upR v 183 o))) 194 [(0, .ref (wN w + 178)), (1, .int (nI (cntT (v 179) n))), (2, .int (wOut (v 179) n f (i + 1))), (3, .int (nI i)), (4, .int (nI n))] [] 185 (hv w (upR v 183 o)) 0 0 := by
          intro o
          refine V.iinc 194 dX8_worst_194 rfl (by decide) ?_
          refine J.goto 197 92 dX8_worst_197 (by decide) ?_
          refine J.drop 4 ?_
          exact ih (i + 1) _ (by omega) (by omega)
        have lk : ∀ (m : Nat) (k : Nat) (o : Nat → Int32), (k ≤ n) → n - k < m → J w yX8_worst cX8_worst 7 (some .int) (rm 3 69) XT (ZJ w 185 0 0 (PI w (fun r v' => r = wrF (v 179) n f ∧ ∃ o, v' = upR v 183 o))) 105 [(0, .ref (wN w + 178)), (1, .int (nI (cntT (v 179) n))), (2, .int (wIn (v 179) n f i k (wOut (v 179) n f i))), (3, .int (nI i)), (4, .int (nI k))] [] 185 (hv w (upR v 183 o)) 0 0 := by
          intro m
          induction m with
          | zero =>
            intro k o hi0 hm
            exact absurd hm (by omega)
          | succ m ihk =>
            intro k o hi0 hm
            refine J.iload 105 dX8_worst_105 rfl ?_
            refine J.aload_n 107 dX8_worst_107 rfl rfl ?_
            refine V.getR 108 dX8_worst_108 fl_RX8_7 r_178_0 ?_
            refine J.iconst 111 (nI 0) dX8_worst_111 (by decide +kernel) ?_
            refine V.iald 112 dX8_worst_112 a_179 (by omega) ?_
            refine J.top (b := nI n) (by rw [hu9]; exact hn0) ?_
            refine V.icmp_ge 113 194 dX8_worst_113 (by decide) (by omega) (by omega) (fun c113 => ?_) (fun c113 => ?_)
            · obtain rfl : k = n := by omega
              exact C o
            · refine J.iload_n 116 dX8_worst_116 rfl rfl ?_
              refine J.iload 117 dX8_worst_117 rfl ?_
              refine V.icmp_eq 119 145 dX8_worst_119 (by decide) (by omega) (by omega) (fun c119 => ?_) (fun c119 => ?_)
              · have ef : wfar (v 179) n f i k = nI 0 := by unfold wfar; rw [if_neg (fun z => z.1 c119)]
                refine J.iconst 145 (nI 0) dX8_worst_145 (by decide +kernel) ?_
                refine J.istore 146 dX8_worst_146 (by decide) ?_
                refine J.iload 148 dX8_worst_148 rfl ?_
                refine J.if_eq 150 172 dX8_worst_150 (by decide) (fun _ => ?_) (fun q => absurd q (by decide))
                refine J.iconst 172 (nI 0) dX8_worst_172 (by decide +kernel) ?_
                refine J.istore 173 dX8_worst_173 (by decide) ?_
                refine J.iload 175 dX8_worst_175 rfl ?_
                refine J.iload_n 177 dX8_worst_177 rfl rfl ?_
                refine J.icmp_le 178 186 dX8_worst_178 (by decide) (fun c178 => ?_) (fun c178 => ?_)
                · have e4 : wIn (v 179) n f i (k + 1) (wOut (v 179) n f i) = wIn (v 179) n f i k (wOut (v 179) n f i) := by show (if _ ≤ _ then _ else _) = _; rw [ef]; rw [if_pos c178]
                  refine J.iload_n 186 dX8_worst_186 rfl rfl ?_
                  refine J.istore_n 187 dX8_worst_187 rfl (by decide) ?_
                  refine V.iinc 188 dX8_worst_188 rfl (by decide) ?_
                  refine J.goto 191 105 dX8_worst_191 (by decide) ?_
                  refine J.drop 5 ?_
                  refine J.drop 6 ?_
                  have q := fun o => ihk (k + 1) o (by omega) (by omega)
                  simp only [e4] at q
                  exact q _
                · have e4 : wIn (v 179) n f i (k + 1) (wOut (v 179) n f i) = wfar (v 179) n f i k := by show (if _ ≤ _ then _ else _) = _; rw [ef]; rw [if_neg c178]
                  rw [ef] at e4
                  refine J.iload 181 dX8_worst_181 rfl ?_
                  refine J.goto 183 187 dX8_worst_183 (by decide) ?_
                  refine J.istore_n 187 dX8_worst_187 rfl (by decide) ?_
                  refine V.iinc 188 dX8_worst_188 rfl (by decide) ?_
                  refine J.goto 191 105 dX8_worst_191 (by decide) ?_
                  refine J.drop 5 ?_
                  refine J.drop 6 ?_
                  have q := fun o => ihk (k + 1) o (by omega) (by omega)
                  simp only [e4] at q
                  exact q _
              · refine J.aload_n 122 dX8_worst_122 rfl rfl ?_
                refine J.iconst 123 (nI 0) dX8_worst_123 (by decide +kernel) ?_
                refine J.iload_n 124 dX8_worst_124 rfl rfl ?_
                refine V.callvP 125 dX8_worst_125 ml_RX8_114 mi_yX8_isTrue mv_yX8_isTrue (c_X8_isTrue w _ (by omega)) rfl rfl (Nat.le_of_ble_eq_true rfl) (by decide) (by decide) o_178 rfl rfl ?_
                rw [ro_zero, hu9]
                refine V.if_eqB 128 145 dX8_worst_128 (by decide) (fun c128 => ?_) (fun c128 => ?_)
                · have ef : wfar (v 179) n f i k = nI 0 := by unfold wfar; rw [if_neg (fun z => c128 z.2.1)]
                  refine J.iconst 145 (nI 0) dX8_worst_145 (by decide +kernel) ?_
                  refine J.istore 146 dX8_worst_146 (by decide) ?_
                  refine J.iload 148 dX8_worst_148 rfl ?_
                  refine J.if_eq 150 172 dX8_worst_150 (by decide) (fun _ => ?_) (fun q => absurd q (by decide))
                  refine J.iconst 172 (nI 0) dX8_worst_172 (by decide +kernel) ?_
                  refine J.istore 173 dX8_worst_173 (by decide) ?_
                  refine J.iload 175 dX8_worst_175 rfl ?_
                  refine J.iload_n 177 dX8_worst_177 rfl rfl ?_
                  refine J.icmp_le 178 186 dX8_worst_178 (by decide) (fun c178 => ?_) (fun c178 => ?_)
                  · have e4 : wIn (v 179) n f i (k + 1) (wOut (v 179) n f i) = wIn (v 179) n f i k (wOut (v 179) n f i) := by show (if _ ≤ _ then _ else _) = _; rw [ef]; rw [if_pos c178]
                    refine J.iload_n 186 dX8_worst_186 rfl rfl ?_
                    refine J.istore_n 187 dX8_worst_187 rfl (by decide) ?_
                    refine V.iinc 188 dX8_worst_188 rfl (by decide) ?_
                    refine J.goto 191 105 dX8_worst_191 (by decide) ?_
                    refine J.drop 5 ?_
                    refine J.drop 6 ?_
                    have q := fun o => ihk (k + 1) o (by omega) (by omega)
                    simp only [e4] at q
                    exact q _
                  · have e4 : wIn (v 179) n f i (k + 1) (wOut (v 179) n f i) = wfar (v 179) n f i k := by show (if _ ≤ _ then _ else _) = _; rw [ef]; rw [if_neg c178]
                    rw [ef] at e4
                    refine J.iload 181 dX8_worst_181 rfl ?_
                    refine J.goto 183 187 dX8_worst_183 (by decide) ?_
                    refine J.istore_n 187 dX8_worst_187 rfl (by decide) ?_
                    refine V.iinc 188 dX8_worst_188 rfl (by decide) ?_
                    refine J.goto 191 105 dX8_worst_191 (by decide) ?_
                    refine J.drop 5 ?_
                    refine J.drop 6 ?_
                    have q := fun o => ihk (k + 1) o (by omega) (by omega)
                    simp only [e4] at q
                    exact q _
                · refine J.aload_n 131 dX8_worst_131 rfl rfl ?_
                  refine J.iconst 132 (nI 0) dX8_worst_132 (by decide +kernel) ?_
                  refine J.iload 133 dX8_worst_133 rfl ?_
                  refine V.callvP 135 dX8_worst_135 ml_RX8_114 mi_yX8_isTrue mv_yX8_isTrue (c_X8_isTrue w _ (by omega)) rfl rfl (Nat.le_of_ble_eq_true rfl) (by decide) (by decide) o_178 rfl rfl ?_
                  rw [ro_zero, hu9]
                  refine V.if_eqB 138 145 dX8_worst_138 (by decide) (fun c138 => ?_) (fun c138 => ?_)
                  · have ef : wfar (v 179) n f i k = nI 0 := by unfold wfar; rw [if_neg (fun z => c138 z.2.2)]
                    refine J.iconst 145 (nI 0) dX8_worst_145 (by decide +kernel) ?_
                    refine J.istore 146 dX8_worst_146 (by decide) ?_
                    refine J.iload 148 dX8_worst_148 rfl ?_
                    refine J.if_eq 150 172 dX8_worst_150 (by decide) (fun _ => ?_) (fun q => absurd q (by decide))
                    refine J.iconst 172 (nI 0) dX8_worst_172 (by decide +kernel) ?_
                    refine J.istore 173 dX8_worst_173 (by decide) ?_
                    refine J.iload 175 dX8_worst_175 rfl ?_
                    refine J.iload_n 177 dX8_worst_177 rfl rfl ?_
                    refine J.icmp_le 178 186 dX8_worst_178 (by decide) (fun c178 => ?_) (fun c178 => ?_)
                    · have e4 : wIn (v 179) n f i (k + 1) (wOut (v 179) n f i) = wIn (v 179) n f i k (wOut (v 179) n f i) := by show (if _ ≤ _ then _ else _) = _; rw [ef]; rw [if_pos c178]
                      refine J.iload_n 186 dX8_worst_186 rfl rfl ?_
                      refine J.istore_n 187 dX8_worst_187 rfl (by decide) ?_
                      refine V.iinc 188 dX8_worst_188 rfl (by decide) ?_
                      refine J.goto 191 105 dX8_worst_191 (by decide) ?_
                      refine J.drop 5 ?_
                      refine J.drop 6 ?_
                      have q := fun o => ihk (k + 1) o (by omega) (by omega)
                      simp only [e4] at q
                      exact q _
                    · have e4 : wIn (v 179) n f i (k + 1) (wOut (v 179) n f i) = wfar (v 179) n f i k := by show (if _ ≤ _ then _ else _) = _; rw [ef]; rw [if_neg c178]
                      rw [ef] at e4
                      refine J.iload 181 dX8_worst_181 rfl ?_
                      refine J.goto 183 187 dX8_worst_183 (by decide) ?_
                      refine J.istore_n 187 dX8_worst_187 rfl (by decide) ?_
                      refine V.iinc 188 dX8_worst_188 rfl (by decide) ?_
                      refine J.goto 191 105 dX8_worst_191 (by decide) ?_
                      refine J.drop 5 ?_
                      refine J.drop 6 ?_
                      have q := fun o => ihk (k + 1) o (by omega) (by omega)
                      simp only [e4] at q
                      exact q _
                  · have ef : wfar (v 179) n f i k = exF (v 179) n f i (nI 500000000) - exF (v 179) n f k (-500000000) := by unfold wfar; rw [if_pos ⟨c119, c128, c138⟩]
                    refine J.iconst 141 (nI 1) dX8_worst_141 (by decide +kernel) ?_
                    refine J.goto 142 146 dX8_worst_142 (by decide) ?_
                    refine J.istore 146 dX8_worst_146 (by decide) ?_
                    refine J.iload 148 dX8_worst_148 rfl ?_
                    refine J.if_eq 150 172 dX8_worst_150 (by decide) (fun q => absurd q (by decide)) (fun _ => ?_)
                    refine J.aload_n 153 dX8_worst_153 rfl rfl ?_
                    refine J.iload_n 154 dX8_worst_154 rfl rfl ?_
                    refine J.ldc 155 (500000000) dX8_worst_155 kc_RX8_131 (J.top (b := nI 500000000) (by decide +kernel) ?_)
                    refine V.callv 157 dX8_worst_157 ml_RX8_132 mi_yX8_extreme mv_yX8_extreme (c_X8_extreme w _ (by rw [hu9]; exact hn0) (by rw [hu9]; exact hf) (by omega) (by omega) (by omega)) rfl rfl (Nat.le_of_ble_eq_true rfl) (by decide) (by decide) o_178 rfl rfl (fun r157 v157 h157 => ?_)
                    obtain ⟨rfl, o157, rfl⟩ := h157
                    rw [hu9]
                    refine V.heapv (upR_upR _ _ _ _) ?_
                    refine J.aload_n 160 dX8_worst_160 rfl rfl ?_
                    refine J.iload 161 dX8_worst_161 rfl ?_
                    refine J.ldc 163 (-500000000) dX8_worst_163 kc_RX8_135 ?_
                    refine V.callv 165 dX8_worst_165 ml_RX8_132 mi_yX8_extreme mv_yX8_extreme (c_X8_extreme w _ (by rw [hu9]; exact hn0) (by rw [hu9]; exact hf) (by omega) (by omega) (by omega)) rfl rfl (Nat.le_of_ble_eq_true rfl) (by decide) (by decide) o_178 rfl rfl (fun r165 v165 h165 => ?_)
                    obtain ⟨rfl, o165, rfl⟩ := h165
                    rw [hu9]
                    refine V.heapv (upR_upR _ _ _ _) ?_
                    refine J.isub 168 dX8_worst_168 ?_
                    refine J.goto 169 173 dX8_worst_169 (by decide) ?_
                    refine J.istore 173 dX8_worst_173 (by decide) ?_
                    refine J.iload 175 dX8_worst_175 rfl ?_
                    refine J.iload_n 177 dX8_worst_177 rfl rfl ?_
                    refine J.icmp_le 178 186 dX8_worst_178 (by decide) (fun c178 => ?_) (fun c178 => ?_)
                    · have e4 : wIn (v 179) n f i (k + 1) (wOut (v 179) n f i) = wIn (v 179) n f i k (wOut (v 179) n f i) := by show (if _ ≤ _ then _ else _) = _; rw [ef]; rw [if_pos c178]
                      refine J.iload_n 186 dX8_worst_186 rfl rfl ?_
                      refine J.istore_n 187 dX8_worst_187 rfl (by decide) ?_
                      refine V.iinc 188 dX8_worst_188 rfl (by decide) ?_
                      refine J.goto 191 105 dX8_worst_191 (by decide) ?_
                      refine J.drop 5 ?_
                      refine J.drop 6 ?_
                      have q := fun o => ihk (k + 1) o (by omega) (by omega)
                      simp only [e4] at q
                      exact q _
                    · have e4 : wIn (v 179) n f i (k + 1) (wOut (v 179) n f i) = wfar (v 179) n f i k := by show (if _ ≤ _ then _ else _) = _; rw [ef]; rw [if_neg c178]
                      rw [ef] at e4
                      refine J.iload 181 dX8_worst_181 rfl ?_
                      refine J.goto 183 187 dX8_worst_183 (by decide) ?_
                      refine J.istore_n 187 dX8_worst_187 rfl (by decide) ?_
                      refine V.iinc 188 dX8_worst_188 rfl (by decide) ?_
                      refine J.goto 191 105 dX8_worst_191 (by decide) ?_
                      refine J.drop 5 ?_
                      refine J.drop 6 ?_
                      have q := fun o => ihk (k + 1) o (by omega) (by omega)
                      simp only [e4] at q
                      exact q _
        refine J.iconst 102 (nI 0) dX8_worst_102 (by decide +kernel) ?_
        refine J.istore 103 dX8_worst_103 (by decide) ?_
        exact lk (n + 1) 0 o (by omega) (by omega)
  have hct := cntT_le (v 179) n
  have hcl := cntL_le (v 179) n
  have K : J w yX8_worst cX8_worst 7 (some .int) (rm 3 69) XT (ZJ w 185 0 0 (PI w (fun r v' => r = wrF (v 179) n f ∧ ∃ o, v' = upR v 183 o))) 39 [(0, .ref (wN w + 178)), (1, .int (nI (cntT (v 179) n))), (2, .int (nI 0)), (3, .int (nI n))] [] 185 (hv w (v)) 0 0 := by
    refine J.iload_n 39 dX8_worst_39 rfl rfl ?_
    refine J.iconst 40 (nI 2) dX8_worst_40 (by decide +kernel) ?_
    refine V.icmp_ge 41 54 dX8_worst_41 (by decide) (by omega) (by omega) (fun c41 => ?_) (fun c41 => ?_)
    · refine J.aload_n 54 dX8_worst_54 rfl rfl ?_
      refine J.iconst 55 (nI 0) dX8_worst_55 (by decide +kernel) ?_
      refine J.aload_n 56 dX8_worst_56 rfl rfl ?_
      refine V.getR 57 dX8_worst_57 fl_RX8_7 r_178_0 ?_
      refine J.iconst 60 (nI 0) dX8_worst_60 (by decide +kernel) ?_
      refine V.iald 61 dX8_worst_61 a_179 (by omega) ?_
      refine J.top hn0 ?_
      refine V.callvP 62 dX8_worst_62 ml_RX8_100 mi_yX8_allStruck mv_yX8_allStruck (c_X8_allStruck w _ (by omega) (by rw [ro_zero]; exact hf) (by omega) (by omega)) rfl rfl (Nat.le_of_ble_eq_true rfl) (by decide) (by decide) o_178 rfl rfl ?_
      refine V.if_eqB 65 74 dX8_worst_65 (by decide) (fun c65 => ?_) (fun c65 => ?_)
      · refine J.aload_n 74 dX8_worst_74 rfl rfl ?_
        refine V.callvP 75 dX8_worst_75 ml_RX8_127 mi_yX8_liars mv_yX8_liars (c_X8_liars w _ hn0 (by omega)) rfl rfl (Nat.le_of_ble_eq_true rfl) (by decide) (by decide) o_178 rfl rfl ?_
        refine J.aload_n 78 dX8_worst_78 rfl rfl ?_
        refine V.getR 79 dX8_worst_79 fl_RX8_7 r_178_0 ?_
        refine J.iconst 82 (nI 1) dX8_worst_82 (by decide +kernel) ?_
        refine V.iald 83 dX8_worst_83 a_179 (by omega) ?_
        refine J.top hf ?_
        refine V.icmp_le 84 90 dX8_worst_84 (by decide) (by omega) (by omega) (fun c84 => ?_) (fun c84 => ?_)
        · refine J.iconst 90 (nI 0) dX8_worst_90 (by decide +kernel) ?_
          refine J.istore_n 91 dX8_worst_91 rfl (by decide) ?_
          refine V.heapv (upR_id v 183) ?_
          exact lo (by omega) c65 (by omega) (n + 1) 0 _ (by omega) (by omega)
        · refine J.ldc 87 (1000000) dX8_worst_87 kc_RX8_130 (J.top (b := nI 1000000) (by decide +kernel) ?_)
          exact V.iret 89 dX8_worst_89 (⟨by unfold wrF; rw [if_neg (by omega), if_neg c65, if_pos (by omega)], _, upR_id v 183⟩)
      · refine J.aload_n 68 dX8_worst_68 rfl rfl ?_
        refine J.iconst 69 (nI 0) dX8_worst_69 (by decide +kernel) ?_
        refine V.callvP 70 dX8_worst_70 ml_RX8_123 mi_yX8_apart mv_yX8_apart (c_X8_apart w _ (by omega) hn0 (by omega)) rfl rfl (Nat.le_of_ble_eq_true rfl) (by decide) (by decide) o_178 rfl rfl ?_
        rw [ro_zero]
        exact V.iret 73 dX8_worst_73 (⟨by unfold wrF; rw [if_neg (by omega), if_pos c65], _, upR_id v 183⟩)
    · refine J.iload_n 44 dX8_worst_44 rfl rfl ?_
      refine V.if_ne 45 52 dX8_worst_45 (by decide) (by omega) (fun c45 => ?_) (fun c45 => ?_)
      · refine J.iconst 52 (nI 0) dX8_worst_52 (by decide +kernel) ?_
        exact V.iret 53 dX8_worst_53 (⟨by unfold wrF; rw [if_pos c41]; first | exact (if_pos c45).symm | exact (if_neg c45).symm, _, upR_id v 183⟩)
      · refine J.iconst 48 (-1) dX8_worst_48 (by decide +kernel) ?_
        refine J.goto 49 53 dX8_worst_49 (by decide) ?_
        exact V.iret 53 dX8_worst_53 (⟨by unfold wrF; rw [if_pos c41]; first | exact (if_pos c45).symm | exact (if_neg c45).symm, _, upR_id v 183⟩)
  have lp : ∀ (m : Nat) (c : Nat), (c ≤ n) → n - c < m → J w yX8_worst cX8_worst 7 (some .int) (rm 3 69) XT (ZJ w 185 0 0 (PI w (fun r v' => r = wrF (v 179) n f ∧ ∃ o, v' = upR v 183 o))) 6 [(0, .ref (wN w + 178)), (1, .int (nI (cntT (v 179) c))), (2, .int (nI 0)), (3, .int (nI c))] [] 185 (hv w (v)) 0 0 := by
    intro m
    induction m with
    | zero =>
      intro c hi0 hm
      exact absurd hm (by omega)
    | succ m ih =>
      intro c hi0 hm
      refine J.iload_n 6 dX8_worst_6 rfl rfl ?_
      refine J.aload_n 7 dX8_worst_7 rfl rfl ?_
      refine V.getR 8 dX8_worst_8 fl_RX8_7 r_178_0 ?_
      refine J.iconst 11 (nI 0) dX8_worst_11 (by decide +kernel) ?_
      refine V.iald 12 dX8_worst_12 a_179 (by omega) ?_
      refine J.top hn0 ?_
      refine V.icmp_ge 13 39 dX8_worst_13 (by decide) (by omega) (by omega) (fun c13 => ?_) (fun c13 => ?_)
      · obtain rfl : c = n := by omega
        exact K
      · refine J.iload_n 16 dX8_worst_16 rfl rfl ?_
        refine J.aload_n 17 dX8_worst_17 rfl rfl ?_
        refine J.iconst 18 (nI 0) dX8_worst_18 (by decide +kernel) ?_
        refine J.iload_n 19 dX8_worst_19 rfl rfl ?_
        refine V.callvP 20 dX8_worst_20 ml_RX8_114 mi_yX8_isTrue mv_yX8_isTrue (c_X8_isTrue w _ (by omega)) rfl rfl (Nat.le_of_ble_eq_true rfl) (by decide) (by decide) o_178 rfl rfl ?_
        rw [ro_zero]
        refine V.if_eqB 23 30 dX8_worst_23 (by decide) (fun c23 => ?_) (fun c23 => ?_)
        · have e1 : cntT (v 179) (c + 1) = cntT (v 179) c + 0 := by simp [cntT, c23]
          refine J.iconst 30 (nI 0) dX8_worst_30 (by decide +kernel) ?_
          refine V.iadd 31 dX8_worst_31 ?_
          refine J.istore_n 32 dX8_worst_32 rfl (by decide) ?_
          refine V.iinc 33 dX8_worst_33 rfl (by decide) ?_
          refine J.goto 36 6 dX8_worst_36 (by decide) ?_
          have q := ih (c + 1) (by omega) (by omega)
          rw [e1] at q
          exact q
        · have e1 : cntT (v 179) (c + 1) = cntT (v 179) c + 1 := by simp [cntT, c23]
          refine J.iconst 26 (nI 1) dX8_worst_26 (by decide +kernel) ?_
          refine J.goto 27 31 dX8_worst_27 (by decide) ?_
          refine V.iadd 31 dX8_worst_31 ?_
          refine J.istore_n 32 dX8_worst_32 rfl (by decide) ?_
          refine V.iinc 33 dX8_worst_33 rfl (by decide) ?_
          refine J.goto 36 6 dX8_worst_36 (by decide) ?_
          have q := ih (c + 1) (by omega) (by omega)
          rw [e1] at q
          exact q
  refine J.iconst 0 (nI 0) dX8_worst_0 (by decide +kernel) ?_
  refine J.istore_n 1 dX8_worst_1 rfl (by decide) ?_
  refine J.iconst 2 (nI 0) dX8_worst_2 (by decide +kernel) ?_
  refine J.istore_n 3 dX8_worst_3 rfl (by decide) ?_
  refine J.iconst 4 (nI 0) dX8_worst_4 (by decide +kernel) ?_
  refine J.istore_n 5 dX8_worst_5 rfl (by decide) ?_
  exact lp (n + 1) 0 (by omega) (by omega)
