/-! ===== part 24: the reference: behind, within, join, drift ===== -/
def rnN (f : Nat → Int32) (n s : Nat) : Nat → (Nat → Int32)
  | 0 => f
  | k + 1 => rnW (rnN f n s k) 0 n n (rdF (rnN f n s k) n s)
theorem rnW_at (f : Nat → Int32) {x n k : Nat} {g : Nat → Int32} (h : k < x + 19 ∨ x + 19 + n ≤ k) : rnW f x n n g k = f k := if_neg (by omega)
theorem rnN_at (f : Nat → Int32) {n s k : Nat} (h : k < 19 ∨ 19 + n ≤ k) : ∀ t, rnN f n s t k = f k
  | 0 => rfl
  | t + 1 => by
    unfold rnN
    rw [rnW_at _ (by omega)]
    exact rnN_at f h t
def F_behind (ρ : Nat → Int32) (n f : Nat) (x : Int32) : Int32 := if ¬ inF x (nI 0) (nI 20) then OU else apF (rnN ρ n f (ix x)) n
def wtF (ρ : Nat → Int32) (n f : Nat) (b : Int32) : Nat → Nat → Int32
  | 0, _ => -1
  | m + 1, k => if apF (rnN ρ n f k) n ≠ -1 ∧ apF (rnN ρ n f k) n ≤ b then nI k else wtF ρ n f b m (k + 1)
def F_within (ρ : Nat → Int32) (n f : Nat) (b : Int32) : Int32 := if ¬ inF b (nI 0) (nI 9999) then OU else wtF ρ n f b 21 0
theorem EqR.trans {u v x : Vm2} (h1 : EqR u v) (h2 : EqR v x) : EqR u x := ⟨fun c a b d e => (h1.1 c a b d e).trans (h2.1 c a b d e), fun b hb => (h1.2.1 b hb).trans (h2.2.1 b hb), fun i hi => (h1.2.2 i hi).trans (h2.2.2 i hi)⟩
theorem EqR.try {u v : Vm2} {o g r : Nat → Int32} (h : EqR u v) (hr : ∀ b, b < 3648 → r b = u 179 b) : EqR (upR (upR (upR u 183 o) 184 g) 179 r) v := by
  refine ⟨fun c c1 c2 c3 c4 => ?_, fun b hb => ?_, fun i hi => ?_⟩
  · rw [upR_3 c3 c4, upR_ne _ _ c2]
    exact h.1 c c1 c2 c3 c4
  · rw [upR_self, hr b hb]
    exact h.2.1 b hb
  · rw [upR_3 (by decide) (by decide), upR_ne _ _ (by decide)]
    exact h.2.2 i hi
theorem cp_try (v : Vm2) : EqR (cpR v 0 3648) v ∧ Ag (ro (cpR v 0 3648) 3648) (v 179) := by
  refine ⟨⟨fun c c1 c2 c3 c4 => ?_, fun b hb => ?_, fun i hi => ?_⟩, fun k hk => ?_⟩
  · funext b
    exact if_neg (by omega)
  · exact if_neg (by omega)
  · exact if_neg (by omega)
  · show (if (179 : Nat) = 179 ∧ 3648 ≤ 3648 + k ∧ 3648 + k < 3648 + 192 then _ else _) = _
    rw [if_pos (by omega), show 0 + (3648 + k - 3648) = k by omega]
theorem rn_try {u : Vm2} {ρ : Nat → Int32} {n f : Nat} {o g : Nat → Int32} (hn : n ≤ 8) (h : Ag (ro u 3648) ρ) : Ag (ro (upR (upR (upR u 183 o) 184 g) 179 (rnW (u 179) 3648 n n (rdF (ro u 3648) n f))) 3648) (rnW ρ 0 n n (rdF ρ n f)) := by
  intro k hk
  show upR _ 179 _ 179 (3648 + k) = _
  rw [upR_self]
  unfold rnW
  by_cases hc : 19 ≤ k ∧ k < 19 + n
  · rw [if_pos (by omega), if_pos (by omega), show 3648 + k - (3648 + 19) = k - (0 + 19) by omega]
    exact rdF_c h hn (by omega)
  · rw [if_neg (by omega), if_neg (by omega)]
    exact h k hk

set_option maxHeartbeats 4000000 in
set_option maxRecDepth 100000 in
theorem p_behindN (w : Wd) (v : Vm2) {n f t : Nat} (hn0 : v 179 0 = nI n) (hn : n ≤ 8) (hf : v 179 1 = nI f) (hf3 : f < 4) (ht2 : t ≤ 20) : CI w yX8_behind cX8_behind 3 (some .int) (rm 4 91) [.ref (wN w + 178), .int (nI t)] v (fun r v' => r = F_behind (v 179) n f (nI t) ∧ EqR v' v) := by
  have hin : inF (nI t) (nI 0) (nI 20) := ⟨nI_le (Nat.zero_le t) (by omega), nI_le ht2 (by decide)⟩
  refine CI.of (by decide) (Nat.le_of_ble_eq_true rfl) ?_
  have lp : ∀ (m : Nat) (k : Nat) (u : Vm2), (k ≤ t) → (EqR u v) → (Ag (ro u 3648) (rnN (v 179) n f k)) → t - k < m → J w yX8_behind cX8_behind 3 (some .int) (rm 4 91) XT (ZJ w 185 0 0 (PI w (fun r v' => r = F_behind (v 179) n f (nI t) ∧ EqR v' v))) 23 [(0, .ref (wN w + 178)), (1, .int (nI t)), (2, .int (nI k))] [] 185 (hv w (u)) 0 0 := by
    intro m
    induction m with
    | zero =>
      intro k u hi0 hi1 hi2 hm
      exact absurd hm (by omega)
    | succ m ih =>
      intro k u hi0 hi1 hi2 hm
      refine J.iload_n 23 dX8_behind_23 rfl rfl ?_
      refine J.iload_n 24 dX8_behind_24 rfl rfl ?_
      refine V.icmp_ge 25 41 dX8_behind_25 (by decide) (by omega) (by omega) (fun c25 => ?_) (fun c25 => ?_)
      · refine J.aload_n 41 dX8_behind_41 rfl rfl ?_
        refine J.sipush 42 (nI 3648) dX8_behind_42 (by decide +kernel) ?_
        refine V.callvP 45 dX8_behind_45 ml_RX8_123 mi_yX8_apart mv_yX8_apart (c_X8_apart w _ (by decide) ((hi2 0 (by decide)).trans ((rnN_at _ (by omega) k).trans hn0)) (by omega)) rfl rfl (Nat.le_of_ble_eq_true rfl) (by decide) (by decide) o_178 rfl rfl ?_
        obtain rfl : k = t := by omega
        exact V.iret 48 dX8_behind_48 (by unfold F_behind; rw [if_neg (fun z => z hin), show ix (nI k) = k from nI_clamp (by omega)]; exact ⟨apF_c hi2 hn, hi1⟩)
      · refine J.aload_n 28 dX8_behind_28 rfl rfl ?_
        refine J.sipush 29 (nI 3648) dX8_behind_29 (by decide +kernel) ?_
        refine V.callvU 32 dX8_behind_32 ml_RX8_172 mi_yX8_roundIn mv_yX8_roundIn (c_X8_roundIn w _ (by decide) ((hi2 0 (by decide)).trans ((rnN_at _ (by omega) k).trans hn0)) ((hi2 1 (by decide)).trans ((rnN_at _ (by omega) k).trans hf)) (by omega) (by omega)) rfl rfl (Nat.le_of_ble_eq_true rfl) (by decide) (by decide) o_178 rfl rfl (fun vo ho => ?_)
        obtain ⟨o6, g6, rfl⟩ := ho
        refine V.iinc 35 dX8_behind_35 rfl (by decide) ?_
        refine J.goto 38 23 dX8_behind_38 (by decide) ?_
        exact ih (k + 1) _ (by omega) (hi1.try (fun b hb => rnW_at _ (by omega))) (rn_try hn hi2) (by omega)
  refine J.iload_n 0 dX8_behind_0 rfl rfl ?_
  refine J.iconst 1 (nI 0) dX8_behind_1 (by decide +kernel) ?_
  refine J.bipush 2 (nI 20) dX8_behind_2 (by decide +kernel) ?_
  refine V.callsP 4 dX8_behind_4 ml_RX8_32 mi_yX8_in ms_yX8_in (c_X8_in w _ _ _ _) rfl rfl (Nat.le_of_ble_eq_true rfl) (by decide) (by decide) ?_
  refine V.if_neB 7 13 dX8_behind_7 (by decide) (fun c7 => ?_) (fun c7 => absurd hin c7)
  refine J.aload_n 13 dX8_behind_13 rfl rfl ?_
  refine J.iconst 14 (nI 0) dX8_behind_14 (by decide +kernel) ?_
  refine J.sipush 15 (nI 3648) dX8_behind_15 (by decide +kernel) ?_
  refine V.callvU 18 dX8_behind_18 ml_RX8_85 mi_yX8_copyRow mv_yX8_copyRow (c_X8_copyRow w _ (by decide) (by decide) (by decide)) rfl rfl (Nat.le_of_ble_eq_true rfl) (by decide) (by decide) o_178 rfl rfl (fun vc hcp => ?_)
  subst hcp
  refine J.iconst 21 (nI 0) dX8_behind_21 (by decide +kernel) ?_
  refine J.istore_n 22 dX8_behind_22 rfl (by decide) ?_
  exact lp (t + 1) 0 _ (by omega) (cp_try v).1 (cp_try v).2 (by omega)
set_option maxHeartbeats 4000000 in
set_option maxRecDepth 100000 in
theorem p_behindO (w : Wd) (v : Vm2) {n f : Nat} {x : Int32} (hx : ¬ inF x (nI 0) (nI 20)) : CI w yX8_behind cX8_behind 3 (some .int) (rm 4 91) [.ref (wN w + 178), .int x] v (fun r v' => r = F_behind (v 179) n f x ∧ EqR v' v) := by
  refine CI.of (by decide) (Nat.le_of_ble_eq_true rfl) ?_
  refine J.iload_n 0 dX8_behind_0 rfl rfl ?_
  refine J.iconst 1 (nI 0) dX8_behind_1 (by decide +kernel) ?_
  refine J.bipush 2 (nI 20) dX8_behind_2 (by decide +kernel) ?_
  refine V.callsP 4 dX8_behind_4 ml_RX8_32 mi_yX8_in ms_yX8_in (c_X8_in w _ _ _ _) rfl rfl (Nat.le_of_ble_eq_true rfl) (by decide) (by decide) ?_
  refine V.if_neB 7 13 dX8_behind_7 (by decide) (fun c7 => absurd c7 hx) (fun c7 => ?_)
  refine J.ldc 10 (-1000000002) dX8_behind_10 kc_RX8_36 ?_
  exact V.iret 12 dX8_behind_12 (by unfold F_behind; rw [if_pos hx]; exact ⟨rfl, EqR.rf _⟩)
theorem p_behind (w : Wd) (v : Vm2) {n f : Nat} (hn0 : v 179 0 = nI n) (hn : n ≤ 8) (hf : v 179 1 = nI f) (hf3 : f < 4) {x : Int32} : CI w yX8_behind cX8_behind 3 (some .int) (rm 4 91) [.ref (wN w + 178), .int x] v (fun r v' => r = F_behind (v 179) n f x ∧ EqR v' v) := by
  by_cases hx : inF x (nI 0) (nI 20)
  · obtain ⟨t, h1, h2, rfl⟩ := inF_nI (by decide) (by decide) hx
    exact p_behindN w v hn0 hn hf hf3 h2
  · exact p_behindO w v hx
theorem F_within_c {f g : Nat → Int32} (h : Ag f g) {n s : Nat} (hn : n ≤ 8) : ∀ k, Ag (rnN f n s k) (rnN g n s k)
  | 0 => h
  | k + 1 => by
    have ih := F_within_c h (s := s) hn k
    intro b hb
    unfold rnN rnW
    by_cases hc : 0 + 19 ≤ b ∧ b < 0 + 19 + n
    · rw [if_pos hc, if_pos hc]
      exact rdF_c ih hn (by omega)
    · rw [if_neg hc, if_neg hc]
      exact ih b hb
theorem EqR.ag {u v : Vm2} (h : EqR u v) : Ag (u 179) (v 179) := fun k hk => h.2.1 k (by omega)
set_option maxHeartbeats 4000000 in
set_option maxRecDepth 100000 in
theorem p_withinN (w : Wd) (v : Vm2) {n f : Nat} {b : Int32} (hn0 : v 179 0 = nI n) (hn : n ≤ 8) (hf : v 179 1 = nI f) (hf3 : f < 4) (hin : inF b (nI 0) (nI 9999)) : CI w yX8_within cX8_within 4 (some .int) (rm 5 113) [.ref (wN w + 178), .int b] v (fun r v' => r = F_within (v 179) n f b ∧ EqR v' v) := by
  refine CI.of (by decide) (Nat.le_of_ble_eq_true rfl) ?_
  have lp : ∀ (m : Nat) (k : Nat) (u : Vm2), (k ≤ 21) → (EqR u v) → (wtF (v 179) n f b (21 - k) k = wtF (v 179) n f b 21 0) → 21 - k < m → J w yX8_within cX8_within 4 (some .int) (rm 5 113) XT (ZJ w 185 0 0 (PI w (fun r v' => r = F_within (v 179) n f b ∧ EqR v' v))) 16 [(0, .ref (wN w + 178)), (1, .int b), (2, .int (nI k))] [] 185 (hv w (u)) 0 0 := by
    intro m
    induction m with
    | zero =>
      intro k u hi0 hi1 hi2 hm
      exact absurd hm (by omega)
    | succ m ih =>
      intro k u hi0 hi1 hi2 hm
      refine J.iload_n 16 dX8_within_16 rfl rfl ?_
      refine J.bipush 17 (nI 20) dX8_within_17 (by decide +kernel) ?_
      refine V.icmp_gt 19 46 dX8_within_19 (by decide) (by omega) (by omega) (fun c19 => ?_) (fun c19 => ?_)
      · refine J.iconst 46 (-1) dX8_within_46 (by decide +kernel) ?_
        exact V.iret 47 dX8_within_47 (by unfold F_within; rw [if_neg (fun z => z hin), ← hi2, show 21 - k = 0 by omega]; exact ⟨rfl, hi1⟩)
      · refine J.aload_n 22 dX8_within_22 rfl rfl ?_
        refine J.iload_n 23 dX8_within_23 rfl rfl ?_
        refine V.callv 24 dX8_within_24 ml_RX8_193 mi_yX8_behind mv_yX8_behind (p_behindN w u ((hi1.2.1 0 (by decide)).trans hn0) hn ((hi1.2.1 1 (by decide)).trans hf) hf3 (t := k) (by omega)) rfl rfl (Nat.le_of_ble_eq_true rfl) (by decide) (by decide) o_178 rfl rfl (fun r24 v24 h24 => ?_)
        obtain ⟨rfl, hq⟩ := h24
        have er : F_behind (u 179) n f (nI k) = apF (rnN (v 179) n f k) n := by unfold F_behind; rw [if_neg (fun z => z ⟨nI_le (Nat.zero_le k) (by omega), nI_le (show k ≤ 20 by omega) (by decide)⟩), show ix (nI k) = k from nI_clamp (by omega)]; exact apF_c (F_within_c hi1.ag hn k) hn
        rw [er]
        have hE := hq.trans hi1
        obtain ⟨q, hqk⟩ : ∃ q, 21 - k = q + 1 := ⟨20 - k, by omega⟩
        refine J.istore_n 27 dX8_within_27 rfl (by decide) ?_
        refine J.iload_n 28 dX8_within_28 rfl rfl ?_
        refine J.iconst 29 (-1) dX8_within_29 (by decide +kernel) ?_
        refine J.icmp_eq 30 40 dX8_within_30 (by decide) (fun c30 => ?_) (fun c30 => ?_)
        · refine V.iinc 40 dX8_within_40 rfl (by decide) ?_
          refine J.goto 43 16 dX8_within_43 (by decide) ?_
          refine J.drop 3 ?_
          exact ih (k + 1) _ (by omega) hE (by rw [← hi2, hqk, show 21 - (k + 1) = q by omega]; refine (if_neg ?_).symm; first | exact fun z => z.1 c30 | exact fun z => absurd c35 (Int32.not_lt.mpr z.2)) (by omega)
        · refine J.iload_n 33 dX8_within_33 rfl rfl ?_
          refine J.iload_n 34 dX8_within_34 rfl rfl ?_
          refine J.icmp_gt 35 40 dX8_within_35 (by decide) (fun c35 => ?_) (fun c35 => ?_)
          · refine V.iinc 40 dX8_within_40 rfl (by decide) ?_
            refine J.goto 43 16 dX8_within_43 (by decide) ?_
            refine J.drop 3 ?_
            exact ih (k + 1) _ (by omega) hE (by rw [← hi2, hqk, show 21 - (k + 1) = q by omega]; refine (if_neg ?_).symm; first | exact fun z => z.1 c30 | exact fun z => absurd c35 (Int32.not_lt.mpr z.2)) (by omega)
          · refine J.iload_n 38 dX8_within_38 rfl rfl ?_
            exact V.iret 39 dX8_within_39 (by unfold F_within; rw [if_neg (fun z => z hin), ← hi2, hqk]; exact ⟨(if_pos ⟨c30, Int32.not_lt.mp c35⟩).symm, hE⟩)
  refine J.iload_n 0 dX8_within_0 rfl rfl ?_
  refine J.iconst 1 (nI 0) dX8_within_1 (by decide +kernel) ?_
  refine J.sipush 2 (nI 9999) dX8_within_2 (by decide +kernel) ?_
  refine V.callsP 5 dX8_within_5 ml_RX8_32 mi_yX8_in ms_yX8_in (c_X8_in w _ _ _ _) rfl rfl (Nat.le_of_ble_eq_true rfl) (by decide) (by decide) ?_
  refine V.if_neB 8 14 dX8_within_8 (by decide) (fun c8 => ?_) (fun c8 => absurd hin c8)
  refine J.iconst 14 (nI 0) dX8_within_14 (by decide +kernel) ?_
  refine J.istore_n 15 dX8_within_15 rfl (by decide) ?_
  exact lp 22 0 v (by omega) (EqR.rf v) rfl (by omega)
set_option maxHeartbeats 4000000 in
set_option maxRecDepth 100000 in
theorem p_withinO (w : Wd) (v : Vm2) {n f : Nat} {b : Int32} (hx : ¬ inF b (nI 0) (nI 9999)) : CI w yX8_within cX8_within 4 (some .int) (rm 5 113) [.ref (wN w + 178), .int b] v (fun r v' => r = F_within (v 179) n f b ∧ EqR v' v) := by
  refine CI.of (by decide) (Nat.le_of_ble_eq_true rfl) ?_
  refine J.iload_n 0 dX8_within_0 rfl rfl ?_
  refine J.iconst 1 (nI 0) dX8_within_1 (by decide +kernel) ?_
  refine J.sipush 2 (nI 9999) dX8_within_2 (by decide +kernel) ?_
  refine V.callsP 5 dX8_within_5 ml_RX8_32 mi_yX8_in ms_yX8_in (c_X8_in w _ _ _ _) rfl rfl (Nat.le_of_ble_eq_true rfl) (by decide) (by decide) ?_
  refine V.if_neB 8 14 dX8_within_8 (by decide) (fun c8 => absurd c8 hx) (fun c8 => ?_)
  refine J.ldc 11 (-1000000002) dX8_within_11 kc_RX8_36 ?_
  exact V.iret 13 dX8_within_13 (by unfold F_within; rw [if_pos hx]; exact ⟨rfl, EqR.rf _⟩)
theorem p_within (w : Wd) (v : Vm2) {n f : Nat} (hn0 : v 179 0 = nI n) (hn : n ≤ 8) (hf : v 179 1 = nI f) (hf3 : f < 4) {b : Int32} : CI w yX8_within cX8_within 4 (some .int) (rm 5 113) [.ref (wN w + 178), .int b] v (fun r v' => r = F_within (v 179) n f b ∧ EqR v' v) := by
  by_cases hx : inF b (nI 0) (nI 9999)
  · exact p_withinN w v hn0 hn hf hf3 hx
  · exact p_withinO w v hx
