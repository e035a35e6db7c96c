/-! ===== part 46: deeds ===== -/
theorem Mr.set {u v b : Vm2} {σ : Nat → Int32} {n f ma K nx s wr a B n' f' ma' E : Nat} (h : Mr v b n f ma K nx s wr a B) (hB : B ≤ E) (hu : FrQ u v 1) (hs : ∀ k, 191 ≤ k → k < 3648 → σ k = b 179 k) (hR : RepS u 1 σ n' ma') (hW : Wf σ n' f' ma') (hb : Bn σ n' E) : Mr u (upR b 179 σ) n' f' ma' K nx s wr a E :=
  h.now hB (fun k h1 h2 _ => hu k h2 (by omega)) (fun k h1 _ _ => upR_ne _ _ h1) (fun k h1 h2 => by rw [upR_self]; exact hs k h1 h2) (by rw [upR_self]; exact hR) (by rw [upR_self]; exact hW) (by rw [upR_self]; exact hb)
/-! rounds that are only asked about -/
theorem rnN_W {ρ : Nat → Int32} {n f ma : Nat} (h : Wf ρ n f ma) : ∀ t, Wf (rnN ρ n f t) n f ma
  | 0 => h
  | t + 1 => (rnN_W h t).rd
theorem rnN_B {ρ : Nat → Int32} {n f B : Nat} (h : Bn ρ n B) (hn : n ≤ 8) (hB : B ≤ 100000000) : ∀ t, t ≤ 30 → Bn (rnN ρ n f t) n (B + 9999 * t)
  | 0, _ => h
  | t + 1, ht => ((rnN_B h hn hB t (by omega)).rd hn (by omega)).mono (by omega)
theorem lo_hi {ρ : Nat → Int32} : ∀ n l h, loI ρ n = some l → hiI ρ n = some h → aimF ρ l ≤ aimF ρ h ∧ l < n ∧ h < n
  | 0, l, h, e1, _ => by cases e1
  | c + 1, l, h, e1, e2 => by
    have ih := lo_hi (ρ := ρ) c
    by_cases ht : trF ρ c
    · unfold loI at e1
      unfold hiI at e2
      rw [if_pos ht] at e1 e2
      rcases lohi ρ c with ⟨h1, h2⟩ | ⟨l0, h0, h1, h2⟩
      · rw [h1] at e1
        rw [h2] at e2
        cases e1
        cases e2
        exact ⟨Int32.le_refl _, by omega, by omega⟩
      · rw [h1] at e1
        rw [h2] at e2
        dsimp only at e1 e2
        obtain ⟨i1, i2, i3⟩ := ih l0 h0 h1 h2
        by_cases z1 : aimF ρ c < aimF ρ l0
        · rw [if_pos z1] at e1
          by_cases z2 : aimF ρ h0 < aimF ρ c
          · rw [if_pos z2] at e2
            cases e1; cases e2
            exact ⟨Int32.le_refl _, by omega, by omega⟩
          · rw [if_neg z2] at e2
            cases e1; cases e2
            exact ⟨Int32.le_trans (Int32.le_of_lt z1) i1, by omega, by omega⟩
        · rw [if_neg z1] at e1
          by_cases z2 : aimF ρ h0 < aimF ρ c
          · rw [if_pos z2] at e2
            cases e1; cases e2
            exact ⟨Int32.not_lt.mp z1, by omega, by omega⟩
          · rw [if_neg z2] at e2
            cases e1; cases e2
            exact ⟨i1, by omega, by omega⟩
    · unfold loI at e1
      unfold hiI at e2
      rw [if_neg ht] at e1 e2
      obtain ⟨i1, i2, i3⟩ := ih l h e1 e2
      exact ⟨i1, by omega, by omega⟩
theorem cT_no {ρ : Nat → Int32} : ∀ n, loI ρ n = none → cntT ρ n = 0
  | 0, _ => rfl
  | c + 1, e => by
    by_cases ht : trF ρ c
    · unfold loI at e
      rw [if_pos ht] at e
      split at e
      · cases e
      · split at e <;> cases e
    · unfold loI at e
      rw [if_neg ht] at e
      show cntT ρ c + (if trF ρ c then 1 else 0) = 0
      rw [if_neg ht, cT_no c e]
theorem ap_nn {ρ : Nat → Int32} {n B : Nat} (hB : Bn ρ n B) (hl : B ≤ 1000000000) (h : cntT ρ n ≠ 0) : apF ρ n ≠ -1 := by
  unfold apF
  rcases lohi ρ n with ⟨h1, h2⟩ | ⟨l, k, h1, h2⟩
  · exact absurd (cT_no n h1) h
  · rw [h1, h2]
    obtain ⟨a1, a2, a3⟩ := lo_hi n l k h1 h2
    obtain ⟨b1, b2⟩ := hB.1 l a2
    obtain ⟨d1, d2⟩ := hB.1 k a3
    have a1' := Int32.le_iff_toInt_le.mp a1
    show aimF ρ k - aimF ρ l ≠ -1
    intro z
    have e : (aimF ρ k - aimF ρ l).toInt = (aimF ρ k).toInt - (aimF ρ l).toInt := Jvm.Kit.i32_sub (by omega) (by omega)
    rw [z] at e
    have m1 : (-1 : Int32).toInt = -1 := by decide
    omega
theorem cT_rn {ρ : Nat → Int32} {n f : Nat} (hn : n ≤ 8) (t : Nat) : ∀ c, c ≤ n → cntT (rnN ρ n f t) c = cntT ρ c
  | 0, _ => rfl
  | c + 1, hc => by
    show cntT (rnN ρ n f t) c + (if trF (rnN ρ n f t) c then 1 else 0) = cntT ρ c + (if trF ρ c then 1 else 0)
    rw [cT_rn hn t c (by omega)]
    unfold trF
    rw [rnN_at ρ (by omega), rnN_at ρ (by omega)]
theorem wt_no {ρ : Nat → Int32} {n f : Nat} {b : Int32} (hn : n ≤ 8) (h : cntT ρ n = 0) : ∀ m k, wtF ρ n f b m k = -1
  | 0, _ => rfl
  | m + 1, k => by
    show (if apF (rnN ρ n f k) n ≠ -1 ∧ apF (rnN ρ n f k) n ≤ b then nI k else wtF ρ n f b m (k + 1)) = -1
    have e : apF (rnN ρ n f k) n = -1 := by
      have h0 : cntT (rnN ρ n f k) n = 0 := by rw [cT_rn hn k n (Nat.le_refl n)]; exact h
      rw [ap_few (by omega), if_pos h0]
    rw [if_neg (fun z => z.1 e)]
    exact wt_no hn h m (k + 1)
theorem ts_0 {ρ : Nat → Int32} {n : Nat} (hn : n ≤ 8) : bsI (fun c => trF ρ c) n = 0 → cntT ρ n = 0 := fun h => by
  have e := ts_cn (ρ := ρ) hn
  rw [h] at e
  have e0 : bcF 0 = nI 0 := by decide
  rw [e0] at e
  have := cntT_le ρ n
  exact ((nI_eq (by decide) (by omega)).mp e).symm
theorem ts_n {ρ : Nat → Int32} {n : Nat} (hn : n ≤ 8) (h : ¬ bsI (fun c => trF ρ c) n = 0) : cntT ρ n ≠ 0 := fun z => h (by
  rw [BM_bl (f := ρ) hn]
  refine (BM_congr (g := fun _ => 0) (fun c _ => ?_)).trans BM_0.symm
  have key : ∀ m c, c < m → trF ρ c → cntT ρ m ≠ 0 := by
    intro m
    induction m with
    | zero => intro c hc; exact absurd hc (by omega)
    | succ m ih =>
      intro c hc ht
      show cntT ρ m + (if trF ρ m then 1 else 0) ≠ 0
      by_cases e : c = m
      · subst e; rw [if_pos ht]; omega
      · have := ih c (by omega) ht; omega
  rw [if_neg (fun y => key n c y.1 y.2 z)]
  decide)

set_option maxHeartbeats 1000000 in
set_option maxRecDepth 100000 in
theorem q_behindN (w : Wd) (v : Vm2) {b : Vm2} {n f ma K nx s wr a0 B : Nat} (hM : Mr v b n f ma K nx s wr a0 B) (hB : B ≤ 100000000) {t : Nat} (ht : t ≤ 20) (hin : inF (nI t) (nI 0) (nI 20)) : CI w yX7_behind cX7_behind 3 (some .int) (rm 4 88) [.ref (wN w + 0), .int (nI t)] v (fun r v' => r = F_behind (b 179) n f (nI t) ∧ MR v' b (B + 160000) ∧ Rq v' v) := by
  have hR := hM.1.1
  have hW := hM.1.2.1
  have hBn := hM.1.2.2
  have hn := hW.2.1
  have hf3 := hW.2.2.2.1
  have hma := hW.2.2.2.2.2.2.1
  refine CI.of (by decide) (Nat.le_of_ble_eq_true rfl) ?_
  have lp : ∀ (m : Nat) (k : Nat) (u : Vm2), (k ≤ t) → (RepS u 9 (rnN (b 179) n f k) n ma) → (∀ j, (j < 9 ∨ 17 ≤ j) → (j < 20 ∨ 25 ≤ j) → j < 178 → u j = v j) → (Rq u v) → t - k < m → J w yX7_behind cX7_behind 3 (some .int) (rm 4 88) XT (ZJ w 185 0 0 (PI w (fun r v' => r = F_behind (b 179) n f (nI t) ∧ MR v' b (B + 160000) ∧ Rq v' v))) 26 [(0, .ref (wN w + 0)), (1, .int (nI t)), (2, .int (nI k))] [] 185 (hv w (u)) 0 0 := by
    intro m
    induction m with
    | zero =>
      intro k u hi0 hi1 hi2 hi3 hm
      exact absurd hm (by omega)
    | succ m ih =>
      intro k u hi0 hi1 hi2 hi3 hm
      refine J.iload_n 26 dX7_behind_26 rfl rfl ?_
      refine J.iload_n 27 dX7_behind_27 rfl rfl ?_
      refine V.icmp_ge 28 48 dX7_behind_28 (by decide) (by omega) (by omega) (fun c28 => ?_) (fun c28 => ?_)
      · refine J.aload_n 48 dX7_behind_48 rfl rfl ?_
        refine V.getR 49 dX7_behind_49 fl_RX7_16 r_0_1 ?_
        refine V.callvP 52 dX7_behind_52 ml_RX7_116 mi_yX5_apart mv_yX5_apart (c_X5_apart w _ isS_9 hi1 (rnN_W hW k)) rfl rfl (Nat.le_of_ble_eq_true rfl) (by decide) (by decide) isS_9.o rfl rfl ?_
        obtain rfl : k = t := by omega
        exact V.iret 55 dX7_behind_55 (⟨by unfold F_behind; rw [if_neg (fun z => z hin), show ix (nI k) = k from nI_clamp (by omega)], (hM.fr hi2).x (by omega), hi3⟩)
      · refine J.aload_n 31 dX7_behind_31 rfl rfl ?_
        refine V.getR 32 dX7_behind_32 fl_RX7_29 r_0_3 ?_
        refine J.aload_n 35 dX7_behind_35 rfl rfl ?_
        refine V.getR 36 dX7_behind_36 fl_RX7_16 r_0_1 ?_
        refine V.callvU 39 dX7_behind_39 ml_RX7_212 mi_yX1_meet mv_yX1_meet (c_X1_meet w _ isS_9 hi1 (rnN_W hW k) (rnN_B hBn hn hB k (by omega)) (by omega)) rfl rfl (Nat.le_of_ble_eq_true rfl) (by decide) (by decide) o_19 rfl rfl (fun v39 h39 => ?_)
        refine V.iinc 42 dX7_behind_42 rfl (by decide) ?_
        refine J.goto 45 26 dX7_behind_45 (by decide) ?_
        exact ih (k + 1) v39 (by omega) h39.1 (fun j h1 h2 h3 => (h39.2 j h2 (by omega)).trans (hi2 j h1 h2 h3)) ((h39.2.rq (by omega)).trans hi3) (by omega)
  refine J.iload_n 0 dX7_behind_0 rfl rfl ?_
  refine J.iconst 1 (nI 0) dX7_behind_1 (by decide +kernel) ?_
  refine J.bipush 2 (nI 20) dX7_behind_2 (by decide +kernel) ?_
  refine V.callsP 4 dX7_behind_4 ml_RX7_66 mi_yX7_between ms_yX7_between (c_X7_between w _) rfl rfl (Nat.le_of_ble_eq_true rfl) (by decide) (by decide) ?_
  refine V.if_neB 7 13 dX7_behind_7 (by decide) (fun c7 => ?_) (fun c7 => absurd hin c7)
  refine J.aload_n 13 dX7_behind_13 rfl rfl ?_
  refine V.getR 14 dX7_behind_14 fl_RX7_16 r_0_1 ?_
  refine J.aload_n 17 dX7_behind_17 rfl rfl ?_
  refine V.getR 18 dX7_behind_18 fl_RX7_10 r_0_0 ?_
  refine V.callvU 21 dX7_behind_21 ml_RX7_84 mi_yX5_copyFrom mv_yX5_copyFrom (c_X5_copyFrom w _ isS_9 isS_1 (by omega)) rfl rfl (Nat.le_of_ble_eq_true rfl) (by decide) (by decide) isS_9.o rfl rfl (fun v21 h21 => ?_)
  refine J.iconst 24 (nI 0) dX7_behind_24 (by decide +kernel) ?_
  refine J.istore_n 25 dX7_behind_25 rfl (by decide) ?_
  exact lp (t + 1) 0 v21 (by omega) (h21.rep hn hma hR) (fun j h1 h2 h3 => h21.1 j (by omega)) (h21.rq (by omega)) (by omega)
set_option maxHeartbeats 1000000 in
set_option maxRecDepth 100000 in
theorem q_behindO (w : Wd) (v : Vm2) {b : Vm2} {n f ma K nx s wr a0 B : Nat} (hM : Mr v b n f ma K nx s wr a0 B) (hB : B ≤ 100000000) {x : Int32} (hx : ¬ inF x (nI 0) (nI 20)) : CI w yX7_behind cX7_behind 3 (some .int) (rm 4 88) [.ref (wN w + 0), .int x] v (fun r v' => r = F_behind (b 179) n f x ∧ MR v' b (B + 160000) ∧ Rq v' v) := by
  have hR := hM.1.1
  have hW := hM.1.2.1
  have hBn := hM.1.2.2
  have hn := hW.2.1
  have hf3 := hW.2.2.2.1
  have hma := hW.2.2.2.2.2.2.1
  refine CI.of (by decide) (Nat.le_of_ble_eq_true rfl) ?_
  refine J.iload_n 0 dX7_behind_0 rfl rfl ?_
  refine J.iconst 1 (nI 0) dX7_behind_1 (by decide +kernel) ?_
  refine J.bipush 2 (nI 20) dX7_behind_2 (by decide +kernel) ?_
  refine V.callsP 4 dX7_behind_4 ml_RX7_66 mi_yX7_between ms_yX7_between (c_X7_between w _) rfl rfl (Nat.le_of_ble_eq_true rfl) (by decide) (by decide) ?_
  refine V.if_neB 7 13 dX7_behind_7 (by decide) (fun c7 => absurd c7 hx) (fun c7 => ?_)
  refine J.ldc 10 (-1000000002) dX7_behind_10 kc_RX7_70 ?_
  exact V.iret 12 dX7_behind_12 (⟨by unfold F_behind; rw [if_pos hx]; rfl, hM.x (by omega), Rq.rf v⟩)
set_option maxHeartbeats 1000000 in
set_option maxRecDepth 100000 in
theorem q_within (w : Wd) (v : Vm2) {b : Vm2} {n f ma K nx s wr a0 B : Nat} (hM : Mr v b n f ma K nx s wr a0 B) (hB : B ≤ 100000000) {x : Int32} : CI w yX7_within cX7_within 3 (some .int) (rm 4 88) [.ref (wN w + 0), .int x] v (fun r v' => r = F_within (b 179) n f x ∧ MR v' b (B + 160000) ∧ Rq v' v) := by
  have hR := hM.1.1
  have hW := hM.1.2.1
  have hBn := hM.1.2.2
  have hn := hW.2.1
  have hf3 := hW.2.2.2.1
  have hma := hW.2.2.2.2.2.2.1
  refine CI.of (by decide) (Nat.le_of_ble_eq_true rfl) ?_
  refine J.iload_n 0 dX7_within_0 rfl rfl ?_
  refine J.iconst 1 (nI 0) dX7_within_1 (by decide +kernel) ?_
  refine J.sipush 2 (nI 9999) dX7_within_2 (by decide +kernel) ?_
  refine V.callsP 5 dX7_within_5 ml_RX7_66 mi_yX7_between ms_yX7_between (c_X7_between w _) rfl rfl (Nat.le_of_ble_eq_true rfl) (by decide) (by decide) ?_
  refine V.if_neB 8 14 dX7_within_8 (by decide) (fun c8 => ?_) (fun c8 => ?_)
  · have hin := c8
    refine J.aload_n 14 dX7_within_14 rfl rfl ?_
    refine V.getR 15 dX7_within_15 fl_RX7_10 r_0_0 ?_
    refine V.callvP 18 dX7_within_18 ml_RX7_112 mi_yX5_trueSet mv_yX5_trueSet (c_X5_trueSet w _ isS_1 hR hW) rfl rfl (Nat.le_of_ble_eq_true rfl) (by decide) (by decide) isS_1.o rfl rfl ?_
    refine J.if_ne 21 26 dX7_within_21 (by decide) (fun c21 => ?_) (fun c21 => ?_)
    · have hct := ts_n hn c21
      have lp : ∀ (m : Nat) (k : Nat) (u : Vm2), (k ≤ 21) → (RepS u 9 (rnN (b 179) n f k) n ma) → (∀ j, (j < 9 ∨ 17 ≤ j) → (j < 20 ∨ 25 ≤ j) → j < 178 → u j = v j) → (Rq u v) → (wtF (b 179) n f x 21 0 = wtF (b 179) n f x (21 - k) k) → 21 - k < m → J w yX7_within cX7_within 3 (some .int) (rm 4 88) XT (ZJ w 185 0 0 (PI w (fun r v' => r = F_within (b 179) n f x ∧ MR v' b (B + 160000) ∧ Rq v' v))) 39 [(0, .ref (wN w + 0)), (1, .int x), (2, .int (nI k))] [] 185 (hv w (u)) 0 0 := by
        intro m
        induction m with
        | zero =>
          intro k u hi0 hi1 hi2 hi3 hi4 hm
          exact absurd hm (by omega)
        | succ m ih =>
          intro k u hi0 hi1 hi2 hi3 hi4 hm
          refine J.iload_n 39 dX7_within_39 rfl rfl ?_
          refine J.bipush 40 (nI 20) dX7_within_40 (by decide +kernel) ?_
          refine V.icmp_gt 42 75 dX7_within_42 (by decide) (by omega) (by omega) (fun c42 => ?_) (fun c42 => ?_)
          · refine J.iconst 75 (-1) dX7_within_75 (by decide +kernel) ?_
            obtain rfl : k = 21 := by omega
            exact V.iret 76 dX7_within_76 (⟨by unfold F_within; rw [if_neg (fun z => z hin), hi4]; rfl, (hM.fr hi2).x (by omega), hi3⟩)
          · obtain ⟨d, hd⟩ : ∃ d, 21 - k = d + 1 := ⟨20 - k, by omega⟩
            rw [hd] at hi4
            refine J.aload_n 45 dX7_within_45 rfl rfl ?_
            refine V.getR 46 dX7_within_46 fl_RX7_16 r_0_1 ?_
            refine V.callvP 49 dX7_within_49 ml_RX7_116 mi_yX5_apart mv_yX5_apart (c_X5_apart w _ isS_9 hi1 (rnN_W hW k)) rfl rfl (Nat.le_of_ble_eq_true rfl) (by decide) (by decide) isS_9.o rfl rfl ?_
            refine J.iload_n 52 dX7_within_52 rfl rfl ?_
            refine J.icmp_gt 53 58 dX7_within_53 (by decide) (fun c53 => ?_) (fun c53 => ?_)
            · have e9 : wtF (b 179) n f x (d + 1) k = wtF (b 179) n f x d (k + 1) := (show (if apF (rnN (b 179) n f k) n ≠ -1 ∧ apF (rnN (b 179) n f k) n ≤ x then nI k else wtF (b 179) n f x d (k + 1)) = _ from if_neg (fun z => absurd c53 (Int32.not_lt.mpr z.2)))
              refine J.aload_n 58 dX7_within_58 rfl rfl ?_
              refine V.getR 59 dX7_within_59 fl_RX7_29 r_0_3 ?_
              refine J.aload_n 62 dX7_within_62 rfl rfl ?_
              refine V.getR 63 dX7_within_63 fl_RX7_16 r_0_1 ?_
              refine V.callvU 66 dX7_within_66 ml_RX7_212 mi_yX1_meet mv_yX1_meet (c_X1_meet w _ isS_9 hi1 (rnN_W hW k) (rnN_B hBn hn hB k (by omega)) (by omega)) rfl rfl (Nat.le_of_ble_eq_true rfl) (by decide) (by decide) o_19 rfl rfl (fun v66 h66 => ?_)
              refine V.iinc 69 dX7_within_69 rfl (by decide) ?_
              refine J.goto 72 39 dX7_within_72 (by decide) ?_
              exact ih (k + 1) v66 (by omega) h66.1 (fun j h1 h2 h3 => (h66.2 j h2 (by omega)).trans (hi2 j h1 h2 h3)) ((h66.2.rq (by omega)).trans hi3) (by rw [hi4, e9]; congr 1; omega) (by omega)
            · have e9 : wtF (b 179) n f x (d + 1) k = nI k := (show (if apF (rnN (b 179) n f k) n ≠ -1 ∧ apF (rnN (b 179) n f k) n ≤ x then nI k else wtF (b 179) n f x d (k + 1)) = _ from if_pos ⟨ap_nn (rnN_B hBn hn hB k (by omega)) (by omega) (by rw [cT_rn hn k n (Nat.le_refl n)]; exact hct), Int32.not_lt.mp c53⟩)
              refine J.iload_n 56 dX7_within_56 rfl rfl ?_
              exact V.iret 57 dX7_within_57 (⟨by unfold F_within; rw [if_neg (fun z => z hin), hi4, e9], (hM.fr hi2).x (by omega), hi3⟩)
      refine J.aload_n 26 dX7_within_26 rfl rfl ?_
      refine V.getR 27 dX7_within_27 fl_RX7_16 r_0_1 ?_
      refine J.aload_n 30 dX7_within_30 rfl rfl ?_
      refine V.getR 31 dX7_within_31 fl_RX7_10 r_0_0 ?_
      refine V.callvU 34 dX7_within_34 ml_RX7_84 mi_yX5_copyFrom mv_yX5_copyFrom (c_X5_copyFrom w _ isS_9 isS_1 (by omega)) rfl rfl (Nat.le_of_ble_eq_true rfl) (by decide) (by decide) isS_9.o rfl rfl (fun v34 h34 => ?_)
      refine J.iconst 37 (nI 0) dX7_within_37 (by decide +kernel) ?_
      refine J.istore_n 38 dX7_within_38 rfl (by decide) ?_
      exact lp 22 0 v34 (by omega) (h34.rep hn hma hR) (fun j h1 h2 h3 => h34.1 j (by omega)) (h34.rq (by omega)) rfl (by omega)
    · refine J.iconst 24 (-1) dX7_within_24 (by decide +kernel) ?_
      exact V.iret 25 dX7_within_25 (⟨by unfold F_within; rw [if_neg (fun z => z hin), wt_no hn (ts_0 hn c21)], hM.x (by omega), Rq.rf v⟩)
  · refine J.ldc 11 (-1000000002) dX7_within_11 kc_RX7_70 ?_
    exact V.iret 13 dX7_within_13 (⟨by unfold F_within; rw [if_pos c8]; rfl, hM.x (by omega), Rq.rf v⟩)
