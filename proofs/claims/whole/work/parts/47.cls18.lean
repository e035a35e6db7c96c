/-! ===== part 47: deeds, one by one ===== -/
theorem Mr.lie {v b : Vm2} {n f ma K nx s wr a B d : Nat} {x : Int32} (h : Mr v b n f ma K nx s wr a B) (hd : d < 64) (hx : Wi 9999 x) : Mr (up2 v (1 + 4) d x) (up2 b 179 (107 + d) x) n f ma K nx s wr a B := by
  have hn := h.1.2.1.2.1
  have hma := h.1.2.1.2.2.2.2.2.2.1
  rw [← upR_upd b 179]
  refine h.set (Nat.le_refl B) (((FrS.rf v 1).up (by omega) (by omega)).q) (fun k h1 h2 => upd_ne _ _ (by omega)) (h.1.1.lie hn hma hd x) (h.1.2.1.cg2 (fun k h1 h2 => upd_ne _ _ (by omega))) ?_
  have := h.1.2.2.le (d := 64 + d) hn (by omega) hx
  rw [show 43 + (64 + d) = 107 + d by omega] at this
  exact this
theorem Mr.err {v b : Vm2} {n f ma K nx s wr a B d : Nat} {x : Int32} (h : Mr v b n f ma K nx s wr a B) (hd : d < 64) (hx : Wi 9999 x) : Mr (up2 v (1 + 5) d x) (up2 b 179 (43 + d) x) n f ma K nx s wr a B := by
  have hn := h.1.2.1.2.1
  have hma := h.1.2.1.2.2.2.2.2.2.1
  rw [← upR_upd b 179]
  exact h.set (Nat.le_refl B) (((FrS.rf v 1).up (by omega) (by omega)).q) (fun k h1 h2 => upd_ne _ _ (by omega)) (h.1.1.err hn hma hd x) (h.1.2.1.cg2 (fun k h1 h2 => upd_ne _ _ (by omega))) (h.1.2.2.le hn (by omega) hx)
theorem wi_in {x : Int32} (h : inF x (-9999) (nI 9999)) : Wi 9999 x := by
  have a := Int32.le_iff_toInt_le.mp h.1
  have b := Int32.le_iff_toInt_le.mp h.2
  have e1 : (-9999 : Int32).toInt = -9999 := by decide
  have e2 : (nI 9999).toInt = 9999 := by decide
  unfold Wi
  omega
theorem wi_20 {x : Int32} (h : inF x (-20) (nI 20)) : Wi 9999 x := by
  have a := Int32.le_iff_toInt_le.mp h.1
  have b := Int32.le_iff_toInt_le.mp h.2
  have e1 : (-20 : Int32).toInt = -20 := by decide
  have e2 : (nI 20).toInt = 20 := by decide
  unfold Wi
  omega
theorem cn8_cg {f g : Nat → Int32} : ∀ n, (∀ c, c < n → f c = g c) → cn8 f n = cn8 g n
  | 0, _ => rfl
  | n + 1, h => by
    show cn8 f n + (decide (f n = nI 1)).toNat = cn8 g n + (decide (g n = nI 1)).toNat
    rw [cn8_cg n (fun c hc => h c (by omega)), h n (by omega)]
theorem st_sm {ρ σ : Nat → Int32} {n o c : Nat} {x : Int32} (hn : n ≤ 8) (hc : c < n) (hx : x = 0 ∨ x = nI 1) (h0 : ∀ d, d < 8 → ρ (o + d) = 0 ∨ (ρ (o + d) = nI 1 ∧ d < n)) (e : ∀ d, d < 8 → ρ (o + d) = σ (o + d)) : bcF (BM (upd (fun d => ρ (o + d)) c x)) = smI (fun d => upd σ (o + c) x (o + d)) n := by
  have g : ∀ d, d < 8 → upd (fun d => ρ (o + d)) c x d = upd σ (o + c) x (o + d) := fun d hd => by
    by_cases z : d = c
    · subst z; rw [upd_self, upd_self]
    · rw [upd_ne _ _ z, upd_ne _ _ (by omega)]; exact e d hd
  rw [BM_n, cn8_8 _ hn (fun d h1 h2 => by
    rw [upd_ne _ _ (by omega)]
    rcases h0 d h2 with z | z
    · show ¬ ρ (o + d) = nI 1
      rw [z]; decide
    · exact absurd z.2 (by omega)), smI_cn n (fun d hd => by
    by_cases z : d = c
    · subst z; rw [upd_self]; exact hx
    · rw [upd_ne _ _ (by omega), ← e d (by omega)]; exact (h0 d (by omega)).imp id (fun y => y.1)), cn8_cg n (fun d hd => g d (by omega))]
theorem jr_cg {f g : Nat → Int32} {x : Int32} {c m : Nat} (hm : m ≤ 6) (hc : c < 8) (h : ∀ k, k < 191 → f k = g k) : ∀ k, k < 191 → jrA (jnW f x c) c m k = jrA (jnW g x c) c m k := by
  have w : ∀ k, k < 191 → jnW f x c k = jnW g x c k := fun k hk => by
    unfold jnW upd
    rw [h k hk]
  intro k hk
  by_cases z : 184 ≤ k ∧ k < 184 + m
  · obtain ⟨a, rfl⟩ : ∃ a, k = 184 + a := ⟨k - 184, by omega⟩
    rw [jr_in _ c hc m a hm (by omega), jr_in _ c hc m a hm (by omega), w _ (by omega), w _ (by omega), w _ (by omega), w _ (by omega)]
  · rw [jrA_at _ _ _ _ (by omega), jrA_at _ _ _ _ (by omega)]
    exact w k hk
theorem alW_eq {b : Vm2} {K ma c : Nat} {x : Int32} (hK : K ≤ 16) (hc : c < 8) : alW b K ma (nI c) x = upR (rmF b K) 179 (alS ((rmF b K) 179) ma (nI c) x (if (rmF b K) 179 (3 + c) < x then nI 0 else nI 1)) := by
  unfold alW alS
  rw [show ix (nI c) = c from nI_clamp (by omega), rmF_row b hK (3 + c) (by omega), ← upR_upd (rmF b K) 179 (172 + ma) (nI c), up2_upR, up2_upR, up2_upR]
theorem tkN_W {ρ : Nat → Int32} {n f ma : Nat} (h : Wf ρ n f ma) : ∀ t, Wf (tkN ρ n ma t) n f ma
  | 0 => h
  | t + 1 => Wf_tk (tkN_W h t)
theorem tkN_B {ρ : Nat → Int32} {n f ma B : Nat} (h : Bn ρ n B) (hW : Wf ρ n f ma) (hB : B ≤ 100000000) : ∀ t, t ≤ 30 → Bn (tkN ρ n ma t) n (B + 110 * t)
  | 0, _ => h
  | t + 1, ht => ((tkN_B h hW hB t (by omega)).tk (tkN_W hW t) (by omega)).mono (by omega)
theorem tk_mo {ρ : Nat → Int32} {n f ma a : Nat} (hW : Wf ρ n f ma) (ha : a < ma) (h : ρ (184 + a) = nI 1) : tkF ρ n ma (184 + a) = nI 1 := by
  have hma := hW.2.2.2.2.2.2.1
  rw [← rgX_tk hW]
  unfold rgX
  by_cases z : 184 ≤ 184 + a ∧ 184 + a < 184 + ma ∧ due (tk0 ρ n) (184 + a - 184)
  · rw [if_pos z]
  · rw [if_neg z, tk0_at _ hW.2.1 (by omega) (by omega)]; exact h
theorem ite1 {p : Prop} [Decidable p] : (if p then nI 1 else nI 0) = nI 1 ↔ p := by
  by_cases h : p
  · rw [if_pos h]; exact ⟨fun _ => h, fun _ => rfl⟩
  · rw [if_neg h]; exact ⟨fun z => absurd z n01, fun z => absurd z h⟩
theorem nwT_i {ρ σ : Nat → Int32} {ma a : Nat} : nwT ρ σ ma a = nI 1 ↔ a < ma ∧ σ (184 + a) = nI 1 ∧ ¬ ρ (184 + a) = nI 1 := ite1
theorem nw_st {ρ : Nat → Int32} {n f ma k : Nat} (hW : Wf ρ n f ma) : BM (nwT ρ (tkN ρ n ma k) ma) ||| BM (nwT (tkN ρ n ma k) (tkF (tkN ρ n ma k) n ma) ma) = BM (nwT ρ (tkN ρ n ma (k + 1)) ma) := by
  have hWk := tkN_W hW k
  rw [BM_or]
  refine BM_congr (fun a _ => ?_)
  have e : tkN ρ n ma (k + 1) = tkF (tkN ρ n ma k) n ma := rfl
  rw [e]
  have up : ∀ m, m ≤ k → a < ma → ρ (184 + a) = nI 1 → tkN ρ n ma m (184 + a) = nI 1 := by
    intro m
    induction m with
    | zero => intro _ _ h; exact h
    | succ m ih => intro hm ha h; exact tk_mo (tkN_W hW m) ha (ih (by omega) ha h)
  rw [ite1, nwT_i, nwT_i, nwT_i]
  constructor
  · rintro (⟨h1, h2, h3⟩ | ⟨h1, h2, h3⟩)
    · exact ⟨h1, tk_mo hWk h1 h2, h3⟩
    · exact ⟨h1, h2, fun z => h3 (up k (Nat.le_refl k) h1 z)⟩
  · rintro ⟨h1, h2, h3⟩
    by_cases r : tkN ρ n ma k (184 + a) = nI 1
    · exact Or.inl ⟨h1, r, h3⟩
    · exact Or.inr ⟨h1, h2, r⟩
theorem nw_0 {ρ : Nat → Int32} {ma : Nat} : nI 0 = BM (nwT ρ ρ ma) := BM_0.trans (BM_congr (fun a _ => by unfold nwT; rw [if_neg (fun z => z.2.2 z.2.1)]))
theorem nw_rs {ρ : Nat → Int32} {n f ma t : Nat} (hW : Wf ρ n f ma) : BM (nwT ρ (tkN ρ n ma t) ma) = rsI (tkN ρ n ma t) ma &&& (rsI ρ ma ^^^ -1) := by
  rw [← rs_bs (tkN_W hW t), ← rs_bs hW, BM_an]
  refine BM_congr (fun a _ => ?_)
  unfold nwT
  by_cases ha : a < ma
  · rw [if_pos ha, if_pos ha]
    by_cases z : tkN ρ n ma t (184 + a) = nI 1 ∧ ¬ ρ (184 + a) = nI 1
    · rw [if_pos ⟨ha, z⟩, if_pos z]
    · rw [if_neg (fun y => z y.2), if_neg z]; decide
  · rw [if_neg (fun z => ha z.1), if_neg ha, if_neg (fun z => absurd z.1 (by decide))]
    decide

set_option maxHeartbeats 1000000 in
set_option maxRecDepth 100000 in
theorem q_round (w : Wd) (v : Vm2) {b : Vm2} {n f ma K nx s wr a0 B : Nat} (hM : Mr v b n f ma K nx s wr a0 B) (hB : B ≤ 100000000)  : CI w yX7_round cX7_round 1 (some .int) (rm 4 88) [.ref (wN w + 0)] v (fun r v' => r = (F_round b n f K).1 ∧ MR v' (F_round b n f K).2 (B + 160000) ∧ Rq v' v) := by
  have hR := hM.1.1
  have hW := hM.1.2.1
  have hBn := hM.1.2.2
  have hn := hW.2.1
  have hf3 := hW.2.2.2.1
  have hma := hW.2.2.2.2.2.2.1
  have hnx := hM.2.1.2.1
  have hK := hM.2.1.2.2.2.1
  refine CI.of (by decide) (Nat.le_of_ble_eq_true rfl) ?_
  refine J.aload_n 0 dX7_round_0 rfl rfl ?_
  refine V.getR 1 dX7_round_1 fl_RX7_36 r_0_4 ?_
  refine J.aload_n 4 dX7_round_4 rfl rfl ?_
  refine V.getR 5 dX7_round_5 fl_RX7_10 r_0_0 ?_
  refine V.callvU 8 dX7_round_8 ml_RX7_206 mi_yX4_remember mv_yX4_remember (c_X4_remember w _ hM.2.1.1 hM.2.1.2.1 hM.2.1.2.2.1 hM.2.1.2.2.2.1 isS_1 (by decide)) rfl rfl (Nat.le_of_ble_eq_true rfl) (by decide) (by decide) o_25 rfl rfl (fun v8 h8 => ?_)
  obtain ⟨u9, hu9, hv9⟩ := h8
  have hM1 : Mr v8 (rmF b K) n f ma (nK K) ((nx + 1) % 16) s wr a0 B := by rw [hv9]; exact hM.rem hu9
  have hq1 : Rq v8 v := by rw [hv9]; exact ((hu9.rq (by omega)).up (by omega)).up (by omega)
  have hR1 := hM1.1.1
  have hW1 := hM1.1.2.1
  have hB1 := hM1.1.2.2
  have hrow := rmF_row b hK
  refine J.aload_n 11 dX7_round_11 rfl rfl ?_
  refine V.getR 12 dX7_round_12 fl_RX7_29 r_0_3 ?_
  refine J.aload_n 15 dX7_round_15 rfl rfl ?_
  refine V.getR 16 dX7_round_16 fl_RX7_10 r_0_0 ?_
  refine V.callvU 19 dX7_round_19 ml_RX7_212 mi_yX1_meet mv_yX1_meet (c_X1_meet w _ isS_1 hR1 hW1 hB1 (by omega)) rfl rfl (Nat.le_of_ble_eq_true rfl) (by decide) (by decide) o_19 rfl rfl (fun v19 h19 => ?_)
  refine J.aload_n 22 dX7_round_22 rfl rfl ?_
  refine V.getR 23 dX7_round_23 fl_RX7_10 r_0_0 ?_
  refine V.callvP 26 dX7_round_26 ml_RX7_116 mi_yX5_apart mv_yX5_apart (c_X5_apart w _ isS_1 h19.1 hW1.rd) rfl rfl (Nat.le_of_ble_eq_true rfl) (by decide) (by decide) isS_1.o rfl rfl ?_
  exact V.iret 29 dX7_round_29 (⟨rfl, (hM1.set (E := B + 9999) (by omega) h19.2 (fun k h1 h2 => rn_at (by omega)) h19.1 hW1.rd (hB1.rd hn (by omega))).x (by omega), (h19.2.rq (by decide)).trans hq1⟩)
set_option maxHeartbeats 1000000 in
set_option maxRecDepth 100000 in
theorem q_lie (w : Wd) (v : Vm2) {b : Vm2} {n f ma K nx s wr a0 B : Nat} (hM : Mr v b n f ma K nx s wr a0 B) (hB : B ≤ 100000000) {j i x : Int32} : CI w yX7_lie cX7_lie 5 (some .int) (rm 3 82) [.ref (wN w + 0), .int j, .int i, .int x] v (fun r v' => r = (F_lie b n K j i x).1 ∧ MR v' (F_lie b n K j i x).2 (B + 160000) ∧ Rq v' v) := by
  have hR := hM.1.1
  have hW := hM.1.2.1
  have hBn := hM.1.2.2
  have hn := hW.2.1
  have hf3 := hW.2.2.2.1
  have hma := hW.2.2.2.2.2.2.1
  have hnx := hM.2.1.2.1
  have hK := hM.2.1.2.2.2.1
  refine CI.of (by decide) (Nat.le_of_ble_eq_true rfl) ?_
  refine J.aload_n 0 dX7_lie_0 rfl rfl ?_
  refine V.getR 1 dX7_lie_1 fl_RX7_10 r_0_0 ?_
  refine J.iload_n 4 dX7_lie_4 rfl rfl ?_
  refine J.iload_n 5 dX7_lie_5 rfl rfl ?_
  refine V.callvP 6 dX7_lie_6 ml_RX7_173 mi_yX5_hasBoth mv_yX5_hasBoth (c_X5_hasBoth w _ isS_1 (hR.1.1.trans hW.1) (by omega)) rfl rfl (Nat.le_of_ble_eq_true rfl) (by decide) (by decide) isS_1.o rfl rfl ?_
  refine V.if_neB 9 15 dX7_lie_9 (by decide) (fun c9 => ?_) (fun c9 => ?_)
  · obtain ⟨q1, q2, q3⟩ := c9
    obtain ⟨j, hj, rfl⟩ := (clkB_nI (by omega)).mp q1
    obtain ⟨i, hi, rfl⟩ := (clkB_nI (by omega)).mp q2
    have c9 : prB n (nI j) (nI i) := ⟨q1, q2, q3⟩
    refine J.iload_n 15 dX7_lie_15 rfl rfl ?_
    refine J.sipush 16 (-9999) dX7_lie_16 (by decide +kernel) ?_
    refine J.sipush 19 (nI 9999) dX7_lie_19 (by decide +kernel) ?_
    refine V.callsP 22 dX7_lie_22 ml_RX7_66 mi_yX7_between ms_yX7_between (c_X7_between w _) rfl rfl (Nat.le_of_ble_eq_true rfl) (by decide) (by decide) ?_
    refine V.if_neB 25 31 dX7_lie_25 (by decide) (fun c25 => ?_) (fun c25 => ?_)
    · refine J.aload_n 31 dX7_lie_31 rfl rfl ?_
      refine V.getR 32 dX7_lie_32 fl_RX7_36 r_0_4 ?_
      refine J.aload_n 35 dX7_lie_35 rfl rfl ?_
      refine V.getR 36 dX7_lie_36 fl_RX7_10 r_0_0 ?_
      refine V.callvU 39 dX7_lie_39 ml_RX7_206 mi_yX4_remember mv_yX4_remember (c_X4_remember w _ hM.2.1.1 hM.2.1.2.1 hM.2.1.2.2.1 hM.2.1.2.2.2.1 isS_1 (by decide)) rfl rfl (Nat.le_of_ble_eq_true rfl) (by decide) (by decide) o_25 rfl rfl (fun v39 h39 => ?_)
      obtain ⟨u9, hu9, hv9⟩ := h39
      have hM1 : Mr v39 (rmF b K) n f ma (nK K) ((nx + 1) % 16) s wr a0 B := by rw [hv9]; exact hM.rem hu9
      have hq1 : Rq v39 v := by rw [hv9]; exact ((hu9.rq (by omega)).up (by omega)).up (by omega)
      have hR1 := hM1.1.1
      have hW1 := hM1.1.2.1
      have hB1 := hM1.1.2.2
      have hrow := rmF_row b hK
      refine J.aload_n 42 dX7_lie_42 rfl rfl ?_
      refine V.getR 43 dX7_lie_43 fl_RX7_10 r_0_0 ?_
      refine V.getR 46 dX7_lie_46 fl_RX7_187 isS_1.r11 ?_
      refine J.iload_n 49 dX7_lie_49 rfl rfl ?_
      refine J.iload_n 50 dX7_lie_50 rfl rfl ?_
      refine V.callsP 51 dX7_lie_51 ml_RX7_184 mi_yX5_way ms_yX5_way (c_X5_way w _) rfl rfl (Nat.le_of_ble_eq_true rfl) (by decide) (by decide) ?_
      refine V.iald 54 dX7_lie_54 isS_1.a11 (by omega) ?_
      refine J.istore 55 dX7_lie_55 (by decide) ?_
      refine J.aload_n 57 dX7_lie_57 rfl rfl ?_
      refine V.getR 58 dX7_lie_58 fl_RX7_10 r_0_0 ?_
      refine V.getR 61 dX7_lie_61 fl_RX7_187 isS_1.r11 ?_
      refine J.iload_n 64 dX7_lie_64 rfl rfl ?_
      refine J.iload_n 65 dX7_lie_65 rfl rfl ?_
      refine V.callsP 66 dX7_lie_66 ml_RX7_184 mi_yX5_way ms_yX5_way (c_X5_way w _) rfl rfl (Nat.le_of_ble_eq_true rfl) (by decide) (by decide) ?_
      refine J.iload_n 69 dX7_lie_69 rfl rfl ?_
      refine V.iast 70 dX7_lie_70 isS_1.a11 (by omega) ?_
      refine J.iload 71 dX7_lie_71 rfl ?_
      refine J.sipush 73 (nI 9999) dX7_lie_73 (by decide +kernel) ?_
      refine J.iadd 76 dX7_lie_76 ?_
      exact V.iret 77 dX7_lie_77 (⟨by unfold F_lie; rw [if_neg (fun z => z c9), if_neg (fun z => z c25), ix_nI hj hn, ix_nI hi hn, (hR1.2.2.2.1 (j * 8 + i) (by omega)).1, hrow _ (by omega), show 107 + 8 * j + i = 107 + (j * 8 + i) by omega], by unfold F_lie; rw [if_neg (fun z => z c9), if_neg (fun z => z c25), ix_nI hj hn, ix_nI hi hn, show 107 + 8 * j + i = 107 + (j * 8 + i) by omega]; exact (hM1.lie (by omega) (wi_in c25)).x (by omega), hq1.up (by decide)⟩)
    · refine J.ldc 28 (-1000000002) dX7_lie_28 kc_RX7_70 ?_
      exact V.iret 30 dX7_lie_30 (by unfold F_lie; rw [if_neg (fun z => z c9), if_pos c25]; exact ⟨rfl, hM.x (by omega), Rq.rf v⟩)
  · refine J.ldc 12 (-1000000001) dX7_lie_12 kc_RX7_142 ?_
    exact V.iret 14 dX7_lie_14 (by unfold F_lie; rw [if_pos c9]; exact ⟨rfl, hM.x (by omega), Rq.rf v⟩)
set_option maxHeartbeats 1000000 in
set_option maxRecDepth 100000 in
theorem q_error (w : Wd) (v : Vm2) {b : Vm2} {n f ma K nx s wr a0 B : Nat} (hM : Mr v b n f ma K nx s wr a0 B) (hB : B ≤ 100000000) {j i x : Int32} : CI w yX7_error cX7_error 5 (some .int) (rm 3 82) [.ref (wN w + 0), .int j, .int i, .int x] v (fun r v' => r = (F_error b n K j i x).1 ∧ MR v' (F_error b n K j i x).2 (B + 160000) ∧ Rq v' v) := by
  have hR := hM.1.1
  have hW := hM.1.2.1
  have hBn := hM.1.2.2
  have hn := hW.2.1
  have hf3 := hW.2.2.2.1
  have hma := hW.2.2.2.2.2.2.1
  have hnx := hM.2.1.2.1
  have hK := hM.2.1.2.2.2.1
  refine CI.of (by decide) (Nat.le_of_ble_eq_true rfl) ?_
  refine J.aload_n 0 dX7_error_0 rfl rfl ?_
  refine V.getR 1 dX7_error_1 fl_RX7_10 r_0_0 ?_
  refine J.iload_n 4 dX7_error_4 rfl rfl ?_
  refine J.iload_n 5 dX7_error_5 rfl rfl ?_
  refine V.callvP 6 dX7_error_6 ml_RX7_173 mi_yX5_hasBoth mv_yX5_hasBoth (c_X5_hasBoth w _ isS_1 (hR.1.1.trans hW.1) (by omega)) rfl rfl (Nat.le_of_ble_eq_true rfl) (by decide) (by decide) isS_1.o rfl rfl ?_
  refine V.if_neB 9 15 dX7_error_9 (by decide) (fun c9 => ?_) (fun c9 => ?_)
  · obtain ⟨q1, q2, q3⟩ := c9
    obtain ⟨j, hj, rfl⟩ := (clkB_nI (by omega)).mp q1
    obtain ⟨i, hi, rfl⟩ := (clkB_nI (by omega)).mp q2
    have c9 : prB n (nI j) (nI i) := ⟨q1, q2, q3⟩
    refine J.iload_n 15 dX7_error_15 rfl rfl ?_
    refine J.bipush 16 (-20) dX7_error_16 (by decide +kernel) ?_
    refine J.bipush 18 (nI 20) dX7_error_18 (by decide +kernel) ?_
    refine V.callsP 20 dX7_error_20 ml_RX7_66 mi_yX7_between ms_yX7_between (c_X7_between w _) rfl rfl (Nat.le_of_ble_eq_true rfl) (by decide) (by decide) ?_
    refine V.if_neB 23 29 dX7_error_23 (by decide) (fun c23 => ?_) (fun c23 => ?_)
    · refine J.aload_n 29 dX7_error_29 rfl rfl ?_
      refine V.getR 30 dX7_error_30 fl_RX7_36 r_0_4 ?_
      refine J.aload_n 33 dX7_error_33 rfl rfl ?_
      refine V.getR 34 dX7_error_34 fl_RX7_10 r_0_0 ?_
      refine V.callvU 37 dX7_error_37 ml_RX7_206 mi_yX4_remember mv_yX4_remember (c_X4_remember w _ hM.2.1.1 hM.2.1.2.1 hM.2.1.2.2.1 hM.2.1.2.2.2.1 isS_1 (by decide)) rfl rfl (Nat.le_of_ble_eq_true rfl) (by decide) (by decide) o_25 rfl rfl (fun v37 h37 => ?_)
      obtain ⟨u9, hu9, hv9⟩ := h37
      have hM1 : Mr v37 (rmF b K) n f ma (nK K) ((nx + 1) % 16) s wr a0 B := by rw [hv9]; exact hM.rem hu9
      have hq1 : Rq v37 v := by rw [hv9]; exact ((hu9.rq (by omega)).up (by omega)).up (by omega)
      have hR1 := hM1.1.1
      have hW1 := hM1.1.2.1
      have hB1 := hM1.1.2.2
      have hrow := rmF_row b hK
      refine J.aload_n 40 dX7_error_40 rfl rfl ?_
      refine V.getR 41 dX7_error_41 fl_RX7_10 r_0_0 ?_
      refine V.getR 44 dX7_error_44 fl_RX7_181 isS_1.r12 ?_
      refine J.iload_n 47 dX7_error_47 rfl rfl ?_
      refine J.iload_n 48 dX7_error_48 rfl rfl ?_
      refine V.callsP 49 dX7_error_49 ml_RX7_184 mi_yX5_way ms_yX5_way (c_X5_way w _) rfl rfl (Nat.le_of_ble_eq_true rfl) (by decide) (by decide) ?_
      refine V.iald 52 dX7_error_52 isS_1.a12 (by omega) ?_
      refine J.istore 53 dX7_error_53 (by decide) ?_
      refine J.aload_n 55 dX7_error_55 rfl rfl ?_
      refine V.getR 56 dX7_error_56 fl_RX7_10 r_0_0 ?_
      refine V.getR 59 dX7_error_59 fl_RX7_181 isS_1.r12 ?_
      refine J.iload_n 62 dX7_error_62 rfl rfl ?_
      refine J.iload_n 63 dX7_error_63 rfl rfl ?_
      refine V.callsP 64 dX7_error_64 ml_RX7_184 mi_yX5_way ms_yX5_way (c_X5_way w _) rfl rfl (Nat.le_of_ble_eq_true rfl) (by decide) (by decide) ?_
      refine J.iload_n 67 dX7_error_67 rfl rfl ?_
      refine V.iast 68 dX7_error_68 isS_1.a12 (by omega) ?_
      refine J.iload 69 dX7_error_69 rfl ?_
      refine J.bipush 71 (nI 20) dX7_error_71 (by decide +kernel) ?_
      refine J.iadd 73 dX7_error_73 ?_
      exact V.iret 74 dX7_error_74 (⟨by unfold F_error; rw [if_neg (fun z => z c9), if_neg (fun z => z c23), ix_nI hj hn, ix_nI hi hn, (hR1.2.2.2.1 (j * 8 + i) (by omega)).2, hrow _ (by omega), show 43 + 8 * j + i = 43 + (j * 8 + i) by omega], by unfold F_error; rw [if_neg (fun z => z c9), if_neg (fun z => z c23), ix_nI hj hn, ix_nI hi hn, show 43 + 8 * j + i = 43 + (j * 8 + i) by omega]; exact (hM1.err (by omega) (wi_20 c23)).x (by omega), hq1.up (by decide)⟩)
    · refine J.ldc 26 (-1000000002) dX7_error_26 kc_RX7_70 ?_
      exact V.iret 28 dX7_error_28 (by unfold F_error; rw [if_neg (fun z => z c9), if_pos c23]; exact ⟨rfl, hM.x (by omega), Rq.rf v⟩)
  · refine J.ldc 12 (-1000000001) dX7_error_12 kc_RX7_142 ?_
    exact V.iret 14 dX7_error_14 (by unfold F_error; rw [if_pos c9]; exact ⟨rfl, hM.x (by omega), Rq.rf v⟩)
set_option maxHeartbeats 1000000 in
set_option maxRecDepth 100000 in
theorem q_liar (w : Wd) (v : Vm2) {b : Vm2} {n f ma K nx s wr a0 B : Nat} (hM : Mr v b n f ma K nx s wr a0 B) (hB : B ≤ 100000000) {c z : Int32} : CI w yX7_liar cX7_liar 3 (some .int) (rm 3 82) [.ref (wN w + 0), .int c, .int z] v (fun r v' => r = (F_liar b n K c z).1 ∧ MR v' (F_liar b n K c z).2 (B + 160000) ∧ Rq v' v) := by
  have hR := hM.1.1
  have hW := hM.1.2.1
  have hBn := hM.1.2.2
  have hn := hW.2.1
  have hf3 := hW.2.2.2.1
  have hma := hW.2.2.2.2.2.2.1
  have hnx := hM.2.1.2.1
  have hK := hM.2.1.2.2.2.1
  refine CI.of (by decide) (Nat.le_of_ble_eq_true rfl) ?_
  refine J.aload_n 0 dX7_liar_0 rfl rfl ?_
  refine V.getR 1 dX7_liar_1 fl_RX7_10 r_0_0 ?_
  refine J.iload_n 4 dX7_liar_4 rfl rfl ?_
  refine V.callvP 5 dX7_liar_5 ml_RX7_138 mi_yX5_has mv_yX5_has (c_X5_has w _ isS_1 _ (hR.1.1.trans hW.1) (by omega)) rfl rfl (Nat.le_of_ble_eq_true rfl) (by decide) (by decide) isS_1.o rfl rfl ?_
  refine V.if_neB 8 14 dX7_liar_8 (by decide) (fun c8 => ?_) (fun c8 => ?_)
  · obtain ⟨c, hc, rfl⟩ := (clkB_nI (by omega)).mp c8
    refine J.aload_n 14 dX7_liar_14 rfl rfl ?_
    refine V.getR 15 dX7_liar_15 fl_RX7_36 r_0_4 ?_
    refine J.aload_n 18 dX7_liar_18 rfl rfl ?_
    refine V.getR 19 dX7_liar_19 fl_RX7_10 r_0_0 ?_
    refine V.callvU 22 dX7_liar_22 ml_RX7_206 mi_yX4_remember mv_yX4_remember (c_X4_remember w _ hM.2.1.1 hM.2.1.2.1 hM.2.1.2.2.1 hM.2.1.2.2.2.1 isS_1 (by decide)) rfl rfl (Nat.le_of_ble_eq_true rfl) (by decide) (by decide) o_25 rfl rfl (fun v22 h22 => ?_)
    obtain ⟨u9, hu9, hv9⟩ := h22
    have hM1 : Mr v22 (rmF b K) n f ma (nK K) ((nx + 1) % 16) s wr a0 B := by rw [hv9]; exact hM.rem hu9
    have hq1 : Rq v22 v := by rw [hv9]; exact ((hu9.rq (by omega)).up (by omega)).up (by omega)
    have hR1 := hM1.1.1
    have hW1 := hM1.1.2.1
    have hB1 := hM1.1.2.2
    have hrow := rmF_row b hK
    refine J.aload_n 25 dX7_liar_25 rfl rfl ?_
    refine V.getR 26 dX7_liar_26 fl_RX7_10 r_0_0 ?_
    refine J.iload_n 29 dX7_liar_29 rfl rfl ?_
    refine J.if_eq 30 47 dX7_liar_30 (by decide) (fun c30 => ?_) (fun c30 => ?_)
    · have hz9 : (if z = 0 then nI 0 else nI 1) = nI 0 := if_pos c30
      refine J.aload_n 47 dX7_liar_47 rfl rfl ?_
      refine V.getR 48 dX7_liar_48 fl_RX7_10 r_0_0 ?_
      refine V.getI 51 dX7_liar_51 fl_RX7_106 isS_1.i3 ?_
      refine J.top hR1.2.1.1 ?_
      refine J.iconst 54 (nI 1) dX7_liar_54 (by decide +kernel) ?_
      refine J.iload_n 55 dX7_liar_55 rfl rfl ?_
      refine J.ishl 56 dX7_liar_56 ?_
      refine J.iconst 57 (-1) dX7_liar_57 (by decide +kernel) ?_
      refine J.ixor 58 dX7_liar_58 ?_
      refine J.iand 59 dX7_liar_59 ?_
      refine J.top (BM_c _ (by omega)) ?_
      refine V.putI 60 dX7_liar_60 fl_RX7_106 fp_5_3 isS_1.i3 ?_
      refine J.aload_n 63 dX7_liar_63 rfl rfl ?_
      refine V.getR 64 dX7_liar_64 fl_RX7_10 r_0_0 ?_
      refine V.getI 67 dX7_liar_67 fl_RX7_106 isS_1.i3 ?_
      refine J.top (up2_self _ _ _ _) ?_
      refine V.callsP 70 dX7_liar_70 ml_RX7_215 mi_yJ6_bitCount_0f7a4 ms_yJ6_bitCount_0f7a4 (c_J6_bitCount_0f7a4 w _ _) rfl rfl (Nat.le_of_ble_eq_true rfl) (by decide) (by decide) ?_
      exact V.iret 73 dX7_liar_73 (by first | exact ⟨by unfold F_liar; rw [if_neg (fun z => z c8), ix_nI hc hn, hz9]; exact st_sm (ρ := (rmF b K) 179) hn hc (Or.inl rfl) (fun d hd => (hW1.2.2.2.2.2.2.2.1 d hd).1) (fun d hd => hrow _ (by omega)), by unfold F_liar; rw [if_neg (fun z => z c8), ix_nI hc hn, hz9, ← upR_upd (rmF b K) 179]; exact (hM1.set (Nat.le_refl B) (((FrS.rf v22 1).up (by omega) (by omega)).q) (fun k h1 h2 => upd_ne _ _ (by omega)) (hR1.lia hn hma (c := c) (by omega) rfl) (hW1.li hc (Or.inl rfl)) (hB1.cg hn (fun k hk => upd_ne _ _ (by omega)))).x (by omega), hq1.up (by decide)⟩ | exact ⟨by unfold F_liar; rw [if_neg (fun z => z c8), ix_nI hc hn, hz9]; exact st_sm (ρ := (rmF b K) 179) hn hc (Or.inr rfl) (fun d hd => (hW1.2.2.2.2.2.2.2.1 d hd).1) (fun d hd => hrow _ (by omega)), by unfold F_liar; rw [if_neg (fun z => z c8), ix_nI hc hn, hz9, ← upR_upd (rmF b K) 179]; exact (hM1.set (Nat.le_refl B) (((FrS.rf v22 1).up (by omega) (by omega)).q) (fun k h1 h2 => upd_ne _ _ (by omega)) (hR1.lia hn hma (c := c) (by omega) rfl) (hW1.li hc (Or.inr rfl)) (hB1.cg hn (fun k hk => upd_ne _ _ (by omega)))).x (by omega), hq1.up (by decide)⟩)
    · have hz9 : (if z = 0 then nI 0 else nI 1) = nI 1 := if_neg c30
      refine J.aload_n 33 dX7_liar_33 rfl rfl ?_
      refine V.getR 34 dX7_liar_34 fl_RX7_10 r_0_0 ?_
      refine V.getI 37 dX7_liar_37 fl_RX7_106 isS_1.i3 ?_
      refine J.top hR1.2.1.1 ?_
      refine J.iconst 40 (nI 1) dX7_liar_40 (by decide +kernel) ?_
      refine J.iload_n 41 dX7_liar_41 rfl rfl ?_
      refine J.ishl 42 dX7_liar_42 ?_
      refine J.ior 43 dX7_liar_43 ?_
      refine J.top (BM_s _ (by omega)) ?_
      refine J.goto 44 60 dX7_liar_44 (by decide) ?_
      refine V.putI 60 dX7_liar_60 fl_RX7_106 fp_5_3 isS_1.i3 ?_
      refine J.aload_n 63 dX7_liar_63 rfl rfl ?_
      refine V.getR 64 dX7_liar_64 fl_RX7_10 r_0_0 ?_
      refine V.getI 67 dX7_liar_67 fl_RX7_106 isS_1.i3 ?_
      refine J.top (up2_self _ _ _ _) ?_
      refine V.callsP 70 dX7_liar_70 ml_RX7_215 mi_yJ6_bitCount_0f7a4 ms_yJ6_bitCount_0f7a4 (c_J6_bitCount_0f7a4 w _ _) rfl rfl (Nat.le_of_ble_eq_true rfl) (by decide) (by decide) ?_
      exact V.iret 73 dX7_liar_73 (by first | exact ⟨by unfold F_liar; rw [if_neg (fun z => z c8), ix_nI hc hn, hz9]; exact st_sm (ρ := (rmF b K) 179) hn hc (Or.inl rfl) (fun d hd => (hW1.2.2.2.2.2.2.2.1 d hd).1) (fun d hd => hrow _ (by omega)), by unfold F_liar; rw [if_neg (fun z => z c8), ix_nI hc hn, hz9, ← upR_upd (rmF b K) 179]; exact (hM1.set (Nat.le_refl B) (((FrS.rf v22 1).up (by omega) (by omega)).q) (fun k h1 h2 => upd_ne _ _ (by omega)) (hR1.lia hn hma (c := c) (by omega) rfl) (hW1.li hc (Or.inl rfl)) (hB1.cg hn (fun k hk => upd_ne _ _ (by omega)))).x (by omega), hq1.up (by decide)⟩ | exact ⟨by unfold F_liar; rw [if_neg (fun z => z c8), ix_nI hc hn, hz9]; exact st_sm (ρ := (rmF b K) 179) hn hc (Or.inr rfl) (fun d hd => (hW1.2.2.2.2.2.2.2.1 d hd).1) (fun d hd => hrow _ (by omega)), by unfold F_liar; rw [if_neg (fun z => z c8), ix_nI hc hn, hz9, ← upR_upd (rmF b K) 179]; exact (hM1.set (Nat.le_refl B) (((FrS.rf v22 1).up (by omega) (by omega)).q) (fun k h1 h2 => upd_ne _ _ (by omega)) (hR1.lia hn hma (c := c) (by omega) rfl) (hW1.li hc (Or.inr rfl)) (hB1.cg hn (fun k hk => upd_ne _ _ (by omega)))).x (by omega), hq1.up (by decide)⟩)
  · refine J.ldc 11 (-1000000001) dX7_liar_11 kc_RX7_142 ?_
    exact V.iret 13 dX7_liar_13 (by unfold F_liar; rw [if_pos c8]; exact ⟨rfl, hM.x (by omega), Rq.rf v⟩)
set_option maxHeartbeats 1000000 in
set_option maxRecDepth 100000 in
theorem q_stand (w : Wd) (v : Vm2) {b : Vm2} {n f ma K nx s wr a0 B : Nat} (hM : Mr v b n f ma K nx s wr a0 B) (hB : B ≤ 100000000) {c : Int32} : CI w yX7_stand cX7_stand 2 (some .int) (rm 3 82) [.ref (wN w + 0), .int c] v (fun r v' => r = (F_stand b n K c).1 ∧ MR v' (F_stand b n K c).2 (B + 160000) ∧ Rq v' v) := by
  have hR := hM.1.1
  have hW := hM.1.2.1
  have hBn := hM.1.2.2
  have hn := hW.2.1
  have hf3 := hW.2.2.2.1
  have hma := hW.2.2.2.2.2.2.1
  have hnx := hM.2.1.2.1
  have hK := hM.2.1.2.2.2.1
  refine CI.of (by decide) (Nat.le_of_ble_eq_true rfl) ?_
  refine J.aload_n 0 dX7_stand_0 rfl rfl ?_
  refine V.getR 1 dX7_stand_1 fl_RX7_10 r_0_0 ?_
  refine J.iload_n 4 dX7_stand_4 rfl rfl ?_
  refine V.callvP 5 dX7_stand_5 ml_RX7_138 mi_yX5_has mv_yX5_has (c_X5_has w _ isS_1 _ (hR.1.1.trans hW.1) (by omega)) rfl rfl (Nat.le_of_ble_eq_true rfl) (by decide) (by decide) isS_1.o rfl rfl ?_
  refine V.if_neB 8 14 dX7_stand_8 (by decide) (fun c8 => ?_) (fun c8 => ?_)
  · obtain ⟨c, hc, rfl⟩ := (clkB_nI (by omega)).mp c8
    refine J.aload_n 14 dX7_stand_14 rfl rfl ?_
    refine V.getR 15 dX7_stand_15 fl_RX7_10 r_0_0 ?_
    refine J.iload_n 18 dX7_stand_18 rfl rfl ?_
    refine V.callvP 19 dX7_stand_19 ml_RX7_159 mi_yX5_stands mv_yX5_stands (c_X5_stands w _ isS_1 (g := fun b9 => (b 179) (35 + b9)) hR.2.1.2.1 (by omega)) rfl rfl (Nat.le_of_ble_eq_true rfl) (by decide) (by decide) isS_1.o rfl rfl ?_
    refine V.if_eqB 22 28 dX7_stand_22 (by decide) (fun c22 => ?_) (fun c22 => ?_)
    · refine J.aload_n 28 dX7_stand_28 rfl rfl ?_
      refine V.getR 29 dX7_stand_29 fl_RX7_36 r_0_4 ?_
      refine J.aload_n 32 dX7_stand_32 rfl rfl ?_
      refine V.getR 33 dX7_stand_33 fl_RX7_10 r_0_0 ?_
      refine V.callvU 36 dX7_stand_36 ml_RX7_206 mi_yX4_remember mv_yX4_remember (c_X4_remember w _ hM.2.1.1 hM.2.1.2.1 hM.2.1.2.2.1 hM.2.1.2.2.2.1 isS_1 (by decide)) rfl rfl (Nat.le_of_ble_eq_true rfl) (by decide) (by decide) o_25 rfl rfl (fun v36 h36 => ?_)
      obtain ⟨u9, hu9, hv9⟩ := h36
      have hM1 : Mr v36 (rmF b K) n f ma (nK K) ((nx + 1) % 16) s wr a0 B := by rw [hv9]; exact hM.rem hu9
      have hq1 : Rq v36 v := by rw [hv9]; exact ((hu9.rq (by omega)).up (by omega)).up (by omega)
      have hR1 := hM1.1.1
      have hW1 := hM1.1.2.1
      have hB1 := hM1.1.2.2
      have hrow := rmF_row b hK
      refine J.aload_n 39 dX7_stand_39 rfl rfl ?_
      refine V.getR 40 dX7_stand_40 fl_RX7_10 r_0_0 ?_
      refine J.dup 43 dX7_stand_43 rfl ?_
      refine V.getI 44 dX7_stand_44 fl_RX7_109 isS_1.i4 ?_
      refine J.top hR1.2.1.2.1 ?_
      refine J.iconst 47 (nI 1) dX7_stand_47 (by decide +kernel) ?_
      refine J.iload_n 48 dX7_stand_48 rfl rfl ?_
      refine J.ishl 49 dX7_stand_49 ?_
      refine J.ior 50 dX7_stand_50 ?_
      refine J.top (BM_s _ (by omega)) ?_
      refine V.putI 51 dX7_stand_51 fl_RX7_109 fp_5_4 isS_1.i4 ?_
      refine J.aload_n 54 dX7_stand_54 rfl rfl ?_
      refine V.getR 55 dX7_stand_55 fl_RX7_10 r_0_0 ?_
      refine V.getI 58 dX7_stand_58 fl_RX7_109 isS_1.i4 ?_
      refine J.top (up2_self _ _ _ _) ?_
      refine V.callsP 61 dX7_stand_61 ml_RX7_215 mi_yJ6_bitCount_0f7a4 ms_yJ6_bitCount_0f7a4 (c_J6_bitCount_0f7a4 w _ _) rfl rfl (Nat.le_of_ble_eq_true rfl) (by decide) (by decide) ?_
      exact V.iret 64 dX7_stand_64 (⟨by unfold F_stand; rw [if_neg (fun z => z c8), ix_nI hc hn, if_neg c22]; exact st_sm (ρ := (rmF b K) 179) hn hc (Or.inr rfl) (fun d hd => (hW1.2.2.2.2.2.2.2.1 d hd).2) (fun d hd => hrow _ (by omega)), by unfold F_stand; rw [if_neg (fun z => z c8), ix_nI hc hn, if_neg c22, ← upR_upd (rmF b K) 179]; exact (hM1.set (Nat.le_refl B) (((FrS.rf v36 1).up (by omega) (by omega)).q) (fun k h1 h2 => upd_ne _ _ (by omega)) (hR1.sta hn hma (c := c) (by omega) rfl) (hW1.sd hc (Or.inr rfl)) (hB1.cg hn (fun k hk => upd_ne _ _ (by omega)))).x (by omega), hq1.up (by decide)⟩)
    · refine J.ldc 25 (-1000000003) dX7_stand_25 kc_RX7_220 ?_
      exact V.iret 27 dX7_stand_27 (by unfold F_stand; rw [if_neg (fun z => z c8), ix_nI hc hn, if_pos c22]; exact ⟨rfl, hM.x (by omega), Rq.rf v⟩)
  · refine J.ldc 11 (-1000000001) dX7_stand_11 kc_RX7_142 ?_
    exact V.iret 13 dX7_stand_13 (by unfold F_stand; rw [if_pos c8]; exact ⟨rfl, hM.x (by omega), Rq.rf v⟩)
set_option maxHeartbeats 1000000 in
set_option maxRecDepth 100000 in
theorem q_join (w : Wd) (v : Vm2) {b : Vm2} {n f ma K nx s wr a0 B : Nat} (hM : Mr v b n f ma K nx s wr a0 B) (hB : B ≤ 100000000) {c : Int32} : CI w yX7_join cX7_join 2 (some .int) (rm 4 88) [.ref (wN w + 0), .int c] v (fun r v' => r = (F_join b n f K ma c).1 ∧ MR v' (F_join b n f K ma c).2 (B + 160000) ∧ Rq v' v) := by
  have hR := hM.1.1
  have hW := hM.1.2.1
  have hBn := hM.1.2.2
  have hn := hW.2.1
  have hf3 := hW.2.2.2.1
  have hma := hW.2.2.2.2.2.2.1
  have hnx := hM.2.1.2.1
  have hK := hM.2.1.2.2.2.1
  refine CI.of (by decide) (Nat.le_of_ble_eq_true rfl) ?_
  refine J.aload_n 0 dX7_join_0 rfl rfl ?_
  refine V.getR 1 dX7_join_1 fl_RX7_10 r_0_0 ?_
  refine J.iload_n 4 dX7_join_4 rfl rfl ?_
  refine V.callvP 5 dX7_join_5 ml_RX7_138 mi_yX5_has mv_yX5_has (c_X5_has w _ isS_1 _ (hR.1.1.trans hW.1) (by omega)) rfl rfl (Nat.le_of_ble_eq_true rfl) (by decide) (by decide) isS_1.o rfl rfl ?_
  refine V.if_neB 8 14 dX7_join_8 (by decide) (fun c8 => ?_) (fun c8 => ?_)
  · obtain ⟨c, hc, rfl⟩ := (clkB_nI (by omega)).mp c8
    refine J.aload_n 14 dX7_join_14 rfl rfl ?_
    refine V.getR 15 dX7_join_15 fl_RX7_10 r_0_0 ?_
    refine J.iload_n 18 dX7_join_18 rfl rfl ?_
    refine V.callvP 19 dX7_join_19 ml_RX7_159 mi_yX5_stands mv_yX5_stands (c_X5_stands w _ isS_1 (g := fun b9 => (b 179) (35 + b9)) hR.2.1.2.1 (by omega)) rfl rfl (Nat.le_of_ble_eq_true rfl) (by decide) (by decide) isS_1.o rfl rfl ?_
    refine V.if_eqB 22 40 dX7_join_22 (by decide) (fun c22 => ?_) (fun c22 => ?_)
    · refine J.ldc 40 (-1000000003) dX7_join_40 kc_RX7_220 ?_
      exact V.iret 42 dX7_join_42 (by first | (unfold F_join; rw [if_neg (fun z => z c8), ix_nI hc hn, if_pos (Or.inl ((hW.z (by omega)).2.mpr c22))]; exact ⟨rfl, hM.x (by omega), Rq.rf v⟩) | (unfold F_join; rw [if_neg (fun z => z c8), ix_nI hc hn, if_pos (Or.inr (by omega))]; exact ⟨rfl, hM34.x (by omega), hf34.rq⟩))
    · have hst : ¬ (b 179) (35 + c) = 0 := by rw [c22]; decide
      refine J.aload_n 25 dX7_join_25 rfl rfl ?_
      refine V.getR 26 dX7_join_26 fl_RX7_29 r_0_3 ?_
      refine J.aload_n 29 dX7_join_29 rfl rfl ?_
      refine V.getR 30 dX7_join_30 fl_RX7_10 r_0_0 ?_
      refine J.iload_n 33 dX7_join_33 rfl rfl ?_
      refine V.callv 34 dX7_join_34 ml_RX7_221 mi_yX1_canJoin mv_yX1_canJoin (c_X1_canJoin w _ isS_1 hR hW hc hst) rfl rfl (Nat.le_of_ble_eq_true rfl) (by decide) (by decide) o_19 rfl rfl (fun r34 v34 h34 => ?_)
      obtain ⟨rfl, hf34⟩ := h34
      have hM34 := hM.fr (fun k h1 h2 h3 => hf34 k h2)
      refine V.if_neB 37 43 dX7_join_37 (by decide) (fun c37 => ?_) (fun c37 => ?_)
      · refine J.aload_n 43 dX7_join_43 rfl rfl ?_
        refine V.getR 44 dX7_join_44 fl_RX7_36 r_0_4 ?_
        refine J.aload_n 47 dX7_join_47 rfl rfl ?_
        refine V.getR 48 dX7_join_48 fl_RX7_10 r_0_0 ?_
        refine V.callvU 51 dX7_join_51 ml_RX7_206 mi_yX4_remember mv_yX4_remember (c_X4_remember w _ hM34.2.1.1 hM34.2.1.2.1 hM34.2.1.2.2.1 hM34.2.1.2.2.2.1 isS_1 (by decide)) rfl rfl (Nat.le_of_ble_eq_true rfl) (by decide) (by decide) o_25 rfl rfl (fun v51 h51 => ?_)
        obtain ⟨u9, hu9, hv9⟩ := h51
        have hM1 : Mr v51 (rmF b K) n f ma (nK K) ((nx + 1) % 16) s wr a0 B := by rw [hv9]; exact hM34.rem hu9
        have hq1 : Rq v51 v34 := by rw [hv9]; exact ((hu9.rq (by omega)).up (by omega)).up (by omega)
        have hR1 := hM1.1.1
        have hW1 := hM1.1.2.1
        have hB1 := hM1.1.2.2
        have hrow := rmF_row b hK
        refine J.aload_n 54 dX7_join_54 rfl rfl ?_
        refine V.getR 55 dX7_join_55 fl_RX7_29 r_0_3 ?_
        refine J.aload_n 58 dX7_join_58 rfl rfl ?_
        refine V.getR 59 dX7_join_59 fl_RX7_10 r_0_0 ?_
        refine J.iload_n 62 dX7_join_62 rfl rfl ?_
        refine V.callvU 63 dX7_join_63 ml_RX7_225 mi_yX1_letJoin mv_yX1_letJoin (c_X1_letJoin w _ isS_1 (hR1.cg hn hma (fun k hk => (hrow k (by omega)).symm)) hW hc hst c37 hBn (by omega)) rfl rfl (Nat.le_of_ble_eq_true rfl) (by decide) (by decide) o_19 rfl rfl (fun v63 h63 => ?_)
        refine J.aload_n 66 dX7_join_66 rfl rfl ?_
        refine V.getR 67 dX7_join_67 fl_RX7_10 r_0_0 ?_
        refine V.getR 70 dX7_join_70 fl_RX7_143 isS_1.r8 ?_
        refine J.iload_n 73 dX7_join_73 rfl rfl ?_
        refine V.iald 74 dX7_join_74 isS_1.a8 (by omega) ?_
        exact V.iret 75 dX7_join_75 (⟨by unfold F_join; rw [if_neg (fun z => z c8), ix_nI hc hn, if_neg (fun z => z.elim hst (fun z => by omega)), (h63.1.2.2.1 c hc).1, jrA_at _ _ _ _ (by omega)]; unfold jnW; rw [upd_ne _ _ (by omega), upd_ne _ _ (by omega), upd_self], by unfold F_join; rw [if_neg (fun z => z c8), ix_nI hc hn, if_neg (fun z => z.elim hst (fun z => by omega))]; exact (hM1.set (E := B + 9999) (by omega) h63.2 (fun k h1 h2 => by rw [jrA_at _ _ _ _ (by omega), jnW_at _ (by omega) (by omega) (by omega)]) (h63.1.cg hn hma (jr_cg hma (by omega) (fun k hk => hrow k (by omega)))) ((Wf_jn hW hc).cg9 (jr_cg hma (by omega) (fun k hk => hrow k (by omega)))) ((hBn.jo hW hc (by omega) c37).cg hn (fun k hk => jr_cg hma (by omega) (fun k hk => hrow k (by omega)) k (by omega)))).x (by omega), (h63.2.rq (by decide)).trans (hq1.trans hf34.rq)⟩)
      · refine J.ldc 40 (-1000000003) dX7_join_40 kc_RX7_220 ?_
        exact V.iret 42 dX7_join_42 (by first | (unfold F_join; rw [if_neg (fun z => z c8), ix_nI hc hn, if_pos (Or.inl ((hW.z (by omega)).2.mpr c22))]; exact ⟨rfl, hM.x (by omega), Rq.rf v⟩) | (unfold F_join; rw [if_neg (fun z => z c8), ix_nI hc hn, if_pos (Or.inr (by omega))]; exact ⟨rfl, hM34.x (by omega), hf34.rq⟩))
  · refine J.ldc 11 (-1000000001) dX7_join_11 kc_RX7_142 ?_
    exact V.iret 13 dX7_join_13 (by unfold F_join; rw [if_pos c8]; exact ⟨rfl, hM.x (by omega), Rq.rf v⟩)
set_option maxHeartbeats 1000000 in
set_option maxRecDepth 100000 in
theorem q_alarm (w : Wd) (v : Vm2) {b : Vm2} {n f ma K nx s wr a0 B : Nat} (hM : Mr v b n f ma K nx s wr a0 B) (hB : B ≤ 100000000) {c x : Int32} : CI w yX7_alarm cX7_alarm 3 (some .int) (rm 3 82) [.ref (wN w + 0), .int c, .int x] v (fun r v' => r = (F_alarm b n K ma c x).1 ∧ MR v' (F_alarm b n K ma c x).2 (B + 160000) ∧ Rq v' v) := by
  have hR := hM.1.1
  have hW := hM.1.2.1
  have hBn := hM.1.2.2
  have hn := hW.2.1
  have hf3 := hW.2.2.2.1
  have hma := hW.2.2.2.2.2.2.1
  have hnx := hM.2.1.2.1
  have hK := hM.2.1.2.2.2.1
  refine CI.of (by decide) (Nat.le_of_ble_eq_true rfl) ?_
  refine J.aload_n 0 dX7_alarm_0 rfl rfl ?_
  refine V.getR 1 dX7_alarm_1 fl_RX7_10 r_0_0 ?_
  refine J.iload_n 4 dX7_alarm_4 rfl rfl ?_
  refine V.callvP 5 dX7_alarm_5 ml_RX7_138 mi_yX5_has mv_yX5_has (c_X5_has w _ isS_1 _ (hR.1.1.trans hW.1) (by omega)) rfl rfl (Nat.le_of_ble_eq_true rfl) (by decide) (by decide) isS_1.o rfl rfl ?_
  refine V.if_neB 8 14 dX7_alarm_8 (by decide) (fun c8 => ?_) (fun c8 => ?_)
  · obtain ⟨c, hc, rfl⟩ := (clkB_nI (by omega)).mp c8
    refine J.iload_n 14 dX7_alarm_14 rfl rfl ?_
    refine J.iconst 15 (nI 0) dX7_alarm_15 (by decide +kernel) ?_
    refine J.ldc 16 (999999) dX7_alarm_16 kc_RX7_229 (J.top (b := nI 999999) (by decide +kernel) ?_)
    refine V.callsP 18 dX7_alarm_18 ml_RX7_66 mi_yX7_between ms_yX7_between (c_X7_between w _) rfl rfl (Nat.le_of_ble_eq_true rfl) (by decide) (by decide) ?_
    refine V.if_neB 21 27 dX7_alarm_21 (by decide) (fun c21 => ?_) (fun c21 => ?_)
    · refine J.aload_n 27 dX7_alarm_27 rfl rfl ?_
      refine V.getR 28 dX7_alarm_28 fl_RX7_10 r_0_0 ?_
      refine V.getI 31 dX7_alarm_31 fl_RX7_125 isS_1.i5 ?_
      refine J.top (b := nI ma) (hR.1.2.2.2.1.trans hW.2.2.2.2.2.1) ?_
      refine J.bipush 34 (nI 6) dX7_alarm_34 (by decide +kernel) ?_
      refine V.icmp_lt 36 42 dX7_alarm_36 (by decide) (by omega) (by omega) (fun c36 => ?_) (fun c36 => ?_)
      · refine J.aload_n 42 dX7_alarm_42 rfl rfl ?_
        refine V.getR 43 dX7_alarm_43 fl_RX7_36 r_0_4 ?_
        refine J.aload_n 46 dX7_alarm_46 rfl rfl ?_
        refine V.getR 47 dX7_alarm_47 fl_RX7_10 r_0_0 ?_
        refine V.callvU 50 dX7_alarm_50 ml_RX7_206 mi_yX4_remember mv_yX4_remember (c_X4_remember w _ hM.2.1.1 hM.2.1.2.1 hM.2.1.2.2.1 hM.2.1.2.2.2.1 isS_1 (by decide)) rfl rfl (Nat.le_of_ble_eq_true rfl) (by decide) (by decide) o_25 rfl rfl (fun v50 h50 => ?_)
        obtain ⟨u9, hu9, hv9⟩ := h50
        have hM1 : Mr v50 (rmF b K) n f ma (nK K) ((nx + 1) % 16) s wr a0 B := by rw [hv9]; exact hM.rem hu9
        have hq1 : Rq v50 v := by rw [hv9]; exact ((hu9.rq (by omega)).up (by omega)).up (by omega)
        have hR1 := hM1.1.1
        have hW1 := hM1.1.2.1
        have hB1 := hM1.1.2.2
        have hrow := rmF_row b hK
        refine J.aload_n 53 dX7_alarm_53 rfl rfl ?_
        refine V.getR 54 dX7_alarm_54 fl_RX7_10 r_0_0 ?_
        refine J.iload_n 57 dX7_alarm_57 rfl rfl ?_
        refine J.iload_n 58 dX7_alarm_58 rfl rfl ?_
        refine V.callv 59 dX7_alarm_59 ml_RX7_230 mi_yX5_setAlarm mv_yX5_setAlarm (c_X5_setAlarm w _ isS_1 hR1 hW1 (by omega) hc) rfl rfl (Nat.le_of_ble_eq_true rfl) (by decide) (by decide) isS_1.o rfl rfl (fun r59 v59 h59 => ?_)
        exact V.iret 62 dX7_alarm_62 (⟨by unfold F_alarm; rw [if_neg (fun z => z c8), if_neg (fun z => z c21), if_neg (by omega)]; exact h59.1, by unfold F_alarm; rw [if_neg (fun z => z c8), if_neg (fun z => z c21), if_neg (by omega), alW_eq hK (by omega)]; exact (hM1.set (Nat.le_refl B) h59.2.2.q (fun k h1 h2 => alS_at _ (by omega) (by omega) (by omega) (by omega)) h59.2.1 (Wf_al hW1 (by omega) hc) (hB1.cg hn (fun k hk => alS_at _ (by omega) (by omega) (by omega) (by omega)))).x (by omega), (h59.2.2.rq (by decide)).trans hq1⟩)
      · refine J.ldc 39 (-1000000004) dX7_alarm_39 kc_RX7_75 ?_
        exact V.iret 41 dX7_alarm_41 (by unfold F_alarm; rw [if_neg (fun z => z c8), if_neg (fun z => z c21), if_pos (by omega)]; exact ⟨rfl, hM.x (by omega), Rq.rf v⟩)
    · refine J.ldc 24 (-1000000002) dX7_alarm_24 kc_RX7_70 ?_
      exact V.iret 26 dX7_alarm_26 (by unfold F_alarm; rw [if_neg (fun z => z c8), if_pos c21]; exact ⟨rfl, hM.x (by omega), Rq.rf v⟩)
  · refine J.ldc 11 (-1000000001) dX7_alarm_11 kc_RX7_142 ?_
    exact V.iret 13 dX7_alarm_13 (by unfold F_alarm; rw [if_pos c8]; exact ⟨rfl, hM.x (by omega), Rq.rf v⟩)
set_option maxHeartbeats 1000000 in
set_option maxRecDepth 100000 in
theorem q_tickN (w : Wd) (v : Vm2) {b : Vm2} {n f ma K nx s wr a0 B : Nat} (hM : Mr v b n f ma K nx s wr a0 B) (hB : B ≤ 100000000) {t : Nat} (ht : t ≤ 20) (hin : inF (nI t) (nI 1) (nI 20)) : CI w yX7_tick cX7_tick 4 (some .int) (rm 3 82) [.ref (wN w + 0), .int (nI t)] v (fun r v' => r = (F_tick b n K ma (nI t)).1 ∧ MR v' (F_tick b n K ma (nI t)).2 (B + 160000) ∧ Rq v' v) := by
  have hR := hM.1.1
  have hW := hM.1.2.1
  have hBn := hM.1.2.2
  have hn := hW.2.1
  have hf3 := hW.2.2.2.1
  have hma := hW.2.2.2.2.2.2.1
  have hnx := hM.2.1.2.1
  have hK := hM.2.1.2.2.2.1
  refine CI.of (by decide) (Nat.le_of_ble_eq_true rfl) ?_
  have K28 : ∀ v21 : Vm2, Mr v21 (rmF b K) n f ma (nK K) ((nx + 1) % 16) s wr a0 B → Rq v21 v → J w yX7_tick cX7_tick 4 (some .int) (rm 3 82) XT (ZJ w 185 0 0 (PI w (fun r v' => r = (F_tick b n K ma (nI t)).1 ∧ MR v' (F_tick b n K ma (nI t)).2 (B + 160000) ∧ Rq v' v))) 28 [(0, .ref (wN w + 0)), (1, .int (nI t)), (2, .int (nI 0)), (3, .int (nI 0))] [] 185 (hv w (v21)) 0 0 := by
    intro v21 hM1 hq1
    have hR1 := hM1.1.1
    have hW1 := hM1.1.2.1
    have hB1 := hM1.1.2.2
    have lp : ∀ (m : Nat) (k : Nat) (u : Vm2), (k ≤ t) → (RepS u 1 (tkN ((rmF b K) 179) n ma k) n ma) → (FrS u v21 1) → t - k < m → J w yX7_tick cX7_tick 4 (some .int) (rm 3 82) XT (ZJ w 185 0 0 (PI w (fun r v' => r = (F_tick b n K ma (nI t)).1 ∧ MR v' (F_tick b n K ma (nI t)).2 (B + 160000) ∧ Rq v' v))) 28 [(0, .ref (wN w + 0)), (1, .int (nI t)), (2, .int (BM (nwT ((rmF b K) 179) (tkN ((rmF b K) 179) n ma k) ma))), (3, .int (nI k))] [] 185 (hv w (u)) 0 0 := by
      intro m
      induction m with
      | zero =>
        intro k u hi0 hi1 hi2 hm
        exact absurd hm (by omega)
      | succ m ih =>
        intro k u hi0 hi1 hi2 hm
        refine J.iload_n 28 dX7_tick_28 rfl rfl ?_
        refine J.iload_n 29 dX7_tick_29 rfl rfl ?_
        refine V.icmp_ge 30 49 dX7_tick_30 (by decide) (by omega) (by omega) (fun c30 => ?_) (fun c30 => ?_)
        · refine J.iload_n 49 dX7_tick_49 rfl rfl ?_
          obtain rfl : k = t := by omega
          exact V.iret 50 dX7_tick_50 (⟨by unfold F_tick; rw [if_neg (fun z => z hin), show ix (nI k) = k from nI_clamp (by omega)]; exact nw_rs hW1, by unfold F_tick; rw [if_neg (fun z => z hin), show ix (nI k) = k from nI_clamp (by omega)]; exact (hM1.set (E := B + 110 * k) (by omega) hi2.q (fun j h1 h2 => tkN_at _ hn (by omega) (by omega) (by omega) k) hi1 (tkN_W hW1 k) (tkN_B hB1 hW1 hB k (by omega))).x (by omega), (hi2.rq (by decide)).trans hq1⟩)
        · refine J.iload_n 33 dX7_tick_33 rfl rfl ?_
          refine J.aload_n 34 dX7_tick_34 rfl rfl ?_
          refine V.getR 35 dX7_tick_35 fl_RX7_10 r_0_0 ?_
          refine V.callv 38 dX7_tick_38 ml_RX7_209 mi_yX5_goOn mv_yX5_goOn (c_X5_goOn w _ isS_1 hi1 (tkN_W hW1 k)) rfl rfl (Nat.le_of_ble_eq_true rfl) (by decide) (by decide) isS_1.o rfl rfl (fun r38 v38 h38 => ?_)
          obtain ⟨rfl, h38a, h38b⟩ := h38
          refine J.ior 41 dX7_tick_41 ?_
          refine J.top (nw_st hW1) ?_
          refine J.istore_n 42 dX7_tick_42 rfl (by decide) ?_
          refine V.iinc 43 dX7_tick_43 rfl (by decide) ?_
          refine J.goto 46 28 dX7_tick_46 (by decide) ?_
          exact ih (k + 1) v38 (by omega) h38a (h38b.trans hi2) (by omega)
    have q9 := lp (t + 1) 0 v21 (by omega) hR1 (FrS.rf v21 1) (by omega)
    rw [show BM (nwT ((rmF b K) 179) (tkN ((rmF b K) 179) n ma 0) ma) = nI 0 from nw_0.symm] at q9
    exact q9
  refine J.iload_n 0 dX7_tick_0 rfl rfl ?_
  refine J.iconst 1 (nI 1) dX7_tick_1 (by decide +kernel) ?_
  refine J.bipush 2 (nI 20) dX7_tick_2 (by decide +kernel) ?_
  refine V.callsP 4 dX7_tick_4 ml_RX7_66 mi_yX7_between ms_yX7_between (c_X7_between w _) rfl rfl (Nat.le_of_ble_eq_true rfl) (by decide) (by decide) ?_
  refine V.if_neB 7 13 dX7_tick_7 (by decide) (fun c7 => ?_) (fun c7 => absurd hin c7)
  refine J.aload_n 13 dX7_tick_13 rfl rfl ?_
  refine V.getR 14 dX7_tick_14 fl_RX7_36 r_0_4 ?_
  refine J.aload_n 17 dX7_tick_17 rfl rfl ?_
  refine V.getR 18 dX7_tick_18 fl_RX7_10 r_0_0 ?_
  refine V.callvU 21 dX7_tick_21 ml_RX7_206 mi_yX4_remember mv_yX4_remember (c_X4_remember w _ hM.2.1.1 hM.2.1.2.1 hM.2.1.2.2.1 hM.2.1.2.2.2.1 isS_1 (by decide)) rfl rfl (Nat.le_of_ble_eq_true rfl) (by decide) (by decide) o_25 rfl rfl (fun v21 h21 => ?_)
  obtain ⟨u9, hu9, hv9⟩ := h21
  have hM1 : Mr v21 (rmF b K) n f ma (nK K) ((nx + 1) % 16) s wr a0 B := by rw [hv9]; exact hM.rem hu9
  have hq1 : Rq v21 v := by rw [hv9]; exact ((hu9.rq (by omega)).up (by omega)).up (by omega)
  have hR1 := hM1.1.1
  have hW1 := hM1.1.2.1
  have hB1 := hM1.1.2.2
  have hrow := rmF_row b hK
  refine J.iconst 24 (nI 0) dX7_tick_24 (by decide +kernel) ?_
  refine J.istore_n 25 dX7_tick_25 rfl (by decide) ?_
  refine J.iconst 26 (nI 0) dX7_tick_26 (by decide +kernel) ?_
  refine J.istore_n 27 dX7_tick_27 rfl (by decide) ?_
  exact K28 _ hM1 hq1
set_option maxHeartbeats 1000000 in
set_option maxRecDepth 100000 in
theorem q_tickO (w : Wd) (v : Vm2) {b : Vm2} {n f ma K nx s wr a0 B : Nat} (hM : Mr v b n f ma K nx s wr a0 B) (hB : B ≤ 100000000) {x : Int32} (hx : ¬ inF x (nI 1) (nI 20)) : CI w yX7_tick cX7_tick 4 (some .int) (rm 3 82) [.ref (wN w + 0), .int x] v (fun r v' => r = (F_tick b n K ma x).1 ∧ MR v' (F_tick b n K ma x).2 (B + 160000) ∧ Rq v' v) := by
  have hR := hM.1.1
  have hW := hM.1.2.1
  have hBn := hM.1.2.2
  have hn := hW.2.1
  have hf3 := hW.2.2.2.1
  have hma := hW.2.2.2.2.2.2.1
  have hnx := hM.2.1.2.1
  have hK := hM.2.1.2.2.2.1
  refine CI.of (by decide) (Nat.le_of_ble_eq_true rfl) ?_
  refine J.iload_n 0 dX7_tick_0 rfl rfl ?_
  refine J.iconst 1 (nI 1) dX7_tick_1 (by decide +kernel) ?_
  refine J.bipush 2 (nI 20) dX7_tick_2 (by decide +kernel) ?_
  refine V.callsP 4 dX7_tick_4 ml_RX7_66 mi_yX7_between ms_yX7_between (c_X7_between w _) rfl rfl (Nat.le_of_ble_eq_true rfl) (by decide) (by decide) ?_
  refine V.if_neB 7 13 dX7_tick_7 (by decide) (fun c7 => absurd c7 hx) (fun c7 => ?_)
  refine J.ldc 10 (-1000000002) dX7_tick_10 kc_RX7_70 ?_
  exact V.iret 12 dX7_tick_12 (by unfold F_tick; rw [if_pos hx]; exact ⟨rfl, hM.x (by omega), Rq.rf v⟩)
