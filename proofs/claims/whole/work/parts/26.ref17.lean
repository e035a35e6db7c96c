/-! ===== part 26: the reference: drift ===== -/
def AgW (f g : Nat → Int32) : Prop := ∀ b, b < 3648 → f b = g b
theorem AgW.ag {f g : Nat → Int32} (h : AgW f g) : Ag f g := fun k hk => h k (by omega)
theorem AgW.upd {f g : Nat → Int32} (h : AgW f g) (k : Nat) (x : Int32) : AgW (upd f k x) (upd g k x) := by
  intro b hb
  by_cases e : b = k
  · rw [e, upd_self, upd_self]
  · rw [upd_ne _ _ e, upd_ne _ _ e]
    exact h b hb
theorem stF9_c {f g : Nat → Int32} (h : Ag f g) {c : Nat} (hc : c < 8) : stF9 f c = stF9 g c := by
  unfold stF9
  rw [h _ (by omega), h _ (by omega)]
theorem tkC_c {f g : Nat → Int32} (h : AgW f g) {c : Nat} (hc : c < 8) : AgW (tkC f c) (tkC g c) := by
  unfold tkC
  by_cases h0 : f (35 + c) = 0
  · rw [if_pos h0, if_pos ((h _ (by omega)).symm.trans h0)]
    rw [upd_ne _ _ (by omega), upd_ne _ _ (by omega), stF9_c h.ag hc, h (3 + c) (by omega), h (11 + c) (by omega), h (19 + c) (by omega)]
    exact (h.upd _ _).upd _ _
  · rw [if_neg h0, if_neg (fun z => h0 ((h _ (by omega)).trans z))]
    exact h
theorem tkA_c {f g : Nat → Int32} (h : AgW f g) : ∀ n, n ≤ 8 → AgW (tkA f n) (tkA g n)
  | 0, _ => h
  | n + 1, hn => tkC_c (tkA_c h n (by omega)) (by omega)
/-- the alarms' clocks are clocks -/
def AlO (f : Nat → Int32) (ma : Nat) : Prop := ∀ b, b < ma → ∃ cl, cl < 8 ∧ f (172 + b) = nI cl
theorem rgC_c {f g : Nat → Int32} (h : AgW f g) {a : Nat} (ha : a < 6) (hA : ∃ cl, cl < 8 ∧ f (172 + a) = nI cl) : AgW (rgC f a) (rgC g a) := by
  obtain ⟨cl, hcl, e⟩ := hA
  unfold rgC
  rw [← h (172 + a) (by omega), e, nI_clamp (by omega), ← h (35 + cl) (by omega), ← h (178 + a) (by omega), ← h (3 + cl) (by omega), ← h (184 + a) (by omega)]
  exact h.upd _ _
theorem rgA_c {f g : Nat → Int32} (h : AgW f g) {ma : Nat} (hA : AlO f ma) : ∀ m, m ≤ ma → m ≤ 6 → AgW (rgA f m) (rgA g m)
  | 0, _, _ => h
  | m + 1, h1, h2 => rgC_c (rgA_c h hA m (by omega) (by omega)) (by omega) (by
      obtain ⟨cl, hcl, e⟩ := hA m (by omega)
      exact ⟨cl, hcl, by rw [rgA_at _ _ _ (by omega)]; exact e⟩)
theorem tkF_c {f g : Nat → Int32} (h : AgW f g) {n ma : Nat} (hn : n ≤ 8) (hma : ma ≤ 6) (hA : AlO f ma) : AgW (tkF f n ma) (tkF g n ma) := by
  unfold tkF
  have h1 := tkA_c h n hn
  rw [h1 190 (by decide)]
  exact rgA_c (h1.upd _ _) (fun b hb => by
    obtain ⟨cl, hcl, e⟩ := hA b hb
    exact ⟨cl, hcl, by rw [upd_ne _ _ (by omega), tkA_at _ _ _ (by omega) (by omega)]; exact e⟩) ma (Nat.le_refl _) hma
theorem rnW_c {f g : Nat → Int32} (h : AgW f g) {n s : Nat} (hn : n ≤ 8) : AgW (rnW f 0 n n (rdF f n s)) (rnW g 0 n n (rdF g n s)) := by
  intro b hb
  unfold rnW
  by_cases hc : 0 + 19 ≤ b ∧ b < 0 + 19 + n
  · rw [if_pos hc, if_pos hc]
    exact rdF_c h.ag hn (by omega)
  · rw [if_neg hc, if_neg hc]
    exact h b hb
theorem tmW_c {f g : Nat → Int32} (h : AgW f g) {n a : Nat} : AgW (tmW f n a) (tmW g n a) := by
  unfold tmW
  by_cases hc : drN a n = drN (sdN a) n
  · rw [if_pos hc, if_pos hc]
    exact h.upd _ _
  · rw [if_neg hc, if_neg hc]
    exact ((h.upd _ _).upd _ _).upd _ _
theorem tmF_c {f g : Nat → Int32} (h : AgW f g) {n s ma a : Nat} (h0 : 0 < n) (hn : n ≤ 8) (hma : ma ≤ 6) (hA : AlO f ma) : AgW (tmF f n s ma a) (tmF g n s ma a) := by
  unfold tmF
  by_cases hc : drN (sdN (sdN (sdN (sdN a)))) 3 = 0
  · rw [if_pos hc, if_pos hc]
    exact rnW_c (tmW_c h) hn
  · rw [if_neg hc, if_neg hc]
    exact tkF_c (tmW_c h) hn hma (fun b hb => by
      obtain ⟨cl, hcl, e⟩ := hA b hb
      exact ⟨cl, hcl, by rw [tmW_at _ h0 hn (by omega)]; exact e⟩)
theorem tmF_at (f : Nat → Int32) {n s ma a k : Nat} (h0 : 0 < n) (hn : n ≤ 8) (hk : k < 3 ∨ (27 ≤ k ∧ k < 43) ∨ (171 ≤ k ∧ k < 184)) : tmF f n s ma a k = f k := by
  unfold tmF
  split
  · rw [rnW_at _ (by omega), tmW_at _ h0 hn (by omega)]
  · rw [tkF_at _ hn (by omega) (by omega) (by omega), tmW_at _ h0 hn (by omega)]
theorem tmF_s (f : Nat → Int32) {n s ma a : Nat} (h0 : 0 < n) (hn : n ≤ 8) (hma : ma ≤ 6) : tmF f n s ma a 191 = nI (sd5 a) := by
  have j1 := drN_lt (a := a) h0
  have j2 := drN_lt (a := sdN a) h0
  have e : tmW f n a 191 = nI (sd5 a) := by
    unfold tmW
    split
    · rw [upd_self]
    · rw [upd_ne _ _ (by omega), upd_ne _ _ (by omega), upd_self]
  unfold tmF
  split
  · rw [rnW_at _ (by omega), e]
  · rw [tkF_at _ hn (by omega) (by omega) (by omega), e]
theorem EqR.up {u v : Vm2} (h : EqR u v) (k i : Nat) (x : Int32) : EqR (up2 u k i x) (up2 v k i x) := by
  refine ⟨fun c c1 c2 c3 c4 => ?_, fun b hb => ?_, fun j hj => ?_⟩
  · funext b
    have := congrFun (h.1 c c1 c2 c3 c4) b
    unfold up2
    split
    · rfl
    · exact this
  · unfold up2
    split
    · rfl
    · exact h.2.1 b hb
  · unfold up2
    split
    · rfl
    · exact h.2.2 j hj
theorem EqR.cp {u v : Vm2} (h : EqR u v) (x y : Nat) (hx : x + 192 ≤ 3648) : EqR (cpR u x y) (cpR v x y) := by
  refine ⟨fun c c1 c2 c3 c4 => ?_, fun b hb => ?_, fun j hj => ?_⟩
  · funext b
    have := congrFun (h.1 c c1 c2 c3 c4) b
    show cpK u x y 192 c b = cpK v x y 192 c b
    unfold cpK
    split
    · rename_i q
      exact h.2.1 _ (by omega)
    · exact this
  · show cpK u x y 192 179 b = cpK v x y 192 179 b
    unfold cpK
    split
    · rename_i q
      exact h.2.1 _ (by omega)
    · exact h.2.1 b hb
  · show cpK u x y 192 178 j = cpK v x y 192 178 j
    unfold cpK
    split
    · rename_i q
      exact h.2.1 _ (by omega)
    · exact h.2.2 j hj
theorem EqR.sh {u v : Vm2} (h : EqR u v) (k : Nat) (hk : k ≤ 17) : EqR (shK u k) (shK v k) := by
  refine ⟨fun c c1 c2 c3 c4 => ?_, fun b hb => ?_, fun j hj => ?_⟩
  · funext b
    have := congrFun (h.1 c c1 c2 c3 c4) b
    unfold shK
    split
    · rename_i q
      exact h.2.1 _ (by omega)
    · exact this
  · unfold shK
    split
    · rename_i q
      exact h.2.1 _ (by omega)
    · exact h.2.1 b hb
  · unfold shK
    split
    · rename_i q
      exact h.2.1 _ (by omega)
    · exact h.2.2 j hj
theorem rmF_c {u v : Vm2} (h : EqR u v) {K : Nat} (hK : K ≤ 16) : EqR (rmF u K) (rmF v K) := by
  unfold rmF
  split
  · exact (((h.sh 16 (by decide)).up _ _ _).cp _ _ (by decide)).up _ _ _
  · exact (h.cp _ _ (by decide)).up _ _ _
def nK (K : Nat) : Nat := if K = 16 then 16 else K + 1
theorem rmF_k (v : Vm2) (K : Nat) : (rmF v K) 178 1 = nI (nK K) := by
  unfold rmF nK
  split <;> rw [up2_self]
/-- one time by draws -/
def dr1 (v : Vm2) (n f ma K a : Nat) : Vm2 := upR (rmF v K) 179 (tmF ((rmF v K) 179) n f ma a)
def drG (st : Vm2 → Nat → Nat → Vm2) (nk sd : Nat → Nat) : Nat → Vm2 → Nat → Nat → Vm2
  | 0, v, _, _ => v
  | t + 1, v, K, a => drG st nk sd t (st v K a) (nk K) (sd a)
theorem drG_s (st : Vm2 → Nat → Nat → Vm2) (nk sd : Nat → Nat) (t : Nat) (v : Vm2) (K a : Nat) : drG st nk sd (t + 1) v K a = drG st nk sd t (st v K a) (nk K) (sd a) := rfl
theorem drG_0 (st : Vm2 → Nat → Nat → Vm2) (nk sd : Nat → Nat) (v : Vm2) (K a : Nat) : drG st nk sd 0 v K a = v := rfl
def drV (n f ma : Nat) : Nat → Vm2 → Nat → Nat → Vm2 := drG (fun v K a => dr1 v n f ma K a) nK sd5
theorem drV_s (n f ma t : Nat) (v : Vm2) (K a : Nat) : drV n f ma (t + 1) v K a = drV n f ma t (dr1 v n f ma K a) (nK K) (sd5 a) := by
  unfold drV
  rw [drG_s]
theorem drV_0 (n f ma : Nat) (v : Vm2) (K a : Nat) : drV n f ma 0 v K a = v := by
  unfold drV
  rw [drG_0]
def F_drift (v : Vm2) (n f ma K a : Nat) (x : Int32) : Int32 × Vm2 := if ¬ inF x (nI 1) (nI 16) then (OU, v) else if n = 0 then (apF (v 179) n, v) else (apF ((drV n f ma (ix x) v K a) 179) n, drV n f ma (ix x) v K a)
/-- what drift needs of the memory -/
def DrI (v : Vm2) (n f ma K a : Nat) : Prop := v 179 0 = nI n ∧ v 179 1 = nI f ∧ v 179 171 = nI ma ∧ AlO (v 179) ma ∧ v 178 1 = nI K ∧ v 179 191 = nI a ∧ K ≤ 16 ∧ a < 2 ^ 31
theorem sd5_lt (a : Nat) : sd5 a < 2 ^ 31 := sdN_lt _
theorem DrI.step {v : Vm2} {n f ma K a : Nat} (h : DrI v n f ma K a) (h0 : 0 < n) (hn : n ≤ 8) (hma : ma ≤ 6) : DrI (dr1 v n f ma K a) n f ma (nK K) (sd5 a) := by
  obtain ⟨h1, h2, h3, h4, h5, h6, h7, h8⟩ := h
  have hag := rmF_row v h7
  unfold dr1
  refine ⟨?_, ?_, ?_, ?_, ?_, ?_, ?_, sd5_lt a⟩
  · rw [upR_self, tmF_at _ h0 hn (by omega), hag _ (by omega)]; exact h1
  · rw [upR_self, tmF_at _ h0 hn (by omega), hag _ (by omega)]; exact h2
  · rw [upR_self, tmF_at _ h0 hn (by omega), hag _ (by omega)]; exact h3
  · intro b hb
    obtain ⟨cl, hcl, e⟩ := h4 b hb
    exact ⟨cl, hcl, by rw [upR_self, tmF_at _ h0 hn (by omega), hag _ (by omega)]; exact e⟩
  · rw [upR_ne _ _ (by decide)]; exact rmF_k v K
  · rw [upR_self, tmF_s _ h0 hn hma]
  · unfold nK; split <;> omega
theorem DrI.eq {u v : Vm2} {n f ma K a : Nat} (h : DrI v n f ma K a) (he : EqR u v) (hma : ma ≤ 6) : DrI u n f ma K a := by
  obtain ⟨h1, h2, h3, h4, h5, h6, h7, h8⟩ := h
  exact ⟨(he.2.1 0 (by decide)).trans h1, (he.2.1 1 (by decide)).trans h2, (he.2.1 171 (by decide)).trans h3, fun b hb => by
    obtain ⟨cl, hcl, e⟩ := h4 b hb
    exact ⟨cl, hcl, (he.2.1 _ (by omega)).trans e⟩, (he.2.2 1 (by decide)).trans h5, (he.2.1 191 (by decide)).trans h6, h7, h8⟩
theorem dr1_c {u v : Vm2} (h : EqR u v) {n f ma K a : Nat} (h0 : 0 < n) (hn : n ≤ 8) (hma : ma ≤ 6) (hK : K ≤ 16) (hA : AlO (v 179) ma) : EqR (dr1 u n f ma K a) (dr1 v n f ma K a) := by
  have hr := rmF_c h hK
  unfold dr1
  refine ⟨fun c c1 c2 c3 c4 => ?_, fun b hb => ?_, fun i hi => ?_⟩
  · rw [upR_ne _ _ c2, upR_ne _ _ c2]
    exact hr.1 c c1 c2 c3 c4
  · rw [upR_self, upR_self]
    refine tmF_c (fun b hb => hr.2.1 b hb) h0 hn hma (fun b hb => ?_) b hb
    obtain ⟨cl, hcl, e⟩ := hA b hb
    exact ⟨cl, hcl, by rw [rmF_row u hK _ (by omega), h.2.1 _ (by omega)]; exact e⟩
  · rw [upR_ne _ _ (by decide), upR_ne _ _ (by decide)]
    exact hr.2.2 i hi

set_option maxHeartbeats 4000000 in
set_option maxRecDepth 100000 in
theorem p_driftN (w : Wd) (v : Vm2) {n f ma K a t : Nat} (hD0 : DrI v n f ma K a) (h0 : 0 < n) (hn : n ≤ 8) (hf3 : f < 4) (hma : ma ≤ 6) (ht1 : 1 ≤ t) (ht2 : t ≤ 16) : CI w yX8_drift cX8_drift 3 (some .int) (rm 5 116) [.ref (wN w + 178), .int (nI t)] v (fun r v' => r = (F_drift v n f ma K a (nI t)).1 ∧ EqR v' (F_drift v n f ma K a (nI t)).2) := by
  have hin : inF (nI t) (nI 1) (nI 16) := ⟨nI_le ht1 (by omega), nI_le ht2 (by decide)⟩
  refine CI.of (by decide) (Nat.le_of_ble_eq_true rfl) ?_
  have lp : ∀ (m : Nat) (k Kk ak : Nat) (u v9 : Vm2), (k ≤ t) → (EqR u v9) → (DrI v9 n f ma Kk ak) → (drV n f ma (t - k) v9 Kk ak = drV n f ma t v K a) → t - k < m → J w yX8_drift cX8_drift 3 (some .int) (rm 5 116) XT (ZJ w 185 0 0 (PI w (fun r v' => r = (F_drift v n f ma K a (nI t)).1 ∧ EqR v' (F_drift v n f ma K a (nI t)).2))) 15 [(0, .ref (wN w + 178)), (1, .int (nI t)), (2, .int (nI k))] [] 185 (hv w (u)) 0 0 := by
    intro m
    induction m with
    | zero =>
      intro k Kk ak u v9 hi0 hi1 hi2 hi3 hm
      exact absurd hm (by omega)
    | succ m ih =>
      intro k Kk ak u v9 hi0 hi1 hi2 hi3 hm
      have hD : DrI u n f ma Kk ak := hi2.eq hi1 hma
      have hD9 := hi2
      refine J.iload_n 15 dX8_drift_15 rfl rfl ?_
      refine J.iload_n 16 dX8_drift_16 rfl rfl ?_
      refine V.icmp_ge 17 43 dX8_drift_17 (by decide) (by omega) (by omega) (fun c17 => ?_) (fun c17 => ?_)
      · refine J.aload_n 43 dX8_drift_43 rfl rfl ?_
        refine J.iconst 44 (nI 0) dX8_drift_44 (by decide +kernel) ?_
        refine V.callvP 45 dX8_drift_45 ml_RX8_123 mi_yX8_apart mv_yX8_apart (c_X8_apart w _ (by decide) hD.1 (by omega)) rfl rfl (Nat.le_of_ble_eq_true rfl) (by decide) (by decide) o_178 rfl rfl ?_
        rw [ro_zero]
        rw [show t - k = 0 by omega, drV_0] at hi3
        exact V.iret 48 dX8_drift_48 (by unfold F_drift; rw [if_neg (fun z => z hin), if_neg (by omega), show ix (nI t) = t from nI_clamp (by omega), ← hi3]; exact ⟨apF_c hi1.ag hn, hi1⟩)
      · refine J.aload_n 20 dX8_drift_20 rfl rfl ?_
        refine V.getR 21 dX8_drift_21 fl_RX8_7 r_178_0 ?_
        refine J.iconst 24 (nI 0) dX8_drift_24 (by decide +kernel) ?_
        refine V.iald 25 dX8_drift_25 a_179 (by omega) ?_
        refine J.top hD.1 ?_
        refine V.if_le 26 43 dX8_drift_26 (by decide) (by omega) (fun c26 => absurd c26 (by omega)) (fun c26 => ?_)
        refine J.aload_n 29 dX8_drift_29 rfl rfl ?_
        refine V.callvU 30 dX8_drift_30 ml_RX8_166 mi_yX8_remember mv_yX8_remember (k_remember w u hD.2.2.2.2.1 hD.2.2.2.2.2.2.1) rfl rfl (Nat.le_of_ble_eq_true rfl) (by decide) (by decide) o_178 rfl rfl (fun vr hr => ?_)
        subst hr
        have hag := rmF_row u hD.2.2.2.2.2.2.1
        refine J.aload_n 33 dX8_drift_33 rfl rfl ?_
        refine V.callvU 34 dX8_drift_34 ml_RX8_190 mi_yX8_time mv_yX8_time (c_X8_time w _ (n := n) (f := f) (ma := ma) (a := ak) ((hag 0 (by decide)).trans hD.1) ((hag 1 (by decide)).trans hD.2.1) h0 hn (by omega) ((hag 171 (by decide)).trans hD.2.2.1) hma (fun b hb => by obtain ⟨cl, hcl, e⟩ := hD.2.2.2.1 b hb; exact ⟨cl, hcl, by rw [hag _ (by omega)]; exact e⟩) ((hag 191 (by decide)).trans hD.2.2.2.2.2.1) hD.2.2.2.2.2.2.2) rfl rfl (Nat.le_of_ble_eq_true rfl) (by decide) (by decide) o_178 rfl rfl (fun vt ht => ?_)
        have hE2 : EqR vt (dr1 v9 n f ma Kk ak) := (EqR.of_S ht).trans (dr1_c hi1 h0 hn hma hD9.2.2.2.2.2.2.1 hD9.2.2.2.1)
        refine V.iinc 37 dX8_drift_37 rfl (by decide) ?_
        refine J.goto 40 15 dX8_drift_40 (by decide) ?_
        exact ih (k + 1) (nK Kk) (sd5 ak) _ _ (by omega) hE2 (hi2.step h0 hn hma) (by rw [← hi3]; obtain ⟨q, hq⟩ : ∃ q, t - k = q + 1 := ⟨t - k - 1, by omega⟩; rw [hq, show t - (k + 1) = q by omega, drV_s]) (by omega)
  refine J.iload_n 0 dX8_drift_0 rfl rfl ?_
  refine J.iconst 1 (nI 1) dX8_drift_1 (by decide +kernel) ?_
  refine J.bipush 2 (nI 16) dX8_drift_2 (by decide +kernel) ?_
  refine V.callsP 4 dX8_drift_4 ml_RX8_32 mi_yX8_in ms_yX8_in (c_X8_in w _ _ _ _) rfl rfl (Nat.le_of_ble_eq_true rfl) (by decide) (by decide) ?_
  refine V.if_neB 7 13 dX8_drift_7 (by decide) (fun c7 => ?_) (fun c7 => absurd hin c7)
  refine J.iconst 13 (nI 0) dX8_drift_13 (by decide +kernel) ?_
  refine J.istore_n 14 dX8_drift_14 rfl (by decide) ?_
  exact lp (t + 1) 0 K a v v (by omega) (EqR.rf v) hD0 (by rw [Nat.sub_zero]) (by omega)
set_option maxHeartbeats 4000000 in
set_option maxRecDepth 100000 in
theorem p_driftO (w : Wd) (v : Vm2) {n f ma K a : Nat} {x : Int32} (hx : ¬ inF x (nI 1) (nI 16)) : CI w yX8_drift cX8_drift 3 (some .int) (rm 5 116) [.ref (wN w + 178), .int x] v (fun r v' => r = (F_drift v n f ma K a x).1 ∧ EqR v' (F_drift v n f ma K a x).2) := by
  refine CI.of (by decide) (Nat.le_of_ble_eq_true rfl) ?_
  refine J.iload_n 0 dX8_drift_0 rfl rfl ?_
  refine J.iconst 1 (nI 1) dX8_drift_1 (by decide +kernel) ?_
  refine J.bipush 2 (nI 16) dX8_drift_2 (by decide +kernel) ?_
  refine V.callsP 4 dX8_drift_4 ml_RX8_32 mi_yX8_in ms_yX8_in (c_X8_in w _ _ _ _) rfl rfl (Nat.le_of_ble_eq_true rfl) (by decide) (by decide) ?_
  refine V.if_neB 7 13 dX8_drift_7 (by decide) (fun c7 => absurd c7 hx) (fun c7 => ?_)
  refine J.ldc 10 (-1000000002) dX8_drift_10 kc_RX8_36 ?_
  exact V.iret 12 dX8_drift_12 (by unfold F_drift; rw [if_pos hx]; exact ⟨rfl, EqR.rf _⟩)
set_option maxHeartbeats 4000000 in
set_option maxRecDepth 100000 in
theorem p_drift0 (w : Wd) (v : Vm2) {f ma K a t : Nat} (hn0 : v 179 0 = nI 0) (ht1 : 1 ≤ t) (ht2 : t ≤ 16) (hx : inF (nI t) (nI 1) (nI 16)) : CI w yX8_drift cX8_drift 3 (some .int) (rm 5 116) [.ref (wN w + 178), .int (nI t)] v (fun r v' => r = (F_drift v 0 f ma K a (nI t)).1 ∧ EqR v' (F_drift v 0 f ma K a (nI t)).2) := by
  refine CI.of (by decide) (Nat.le_of_ble_eq_true rfl) ?_
  refine J.iload_n 0 dX8_drift_0 rfl rfl ?_
  refine J.iconst 1 (nI 1) dX8_drift_1 (by decide +kernel) ?_
  refine J.bipush 2 (nI 16) dX8_drift_2 (by decide +kernel) ?_
  refine V.callsP 4 dX8_drift_4 ml_RX8_32 mi_yX8_in ms_yX8_in (c_X8_in w _ _ _ _) rfl rfl (Nat.le_of_ble_eq_true rfl) (by decide) (by decide) ?_
  refine V.if_neB 7 13 dX8_drift_7 (by decide) (fun c7 => ?_) (fun c7 => absurd hx c7)
  refine J.iconst 13 (nI 0) dX8_drift_13 (by decide +kernel) ?_
  refine J.istore_n 14 dX8_drift_14 rfl (by decide) ?_
  refine J.iload_n 15 dX8_drift_15 rfl rfl ?_
  refine J.iload_n 16 dX8_drift_16 rfl rfl ?_
  refine V.icmp_ge 17 43 dX8_drift_17 (by decide) (by omega) (by omega) (fun c17 => absurd c17 (by omega)) (fun c17 => ?_)
  refine J.aload_n 20 dX8_drift_20 rfl rfl ?_
  refine V.getR 21 dX8_drift_21 fl_RX8_7 r_178_0 ?_
  refine J.iconst 24 (nI 0) dX8_drift_24 (by decide +kernel) ?_
  refine V.iald 25 dX8_drift_25 a_179 (by omega) ?_
  refine J.top hn0 ?_
  refine V.if_le 26 43 dX8_drift_26 (by decide) (by omega) (fun c26 => ?_) (fun c26 => absurd c26 (by omega))
  refine J.aload_n 43 dX8_drift_43 rfl rfl ?_
  refine J.iconst 44 (nI 0) dX8_drift_44 (by decide +kernel) ?_
  refine V.callvP 45 dX8_drift_45 ml_RX8_123 mi_yX8_apart mv_yX8_apart (c_X8_apart w _ (by decide) hn0 (by omega)) rfl rfl (Nat.le_of_ble_eq_true rfl) (by decide) (by decide) o_178 rfl rfl ?_
  rw [ro_zero]
  exact V.iret 48 dX8_drift_48 (by unfold F_drift; rw [if_neg (fun z => z hx), if_pos rfl]; exact ⟨rfl, EqR.rf _⟩)
theorem p_drift (w : Wd) (v : Vm2) {n f ma K a : Nat} (hD0 : DrI v n f ma K a) (hn : n ≤ 8) (hf3 : f < 4) (hma : ma ≤ 6) {x : Int32} : CI w yX8_drift cX8_drift 3 (some .int) (rm 5 116) [.ref (wN w + 178), .int x] v (fun r v' => r = (F_drift v n f ma K a x).1 ∧ EqR v' (F_drift v n f ma K a x).2) := by
  by_cases hx : inF x (nI 1) (nI 16)
  · obtain ⟨t, h1, h2, rfl⟩ := inF_nI (by decide) (by decide) hx
    rcases Nat.eq_zero_or_pos n with h | h
    · subst h
      exact p_drift0 w v hD0.1 h1 h2 hx
    · exact p_driftN w v hD0 h hn hf3 hma h1 h2
  · exact p_driftO w v hx
