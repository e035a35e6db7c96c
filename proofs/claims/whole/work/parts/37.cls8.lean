/-! ===== part 37: the council: rounds, joining ===== -/
theorem RepS.lie {v : Vm2} {q n ma : Nat} {ρ : Nat → Int32} (h : RepS v q ρ n ma) (hn : n ≤ 8) (hma : ma ≤ 6) {d : Nat} (hd : d < 64) (x : Int32) : RepS (up2 v (q + 4) (d) (x)) q (upd ρ (107 + d) (x)) n ma := by
  obtain ⟨⟨a1, a2, a3, a4, a5⟩, ⟨b1, b2, b3⟩, c1, c2, c3⟩ := h
  refine ⟨⟨?_, ?_, ?_, ?_, ?_⟩, ⟨?_, ?_, ?_⟩, fun k hk => ⟨?_, ?_, ?_⟩, fun k hk => ⟨?_, ?_⟩, fun k hk => ⟨?_, ?_⟩⟩
  · rw [up2_o _ _ (by omega), upd_ne _ _ (by omega)]; exact a1
  · rw [up2_o _ _ (by omega), upd_ne _ _ (by omega)]; exact a2
  · rw [up2_o _ _ (by omega), upd_ne _ _ (by omega)]; exact a3
  · rw [up2_o _ _ (by omega), upd_ne _ _ (by omega)]; exact a4
  · rw [up2_o _ _ (by omega), upd_ne _ _ (by omega)]; exact a5
  · rw [up2_o _ _ (by omega), b1]; exact BM_congr (fun k hk => by rw [upd_ne _ _ (by omega)])
  · rw [up2_o _ _ (by omega), b2]; exact BM_congr (fun k hk => by rw [upd_ne _ _ (by omega)])
  · rw [up2_o _ _ (by omega), b3]; exact BM_congr (fun k hk => by rw [upd_ne _ _ (by omega)])
  · rw [up2_o _ _ (by omega), upd_ne _ _ (by omega)]; exact (c1 k hk).1
  · rw [up2_o _ _ (by omega), upd_ne _ _ (by omega)]; exact (c1 k hk).2.1
  · rw [up2_o _ _ (by omega), upd_ne _ _ (by omega)]; exact (c1 k hk).2.2
  · by_cases e : k = d
    · subst e; rw [up2_self, upd_self]
    · rw [up2_o _ _ (by omega), upd_ne _ _ (by omega)]; exact (c2 k hk).1
  · rw [up2_o _ _ (by omega), upd_ne _ _ (by omega)]; exact (c2 k hk).2
  · rw [up2_o _ _ (by omega), upd_ne _ _ (by omega)]; exact (c3 k hk).1
  · rw [up2_o _ _ (by omega), upd_ne _ _ (by omega)]; exact (c3 k hk).2
theorem RepS.err {v : Vm2} {q n ma : Nat} {ρ : Nat → Int32} (h : RepS v q ρ n ma) (hn : n ≤ 8) (hma : ma ≤ 6) {d : Nat} (hd : d < 64) (x : Int32) : RepS (up2 v (q + 5) (d) (x)) q (upd ρ (43 + d) (x)) n ma := by
  obtain ⟨⟨a1, a2, a3, a4, a5⟩, ⟨b1, b2, b3⟩, c1, c2, c3⟩ := h
  refine ⟨⟨?_, ?_, ?_, ?_, ?_⟩, ⟨?_, ?_, ?_⟩, fun k hk => ⟨?_, ?_, ?_⟩, fun k hk => ⟨?_, ?_⟩, fun k hk => ⟨?_, ?_⟩⟩
  · rw [up2_o _ _ (by omega), upd_ne _ _ (by omega)]; exact a1
  · rw [up2_o _ _ (by omega), upd_ne _ _ (by omega)]; exact a2
  · rw [up2_o _ _ (by omega), upd_ne _ _ (by omega)]; exact a3
  · rw [up2_o _ _ (by omega), upd_ne _ _ (by omega)]; exact a4
  · rw [up2_o _ _ (by omega), upd_ne _ _ (by omega)]; exact a5
  · rw [up2_o _ _ (by omega), b1]; exact BM_congr (fun k hk => by rw [upd_ne _ _ (by omega)])
  · rw [up2_o _ _ (by omega), b2]; exact BM_congr (fun k hk => by rw [upd_ne _ _ (by omega)])
  · rw [up2_o _ _ (by omega), b3]; exact BM_congr (fun k hk => by rw [upd_ne _ _ (by omega)])
  · rw [up2_o _ _ (by omega), upd_ne _ _ (by omega)]; exact (c1 k hk).1
  · rw [up2_o _ _ (by omega), upd_ne _ _ (by omega)]; exact (c1 k hk).2.1
  · rw [up2_o _ _ (by omega), upd_ne _ _ (by omega)]; exact (c1 k hk).2.2
  · rw [up2_o _ _ (by omega), upd_ne _ _ (by omega)]; exact (c2 k hk).1
  · by_cases e : k = d
    · subst e; rw [up2_self, upd_self]
    · rw [up2_o _ _ (by omega), upd_ne _ _ (by omega)]; exact (c2 k hk).2
  · rw [up2_o _ _ (by omega), upd_ne _ _ (by omega)]; exact (c3 k hk).1
  · rw [up2_o _ _ (by omega), upd_ne _ _ (by omega)]; exact (c3 k hk).2
theorem RepS.lia {v : Vm2} {q n ma : Nat} {ρ : Nat → Int32} (h : RepS v q ρ n ma) (hn : n ≤ 8) (hma : ma ≤ 6) {c : Nat} (hc : c < 8) {x y : Int32} (hx : y = BM (upd (fun b => ρ (27 + b)) c x)) : RepS (up2 v (q) (3) (y)) q (upd ρ (27 + c) (x)) n ma := by
  obtain ⟨⟨a1, a2, a3, a4, a5⟩, ⟨b1, b2, b3⟩, c1, c2, c3⟩ := h
  refine ⟨⟨?_, ?_, ?_, ?_, ?_⟩, ⟨?_, ?_, ?_⟩, fun k hk => ⟨?_, ?_, ?_⟩, fun k hk => ⟨?_, ?_⟩, fun k hk => ⟨?_, ?_⟩⟩
  · rw [up2_o _ _ (by omega), upd_ne _ _ (by omega)]; exact a1
  · rw [up2_o _ _ (by omega), upd_ne _ _ (by omega)]; exact a2
  · rw [up2_o _ _ (by omega), upd_ne _ _ (by omega)]; exact a3
  · rw [up2_o _ _ (by omega), upd_ne _ _ (by omega)]; exact a4
  · rw [up2_o _ _ (by omega), upd_ne _ _ (by omega)]; exact a5
  · rw [up2_self, hx]; exact BM_congr (fun k hk => by
      by_cases e : k = c
      · subst e; rw [upd_self, upd_self]
      · rw [upd_ne _ _ e, upd_ne _ _ (by omega)])
  · rw [up2_o _ _ (by omega), b2]; exact BM_congr (fun k hk => by rw [upd_ne _ _ (by omega)])
  · rw [up2_o _ _ (by omega), b3]; exact BM_congr (fun k hk => by rw [upd_ne _ _ (by omega)])
  · rw [up2_o _ _ (by omega), upd_ne _ _ (by omega)]; exact (c1 k hk).1
  · rw [up2_o _ _ (by omega), upd_ne _ _ (by omega)]; exact (c1 k hk).2.1
  · rw [up2_o _ _ (by omega), upd_ne _ _ (by omega)]; exact (c1 k hk).2.2
  · rw [up2_o _ _ (by omega), upd_ne _ _ (by omega)]; exact (c2 k hk).1
  · rw [up2_o _ _ (by omega), upd_ne _ _ (by omega)]; exact (c2 k hk).2
  · rw [up2_o _ _ (by omega), upd_ne _ _ (by omega)]; exact (c3 k hk).1
  · rw [up2_o _ _ (by omega), upd_ne _ _ (by omega)]; exact (c3 k hk).2
theorem RepS.sta {v : Vm2} {q n ma : Nat} {ρ : Nat → Int32} (h : RepS v q ρ n ma) (hn : n ≤ 8) (hma : ma ≤ 6) {c : Nat} (hc : c < 8) {x y : Int32} (hx : y = BM (upd (fun b => ρ (35 + b)) c x)) : RepS (up2 v (q) (4) (y)) q (upd ρ (35 + c) (x)) n ma := by
  obtain ⟨⟨a1, a2, a3, a4, a5⟩, ⟨b1, b2, b3⟩, c1, c2, c3⟩ := h
  refine ⟨⟨?_, ?_, ?_, ?_, ?_⟩, ⟨?_, ?_, ?_⟩, fun k hk => ⟨?_, ?_, ?_⟩, fun k hk => ⟨?_, ?_⟩, fun k hk => ⟨?_, ?_⟩⟩
  · rw [up2_o _ _ (by omega), upd_ne _ _ (by omega)]; exact a1
  · rw [up2_o _ _ (by omega), upd_ne _ _ (by omega)]; exact a2
  · rw [up2_o _ _ (by omega), upd_ne _ _ (by omega)]; exact a3
  · rw [up2_o _ _ (by omega), upd_ne _ _ (by omega)]; exact a4
  · rw [up2_o _ _ (by omega), upd_ne _ _ (by omega)]; exact a5
  · rw [up2_o _ _ (by omega), b1]; exact BM_congr (fun k hk => by rw [upd_ne _ _ (by omega)])
  · rw [up2_self, hx]; exact BM_congr (fun k hk => by
      by_cases e : k = c
      · subst e; rw [upd_self, upd_self]
      · rw [upd_ne _ _ e, upd_ne _ _ (by omega)])
  · rw [up2_o _ _ (by omega), b3]; exact BM_congr (fun k hk => by rw [upd_ne _ _ (by omega)])
  · rw [up2_o _ _ (by omega), upd_ne _ _ (by omega)]; exact (c1 k hk).1
  · rw [up2_o _ _ (by omega), upd_ne _ _ (by omega)]; exact (c1 k hk).2.1
  · rw [up2_o _ _ (by omega), upd_ne _ _ (by omega)]; exact (c1 k hk).2.2
  · rw [up2_o _ _ (by omega), upd_ne _ _ (by omega)]; exact (c2 k hk).1
  · rw [up2_o _ _ (by omega), upd_ne _ _ (by omega)]; exact (c2 k hk).2
  · rw [up2_o _ _ (by omega), upd_ne _ _ (by omega)]; exact (c3 k hk).1
  · rw [up2_o _ _ (by omega), upd_ne _ _ (by omega)]; exact (c3 k hk).2
theorem Wf.cg {ρ σ : Nat → Int32} {n f ma : Nat} (h : Wf ρ n f ma) (e : ∀ k, k < 190 → (k < 11 ∨ 27 ≤ k) → σ k = ρ k) : Wf σ n f ma := by
  obtain ⟨h1, h2, h3, h4, h5, h6, h7, h8, h9⟩ := h
  refine ⟨?_, h2, ?_, h4, ?_, ?_, h7, fun c hc => ?_, fun a ha => ?_⟩
  · rw [e _ (by omega) (by omega)]; exact h1
  · rw [e _ (by omega) (by omega)]; exact h3
  · rw [e _ (by omega) (by omega)]; exact h5
  · rw [e _ (by omega) (by omega)]; exact h6
  · rw [e _ (by omega) (by omega), e _ (by omega) (by omega)]; exact h8 c hc
  · obtain ⟨h01, cl, hcl, ecl, hal⟩ := h9 a ha
    rw [e (184 + a) (by omega) (by omega), e (172 + a) (by omega) (by omega), e (178 + a) (by omega) (by omega)]
    exact ⟨h01, cl, hcl, ecl, fun z => by rw [e (3 + cl) (by omega) (by omega)]; exact hal z⟩
/-- the sizes of a row's numbers -/
def Bn (ρ : Nat → Int32) (n B : Nat) : Prop := (∀ c, c < n → Wi B (aimF ρ c)) ∧ (∀ k, k < 128 → Wi 9999 (ρ (43 + k))) ∧ ∀ c, c < n → Wi 110 (ρ (11 + c))
theorem Bn.mono {ρ : Nat → Int32} {n B E : Nat} (h : Bn ρ n B) (hl : B ≤ E) : Bn ρ n E := ⟨fun c hc => (h.1 c hc).mono hl, h.2.1, h.2.2⟩
theorem Bn.he {ρ : Nat → Int32} {n B j i : Nat} (h : Bn ρ n B) (hB : B ≤ 1000000000) (hn : n ≤ 8) (hj : j < n) (hi : i < n) : Wi (B + 9999) (heF ρ j i) := by
  unfold heF
  split
  · exact (h.1 i hi).mono (by omega)
  · split
    · have e : 107 + (8 * j + i) = 43 + (64 + (8 * j + i)) := by omega
      rw [e]
      exact (h.1 i hi).add (h.2.1 _ (by omega)) (by omega)
    · exact (h.1 j hj).add (h.2.1 _ (by omega)) (by omega)
theorem or_fl {h : Nat → Int32} {n f D : Nat} (hh : ∀ j, j < n → Wi D (h j)) (hD : D ≤ 1073741823) (hf : ¬ n ≤ 2 * f) : fdF (ordF h n f + ordF h n (n - 1 - f)) (nI 2) = fl2 (ordF h n f + ordF h n (n - 1 - f)) ∧ Wi D (fl2 (ordF h n f + ordF h n (n - 1 - f))) :=
  Wi.fl (ordF_all n hh f (by omega)) (ordF_all n hh (n - 1 - f) (by omega)) hD
theorem Bn.md {ρ : Nat → Int32} {n B f i : Nat} (h : Bn ρ n B) (hB : B ≤ 1000000000) (hn : n ≤ 8) (hi : i < n) : Wi (B + 9999) (mdF ρ n f i) := by
  unfold mdF
  split
  · exact (h.1 i hi).mono (by omega)
  · rename_i hf
    exact (or_fl (fun j hj => h.he hB hn hj hi) (by omega) hf).2
theorem md_fd {ρ : Nat → Int32} {n B f i : Nat} (h : Bn ρ n B) (hB : B ≤ 1000000000) (hn : n ≤ 8) (hi : i < n) (hf : ¬ n ≤ 2 * f) : fdF (ordF (fun j9 => heF ρ j9 i) n f + ordF (fun j9 => heF ρ j9 i) n (n - 1 - f)) (nI 2) = mdF ρ n f i := by
  unfold mdF
  rw [if_neg hf]
  exact (or_fl (fun j hj => h.he hB hn hj hi) (by omega) hf).1
theorem ad_sb (a b : Int32) : a + b - a = b := by
  apply Int32.toBitVec_inj.mp
  rw [Int32.toBitVec_sub, Int32.toBitVec_add, BitVec.add_comm]
  exact BitVec.add_sub_cancel _ _
theorem sb_ad (a b : Int32) : a + (b - a) = b := by
  apply Int32.toBitVec_inj.mp
  rw [Int32.toBitVec_add, Int32.toBitVec_sub, BitVec.add_comm]
  exact BitVec.sub_add_cancel _ _
theorem rn_same {ρ : Nat → Int32} {n f : Nat} (h : n ≤ 2 * f) : rnW ρ 0 n n (rdF ρ n f) = ρ := by
  funext b
  unfold rnW
  split
  · obtain ⟨c, rfl⟩ : ∃ c, b = 0 + 19 + c := ⟨b - 19, by omega⟩
    rw [show 0 + 19 + c - (0 + 19) = c by omega, show 0 + 19 + c = 19 + c by omega]
    unfold rdF mdF aimF
    rw [if_pos h]
    split
    · exact ad_sb _ _
    · rfl
  · rfl
/-- but for the state at q and the council's rows nothing changed -/
def FrQ (u v : Vm2) (q : Nat) : Prop := ∀ k, (k < 20 ∨ 25 ≤ k) → (k < q ∨ q + 8 ≤ k) → u k = v k
theorem FrC.q {u v : Vm2} {q : Nat} (h : FrC u v) : FrQ u v q := fun k h1 _ => h k h1
theorem FrS.q {u v : Vm2} {q : Nat} (h : FrS u v q) : FrQ u v q := fun k _ h2 => h k h2
theorem FrQ.trans {u v x : Vm2} {q : Nat} (h1 : FrQ u v q) (h2 : FrQ v x q) : FrQ u x q := fun a ha hb => (h1 a ha hb).trans (h2 a ha hb)
theorem FrQ.rf (v : Vm2) (q : Nat) : FrQ v v q := fun _ _ _ => rfl
theorem rn_y {ρ : Nat → Int32} {n k : Nat} {g : Nat → Int32} : upd (rnW ρ 0 n k g) (19 + k) (g k) = rnW ρ 0 n (k + 1) g := by
  have := rnW_s ρ 0 n k g
  rw [show 0 + 19 + k = 19 + k by omega] at this
  exact this
theorem rn_n {ρ : Nat → Int32} {n k : Nat} {g : Nat → Int32} (h : g k = ρ (19 + k)) : rnW ρ 0 n k g = rnW ρ 0 n (k + 1) g := by
  rw [← rn_y, h]
  have e : rnW ρ 0 n k g (19 + k) = ρ (19 + k) := if_neg (by omega)
  rw [← e, upd_id]
theorem rn_at {ρ : Nat → Int32} {n k b : Nat} {g : Nat → Int32} (h : b < 19 ∨ 19 + k ≤ b) : rnW ρ 0 n k g b = ρ b := if_neg (by omega)

def Mi (u : Vm2) (ρ : Nat → Int32) (n f k : Nat) : Prop := ∀ i, i < k → trF ρ i → u 22 i = mdF ρ n f i
theorem Mi.n {u : Vm2} {ρ : Nat → Int32} {n f k : Nat} {x : Int32} (h : Mi u ρ n f k) (hk : ¬ trF ρ k) : Mi (up2 u 22 k x) ρ n f (k + 1) := by
  intro i h1 h2
  have e : i ≠ k := fun z => hk (z ▸ h2)
  rw [up2_o _ _ (fun z => e z.2)]
  exact h i (by omega) h2
theorem Mi.frc {u v : Vm2} {ρ : Nat → Int32} {n f k : Nat} (h : Mi v ρ n f k) (e : u 22 = v 22) : Mi u ρ n f k := fun i h1 h2 => by rw [e]; exact h i h1 h2
theorem Mi.y {u : Vm2} {ρ : Nat → Int32} {n f k : Nat} (h : Mi u ρ n f k) : Mi (up2 u 22 k (mdF ρ n f k)) ρ n f (k + 1) := by
  intro i h1 h2
  by_cases e : i = k
  · subst e; exact up2_self _ _ _ _
  · rw [up2_o _ _ (fun z => e z.2)]
    exact h i (by omega) h2
set_option maxHeartbeats 600000 in
set_option maxRecDepth 100000 in
theorem c_X1_meet (w : Wd) (v : Vm2) {q : Nat} (hq : IsS q) {ρ : Nat → Int32} {n ma : Nat} (hR : RepS v q ρ n ma) {f : Nat} (hW : Wf ρ n f ma) {B : Nat} (hB : Bn ρ n B) (hB9 : B ≤ 1000000000) : CU w yX1_meet cX1_meet 3 (rm 3 66) [.ref (wN w + 19), .ref (wN w + q)] v (fun v' => RepS v' q (rnW ρ 0 n n (rdF ρ n f)) n ma ∧ FrQ v' v q) := by
  refine CU.of (by decide) (Nat.le_of_ble_eq_true rfl) ?_
  have hn := hW.2.1
  have hf3 := hW.2.2.2.1
  have hma := hW.2.2.2.2.2.2.1
  have l2 : ∀ (m : Nat) (k : Nat) (u : Vm2), (k ≤ n) → (RepS u q (rnW ρ 0 n k (rdF ρ n f)) n ma) → (FrQ u v q) → (∀ i, i < n → trF ρ i → u 22 i = mdF ρ n f i) → n - k < m → J w yX1_meet cX1_meet 3 none (rm 3 66) XT (ZJ w 185 0 0 (PU w (fun v' => RepS v' q (rnW ρ 0 n n (rdF ρ n f)) n ma ∧ FrQ v' v q))) 50 [(0, .ref (wN w + 19)), (1, .ref (wN w + q)), (2, .int (nI k))] [] 185 (hv w (u)) 0 0 := by
    intro m
    induction m with
    | zero =>
      intro k u hi0 hi1 hi2 hi3 hm
      exact absurd hm (by omega)
    | succ m ih =>
      intro k u hi0 hi1 hi2 hi3 hm
      refine J.iload_n 50 dX1_meet_50 rfl rfl ?_
      refine J.aload_n 51 dX1_meet_51 rfl rfl ?_
      refine V.getI 52 dX1_meet_52 fl_RX1_32 hq.i0 ?_
      refine J.top (b := nI n) ((hi1.1.1).trans ((rn_at (by omega)).trans hW.1)) ?_
      refine V.icmp_ge 55 91 dX1_meet_55 (by decide) (by omega) (by omega) (fun c55 => ?_) (fun c55 => ?_)
      · obtain rfl : k = n := by omega
        exact V.vret 91 dX1_meet_91 (⟨hi1, hi2⟩)
      · have et : trF (rnW ρ 0 n k (rdF ρ n f)) k ↔ trF ρ k := by unfold trF; rw [rn_at (by omega), rn_at (by omega)]
        refine J.aload_n 58 dX1_meet_58 rfl rfl ?_
        refine J.iload_n 59 dX1_meet_59 rfl rfl ?_
        refine V.callvP 60 dX1_meet_60 ml_RX1_56 mi_yX5_isTrue mv_yX5_isTrue (c_X5_isTrue w _ hq hi1 (hW.cg (fun b hb1 hb2 => rn_at (by omega))) (by omega)) rfl rfl (Nat.le_of_ble_eq_true rfl) (by decide) (by decide) hq.o rfl rfl ?_
        refine V.if_eqB 63 85 dX1_meet_63 (by decide) (fun c63 => ?_) (fun c63 => ?_)
        · have e9 := rn_n (ρ := ρ) (n := n) (k := k) (g := rdF ρ n f) (if_neg (fun z => c63 (et.mpr z)))
          refine V.iinc 85 dX1_meet_85 rfl (by decide) ?_
          refine J.goto 88 50 dX1_meet_88 (by decide) ?_
          first | exact ih (k + 1) _ (by omega) (by rw [← e9]; exact hi1) hi2 hi3 (by omega) | exact ih (k + 1) _ (by omega) (by rw [← rn_y]; exact hi1.ahd c55 hn hma _) ((((FrS.rf u q).up (by omega) (by omega)).q).trans hi2) (fun i h1 h2 => by rw [up2_ne _ _ _ (by have := hq.ds; omega)]; exact hi3 i h1 h2) (by omega)
        · have ht := et.mp c63
          have hk9 : rdF ρ n f k = mdF ρ n f k - ρ (3 + k) := if_pos ht
          refine J.aload_n 66 dX1_meet_66 rfl rfl ?_
          refine V.getR 67 dX1_meet_67 fl_RX1_64 hq.r10 ?_
          refine J.iload_n 70 dX1_meet_70 rfl rfl ?_
          refine J.aload_n 71 dX1_meet_71 rfl rfl ?_
          refine V.getR 72 dX1_meet_72 fl_RX1_18 r_19_1 ?_
          refine J.iload_n 75 dX1_meet_75 rfl rfl ?_
          refine V.iald 76 dX1_meet_76 a_22 (by omega) ?_
          refine J.top (hi3 k c55 ht) ?_
          refine J.aload_n 77 dX1_meet_77 rfl rfl ?_
          refine V.getR 78 dX1_meet_78 fl_RX1_67 hq.r8 ?_
          refine J.iload_n 81 dX1_meet_81 rfl rfl ?_
          refine V.iald 82 dX1_meet_82 hq.a8 (by omega) ?_
          refine J.top (b := ρ (3 + k)) ((hi1.2.2.1 k c55).1.trans (rn_at (by omega))) ?_
          refine J.isub 83 dX1_meet_83 ?_
          refine J.top hk9.symm ?_
          refine V.iast 84 dX1_meet_84 hq.a10 (by omega) ?_
          refine V.iinc 85 dX1_meet_85 rfl (by decide) ?_
          refine J.goto 88 50 dX1_meet_88 (by decide) ?_
          first | exact ih (k + 1) _ (by omega) (by rw [← e9]; exact hi1) hi2 hi3 (by omega) | exact ih (k + 1) _ (by omega) (by rw [← rn_y]; exact hi1.ahd c55 hn hma _) ((((FrS.rf u q).up (by omega) (by omega)).q).trans hi2) (fun i h1 h2 => by rw [up2_ne _ _ _ (by have := hq.ds; omega)]; exact hi3 i h1 h2) (by omega)
  have K48 : ∀ u : Vm2, RepS u q ρ n ma → FrQ u v q → Mi u ρ n f n → J w yX1_meet cX1_meet 3 none (rm 3 66) XT (ZJ w 185 0 0 (PU w (fun v' => RepS v' q (rnW ρ 0 n n (rdF ρ n f)) n ma ∧ FrQ v' v q))) 48 [(0, .ref (wN w + 19)), (1, .ref (wN w + q))] [] 185 (hv w (u)) 0 0 := by
    intro u h1 h2 h3
    refine J.iconst 48 (nI 0) dX1_meet_48 (by decide +kernel) ?_
    refine J.istore_n 49 dX1_meet_49 rfl (by decide) ?_
    exact l2 (n + 1) 0 _ (by omega) (by rw [← rnW_0]; exact h1) h2 h3 (by omega)
  refine J.aload_n 0 dX1_meet_0 rfl rfl ?_
  refine V.callvP 1 dX1_meet_1 ml_RX1_52 mi_yX5_allStruck mv_yX5_allStruck (c_X5_allStruck w _ hq (hR.1.1.trans hW.1) (hR.1.2.1.trans hW.2.2.1) (by omega) (by omega)) rfl rfl (Nat.le_of_ble_eq_true rfl) (by decide) (by decide) hq.o rfl rfl ?_
  refine V.if_eqB 4 8 dX1_meet_4 (by decide) (fun c4 => ?_) (fun c4 => ?_)
  · have hns := c4
    have l1 : ∀ (m : Nat) (k : Nat) (u : Vm2), (k ≤ n) → (RepS u q ρ n ma) → (FrC u v) → (Mi u ρ n f k) → n - k < m → J w yX1_meet cX1_meet 3 none (rm 3 66) XT (ZJ w 185 0 0 (PU w (fun v' => RepS v' q (rnW ρ 0 n n (rdF ρ n f)) n ma ∧ FrQ v' v q))) 10 [(0, .ref (wN w + 19)), (1, .ref (wN w + q)), (2, .int (nI k))] [] 185 (hv w (u)) 0 0 := by
      intro m
      induction m with
      | zero =>
        intro k u hi0 hi1 hi2 hi3 hm
        exact absurd hm (by omega)
      | succ m ih =>
        intro k u hi0 hi1 hi2 hi3 hm
        refine J.iload_n 10 dX1_meet_10 rfl rfl ?_
        refine J.aload_n 11 dX1_meet_11 rfl rfl ?_
        refine V.getI 12 dX1_meet_12 fl_RX1_32 hq.i0 ?_
        refine J.top (b := nI n) ((hi1.1.1).trans hW.1) ?_
        refine V.icmp_ge 15 48 dX1_meet_15 (by decide) (by omega) (by omega) (fun c15 => ?_) (fun c15 => ?_)
        · obtain rfl : k = n := by omega
          refine J.drop 2 ?_
          exact K48 _ hi1 hi2.q hi3
        · refine J.aload_n 18 dX1_meet_18 rfl rfl ?_
          refine V.getR 19 dX1_meet_19 fl_RX1_18 r_19_1 ?_
          refine J.iload_n 22 dX1_meet_22 rfl rfl ?_
          refine J.aload_n 23 dX1_meet_23 rfl rfl ?_
          refine J.iload_n 24 dX1_meet_24 rfl rfl ?_
          refine V.callvP 25 dX1_meet_25 ml_RX1_56 mi_yX5_isTrue mv_yX5_isTrue (c_X5_isTrue w _ hq hi1 hW (by omega)) rfl rfl (Nat.le_of_ble_eq_true rfl) (by decide) (by decide) hq.o rfl rfl ?_
          refine V.if_eqB 28 40 dX1_meet_28 (by decide) (fun c28 => ?_) (fun c28 => ?_)
          · refine J.iconst 40 (nI 0) dX1_meet_40 (by decide +kernel) ?_
            refine V.iast 41 dX1_meet_41 a_22 (by omega) ?_
            refine V.iinc 42 dX1_meet_42 rfl (by decide) ?_
            refine J.goto 45 10 dX1_meet_45 (by decide) ?_
            first | exact ih (k + 1) _ (by omega) (hi1.frc hq ((FrC.rf u).up (by omega) (by omega))) (hi2.up (by omega) (by omega)) (hi3.n c28) (by omega) | exact ih (k + 1) _ (by omega) (hi1.frc hq (h34b.up (by omega) (by omega))) ((h34b.trans hi2).up (by omega) (by omega)) (Mi.y (hi3.frc h34c)) (by omega)
          · refine J.aload_n 31 dX1_meet_31 rfl rfl ?_
            refine J.aload_n 32 dX1_meet_32 rfl rfl ?_
            refine J.iload_n 33 dX1_meet_33 rfl rfl ?_
            refine V.callv 34 dX1_meet_34 ml_RX1_60 mi_yX1_middleFor mv_yX1_middleFor (c_X1_middleFor w _ hq hi1 hW c15 hns) rfl rfl (Nat.le_of_ble_eq_true rfl) (by decide) (by decide) o_19 rfl rfl (fun r34 v34 h34 => ?_)
            obtain ⟨h34a, h34b, h34c, -, -⟩ := h34
            refine J.top (h34a.trans (md_fd hB hB9 hn c15 hns)) ?_
            refine J.goto 37 41 dX1_meet_37 (by decide) ?_
            refine V.iast 41 dX1_meet_41 a_22 (by omega) ?_
            refine V.iinc 42 dX1_meet_42 rfl (by decide) ?_
            refine J.goto 45 10 dX1_meet_45 (by decide) ?_
            first | exact ih (k + 1) _ (by omega) (hi1.frc hq ((FrC.rf u).up (by omega) (by omega))) (hi2.up (by omega) (by omega)) (hi3.n c28) (by omega) | exact ih (k + 1) _ (by omega) (hi1.frc hq (h34b.up (by omega) (by omega))) ((h34b.trans hi2).up (by omega) (by omega)) (Mi.y (hi3.frc h34c)) (by omega)
    refine J.iconst 8 (nI 0) dX1_meet_8 (by decide +kernel) ?_
    refine J.istore_n 9 dX1_meet_9 rfl (by decide) ?_
    exact l1 (n + 1) 0 v (by omega) hR (FrC.rf v) (fun i hi => absurd hi (by omega)) (by omega)
  · exact V.vret 7 dX1_meet_7 (⟨by rw [rn_same c4]; exact hR, FrQ.rf v q⟩)
theorem jnO_all {p : Int32 → Prop} {ρ : Nat → Int32} {c : Nat} : ∀ n, (∀ j, j < n → p (heF ρ j c)) → ∀ k, k < cntS ρ n → p (jnO ρ c n k)
  | 0, _, k, hk => absurd hk (by show ¬ k < 0; omega)
  | n + 1, hh, k, hk => by
    have ih := jnO_all (p := p) (ρ := ρ) (c := c) n (fun j hj => hh j (by omega))
    by_cases e : ρ (35 + n) = 0
    · have e1 : jnO ρ c (n + 1) = putF (jnO ρ c n) (cntS ρ n) (heF ρ n c) := by show (if ρ (35 + n) = 0 then _ else _) = _; rw [if_pos e]
      have e2 : cntS ρ (n + 1) = cntS ρ n + 1 := by show cntS ρ n + (if ρ (35 + n) = 0 then 1 else 0) = _; rw [if_pos e]
      rw [e1]
      rw [e2] at hk
      exact putF_all (hh n (by omega)) _ _ ih k hk
    · have e1 : jnO ρ c (n + 1) = jnO ρ c n := by show (if ρ (35 + n) = 0 then _ else _) = _; rw [if_neg e]
      have e2 : cntS ρ (n + 1) = cntS ρ n := by show cntS ρ n + (if ρ (35 + n) = 0 then 1 else 0) = _; rw [if_neg e, Nat.add_zero]
      rw [e1]
      rw [e2] at hk
      exact ih k hk
theorem Bn.jn {ρ : Nat → Int32} {n B f c : Nat} (h : Bn ρ n B) (hB : B ≤ 1000000000) (hn : n ≤ 8) (hc : c < n) (hs : 2 * f < cntS ρ n) : fdF (jnO ρ c n f + jnO ρ c n (cntS ρ n - 1 - f)) (nI 2) = jnM ρ n f c ∧ Wi (B + 9999) (jnM ρ n f c) :=
  Wi.fl (jnO_all n (fun j hj => h.he hB hn hj hc) f (by omega)) (jnO_all n (fun j hj => h.he hB hn hj hc) _ (by omega)) (by omega)
theorem jr_in (f : Nat → Int32) (c : Nat) (hc : c < 8) : ∀ m a, m ≤ 6 → a < m → jrA f c m (184 + a) = if f (172 + a) = nI c ∧ f (178 + a) ≤ f (3 + c) then nI 1 else f (184 + a)
  | 0, a, _, h => absurd h (by omega)
  | m + 1, a, hm, h => by
    unfold jrA jrC
    by_cases ha : a = m
    · subst ha
      rw [upd_self, jrA_at f c a (172 + a) (by omega), jrA_at f c a (178 + a) (by omega), jrA_at f c a (3 + c) (by omega), jrA_at f c a (184 + a) (by omega)]
    · rw [upd_ne _ _ (by omega)]
      exact jr_in f c hc m a (by omega) (by omega)
theorem jnW_at (f : Nat → Int32) {x : Int32} {c k : Nat} (h1 : k ≠ 3 + c) (h2 : k ≠ 19 + c) (h3 : k ≠ 35 + c) : jnW f x c k = f k := by
  unfold jnW
  rw [upd_ne _ _ h3, upd_ne _ _ h2, upd_ne _ _ h1]
theorem jn_al {ρ : Nat → Int32} {n f ma c : Nat} {x : Int32} (hW : Wf ρ n f ma) (hc : c < n) : Al0 (jnW ρ x c) n ma := by
  have h2 := hW.2.1
  intro a ha
  have h7 := hW.2.2.2.2.2.2.1
  obtain ⟨h01, cl, hcl, ecl, hal⟩ := hW.2.2.2.2.2.2.2.2 a ha
  rw [jnW_at _ (by omega) (by omega) (by omega), jnW_at _ (by omega) (by omega) (by omega)]
  exact ⟨h01, cl, hcl, ecl⟩
theorem jn_rg {ρ : Nat → Int32} {n f ma c : Nat} {x : Int32} (hW : Wf ρ n f ma) (hc : c < n) : rgX (jnW ρ x c) ma = jrA (jnW ρ x c) c ma := by
  have h2 := hW.2.1
  have h7 := hW.2.2.2.2.2.2.1
  funext k
  by_cases hk : 184 ≤ k ∧ k < 184 + ma
  · obtain ⟨a, rfl⟩ : ∃ a, k = 184 + a := ⟨k - 184, by omega⟩
    have ha : a < ma := by omega
    obtain ⟨h01, cl, hcl, ecl, hal⟩ := hW.2.2.2.2.2.2.2.2 a ha
    rw [jr_in _ c (by omega) ma a h7 ha]
    unfold rgX due
    rw [Nat.add_sub_cancel_left, jnW_at ρ (k := 172 + a) (by omega) (by omega) (by omega), ecl, nI_clamp (by omega)]
    by_cases e : cl = c
    · subst e
      by_cases d : jnW ρ x cl (178 + a) ≤ jnW ρ x cl (3 + cl)
      · rw [if_pos ⟨by omega, by omega, d⟩, if_pos ⟨rfl, d⟩]
      · rw [if_neg (fun z => d z.2.2), if_neg (fun z => d z.2)]
    · rw [if_neg (show ¬ (nI cl = nI c ∧ _) from fun z => e ((nI_eq (by omega) (by omega)).mp z.1)), jnW_at ρ (k := 178 + a) (by omega) (by omega) (by omega), jnW_at ρ (k := 3 + cl) (by omega) (by omega) (by omega), jnW_at ρ (k := 184 + a) (by omega) (by omega) (by omega)]
      by_cases d : ρ (178 + a) ≤ ρ (3 + cl)
      · rw [if_pos ⟨by omega, by omega, d⟩]
        rcases h01 with z | z
        · exact absurd (hal z) (Int32.not_lt.mpr d)
        · exact z.symm
      · rw [if_neg (fun z => d z.2.2)]
  · rw [show rgX (jnW ρ x c) ma k = jnW ρ x c k from if_neg (fun z => hk ⟨z.1, z.2.1⟩), jrA_at _ _ _ _ (by omega)]
theorem Wf_jn {ρ : Nat → Int32} {n f ma c : Nat} {x : Int32} (hW : Wf ρ n f ma) (hc : c < n) : Wf (jrA (jnW ρ x c) c ma) n f ma := by
  have hr := jn_rg (x := x) hW hc
  rw [← hr]
  obtain ⟨h1, h2, h3, h4, h5, h6, h7, h8, h9⟩ := hW
  have o : ∀ k, (k < 184 ∨ 184 + ma ≤ k) → k ≠ 3 + c → k ≠ 19 + c → k ≠ 35 + c → rgX (jnW ρ x c) ma k = ρ k := fun k a b d e => by
    rw [show rgX (jnW ρ x c) ma k = jnW ρ x c k from if_neg (by omega)]
    exact jnW_at _ b d e
  refine ⟨?_, h2, ?_, h4, ?_, ?_, h7, fun d hd => ⟨?_, ?_⟩, fun a ha => ?_⟩
  · rw [o _ (by omega) (by omega) (by omega) (by omega)]; exact h1
  · rw [o _ (by omega) (by omega) (by omega) (by omega)]; exact h3
  · rw [o _ (by omega) (by omega) (by omega) (by omega)]; exact h5
  · rw [o _ (by omega) (by omega) (by omega) (by omega)]; exact h6
  · rw [o _ (by omega) (by omega) (by omega) (by omega)]; exact (h8 d hd).1
  · by_cases e : d = c
    · subst e
      rw [show rgX (jnW ρ x d) ma (35 + d) = jnW ρ x d (35 + d) from if_neg (by omega)]
      exact Or.inl (by unfold jnW; rw [upd_self]; rfl)
    · rw [o _ (by omega) (by omega) (by omega) (by omega)]; exact (h8 d hd).2
  · obtain ⟨h01, cl, hcl, ecl, hal⟩ := h9 a ha
    rw [o (172 + a) (by omega) (by omega) (by omega) (by omega), o (178 + a) (by omega) (by omega) (by omega) (by omega)]
    have e3 : rgX (jnW ρ x c) ma (3 + cl) = jnW ρ x c (3 + cl) := if_neg (by omega)
    have e4 : rgX (jnW ρ x c) ma (184 + a) = if ρ (178 + a) ≤ jnW ρ x c (3 + cl) then nI 1 else ρ (184 + a) := by
      unfold rgX due
      rw [Nat.add_sub_cancel_left, jnW_at ρ (k := 172 + a) (by omega) (by omega) (by omega), ecl, nI_clamp (by omega), jnW_at ρ (k := 178 + a) (by omega) (by omega) (by omega), jnW_at ρ (k := 184 + a) (by omega) (by omega) (by omega)]
      by_cases d : ρ (178 + a) ≤ jnW ρ x c (3 + cl)
      · rw [if_pos d, if_pos ⟨by omega, by omega, d⟩]
      · rw [if_neg d, if_neg (fun z => d z.2.2)]
    rw [e4]
    refine ⟨?_, cl, hcl, ecl, fun z => ?_⟩
    · split
      · exact Or.inr rfl
      · exact h01
    · rw [e3]
      by_cases d : ρ (178 + a) ≤ jnW ρ x c (3 + cl)
      · rw [if_pos d] at z; exact absurd z (by decide)
      · exact Int32.not_le.mp d

set_option maxHeartbeats 600000 in
set_option maxRecDepth 100000 in
theorem c_X1_canJoin (w : Wd) (v : Vm2) {q : Nat} (hq : IsS q) {ρ : Nat → Int32} {n ma : Nat} (hR : RepS v q ρ n ma) {f : Nat} (hW : Wf ρ n f ma) {c : Nat} (hc : c < n) (hst : ¬ ρ (35 + c) = 0) : CI w yX1_canJoin cX1_canJoin 3 (some .boolean) (rm 3 66) [.ref (wN w + 19), .ref (wN w + q), .int (nI c)] v (fun r v' => r = bI (2 * f < cntS ρ n) ∧ FrC v' v) := by
  have hn := hW.2.1
  have hf3 := hW.2.2.2.1
  have hcs := cntS_le ρ n
  refine CI.of (by decide) (Nat.le_of_ble_eq_true rfl) ?_
  refine J.aload_n 0 dX1_canJoin_0 rfl rfl ?_
  refine J.aload_n 1 dX1_canJoin_1 rfl rfl ?_
  refine J.iload_n 2 dX1_canJoin_2 rfl rfl ?_
  refine V.callvU 3 dX1_canJoin_3 ml_RX1_70 mi_yX1_hearToJoin mv_yX1_hearToJoin (c_X1_hearToJoin w _ hq hR hW hc hst) rfl rfl (Nat.le_of_ble_eq_true rfl) (by decide) (by decide) o_19 rfl rfl (fun v3 h3 => ?_)
  obtain ⟨h3a, h3b⟩ := h3
  have hR3 := hR.frc hq h3b
  refine J.aload_n 6 dX1_canJoin_6 rfl rfl ?_
  refine V.getR 7 dX1_canJoin_7 fl_RX1_12 r_19_0 ?_
  refine J.aload_n 10 dX1_canJoin_10 rfl rfl ?_
  refine V.getI 11 dX1_canJoin_11 fl_RX1_45 hq.i1 ?_
  refine J.top (b := nI f) (hR3.1.2.1.trans hW.2.2.1) ?_
  refine V.callvP 14 dX1_canJoin_14 ml_RX1_74 mi_yX3_leaves mv_yX3_leaves (c_X3_leaves w _ h3a.1 (by omega) (by omega)) rfl rfl (Nat.le_of_ble_eq_true rfl) (by decide) (by decide) o_20 rfl rfl ?_
  exact V.zret 17 dX1_canJoin_17 (bI_01 _) (⟨rfl, h3b⟩)
set_option maxHeartbeats 600000 in
set_option maxRecDepth 100000 in
theorem c_X1_letJoin (w : Wd) (v : Vm2) {q : Nat} (hq : IsS q) {ρ : Nat → Int32} {n ma : Nat} (hR : RepS v q ρ n ma) {f : Nat} (hW : Wf ρ n f ma) {c B : Nat} (hc : c < n) (hst : ¬ ρ (35 + c) = 0) (hsn : 2 * f < cntS ρ n) (hB : Bn ρ n B) (hB9 : B ≤ 1000000000) : CU w yX1_letJoin cX1_letJoin 3 (rm 3 66) [.ref (wN w + 19), .ref (wN w + q), .int (nI c)] v (fun v' => RepS v' q (jrA (jnW ρ (jnM ρ n f c) c) c ma) n ma ∧ FrQ v' v q) := by
  have hn := hW.2.1
  have hf3 := hW.2.2.2.1
  have hma := hW.2.2.2.2.2.2.1
  have hcs := cntS_le ρ n
  refine CU.of (by decide) (Nat.le_of_ble_eq_true rfl) ?_
  refine J.aload_n 0 dX1_letJoin_0 rfl rfl ?_
  refine J.aload_n 1 dX1_letJoin_1 rfl rfl ?_
  refine J.iload_n 2 dX1_letJoin_2 rfl rfl ?_
  refine V.callvU 3 dX1_letJoin_3 ml_RX1_70 mi_yX1_hearToJoin mv_yX1_hearToJoin (c_X1_hearToJoin w _ hq hR hW hc hst) rfl rfl (Nat.le_of_ble_eq_true rfl) (by decide) (by decide) o_19 rfl rfl (fun v3 h3 => ?_)
  obtain ⟨h3a, h3b⟩ := h3
  have hR3 := hR.frc hq h3b
  refine J.aload_n 6 dX1_letJoin_6 rfl rfl ?_
  refine V.getR 7 dX1_letJoin_7 fl_RX1_67 hq.r8 ?_
  refine J.iload_n 10 dX1_letJoin_10 rfl rfl ?_
  refine J.aload_n 11 dX1_letJoin_11 rfl rfl ?_
  refine V.getR 12 dX1_letJoin_12 fl_RX1_12 r_19_0 ?_
  refine J.aload_n 15 dX1_letJoin_15 rfl rfl ?_
  refine V.getI 16 dX1_letJoin_16 fl_RX1_45 hq.i1 ?_
  refine J.top (b := nI f) (hR3.1.2.1.trans hW.2.2.1) ?_
  refine V.callvP 19 dX1_letJoin_19 ml_RX1_48 mi_yX3_middle mv_yX3_middle (c_X3_middle w _ h3a.1 (by omega) (by omega) (by omega)) rfl rfl (Nat.le_of_ble_eq_true rfl) (by decide) (by decide) o_20 rfl rfl ?_
  refine J.top (b := jnM ρ n f c) (by rw [h3a.2 _ (by omega), h3a.2 _ (by omega)]; exact (hB.jn hB9 hn hc hsn).1) ?_
  refine V.iast 22 dX1_letJoin_22 hq.a8 (by omega) ?_
  have hR4 := hR3.val hc hn hma (jnM ρ n f c)
  refine J.aload_n 23 dX1_letJoin_23 rfl rfl ?_
  refine V.getR 24 dX1_letJoin_24 fl_RX1_64 hq.r10 ?_
  refine J.iload_n 27 dX1_letJoin_27 rfl rfl ?_
  refine J.iconst 28 (nI 0) dX1_letJoin_28 (by decide +kernel) ?_
  refine V.iast 29 dX1_letJoin_29 hq.a10 (by omega) ?_
  have hR5 := hR4.ahd hc hn hma (nI 0)
  refine J.aload_n 30 dX1_letJoin_30 rfl rfl ?_
  refine J.dup 31 dX1_letJoin_31 rfl ?_
  refine V.getI 32 dX1_letJoin_32 fl_RX1_77 hq.i4 ?_
  refine J.top hR5.2.1.2.1 ?_
  refine J.iconst 35 (nI 1) dX1_letJoin_35 (by decide +kernel) ?_
  refine J.iload_n 36 dX1_letJoin_36 rfl rfl ?_
  refine J.ishl 37 dX1_letJoin_37 ?_
  refine J.iconst 38 (-1) dX1_letJoin_38 (by decide +kernel) ?_
  refine J.ixor 39 dX1_letJoin_39 ?_
  refine J.iand 40 dX1_letJoin_40 ?_
  refine J.top (BM_c _ (by omega)) ?_
  refine V.putI 41 dX1_letJoin_41 fl_RX1_77 fp_5_4 hq.i4 ?_
  have hR6 := hR5.sta hn hma (c := c) (by omega) (x := nI 0) rfl
  refine J.aload_n 44 dX1_letJoin_44 rfl rfl ?_
  refine V.callv 45 dX1_letJoin_45 ml_RX1_80 mi_yX5_ring mv_yX5_ring (c_X5_ring w _ hq hR6 ((jnW_at ρ (by omega) (by omega) (by omega)).trans hW.2.2.2.2.2.1) hn hma (jn_al hW hc)) rfl rfl (Nat.le_of_ble_eq_true rfl) (by decide) (by decide) hq.o rfl rfl (fun r45 v45 h45 => ?_)
  obtain ⟨rfl, rfl⟩ := h45
  refine J.pop 48 dX1_letJoin_48 rfl ?_
  exact V.vret 49 dX1_letJoin_49 (⟨by rw [← jn_rg hW hc]; exact rg_rep hR6 hn hma (jn_al hW hc), FrQ.trans ((((((FrS.rf v3 q).up (by omega) (by omega)).up (by omega) (by omega)).up (by omega) (by omega)).up (by omega) (by omega)).q) h3b.q⟩)
