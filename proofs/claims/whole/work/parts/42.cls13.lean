/-! ===== part 42: the class reads a text ===== -/
def PCr (u v : Vm2) (q s : Nat) (r : PR) : Prop := FrX u v q ∧ match r with
  | .inl (k, p) => 0 < k ∧ k < 5 ∧ ∃ a tf ts, a ≤ s ∧ Tx u s a tf ts k (nI p)
  | .inr (a1, ρ1, tf1, ts1) => Tx u s a1 tf1 ts1 0 (-1) ∧ ∃ n1, RepS u q ρ1 n1 0 ∧ ρ1 0 = nI n1 ∧ n1 ≤ 8
theorem PCr.bad {u v : Vm2} {q s k p a tf ts : Nat} {r : PR} (hF : FrX u v q) (h0 : 0 < k) (h5 : k < 5) (ha : a ≤ s) (hT : Tx u s a tf ts k (nI p)) (hr : r = .inl (k, p)) : PCr u v q s r := by
  subst hr
  exact ⟨hF, h0, h5, a, tf, ts, ha, hT⟩
theorem PCr.ok {u v : Vm2} {q s a1 tf1 ts1 n1 : Nat} {ρ1 : Nat → Int32} {r : PR} (hF : FrX u v q) (hT : Tx u s a1 tf1 ts1 0 (-1)) (hR : RepS u q ρ1 n1 0) (h1 : ρ1 0 = nI n1) (h2 : n1 ≤ 8) (hr : r = .inr (a1, ρ1, tf1, ts1)) : PCr u v q s r := by
  subst hr
  exact ⟨hF, hT, n1, hR, h1, h2⟩
theorem clR_l {t : Nat → Int32} {s a n tf ts k p : Nat} {ρ : Nat → Int32} (h : clM t s a ρ n tf ts = .inl (k, p)) : clR t s a ρ n tf ts = .inl (k, p) := by unfold clR; rw [h]
theorem clR_r {t : Nat → Int32} {s a n tf ts a1 tf1 ts1 : Nat} {ρ ρ1 : Nat → Int32} (h : clM t s a ρ n tf ts = .inr (a1, ρ1, tf1, ts1)) : clR t s a ρ n tf ts = semi t s a1 ρ1 tf1 ts1 := by unfold clR; rw [h]
theorem ltr_59 {t : Nat → Int32} {s a : Nat} : ltr t s a = nI 59 ↔ (if a < s then t a else -1) = nI 59 := by
  unfold ltr
  by_cases h : a < s
  · rw [if_pos h, if_pos h]
  · rw [if_neg h, if_neg h]
    decide
theorem FrX.up {u v : Vm2} {q i : Nat} {x : Int32} (h : FrX u v q) : FrX (up2 u 17 i x) v q := fun c h1 h2 => by rw [up2_ne _ _ _ h1]; exact h c h1 h2
theorem FrX.nt {u v : Vm2} {q k K b : Nat} (h : FrX u v q) : FrX (ntU u k K b) v q := fun c h1 h2 => by rw [ntU_o _ h1]; exact h c h1 h2

set_option maxHeartbeats 600000 in
set_option maxRecDepth 100000 in
theorem c_X6_readClause (w : Wd) (v : Vm2) {q : Nat} (hq : IsS q) {s a tf ts : Nat} (hT : Tx v s a tf ts 0 (-1)) (hs : s ≤ 200) (ha : a < s) {ρ : Nat → Int32} {n : Nat} (hR : RepS v q ρ n 0) (hW : Wp ρ n) (htf : tf ≤ 1) (hts : ts ≤ 1) : CU w yX6_readClause cX6_readClause 2 (rm 3 68) [.ref (wN w + 17), .ref (wN w + q)] v (fun v' => PCr v' v q s (clR (v 18) s a ρ n tf ts)) := by
  have hn := hW.2.1
  have hds := hq.ds
  refine CU.of (by decide) (Nat.le_of_ble_eq_true rfl) ?_
  have K89 : ∀ (u : Vm2) (r9 : PR), PCl u v q s r9 → r9 = clM (v 18) s a ρ n tf ts → J w yX6_readClause cX6_readClause 2 none (rm 3 68) XT (ZJ w 185 0 0 (PU w (fun v' => PCr v' v q s (clR (v 18) s a ρ n tf ts)))) 89 [(0, .ref (wN w + 17)), (1, .ref (wN w + q))] [] 185 (hv w (u)) 0 0 := by
    intro u r9 h9 e9
    obtain ⟨hF, h9⟩ := h9
    have e18 : u 18 = v 18 := hF 18 (by decide) (by omega)
    rcases r9 with ⟨k, p⟩ | ⟨a1, ρ1, tf1, ts1⟩
    · obtain ⟨h0, h5, a0, tf0, ts0, ha0, hT0⟩ := h9
      refine J.aload_n 89 dX6_readClause_89 rfl rfl ?_
      refine V.callvP 90 dX6_readClause_90 ml_RX6_47 mi_yX6_letter mv_yX6_letter (c_X6_letter w _ hT0.1 hT0.2.1 (by omega) (by omega)) rfl rfl (Nat.le_of_ble_eq_true rfl) (by decide) (by decide) o_17 rfl rfl ?_
      rw [e18]
      refine J.bipush 93 (nI 59) dX6_readClause_93 (by decide +kernel) ?_
      refine J.icmp_ne 95 111 dX6_readClause_95 (by decide) (fun c95 => ?_) (fun c95 => ?_)
      · refine J.aload_n 111 dX6_readClause_111 rfl rfl ?_
        refine J.iconst 112 (nI 1) dX6_readClause_112 (by decide +kernel) ?_
        refine J.aload_n 113 dX6_readClause_113 rfl rfl ?_
        refine V.getI 114 dX6_readClause_114 fl_RX6_27 i_17_2 ?_
        refine J.top hT0.2.1 ?_
        refine V.callvU 117 dX6_readClause_117 ml_RX6_63 mi_yX6_note mv_yX6_note (c_X6_note w _ hT0.2.2.1 (by omega)) rfl rfl (Nat.le_of_ble_eq_true rfl) (by decide) (by decide) o_17 rfl rfl (fun v117 h117 => ?_)
        subst h117
        exact V.vret 120 dX6_readClause_120 (by first | exact PCr.bad hF.nt h0 h5 ha0 (by have := hT0.nt (K := 1) (b := a0) (by decide); rw [ntK_n (by omega), ntP_n (by omega)] at this; exact this) (clR_l e9.symm) | exact PCr.bad hF.up h0 h5 (show a0 + 1 ≤ s by omega) (hT0.at _) (clR_l e9.symm))
      · have hlt : a0 < s := by
          rcases Nat.lt_or_ge a0 s with z | z
          · exact z
          · rw [if_neg (by omega)] at c95; exact absurd c95 (by decide)
        refine J.aload_n 98 dX6_readClause_98 rfl rfl ?_
        refine J.dup 99 dX6_readClause_99 rfl ?_
        refine V.getI 100 dX6_readClause_100 fl_RX6_27 i_17_2 ?_
        refine J.top hT0.2.1 ?_
        refine J.iconst 103 (nI 1) dX6_readClause_103 (by decide +kernel) ?_
        refine V.iadd 104 dX6_readClause_104 ?_
        refine V.putI 105 dX6_readClause_105 fl_RX6_27 fp_6_2 i_17_2 ?_
        refine J.goto 108 120 dX6_readClause_108 (by decide) ?_
        exact V.vret 120 dX6_readClause_120 (by first | exact PCr.bad hF.nt h0 h5 ha0 (by have := hT0.nt (K := 1) (b := a0) (by decide); rw [ntK_n (by omega), ntP_n (by omega)] at this; exact this) (clR_l e9.symm) | exact PCr.bad hF.up h0 h5 (show a0 + 1 ≤ s by omega) (hT0.at _) (clR_l e9.symm))
    · obtain ⟨hT0, n1, hR1, h1, h2⟩ := h9
      have hb0 := clM_le ha e9.symm
      have hb1 := skp_in (t := v 18) hb0
      refine J.aload_n 89 dX6_readClause_89 rfl rfl ?_
      refine V.callvP 90 dX6_readClause_90 ml_RX6_47 mi_yX6_letter mv_yX6_letter (c_X6_letter w _ hT0.1 hT0.2.1 (by omega) (by omega)) rfl rfl (Nat.le_of_ble_eq_true rfl) (by decide) (by decide) o_17 rfl rfl ?_
      rw [e18]
      refine J.bipush 93 (nI 59) dX6_readClause_93 (by decide +kernel) ?_
      refine J.icmp_ne 95 111 dX6_readClause_95 (by decide) (fun c95 => ?_) (fun c95 => ?_)
      · refine J.aload_n 111 dX6_readClause_111 rfl rfl ?_
        refine J.iconst 112 (nI 1) dX6_readClause_112 (by decide +kernel) ?_
        refine J.aload_n 113 dX6_readClause_113 rfl rfl ?_
        refine V.getI 114 dX6_readClause_114 fl_RX6_27 i_17_2 ?_
        refine J.top hT0.2.1 ?_
        refine V.callvU 117 dX6_readClause_117 ml_RX6_63 mi_yX6_note mv_yX6_note (c_X6_note w _ hT0.2.2.1 (by omega)) rfl rfl (Nat.le_of_ble_eq_true rfl) (by decide) (by decide) o_17 rfl rfl (fun v117 h117 => ?_)
        subst h117
        exact V.vret 120 dX6_readClause_120 (by first | exact PCr.ok hF.up (hT0.at _) (hR1.frt hq (FrT.rf u).up) h1 h2 (by rw [clR_r e9.symm]; unfold semi; rw [if_pos (ltr_59.mpr c95)]) | exact PCr.bad hF.nt (by decide) (by decide) hb1.2 (hT0.nt (K := 1) (b := skp (v 18) s a1) (by decide)) (by rw [clR_r e9.symm]; unfold semi; rw [if_neg (fun z => c95 (ltr_59.mp z))]; rfl))
      · refine J.aload_n 98 dX6_readClause_98 rfl rfl ?_
        refine J.dup 99 dX6_readClause_99 rfl ?_
        refine V.getI 100 dX6_readClause_100 fl_RX6_27 i_17_2 ?_
        refine J.top hT0.2.1 ?_
        refine J.iconst 103 (nI 1) dX6_readClause_103 (by decide +kernel) ?_
        refine V.iadd 104 dX6_readClause_104 ?_
        refine V.putI 105 dX6_readClause_105 fl_RX6_27 fp_6_2 i_17_2 ?_
        refine J.goto 108 120 dX6_readClause_108 (by decide) ?_
        exact V.vret 120 dX6_readClause_120 (by first | exact PCr.ok hF.up (hT0.at _) (hR1.frt hq (FrT.rf u).up) h1 h2 (by rw [clR_r e9.symm]; unfold semi; rw [if_pos (ltr_59.mpr c95)]) | exact PCr.bad hF.nt (by decide) (by decide) hb1.2 (hT0.nt (K := 1) (b := skp (v 18) s a1) (by decide)) (by rw [clR_r e9.symm]; unfold semi; rw [if_neg (fun z => c95 (ltr_59.mp z))]; rfl))
  refine J.aload_n 0 dX6_readClause_0 rfl rfl ?_
  refine V.callvP 1 dX6_readClause_1 ml_RX6_47 mi_yX6_letter mv_yX6_letter (c_X6_letter w _ hT.1 hT.2.1 (by omega) (by omega)) rfl rfl (Nat.le_of_ble_eq_true rfl) (by decide) (by decide) o_17 rfl rfl ?_
  refine J.top (if_pos ha) ?_
  by_cases w102 : v 18 a = nI 102
  · refine J.lookup 4 64 dX6_readClause_4 (by decide) (o := 60) (by rw [w102]; decide) (by decide) ?_
    refine J.aload_n 64 dX6_readClause_64 rfl rfl ?_
    refine J.aload_n 65 dX6_readClause_65 rfl rfl ?_
    refine V.callvU 66 dX6_readClause_66 ml_RX6_57 mi_yX6_readStrike mv_yX6_readStrike (c_X6_readStrike w _ hq hT hs ha hR hW htf) rfl rfl (Nat.le_of_ble_eq_true rfl) (by decide) (by decide) o_17 rfl rfl (fun v66 h66 => ?_)
    refine J.goto 69 89 dX6_readClause_69 (by decide) ?_
    exact K89 _ _ h66 (by unfold clM; rw [w102, if_neg (by decide)])
  by_cases w107 : v 18 a = nI 107
  · refine J.lookup 4 48 dX6_readClause_4 (by decide) (o := 44) (by rw [w107]; decide) (by decide) ?_
    refine J.aload_n 48 dX6_readClause_48 rfl rfl ?_
    refine J.aload_n 49 dX6_readClause_49 rfl rfl ?_
    refine V.callvU 50 dX6_readClause_50 ml_RX6_51 mi_yX6_readClock mv_yX6_readClock (c_X6_readClock w _ hq hT hs ha hR hW) rfl rfl (Nat.le_of_ble_eq_true rfl) (by decide) (by decide) o_17 rfl rfl (fun v50 h50 => ?_)
    refine J.goto 53 89 dX6_readClause_53 (by decide) ?_
    exact K89 _ _ h50 (by unfold clM; rw [if_pos w107])
  by_cases w108 : v 18 a = nI 108
  · refine J.lookup 4 56 dX6_readClause_4 (by decide) (o := 52) (by rw [w108]; decide) (by decide) ?_
    refine J.aload_n 56 dX6_readClause_56 rfl rfl ?_
    refine J.aload_n 57 dX6_readClause_57 rfl rfl ?_
    refine V.callvU 58 dX6_readClause_58 ml_RX6_54 mi_yX6_readLiar mv_yX6_readLiar (c_X6_readLiar w _ hq hT hs ha hR hW) rfl rfl (Nat.le_of_ble_eq_true rfl) (by decide) (by decide) o_17 rfl rfl (fun v58 h58 => ?_)
    refine J.goto 61 89 dX6_readClause_61 (by decide) ?_
    exact K89 _ _ h58 (by unfold clM; rw [w108, if_neg (by decide)])
  by_cases w115 : v 18 a = nI 115
  · refine J.lookup 4 72 dX6_readClause_4 (by decide) (o := 68) (by rw [w115]; decide) (by decide) ?_
    refine J.aload_n 72 dX6_readClause_72 rfl rfl ?_
    refine J.aload_n 73 dX6_readClause_73 rfl rfl ?_
    refine V.callvU 74 dX6_readClause_74 ml_RX6_60 mi_yX6_readStep mv_yX6_readStep (c_X6_readStep w _ hq hT hs ha hR hW hts) rfl rfl (Nat.le_of_ble_eq_true rfl) (by decide) (by decide) o_17 rfl rfl (fun v74 h74 => ?_)
    refine J.goto 77 89 dX6_readClause_77 (by decide) ?_
    exact K89 _ _ h74 (by unfold clM; rw [w115, if_neg (by decide)])
  refine J.lookup 4 80 dX6_readClause_4 (by decide) (o := 76) (lk_def w102 w107 w108 w115) (by decide) ?_
  refine J.aload_n 80 dX6_readClause_80 rfl rfl ?_
  refine J.iconst 81 (nI 1) dX6_readClause_81 (by decide +kernel) ?_
  refine J.aload_n 82 dX6_readClause_82 rfl rfl ?_
  refine V.getI 83 dX6_readClause_83 fl_RX6_27 i_17_2 ?_
  refine J.top hT.2.1 ?_
  refine V.callvU 86 dX6_readClause_86 ml_RX6_63 mi_yX6_note mv_yX6_note (c_X6_note w _ hT.2.2.1 (by omega)) rfl rfl (Nat.le_of_ble_eq_true rfl) (by decide) (by decide) o_17 rfl rfl (fun v86 h86 => ?_)
  subst h86
  refine K89 _ _ (PCl.bad (FrT.rf v).nt.x (by decide) (by decide) (show a ≤ s by omega) (hT.nt (K := 1) (b := a) (by decide)) rfl) ?_
  unfold clM clO
  rw [if_neg w107, if_neg (fun z => z.elim (fun z => w102 z.1) (fun z => w115 z.1)), if_neg w102, if_neg w115, if_neg w108]
  rfl
def PIn (r : Int32) (u v : Vm2) (q s : Nat) : Prop := FrX u v q ∧ u 17 1 = nI 0 ∧ match pa (v 18) s with
  | .inl (k, p) => 0 < k ∧ k < 5 ∧ r = nI k ∧ u 17 5 = nI p
  | .inr ρ => r = nI 0 ∧ u 17 5 = -1 ∧ ∃ n, RepS u q ρ n 0 ∧ Wp ρ n
theorem PIn.bad {r : Int32} {u v : Vm2} {q s k p : Nat} (h1 : FrX u v q) (h2 : u 17 1 = nI 0) (h3 : 0 < k) (h4 : k < 5) (h5 : r = nI k) (h6 : u 17 5 = nI p) (hp : pa (v 18) s = .inl (k, p)) : PIn r u v q s := by
  refine ⟨h1, h2, ?_⟩
  rw [hp]
  exact ⟨h3, h4, h5, h6⟩
theorem PIn.ok {r : Int32} {u v : Vm2} {q s n : Nat} {ρ : Nat → Int32} (h1 : FrX u v q) (h2 : u 17 1 = nI 0) (h5 : r = nI 0) (h6 : u 17 5 = -1) (hR : RepS u q ρ n 0) (hW : Wp ρ n) (hp : pa (v 18) s = .inr ρ) : PIn r u v q s := by
  refine ⟨h1, h2, ?_⟩
  rw [hp]
  exact ⟨h5, h6, n, hR, hW⟩
theorem paF_e {t : Nat → Int32} {s m a tf ts : Nat} {ρ : Nat → Int32} (h : ¬ skp t s a < s) : paF t s m a ρ tf ts = .inr ρ := by
  cases m with
  | zero => rfl
  | succ m => unfold paF; rw [if_neg h]
theorem paF_l {t : Nat → Int32} {s m a tf ts n k p : Nat} {ρ : Nat → Int32} (hW : Wp ρ n) (h : skp t s a < s) (e : clR t s (skp t s a) ρ n tf ts = .inl (k, p)) : paF t s (m + 1) a ρ tf ts = .inl (k, p) := by
  unfold paF
  rw [if_pos h, hW.n, e]
theorem paF_r {t : Nat → Int32} {s m a tf ts n a1 tf1 ts1 : Nat} {ρ ρ1 : Nat → Int32} (hW : Wp ρ n) (h : skp t s a < s) (e : clR t s (skp t s a) ρ n tf ts = .inr (a1, ρ1, tf1, ts1)) : paF t s (m + 1) a ρ tf ts = paF t s m a1 ρ1 tf1 ts1 := by
  conv => lhs; unfold paF
  rw [if_pos h, hW.n, e]

set_option maxHeartbeats 600000 in
set_option maxRecDepth 100000 in
theorem c_X6_readInto (w : Wd) (v : Vm2) {q : Nat} (hq : IsS q) {s : Nat} (hs0 : v 17 1 = nI s) (hs : s ≤ 200) : CI w yX6_readInto cX6_readInto 3 (some .int) (rm 4 89) [.ref (wN w + 17), .ref (wN w + q)] v (fun r v' => PIn r v' v q s) := by
  have hds := hq.ds
  refine CI.of (by decide) (Nat.le_of_ble_eq_true rfl) ?_
  have K75b : ∀ (u : Vm2) (a tf ts k p c : Nat), FrX u v q → Tx u s a tf ts k (nI p) → 0 < k → k < 5 → pa (v 18) s = .inl (k, p) → J w yX6_readInto cX6_readInto 3 (some .int) (rm 4 89) XT (ZJ w 185 0 0 (PI w (fun r v' => PIn r v' v q s))) 75 [(0, .ref (wN w + 17)), (1, .ref (wN w + q)), (2, .int (nI c))] [] 185 (hv w (u)) 0 0 := by
    intro u a tf ts k p c hF hT h0 h5 hp
    refine J.aload_n 75 dX6_readInto_75 rfl rfl ?_
    refine J.iconst 76 (nI 0) dX6_readInto_76 (by decide +kernel) ?_
    refine V.putI 77 dX6_readInto_77 fl_RX6_19 fp_6_1 i_17_1 ?_
    refine J.aload_n 80 dX6_readInto_80 rfl rfl ?_
    refine V.getI 81 dX6_readInto_81 fl_RX6_30 i_17_4 ?_
    refine J.top (b := nI k) (by rw [up2_o _ _ (by omega)]; exact hT.2.2.1) ?_
    exact V.iret 84 dX6_readInto_84 (PIn.bad hF.up (up2_self _ _ _ _) h0 h5 rfl (by rw [up2_o _ _ (by omega)]; exact hT.2.2.2.1) hp)
  have K75g : ∀ (u : Vm2) (a tf ts n c : Nat) (ρ : Nat → Int32), FrX u v q → Tx u s a tf ts 0 (-1) → RepS u q ρ n 0 → Wp ρ n → pa (v 18) s = .inr ρ → J w yX6_readInto cX6_readInto 3 (some .int) (rm 4 89) XT (ZJ w 185 0 0 (PI w (fun r v' => PIn r v' v q s))) 75 [(0, .ref (wN w + 17)), (1, .ref (wN w + q)), (2, .int (nI c))] [] 185 (hv w (u)) 0 0 := by
    intro u a tf ts n c ρ hF hT hR hW hp
    refine J.aload_n 75 dX6_readInto_75 rfl rfl ?_
    refine J.iconst 76 (nI 0) dX6_readInto_76 (by decide +kernel) ?_
    refine V.putI 77 dX6_readInto_77 fl_RX6_19 fp_6_1 i_17_1 ?_
    refine J.aload_n 80 dX6_readInto_80 rfl rfl ?_
    refine V.getI 81 dX6_readInto_81 fl_RX6_30 i_17_4 ?_
    refine J.top (b := nI 0) (by rw [up2_o _ _ (by omega)]; exact hT.2.2.1) ?_
    exact V.iret 84 dX6_readInto_84 (PIn.ok hF.up (up2_self _ _ _ _) rfl (by rw [up2_o _ _ (by omega)]; exact hT.2.2.2.1) (hR.frt hq (FrT.rf u).up) hW hp)
  have K35b : ∀ (u : Vm2) (a tf ts k p c : Nat), FrX u v q → Tx u s a tf ts k (nI p) → a ≤ s → c ≤ 200 → 0 < k → k < 5 → pa (v 18) s = .inl (k, p) → J w yX6_readInto cX6_readInto 3 (some .int) (rm 4 89) XT (ZJ w 185 0 0 (PI w (fun r v' => PIn r v' v q s))) 35 [(0, .ref (wN w + 17)), (1, .ref (wN w + q)), (2, .int (nI c))] [] 185 (hv w (u)) 0 0 := by
    intro u a tf ts k p c hF hT ha hc h0 h5 hp
    refine J.iload_n 35 dX6_readInto_35 rfl rfl ?_
    refine J.sipush 36 (nI 200) dX6_readInto_36 (by decide +kernel) ?_
    refine V.icmp_ge 39 75 dX6_readInto_39 (by decide) (by omega) (by omega) (fun c39 => ?_) (fun c39 => ?_)
    · exact K75b u a tf ts k p c hF hT h0 h5 hp
    · refine J.aload_n 42 dX6_readInto_42 rfl rfl ?_
      refine V.getI 43 dX6_readInto_43 fl_RX6_27 i_17_2 ?_
      refine J.top hT.2.1 ?_
      refine J.aload_n 46 dX6_readInto_46 rfl rfl ?_
      refine V.getI 47 dX6_readInto_47 fl_RX6_19 i_17_1 ?_
      refine J.top hT.1 ?_
      refine V.icmp_ge 50 75 dX6_readInto_50 (by decide) (by omega) (by omega) (fun c50 => ?_) (fun c50 => ?_)
      · exact K75b u a tf ts k p c hF hT h0 h5 hp
      · refine J.aload_n 53 dX6_readInto_53 rfl rfl ?_
        refine V.getI 54 dX6_readInto_54 fl_RX6_30 i_17_4 ?_
        refine J.top hT.2.2.1 ?_
        refine V.if_ne 57 75 dX6_readInto_57 (by decide) (by omega) (fun c57 => ?_) (fun c57 => absurd c57 (by omega))
        exact K75b u a tf ts k p c hF hT h0 h5 hp
  have lp : ∀ (m : Nat) (c a tf ts n : Nat) (ρ : Nat → Int32) (u : Vm2), FrX u v q → Tx u s (skp (v 18) s a) tf ts 0 (-1) → RepS u q ρ n 0 → Wp ρ n → tf ≤ 1 → ts ≤ 1 → (c ≤ a ∧ a ≤ s) → (c ≤ 200) → pa (v 18) s = paF (v 18) s m a ρ tf ts → s - a < m → J w yX6_readInto cX6_readInto 3 (some .int) (rm 4 89) XT (ZJ w 185 0 0 (PI w (fun r v' => PIn r v' v q s))) 35 [(0, .ref (wN w + 17)), (1, .ref (wN w + q)), (2, .int (nI c))] [] 185 (hv w (u)) 0 0 := by
    intro m
    induction m with
    | zero =>
      intro c a tf ts n ρ u hi0 hi1 hi2 hi3 hi4 hi5 hi6 hi7 hi8 hm
      exact absurd hm (by omega)
    | succ m ih =>
      intro c a tf ts n ρ u hi0 hi1 hi2 hi3 hi4 hi5 hi6 hi7 hi8 hm
      have hb9 := skp_in (t := v 18) hi6.2
      have e18u : u 18 = v 18 := hi0 18 (by decide) (by omega)
      refine J.iload_n 35 dX6_readInto_35 rfl rfl ?_
      refine J.sipush 36 (nI 200) dX6_readInto_36 (by decide +kernel) ?_
      refine V.icmp_ge 39 75 dX6_readInto_39 (by decide) (by omega) (by omega) (fun c39 => ?_) (fun c39 => ?_)
      · exact K75g u _ tf ts n c ρ hi0 hi1 hi2 hi3 (hi8.trans (paF_e (by omega)))
      · refine J.aload_n 42 dX6_readInto_42 rfl rfl ?_
        refine V.getI 43 dX6_readInto_43 fl_RX6_27 i_17_2 ?_
        refine J.top hi1.2.1 ?_
        refine J.aload_n 46 dX6_readInto_46 rfl rfl ?_
        refine V.getI 47 dX6_readInto_47 fl_RX6_19 i_17_1 ?_
        refine J.top hi1.1 ?_
        refine V.icmp_ge 50 75 dX6_readInto_50 (by decide) (by omega) (by omega) (fun c50 => ?_) (fun c50 => ?_)
        · exact K75g u _ tf ts n c ρ hi0 hi1 hi2 hi3 (hi8.trans (paF_e (by omega)))
        · refine J.aload_n 53 dX6_readInto_53 rfl rfl ?_
          refine V.getI 54 dX6_readInto_54 fl_RX6_30 i_17_4 ?_
          refine J.top hi1.2.2.1 ?_
          refine V.if_ne 57 75 dX6_readInto_57 (by decide) (by omega) (fun c57 => absurd c57 (fun z => z rfl)) (fun c57 => ?_)
          refine J.aload_n 60 dX6_readInto_60 rfl rfl ?_
          refine J.aload_n 61 dX6_readInto_61 rfl rfl ?_
          refine V.callvU 62 dX6_readInto_62 ml_RX6_43 mi_yX6_readClause mv_yX6_readClause (c_X6_readClause w _ hq hi1 hs c50 hi2 hi3 hi4 hi5) rfl rfl (Nat.le_of_ble_eq_true rfl) (by decide) (by decide) o_17 rfl rfl (fun v62 h62 => ?_)
          obtain ⟨hF62, h62⟩ := h62
          have hF62 := hF62.trans hi0
          have e18 : v62 18 = v 18 := hF62 18 (by decide) (by omega)
          rw [e18u] at h62
          rcases hr9 : clR (v 18) s (skp (v 18) s a) ρ n tf ts with ⟨k, p⟩ | ⟨a1, ρ1, tf1, ts1⟩
          · rw [hr9] at h62
            obtain ⟨h0, h5, a0, tf0, ts0, ha0, hT0⟩ := h62
            have hb0 := skp_in (t := v 18) ha0
            refine J.aload_n 65 dX6_readInto_65 rfl rfl ?_
            refine V.callvU 66 dX6_readInto_66 ml_RX6_40 mi_yX6_skipBlanks mv_yX6_skipBlanks (c_X6_skipBlanks w _ hT0.1 hT0.2.1 (by omega) (by omega)) rfl rfl (Nat.le_of_ble_eq_true rfl) (by decide) (by decide) o_17 rfl rfl (fun v66 h66 => ?_)
            rw [e18] at h66
            subst h66
            refine V.iinc 69 dX6_readInto_69 rfl (by decide) ?_
            refine J.goto 72 35 dX6_readInto_72 (by decide) ?_
            exact K35b _ _ _ _ k p (c + 1) hF62.up (hT0.at _) hb0.2 (by omega) h0 h5 (hi8.trans (paF_l hi3 c50 hr9))
          · rw [hr9] at h62
            obtain ⟨hT0, n1, hR1, h1, h2⟩ := h62
            obtain ⟨g1, g2, g3, g4, n2, g5⟩ := clR_ok c50 hi3 hi4 hi5 hr9
            obtain rfl : n1 = n2 := (nI_eq (by omega) (by have := g5.2.1; omega)).mp (h1.symm.trans g5.1)
            refine J.aload_n 65 dX6_readInto_65 rfl rfl ?_
            refine V.callvU 66 dX6_readInto_66 ml_RX6_40 mi_yX6_skipBlanks mv_yX6_skipBlanks (c_X6_skipBlanks w _ hT0.1 hT0.2.1 (by omega) (by omega)) rfl rfl (Nat.le_of_ble_eq_true rfl) (by decide) (by decide) o_17 rfl rfl (fun v66 h66 => ?_)
            rw [e18] at h66
            subst h66
            refine V.iinc 69 dX6_readInto_69 rfl (by decide) ?_
            refine J.goto 72 35 dX6_readInto_72 (by decide) ?_
            exact ih (c + 1) a1 tf1 ts1 n1 ρ1 _ hF62.up (hT0.at _) (hR1.frt hq (FrT.rf v62).up) g5 g3 g4 (by omega) (by omega) (hi8.trans (paF_r hi3 c50 hr9)) (by omega)
  refine J.aload_n 0 dX6_readInto_0 rfl rfl ?_
  refine V.callvU 1 dX6_readInto_1 ml_RX6_22 mi_yX5_clear mv_yX5_clear (c_X5_clear w _ hq) rfl rfl (Nat.le_of_ble_eq_true rfl) (by decide) (by decide) hq.o rfl rfl (fun v1 h1 => ?_)
  obtain ⟨h1a, h1b⟩ := h1
  have hT1 : Tx (up2 (up2 (up2 (up2 (up2 v1 17 2 (nI 0)) 17 4 (nI 0)) 17 5 (-1)) 17 6 (nI 0)) 17 7 (nI 0)) s 0 0 0 0 (-1) := ⟨by simp [up2]; rw [h1b 17 (by omega)]; exact hs0, by simp [up2], by simp [up2], by simp [up2], by simp [up2], by simp [up2]⟩
  refine J.aload_n 4 dX6_readInto_4 rfl rfl ?_
  refine J.iconst 5 (nI 0) dX6_readInto_5 (by decide +kernel) ?_
  refine V.putI 6 dX6_readInto_6 fl_RX6_27 fp_6_2 i_17_2 ?_
  refine J.aload_n 9 dX6_readInto_9 rfl rfl ?_
  refine J.iconst 10 (nI 0) dX6_readInto_10 (by decide +kernel) ?_
  refine V.putI 11 dX6_readInto_11 fl_RX6_30 fp_6_4 i_17_4 ?_
  refine J.aload_n 14 dX6_readInto_14 rfl rfl ?_
  refine J.iconst 15 (-1) dX6_readInto_15 (by decide +kernel) ?_
  refine V.putI 16 dX6_readInto_16 fl_RX6_15 fp_6_5 i_17_5 ?_
  refine J.aload_n 19 dX6_readInto_19 rfl rfl ?_
  refine J.iconst 20 (nI 0) dX6_readInto_20 (by decide +kernel) ?_
  refine V.putZ 21 dX6_readInto_21 fl_RX6_33 fp_6_6 i_17_6 (by first | exact Or.inl rfl | exact Or.inr rfl) ?_
  refine J.aload_n 24 dX6_readInto_24 rfl rfl ?_
  refine J.iconst 25 (nI 0) dX6_readInto_25 (by decide +kernel) ?_
  refine V.putZ 26 dX6_readInto_26 fl_RX6_37 fp_6_7 i_17_7 (by first | exact Or.inl rfl | exact Or.inr rfl) ?_
  refine J.aload_n 29 dX6_readInto_29 rfl rfl ?_
  refine V.callvU 30 dX6_readInto_30 ml_RX6_40 mi_yX6_skipBlanks mv_yX6_skipBlanks (c_X6_skipBlanks w _ hT1.1 hT1.2.1 (by omega) (by omega)) rfl rfl (Nat.le_of_ble_eq_true rfl) (by decide) (by decide) o_17 rfl rfl (fun v30 h30 => ?_)
  rw [show (up2 (up2 (up2 (up2 (up2 v1 17 2 (nI 0)) 17 4 (nI 0)) 17 5 (-1)) 17 6 (nI 0)) 17 7 (nI 0)) 18 = v 18 from by rw [up2_ne _ _ _ (by decide), up2_ne _ _ _ (by decide), up2_ne _ _ _ (by decide), up2_ne _ _ _ (by decide), up2_ne _ _ _ (by decide)]; exact h1b 18 (by omega)] at h30
  subst h30
  refine J.iconst 33 (nI 0) dX6_readInto_33 (by decide +kernel) ?_
  refine J.istore_n 34 dX6_readInto_34 rfl (by decide) ?_
  exact lp (s + 1) 0 0 0 0 0 rw0 _ (FrX.trans (FrT.rf v1).up.up.up.up.up.up.x h1b.x) (hT1.at _) (h1a.frt hq (FrT.rf v1).up.up.up.up.up.up) Wp_rw0 (by decide) (by decide) (by omega) (by omega) rfl (by omega)
