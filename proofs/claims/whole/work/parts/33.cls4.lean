/-! ===== part 33: a State goes on ===== -/
theorem st_eq {s x : Int32} (h : ∃ st, st ≤ 80 ∧ s = nI st) : maF (-s) (miF s x) = if x ≤ s then (if -s ≤ x then x else -s) else s := by
  obtain ⟨t, ht, rfl⟩ := h
  have e1 := nI_toInt (n := t) (by omega)
  have e2 : (-(nI t)).toInt = -(t : Int) := by rw [Jvm.Kit.i32_neg (by omega), e1]
  unfold maF miF
  by_cases h1 : x < nI t
  · have a := Int32.lt_iff_toInt_lt.mp h1
    rw [if_pos h1, if_pos (Int32.le_of_lt h1)]
    by_cases h2 : -(nI t) < x
    · rw [if_pos h2, if_pos (Int32.le_of_lt h2)]
    · rw [if_neg h2]
      by_cases h3 : -(nI t) ≤ x
      · rw [if_pos h3]
        exact Int32.le_antisymm h3 (Int32.not_lt.mp h2)
      · rw [if_neg h3]
  · rw [if_neg h1]
    have a := Int32.not_lt.mp h1
    have a' := Int32.le_iff_toInt_le.mp a
    by_cases h4 : x ≤ nI t
    · have e := Int32.le_antisymm h4 a
      subst e
      rw [if_pos h4]
      by_cases h2 : -(nI t) < nI t
      · rw [if_pos h2, if_pos (Int32.le_of_lt h2)]
      · rw [if_neg h2]
        by_cases h3 : -(nI t) ≤ nI t
        · rw [if_pos h3]; exact Int32.le_antisymm h3 (Int32.not_lt.mp h2)
        · rw [if_neg h3]
    · rw [if_neg h4]
      by_cases h2 : -(nI t) < nI t
      · rw [if_pos h2]
      · rw [if_neg h2]
        have h3 : ¬ (-(nI t)).toInt < (nI t).toInt := fun z => h2 (Int32.lt_iff_toInt_lt.mpr z)
        have : t = 0 := by omega
        subst this
        decide
theorem rgA_in (f : Nat → Int32) {n : Nat} (hn : n ≤ 8) : ∀ (m a cl : Nat), m ≤ 6 → a < m → cl < n → f (172 + a) = nI cl → rgA f m (184 + a) = if f (35 + cl) = 0 ∧ f (178 + a) ≤ f (3 + cl) then nI 1 else f (184 + a)
  | 0, a, cl, _, h, _, _ => absurd h (by omega)
  | m + 1, a, cl, hm, h, hcl, e => by
    unfold rgA rgC
    by_cases ha : a = m
    · subst ha
      rw [upd_self, rgA_at f a (172 + a) (by omega), e, nI_clamp (by omega), rgA_at f a (35 + cl) (by omega), rgA_at f a (178 + a) (by omega), rgA_at f a (3 + cl) (by omega), rgA_at f a (184 + a) (by omega)]
    · rw [upd_ne _ _ (by omega)]
      exact rgA_in f hn m a cl (by omega) (by omega) hcl e
theorem tkA_st (f : Nat → Int32) {c : Nat} (hc : c < 8) : ∀ n, n ≤ 8 → ¬ f (35 + c) = 0 → tkA f n (3 + c) = f (3 + c)
  | 0, _, _ => rfl
  | n + 1, hn, h => by
    unfold tkA
    by_cases e : c = n
    · subst e
      unfold tkC
      rw [tkA_at f c (35 + c) (by omega) (by omega), if_neg h]
      exact tkA_st f hc c (by omega) h
    · rw [tkC_at _ _ _ (by omega) (by omega)]
      exact tkA_st f hc n (by omega) h
def tk0 (f : Nat → Int32) (n : Nat) : Nat → Int32 := upd (tkA f n) 190 (tkA f n 190 + nI 1)
theorem tk0_at (f : Nat → Int32) {n k : Nat} (hn : n ≤ 8) (h1 : k ≠ 190) (h2 : k < 3 ∨ 27 ≤ k) : tk0 f n k = f k := by
  unfold tk0
  rw [upd_ne _ _ h1, tkA_at f n k (by omega) (by omega)]
/-- ringing what is due, or by the reference's way: alike, where the alarms stand as they must -/
theorem rgX_tk {ρ : Nat → Int32} {n f ma : Nat} (hW : Wf ρ n f ma) : rgX (tk0 ρ n) ma = tkF ρ n ma := by
  obtain ⟨h1, h2, h3, h4, h5, h6, h7, h8, h9⟩ := hW
  funext k
  show rgX (tk0 ρ n) ma k = rgA (tk0 ρ n) ma k
  by_cases hk : 184 ≤ k ∧ k < 184 + ma
  · obtain ⟨a, rfl⟩ : ∃ a, k = 184 + a := ⟨k - 184, by omega⟩
    have ha : a < ma := by omega
    obtain ⟨h01, cl, hcl, ecl, hal⟩ := h9 a ha
    have e1 : tk0 ρ n (172 + a) = nI cl := by rw [tk0_at _ h2 (by omega) (by omega)]; exact ecl
    rw [rgA_in _ h2 ma a cl h7 ha hcl e1]
    unfold rgX due
    rw [Nat.add_sub_cancel_left, e1, nI_clamp (by omega)]
    by_cases d : tk0 ρ n (178 + a) ≤ tk0 ρ n (3 + cl)
    · rw [if_pos ⟨by omega, by omega, d⟩]
      by_cases s : tk0 ρ n (35 + cl) = 0
      · rw [if_pos ⟨s, d⟩]
      · rw [if_neg (fun z => s z.1)]
        rw [tk0_at _ h2 (by omega) (by omega)] at s
        have d2 := d
        rw [tk0_at _ h2 (by omega) (by omega)] at d2
        have e3 : tk0 ρ n (3 + cl) = ρ (3 + cl) := by
          unfold tk0
          rw [upd_ne _ _ (by omega)]
          exact tkA_st ρ (by omega) n h2 s
        rw [e3] at d2
        rw [tk0_at _ h2 (by omega) (by omega)]
        rcases h01 with z | z
        · exact absurd (hal z) (Int32.not_lt.mpr d2)
        · exact z.symm
    · rw [if_neg (fun z => d z.2.2), if_neg (fun z => d z.2)]
  · rw [show rgX (tk0 ρ n) ma k = tk0 ρ n k from if_neg (fun z => hk ⟨z.1, z.2.1⟩), rgA_at _ _ _ (by omega)]
theorem Al0_tk {ρ : Nat → Int32} {n f ma : Nat} (hW : Wf ρ n f ma) : Al0 (tk0 ρ n) n ma := by
  obtain ⟨h1, h2, h3, h4, h5, h6, h7, h8, h9⟩ := hW
  intro a ha
  obtain ⟨h01, cl, hcl, ecl, hal⟩ := h9 a ha
  rw [tk0_at _ h2 (by omega) (by omega), tk0_at _ h2 (by omega) (by omega)]
  exact ⟨h01, cl, hcl, ecl⟩
theorem Wf_tk {ρ : Nat → Int32} {n f ma : Nat} (hW : Wf ρ n f ma) : Wf (tkF ρ n ma) n f ma := by
  obtain ⟨h1, h2, h3, h4, h5, h6, h7, h8, h9⟩ := hW
  have o : ∀ k, k ≠ 190 → (k < 3 ∨ 27 ≤ k) → (k < 184 ∨ 184 + ma ≤ k) → tkF ρ n ma k = ρ k := fun k a b c => tkF_at ρ h2 a b c
  refine ⟨?_, h2, ?_, h4, ?_, ?_, h7, fun c hc => ?_, fun a ha => ?_⟩
  · rw [o _ (by omega) (by omega) (by omega)]; exact h1
  · rw [o _ (by omega) (by omega) (by omega)]; exact h3
  · rw [o _ (by omega) (by omega) (by omega)]; exact h5
  · rw [o _ (by omega) (by omega) (by omega)]; exact h6
  · rw [o _ (by omega) (by omega) (by omega), o _ (by omega) (by omega) (by omega)]; exact h8 c hc
  · obtain ⟨h01, cl, hcl, ecl, hal⟩ := h9 a ha
    have e1 : tk0 ρ n (172 + a) = nI cl := by rw [tk0_at _ h2 (by omega) (by omega)]; exact ecl
    have e2 : tkF ρ n ma (184 + a) = if tk0 ρ n (35 + cl) = 0 ∧ tk0 ρ n (178 + a) ≤ tk0 ρ n (3 + cl) then nI 1 else tk0 ρ n (184 + a) := rgA_in _ h2 ma a cl h7 ha hcl e1
    have e3 : tkF ρ n ma (3 + cl) = tk0 ρ n (3 + cl) := rgA_at _ _ _ (by omega)
    have e4 : tkF ρ n ma (178 + a) = tk0 ρ n (178 + a) := rgA_at _ _ _ (by omega)
    refine ⟨?_, cl, hcl, ?_, fun z => ?_⟩
    · rw [e2]
      split
      · exact Or.inr rfl
      · rw [tk0_at _ h2 (by omega) (by omega)]; exact h01
    · rw [o _ (by omega) (by omega) (by omega)]; exact ecl
    · rw [e2] at z
      rw [e3, e4]
      by_cases s : tk0 ρ n (35 + cl) = 0
      · by_cases d : tk0 ρ n (178 + a) ≤ tk0 ρ n (3 + cl)
        · rw [if_pos ⟨s, d⟩] at z
          exact absurd z (by decide)
        · exact Int32.not_le.mp d
      · rw [if_neg (fun y => s y.1), tk0_at _ h2 (by omega) (by omega)] at z
        rw [tk0_at _ h2 (by omega) (by omega)] at s
        have e5 : tk0 ρ n (3 + cl) = ρ (3 + cl) := by
          unfold tk0
          rw [upd_ne _ _ (by omega)]
          exact tkA_st ρ (by omega) n h2 s
        rw [e5, tk0_at _ h2 (by omega) (by omega)]
        exact hal z
def nwT (ρ σ : Nat → Int32) (ma : Nat) : Nat → Int32 := fun a => if a < ma ∧ σ (184 + a) = nI 1 ∧ ¬ ρ (184 + a) = nI 1 then nI 1 else 0
theorem nwT_tk {ρ : Nat → Int32} {n f ma : Nat} (hW : Wf ρ n f ma) : BM (nwX (tk0 ρ n) ma) = BM (nwT ρ (tkF ρ n ma) ma) := by
  refine BM_congr (fun a _ => ?_)
  rw [← rgX_tk hW]
  unfold nwX nwT
  by_cases ha : a < ma
  · have h2 := hW.2.1
    rw [tk0_at ρ h2 (show 184 + a ≠ 190 by have := hW.2.2.2.2.2.2.1; omega) (by omega)]
    unfold rgX
    rw [Nat.add_sub_cancel_left]
    by_cases r1 : ρ (184 + a) = nI 1
    · rw [if_neg (fun z => z.2.1 r1), if_neg (fun z => z.2.2 r1)]
    · by_cases d : due (tk0 ρ n) a
      · rw [if_pos ⟨ha, r1, d⟩, if_pos (show 184 ≤ 184 + a ∧ 184 + a < 184 + ma ∧ due (tk0 ρ n) a from ⟨by omega, by omega, d⟩), if_pos ⟨ha, rfl, r1⟩]
      · rw [if_neg (fun z => d z.2.2), if_neg (show ¬ (184 ≤ 184 + a ∧ 184 + a < 184 + ma ∧ due (tk0 ρ n) a) from fun z => d z.2.2), tk0_at ρ h2 (show 184 + a ≠ 190 by have := hW.2.2.2.2.2.2.1; omega) (by omega), if_neg (fun z => r1 z.2.1)]
  · rw [if_neg (fun z => ha z.1), if_neg (fun z => ha z.1)]

set_option maxHeartbeats 600000 in
set_option maxRecDepth 100000 in
theorem c_X5_goOn (w : Wd) (v : Vm2) {q : Nat} (hq : IsS q) {ρ : Nat → Int32} {n ma : Nat} (hR : RepS v q ρ n ma) {f : Nat} (hW : Wf ρ n f ma) : CI w yX5_goOn cX5_goOn 3 (some .int) (rm 1 22) [.ref (wN w + q)] v (fun r v' => r = BM (nwT ρ (tkF ρ n ma) ma) ∧ RepS v' q (tkF ρ n ma) n ma ∧ FrS v' v q) := by
  refine CI.of (by decide) (Nat.le_of_ble_eq_true rfl) ?_
  have K : ∀ u : Vm2, RepS u q (tkA ρ n) n ma → FrS u v q → J w yX5_goOn cX5_goOn 3 (some .int) (rm 1 22) XT (ZJ w 185 0 0 (PI w (fun r v' => r = BM (nwT ρ (tkF ρ n ma) ma) ∧ RepS v' q (tkF ρ n ma) n ma ∧ FrS v' v q))) 73 [(0, .ref (wN w + q)), (1, .int (nI n))] [] 185 (hv w (u)) 0 0 := by
    intro u h1 h2
    have hn := hW.2.1
    have hma := hW.2.2.2.2.2.2.1
    refine J.aload_n 73 dX5_goOn_73 rfl rfl ?_
    refine J.dup 74 dX5_goOn_74 rfl ?_
    refine V.getI 75 dX5_goOn_75 fl_RX5_55 hq.i7 ?_
    refine J.top h1.1.2.2.2.2 ?_
    refine J.iconst 78 (nI 1) dX5_goOn_78 (by decide +kernel) ?_
    refine J.iadd 79 dX5_goOn_79 ?_
    refine V.putI 80 dX5_goOn_80 fl_RX5_55 fp_5_7 hq.i7 ?_
    have hR3 : RepS (up2 u q 7 (tkA ρ n 190 + nI 1)) q (tk0 ρ n) n ma := h1.tim hn hma _
    refine J.aload_n 83 dX5_goOn_83 rfl rfl ?_
    refine V.callv 84 dX5_goOn_84 ml_RX5_107 mi_yX5_ring mv_yX5_ring (c_X5_ring w _ hq hR3 ((tk0_at _ hn (by omega) (by omega)).trans hW.2.2.2.2.2.1) hn hma (Al0_tk hW)) rfl rfl (Nat.le_of_ble_eq_true rfl) (by decide) (by decide) hq.o rfl rfl (fun r84 v84 h84 => ?_)
    obtain ⟨rfl, rfl⟩ := h84
    exact V.iret 87 dX5_goOn_87 (⟨nwT_tk hW, by rw [← rgX_tk hW]; exact rg_rep hR3 hn hma (Al0_tk hW), (h2.up (by omega) (by omega)).up (by omega) (by omega)⟩)
  have lp : ∀ (m : Nat) (c : Nat) (u : Vm2), (c ≤ n) → (RepS u q (tkA ρ c) n ma) → (FrS u v q) → n - c < m → J w yX5_goOn cX5_goOn 3 (some .int) (rm 1 22) XT (ZJ w 185 0 0 (PI w (fun r v' => r = BM (nwT ρ (tkF ρ n ma) ma) ∧ RepS v' q (tkF ρ n ma) n ma ∧ FrS v' v q))) 2 [(0, .ref (wN w + q)), (1, .int (nI c))] [] 185 (hv w (u)) 0 0 := by
    intro m
    induction m with
    | zero =>
      intro c u hi0 hi1 hi2 hm
      exact absurd hm (by omega)
    | succ m ih =>
      intro c u hi0 hi1 hi2 hm
      have hn := hW.2.1
      have hma := hW.2.2.2.2.2.2.1
      refine J.iload_n 2 dX5_goOn_2 rfl rfl ?_
      refine J.aload_n 3 dX5_goOn_3 rfl rfl ?_
      refine V.getI 4 dX5_goOn_4 fl_RX5_37 hq.i0 ?_
      refine J.top (b := nI n) (hi1.1.1.trans ((tkA_at _ _ _ (by omega) (by omega)).trans hW.1)) ?_
      refine V.icmp_ge 7 73 dX5_goOn_7 (by decide) (by omega) (by omega) (fun c7 => ?_) (fun c7 => ?_)
      · obtain rfl : c = n := by omega
        exact K u hi1 hi2
      · refine J.aload_n 10 dX5_goOn_10 rfl rfl ?_
        refine J.iload_n 11 dX5_goOn_11 rfl rfl ?_
        refine V.callvP 12 dX5_goOn_12 ml_RX5_77 mi_yX5_stands mv_yX5_stands (c_X5_stands w _ hq (g := fun b9 => (tkA ρ c) (35 + b9)) hi1.2.1.2.1 (by omega)) rfl rfl (Nat.le_of_ble_eq_true rfl) (by decide) (by decide) hq.o rfl rfl ?_
        refine V.if_neB 15 67 dX5_goOn_15 (by decide) (fun c15 => ?_) (fun c15 => ?_)
        · have e1 : tkA ρ (c + 1) = tkA ρ c := by show tkC (tkA ρ c) c = _; unfold tkC; rw [if_neg (fun z => by rw [c15] at z; exact absurd z (by decide))]
          refine V.iinc 67 dX5_goOn_67 rfl (by decide) ?_
          refine J.goto 70 2 dX5_goOn_70 (by decide) ?_
          exact ih (c + 1) _ (by omega) (by rw [e1]; exact hi1) hi2 (by omega)
        · have hz0 : tkA ρ c (35 + c) = 0 := by rw [tkA_at _ _ _ (by omega) (by omega)] at c15 ⊢; exact (hW.z (by omega)).2.mpr c15
          refine J.aload_n 18 dX5_goOn_18 rfl rfl ?_
          refine V.getI 19 dX5_goOn_19 fl_RX5_9 hq.i2 ?_
          refine J.top hi1.1.2.2.1 ?_
          refine J.ineg 22 dX5_goOn_22 ?_
          refine J.aload_n 23 dX5_goOn_23 rfl rfl ?_
          refine V.getI 24 dX5_goOn_24 fl_RX5_9 hq.i2 ?_
          refine J.top hi1.1.2.2.1 ?_
          refine J.aload_n 27 dX5_goOn_27 rfl rfl ?_
          refine V.getR 28 dX5_goOn_28 fl_RX5_22 hq.r10 ?_
          refine J.iload_n 31 dX5_goOn_31 rfl rfl ?_
          refine V.iald 32 dX5_goOn_32 hq.a10 (by omega) ?_
          refine J.top (hi1.2.2.1 c c7).2.2 ?_
          refine V.callsP 33 dX5_goOn_33 ml_RX5_94 mi_yJ9_min_7cf53 ms_yJ9_min_7cf53 (c_J9_min_7cf53 w _ _ _) rfl rfl (Nat.le_of_ble_eq_true rfl) (by decide) (by decide) ?_
          refine V.callsP 36 dX5_goOn_36 ml_RX5_99 mi_yJ9_max_7cf53 ms_yJ9_max_7cf53 (c_J9_max_7cf53 w _ _ _) rfl rfl (Nat.le_of_ble_eq_true rfl) (by decide) (by decide) ?_
          refine J.top (b := stF9 (tkA ρ c) c) (st_eq (by rw [tkA_at _ _ _ (by omega) (by omega)]; exact hW.2.2.2.2.1)) ?_
          refine J.istore_n 39 dX5_goOn_39 rfl (by decide) ?_
          refine J.aload_n 40 dX5_goOn_40 rfl rfl ?_
          refine V.getR 41 dX5_goOn_41 fl_RX5_15 hq.r8 ?_
          refine J.iload_n 44 dX5_goOn_44 rfl rfl ?_
          refine J.dup2 45 dX5_goOn_45 rfl rfl ?_
          refine V.iald 46 dX5_goOn_46 hq.a8 (by omega) ?_
          refine J.top (hi1.2.2.1 c c7).1 ?_
          refine J.aload_n 47 dX5_goOn_47 rfl rfl ?_
          refine V.getR 48 dX5_goOn_48 fl_RX5_19 hq.r9 ?_
          refine J.iload_n 51 dX5_goOn_51 rfl rfl ?_
          refine V.iald 52 dX5_goOn_52 hq.a9 (by omega) ?_
          refine J.top (hi1.2.2.1 c c7).2.1 ?_
          refine J.iload_n 53 dX5_goOn_53 rfl rfl ?_
          refine J.iadd 54 dX5_goOn_54 ?_
          refine J.iadd 55 dX5_goOn_55 ?_
          refine V.iast 56 dX5_goOn_56 hq.a8 (by omega) ?_
          have hR1 := hi1.val c7 hn hma (tkA ρ c (3 + c) + (tkA ρ c (11 + c) + stF9 (tkA ρ c) c))
          refine J.aload_n 57 dX5_goOn_57 rfl rfl ?_
          refine V.getR 58 dX5_goOn_58 fl_RX5_22 hq.r10 ?_
          refine J.iload_n 61 dX5_goOn_61 rfl rfl ?_
          refine J.dup2 62 dX5_goOn_62 rfl rfl ?_
          refine V.iald 63 dX5_goOn_63 hq.a10 (by omega) ?_
          refine J.top (hR1.2.2.1 c c7).2.2 ?_
          refine J.iload_n 64 dX5_goOn_64 rfl rfl ?_
          refine J.isub 65 dX5_goOn_65 ?_
          refine V.iast 66 dX5_goOn_66 hq.a10 (by omega) ?_
          have hR2 := hR1.ahd c7 hn hma (upd (tkA ρ c) (3 + c) (tkA ρ c (3 + c) + (tkA ρ c (11 + c) + stF9 (tkA ρ c) c)) (19 + c) - stF9 (tkA ρ c) c)
          have e1 : tkA ρ (c + 1) = _ := (show tkC (tkA ρ c) c = _ from if_pos hz0)
          rw [← e1] at hR2
          refine V.iinc 67 dX5_goOn_67 rfl (by decide) ?_
          refine J.goto 70 2 dX5_goOn_70 (by decide) ?_
          refine J.drop 2 ?_
          exact ih (c + 1) _ (by omega) hR2 ((hi2.up (by omega) (by omega)).up (by omega) (by omega)) (by omega)
  refine J.iconst 0 (nI 0) dX5_goOn_0 (by decide +kernel) ?_
  refine J.istore_n 1 dX5_goOn_1 rfl (by decide) ?_
  exact lp (n + 1) 0 v (by omega) hR (FrS.rf v q) (by omega)
