/-! ===== part 40: the class's text ===== -/
def Tx (u : Vm2) (s a tf ts k : Nat) (p : Int32) : Prop := u 17 1 = nI s ∧ u 17 2 = nI a ∧ u 17 4 = nI k ∧ u 17 5 = p ∧ u 17 6 = nI tf ∧ u 17 7 = nI ts
theorem Tx.of {u v : Vm2} {s a tf ts k : Nat} {p : Int32} (h : Tx v s a tf ts k p) (e : u 17 = v 17) : Tx u s a tf ts k p := by
  unfold Tx
  rw [e]
  exact h
theorem Tx.at {u : Vm2} {s a tf ts k : Nat} {p : Int32} (h : Tx u s a tf ts k p) (b : Nat) : Tx (up2 u 17 2 (nI b)) s b tf ts k p := by
  obtain ⟨h1, h2, h3, h4, h5, h6⟩ := h
  exact ⟨by rw [up2_o _ _ (by omega)]; exact h1, up2_self _ _ _ _, by rw [up2_o _ _ (by omega)]; exact h3, by rw [up2_o _ _ (by omega)]; exact h4, by rw [up2_o _ _ (by omega)]; exact h5, by rw [up2_o _ _ (by omega)]; exact h6⟩
theorem Tx.na {u : Vm2} {s a tf ts k : Nat} {p : Int32} (h : Tx u s a tf ts k p) (x : Int32) : Tx (up2 u 17 3 x) s a tf ts k p := by
  obtain ⟨h1, h2, h3, h4, h5, h6⟩ := h
  exact ⟨by rw [up2_o _ _ (by omega)]; exact h1, by rw [up2_o _ _ (by omega)]; exact h2, by rw [up2_o _ _ (by omega)]; exact h3, by rw [up2_o _ _ (by omega)]; exact h4, by rw [up2_o _ _ (by omega)]; exact h5, by rw [up2_o _ _ (by omega)]; exact h6⟩
theorem Tx.tf {u : Vm2} {s a tf ts k : Nat} {p : Int32} (h : Tx u s a tf ts k p) (x : Nat) : Tx (up2 u 17 6 (nI x)) s a x ts k p := by
  obtain ⟨h1, h2, h3, h4, h5, h6⟩ := h
  exact ⟨by rw [up2_o _ _ (by omega)]; exact h1, by rw [up2_o _ _ (by omega)]; exact h2, by rw [up2_o _ _ (by omega)]; exact h3, by rw [up2_o _ _ (by omega)]; exact h4, up2_self _ _ _ _, by rw [up2_o _ _ (by omega)]; exact h6⟩
theorem Tx.ts {u : Vm2} {s a tf ts k : Nat} {p : Int32} (h : Tx u s a tf ts k p) (x : Nat) : Tx (up2 u 17 7 (nI x)) s a tf x k p := by
  obtain ⟨h1, h2, h3, h4, h5, h6⟩ := h
  exact ⟨by rw [up2_o _ _ (by omega)]; exact h1, by rw [up2_o _ _ (by omega)]; exact h2, by rw [up2_o _ _ (by omega)]; exact h3, by rw [up2_o _ _ (by omega)]; exact h4, by rw [up2_o _ _ (by omega)]; exact h5, up2_self _ _ _ _⟩
def ntK (k K : Nat) : Nat := if K = 0 then k else if k = 0 then K else k
def ntP (k K : Nat) (p : Int32) (b : Nat) : Int32 := if K = 0 then p else if k = 0 then nI b else p
def ntU (u : Vm2) (k K b : Nat) : Vm2 := if k = 0 then up2 (up2 u 17 4 (nI K)) 17 5 (nI b) else u
theorem Tx.nt {u : Vm2} {s a tf ts k K b : Nat} {p : Int32} (h : Tx u s a tf ts k p) (hK : K ≠ 0) : Tx (ntU u k K b) s a tf ts (ntK k K) (ntP k K p b) := by
  obtain ⟨h1, h2, h3, h4, h5, h6⟩ := h
  unfold ntU ntK ntP
  rw [if_neg hK, if_neg hK]
  by_cases e : k = 0
  · rw [if_pos e, if_pos e, if_pos e]
    exact ⟨by rw [up2_o _ _ (by omega), up2_o _ _ (by omega)]; exact h1, by rw [up2_o _ _ (by omega), up2_o _ _ (by omega)]; exact h2, by rw [up2_o _ _ (by omega), up2_self], up2_self _ _ _ _, by rw [up2_o _ _ (by omega), up2_o _ _ (by omega)]; exact h5, by rw [up2_o _ _ (by omega), up2_o _ _ (by omega)]; exact h6⟩
  · rw [if_neg e, if_neg e, if_neg e]
    exact ⟨h1, h2, h3, h4, h5, h6⟩
theorem ntU_o (u : Vm2) {k K b c : Nat} (h : c ≠ 17) : ntU u k K b c = u c := by
  unfold ntU
  split
  · rw [up2_ne _ _ _ h, up2_ne _ _ _ h]
  · rfl
theorem ntU_3 (u : Vm2) {k K b : Nat} : ntU u k K b 17 3 = u 17 3 := by
  unfold ntU
  split
  · rw [up2_o _ _ (by omega), up2_o _ _ (by omega)]
  · rfl
def FrT (u v : Vm2) : Prop := ∀ c, c ≠ 17 → u c = v c
theorem FrT.rf (v : Vm2) : FrT v v := fun _ _ => rfl
theorem FrT.up {u v : Vm2} {i : Nat} {x : Int32} (h : FrT u v) : FrT (up2 u 17 i x) v := fun c hc => by rw [up2_ne _ _ _ hc]; exact h c hc
theorem FrT.nt {u v : Vm2} {k K b : Nat} (h : FrT u v) : FrT (ntU u k K b) v := fun c hc => by rw [ntU_o _ hc]; exact h c hc
theorem FrT.trans {u v x : Vm2} (h1 : FrT u v) (h2 : FrT v x) : FrT u x := fun a ha => (h1 a ha).trans (h2 a ha)
theorem nu_1 {t : Nat → Int32} {s b : Nat} {lo hi : Int32} (h : ¬ (b < s ∧ isD (t b))) : nuK t s b lo hi = 1 := by
  unfold nuK
  rw [if_pos]
  unfold ltr
  by_cases e : b < s
  · rw [if_pos e]; exact fun z => h ⟨e, z⟩
  · rw [if_neg e]; decide
theorem nu_2 {t : Nat → Int32} {s b : Nat} {lo hi : Int32} (h : b < s ∧ isD (t b)) : nuK t s b lo hi = if 4 < nuE t s b - b ∨ ¬ inF (nuV t s b) lo hi then 2 else 0 := by
  unfold nuK
  rw [if_neg]
  unfold ltr
  rw [if_pos h.1]
  exact fun z => z h.2
theorem lk_def {x : Int32} (h1 : ¬ x = nI 102) (h2 : ¬ x = nI 107) (h3 : ¬ x = nI 108) (h4 : ¬ x = nI 115) : Op.lookupswitch.offset (#[(102, 60), (107, 44), (108, 52), (115, 68)] : Array (Int × Int)).toList 76 x.toInt = 76 := by
  have k : ∀ m : Nat, m < 2 ^ 31 → ¬ x = nI m → ¬ x.toInt = (m : Int) := fun m hm h z => h (Int32.toInt_inj.mp (by rw [nI_toInt hm]; exact z))
  have a1 := k 102 (by decide) h1
  have a2 := k 107 (by decide) h2
  have a3 := k 108 (by decide) h3
  have a4 := k 115 (by decide) h4
  simp [Op.lookupswitch.offset]
  omega

set_option maxHeartbeats 600000 in
set_option maxRecDepth 100000 in
theorem c_X6_append (w : Wd) (v : Vm2) {s : Nat} {x : Int32} (hs0 : v 17 1 = nI s) (hs : s < 200) : CI w yX6_append cX6_append 2 (some .int) (rm 0 0) [.ref (wN w + 17), .int x] v (fun r v' => r = nI (s + 1) ∧ v' = up2 (up2 v 18 s x) 17 1 (nI (s + 1))) := by
  refine CI.of (by decide) (Nat.le_of_ble_eq_true rfl) ?_
  refine J.aload_n 0 dX6_append_0 rfl rfl ?_
  refine V.getI 1 dX6_append_1 fl_RX6_19 i_17_1 ?_
  refine J.top hs0 ?_
  refine J.sipush 4 (nI 200) dX6_append_4 (by decide +kernel) ?_
  refine V.icmp_ge 7 30 dX6_append_7 (by decide) (by omega) (by omega) (fun c7 => absurd c7 (by omega)) (fun c7 => ?_)
  refine J.aload_n 10 dX6_append_10 rfl rfl ?_
  refine V.getR 11 dX6_append_11 fl_RX6_9 r_17_0 ?_
  refine J.aload_n 14 dX6_append_14 rfl rfl ?_
  refine V.getI 15 dX6_append_15 fl_RX6_19 i_17_1 ?_
  refine J.top hs0 ?_
  refine J.iload_n 18 dX6_append_18 rfl rfl ?_
  refine V.iast 19 dX6_append_19 a_18 (by omega) ?_
  refine J.aload_n 20 dX6_append_20 rfl rfl ?_
  refine J.dup 21 dX6_append_21 rfl ?_
  refine V.getI 22 dX6_append_22 fl_RX6_19 i_17_1 ?_
  refine J.top (b := nI s) (by rw [up2_ne _ _ _ (by decide)]; exact hs0) ?_
  refine J.iconst 25 (nI 1) dX6_append_25 (by decide +kernel) ?_
  refine V.iadd 26 dX6_append_26 ?_
  refine V.putI 27 dX6_append_27 fl_RX6_19 fp_6_1 i_17_1 ?_
  refine J.aload_n 30 dX6_append_30 rfl rfl ?_
  refine V.getI 31 dX6_append_31 fl_RX6_19 i_17_1 ?_
  refine J.top (up2_self _ _ _ _) ?_
  exact V.iret 34 dX6_append_34 (⟨rfl, rfl⟩)
set_option maxHeartbeats 600000 in
set_option maxRecDepth 100000 in
theorem c_X6_note (w : Wd) (v : Vm2) {k K b : Nat} (hk0 : v 17 4 = nI k) (hk : k < 5) : CU w yX6_note cX6_note 3 (rm 0 0) [.ref (wN w + 17), .int (nI K), .int (nI b)] v (fun v' => v' = ntU v k K b) := by
  refine CU.of (by decide) (Nat.le_of_ble_eq_true rfl) ?_
  refine J.aload_n 0 dX6_note_0 rfl rfl ?_
  refine V.getI 1 dX6_note_1 fl_RX6_30 i_17_4 ?_
  refine J.top hk0 ?_
  refine V.if_ne 4 17 dX6_note_4 (by decide) (by omega) (fun c4 => ?_) (fun c4 => ?_)
  · exact V.vret 17 dX6_note_17 (by unfold ntU; first | rw [if_pos c4] | rw [if_neg c4])
  · refine J.aload_n 7 dX6_note_7 rfl rfl ?_
    refine J.iload_n 8 dX6_note_8 rfl rfl ?_
    refine V.putI 9 dX6_note_9 fl_RX6_30 fp_6_4 i_17_4 ?_
    refine J.aload_n 12 dX6_note_12 rfl rfl ?_
    refine J.iload_n 13 dX6_note_13 rfl rfl ?_
    refine V.putI 14 dX6_note_14 fl_RX6_15 fp_6_5 i_17_5 ?_
    exact V.vret 17 dX6_note_17 (by unfold ntU; first | rw [if_pos c4] | rw [if_neg c4])
set_option maxHeartbeats 600000 in
set_option maxRecDepth 100000 in
theorem c_X6_isFigure (w : Wd) (v : Vm2) {x : Int32} : CP w yX6_isFigure cX6_isFigure 1 (some .boolean) (rm 0 0) [.int x] v (bI (isD x)) := by
  refine CI.of (by decide) (Nat.le_of_ble_eq_true rfl) ?_
  refine J.iload_n 0 dX6_isFigure_0 rfl rfl ?_
  refine J.bipush 1 (nI 48) dX6_isFigure_1 (by decide +kernel) ?_
  refine J.icmp_lt 3 16 dX6_isFigure_3 (by decide) (fun c3 => ?_) (fun c3 => ?_)
  · refine J.iconst 16 (nI 0) dX6_isFigure_16 (by decide +kernel) ?_
    exact V.zret 17 dX6_isFigure_17 (Or.inl rfl) (⟨bI_f (fun z => by first | exact absurd c3 (Int32.not_lt.mpr z.1) | exact absurd c9 (Int32.not_lt.mpr z.2)), rfl⟩)
  · refine J.iload_n 6 dX6_isFigure_6 rfl rfl ?_
    refine J.bipush 7 (nI 57) dX6_isFigure_7 (by decide +kernel) ?_
    refine J.icmp_gt 9 16 dX6_isFigure_9 (by decide) (fun c9 => ?_) (fun c9 => ?_)
    · refine J.iconst 16 (nI 0) dX6_isFigure_16 (by decide +kernel) ?_
      exact V.zret 17 dX6_isFigure_17 (Or.inl rfl) (⟨bI_f (fun z => by first | exact absurd c3 (Int32.not_lt.mpr z.1) | exact absurd c9 (Int32.not_lt.mpr z.2)), rfl⟩)
    · refine J.iconst 12 (nI 1) dX6_isFigure_12 (by decide +kernel) ?_
      refine J.goto 13 17 dX6_isFigure_13 (by decide) ?_
      exact V.zret 17 dX6_isFigure_17 (Or.inr rfl) (⟨bI_t ⟨Int32.not_lt.mp c3, Int32.not_lt.mp c9⟩, rfl⟩)
set_option maxHeartbeats 600000 in
set_option maxRecDepth 100000 in
theorem c_X6_letter (w : Wd) (v : Vm2) {s a : Nat} (hs0 : v 17 1 = nI s) (ha0 : v 17 2 = nI a) (hs : s ≤ 200) (ha : a ≤ s) : CP w yX6_letter cX6_letter 1 (some .int) (rm 0 0) [.ref (wN w + 17)] v (if a < s then v 18 a else -1) := by
  refine CI.of (by decide) (Nat.le_of_ble_eq_true rfl) ?_
  refine J.aload_n 0 dX6_letter_0 rfl rfl ?_
  refine V.getI 1 dX6_letter_1 fl_RX6_27 i_17_2 ?_
  refine J.top ha0 ?_
  refine J.aload_n 4 dX6_letter_4 rfl rfl ?_
  refine V.getI 5 dX6_letter_5 fl_RX6_19 i_17_1 ?_
  refine J.top hs0 ?_
  refine V.icmp_ge 8 23 dX6_letter_8 (by decide) (by omega) (by omega) (fun c8 => ?_) (fun c8 => ?_)
  · refine J.iconst 23 (-1) dX6_letter_23 (by decide +kernel) ?_
    exact V.iret 24 dX6_letter_24 (⟨by first | exact (if_pos c8).symm | exact (if_neg (by omega)).symm, rfl⟩)
  · refine J.aload_n 11 dX6_letter_11 rfl rfl ?_
    refine V.getR 12 dX6_letter_12 fl_RX6_9 r_17_0 ?_
    refine J.aload_n 15 dX6_letter_15 rfl rfl ?_
    refine V.getI 16 dX6_letter_16 fl_RX6_27 i_17_2 ?_
    refine J.top ha0 ?_
    refine V.iald 19 dX6_letter_19 a_18 (by omega) ?_
    refine J.goto 20 24 dX6_letter_20 (by decide) ?_
    exact V.iret 24 dX6_letter_24 (⟨by first | exact (if_pos c8).symm | exact (if_neg (by omega)).symm, rfl⟩)
set_option maxHeartbeats 600000 in
set_option maxRecDepth 100000 in
theorem c_X6_skipBlanks (w : Wd) (v : Vm2) {s a : Nat} (hs0 : v 17 1 = nI s) (ha0 : v 17 2 = nI a) (hs : s ≤ 200) (ha : a ≤ s) : CU w yX6_skipBlanks cX6_skipBlanks 1 (rm 0 0) [.ref (wN w + 17)] v (fun v' => v' = up2 v 17 2 (nI (skp (v 18) s a))) := by
  refine CU.of (by decide) (Nat.le_of_ble_eq_true rfl) ?_
  have lp : ∀ (m : Nat) (c : Nat), (c ≤ s) → (skp (v 18) s c = skp (v 18) s a) → s - c < m → J w yX6_skipBlanks cX6_skipBlanks 1 none (rm 0 0) XT (ZJ w 185 0 0 (PU w (fun v' => v' = up2 v 17 2 (nI (skp (v 18) s a))))) 0 [(0, .ref (wN w + 17))] [] 185 (hv w (up2 v 17 2 (nI c))) 0 0 := by
    intro m
    induction m with
    | zero =>
      intro c hi0 hi1 hm
      exact absurd hm (by omega)
    | succ m ih =>
      intro c hi0 hi1 hm
      refine J.aload_n 0 dX6_skipBlanks_0 rfl rfl ?_
      refine V.getI 1 dX6_skipBlanks_1 fl_RX6_27 i_17_2 ?_
      refine J.top (up2_self _ _ _ _) ?_
      refine J.aload_n 4 dX6_skipBlanks_4 rfl rfl ?_
      refine V.getI 5 dX6_skipBlanks_5 fl_RX6_19 i_17_1 ?_
      refine J.top (b := nI s) (by rw [up2_o _ _ (by omega)]; exact hs0) ?_
      refine V.icmp_ge 8 38 dX6_skipBlanks_8 (by decide) (by omega) (by omega) (fun c8 => ?_) (fun c8 => ?_)
      · exact V.vret 38 dX6_skipBlanks_38 (by rw [← hi1, skp_n (fun z => by first | omega | exact c22 z.2)])
      · refine J.aload_n 11 dX6_skipBlanks_11 rfl rfl ?_
        refine V.getR 12 dX6_skipBlanks_12 fl_RX6_9 r_17_0 ?_
        refine J.aload_n 15 dX6_skipBlanks_15 rfl rfl ?_
        refine V.getI 16 dX6_skipBlanks_16 fl_RX6_27 i_17_2 ?_
        refine J.top (up2_self _ _ _ _) ?_
        refine V.iald 19 dX6_skipBlanks_19 a_18 (by omega) ?_
        refine J.top (b := v 18 c) (by rw [up2_ne _ _ _ (by decide)]) ?_
        refine J.bipush 20 (nI 32) dX6_skipBlanks_20 (by decide +kernel) ?_
        refine J.icmp_ne 22 38 dX6_skipBlanks_22 (by decide) (fun c22 => ?_) (fun c22 => ?_)
        · exact V.vret 38 dX6_skipBlanks_38 (by rw [← hi1, skp_n (fun z => by first | omega | exact c22 z.2)])
        · refine J.aload_n 25 dX6_skipBlanks_25 rfl rfl ?_
          refine J.dup 26 dX6_skipBlanks_26 rfl ?_
          refine V.getI 27 dX6_skipBlanks_27 fl_RX6_27 i_17_2 ?_
          refine J.top (up2_self _ _ _ _) ?_
          refine J.iconst 30 (nI 1) dX6_skipBlanks_30 (by decide +kernel) ?_
          refine V.iadd 31 dX6_skipBlanks_31 ?_
          refine V.putI 32 dX6_skipBlanks_32 fl_RX6_27 fp_6_2 i_17_2 ?_
          refine J.goto 35 0 dX6_skipBlanks_35 (by decide) ?_
          refine V.heapv (up2_up2 _ _ _ _ _) ?_
          exact ih (c + 1) (by omega) (by rw [← hi1]; exact (skp_y c8 c22).symm) (by omega)
  refine V.heapv (up2_id v ha0) ?_
  exact lp (s + 1) a ha rfl (by omega)
set_option maxHeartbeats 600000 in
set_option maxRecDepth 100000 in
theorem c_X6_readNumber (w : Wd) (v : Vm2) {s a tf ts k : Nat} {p : Int32} (hT : Tx v s a tf ts k p) (hs : s ≤ 200) (ha : a ≤ s) (hk : k < 5) {lo hi : Int32} : CI w yX6_readNumber cX6_readNumber 4 (some .int) (rm 1 22) [.ref (wN w + 17), .int lo, .int hi] v (fun r v' => r = nuV (v 18) s (skp (v 18) s a) ∧ Tx v' s (skp (v 18) s (nuE (v 18) s (skp (v 18) s a))) tf ts (ntK k (nuK (v 18) s (skp (v 18) s a) lo hi)) (ntP k (nuK (v 18) s (skp (v 18) s a) lo hi) p (skp (v 18) s a)) ∧ v' 17 3 = nI (skp (v 18) s a) ∧ FrT v' v) := by
  refine CI.of (by decide) (Nat.le_of_ble_eq_true rfl) ?_
  have hb := skp_in (t := v 18) ha
  obtain ⟨b, hbe⟩ : ∃ b, b = skp (v 18) s a := ⟨_, rfl⟩
  rw [← hbe] at hb ⊢
  have he := (dg_in (t := v 18) (fr := b) (x := nI 0) hb.2)
  have he8 : b ≤ nuE (v 18) s b ∧ nuE (v 18) s b ≤ s := he
  have K139 : ∀ (u : Vm2) (k9 : Nat) (p9 : Int32), FrT u v → Tx u s (nuE (v 18) s b) tf ts k9 p9 → u 17 3 = nI b → k9 = ntK k (nuK (v 18) s b lo hi) → p9 = ntP k (nuK (v 18) s b lo hi) p b → J w yX6_readNumber cX6_readNumber 4 (some .int) (rm 1 22) XT (ZJ w 185 0 0 (PI w (fun r v' => r = nuV (v 18) s b ∧ Tx v' s (skp (v 18) s (nuE (v 18) s b)) tf ts (ntK k (nuK (v 18) s b lo hi)) (ntP k (nuK (v 18) s b lo hi) p b) ∧ v' 17 3 = nI b ∧ FrT v' v))) 139 [(0, .ref (wN w + 17)), (1, .int lo), (2, .int hi), (3, .int (nuV (v 18) s b))] [] 185 (hv w (u)) 0 0 := by
    intro u k9 p9 f9 hT h3 ek ep
    subst ek ep
    have e18 := f9 18 (by decide)
    refine J.aload_n 139 dX6_readNumber_139 rfl rfl ?_
    refine V.callvU 140 dX6_readNumber_140 ml_RX6_40 mi_yX6_skipBlanks mv_yX6_skipBlanks (c_X6_skipBlanks w _ hT.1 hT.2.1 (by omega) (by omega)) rfl rfl (Nat.le_of_ble_eq_true rfl) (by decide) (by decide) o_17 rfl rfl (fun v140 h140 => ?_)
    rw [e18] at h140
    subst h140
    refine J.iload_n 143 dX6_readNumber_143 rfl rfl ?_
    exact V.iret 144 dX6_readNumber_144 (⟨rfl, hT.at _, by rw [up2_o _ _ (by omega)]; exact h3, f9.up⟩)
  have K84 : ∀ (u : Vm2), FrT u v → Tx u s (nuE (v 18) s b) tf ts k p → u 17 3 = nI b → ((nuE (v 18) s b = b ∧ ¬ (b < s ∧ isD (v 18 b))) ∨ (nuE (v 18) s b ≠ b ∧ b < s ∧ isD (v 18 b))) → J w yX6_readNumber cX6_readNumber 4 (some .int) (rm 1 22) XT (ZJ w 185 0 0 (PI w (fun r v' => r = nuV (v 18) s b ∧ Tx v' s (skp (v 18) s (nuE (v 18) s b)) tf ts (ntK k (nuK (v 18) s b lo hi)) (ntP k (nuK (v 18) s b lo hi) p b) ∧ v' 17 3 = nI b ∧ FrT v' v))) 84 [(0, .ref (wN w + 17)), (1, .int lo), (2, .int hi), (3, .int (nuV (v 18) s b))] [] 185 (hv w (u)) 0 0 := by
    intro u f9 hT h3 hor
    have he2 : b ≤ nuE (v 18) s b ∧ nuE (v 18) s b ≤ s := he
    refine J.aload_n 84 dX6_readNumber_84 rfl rfl ?_
    refine V.getI 85 dX6_readNumber_85 fl_RX6_27 i_17_2 ?_
    refine J.top hT.2.1 ?_
    refine J.aload_n 88 dX6_readNumber_88 rfl rfl ?_
    refine V.getI 89 dX6_readNumber_89 fl_RX6_81 i_17_3 ?_
    refine J.top h3 ?_
    refine V.icmp_ne 92 107 dX6_readNumber_92 (by decide) (by omega) (by omega) (fun c92 => ?_) (fun c92 => ?_)
    · have hD : b < s ∧ isD (v 18 b) := hor.elim (fun z => absurd z.1 c92) (fun z => z.2)
      refine J.aload_n 107 dX6_readNumber_107 rfl rfl ?_
      refine V.getI 108 dX6_readNumber_108 fl_RX6_27 i_17_2 ?_
      refine J.top hT.2.1 ?_
      refine J.aload_n 111 dX6_readNumber_111 rfl rfl ?_
      refine V.getI 112 dX6_readNumber_112 fl_RX6_81 i_17_3 ?_
      refine J.top h3 ?_
      refine V.isub 115 dX6_readNumber_115 (by omega) ?_
      refine J.iconst 116 (nI 4) dX6_readNumber_116 (by decide +kernel) ?_
      refine V.icmp_gt 117 130 dX6_readNumber_117 (by decide) (by omega) (by omega) (fun c117 => ?_) (fun c117 => ?_)
      · have hz9 : nuK (v 18) s b lo hi = 2 := by rw [nu_2 hD, if_pos (Or.inl c117)]
        refine J.aload_n 130 dX6_readNumber_130 rfl rfl ?_
        refine J.iconst 131 (nI 2) dX6_readNumber_131 (by decide +kernel) ?_
        refine J.aload_n 132 dX6_readNumber_132 rfl rfl ?_
        refine V.getI 133 dX6_readNumber_133 fl_RX6_81 i_17_3 ?_
        refine J.top h3 ?_
        refine V.callvU 136 dX6_readNumber_136 ml_RX6_63 mi_yX6_note mv_yX6_note (c_X6_note w _ hT.2.2.1 (by omega)) rfl rfl (Nat.le_of_ble_eq_true rfl) (by decide) (by decide) o_17 rfl rfl (fun v9 h9 => ?_)
        subst h9
        first | exact K139 _ _ _ f9 hT h3 (by rw [hz0]; rfl) (by rw [hz0]; rfl) | exact K139 _ _ _ f9.nt (hT.nt (by decide)) (by rw [ntU_3]; exact h3) (by rw [hz9]) (by first | (rw [hz9]; done) | (rw [hz9, c92]; done))
      · refine J.iload_n 120 dX6_readNumber_120 rfl rfl ?_
        refine J.iload_n 121 dX6_readNumber_121 rfl rfl ?_
        refine J.icmp_lt 122 130 dX6_readNumber_122 (by decide) (fun c122 => ?_) (fun c122 => ?_)
        · have hz9 : nuK (v 18) s b lo hi = 2 := by rw [nu_2 hD, if_pos (Or.inr (fun z => absurd c122 (Int32.not_lt.mpr z.1)))]
          refine J.aload_n 130 dX6_readNumber_130 rfl rfl ?_
          refine J.iconst 131 (nI 2) dX6_readNumber_131 (by decide +kernel) ?_
          refine J.aload_n 132 dX6_readNumber_132 rfl rfl ?_
          refine V.getI 133 dX6_readNumber_133 fl_RX6_81 i_17_3 ?_
          refine J.top h3 ?_
          refine V.callvU 136 dX6_readNumber_136 ml_RX6_63 mi_yX6_note mv_yX6_note (c_X6_note w _ hT.2.2.1 (by omega)) rfl rfl (Nat.le_of_ble_eq_true rfl) (by decide) (by decide) o_17 rfl rfl (fun v9 h9 => ?_)
          subst h9
          first | exact K139 _ _ _ f9 hT h3 (by rw [hz0]; rfl) (by rw [hz0]; rfl) | exact K139 _ _ _ f9.nt (hT.nt (by decide)) (by rw [ntU_3]; exact h3) (by rw [hz9]) (by first | (rw [hz9]; done) | (rw [hz9, c92]; done))
        · refine J.iload_n 125 dX6_readNumber_125 rfl rfl ?_
          refine J.iload_n 126 dX6_readNumber_126 rfl rfl ?_
          refine J.icmp_le 127 139 dX6_readNumber_127 (by decide) (fun c127 => ?_) (fun c127 => ?_)
          · have hz0 : nuK (v 18) s b lo hi = 0 := by rw [nu_2 hD, if_neg (fun z => z.elim (fun z => by omega) (fun z => z ⟨Int32.not_lt.mp c122, c127⟩))]
            first | exact K139 _ _ _ f9 hT h3 (by rw [hz0]; rfl) (by rw [hz0]; rfl) | exact K139 _ _ _ f9.nt (hT.nt (by decide)) (by rw [ntU_3]; exact h3) (by rw [hz9]) (by first | (rw [hz9]; done) | (rw [hz9, c92]; done))
          · have hz9 : nuK (v 18) s b lo hi = 2 := by rw [nu_2 hD, if_pos (Or.inr (fun z => c127 z.2))]
            refine J.aload_n 130 dX6_readNumber_130 rfl rfl ?_
            refine J.iconst 131 (nI 2) dX6_readNumber_131 (by decide +kernel) ?_
            refine J.aload_n 132 dX6_readNumber_132 rfl rfl ?_
            refine V.getI 133 dX6_readNumber_133 fl_RX6_81 i_17_3 ?_
            refine J.top h3 ?_
            refine V.callvU 136 dX6_readNumber_136 ml_RX6_63 mi_yX6_note mv_yX6_note (c_X6_note w _ hT.2.2.1 (by omega)) rfl rfl (Nat.le_of_ble_eq_true rfl) (by decide) (by decide) o_17 rfl rfl (fun v9 h9 => ?_)
            subst h9
            first | exact K139 _ _ _ f9 hT h3 (by rw [hz0]; rfl) (by rw [hz0]; rfl) | exact K139 _ _ _ f9.nt (hT.nt (by decide)) (by rw [ntU_3]; exact h3) (by rw [hz9]) (by first | (rw [hz9]; done) | (rw [hz9, c92]; done))
    · have hz9 : nuK (v 18) s b lo hi = 1 := nu_1 (hor.elim (fun z => z.2) (fun z => absurd c92 z.1))
      refine J.aload_n 95 dX6_readNumber_95 rfl rfl ?_
      refine J.iconst 96 (nI 1) dX6_readNumber_96 (by decide +kernel) ?_
      refine J.aload_n 97 dX6_readNumber_97 rfl rfl ?_
      refine V.getI 98 dX6_readNumber_98 fl_RX6_27 i_17_2 ?_
      refine J.top hT.2.1 ?_
      refine V.callvU 101 dX6_readNumber_101 ml_RX6_63 mi_yX6_note mv_yX6_note (c_X6_note w _ hT.2.2.1 (by omega)) rfl rfl (Nat.le_of_ble_eq_true rfl) (by decide) (by decide) o_17 rfl rfl (fun v9 h9 => ?_)
      subst h9
      refine J.goto 104 139 dX6_readNumber_104 (by decide) ?_
      first | exact K139 _ _ _ f9 hT h3 (by rw [hz0]; rfl) (by rw [hz0]; rfl) | exact K139 _ _ _ f9.nt (hT.nt (by decide)) (by rw [ntU_3]; exact h3) (by rw [hz9]) (by first | (rw [hz9]; done) | (rw [hz9, c92]; done))
  have lp : ∀ (m : Nat) (c : Nat) (x : Int32) (u : Vm2), (FrT u v) → (Tx u s c tf ts k p) → (u 17 3 = nI b) → (b ≤ c ∧ c ≤ s) → (dg (v 18) s b c x = dg (v 18) s b b (nI 0)) → s - c < m → J w yX6_readNumber cX6_readNumber 4 (some .int) (rm 1 22) XT (ZJ w 185 0 0 (PI w (fun r v' => r = nuV (v 18) s b ∧ Tx v' s (skp (v 18) s (nuE (v 18) s b)) tf ts (ntK k (nuK (v 18) s b lo hi)) (ntP k (nuK (v 18) s b lo hi) p b) ∧ v' 17 3 = nI b ∧ FrT v' v))) 14 [(0, .ref (wN w + 17)), (1, .int lo), (2, .int hi), (3, .int x)] [] 185 (hv w (u)) 0 0 := by
    intro m
    induction m with
    | zero =>
      intro c x u hi0 hi1 hi2 hi3 hi4 hm
      exact absurd hm (by omega)
    | succ m ih =>
      intro c x u hi0 hi1 hi2 hi3 hi4 hm
      have e18 := hi0 18 (by decide)
      refine J.aload_n 14 dX6_readNumber_14 rfl rfl ?_
      refine V.getI 15 dX6_readNumber_15 fl_RX6_27 i_17_2 ?_
      refine J.top hi1.2.1 ?_
      refine J.aload_n 18 dX6_readNumber_18 rfl rfl ?_
      refine V.getI 19 dX6_readNumber_19 fl_RX6_19 i_17_1 ?_
      refine J.top hi1.1 ?_
      refine V.icmp_ge 22 84 dX6_readNumber_22 (by decide) (by omega) (by omega) (fun c22 => ?_) (fun c22 => ?_)
      · have en : ¬ (c < s ∧ isD (v 18 c)) := fun z => by first | omega | exact c37 z.2
        have e1 := dg_n (fr := b) (x := x) en
        rw [hi4] at e1
        have e2 : nuE (v 18) s b = c := by unfold nuE; rw [e1]
        have e3 : nuV (v 18) s b = x := by unfold nuV; rw [e1]
        rw [← e3]
        refine K84 u hi0 (by rw [e2]; exact hi1) hi2 ?_
        rw [e2]
        by_cases z : c = b
        · exact Or.inl ⟨z, z ▸ en⟩
        · refine Or.inr ⟨z, ?_⟩
          by_cases y : b < s ∧ isD (v 18 b)
          · exact y
          · exact absurd (by have := dg_n (fr := b) (x := nI 0) y; rw [e1] at this; exact congrArg Prod.fst this) z
      · refine J.aload_n 25 dX6_readNumber_25 rfl rfl ?_
        refine V.getR 26 dX6_readNumber_26 fl_RX6_9 r_17_0 ?_
        refine J.aload_n 29 dX6_readNumber_29 rfl rfl ?_
        refine V.getI 30 dX6_readNumber_30 fl_RX6_27 i_17_2 ?_
        refine J.top hi1.2.1 ?_
        refine V.iald 33 dX6_readNumber_33 a_18 (by omega) ?_
        refine J.top (b := v 18 c) (by rw [e18]) ?_
        refine V.callsP 34 dX6_readNumber_34 ml_RX6_93 mi_yX6_isFigure ms_yX6_isFigure (c_X6_isFigure w _) rfl rfl (Nat.le_of_ble_eq_true rfl) (by decide) (by decide) ?_
        refine V.if_eqB 37 84 dX6_readNumber_37 (by decide) (fun c37 => ?_) (fun c37 => ?_)
        · have en : ¬ (c < s ∧ isD (v 18 c)) := fun z => by first | omega | exact c37 z.2
          have e1 := dg_n (fr := b) (x := x) en
          rw [hi4] at e1
          have e2 : nuE (v 18) s b = c := by unfold nuE; rw [e1]
          have e3 : nuV (v 18) s b = x := by unfold nuV; rw [e1]
          rw [← e3]
          refine K84 u hi0 (by rw [e2]; exact hi1) hi2 ?_
          rw [e2]
          by_cases z : c = b
          · exact Or.inl ⟨z, z ▸ en⟩
          · refine Or.inr ⟨z, ?_⟩
            by_cases y : b < s ∧ isD (v 18 b)
            · exact y
            · exact absurd (by have := dg_n (fr := b) (x := nI 0) y; rw [e1] at this; exact congrArg Prod.fst this) z
        · refine J.aload_n 40 dX6_readNumber_40 rfl rfl ?_
          refine V.getI 41 dX6_readNumber_41 fl_RX6_27 i_17_2 ?_
          refine J.top hi1.2.1 ?_
          refine J.aload_n 44 dX6_readNumber_44 rfl rfl ?_
          refine V.getI 45 dX6_readNumber_45 fl_RX6_81 i_17_3 ?_
          refine J.top hi2 ?_
          refine V.isub 48 dX6_readNumber_48 (by omega) ?_
          refine J.iconst 49 (nI 4) dX6_readNumber_49 (by decide +kernel) ?_
          refine V.icmp_ge 50 71 dX6_readNumber_50 (by decide) (by omega) (by omega) (fun c50 => ?_) (fun c50 => ?_)
          · have e9 := (dg_y (fr := b) (x := x) c22 c37).symm
            rw [if_neg (by omega)] at e9
            refine J.aload_n 71 dX6_readNumber_71 rfl rfl ?_
            refine J.dup 72 dX6_readNumber_72 rfl ?_
            refine V.getI 73 dX6_readNumber_73 fl_RX6_27 i_17_2 ?_
            refine J.top hi1.2.1 ?_
            refine J.iconst 76 (nI 1) dX6_readNumber_76 (by decide +kernel) ?_
            refine V.iadd 77 dX6_readNumber_77 ?_
            refine V.putI 78 dX6_readNumber_78 fl_RX6_27 fp_6_2 i_17_2 ?_
            refine J.goto 81 14 dX6_readNumber_81 (by decide) ?_
            exact ih (c + 1) _ _ hi0.up (hi1.at _) (by rw [up2_o _ _ (by omega)]; exact hi2) (by omega) (e9.trans hi4) (by omega)
          · have e9 := (dg_y (fr := b) (x := x) c22 c37).symm
            rw [if_pos (by omega)] at e9
            refine J.iload_n 53 dX6_readNumber_53 rfl rfl ?_
            refine J.bipush 54 (nI 10) dX6_readNumber_54 (by decide +kernel) ?_
            refine J.imul 56 dX6_readNumber_56 ?_
            refine J.aload_n 57 dX6_readNumber_57 rfl rfl ?_
            refine V.getR 58 dX6_readNumber_58 fl_RX6_9 r_17_0 ?_
            refine J.aload_n 61 dX6_readNumber_61 rfl rfl ?_
            refine V.getI 62 dX6_readNumber_62 fl_RX6_27 i_17_2 ?_
            refine J.top hi1.2.1 ?_
            refine V.iald 65 dX6_readNumber_65 a_18 (by omega) ?_
            refine J.top (b := v 18 c) (by rw [e18]) ?_
            refine J.iadd 66 dX6_readNumber_66 ?_
            refine J.bipush 67 (nI 48) dX6_readNumber_67 (by decide +kernel) ?_
            refine J.isub 69 dX6_readNumber_69 ?_
            refine J.top (b := nI 10 * x + v 18 c - nI 48) (by rw [Int32.mul_comm]) ?_
            refine J.istore_n 70 dX6_readNumber_70 rfl (by decide) ?_
            refine J.aload_n 71 dX6_readNumber_71 rfl rfl ?_
            refine J.dup 72 dX6_readNumber_72 rfl ?_
            refine V.getI 73 dX6_readNumber_73 fl_RX6_27 i_17_2 ?_
            refine J.top hi1.2.1 ?_
            refine J.iconst 76 (nI 1) dX6_readNumber_76 (by decide +kernel) ?_
            refine V.iadd 77 dX6_readNumber_77 ?_
            refine V.putI 78 dX6_readNumber_78 fl_RX6_27 fp_6_2 i_17_2 ?_
            refine J.goto 81 14 dX6_readNumber_81 (by decide) ?_
            exact ih (c + 1) _ _ hi0.up (hi1.at _) (by rw [up2_o _ _ (by omega)]; exact hi2) (by omega) (e9.trans hi4) (by omega)
  refine J.aload_n 0 dX6_readNumber_0 rfl rfl ?_
  refine V.callvU 1 dX6_readNumber_1 ml_RX6_40 mi_yX6_skipBlanks mv_yX6_skipBlanks (c_X6_skipBlanks w _ hT.1 hT.2.1 (by omega) (by omega)) rfl rfl (Nat.le_of_ble_eq_true rfl) (by decide) (by decide) o_17 rfl rfl (fun v1 h1 => ?_)
  rw [← hbe] at h1
  subst h1
  refine J.aload_n 4 dX6_readNumber_4 rfl rfl ?_
  refine J.aload_n 5 dX6_readNumber_5 rfl rfl ?_
  refine V.getI 6 dX6_readNumber_6 fl_RX6_27 i_17_2 ?_
  refine J.top (up2_self _ _ _ _) ?_
  refine V.putI 9 dX6_readNumber_9 fl_RX6_81 fp_6_3 i_17_3 ?_
  refine J.iconst 12 (nI 0) dX6_readNumber_12 (by decide +kernel) ?_
  refine J.istore_n 13 dX6_readNumber_13 rfl (by decide) ?_
  exact lp (s + 1) b (nI 0) _ (FrT.rf v).up.up ((hT.at b).na _) (up2_self _ _ _ _) ⟨Nat.le_refl b, hb.2⟩ rfl (by omega)
