/-! ===== part 22: the reference's public methods: what each answers and does ===== -/
theorem tsplit (x : Int32) (m : Nat) (hm : m < 1000) : (x.toInt < 0 ∨ (m : Int) < x.toInt) ∨ ∃ k, k ≤ m ∧ x = nI k := by
  by_cases h : 0 ≤ x.toInt ∧ x.toInt < ((m + 1 : Nat) : Int)
  · obtain ⟨c, hc, e⟩ := (clkB_nI (n := m + 1) (by omega)).mp h
    exact Or.inr ⟨c, by omega, e⟩
  · refine Or.inl ?_
    omega
theorem EqR.rf (v : Vm2) : EqR v v := ⟨fun _ _ _ _ _ => rfl, fun _ _ => rfl, fun _ _ => rfl⟩
theorem EqR.ord (v : Vm2) (o : Nat → Int32) : EqR (upR v 183 o) v := ⟨fun c _ _ h3 _ => upR_ne _ _ h3, fun b _ => by rw [upR_ne _ _ (by decide)], fun i _ => by rw [upR_ne _ _ (by decide)]⟩
theorem EqR.of_S {u v : Vm2} (h : EqS u v) : EqR u v := ⟨fun c _ _ h3 h4 => h c h3 h4, fun b _ => by rw [h 179 (by decide) (by decide)], fun i _ => by rw [h 178 (by decide) (by decide)]⟩
abbrev ix (x : Int32) : Nat := x.toNatClampNeg
theorem ix_nI {c n : Nat} (h : c < n) (hn : n ≤ 8) : ix (nI c) = c := nI_clamp (by omega)
/-! rows that agree where rows are rows -/
def Ag (f g : Nat → Int32) : Prop := ∀ k, k < 192 → f k = g k
theorem aimF_c {f g : Nat → Int32} (h : Ag f g) {c : Nat} (hc : c < 8) : aimF f c = aimF g c := by unfold aimF; rw [h _ (by omega), h _ (by omega)]
theorem trF_c {f g : Nat → Int32} (h : Ag f g) {c : Nat} (hc : c < 8) : trF f c ↔ trF g c := by unfold trF; rw [h _ (by omega), h _ (by omega)]
theorem liF_c {f g : Nat → Int32} (h : Ag f g) {c : Nat} (hc : c < 8) : liF f c ↔ liF g c := by unfold liF; rw [h _ (by omega), h _ (by omega)]
theorem heF_c {f g : Nat → Int32} (h : Ag f g) {j i : Nat} (hj : j < 8) (hi : i < 8) : heF f j i = heF g j i := by
  unfold heF
  rw [h _ (by omega), h _ (by omega), h _ (by omega), h _ (by omega), aimF_c h hi, aimF_c h hj]
theorem ordF_c {a b : Nat → Int32} : ∀ (n : Nat), (∀ j, j < n → a j = b j) → ordF a n = ordF b n
  | 0, _ => rfl
  | n + 1, h => by
    unfold ordF
    rw [ordF_c n (fun j hj => h j (by omega)), h n (by omega)]
theorem mdF_c {f g : Nat → Int32} (h : Ag f g) {n s i : Nat} (hn : n ≤ 8) (hi : i < 8) : mdF f n s i = mdF g n s i := by
  unfold mdF
  rw [aimF_c h hi, ordF_c n (fun j hj => heF_c h (show j < 8 by omega) hi)]
theorem rdF_c {f g : Nat → Int32} (h : Ag f g) {n s i : Nat} (hn : n ≤ 8) (hi : i < 8) : rdF f n s i = rdF g n s i := by
  unfold rdF
  by_cases ht : trF f i
  · rw [if_pos ht, if_pos ((trF_c h hi).mp ht), mdF_c h hn hi, h _ (by omega)]
  · rw [if_neg ht, if_neg (fun z => ht ((trF_c h hi).mpr z)), h _ (by omega)]
theorem loI_c {f g : Nat → Int32} (h : Ag f g) : ∀ (n : Nat), n ≤ 8 → loI f n = loI g n
  | 0, _ => rfl
  | n + 1, hn => by
    have ih := loI_c h n (by omega)
    have hl := loI_lt g n
    unfold loI
    rw [ih, aimF_c h (show n < 8 by omega)]
    cases hg : loI g n with
    | none =>
      by_cases ht : trF f n
      · rw [if_pos ht, if_pos ((trF_c h (by omega)).mp ht)]
      · rw [if_neg ht, if_neg (fun z => ht ((trF_c h (by omega)).mpr z))]
    | some l =>
      have := hl l hg
      dsimp only
      rw [aimF_c h (show l < 8 by omega)]
      by_cases ht : trF f n
      · rw [if_pos ht, if_pos ((trF_c h (by omega)).mp ht)]
      · rw [if_neg ht, if_neg (fun z => ht ((trF_c h (by omega)).mpr z))]
theorem hiI_c {f g : Nat → Int32} (h : Ag f g) : ∀ (n : Nat), n ≤ 8 → hiI f n = hiI g n
  | 0, _ => rfl
  | n + 1, hn => by
    have ih := hiI_c h n (by omega)
    have hl := hiI_lt g n
    unfold hiI
    rw [ih, aimF_c h (show n < 8 by omega)]
    cases hg : hiI g n with
    | none =>
      by_cases ht : trF f n
      · rw [if_pos ht, if_pos ((trF_c h (by omega)).mp ht)]
      · rw [if_neg ht, if_neg (fun z => ht ((trF_c h (by omega)).mpr z))]
    | some l =>
      have := hl l hg
      dsimp only
      rw [aimF_c h (show l < 8 by omega)]
      by_cases ht : trF f n
      · rw [if_pos ht, if_pos ((trF_c h (by omega)).mp ht)]
      · rw [if_neg ht, if_neg (fun z => ht ((trF_c h (by omega)).mpr z))]
theorem apF_c {f g : Nat → Int32} (h : Ag f g) {n : Nat} (hn : n ≤ 8) : apF f n = apF g n := by
  unfold apF
  rw [loI_c h n hn, hiI_c h n hn]
  cases h1 : loI g n with
  | none => rfl
  | some l =>
    cases h2 : hiI g n with
    | none => rfl
    | some k =>
      have := loI_lt g n l h1
      have := hiI_lt g n k h2
      dsimp only
      rw [aimF_c h (show l < 8 by omega), aimF_c h (show k < 8 by omega)]
theorem rmF_row (v : Vm2) {K : Nat} (hK : K ≤ 16) : Ag ((rmF v K) 179) (v 179) := by
  intro b hb
  unfold rmF
  split
  · simp only [up2, cpK, shK]
    rw [if_neg (by omega), if_neg (by omega), if_neg (by omega), if_neg (by omega)]
  · simp only [up2, cpK]
    rw [if_neg (by omega), if_neg (by omega)]
theorem rmF_o (v : Vm2) {K a : Nat} (h1 : a ≠ 178) (h2 : a ≠ 179) : (rmF v K) a = v a := by
  unfold rmF
  split
  · funext b
    simp only [up2, cpK, shK]
    rw [if_neg (by omega), if_neg (by omega), if_neg (by omega), if_neg (by omega)]
  · funext b
    simp only [up2, cpK]
    rw [if_neg (by omega), if_neg (by omega)]
def UN : Int32 := -1000000001
def OU : Int32 := -1000000002
def NO : Int32 := -1000000003
def FU : Int32 := -1000000004
abbrev prB (n : Nat) (j i : Int32) : Prop := clkB n j ∧ clkB n i ∧ j ≠ i
def F_feed (v : Vm2) (s : Nat) (x : Int32) : Int32 × Vm2 := if ¬ inF x (nI 0) (nI 255) then (OU, v) else if s = 200 then (FU, v) else (nI (s + 1), up2 (up2 v 180 s x) 178 4 (nI (s + 1)))
def tdK (v : Vm2) (n f ma wr : Nat) : Nat → Int32
  | 0 => v 179 0
  | 1 => v 179 1
  | 2 => v 179 2
  | 3 => v 178 4
  | 4 => bsI (fun c => v 179 (27 + c) = nI 1) n
  | 5 => bsI (fun c => v 179 (35 + c) = nI 1) n
  | 6 => bsI (fun c => trF (v 179) c) n
  | 7 => apF (v 179) n
  | 8 => wrF (v 179) n f
  | 9 => mlF (v 179) n
  | 10 => v 179 171
  | 11 => rsI (v 179) ma
  | 12 => v 179 190
  | 13 => v 178 8
  | 14 => weF (v 179) (v 181) (v 182) n wr 0
  | 15 => v 178 1
  | _ => OU
def F_told (v : Vm2) (n f ma wr : Nat) (x : Int32) : Int32 := if x.toInt < 0 ∨ 15 < x.toInt then OU else tdK v n f ma wr (ix x)
def ckK (ρ : Nat → Int32) (n f c : Nat) : Nat → Int32
  | 0 => ρ (3 + c)
  | 1 => ρ (11 + c)
  | 2 => ρ (19 + c) + nI 100000
  | 3 => aimF ρ c + nI 100000
  | 4 => ρ (27 + c)
  | 5 => ρ (35 + c)
  | 6 => if trF ρ c ∧ ¬ n ≤ 2 * f then mdF ρ n f c + nI 100000 else -1
  | _ => OU
def F_clock (ρ : Nat → Int32) (n f : Nat) (c x : Int32) : Int32 := if ¬ clkB n c then UN else if x.toInt < 0 ∨ 6 < x.toInt then OU else ckK ρ n f (ix c) (ix x)
def hdK (ρ : Nat → Int32) (n f j i : Nat) : Nat → Int32
  | 0 => heF ρ j i + nI 100000
  | 1 => ρ (43 + 8 * j + i) + nI 20
  | 2 => ρ (107 + 8 * j + i) + nI 9999
  | 3 => nI (rkF ρ j i n)
  | 4 => frF ρ n f j i
  | _ => OU
def F_heard (ρ : Nat → Int32) (n f : Nat) (j i x : Int32) : Int32 := if ¬ prB n j i then UN else if x.toInt < 0 ∨ 4 < x.toInt then OU else hdK ρ n f (ix j) (ix i) (ix x)
def alK (ρ : Nat → Int32) (a : Nat) : Nat → Int32
  | 0 => ρ (172 + a)
  | 1 => ρ (178 + a)
  | 2 => ρ (184 + a)
  | _ => OU
def F_alarmAt (ρ : Nat → Int32) (ma : Nat) (a x : Int32) : Int32 := if ¬ clkB ma a then UN else if x.toInt < 0 ∨ 2 < x.toInt then OU else alK ρ (ix a) (ix x)
def F_lie (v : Vm2) (n K : Nat) (j i x : Int32) : Int32 × Vm2 := if ¬ prB n j i then (UN, v) else if ¬ inF x (-9999) (nI 9999) then (OU, v) else (v 179 (107 + 8 * ix j + ix i) + nI 9999, up2 (rmF v K) 179 (107 + 8 * ix j + ix i) x)
def F_error (v : Vm2) (n K : Nat) (j i x : Int32) : Int32 × Vm2 := if ¬ prB n j i then (UN, v) else if ¬ inF x (-20) (nI 20) then (OU, v) else (v 179 (43 + 8 * ix j + ix i) + nI 20, up2 (rmF v K) 179 (43 + 8 * ix j + ix i) x)
def F_liar (v : Vm2) (n K : Nat) (c z : Int32) : Int32 × Vm2 := if ¬ clkB n c then (UN, v) else (smI (fun b => upd (v 179) (27 + ix c) (if z = 0 then nI 0 else nI 1) (27 + b)) n, up2 (rmF v K) 179 (27 + ix c) (if z = 0 then nI 0 else nI 1))
def F_stand (v : Vm2) (n K : Nat) (c : Int32) : Int32 × Vm2 := if ¬ clkB n c then (UN, v) else if v 179 (35 + ix c) = nI 1 then (NO, v) else (smI (fun b => upd (v 179) (35 + ix c) (nI 1) (35 + b)) n, up2 (rmF v K) 179 (35 + ix c) (nI 1))
def alW (v : Vm2) (K ma : Nat) (c x : Int32) : Vm2 := up2 (up2 (up2 (up2 (rmF v K) 179 (172 + ma) c) 179 (178 + ma) x) 179 (184 + ma) (if v 179 (3 + ix c) < x then nI 0 else nI 1)) 179 171 (nI (ma + 1))
def F_alarm (v : Vm2) (n K ma : Nat) (c x : Int32) : Int32 × Vm2 := if ¬ clkB n c then (UN, v) else if ¬ inF x (nI 0) (nI 999999) then (OU, v) else if ma = 6 then (FU, v) else (nI ma, alW v K ma c x)
def F_undo (v : Vm2) (K : Nat) (x : Int32) : Int32 × Vm2 := if ¬ inF x (nI 1) (nI 16) then (OU, v) else if K < ix x then (NO, v) else (v 179 (192 * (K - ix x + 1) + 190), up2 (cpR (up2 v 178 1 (nI (K - ix x))) (192 * (K - ix x + 1)) 0) 179 191 (v 179 191))
def F_write (v : Vm2) (n wr : Nat) (c x : Int32) : Int32 × Vm2 := if ¬ clkB n c then (UN, v) else if wr = 20 then (FU, v) else (nI (wr + 1), up2 (up2 (up2 v 181 wr c) 182 wr x) 178 8 (nI (wr + 1)))
def F_seed (v : Vm2) (x : Int32) : Int32 × Vm2 := if x < 0 then (OU, v) else (v 179 191, up2 v 179 191 x)
def F_keep (v : Vm2) (x : Int32) : Int32 × Vm2 := if ¬ inF x (nI 0) (nI 1) then (UN, v) else (nI 1, up2 (up2 (cpR v 0 (3264 + 192 * ix x)) 178 2 (v 178 2 ||| (nI 1 <<< (x &&& 31)))) 178 1 (nI 0))
def F_goBack (v : Vm2) (x : Int32) : Int32 × Vm2 := if ¬ inF x (nI 0) (nI 1) then (UN, v) else if ¬ (v 178 2 >>> (x &&& 31)) &&& nI 1 = nI 1 then (NO, v) else (nI 1, up2 (cpR v (3264 + 192 * ix x) 0) 178 1 (nI 0))
def tkN (f : Nat → Int32) (n ma : Nat) : Nat → (Nat → Int32)
  | 0 => f
  | t + 1 => tkF (tkN f n ma t) n ma
theorem tkF_at (f : Nat → Int32) {n ma k : Nat} (hn : n ≤ 8) (h1 : k ≠ 190) (h2 : k < 3 ∨ 27 ≤ k) (h3 : k < 184 ∨ 184 + ma ≤ k) : tkF f n ma k = f k := g0_at f n ma k hn h1 h2 h3
theorem tkN_at (f : Nat → Int32) {n ma k : Nat} (hn : n ≤ 8) (h1 : k ≠ 190) (h2 : k < 3 ∨ 27 ≤ k) (h3 : k < 184 ∨ 184 + ma ≤ k) : ∀ t, tkN f n ma t k = f k
  | 0 => rfl
  | t + 1 => by
    unfold tkN
    rw [tkF_at _ hn h1 h2 h3]
    exact tkN_at f hn h1 h2 h3 t
def F_tick (v : Vm2) (n K ma : Nat) (x : Int32) : Int32 × Vm2 := if ¬ inF x (nI 1) (nI 20) then (OU, v) else (rsI (tkN ((rmF v K) 179) n ma (ix x)) ma &&& (rsI ((rmF v K) 179) ma ^^^ -1), upR (rmF v K) 179 (tkN ((rmF v K) 179) n ma (ix x)))
def F_round (v : Vm2) (n f K : Nat) : Int32 × Vm2 := (apF (rnW ((rmF v K) 179) 0 n n (rdF ((rmF v K) 179) n f)) n, upR (rmF v K) 179 (rnW ((rmF v K) 179) 0 n n (rdF ((rmF v K) 179) n f)))

set_option maxHeartbeats 4000000 in
set_option maxRecDepth 100000 in
theorem p_feed (w : Wd) (v : Vm2) {s : Nat} (hs0 : v 178 4 = nI s) (hs : s ≤ 200) {x : Int32} : CI w yX8_feed cX8_feed 2 (some .int) (rm 1 22) [.ref (wN w + 178), .int x] v (fun r v' => r = (F_feed v s x).1 ∧ EqR v' (F_feed v s x).2) := by
  refine CI.of (by decide) (Nat.le_of_ble_eq_true rfl) ?_
  refine J.iload_n 0 dX8_feed_0 rfl rfl ?_
  refine J.iconst 1 (nI 0) dX8_feed_1 (by decide +kernel) ?_
  refine J.sipush 2 (nI 255) dX8_feed_2 (by decide +kernel) ?_
  refine V.callsP 5 dX8_feed_5 ml_RX8_32 mi_yX8_in ms_yX8_in (c_X8_in w _ _ _ _) rfl rfl (Nat.le_of_ble_eq_true rfl) (by decide) (by decide) ?_
  refine V.if_neB 8 14 dX8_feed_8 (by decide) (fun c8 => ?_) (fun c8 => ?_)
  · refine J.aload_n 14 dX8_feed_14 rfl rfl ?_
    refine V.getI 15 dX8_feed_15 fl_RX8_37 i_178_4 ?_
    refine J.top hs0 ?_
    refine J.sipush 18 (nI 200) dX8_feed_18 (by decide +kernel) ?_
    refine V.icmp_ne 21 27 dX8_feed_21 (by decide) (by omega) (by omega) (fun c21 => ?_) (fun c21 => ?_)
    · refine J.aload_n 27 dX8_feed_27 rfl rfl ?_
      refine V.getR 28 dX8_feed_28 fl_RX8_13 r_178_3 ?_
      refine J.aload_n 31 dX8_feed_31 rfl rfl ?_
      refine V.getI 32 dX8_feed_32 fl_RX8_37 i_178_4 ?_
      refine J.top hs0 ?_
      refine J.iload_n 35 dX8_feed_35 rfl rfl ?_
      refine V.iast 36 dX8_feed_36 a_180 (by omega) ?_
      refine J.aload_n 37 dX8_feed_37 rfl rfl ?_
      refine J.dup 38 dX8_feed_38 rfl ?_
      refine V.getI 39 dX8_feed_39 fl_RX8_37 i_178_4 ?_
      refine J.top (b := nI s) ((up2_o _ _ (by omega)).trans hs0) ?_
      refine J.iconst 42 (nI 1) dX8_feed_42 (by decide +kernel) ?_
      refine V.iadd 43 dX8_feed_43 ?_
      refine V.putI 44 dX8_feed_44 fl_RX8_37 fp_8_4 i_178_4 ?_
      refine J.aload_n 47 dX8_feed_47 rfl rfl ?_
      refine V.getI 48 dX8_feed_48 fl_RX8_37 i_178_4 ?_
      refine J.top (up2_self _ _ _ _) ?_
      exact V.iret 51 dX8_feed_51 (by unfold F_feed; rw [if_neg (fun z => z c8), if_neg c21]; exact ⟨rfl, EqR.rf _⟩)
    · refine J.ldc 24 (-1000000004) dX8_feed_24 kc_RX8_40 ?_
      exact V.iret 26 dX8_feed_26 (by unfold F_feed; rw [if_neg (fun z => z c8), if_pos c21]; exact ⟨rfl, EqR.rf _⟩)
  · refine J.ldc 11 (-1000000002) dX8_feed_11 kc_RX8_36 ?_
    exact V.iret 13 dX8_feed_13 (by unfold F_feed; rw [if_pos c8]; exact ⟨rfl, EqR.rf _⟩)
set_option maxHeartbeats 4000000 in
set_option maxRecDepth 100000 in
theorem p_told (w : Wd) (v : Vm2) {n f ma wr : Nat} (hn0 : v 179 0 = nI n) (hn : n ≤ 8) (hf : v 179 1 = nI f) (hf3 : f < 4) (hm0 : v 179 171 = nI ma) (hma : ma ≤ 6) (hw0 : v 178 8 = nI wr) (hwr : wr ≤ 20) {x : Int32} : CI w yX8_told cX8_told 2 (some .int) (rm 4 95) [.ref (wN w + 178), .int x] v (fun r v' => r = F_told v n f ma wr x ∧ EqR v' v) := by
  refine CI.of (by decide) (Nat.le_of_ble_eq_true rfl) ?_
  refine J.iload_n 0 dX8_told_0 rfl rfl ?_
  rcases tsplit x 15 (by decide) with hsw | ⟨ksw, hksw, rfl⟩
  · have hsw : x.toInt < 0 ∨ 15 < x.toInt := hsw
    refine J.tableOut 1 166 dX8_told_1 hsw (by decide) ?_
    refine J.ldc 166 (-1000000002) dX8_told_166 kc_RX8_36 ?_
    exact V.iret 168 dX8_told_168 (by unfold F_told; rw [if_pos hsw]; exact ⟨rfl, EqR.rf _⟩)
  · obtain rfl | rfl | rfl | rfl | rfl | rfl | rfl | rfl | rfl | rfl | rfl | rfl | rfl | rfl | rfl | rfl : ksw = 0 ∨ ksw = 1 ∨ ksw = 2 ∨ ksw = 3 ∨ ksw = 4 ∨ ksw = 5 ∨ ksw = 6 ∨ ksw = 7 ∨ ksw = 8 ∨ ksw = 9 ∨ ksw = 10 ∨ ksw = 11 ∨ ksw = 12 ∨ ksw = 13 ∨ ksw = 14 ∨ ksw = 15 := by omega
    · refine J.tableIn 1 80 dX8_told_1 (by decide) (by decide) rfl (by decide) ?_
      refine J.aload_n 80 dX8_told_80 rfl rfl ?_
      refine V.getR 81 dX8_told_81 fl_RX8_7 r_178_0 ?_
      refine J.iconst 84 (nI 0) dX8_told_84 (by decide +kernel) ?_
      refine V.iald 85 dX8_told_85 a_179 (by omega) ?_
      exact V.iret 86 dX8_told_86 (by unfold F_told; rw [if_neg (by decide), show ix (nI 0) = 0 from by decide +kernel]; exact ⟨rfl, EqR.rf _⟩)
    · refine J.tableIn 1 87 dX8_told_1 (by decide) (by decide) rfl (by decide) ?_
      refine J.aload_n 87 dX8_told_87 rfl rfl ?_
      refine V.getR 88 dX8_told_88 fl_RX8_7 r_178_0 ?_
      refine J.iconst 91 (nI 1) dX8_told_91 (by decide +kernel) ?_
      refine V.iald 92 dX8_told_92 a_179 (by omega) ?_
      exact V.iret 93 dX8_told_93 (by unfold F_told; rw [if_neg (by decide), show ix (nI 1) = 1 from by decide +kernel]; exact ⟨rfl, EqR.rf _⟩)
    · refine J.tableIn 1 94 dX8_told_1 (by decide) (by decide) rfl (by decide) ?_
      refine J.aload_n 94 dX8_told_94 rfl rfl ?_
      refine V.getR 95 dX8_told_95 fl_RX8_7 r_178_0 ?_
      refine J.iconst 98 (nI 2) dX8_told_98 (by decide +kernel) ?_
      refine V.iald 99 dX8_told_99 a_179 (by omega) ?_
      exact V.iret 100 dX8_told_100 (by unfold F_told; rw [if_neg (by decide), show ix (nI 2) = 2 from by decide +kernel]; exact ⟨rfl, EqR.rf _⟩)
    · refine J.tableIn 1 101 dX8_told_1 (by decide) (by decide) rfl (by decide) ?_
      refine J.aload_n 101 dX8_told_101 rfl rfl ?_
      refine V.getI 102 dX8_told_102 fl_RX8_37 i_178_4 ?_
      exact V.iret 105 dX8_told_105 (by unfold F_told; rw [if_neg (by decide), show ix (nI 3) = 3 from by decide +kernel]; exact ⟨rfl, EqR.rf _⟩)
    · refine J.tableIn 1 106 dX8_told_1 (by decide) (by decide) rfl (by decide) ?_
      refine J.aload_n 106 dX8_told_106 rfl rfl ?_
      refine J.iload_n 107 dX8_told_107 rfl rfl ?_
      refine V.callvP 108 dX8_told_108 ml_RX8_140 mi_yX8_setOf mv_yX8_setOf (c_X8_setOf4 w _ hn0 hn) rfl rfl (Nat.le_of_ble_eq_true rfl) (by decide) (by decide) o_178 rfl rfl ?_
      exact V.iret 111 dX8_told_111 (by unfold F_told; rw [if_neg (by decide), show ix (nI 4) = 4 from by decide +kernel]; exact ⟨rfl, EqR.rf _⟩)
    · refine J.tableIn 1 106 dX8_told_1 (by decide) (by decide) rfl (by decide) ?_
      refine J.aload_n 106 dX8_told_106 rfl rfl ?_
      refine J.iload_n 107 dX8_told_107 rfl rfl ?_
      refine V.callvP 108 dX8_told_108 ml_RX8_140 mi_yX8_setOf mv_yX8_setOf (c_X8_setOf5 w _ hn0 hn) rfl rfl (Nat.le_of_ble_eq_true rfl) (by decide) (by decide) o_178 rfl rfl ?_
      exact V.iret 111 dX8_told_111 (by unfold F_told; rw [if_neg (by decide), show ix (nI 5) = 5 from by decide +kernel]; exact ⟨rfl, EqR.rf _⟩)
    · refine J.tableIn 1 106 dX8_told_1 (by decide) (by decide) rfl (by decide) ?_
      refine J.aload_n 106 dX8_told_106 rfl rfl ?_
      refine J.iload_n 107 dX8_told_107 rfl rfl ?_
      refine V.callvP 108 dX8_told_108 ml_RX8_140 mi_yX8_setOf mv_yX8_setOf (c_X8_setOf6 w _ hn0 hn) rfl rfl (Nat.le_of_ble_eq_true rfl) (by decide) (by decide) o_178 rfl rfl ?_
      exact V.iret 111 dX8_told_111 (by unfold F_told; rw [if_neg (by decide), show ix (nI 6) = 6 from by decide +kernel]; exact ⟨rfl, EqR.rf _⟩)
    · refine J.tableIn 1 112 dX8_told_1 (by decide) (by decide) rfl (by decide) ?_
      refine J.aload_n 112 dX8_told_112 rfl rfl ?_
      refine J.iconst 113 (nI 0) dX8_told_113 (by decide +kernel) ?_
      refine V.callvP 114 dX8_told_114 ml_RX8_123 mi_yX8_apart mv_yX8_apart (c_X8_apart w _ (by decide) hn0 (by omega)) rfl rfl (Nat.le_of_ble_eq_true rfl) (by decide) (by decide) o_178 rfl rfl ?_
      rw [ro_zero]
      exact V.iret 117 dX8_told_117 (by unfold F_told; rw [if_neg (by decide), show ix (nI 7) = 7 from by decide +kernel]; exact ⟨rfl, EqR.rf _⟩)
    · refine J.tableIn 1 118 dX8_told_1 (by decide) (by decide) rfl (by decide) ?_
      refine J.aload_n 118 dX8_told_118 rfl rfl ?_
      refine V.callv 119 dX8_told_119 ml_RX8_143 mi_yX8_worst mv_yX8_worst (c_X8_worst w _ hn0 hf (by omega) (by omega)) rfl rfl (Nat.le_of_ble_eq_true rfl) (by decide) (by decide) o_178 rfl rfl (fun r119 v119 h119 => ?_)
      obtain ⟨rfl, o119, rfl⟩ := h119
      exact V.iret 122 dX8_told_122 (by unfold F_told; rw [if_neg (by decide), show ix (nI 8) = 8 from by decide +kernel]; exact ⟨rfl, EqR.ord _ _⟩)
    · refine J.tableIn 1 123 dX8_told_1 (by decide) (by decide) rfl (by decide) ?_
      refine J.aload_n 123 dX8_told_123 rfl rfl ?_
      refine V.callvP 124 dX8_told_124 ml_RX8_146 mi_yX8_mayLie mv_yX8_mayLie (c_X8_mayLie w _ hn0 (by omega)) rfl rfl (Nat.le_of_ble_eq_true rfl) (by decide) (by decide) o_178 rfl rfl ?_
      exact V.iret 127 dX8_told_127 (by unfold F_told; rw [if_neg (by decide), show ix (nI 9) = 9 from by decide +kernel]; exact ⟨rfl, EqR.rf _⟩)
    · refine J.tableIn 1 128 dX8_told_1 (by decide) (by decide) rfl (by decide) ?_
      refine J.aload_n 128 dX8_told_128 rfl rfl ?_
      refine V.getR 129 dX8_told_129 fl_RX8_7 r_178_0 ?_
      refine J.sipush 132 (nI 171) dX8_told_132 (by decide +kernel) ?_
      refine V.iald 135 dX8_told_135 a_179 (by omega) ?_
      exact V.iret 136 dX8_told_136 (by unfold F_told; rw [if_neg (by decide), show ix (nI 10) = 10 from by decide +kernel]; exact ⟨rfl, EqR.rf _⟩)
    · refine J.tableIn 1 137 dX8_told_1 (by decide) (by decide) rfl (by decide) ?_
      refine J.aload_n 137 dX8_told_137 rfl rfl ?_
      refine V.callvP 138 dX8_told_138 ml_RX8_149 mi_yX8_rungSet mv_yX8_rungSet (c_X8_rungSet w _ hm0 (by omega)) rfl rfl (Nat.le_of_ble_eq_true rfl) (by decide) (by decide) o_178 rfl rfl ?_
      exact V.iret 141 dX8_told_141 (by unfold F_told; rw [if_neg (by decide), show ix (nI 11) = 11 from by decide +kernel]; exact ⟨rfl, EqR.rf _⟩)
    · refine J.tableIn 1 142 dX8_told_1 (by decide) (by decide) rfl (by decide) ?_
      refine J.aload_n 142 dX8_told_142 rfl rfl ?_
      refine V.getR 143 dX8_told_143 fl_RX8_7 r_178_0 ?_
      refine J.sipush 146 (nI 190) dX8_told_146 (by decide +kernel) ?_
      refine V.iald 149 dX8_told_149 a_179 (by omega) ?_
      exact V.iret 150 dX8_told_150 (by unfold F_told; rw [if_neg (by decide), show ix (nI 12) = 12 from by decide +kernel]; exact ⟨rfl, EqR.rf _⟩)
    · refine J.tableIn 1 151 dX8_told_1 (by decide) (by decide) rfl (by decide) ?_
      refine J.aload_n 151 dX8_told_151 rfl rfl ?_
      refine V.getI 152 dX8_told_152 fl_RX8_94 i_178_8 ?_
      exact V.iret 155 dX8_told_155 (by unfold F_told; rw [if_neg (by decide), show ix (nI 13) = 13 from by decide +kernel]; exact ⟨rfl, EqR.rf _⟩)
    · refine J.tableIn 1 156 dX8_told_1 (by decide) (by decide) rfl (by decide) ?_
      refine J.aload_n 156 dX8_told_156 rfl rfl ?_
      refine V.callvP 157 dX8_told_157 ml_RX8_152 mi_yX8_wrongEntry mv_yX8_wrongEntry (c_X8_wrongEntry w _ hn0 (by omega) hw0 (by omega)) rfl rfl (Nat.le_of_ble_eq_true rfl) (by decide) (by decide) o_178 rfl rfl ?_
      exact V.iret 160 dX8_told_160 (by unfold F_told; rw [if_neg (by decide), show ix (nI 14) = 14 from by decide +kernel]; exact ⟨rfl, EqR.rf _⟩)
    · refine J.tableIn 1 161 dX8_told_1 (by decide) (by decide) rfl (by decide) ?_
      refine J.aload_n 161 dX8_told_161 rfl rfl ?_
      refine V.getI 162 dX8_told_162 fl_RX8_88 i_178_1 ?_
      exact V.iret 165 dX8_told_165 (by unfold F_told; rw [if_neg (by decide), show ix (nI 15) = 15 from by decide +kernel]; exact ⟨rfl, EqR.rf _⟩)
set_option maxHeartbeats 4000000 in
set_option maxRecDepth 100000 in
theorem p_clock (w : Wd) (v : Vm2) {n f : Nat} (hn0 : v 179 0 = nI n) (hn : n ≤ 8) (hf : v 179 1 = nI f) (hf3 : f < 4) {c x : Int32} : CI w yX8_clock cX8_clock 3 (some .int) (rm 3 69) [.ref (wN w + 178), .int c, .int x] v (fun r v' => r = F_clock (v 179) n f c x ∧ EqR v' v) := by
  refine CI.of (by decide) (Nat.le_of_ble_eq_true rfl) ?_
  refine J.aload_n 0 dX8_clock_0 rfl rfl ?_
  refine J.iload_n 1 dX8_clock_1 rfl rfl ?_
  refine V.callvP 2 dX8_clock_2 ml_RX8_136 mi_yX8_isClock mv_yX8_isClock (k_isClock w _ _ hn0 (by omega)) rfl rfl (Nat.le_of_ble_eq_true rfl) (by decide) (by decide) o_178 rfl rfl ?_
  refine V.if_neB 5 11 dX8_clock_5 (by decide) (fun c5 => ?_) (fun c5 => ?_)
  · obtain ⟨c, hc, rfl⟩ := (clkB_nI (by omega)).mp c5
    refine J.iload_n 11 dX8_clock_11 rfl rfl ?_
    rcases tsplit x 6 (by decide) with hsw | ⟨ksw, hksw, rfl⟩
    · have hsw : x.toInt < 0 ∨ 6 < x.toInt := hsw
      refine J.tableOut 12 155 dX8_clock_12 hsw (by decide) ?_
      refine J.ldc 155 (-1000000002) dX8_clock_155 kc_RX8_36 ?_
      exact V.iret 157 dX8_clock_157 (by unfold F_clock; rw [if_neg (fun z => z c5), if_pos hsw]; exact ⟨rfl, EqR.rf _⟩)
    · obtain rfl | rfl | rfl | rfl | rfl | rfl | rfl : ksw = 0 ∨ ksw = 1 ∨ ksw = 2 ∨ ksw = 3 ∨ ksw = 4 ∨ ksw = 5 ∨ ksw = 6 := by omega
      · refine J.tableIn 12 56 dX8_clock_12 (by decide) (by decide) rfl (by decide) ?_
        refine J.aload_n 56 dX8_clock_56 rfl rfl ?_
        refine V.getR 57 dX8_clock_57 fl_RX8_7 r_178_0 ?_
        refine J.iconst 60 (nI 3) dX8_clock_60 (by decide +kernel) ?_
        refine J.iload_n 61 dX8_clock_61 rfl rfl ?_
        refine V.iadd 62 dX8_clock_62 ?_
        refine V.iald 63 dX8_clock_63 a_179 (by omega) ?_
        exact V.iret 64 dX8_clock_64 (by unfold F_clock; rw [if_neg (fun z => z c5), if_neg (by decide), ix_nI hc hn, show ix (nI 0) = 0 from by decide +kernel]; exact ⟨rfl, EqR.rf _⟩)
      · refine J.tableIn 12 65 dX8_clock_12 (by decide) (by decide) rfl (by decide) ?_
        refine J.aload_n 65 dX8_clock_65 rfl rfl ?_
        refine V.getR 66 dX8_clock_66 fl_RX8_7 r_178_0 ?_
        refine J.bipush 69 (nI 11) dX8_clock_69 (by decide +kernel) ?_
        refine J.iload_n 71 dX8_clock_71 rfl rfl ?_
        refine V.iadd 72 dX8_clock_72 ?_
        refine V.iald 73 dX8_clock_73 a_179 (by omega) ?_
        exact V.iret 74 dX8_clock_74 (by unfold F_clock; rw [if_neg (fun z => z c5), if_neg (by decide), ix_nI hc hn, show ix (nI 1) = 1 from by decide +kernel]; exact ⟨rfl, EqR.rf _⟩)
      · refine J.tableIn 12 75 dX8_clock_12 (by decide) (by decide) rfl (by decide) ?_
        refine J.aload_n 75 dX8_clock_75 rfl rfl ?_
        refine V.getR 76 dX8_clock_76 fl_RX8_7 r_178_0 ?_
        refine J.bipush 79 (nI 19) dX8_clock_79 (by decide +kernel) ?_
        refine J.iload_n 81 dX8_clock_81 rfl rfl ?_
        refine V.iadd 82 dX8_clock_82 ?_
        refine V.iald 83 dX8_clock_83 a_179 (by omega) ?_
        refine J.ldc 84 (100000) dX8_clock_84 kc_RX8_156 (J.top (b := nI 100000) (by decide +kernel) ?_)
        refine J.iadd 86 dX8_clock_86 ?_
        exact V.iret 87 dX8_clock_87 (by unfold F_clock; rw [if_neg (fun z => z c5), if_neg (by decide), ix_nI hc hn, show ix (nI 2) = 2 from by decide +kernel]; exact ⟨rfl, EqR.rf _⟩)
      · refine J.tableIn 12 88 dX8_clock_12 (by decide) (by decide) rfl (by decide) ?_
        refine J.aload_n 88 dX8_clock_88 rfl rfl ?_
        refine J.iconst 89 (nI 0) dX8_clock_89 (by decide +kernel) ?_
        refine J.iload_n 90 dX8_clock_90 rfl rfl ?_
        refine V.callvP 91 dX8_clock_91 ml_RX8_97 mi_yX8_aim mv_yX8_aim (c_X8_aim w _ (by omega)) rfl rfl (Nat.le_of_ble_eq_true rfl) (by decide) (by decide) o_178 rfl rfl ?_
        rw [ro_zero]
        refine J.ldc 94 (100000) dX8_clock_94 kc_RX8_156 (J.top (b := nI 100000) (by decide +kernel) ?_)
        refine J.iadd 96 dX8_clock_96 ?_
        exact V.iret 97 dX8_clock_97 (by unfold F_clock; rw [if_neg (fun z => z c5), if_neg (by decide), ix_nI hc hn, show ix (nI 3) = 3 from by decide +kernel]; exact ⟨rfl, EqR.rf _⟩)
      · refine J.tableIn 12 98 dX8_clock_12 (by decide) (by decide) rfl (by decide) ?_
        refine J.aload_n 98 dX8_clock_98 rfl rfl ?_
        refine V.getR 99 dX8_clock_99 fl_RX8_7 r_178_0 ?_
        refine J.bipush 102 (nI 27) dX8_clock_102 (by decide +kernel) ?_
        refine J.iload_n 104 dX8_clock_104 rfl rfl ?_
        refine V.iadd 105 dX8_clock_105 ?_
        refine V.iald 106 dX8_clock_106 a_179 (by omega) ?_
        exact V.iret 107 dX8_clock_107 (by unfold F_clock; rw [if_neg (fun z => z c5), if_neg (by decide), ix_nI hc hn, show ix (nI 4) = 4 from by decide +kernel]; exact ⟨rfl, EqR.rf _⟩)
      · refine J.tableIn 12 108 dX8_clock_12 (by decide) (by decide) rfl (by decide) ?_
        refine J.aload_n 108 dX8_clock_108 rfl rfl ?_
        refine V.getR 109 dX8_clock_109 fl_RX8_7 r_178_0 ?_
        refine J.bipush 112 (nI 35) dX8_clock_112 (by decide +kernel) ?_
        refine J.iload_n 114 dX8_clock_114 rfl rfl ?_
        refine V.iadd 115 dX8_clock_115 ?_
        refine V.iald 116 dX8_clock_116 a_179 (by omega) ?_
        exact V.iret 117 dX8_clock_117 (by unfold F_clock; rw [if_neg (fun z => z c5), if_neg (by decide), ix_nI hc hn, show ix (nI 5) = 5 from by decide +kernel]; exact ⟨rfl, EqR.rf _⟩)
      · refine J.tableIn 12 118 dX8_clock_12 (by decide) (by decide) rfl (by decide) ?_
        refine J.aload_n 118 dX8_clock_118 rfl rfl ?_
        refine J.iconst 119 (nI 0) dX8_clock_119 (by decide +kernel) ?_
        refine J.iload_n 120 dX8_clock_120 rfl rfl ?_
        refine V.callvP 121 dX8_clock_121 ml_RX8_114 mi_yX8_isTrue mv_yX8_isTrue (c_X8_isTrue w _ (by omega)) rfl rfl (Nat.le_of_ble_eq_true rfl) (by decide) (by decide) o_178 rfl rfl ?_
        rw [ro_zero]
        refine V.if_eqB 124 141 dX8_clock_124 (by decide) (fun c124 => ?_) (fun c124 => ?_)
        · have e6 : ckK (v 179) n f c 6 = -1 := if_neg (fun z => c124 z.1)
          refine J.iconst 141 (-1) dX8_clock_141 (by decide +kernel) ?_
          refine J.goto 142 154 dX8_clock_142 (by decide) ?_
          exact V.iret 154 dX8_clock_154 (by unfold F_clock; rw [if_neg (fun z => z c5), if_neg (by decide), ix_nI hc hn, show ix (nI 6) = 6 from by decide +kernel]; exact ⟨e6.symm, by first | exact EqR.rf _ | exact EqR.ord _ _⟩)
        · refine J.aload_n 127 dX8_clock_127 rfl rfl ?_
          refine J.iconst 128 (nI 0) dX8_clock_128 (by decide +kernel) ?_
          refine J.aload_n 129 dX8_clock_129 rfl rfl ?_
          refine V.getR 130 dX8_clock_130 fl_RX8_7 r_178_0 ?_
          refine J.iconst 133 (nI 0) dX8_clock_133 (by decide +kernel) ?_
          refine V.iald 134 dX8_clock_134 a_179 (by omega) ?_
          refine J.top hn0 ?_
          refine V.callvP 135 dX8_clock_135 ml_RX8_100 mi_yX8_allStruck mv_yX8_allStruck (c_X8_allStruck w _ (by omega) (by rw [ro_zero]; exact hf) (by omega) (by omega)) rfl rfl (Nat.le_of_ble_eq_true rfl) (by decide) (by decide) o_178 rfl rfl ?_
          refine V.if_eqB 138 145 dX8_clock_138 (by decide) (fun c138 => ?_) (fun c138 => ?_)
          · have e6 : ckK (v 179) n f c 6 = mdF (v 179) n f c + nI 100000 := if_pos ⟨c124, c138⟩
            refine J.aload_n 145 dX8_clock_145 rfl rfl ?_
            refine J.iconst 146 (nI 0) dX8_clock_146 (by decide +kernel) ?_
            refine J.iload_n 147 dX8_clock_147 rfl rfl ?_
            refine V.callv 148 dX8_clock_148 ml_RX8_117 mi_yX8_middleOf mv_yX8_middleOf (c_X8_middleOf w _ (by decide) hn0 (by rw [ro_zero]; exact hf) (by omega) (by omega) (hc)) rfl rfl (Nat.le_of_ble_eq_true rfl) (by decide) (by decide) o_178 rfl rfl (fun r148 v148 h148 => ?_)
            obtain ⟨rfl, o148, rfl⟩ := h148
            rw [ro_zero]
            refine J.ldc 151 (100000) dX8_clock_151 kc_RX8_156 (J.top (b := nI 100000) (by decide +kernel) ?_)
            refine J.iadd 153 dX8_clock_153 ?_
            exact V.iret 154 dX8_clock_154 (by unfold F_clock; rw [if_neg (fun z => z c5), if_neg (by decide), ix_nI hc hn, show ix (nI 6) = 6 from by decide +kernel]; exact ⟨e6.symm, by first | exact EqR.rf _ | exact EqR.ord _ _⟩)
          · have e6 : ckK (v 179) n f c 6 = -1 := if_neg (fun z => z.2 c138)
            refine J.iconst 141 (-1) dX8_clock_141 (by decide +kernel) ?_
            refine J.goto 142 154 dX8_clock_142 (by decide) ?_
            exact V.iret 154 dX8_clock_154 (by unfold F_clock; rw [if_neg (fun z => z c5), if_neg (by decide), ix_nI hc hn, show ix (nI 6) = 6 from by decide +kernel]; exact ⟨e6.symm, by first | exact EqR.rf _ | exact EqR.ord _ _⟩)
  · refine J.ldc 8 (-1000000001) dX8_clock_8 kc_RX8_155 ?_
    exact V.iret 10 dX8_clock_10 (by unfold F_clock; rw [if_pos c5]; exact ⟨rfl, EqR.rf _⟩)
set_option maxHeartbeats 4000000 in
set_option maxRecDepth 100000 in
theorem c_X8_arePair (w : Wd) (v : Vm2) {n : Nat} (hn0 : v 179 0 = nI n) (hn : n ≤ 8) {j i : Int32} : CP w yX8_arePair cX8_arePair 3 (some .boolean) (rm 2 43) [.ref (wN w + 178), .int j, .int i] v (bI (prB n j i)) := by
  refine CI.of (by decide) (Nat.le_of_ble_eq_true rfl) ?_
  refine J.aload_n 0 dX8_arePair_0 rfl rfl ?_
  refine J.iload_n 1 dX8_arePair_1 rfl rfl ?_
  refine V.callvP 2 dX8_arePair_2 ml_RX8_136 mi_yX8_isClock mv_yX8_isClock (k_isClock w _ _ hn0 (by omega)) rfl rfl (Nat.le_of_ble_eq_true rfl) (by decide) (by decide) o_178 rfl rfl ?_
  refine V.if_eqB 5 25 dX8_arePair_5 (by decide) (fun c5 => ?_) (fun c5 => ?_)
  · refine J.iconst 25 (nI 0) dX8_arePair_25 (by decide +kernel) ?_
    exact V.zret 26 dX8_arePair_26 (Or.inl rfl) (⟨bI_f (fun z => by first | exact c5 z.1 | exact c13 z.2.1 | exact z.2.2 c18), rfl⟩)
  · refine J.aload_n 8 dX8_arePair_8 rfl rfl ?_
    refine J.iload_n 9 dX8_arePair_9 rfl rfl ?_
    refine V.callvP 10 dX8_arePair_10 ml_RX8_136 mi_yX8_isClock mv_yX8_isClock (k_isClock w _ _ hn0 (by omega)) rfl rfl (Nat.le_of_ble_eq_true rfl) (by decide) (by decide) o_178 rfl rfl ?_
    refine V.if_eqB 13 25 dX8_arePair_13 (by decide) (fun c13 => ?_) (fun c13 => ?_)
    · refine J.iconst 25 (nI 0) dX8_arePair_25 (by decide +kernel) ?_
      exact V.zret 26 dX8_arePair_26 (Or.inl rfl) (⟨bI_f (fun z => by first | exact c5 z.1 | exact c13 z.2.1 | exact z.2.2 c18), rfl⟩)
    · refine J.iload_n 16 dX8_arePair_16 rfl rfl ?_
      refine J.iload_n 17 dX8_arePair_17 rfl rfl ?_
      refine J.icmp_eq 18 25 dX8_arePair_18 (by decide) (fun c18 => ?_) (fun c18 => ?_)
      · refine J.iconst 25 (nI 0) dX8_arePair_25 (by decide +kernel) ?_
        exact V.zret 26 dX8_arePair_26 (Or.inl rfl) (⟨bI_f (fun z => by first | exact c5 z.1 | exact c13 z.2.1 | exact z.2.2 c18), rfl⟩)
      · refine J.iconst 21 (nI 1) dX8_arePair_21 (by decide +kernel) ?_
        refine J.goto 22 26 dX8_arePair_22 (by decide) ?_
        exact V.zret 26 dX8_arePair_26 (Or.inr rfl) (⟨bI_t ⟨c5, c13, c18⟩, rfl⟩)
set_option maxHeartbeats 4000000 in
set_option maxRecDepth 100000 in
theorem p_heard (w : Wd) (v : Vm2) {n f : Nat} (hn0 : v 179 0 = nI n) (hn : n ≤ 8) (hf : v 179 1 = nI f) (hf3 : f < 4) {j i x : Int32} : CI w yX8_heard cX8_heard 4 (some .int) (rm 4 97) [.ref (wN w + 178), .int j, .int i, .int x] v (fun r v' => r = F_heard (v 179) n f j i x ∧ EqR v' v) := by
  refine CI.of (by decide) (Nat.le_of_ble_eq_true rfl) ?_
  refine J.aload_n 0 dX8_heard_0 rfl rfl ?_
  refine J.iload_n 1 dX8_heard_1 rfl rfl ?_
  refine J.iload_n 2 dX8_heard_2 rfl rfl ?_
  refine V.callvP 3 dX8_heard_3 ml_RX8_157 mi_yX8_arePair mv_yX8_arePair (c_X8_arePair w _ hn0 hn) rfl rfl (Nat.le_of_ble_eq_true rfl) (by decide) (by decide) o_178 rfl rfl ?_
  refine V.if_neB 6 12 dX8_heard_6 (by decide) (fun c6 => ?_) (fun c6 => ?_)
  · obtain ⟨q1, q2, q3⟩ := c6
    obtain ⟨j, hj, rfl⟩ := (clkB_nI (by omega)).mp q1
    obtain ⟨i, hi, rfl⟩ := (clkB_nI (by omega)).mp q2
    have c6 : prB n (nI j) (nI i) := ⟨q1, q2, q3⟩
    refine J.iload_n 12 dX8_heard_12 rfl rfl ?_
    rcases tsplit x 4 (by decide) with hsw | ⟨ksw, hksw, rfl⟩
    · have hsw : x.toInt < 0 ∨ 4 < x.toInt := hsw
      refine J.tableOut 13 110 dX8_heard_13 hsw (by decide) ?_
      refine J.ldc 110 (-1000000002) dX8_heard_110 kc_RX8_36 ?_
      exact V.iret 112 dX8_heard_112 (by unfold F_heard; rw [if_neg (fun z => z c6), if_pos hsw]; exact ⟨rfl, EqR.rf _⟩)
    · obtain rfl | rfl | rfl | rfl | rfl : ksw = 0 ∨ ksw = 1 ∨ ksw = 2 ∨ ksw = 3 ∨ ksw = 4 := by omega
      · refine J.tableIn 13 48 dX8_heard_13 (by decide) (by decide) rfl (by decide) ?_
        refine J.aload_n 48 dX8_heard_48 rfl rfl ?_
        refine J.iconst 49 (nI 0) dX8_heard_49 (by decide +kernel) ?_
        refine J.iload_n 50 dX8_heard_50 rfl rfl ?_
        refine J.iload_n 51 dX8_heard_51 rfl rfl ?_
        refine V.callvP 52 dX8_heard_52 ml_RX8_104 mi_yX8_heardOf mv_yX8_heardOf (c_X8_heardOf w _ (by decide) (by omega) (by omega)) rfl rfl (Nat.le_of_ble_eq_true rfl) (by decide) (by decide) o_178 rfl rfl ?_
        rw [ro_zero]
        refine J.ldc 55 (100000) dX8_heard_55 kc_RX8_156 (J.top (b := nI 100000) (by decide +kernel) ?_)
        refine J.iadd 57 dX8_heard_57 ?_
        exact V.iret 58 dX8_heard_58 (by unfold F_heard; rw [if_neg (fun z => z c6), if_neg (by decide), ix_nI hj hn, ix_nI hi hn, show ix (nI 0) = 0 from by decide +kernel]; exact ⟨rfl, EqR.rf _⟩)
      · refine J.tableIn 13 59 dX8_heard_13 (by decide) (by decide) rfl (by decide) ?_
        refine J.aload_n 59 dX8_heard_59 rfl rfl ?_
        refine V.getR 60 dX8_heard_60 fl_RX8_7 r_178_0 ?_
        refine J.bipush 63 (nI 43) dX8_heard_63 (by decide +kernel) ?_
        refine J.bipush 65 (nI 8) dX8_heard_65 (by decide +kernel) ?_
        refine J.iload_n 67 dX8_heard_67 rfl rfl ?_
        refine V.imul 68 dX8_heard_68 ?_
        refine V.iadd 69 dX8_heard_69 ?_
        refine J.iload_n 70 dX8_heard_70 rfl rfl ?_
        refine V.iadd 71 dX8_heard_71 ?_
        refine V.iald 72 dX8_heard_72 a_179 (by omega) ?_
        refine J.bipush 73 (nI 20) dX8_heard_73 (by decide +kernel) ?_
        refine J.iadd 75 dX8_heard_75 ?_
        exact V.iret 76 dX8_heard_76 (by unfold F_heard; rw [if_neg (fun z => z c6), if_neg (by decide), ix_nI hj hn, ix_nI hi hn, show ix (nI 1) = 1 from by decide +kernel]; exact ⟨rfl, EqR.rf _⟩)
      · refine J.tableIn 13 77 dX8_heard_13 (by decide) (by decide) rfl (by decide) ?_
        refine J.aload_n 77 dX8_heard_77 rfl rfl ?_
        refine V.getR 78 dX8_heard_78 fl_RX8_7 r_178_0 ?_
        refine J.bipush 81 (nI 107) dX8_heard_81 (by decide +kernel) ?_
        refine J.bipush 83 (nI 8) dX8_heard_83 (by decide +kernel) ?_
        refine J.iload_n 85 dX8_heard_85 rfl rfl ?_
        refine V.imul 86 dX8_heard_86 ?_
        refine V.iadd 87 dX8_heard_87 ?_
        refine J.iload_n 88 dX8_heard_88 rfl rfl ?_
        refine V.iadd 89 dX8_heard_89 ?_
        refine V.iald 90 dX8_heard_90 a_179 (by omega) ?_
        refine J.sipush 91 (nI 9999) dX8_heard_91 (by decide +kernel) ?_
        refine J.iadd 94 dX8_heard_94 ?_
        exact V.iret 95 dX8_heard_95 (by unfold F_heard; rw [if_neg (fun z => z c6), if_neg (by decide), ix_nI hj hn, ix_nI hi hn, show ix (nI 2) = 2 from by decide +kernel]; exact ⟨rfl, EqR.rf _⟩)
      · refine J.tableIn 13 96 dX8_heard_13 (by decide) (by decide) rfl (by decide) ?_
        refine J.aload_n 96 dX8_heard_96 rfl rfl ?_
        refine J.iload_n 97 dX8_heard_97 rfl rfl ?_
        refine J.iload_n 98 dX8_heard_98 rfl rfl ?_
        refine V.callvP 99 dX8_heard_99 ml_RX8_160 mi_yX8_rank mv_yX8_rank (c_X8_rank w _ hn0 (by omega) (by omega) (by omega)) rfl rfl (Nat.le_of_ble_eq_true rfl) (by decide) (by decide) o_178 rfl rfl ?_
        exact V.iret 102 dX8_heard_102 (by unfold F_heard; rw [if_neg (fun z => z c6), if_neg (by decide), ix_nI hj hn, ix_nI hi hn, show ix (nI 3) = 3 from by decide +kernel]; exact ⟨rfl, EqR.rf _⟩)
      · refine J.tableIn 13 103 dX8_heard_13 (by decide) (by decide) rfl (by decide) ?_
        refine J.aload_n 103 dX8_heard_103 rfl rfl ?_
        refine J.iload_n 104 dX8_heard_104 rfl rfl ?_
        refine J.iload_n 105 dX8_heard_105 rfl rfl ?_
        refine V.callv 106 dX8_heard_106 ml_RX8_163 mi_yX8_farthest mv_yX8_farthest (c_X8_farthest w _ hn0 hf (by omega) (by omega) (by omega) (by omega)) rfl rfl (Nat.le_of_ble_eq_true rfl) (by decide) (by decide) o_178 rfl rfl (fun r106 v106 h106 => ?_)
        obtain ⟨rfl, o106, rfl⟩ := h106
        exact V.iret 109 dX8_heard_109 (by unfold F_heard; rw [if_neg (fun z => z c6), if_neg (by decide), ix_nI hj hn, ix_nI hi hn, show ix (nI 4) = 4 from by decide +kernel]; exact ⟨rfl, EqR.ord _ _⟩)
  · refine J.ldc 9 (-1000000001) dX8_heard_9 kc_RX8_155 ?_
    exact V.iret 11 dX8_heard_11 (by unfold F_heard; rw [if_pos c6]; exact ⟨rfl, EqR.rf _⟩)
set_option maxHeartbeats 4000000 in
set_option maxRecDepth 100000 in
theorem p_alarmAt (w : Wd) (v : Vm2) {ma : Nat} (hm0 : v 179 171 = nI ma) (hma : ma ≤ 6) {a x : Int32} : CI w yX8_alarmAt cX8_alarmAt 3 (some .int) (rm 1 22) [.ref (wN w + 178), .int a, .int x] v (fun r v' => r = F_alarmAt (v 179) ma a x ∧ EqR v' v) := by
  refine CI.of (by decide) (Nat.le_of_ble_eq_true rfl) ?_
  refine J.iload_n 0 dX8_alarmAt_0 rfl rfl ?_
  refine J.iconst 1 (nI 0) dX8_alarmAt_1 (by decide +kernel) ?_
  refine J.aload_n 2 dX8_alarmAt_2 rfl rfl ?_
  refine V.getR 3 dX8_alarmAt_3 fl_RX8_7 r_178_0 ?_
  refine J.sipush 6 (nI 171) dX8_alarmAt_6 (by decide +kernel) ?_
  refine V.iald 9 dX8_alarmAt_9 a_179 (by omega) ?_
  refine J.top hm0 ?_
  refine J.iconst 10 (nI 1) dX8_alarmAt_10 (by decide +kernel) ?_
  refine J.isub 11 dX8_alarmAt_11 ?_
  refine V.callsP 12 dX8_alarmAt_12 ml_RX8_32 mi_yX8_in ms_yX8_in (c_X8_in w _ _ _ _) rfl rfl (Nat.le_of_ble_eq_true rfl) (by decide) (by decide) ?_
  rw [bI_congr (p := inF a (nI 0) (nI ma - nI 1)) (q := clkB ma a) (inF_clk (by omega))]
  refine V.if_neB 15 21 dX8_alarmAt_15 (by decide) (fun c15 => ?_) (fun c15 => ?_)
  · obtain ⟨a, ha, rfl⟩ := (clkB_nI (by omega)).mp c15
    refine J.iload_n 21 dX8_alarmAt_21 rfl rfl ?_
    rcases tsplit x 2 (by decide) with hsw | ⟨ksw, hksw, rfl⟩
    · have hsw : x.toInt < 0 ∨ 2 < x.toInt := hsw
      refine J.tableOut 22 81 dX8_alarmAt_22 hsw (by decide) ?_
      refine J.ldc 81 (-1000000002) dX8_alarmAt_81 kc_RX8_36 ?_
      exact V.iret 83 dX8_alarmAt_83 (by unfold F_alarmAt; rw [if_neg (fun z => z c15), if_pos hsw]; exact ⟨rfl, EqR.rf _⟩)
    · obtain rfl | rfl | rfl : ksw = 0 ∨ ksw = 1 ∨ ksw = 2 := by omega
      · refine J.tableIn 22 48 dX8_alarmAt_22 (by decide) (by decide) rfl (by decide) ?_
        refine J.aload_n 48 dX8_alarmAt_48 rfl rfl ?_
        refine V.getR 49 dX8_alarmAt_49 fl_RX8_7 r_178_0 ?_
        refine J.sipush 52 (nI 172) dX8_alarmAt_52 (by decide +kernel) ?_
        refine J.iload_n 55 dX8_alarmAt_55 rfl rfl ?_
        refine V.iadd 56 dX8_alarmAt_56 ?_
        refine V.iald 57 dX8_alarmAt_57 a_179 (by omega) ?_
        exact V.iret 58 dX8_alarmAt_58 (by unfold F_alarmAt; rw [if_neg (fun z => z c15), if_neg (by decide), ix_nI ha (by omega), show ix (nI 0) = 0 from by decide +kernel]; exact ⟨rfl, EqR.rf _⟩)
      · refine J.tableIn 22 59 dX8_alarmAt_22 (by decide) (by decide) rfl (by decide) ?_
        refine J.aload_n 59 dX8_alarmAt_59 rfl rfl ?_
        refine V.getR 60 dX8_alarmAt_60 fl_RX8_7 r_178_0 ?_
        refine J.sipush 63 (nI 178) dX8_alarmAt_63 (by decide +kernel) ?_
        refine J.iload_n 66 dX8_alarmAt_66 rfl rfl ?_
        refine V.iadd 67 dX8_alarmAt_67 ?_
        refine V.iald 68 dX8_alarmAt_68 a_179 (by omega) ?_
        exact V.iret 69 dX8_alarmAt_69 (by unfold F_alarmAt; rw [if_neg (fun z => z c15), if_neg (by decide), ix_nI ha (by omega), show ix (nI 1) = 1 from by decide +kernel]; exact ⟨rfl, EqR.rf _⟩)
      · refine J.tableIn 22 70 dX8_alarmAt_22 (by decide) (by decide) rfl (by decide) ?_
        refine J.aload_n 70 dX8_alarmAt_70 rfl rfl ?_
        refine V.getR 71 dX8_alarmAt_71 fl_RX8_7 r_178_0 ?_
        refine J.sipush 74 (nI 184) dX8_alarmAt_74 (by decide +kernel) ?_
        refine J.iload_n 77 dX8_alarmAt_77 rfl rfl ?_
        refine V.iadd 78 dX8_alarmAt_78 ?_
        refine V.iald 79 dX8_alarmAt_79 a_179 (by omega) ?_
        exact V.iret 80 dX8_alarmAt_80 (by unfold F_alarmAt; rw [if_neg (fun z => z c15), if_neg (by decide), ix_nI ha (by omega), show ix (nI 2) = 2 from by decide +kernel]; exact ⟨rfl, EqR.rf _⟩)
  · refine J.ldc 18 (-1000000001) dX8_alarmAt_18 kc_RX8_155 ?_
    exact V.iret 20 dX8_alarmAt_20 (by unfold F_alarmAt; rw [if_pos c15]; exact ⟨rfl, EqR.rf _⟩)
