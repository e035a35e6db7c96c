/-! ===== part 12: the reference: apart, round, tick, sets ===== -/
theorem ro_zero (v : Vm2) : ro v 0 = v 179 := by
  funext k
  simp [ro]
def clk (n : Nat) (x : Int32) : Prop := 0 ≤ x.toInt ∧ x.toInt < (n : Int)
theorem clk_dec (n : Nat) (x : Int32) : (clk n x) = (0 ≤ x.toInt ∧ x.toInt < (n : Int)) := rfl
theorem clk_nI {n : Nat} {x : Int32} (hn : n < 2 ^ 30) : clk n x ↔ ∃ c, c < n ∧ x = nI c := by
  constructor
  · intro h
    obtain ⟨j, hj, e⟩ := nI_of (x := x) (fun q => by
      have := Int32.lt_iff_toInt_lt.mp q
      have h0 : (0 : Int32).toInt = 0 := by decide
      have := h.1
      omega)
    refine ⟨j, ?_, e⟩
    have h1 := nI_toInt hj
    rw [← e] at h1
    have := h.2
    omega
  · rintro ⟨c, hc, rfl⟩
    have h1 := nI_toInt (n := c) (by omega)
    exact ⟨by omega, by omega⟩
theorem inF_clk {n : Nat} {x : Int32} (hn : n < 2 ^ 30) : inF x 0 (nI n - nI 1) ↔ (0 ≤ x.toInt ∧ x.toInt < (n : Int)) := by
  have h0 : (0 : Int32).toInt = 0 := by decide
  have h1 := pk_sub_toInt (a := n) (b := 1) hn (by decide)
  unfold inF
  rw [Int32.le_iff_toInt_le, Int32.le_iff_toInt_le, h0, h1]
  omega
def stF9 (f : Nat → Int32) (c : Nat) : Int32 := if f (19 + c) ≤ f 2 then (if -(f 2) ≤ f (19 + c) then f (19 + c) else -(f 2)) else f 2
def tkC (f : Nat → Int32) (c : Nat) : Nat → Int32 := if f (35 + c) = 0 then upd (upd f (3 + c) (f (3 + c) + (f (11 + c) + stF9 f c))) (19 + c) (upd f (3 + c) (f (3 + c) + (f (11 + c) + stF9 f c)) (19 + c) - stF9 f c) else f
def tkA (f : Nat → Int32) : Nat → (Nat → Int32)
  | 0 => f
  | c + 1 => tkC (tkA f c) c
def rgC (f : Nat → Int32) (a : Nat) : Nat → Int32 := upd f (184 + a) (if f (35 + (f (172 + a)).toNatClampNeg) = 0 ∧ f (178 + a) ≤ f (3 + (f (172 + a)).toNatClampNeg) then nI 1 else f (184 + a))
def rgA (f : Nat → Int32) : Nat → (Nat → Int32)
  | 0 => f
  | a + 1 => rgC (rgA f a) a
def tkF (f : Nat → Int32) (n m : Nat) : Nat → Int32 := rgA (upd (tkA f n) 190 (tkA f n 190 + nI 1)) m
theorem tkC_at (f : Nat → Int32) (c k : Nat) (h : k ≠ 3 + c) (h2 : k ≠ 19 + c) : tkC f c k = f k := by
  unfold tkC
  split
  · simp [upd, h, h2]
  · rfl
theorem tkA_at (f : Nat → Int32) : ∀ (n k : Nat), (k < 3 ∨ 3 + n ≤ k) → (k < 19 ∨ 19 + n ≤ k) → tkA f n k = f k
  | 0, _, _, _ => rfl
  | n + 1, k, h1, h2 => by
    unfold tkA
    rw [tkC_at _ _ _ (by omega) (by omega)]
    exact tkA_at f n k (by omega) (by omega)
theorem rgA_at (f : Nat → Int32) : ∀ (m k : Nat), (k < 184 ∨ 184 + m ≤ k) → rgA f m k = f k
  | 0, _, _ => rfl
  | m + 1, k, h => by
    unfold rgA rgC
    simp only [upd, show ¬ k = 184 + m by omega, if_false]
    exact rgA_at f m k (by omega)
def cntL (ρ : Nat → Int32) : Nat → Nat
  | 0 => 0
  | c + 1 => cntL ρ c + (if liF ρ c then 1 else 0)
def cntT (ρ : Nat → Int32) : Nat → Nat
  | 0 => 0
  | c + 1 => cntT ρ c + (if trF ρ c then 1 else 0)
def cntS (ρ : Nat → Int32) : Nat → Nat
  | 0 => 0
  | c + 1 => cntS ρ c + (if ρ (35 + c) = 0 then 1 else 0)
theorem cntL_le (ρ : Nat → Int32) : ∀ n, cntL ρ n ≤ n
  | 0 => Nat.le_refl 0
  | n + 1 => by unfold cntL; have := cntL_le ρ n; split <;> omega
theorem cntT_le (ρ : Nat → Int32) : ∀ n, cntT ρ n ≤ n
  | 0 => Nat.le_refl 0
  | n + 1 => by unfold cntT; have := cntT_le ρ n; split <;> omega
theorem cntS_le (ρ : Nat → Int32) : ∀ n, cntS ρ n ≤ n
  | 0 => Nat.le_refl 0
  | n + 1 => by unfold cntS; have := cntS_le ρ n; split <;> omega

abbrev clkB (n : Nat) (x : Int32) : Prop := 0 ≤ x.toInt ∧ x.toInt < (n : Int)
theorem clkB_nI {n : Nat} {x : Int32} (hn : n < 2 ^ 30) : clkB n x ↔ ∃ c, c < n ∧ x = nI c := clk_nI hn
theorem bI_congr {p q : Prop} [Decidable p] [Decidable q] (h : p ↔ q) : bI p = bI q := by
  unfold bI
  by_cases hp : p
  · rw [if_pos hp, if_pos (h.mp hp)]
  · rw [if_neg hp, if_neg (fun x => hp (h.mpr x))]
theorem k_isClock (w : Wd) (v : Vm2) (c : Int32) {n : Nat} (hn0 : v 179 0 = nI n) (hn : n ≤ 8) : CP w yX8_isClock cX8_isClock 2 (some .boolean) (rm 1 22) [.ref (wN w + 178), .int c] v (bI (clkB n c)) := by
  have h := c_X8_isClock w v c
  rw [hn0] at h
  have e : bI (clkB n c) = bI (inF c 0 (nI n - 1)) := bI_congr (p := clkB n c) (q := inF c 0 (nI n - 1)) (inF_clk (x := c) (by omega : n < 2 ^ 30)).symm
  rw [e]
  exact h
set_option maxHeartbeats 4000000 in
set_option maxRecDepth 100000 in
theorem c_X8_apart (w : Wd) (v : Vm2) {x n : Nat} (hx : x + 192 ≤ 3840) (hn0 : v 179 x = nI n) (hn : n ≤ 8) : CP w yX8_apart cX8_apart 5 (some .int) (rm 1 22) [.ref (wN w + 178), .int (nI x)] v (apF (ro v x) n) := by
  refine CI.of (by decide) (Nat.le_of_ble_eq_true rfl) ?_
  have lp : ∀ (m : Nat) (c : Nat), (c ≤ n) → n - c < m → J w yX8_apart cX8_apart 5 (some .int) (rm 1 22) XT (ZJ w 185 0 0 (PI w (fun r v' => r = apF (ro v x) n ∧ v' = v))) 7 [(0, .ref (wN w + 178)), (1, .int (nI x)), (2, .int (oI (loI (ro v x) c))), (3, .int (oI (hiI (ro v x) c))), (4, .int (nI c))] [] 185 (hv w (v)) 0 0 := by
    intro m
    induction m with
    | zero =>
      intro c hi0 hm
      exact absurd hm (by omega)
    | succ m ih =>
      intro c hi0 hm
      rcases lohi (ro v x) c with ⟨h1, h2⟩ | ⟨l, h, h1, h2⟩
      · rw [h1, h2]
        refine J.iload 7 dX8_apart_7 rfl ?_
        refine J.aload_n 9 dX8_apart_9 rfl rfl ?_
        refine V.getR 10 dX8_apart_10 fl_RX8_7 r_178_0 ?_
        refine J.iload_n 13 dX8_apart_13 rfl rfl ?_
        refine V.iald 14 dX8_apart_14 a_179 (by omega) ?_
        refine J.top hn0 ?_
        refine V.icmp_ge 15 90 dX8_apart_15 (by decide) (by omega) (by omega) (fun c15 => ?_) (fun c15 => ?_)
        · refine J.iload_n 90 dX8_apart_90 rfl rfl ?_
          refine J.iconst 91 (-1) dX8_apart_91 (by decide +kernel) ?_
          refine J.icmp_ne 92 99 dX8_apart_92 (by decide) (fun q => absurd q (by decide)) (fun _ => ?_)
          refine J.iconst 95 (-1) dX8_apart_95 (by decide +kernel) ?_
          refine J.goto 96 112 dX8_apart_96 (by decide) ?_
          obtain rfl : c = n := by omega
          exact V.iret 112 dX8_apart_112 (⟨by unfold apF; rw [h1, h2], rfl⟩)
        · refine J.aload_n 18 dX8_apart_18 rfl rfl ?_
          refine J.iload_n 19 dX8_apart_19 rfl rfl ?_
          refine J.iload 20 dX8_apart_20 rfl ?_
          refine V.callvP 22 dX8_apart_22 ml_RX8_114 mi_yX8_isTrue mv_yX8_isTrue (c_X8_isTrue w _ (by omega)) rfl rfl (Nat.le_of_ble_eq_true rfl) (by decide) (by decide) o_178 rfl rfl ?_
          refine V.if_eqB 25 84 dX8_apart_25 (by decide) (fun c25 => ?_) (fun c25 => ?_)
          · have e2 : loI (ro v x) (c + 1) = none := by unfold loI; rw [if_neg c25, h1]
            have e3 : hiI (ro v x) (c + 1) = none := by unfold hiI; rw [if_neg c25, h2]
            refine V.iinc 84 dX8_apart_84 rfl (by decide) ?_
            refine J.goto 87 7 dX8_apart_87 (by decide) ?_
            have q := ih (c + 1) (by omega) (by omega)
            rw [e2, e3] at q
            exact q
          · have e2 : loI (ro v x) (c + 1) = some c := by unfold loI; rw [if_pos c25, h1]
            have e3 : hiI (ro v x) (c + 1) = some c := by unfold hiI; rw [if_pos c25, h2]
            refine J.iload_n 28 dX8_apart_28 rfl rfl ?_
            refine J.iconst 29 (-1) dX8_apart_29 (by decide +kernel) ?_
            refine J.icmp_eq 30 49 dX8_apart_30 (by decide) (fun _ => ?_) (fun q => absurd q (by decide))
            refine J.iload 49 dX8_apart_49 rfl ?_
            refine J.goto 51 55 dX8_apart_51 (by decide) ?_
            refine J.istore_n 55 dX8_apart_55 rfl (by decide) ?_
            refine J.iload_n 56 dX8_apart_56 rfl rfl ?_
            refine J.iconst 57 (-1) dX8_apart_57 (by decide +kernel) ?_
            refine J.icmp_eq 58 77 dX8_apart_58 (by decide) (fun _ => ?_) (fun q => absurd q (by decide))
            refine J.iload 77 dX8_apart_77 rfl ?_
            refine J.goto 79 83 dX8_apart_79 (by decide) ?_
            refine J.istore_n 83 dX8_apart_83 rfl (by decide) ?_
            refine V.iinc 84 dX8_apart_84 rfl (by decide) ?_
            refine J.goto 87 7 dX8_apart_87 (by decide) ?_
            have q := ih (c + 1) (by omega) (by omega)
            rw [e2, e3] at q
            exact q
      · have hl := loI_lt _ _ _ h1
        have hh := hiI_lt _ _ _ h2
        rw [h1, h2]
        refine J.iload 7 dX8_apart_7 rfl ?_
        refine J.aload_n 9 dX8_apart_9 rfl rfl ?_
        refine V.getR 10 dX8_apart_10 fl_RX8_7 r_178_0 ?_
        refine J.iload_n 13 dX8_apart_13 rfl rfl ?_
        refine V.iald 14 dX8_apart_14 a_179 (by omega) ?_
        refine J.top hn0 ?_
        refine V.icmp_ge 15 90 dX8_apart_15 (by decide) (by omega) (by omega) (fun c15 => ?_) (fun c15 => ?_)
        · refine J.iload_n 90 dX8_apart_90 rfl rfl ?_
          refine J.iconst 91 (-1) dX8_apart_91 (by decide +kernel) ?_
          refine J.icmp_ne 92 99 dX8_apart_92 (by decide) (fun _ => ?_) (fun q => absurd q (nI_m1 (by omega)))
          refine J.aload_n 99 dX8_apart_99 rfl rfl ?_
          refine J.iload_n 100 dX8_apart_100 rfl rfl ?_
          refine J.iload_n 101 dX8_apart_101 rfl rfl ?_
          refine V.callvP 102 dX8_apart_102 ml_RX8_97 mi_yX8_aim mv_yX8_aim (c_X8_aim w _ (by omega)) rfl rfl (Nat.le_of_ble_eq_true rfl) (by decide) (by decide) o_178 rfl rfl ?_
          refine J.aload_n 105 dX8_apart_105 rfl rfl ?_
          refine J.iload_n 106 dX8_apart_106 rfl rfl ?_
          refine J.iload_n 107 dX8_apart_107 rfl rfl ?_
          refine V.callvP 108 dX8_apart_108 ml_RX8_97 mi_yX8_aim mv_yX8_aim (c_X8_aim w _ (by omega)) rfl rfl (Nat.le_of_ble_eq_true rfl) (by decide) (by decide) o_178 rfl rfl ?_
          refine J.isub 111 dX8_apart_111 ?_
          obtain rfl : c = n := by omega
          exact V.iret 112 dX8_apart_112 (⟨by unfold apF; rw [h1, h2], rfl⟩)
        · refine J.aload_n 18 dX8_apart_18 rfl rfl ?_
          refine J.iload_n 19 dX8_apart_19 rfl rfl ?_
          refine J.iload 20 dX8_apart_20 rfl ?_
          refine V.callvP 22 dX8_apart_22 ml_RX8_114 mi_yX8_isTrue mv_yX8_isTrue (c_X8_isTrue w _ (by omega)) rfl rfl (Nat.le_of_ble_eq_true rfl) (by decide) (by decide) o_178 rfl rfl ?_
          refine V.if_eqB 25 84 dX8_apart_25 (by decide) (fun c25 => ?_) (fun c25 => ?_)
          · have e2 : loI (ro v x) (c + 1) = some l := by unfold loI; rw [if_neg c25, h1]
            have e3 : hiI (ro v x) (c + 1) = some h := by unfold hiI; rw [if_neg c25, h2]
            refine V.iinc 84 dX8_apart_84 rfl (by decide) ?_
            refine J.goto 87 7 dX8_apart_87 (by decide) ?_
            have q := ih (c + 1) (by omega) (by omega)
            rw [e2, e3] at q
            exact q
          · refine J.iload_n 28 dX8_apart_28 rfl rfl ?_
            refine J.iconst 29 (-1) dX8_apart_29 (by decide +kernel) ?_
            refine J.icmp_eq 30 49 dX8_apart_30 (by decide) (fun q => absurd q (nI_m1 (by omega))) (fun _ => ?_)
            refine J.aload_n 33 dX8_apart_33 rfl rfl ?_
            refine J.iload_n 34 dX8_apart_34 rfl rfl ?_
            refine J.iload 35 dX8_apart_35 rfl ?_
            refine V.callvP 37 dX8_apart_37 ml_RX8_97 mi_yX8_aim mv_yX8_aim (c_X8_aim w _ (by omega)) rfl rfl (Nat.le_of_ble_eq_true rfl) (by decide) (by decide) o_178 rfl rfl ?_
            refine J.aload_n 40 dX8_apart_40 rfl rfl ?_
            refine J.iload_n 41 dX8_apart_41 rfl rfl ?_
            refine J.iload_n 42 dX8_apart_42 rfl rfl ?_
            refine V.callvP 43 dX8_apart_43 ml_RX8_97 mi_yX8_aim mv_yX8_aim (c_X8_aim w _ (by omega)) rfl rfl (Nat.le_of_ble_eq_true rfl) (by decide) (by decide) o_178 rfl rfl ?_
            refine J.icmp_ge 46 54 dX8_apart_46 (by decide) (fun c46 => ?_) (fun c46 => ?_)
            · have e2 : loI (ro v x) (c + 1) = some l := by unfold loI; rw [if_pos c25, h1]; exact if_neg (Int32.not_lt.mpr c46)
              refine J.iload_n 54 dX8_apart_54 rfl rfl ?_
              refine J.istore_n 55 dX8_apart_55 rfl (by decide) ?_
              refine J.iload_n 56 dX8_apart_56 rfl rfl ?_
              refine J.iconst 57 (-1) dX8_apart_57 (by decide +kernel) ?_
              refine J.icmp_eq 58 77 dX8_apart_58 (by decide) (fun q => absurd q (nI_m1 (by omega))) (fun _ => ?_)
              refine J.aload_n 61 dX8_apart_61 rfl rfl ?_
              refine J.iload_n 62 dX8_apart_62 rfl rfl ?_
              refine J.iload 63 dX8_apart_63 rfl ?_
              refine V.callvP 65 dX8_apart_65 ml_RX8_97 mi_yX8_aim mv_yX8_aim (c_X8_aim w _ (by omega)) rfl rfl (Nat.le_of_ble_eq_true rfl) (by decide) (by decide) o_178 rfl rfl ?_
              refine J.aload_n 68 dX8_apart_68 rfl rfl ?_
              refine J.iload_n 69 dX8_apart_69 rfl rfl ?_
              refine J.iload_n 70 dX8_apart_70 rfl rfl ?_
              refine V.callvP 71 dX8_apart_71 ml_RX8_97 mi_yX8_aim mv_yX8_aim (c_X8_aim w _ (by omega)) rfl rfl (Nat.le_of_ble_eq_true rfl) (by decide) (by decide) o_178 rfl rfl ?_
              refine J.icmp_le 74 82 dX8_apart_74 (by decide) (fun c74 => ?_) (fun c74 => ?_)
              · have e3 : hiI (ro v x) (c + 1) = some h := by unfold hiI; rw [if_pos c25, h2]; exact if_neg (Int32.not_lt.mpr c74)
                refine J.iload_n 82 dX8_apart_82 rfl rfl ?_
                refine J.istore_n 83 dX8_apart_83 rfl (by decide) ?_
                refine V.iinc 84 dX8_apart_84 rfl (by decide) ?_
                refine J.goto 87 7 dX8_apart_87 (by decide) ?_
                have q := ih (c + 1) (by omega) (by omega)
                rw [e2, e3] at q
                exact q
              · have e3 : hiI (ro v x) (c + 1) = some c := by unfold hiI; rw [if_pos c25, h2]; exact if_pos (Int32.not_le.mp c74)
                refine J.iload 77 dX8_apart_77 rfl ?_
                refine J.goto 79 83 dX8_apart_79 (by decide) ?_
                refine J.istore_n 83 dX8_apart_83 rfl (by decide) ?_
                refine V.iinc 84 dX8_apart_84 rfl (by decide) ?_
                refine J.goto 87 7 dX8_apart_87 (by decide) ?_
                have q := ih (c + 1) (by omega) (by omega)
                rw [e2, e3] at q
                exact q
            · have e2 : loI (ro v x) (c + 1) = some c := by unfold loI; rw [if_pos c25, h1]; exact if_pos (Int32.not_le.mp c46)
              refine J.iload 49 dX8_apart_49 rfl ?_
              refine J.goto 51 55 dX8_apart_51 (by decide) ?_
              refine J.istore_n 55 dX8_apart_55 rfl (by decide) ?_
              refine J.iload_n 56 dX8_apart_56 rfl rfl ?_
              refine J.iconst 57 (-1) dX8_apart_57 (by decide +kernel) ?_
              refine J.icmp_eq 58 77 dX8_apart_58 (by decide) (fun q => absurd q (nI_m1 (by omega))) (fun _ => ?_)
              refine J.aload_n 61 dX8_apart_61 rfl rfl ?_
              refine J.iload_n 62 dX8_apart_62 rfl rfl ?_
              refine J.iload 63 dX8_apart_63 rfl ?_
              refine V.callvP 65 dX8_apart_65 ml_RX8_97 mi_yX8_aim mv_yX8_aim (c_X8_aim w _ (by omega)) rfl rfl (Nat.le_of_ble_eq_true rfl) (by decide) (by decide) o_178 rfl rfl ?_
              refine J.aload_n 68 dX8_apart_68 rfl rfl ?_
              refine J.iload_n 69 dX8_apart_69 rfl rfl ?_
              refine J.iload_n 70 dX8_apart_70 rfl rfl ?_
              refine V.callvP 71 dX8_apart_71 ml_RX8_97 mi_yX8_aim mv_yX8_aim (c_X8_aim w _ (by omega)) rfl rfl (Nat.le_of_ble_eq_true rfl) (by decide) (by decide) o_178 rfl rfl ?_
              refine J.icmp_le 74 82 dX8_apart_74 (by decide) (fun c74 => ?_) (fun c74 => ?_)
              · have e3 : hiI (ro v x) (c + 1) = some h := by unfold hiI; rw [if_pos c25, h2]; exact if_neg (Int32.not_lt.mpr c74)
                refine J.iload_n 82 dX8_apart_82 rfl rfl ?_
                refine J.istore_n 83 dX8_apart_83 rfl (by decide) ?_
                refine V.iinc 84 dX8_apart_84 rfl (by decide) ?_
                refine J.goto 87 7 dX8_apart_87 (by decide) ?_
                have q := ih (c + 1) (by omega) (by omega)
                rw [e2, e3] at q
                exact q
              · have e3 : hiI (ro v x) (c + 1) = some c := by unfold hiI; rw [if_pos c25, h2]; exact if_pos (Int32.not_le.mp c74)
                refine J.iload 77 dX8_apart_77 rfl ?_
                refine J.goto 79 83 dX8_apart_79 (by decide) ?_
                refine J.istore_n 83 dX8_apart_83 rfl (by decide) ?_
                refine V.iinc 84 dX8_apart_84 rfl (by decide) ?_
                refine J.goto 87 7 dX8_apart_87 (by decide) ?_
                have q := ih (c + 1) (by omega) (by omega)
                rw [e2, e3] at q
                exact q
  refine J.iconst 0 (-1) dX8_apart_0 (by decide +kernel) ?_
  refine J.istore_n 1 dX8_apart_1 rfl (by decide) ?_
  refine J.iconst 2 (-1) dX8_apart_2 (by decide +kernel) ?_
  refine J.istore_n 3 dX8_apart_3 rfl (by decide) ?_
  refine J.iconst 4 (nI 0) dX8_apart_4 (by decide +kernel) ?_
  refine J.istore 5 dX8_apart_5 (by decide) ?_
  exact lp (n + 1) 0 (by omega) (by omega)
theorem g0_at (f : Nat → Int32) (n m k : Nat) (hn : n ≤ 8) (h1 : k ≠ 190) (h2 : k < 3 ∨ 27 ≤ k) (h3 : k < 184 ∨ 184 + m ≤ k) : rgA (upd (tkA f n) 190 (tkA f n 190 + nI 1)) m k = f k := by
  rw [rgA_at _ _ _ h3]
  simp only [upd, h1, if_false]
  exact tkA_at f n k (by omega) (by omega)
set_option maxHeartbeats 4000000 in
set_option maxRecDepth 100000 in
theorem c_X8_tickOne (w : Wd) (v : Vm2) {n ma : Nat} (hn0 : v 179 0 = nI n) (hn : n ≤ 8) (hm0 : v 179 171 = nI ma) (hma : ma ≤ 6) (hal : ∀ a, a < ma → ∃ cl, cl < 8 ∧ v 179 (172 + a) = nI cl) : CU w yX8_tickOne cX8_tickOne 3 (rm 0 0) [.ref (wN w + 178)] v (fun v' => v' = upR v 179 (tkF (v 179) n ma)) := by
  refine CU.of (by decide) (Nat.le_of_ble_eq_true rfl) ?_
  have lq : ∀ (m : Nat) (a : Nat), (a ≤ ma) → ma - a < m → J w yX8_tickOne cX8_tickOne 3 none (rm 0 0) XT (ZJ w 185 0 0 (PU w (fun v' => v' = upR v 179 (tkF (v 179) n ma)))) 145 [(0, .ref (wN w + 178)), (1, .int (nI a))] [] 185 (hv w (upR v 179 (rgA (upd (tkA (v 179) n) 190 (tkA (v 179) n 190 + nI 1)) a))) 0 0 := by
    intro m
    induction m with
    | zero =>
      intro a hi0 hm
      exact absurd hm (by omega)
    | succ m ih =>
      intro a hi0 hm
      refine J.iload_n 145 dX8_tickOne_145 rfl rfl ?_
      refine J.aload_n 146 dX8_tickOne_146 rfl rfl ?_
      refine V.getR 147 dX8_tickOne_147 fl_RX8_7 r_178_0 ?_
      refine J.sipush 150 (nI 171) dX8_tickOne_150 (by decide +kernel) ?_
      refine V.iald 153 dX8_tickOne_153 a_179 (by omega) ?_
      refine J.top (congrFun (upR_self _ _ _) _) ?_
      refine J.top ((g0_at (v 179) n a 171 hn (by omega) (by omega) (by omega)).trans hm0) ?_
      refine V.icmp_ge 154 248 dX8_tickOne_154 (by decide) (by omega) (by omega) (fun c154 => ?_) (fun c154 => ?_)
      · exact V.vret 248 dX8_tickOne_248 (by unfold tkF; rw [show a = ma by omega])
      · obtain ⟨cl, hcl8, hcl⟩ := hal a c154
        have ecl : (rgA (upd (tkA (v 179) n) 190 (tkA (v 179) n 190 + nI 1)) a (172 + a)).toNatClampNeg = cl := by rw [(g0_at (v 179) n a (172 + a) hn (by omega) (by omega) (by omega)).trans hcl]; exact nI_clamp (by omega)
        refine J.aload_n 157 dX8_tickOne_157 rfl rfl ?_
        refine V.getR 158 dX8_tickOne_158 fl_RX8_7 r_178_0 ?_
        refine J.bipush 161 (nI 35) dX8_tickOne_161 (by decide +kernel) ?_
        refine J.aload_n 163 dX8_tickOne_163 rfl rfl ?_
        refine V.getR 164 dX8_tickOne_164 fl_RX8_7 r_178_0 ?_
        refine J.sipush 167 (nI 172) dX8_tickOne_167 (by decide +kernel) ?_
        refine J.iload_n 170 dX8_tickOne_170 rfl rfl ?_
        refine V.iadd 171 dX8_tickOne_171 ?_
        refine V.iald 172 dX8_tickOne_172 a_179 (by omega) ?_
        refine J.top (congrFun (upR_self _ _ _) _) ?_
        refine J.top ((g0_at (v 179) n a (172 + a) hn (by omega) (by omega) (by omega)).trans hcl) ?_
        refine V.iadd 173 dX8_tickOne_173 ?_
        refine V.iald 174 dX8_tickOne_174 a_179 (by omega) ?_
        refine J.top (congrFun (upR_self _ _ _) _) ?_
        refine J.if_ne 175 212 dX8_tickOne_175 (by decide) (fun c175 => ?_) (fun c175 => ?_)
        · refine J.iconst 212 (nI 0) dX8_tickOne_212 (by decide +kernel) ?_
          refine J.istore_n 213 dX8_tickOne_213 rfl (by decide) ?_
          refine J.aload_n 214 dX8_tickOne_214 rfl rfl ?_
          refine V.getR 215 dX8_tickOne_215 fl_RX8_7 r_178_0 ?_
          refine J.sipush 218 (nI 184) dX8_tickOne_218 (by decide +kernel) ?_
          refine J.iload_n 221 dX8_tickOne_221 rfl rfl ?_
          refine V.iadd 222 dX8_tickOne_222 ?_
          refine J.iload_n 223 dX8_tickOne_223 rfl rfl ?_
          refine J.if_eq 224 231 dX8_tickOne_224 (by decide) (fun _ => ?_) (fun q => absurd q (by decide))
          refine J.aload_n 231 dX8_tickOne_231 rfl rfl ?_
          refine V.getR 232 dX8_tickOne_232 fl_RX8_7 r_178_0 ?_
          refine J.sipush 235 (nI 184) dX8_tickOne_235 (by decide +kernel) ?_
          refine J.iload_n 238 dX8_tickOne_238 rfl rfl ?_
          refine V.iadd 239 dX8_tickOne_239 ?_
          refine V.iald 240 dX8_tickOne_240 a_179 (by omega) ?_
          refine J.top (congrFun (upR_self _ _ _) _) ?_
          refine V.iast 241 dX8_tickOne_241 a_179 (by omega) ?_
          refine V.heapv (up2_upR _ _ _ _ _) ?_
          refine V.iinc 242 dX8_tickOne_242 rfl (by decide) ?_
          refine J.goto 245 145 dX8_tickOne_245 (by decide) ?_
          refine J.drop 2 ?_
          have q := ih (a + 1) (by omega) (by omega)
          have e1 : rgA (upd (tkA (v 179) n) 190 (tkA (v 179) n 190 + nI 1)) (a + 1) = rgC (rgA (upd (tkA (v 179) n) 190 (tkA (v 179) n 190 + nI 1)) a) a := rfl
          rw [e1] at q
          unfold rgC at q
          rw [ecl] at q
          first | (rw [if_pos ⟨c175, Int32.not_lt.mp c205⟩] at q; exact q) | (rw [if_neg (fun z => absurd c205 (Int32.not_lt.mpr z.2))] at q; exact q) | (rw [if_neg (fun z => c175 z.1)] at q; exact q)
        · refine J.aload_n 178 dX8_tickOne_178 rfl rfl ?_
          refine V.getR 179 dX8_tickOne_179 fl_RX8_7 r_178_0 ?_
          refine J.iconst 182 (nI 3) dX8_tickOne_182 (by decide +kernel) ?_
          refine J.aload_n 183 dX8_tickOne_183 rfl rfl ?_
          refine V.getR 184 dX8_tickOne_184 fl_RX8_7 r_178_0 ?_
          refine J.sipush 187 (nI 172) dX8_tickOne_187 (by decide +kernel) ?_
          refine J.iload_n 190 dX8_tickOne_190 rfl rfl ?_
          refine V.iadd 191 dX8_tickOne_191 ?_
          refine V.iald 192 dX8_tickOne_192 a_179 (by omega) ?_
          refine J.top (congrFun (upR_self _ _ _) _) ?_
          refine J.top ((g0_at (v 179) n a (172 + a) hn (by omega) (by omega) (by omega)).trans hcl) ?_
          refine V.iadd 193 dX8_tickOne_193 ?_
          refine V.iald 194 dX8_tickOne_194 a_179 (by omega) ?_
          refine J.top (congrFun (upR_self _ _ _) _) ?_
          refine J.aload_n 195 dX8_tickOne_195 rfl rfl ?_
          refine V.getR 196 dX8_tickOne_196 fl_RX8_7 r_178_0 ?_
          refine J.sipush 199 (nI 178) dX8_tickOne_199 (by decide +kernel) ?_
          refine J.iload_n 202 dX8_tickOne_202 rfl rfl ?_
          refine V.iadd 203 dX8_tickOne_203 ?_
          refine V.iald 204 dX8_tickOne_204 a_179 (by omega) ?_
          refine J.top (congrFun (upR_self _ _ _) _) ?_
          refine J.icmp_lt 205 212 dX8_tickOne_205 (by decide) (fun c205 => ?_) (fun c205 => ?_)
          · refine J.iconst 212 (nI 0) dX8_tickOne_212 (by decide +kernel) ?_
            refine J.istore_n 213 dX8_tickOne_213 rfl (by decide) ?_
            refine J.aload_n 214 dX8_tickOne_214 rfl rfl ?_
            refine V.getR 215 dX8_tickOne_215 fl_RX8_7 r_178_0 ?_
            refine J.sipush 218 (nI 184) dX8_tickOne_218 (by decide +kernel) ?_
            refine J.iload_n 221 dX8_tickOne_221 rfl rfl ?_
            refine V.iadd 222 dX8_tickOne_222 ?_
            refine J.iload_n 223 dX8_tickOne_223 rfl rfl ?_
            refine J.if_eq 224 231 dX8_tickOne_224 (by decide) (fun _ => ?_) (fun q => absurd q (by decide))
            refine J.aload_n 231 dX8_tickOne_231 rfl rfl ?_
            refine V.getR 232 dX8_tickOne_232 fl_RX8_7 r_178_0 ?_
            refine J.sipush 235 (nI 184) dX8_tickOne_235 (by decide +kernel) ?_
            refine J.iload_n 238 dX8_tickOne_238 rfl rfl ?_
            refine V.iadd 239 dX8_tickOne_239 ?_
            refine V.iald 240 dX8_tickOne_240 a_179 (by omega) ?_
            refine J.top (congrFun (upR_self _ _ _) _) ?_
            refine V.iast 241 dX8_tickOne_241 a_179 (by omega) ?_
            refine V.heapv (up2_upR _ _ _ _ _) ?_
            refine V.iinc 242 dX8_tickOne_242 rfl (by decide) ?_
            refine J.goto 245 145 dX8_tickOne_245 (by decide) ?_
            refine J.drop 2 ?_
            have q := ih (a + 1) (by omega) (by omega)
            have e1 : rgA (upd (tkA (v 179) n) 190 (tkA (v 179) n 190 + nI 1)) (a + 1) = rgC (rgA (upd (tkA (v 179) n) 190 (tkA (v 179) n 190 + nI 1)) a) a := rfl
            rw [e1] at q
            unfold rgC at q
            rw [ecl] at q
            first | (rw [if_pos ⟨c175, Int32.not_lt.mp c205⟩] at q; exact q) | (rw [if_neg (fun z => absurd c205 (Int32.not_lt.mpr z.2))] at q; exact q) | (rw [if_neg (fun z => c175 z.1)] at q; exact q)
          · refine J.iconst 208 (nI 1) dX8_tickOne_208 (by decide +kernel) ?_
            refine J.goto 209 213 dX8_tickOne_209 (by decide) ?_
            refine J.istore_n 213 dX8_tickOne_213 rfl (by decide) ?_
            refine J.aload_n 214 dX8_tickOne_214 rfl rfl ?_
            refine V.getR 215 dX8_tickOne_215 fl_RX8_7 r_178_0 ?_
            refine J.sipush 218 (nI 184) dX8_tickOne_218 (by decide +kernel) ?_
            refine J.iload_n 221 dX8_tickOne_221 rfl rfl ?_
            refine V.iadd 222 dX8_tickOne_222 ?_
            refine J.iload_n 223 dX8_tickOne_223 rfl rfl ?_
            refine J.if_eq 224 231 dX8_tickOne_224 (by decide) (fun q => absurd q (by decide)) (fun _ => ?_)
            refine J.iconst 227 (nI 1) dX8_tickOne_227 (by decide +kernel) ?_
            refine J.goto 228 241 dX8_tickOne_228 (by decide) ?_
            refine V.iast 241 dX8_tickOne_241 a_179 (by omega) ?_
            refine V.heapv (up2_upR _ _ _ _ _) ?_
            refine V.iinc 242 dX8_tickOne_242 rfl (by decide) ?_
            refine J.goto 245 145 dX8_tickOne_245 (by decide) ?_
            refine J.drop 2 ?_
            have q := ih (a + 1) (by omega) (by omega)
            have e1 : rgA (upd (tkA (v 179) n) 190 (tkA (v 179) n 190 + nI 1)) (a + 1) = rgC (rgA (upd (tkA (v 179) n) 190 (tkA (v 179) n 190 + nI 1)) a) a := rfl
            rw [e1] at q
            unfold rgC at q
            rw [ecl] at q
            first | (rw [if_pos ⟨c175, Int32.not_lt.mp c205⟩] at q; exact q) | (rw [if_neg (fun z => absurd c205 (Int32.not_lt.mpr z.2))] at q; exact q) | (rw [if_neg (fun z => c175 z.1)] at q; exact q)
  have K : J w yX8_tickOne cX8_tickOne 3 none (rm 0 0) XT (ZJ w 185 0 0 (PU w (fun v' => v' = upR v 179 (tkF (v 179) n ma)))) 131 [(0, .ref (wN w + 178)), (1, .int (nI n))] [] 185 (hv w (upR v 179 (tkA (v 179) n))) 0 0 := by
    refine J.aload_n 131 dX8_tickOne_131 rfl rfl ?_
    refine V.getR 132 dX8_tickOne_132 fl_RX8_7 r_178_0 ?_
    refine J.sipush 135 (nI 190) dX8_tickOne_135 (by decide +kernel) ?_
    refine J.dup2 138 dX8_tickOne_138 rfl rfl ?_
    refine V.iald 139 dX8_tickOne_139 a_179 (by omega) ?_
    refine J.top (congrFun (upR_self _ _ _) _) ?_
    refine J.iconst 140 (nI 1) dX8_tickOne_140 (by decide +kernel) ?_
    refine J.iadd 141 dX8_tickOne_141 ?_
    refine V.iast 142 dX8_tickOne_142 a_179 (by omega) ?_
    refine V.heapv (up2_upR _ _ _ _ _) ?_
    refine J.iconst 143 (nI 0) dX8_tickOne_143 (by decide +kernel) ?_
    refine J.istore_n 144 dX8_tickOne_144 rfl (by decide) ?_
    exact lq (ma + 1) 0 (by omega) (by omega)
  have lp : ∀ (m : Nat) (c : Nat), (c ≤ n) → n - c < m → J w yX8_tickOne cX8_tickOne 3 none (rm 0 0) XT (ZJ w 185 0 0 (PU w (fun v' => v' = upR v 179 (tkF (v 179) n ma)))) 2 [(0, .ref (wN w + 178)), (1, .int (nI c))] [] 185 (hv w (upR v 179 (tkA (v 179) c))) 0 0 := by
    intro m
    induction m with
    | zero =>
      intro c hi0 hm
      exact absurd hm (by omega)
    | succ m ih =>
      intro c hi0 hm
      refine J.iload_n 2 dX8_tickOne_2 rfl rfl ?_
      refine J.aload_n 3 dX8_tickOne_3 rfl rfl ?_
      refine V.getR 4 dX8_tickOne_4 fl_RX8_7 r_178_0 ?_
      refine J.iconst 7 (nI 0) dX8_tickOne_7 (by decide +kernel) ?_
      refine V.iald 8 dX8_tickOne_8 a_179 (by omega) ?_
      refine J.top (congrFun (upR_self _ _ _) _) ?_
      refine J.top ((tkA_at (v 179) c 0 (by omega) (by omega)).trans hn0) ?_
      refine V.icmp_ge 9 131 dX8_tickOne_9 (by decide) (by omega) (by omega) (fun c9 => ?_) (fun c9 => ?_)
      · obtain rfl : c = n := by omega
        exact K
      · refine J.aload_n 12 dX8_tickOne_12 rfl rfl ?_
        refine V.getR 13 dX8_tickOne_13 fl_RX8_7 r_178_0 ?_
        refine J.bipush 16 (nI 35) dX8_tickOne_16 (by decide +kernel) ?_
        refine J.iload_n 18 dX8_tickOne_18 rfl rfl ?_
        refine V.iadd 19 dX8_tickOne_19 ?_
        refine V.iald 20 dX8_tickOne_20 a_179 (by omega) ?_
        refine J.top (congrFun (upR_self _ _ _) _) ?_
        refine J.if_ne 21 125 dX8_tickOne_21 (by decide) (fun c21 => ?_) (fun c21 => ?_)
        · have e1 : tkA (v 179) (c + 1) = tkA (v 179) c := by unfold tkA tkC; rw [if_neg c21]; cases c <;> rfl
          refine V.iinc 125 dX8_tickOne_125 rfl (by decide) ?_
          refine J.goto 128 2 dX8_tickOne_128 (by decide) ?_
          have q := ih (c + 1) (by omega) (by omega)
          rw [e1] at q
          exact q
        · refine J.aload_n 24 dX8_tickOne_24 rfl rfl ?_
          refine V.getR 25 dX8_tickOne_25 fl_RX8_7 r_178_0 ?_
          refine J.bipush 28 (nI 19) dX8_tickOne_28 (by decide +kernel) ?_
          refine J.iload_n 30 dX8_tickOne_30 rfl rfl ?_
          refine V.iadd 31 dX8_tickOne_31 ?_
          refine V.iald 32 dX8_tickOne_32 a_179 (by omega) ?_
          refine J.top (congrFun (upR_self _ _ _) _) ?_
          refine J.aload_n 33 dX8_tickOne_33 rfl rfl ?_
          refine V.getR 34 dX8_tickOne_34 fl_RX8_7 r_178_0 ?_
          refine J.iconst 37 (nI 2) dX8_tickOne_37 (by decide +kernel) ?_
          refine V.iald 38 dX8_tickOne_38 a_179 (by omega) ?_
          refine J.top (congrFun (upR_self _ _ _) _) ?_
          refine J.icmp_le 39 51 dX8_tickOne_39 (by decide) (fun c39 => ?_) (fun c39 => ?_)
          · refine J.aload_n 51 dX8_tickOne_51 rfl rfl ?_
            refine V.getR 52 dX8_tickOne_52 fl_RX8_7 r_178_0 ?_
            refine J.bipush 55 (nI 19) dX8_tickOne_55 (by decide +kernel) ?_
            refine J.iload_n 57 dX8_tickOne_57 rfl rfl ?_
            refine V.iadd 58 dX8_tickOne_58 ?_
            refine V.iald 59 dX8_tickOne_59 a_179 (by omega) ?_
            refine J.top (congrFun (upR_self _ _ _) _) ?_
            refine J.aload_n 60 dX8_tickOne_60 rfl rfl ?_
            refine V.getR 61 dX8_tickOne_61 fl_RX8_7 r_178_0 ?_
            refine J.iconst 64 (nI 2) dX8_tickOne_64 (by decide +kernel) ?_
            refine V.iald 65 dX8_tickOne_65 a_179 (by omega) ?_
            refine J.top (congrFun (upR_self _ _ _) _) ?_
            refine J.ineg 66 dX8_tickOne_66 ?_
            refine J.icmp_ge 67 80 dX8_tickOne_67 (by decide) (fun c67 => ?_) (fun c67 => ?_)
            · have es : stF9 (tkA (v 179) c) c = tkA (v 179) c (19 + c) := by unfold stF9; rw [if_pos c39, if_pos c67]
              refine J.aload_n 80 dX8_tickOne_80 rfl rfl ?_
              refine V.getR 81 dX8_tickOne_81 fl_RX8_7 r_178_0 ?_
              refine J.bipush 84 (nI 19) dX8_tickOne_84 (by decide +kernel) ?_
              refine J.iload_n 86 dX8_tickOne_86 rfl rfl ?_
              refine V.iadd 87 dX8_tickOne_87 ?_
              refine V.iald 88 dX8_tickOne_88 a_179 (by omega) ?_
              refine J.top (congrFun (upR_self _ _ _) _) ?_
              refine J.istore_n 89 dX8_tickOne_89 rfl (by decide) ?_
              refine J.aload_n 90 dX8_tickOne_90 rfl rfl ?_
              refine V.getR 91 dX8_tickOne_91 fl_RX8_7 r_178_0 ?_
              refine J.iconst 94 (nI 3) dX8_tickOne_94 (by decide +kernel) ?_
              refine J.iload_n 95 dX8_tickOne_95 rfl rfl ?_
              refine V.iadd 96 dX8_tickOne_96 ?_
              refine J.dup2 97 dX8_tickOne_97 rfl rfl ?_
              refine V.iald 98 dX8_tickOne_98 a_179 (by omega) ?_
              refine J.top (congrFun (upR_self _ _ _) _) ?_
              refine J.aload_n 99 dX8_tickOne_99 rfl rfl ?_
              refine V.getR 100 dX8_tickOne_100 fl_RX8_7 r_178_0 ?_
              refine J.bipush 103 (nI 11) dX8_tickOne_103 (by decide +kernel) ?_
              refine J.iload_n 105 dX8_tickOne_105 rfl rfl ?_
              refine V.iadd 106 dX8_tickOne_106 ?_
              refine V.iald 107 dX8_tickOne_107 a_179 (by omega) ?_
              refine J.top (congrFun (upR_self _ _ _) _) ?_
              refine J.iload_n 108 dX8_tickOne_108 rfl rfl ?_
              refine J.iadd 109 dX8_tickOne_109 ?_
              refine J.iadd 110 dX8_tickOne_110 ?_
              refine V.iast 111 dX8_tickOne_111 a_179 (by omega) ?_
              refine V.heapv (up2_upR _ _ _ _ _) ?_
              refine J.aload_n 112 dX8_tickOne_112 rfl rfl ?_
              refine V.getR 113 dX8_tickOne_113 fl_RX8_7 r_178_0 ?_
              refine J.bipush 116 (nI 19) dX8_tickOne_116 (by decide +kernel) ?_
              refine J.iload_n 118 dX8_tickOne_118 rfl rfl ?_
              refine V.iadd 119 dX8_tickOne_119 ?_
              refine J.dup2 120 dX8_tickOne_120 rfl rfl ?_
              refine V.iald 121 dX8_tickOne_121 a_179 (by omega) ?_
              refine J.top (congrFun (upR_self _ _ _) _) ?_
              refine J.iload_n 122 dX8_tickOne_122 rfl rfl ?_
              refine J.isub 123 dX8_tickOne_123 ?_
              refine V.iast 124 dX8_tickOne_124 a_179 (by omega) ?_
              refine V.heapv (up2_upR _ _ _ _ _) ?_
              refine V.iinc 125 dX8_tickOne_125 rfl (by decide) ?_
              refine J.goto 128 2 dX8_tickOne_128 (by decide) ?_
              refine J.drop 2 ?_
              have e1 : tkA (v 179) (c + 1) = tkC (tkA (v 179) c) c := rfl
              have q := ih (c + 1) (by omega) (by omega)
              rw [e1] at q
              unfold tkC at q
              rw [if_pos c21, es] at q
              exact q
            · have es : stF9 (tkA (v 179) c) c = -(tkA (v 179) c 2) := by unfold stF9; rw [if_pos c39, if_neg c67]
              refine J.aload_n 70 dX8_tickOne_70 rfl rfl ?_
              refine V.getR 71 dX8_tickOne_71 fl_RX8_7 r_178_0 ?_
              refine J.iconst 74 (nI 2) dX8_tickOne_74 (by decide +kernel) ?_
              refine V.iald 75 dX8_tickOne_75 a_179 (by omega) ?_
              refine J.top (congrFun (upR_self _ _ _) _) ?_
              refine J.ineg 76 dX8_tickOne_76 ?_
              refine J.goto 77 89 dX8_tickOne_77 (by decide) ?_
              refine J.istore_n 89 dX8_tickOne_89 rfl (by decide) ?_
              refine J.aload_n 90 dX8_tickOne_90 rfl rfl ?_
              refine V.getR 91 dX8_tickOne_91 fl_RX8_7 r_178_0 ?_
              refine J.iconst 94 (nI 3) dX8_tickOne_94 (by decide +kernel) ?_
              refine J.iload_n 95 dX8_tickOne_95 rfl rfl ?_
              refine V.iadd 96 dX8_tickOne_96 ?_
              refine J.dup2 97 dX8_tickOne_97 rfl rfl ?_
              refine V.iald 98 dX8_tickOne_98 a_179 (by omega) ?_
              refine J.top (congrFun (upR_self _ _ _) _) ?_
              refine J.aload_n 99 dX8_tickOne_99 rfl rfl ?_
              refine V.getR 100 dX8_tickOne_100 fl_RX8_7 r_178_0 ?_
              refine J.bipush 103 (nI 11) dX8_tickOne_103 (by decide +kernel) ?_
              refine J.iload_n 105 dX8_tickOne_105 rfl rfl ?_
              refine V.iadd 106 dX8_tickOne_106 ?_
              refine V.iald 107 dX8_tickOne_107 a_179 (by omega) ?_
              refine J.top (congrFun (upR_self _ _ _) _) ?_
              refine J.iload_n 108 dX8_tickOne_108 rfl rfl ?_
              refine J.iadd 109 dX8_tickOne_109 ?_
              refine J.iadd 110 dX8_tickOne_110 ?_
              refine V.iast 111 dX8_tickOne_111 a_179 (by omega) ?_
              refine V.heapv (up2_upR _ _ _ _ _) ?_
              refine J.aload_n 112 dX8_tickOne_112 rfl rfl ?_
              refine V.getR 113 dX8_tickOne_113 fl_RX8_7 r_178_0 ?_
              refine J.bipush 116 (nI 19) dX8_tickOne_116 (by decide +kernel) ?_
              refine J.iload_n 118 dX8_tickOne_118 rfl rfl ?_
              refine V.iadd 119 dX8_tickOne_119 ?_
              refine J.dup2 120 dX8_tickOne_120 rfl rfl ?_
              refine V.iald 121 dX8_tickOne_121 a_179 (by omega) ?_
              refine J.top (congrFun (upR_self _ _ _) _) ?_
              refine J.iload_n 122 dX8_tickOne_122 rfl rfl ?_
              refine J.isub 123 dX8_tickOne_123 ?_
              refine V.iast 124 dX8_tickOne_124 a_179 (by omega) ?_
              refine V.heapv (up2_upR _ _ _ _ _) ?_
              refine V.iinc 125 dX8_tickOne_125 rfl (by decide) ?_
              refine J.goto 128 2 dX8_tickOne_128 (by decide) ?_
              refine J.drop 2 ?_
              have e1 : tkA (v 179) (c + 1) = tkC (tkA (v 179) c) c := rfl
              have q := ih (c + 1) (by omega) (by omega)
              rw [e1] at q
              unfold tkC at q
              rw [if_pos c21, es] at q
              exact q
          · have es : stF9 (tkA (v 179) c) c = tkA (v 179) c 2 := by unfold stF9; rw [if_neg c39]
            refine J.aload_n 42 dX8_tickOne_42 rfl rfl ?_
            refine V.getR 43 dX8_tickOne_43 fl_RX8_7 r_178_0 ?_
            refine J.iconst 46 (nI 2) dX8_tickOne_46 (by decide +kernel) ?_
            refine V.iald 47 dX8_tickOne_47 a_179 (by omega) ?_
            refine J.top (congrFun (upR_self _ _ _) _) ?_
            refine J.goto 48 89 dX8_tickOne_48 (by decide) ?_
            refine J.istore_n 89 dX8_tickOne_89 rfl (by decide) ?_
            refine J.aload_n 90 dX8_tickOne_90 rfl rfl ?_
            refine V.getR 91 dX8_tickOne_91 fl_RX8_7 r_178_0 ?_
            refine J.iconst 94 (nI 3) dX8_tickOne_94 (by decide +kernel) ?_
            refine J.iload_n 95 dX8_tickOne_95 rfl rfl ?_
            refine V.iadd 96 dX8_tickOne_96 ?_
            refine J.dup2 97 dX8_tickOne_97 rfl rfl ?_
            refine V.iald 98 dX8_tickOne_98 a_179 (by omega) ?_
            refine J.top (congrFun (upR_self _ _ _) _) ?_
            refine J.aload_n 99 dX8_tickOne_99 rfl rfl ?_
            refine V.getR 100 dX8_tickOne_100 fl_RX8_7 r_178_0 ?_
            refine J.bipush 103 (nI 11) dX8_tickOne_103 (by decide +kernel) ?_
            refine J.iload_n 105 dX8_tickOne_105 rfl rfl ?_
            refine V.iadd 106 dX8_tickOne_106 ?_
            refine V.iald 107 dX8_tickOne_107 a_179 (by omega) ?_
            refine J.top (congrFun (upR_self _ _ _) _) ?_
            refine J.iload_n 108 dX8_tickOne_108 rfl rfl ?_
            refine J.iadd 109 dX8_tickOne_109 ?_
            refine J.iadd 110 dX8_tickOne_110 ?_
            refine V.iast 111 dX8_tickOne_111 a_179 (by omega) ?_
            refine V.heapv (up2_upR _ _ _ _ _) ?_
            refine J.aload_n 112 dX8_tickOne_112 rfl rfl ?_
            refine V.getR 113 dX8_tickOne_113 fl_RX8_7 r_178_0 ?_
            refine J.bipush 116 (nI 19) dX8_tickOne_116 (by decide +kernel) ?_
            refine J.iload_n 118 dX8_tickOne_118 rfl rfl ?_
            refine V.iadd 119 dX8_tickOne_119 ?_
            refine J.dup2 120 dX8_tickOne_120 rfl rfl ?_
            refine V.iald 121 dX8_tickOne_121 a_179 (by omega) ?_
            refine J.top (congrFun (upR_self _ _ _) _) ?_
            refine J.iload_n 122 dX8_tickOne_122 rfl rfl ?_
            refine J.isub 123 dX8_tickOne_123 ?_
            refine V.iast 124 dX8_tickOne_124 a_179 (by omega) ?_
            refine V.heapv (up2_upR _ _ _ _ _) ?_
            refine V.iinc 125 dX8_tickOne_125 rfl (by decide) ?_
            refine J.goto 128 2 dX8_tickOne_128 (by decide) ?_
            refine J.drop 2 ?_
            have e1 : tkA (v 179) (c + 1) = tkC (tkA (v 179) c) c := rfl
            have q := ih (c + 1) (by omega) (by omega)
            rw [e1] at q
            unfold tkC at q
            rw [if_pos c21, es] at q
            exact q
  refine J.iconst 0 (nI 0) dX8_tickOne_0 (by decide +kernel) ?_
  refine J.istore_n 1 dX8_tickOne_1 rfl (by decide) ?_
  refine V.heapv (upR_id v 179) ?_
  exact lp (n + 1) 0 (by omega) (by omega)
set_option maxHeartbeats 4000000 in
set_option maxRecDepth 100000 in
theorem c_X8_liars (w : Wd) (v : Vm2) {n : Nat} (hn0 : v 179 0 = nI n) (hn : n ≤ 8) : CP w yX8_liars cX8_liars 3 (some .int) (rm 1 22) [.ref (wN w + 178)] v (nI (cntL (v 179) n)) := by
  refine CI.of (by decide) (Nat.le_of_ble_eq_true rfl) ?_
  have lp : ∀ (m : Nat) (c : Nat), (c ≤ n) → n - c < m → J w yX8_liars cX8_liars 3 (some .int) (rm 1 22) XT (ZJ w 185 0 0 (PI w (fun r v' => r = nI (cntL (v 179) n) ∧ v' = v))) 4 [(0, .ref (wN w + 178)), (1, .int (nI (cntL (v 179) c))), (2, .int (nI c))] [] 185 (hv w (v)) 0 0 := by
    intro m
    induction m with
    | zero =>
      intro c hi0 hm
      exact absurd hm (by omega)
    | succ m ih =>
      intro c hi0 hm
      refine J.iload_n 4 dX8_liars_4 rfl rfl ?_
      refine J.aload_n 5 dX8_liars_5 rfl rfl ?_
      refine V.getR 6 dX8_liars_6 fl_RX8_7 r_178_0 ?_
      refine J.iconst 9 (nI 0) dX8_liars_9 (by decide +kernel) ?_
      refine V.iald 10 dX8_liars_10 a_179 (by omega) ?_
      refine J.top hn0 ?_
      refine V.icmp_ge 11 37 dX8_liars_11 (by decide) (by omega) (by omega) (fun c11 => ?_) (fun c11 => ?_)
      · refine J.iload_n 37 dX8_liars_37 rfl rfl ?_
        obtain rfl : c = n := by omega
        exact V.iret 38 dX8_liars_38 (⟨rfl, rfl⟩)
      · refine J.iload_n 14 dX8_liars_14 rfl rfl ?_
        refine J.aload_n 15 dX8_liars_15 rfl rfl ?_
        refine J.iconst 16 (nI 0) dX8_liars_16 (by decide +kernel) ?_
        refine J.iload_n 17 dX8_liars_17 rfl rfl ?_
        refine V.callvP 18 dX8_liars_18 ml_RX8_120 mi_yX8_isLiar mv_yX8_isLiar (c_X8_isLiar w _ (by omega)) rfl rfl (Nat.le_of_ble_eq_true rfl) (by decide) (by decide) o_178 rfl rfl ?_
        rw [ro_zero]
        refine V.if_eqB 21 28 dX8_liars_21 (by decide) (fun c21 => ?_) (fun c21 => ?_)
        · have e1 : cntL (v 179) (c + 1) = cntL (v 179) c + 0 := by simp [cntL, c21]
          refine J.iconst 28 (nI 0) dX8_liars_28 (by decide +kernel) ?_
          refine V.iadd 29 dX8_liars_29 ?_
          refine J.istore_n 30 dX8_liars_30 rfl (by decide) ?_
          refine V.iinc 31 dX8_liars_31 rfl (by decide) ?_
          refine J.goto 34 4 dX8_liars_34 (by decide) ?_
          have q := ih (c + 1) (by omega) (by omega)
          rw [e1] at q
          exact q
        · have e1 : cntL (v 179) (c + 1) = cntL (v 179) c + 1 := by simp [cntL, c21]
          refine J.iconst 24 (nI 1) dX8_liars_24 (by decide +kernel) ?_
          refine J.goto 25 29 dX8_liars_25 (by decide) ?_
          refine V.iadd 29 dX8_liars_29 ?_
          refine J.istore_n 30 dX8_liars_30 rfl (by decide) ?_
          refine V.iinc 31 dX8_liars_31 rfl (by decide) ?_
          refine J.goto 34 4 dX8_liars_34 (by decide) ?_
          have q := ih (c + 1) (by omega) (by omega)
          rw [e1] at q
          exact q
  refine J.iconst 0 (nI 0) dX8_liars_0 (by decide +kernel) ?_
  refine J.istore_n 1 dX8_liars_1 rfl (by decide) ?_
  refine J.iconst 2 (nI 0) dX8_liars_2 (by decide +kernel) ?_
  refine J.istore_n 3 dX8_liars_3 rfl (by decide) ?_
  exact lp (n + 1) 0 (by omega) (by omega)
