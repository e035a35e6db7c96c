/-! ===== part 53: the law, whole ===== -/
theorem lw_le {N t : Nat} (hN : N ≤ 2048) (ht : t ≤ 600) (h : nI (4 * t) ≤ nI N - nI 4) : 4 * t + 4 ≤ N := by
  have e : (nI N - nI 4).toInt = (nI N).toInt - (nI 4).toInt := Jvm.Kit.i32_sub (by rw [nI_toInt (by omega), nI_toInt (by omega)]; omega) (by rw [nI_toInt (by omega), nI_toInt (by omega)]; omega)
  rw [nI_toInt (by omega), nI_toInt (by omega)] at e
  have g := Int32.le_iff_toInt_le.mp h
  rw [e, nI_toInt (by omega)] at g
  omega
theorem inc4 (t : Nat) : nI (4 * t) + Int32.ofInt 4 = nI (4 * (t + 1)) := by
  rw [show Int32.ofInt 4 = nI 4 by decide, nI_add, show 4 * t + 4 = 4 * (t + 1) by omega]
theorem MR.mono {v b : Vm2} {B E : Nat} (h : MR v b B) (hB : B ≤ E) : MR v b E := by
  obtain ⟨n, f, ma, K, nx, s, wr, a, h⟩ := h
  exact h.x hB
set_option maxHeartbeats 1000000 in
set_option maxRecDepth 100000 in
theorem lw_loop {w : Wd} {nm : String} {b N : Nat} {xs : Nat → Int32} (hN : N ≤ 2048) : ∀ (m t : Nat) (v : Vm2), N - 4 * t < m → t ≤ 512 → MR v v (9999 + 160000 * t) → JLw w nm b N xs t 18 v := by
  intro m
  induction m with
  | zero => intro t v hm; exact absurd hm (by omega)
  | succ m ih =>
    intro t v hm ht hM
    unfold JLw
    refine J.iload_n 18 dL_law_18 rfl rfl ?_
    refine J.aload_n 19 dL_law_19 rfl rfl ?_
    refine J.slen 20 dL_law_20 ?_
    refine J.iconst 21 (nI 4) dL_law_21 (by decide +kernel) ?_
    refine J.isub 22 dL_law_22 ?_
    refine J.icmp_gt 23 788 dL_law_23 (by decide) (fun c23 => ?_) (fun c23 => ?_)
    · refine J.iconst 788 1 dL_law_788 (by decide +kernel) ?_
      exact J.law1 789 dL_law_789 (by decide) (by decide)
    · have hle : 4 * t + 4 ≤ N := lw_le hN (by omega) (Int32.not_lt.mp c23)
      have kk : ∀ u, MR u u (9999 + 160000 * t + 160000) → JLw w nm b N xs t 782 u := by
        intro u hu
        unfold JLw
        refine J.iinc 782 dL_law_782 (nI (4 * (t + 1))) rfl (inc4 t) (by decide) ?_
        refine J.goto 785 18 dL_law_785 (by decide) ?_
        exact ih (t + 1) u (by omega) (by omega) (hu.mono (by omega))
      have hB : 9999 + 160000 * t ≤ 100000000 := by omega
      have hB9 : 9999 ≤ 9999 + 160000 * t := by omega
      refine J.aload_n 26 dL_law_26 rfl rfl ?_
      refine J.iload_n 27 dL_law_27 rfl rfl ?_
      refine J.sld 28 dL_law_28 (by omega) hN ?_
      refine J.bipush 29 (nI 31) dL_law_29 (by decide +kernel) ?_
      refine J.iand 31 dL_law_31 ?_
      obtain ⟨x, hx⟩ : ∃ x, x = xs (4 * t) &&& nI 31 := ⟨_, rfl⟩
      refine J.top hx.symm ?_
      clear hx
      rcases tsplit x 23 (by decide) with hsw | ⟨k, hk, rfl⟩
      · have hsw : x.toInt < 0 ∨ 23 < x.toInt := hsw
        exact J.tableOut 32 782 dL_law_32 hsw (by decide) (kk v (hM.mono (by omega)))
      · obtain rfl | rfl | rfl | rfl | rfl | rfl | rfl | rfl | rfl | rfl | rfl | rfl | rfl | rfl | rfl | rfl | rfl | rfl | rfl | rfl | rfl | rfl | rfl | rfl : k = 0 ∨ k = 1 ∨ k = 2 ∨ k = 3 ∨ k = 4 ∨ k = 5 ∨ k = 6 ∨ k = 7 ∨ k = 8 ∨ k = 9 ∨ k = 10 ∨ k = 11 ∨ k = 12 ∨ k = 13 ∨ k = 14 ∨ k = 15 ∨ k = 16 ∨ k = 17 ∨ k = 18 ∨ k = 19 ∨ k = 20 ∨ k = 21 ∨ k = 22 ∨ k = 23 := by omega
        · exact J.tableIn 32 144 dL_law_32 (by decide) (by decide) rfl (by decide) (lc_0 hN hle hM hB hB9 kk)
        · exact J.tableIn 32 167 dL_law_32 (by decide) (by decide) rfl (by decide) (lc_1 hN hle hM hB hB9 kk)
        · exact J.tableIn 32 180 dL_law_32 (by decide) (by decide) rfl (by decide) (lc_2 hN hle hM hB hB9 kk)
        · exact J.tableIn 32 193 dL_law_32 (by decide) (by decide) rfl (by decide) (lc_3 hN hle hM hB hB9 kk)
        · exact J.tableIn 32 216 dL_law_32 (by decide) (by decide) rfl (by decide) (lc_4 hN hle hM hB hB9 kk)
        · exact J.tableIn 32 249 dL_law_32 (by decide) (by decide) rfl (by decide) (lc_5 hN hle hM hB hB9 kk)
        · exact J.tableIn 32 292 dL_law_32 (by decide) (by decide) rfl (by decide) (lc_6 hN hle hM hB hB9 kk)
        · exact J.tableIn 32 325 dL_law_32 (by decide) (by decide) rfl (by decide) (lc_7 hN hle hM hB hB9 kk)
        · exact J.tableIn 32 348 dL_law_32 (by decide) (by decide) rfl (by decide) (lc_8 hN hle hM hB hB9 kk)
        · exact J.tableIn 32 361 dL_law_32 (by decide) (by decide) rfl (by decide) (lc_9 hN hle hM hB hB9 kk)
        · exact J.tableIn 32 404 dL_law_32 (by decide) (by decide) rfl (by decide) (lc_10 hN hle hM hB hB9 kk)
        · exact J.tableIn 32 447 dL_law_32 (by decide) (by decide) rfl (by decide) (lc_11 hN hle hM hB hB9 kk)
        · exact J.tableIn 32 496 dL_law_32 (by decide) (by decide) rfl (by decide) (lc_12 hN hle hM hB hB9 kk)
        · exact J.tableIn 32 519 dL_law_32 (by decide) (by decide) rfl (by decide) (lc_13 hN hle hM hB hB9 kk)
        · exact J.tableIn 32 542 dL_law_32 (by decide) (by decide) rfl (by decide) (lc_14 hN hle hM hB hB9 kk)
        · exact J.tableIn 32 575 dL_law_32 (by decide) (by decide) rfl (by decide) (lc_15 hN hle hM hB hB9 kk)
        · exact J.tableIn 32 598 dL_law_32 (by decide) (by decide) rfl (by decide) (lc_16 hN hle hM hB hB9 kk)
        · exact J.tableIn 32 621 dL_law_32 (by decide) (by decide) rfl (by decide) (lc_17 hN hle hM hB hB9 kk)
        · exact J.tableIn 32 644 dL_law_32 (by decide) (by decide) rfl (by decide) (lc_18 hN hle hM hB hB9 kk)
        · exact J.tableIn 32 667 dL_law_32 (by decide) (by decide) rfl (by decide) (lc_19 hN hle hM hB hB9 kk)
        · exact J.tableIn 32 700 dL_law_32 (by decide) (by decide) rfl (by decide) (lc_20 hN hle hM hB hB9 kk)
        · exact J.tableIn 32 713 dL_law_32 (by decide) (by decide) rfl (by decide) (lc_21 hN hle hM hB hB9 kk)
        · exact J.tableIn 32 736 dL_law_32 (by decide) (by decide) rfl (by decide) (lc_22 hN hle hM hB hB9 kk)
        · exact J.tableIn 32 759 dL_law_32 (by decide) (by decide) rfl (by decide) (lc_23 hN hle hM hB hB9 kk)
set_option maxHeartbeats 1000000 in
set_option maxRecDepth 100000 in
theorem lw_entry {w : Wd} {nm : String} {b N : Nat} {xs : Nat → Int32} {h : Nat → va_E} (hN : N ≤ 2048) : J w (yLn nm) code 4 ret room_1 (XL w b N xs) lw_Z 0 [(0, .ref b)] [] 0 h 0 0 := by
  refine J.new 0 (ci := 7) nl7 dL_law_0 rfl inG7 tyX7_ok cl_RL_7 it_RX7 iz_RX7 df7 (by decide) (by decide) ?_
  refine J.dup 3 dL_law_3 rfl ?_
  refine J.calli 4 dL_law_4 ml_RL_9 mi_yX7_init mn_yX7_init rfl (k_X7 w _ (va_up_self _ _ _)) rfl rfl (Nat.le_of_ble_eq_true rfl) (by decide) (by decide) ?_
  rintro _ g1 ⟨rfl, a1, b1⟩
  refine J.astore_n 7 dL_law_7 rfl (by decide) ?_
  obtain ⟨g2, e2⟩ : ∃ H : Nat → va_E, H = va_up g1 178 (.inr (8, nl8)) := ⟨_, rfl⟩
  refine J.new 8 (ci := 8) nl8 dL_law_8 rfl inG8 tyX8_ok cl_RL_10 it_RX8 iz_RX8 df8 (by decide) (by decide) (J.heap e2.symm ?_)
  refine J.dup 11 dL_law_11 rfl ?_
  refine J.calli 12 dL_law_12 ml_RL_12 mi_yX8_init mn_yX8_init rfl (k_X8 w _ (by rw [e2]; exact va_up_self _ _ _)) rfl rfl (Nat.le_of_ble_eq_true rfl) (by decide) (by decide) ?_
  rintro _ g3 ⟨rfl, a3, b3⟩
  refine J.astore_n 15 dL_law_15 rfl (by decide) ?_
  refine J.iconst 16 (nI 0) dL_law_16 (by decide +kernel) ?_
  refine J.istore_n 17 dL_law_17 rfl (by decide) ?_
  refine J.world (h' := hv w v0) (fun k hk => ?_) ?_
  · by_cases h1 : k < 178
    · rw [a3 k h1, e2, va_up_ne _ _ (by omega)]
      exact b1 k (Nat.zero_le k) h1
    · exact b3 k (by omega) hk
  · refine J.widen (k1 := 185) (k2 := 8018) (by decide) (by decide) ?_
    exact lw_loop hN (N + 1) 0 v0 (by omega) (by omega) (Mr0.x (by omega))
set_option maxHeartbeats 1000000 in
set_option maxRecDepth 100000 in
theorem whole_start {p : Program} {e : Env} {s : State} {m : MethodId} {below : List Frame} {meth : Method} {c : Code} (l : Launch) (hflags : l.flags = flags0) {b L : Nat} {xs : Nat → Int32} (hL : L ≤ 2048) (C0 : lw_At p s m meth c b L xs) : W p l e room_1 s m #[Value.ref b] below meth c s.heap [] 0 0 (lw_Z below #[Value.ref b] s) (entryFrame m ([Value.ref b] : List Value).toArray 4) := by
  obtain ⟨hx, hb, hr, hml, hown, hts, hX, hbl, hlocks, hgv⟩ := id C0
  have htA : ∀ x ∈ AG, x.before #[Value.ref b] s = true := fun x hx => hts x (List.mem_filter.mp hx).1
  obtain ⟨c0, i0, k0⟩ := u_known (C := RX0) (T := TX0) (N := 3) (n := 3) htA inG0 (htA _ it_RX0)
  obtain ⟨c1, i1, k1⟩ := u_known (C := RX1) (T := TX1) (N := 4) (n := 4) htA inG1 (htA _ it_RX1)
  obtain ⟨c2, i2, k2⟩ := u_known (C := RX2) (T := TX2) (N := 1) (n := 1) htA inG2 (htA _ it_RX2)
  obtain ⟨c3, i3, k3⟩ := u_known (C := RX3) (T := TX3) (N := 2) (n := 2) htA inG3 (htA _ it_RX3)
  obtain ⟨c4, i4, k4⟩ := u_known (C := RX4) (T := TX4) (N := 3) (n := 3) htA inG4 (htA _ it_RX4)
  obtain ⟨c5, i5, k5⟩ := u_known (C := RX5) (T := TX5) (N := 15) (n := 15) htA inG5 (htA _ it_RX5)
  obtain ⟨c6, i6, k6⟩ := u_known (C := RX6) (T := TX6) (N := 8) (n := 8) htA inG6 (htA _ it_RX6)
  obtain ⟨c7, i7, k7⟩ := u_known (C := RX7) (T := TX7) (N := 10) (n := 10) htA inG7 (htA _ it_RX7)
  obtain ⟨c8, i8, k8⟩ := u_known (C := RX8) (T := TX8) (N := 17) (n := 17) htA inG8 (htA _ it_RX8)
  obtain ⟨dC, dI, hKc⟩ : ∃ (dC : Nat → ClassId) (dI : Nat → Nat → Nat), ∀ (k : Nat) (q : vw_C), vwCl[k]? = some q → u_Kn s q.1 q.2.1 q.2.2 (dC k) (dI k) := by
    refine ⟨fun k => match k with | 0 => c0 | 1 => c1 | 2 => c2 | 3 => c3 | 4 => c4 | 5 => c5 | 6 => c6 | 7 => c7 | _ => c8, fun k => match k with | 0 => i0 | 1 => i1 | 2 => i2 | 3 => i3 | 4 => i4 | 5 => i5 | 6 => i6 | 7 => i7 | _ => i8, ?_⟩
    intro k q hq
    match k, hq with
    | 0, hq => cases hq; exact k0
    | 1, hq => cases hq; exact k1
    | 2, hq => cases hq; exact k2
    | 3, hq => cases hq; exact k3
    | 4, hq => cases hq; exact k4
    | 5, hq => cases hq; exact k5
    | 6, hq => cases hq; exact k6
    | 7, hq => cases hq; exact k7
    | 8, hq => cases hq; exact k8
    | k + 9, hq => exact absurd hq (by simp)
  obtain ⟨cI, kI, pI, f1, f2, f3⟩ := Cond.arrayClass_spec (htA _ ac_int)
  obtain ⟨cZ, kZ, pZ, h1, h2, h3⟩ := Cond.arrayClass_spec (htA _ ac_boolean)
  have hover : (Cond.arrayOver (.object "LiarClocks$State")).before #[Value.ref b] s = true := hts _ (tn 173 (by decide +kernel))
  obtain ⟨pS, cS, kS, g1, g2, g3, g4, g5⟩ := Cond.arrayOver_spec hover
  obtain ⟨w, hw⟩ : ∃ w : Wd, w = (l, (dC, dI), s.heap.size, cI, cZ, cS) := ⟨_, rfl⟩
  have hK : KK w s := by
    rw [hw]
    refine ⟨⟨hKc, fun k q hq => ?_⟩, fun x hx hn => ?_, va_AO.of hover⟩
    · match k, hq with
      | 0, hq => cases hq; exact ⟨fun n z => ⟨fun k h => (by cases h), kI, f2, pI, f3⟩, f1⟩
      | 1, hq => cases hq; exact ⟨fun n z => ⟨fun k h => (by cases h), kZ, h2, pZ, h3⟩, h1⟩
      | 2, hq => cases hq; exact ⟨fun n z => ⟨fun k h => (by cases h), kS, g3, pS, g4⟩, kS, pS, g3, g4, g1, g5⟩
      | k + 3, hq => exact absurd hq (by simp)
    · refine va_Nw.of ?_ (hts x hx)
      cases x <;> first | rfl | (exact absurd hn (by simp [isNest]))
  have hwN : wN w = s.heap.size := by rw [hw]
  have hwl : wl w = l := by rw [hw]
  have C : Cx w (yLn meth.name) code 4 ret (XL w b L xs) p s m #[Value.ref b] meth c := ⟨hx, hb, hml, hr, hlocks, rfl, hown, htA, hK, Nat.le_of_eq hwN, rfl, hX, hbl, by rw [hwN]; exact hbl, Nat.le_of_eq hwN.symm⟩
  have hP : PP w 0 (fun _ => .inr (0, [])) s.heap := ⟨by rw [hwN]; rfl, fun k q hq => by simp [wsn] at hq⟩
  have hl := lv_entry ([.ref b]) (n := 4) (Nat.le_of_ble_eq_true rfl)
  rw [lg_entry_eq]
  have hJ := lw_entry (w := w) (nm := meth.name) (b := b) (xs := xs) (h := fun _ => .inr (0, [])) hL p e s m #[Value.ref b] below meth c C _ s.heap [] hl hP va_S.rf
  rw [hwl] at hJ
  exact hJ
