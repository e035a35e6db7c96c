/-! ===== part 52: the law, call by call ===== -/
def R_law : String := "LiarClocksLaw"
def lw_P (b : Addr) (xs : List Int32) (args : Array Value) (s : State) : Prop := args = #[.ref b] ∧ s.IntsAt b xs ∧ xs.length ≤ 2048 ∧ (Jvm.Cond.and given_1 narrow_1).before args s = true
def lw_Q (_ : Array Value) (s : State) (o : Outcome) (t : State) : Prop := o = .returned (some (.int 1)) ∧ Framed s o t [] 600000 7302250
def lw_Z (below : List Frame) (a : Array Value) (s : State) : State → Prop := fun t => ∃ o, t.status = .running ∧ Ended t below o ∧ lw_Q a s o t
/-- the law's own end, with 1 on the stack, nothing written that was there before, its room as the claim has it -/
theorem lw_ret {p : Program} {l : Launch} {e : Env} {s : State} {m : MethodId} {below : List Frame} {meth : Method} {c : Code} {b : Nat} (hx : p.tables.exec = Jvm.exec) (hb : c.code = code) (hr : meth.sig.returnType = ret) (hlocks : meth.locks = false) {pc : Nat} {H : Heap} {ls : Array Slot} (hdg : decode code pc = .ok (.ireturn, 1)) : W p l e room_1 s m #[Value.ref b] below meth c H [] 600000 7302250 (lw_Z below #[Value.ref b] s) (F0 m pc ls [.int 1]) := by
  intro T hT X
  obtain ⟨fs, hret, hrun, hended, hW, hframe⟩ := X.leave (v := some (.int 1)) (hlocks := hlocks) (fun h => by rw [hr] at h; cases h)
  have hmeth' : T.vm.method? m = some meth := X.method'
  refine ⟨T.setFrames fs, ?_, .returned (some (.int 1)), hrun, hended, rfl, ⟨_, rfl⟩, hW, hframe⟩
  jvm_step X.here [X.here.top, hx, hb, hdg, hmeth', hr, ret, narrow_b1]
  (try refine ⟨rfl, ?_⟩); (try refine ⟨rfl, ?_⟩)
  first | (intro acts; rw [hret _ acts rfl rfl rfl]) | rw [hret _ _ rfl rfl rfl]
  exact Steps.refl _
/-- what holds at the law's entry: the machine, the code, the tables' words (any of lw_tbl by 'hts w (by decide +kernel)'), the script of L ints xs at the cell b, what the Statement gives of the start (any of its parts by flat_of_before) -/
def lw_At (p : Program) (s : State) (m : MethodId) (meth : Method) (c : Code) (b L : Nat) (xs : Nat → Int32) : Prop :=
  p.tables.exec = Jvm.exec ∧ c.code = code ∧ meth.sig.returnType = ret ∧ c.maxLocals = 4 ∧ s.vm.findClass R_law = some m.cls ∧ (∀ w ∈ lw_tbl, w.before #[Value.ref b] s = true) ∧ va_X b L xs s s.heap ∧ b < s.heap.size ∧ meth.locks = false ∧ (Jvm.Cond.and given_1 narrow_1).before #[Value.ref b] s = true

def XL (w : Wd) (b N : Nat) (xs : Nat → Int32) : Array Value → State → Prop := fun args s => args = #[Value.ref b] ∧ va_X b N xs s s.heap ∧ b < s.heap.size ∧ b < wN w ∧ s.heap.size ≤ wN w
section JL
variable {w : Wd} {y : MethodName} {cc : ByteArray} {mL : Nat} {rt : Option FieldType} {R : Room} {Qf : List Frame → Array Value → State → State → Prop} {L : List (Nat × Value)} {S : List Value} {n : Nat} {h : Nat → va_E} {ca sl : Nat} {b N : Nat} {xs : Nat → Int32}
theorem J.sld (pc : Nat) {i : Nat} (hd : decode cc pc = .ok (.iaload, 1)) (hi : i < N) (hN : N ≤ 2048) (k : J w y cc mL rt R (XL w b N xs) Qf (pc + 1) L (.int (xs i) :: S) n h ca sl) : J w y cc mL rt R (XL w b N xs) Qf pc L (.int (nI i) :: .ref b :: S) n h ca sl := by
  intro p e s m args below meth c C ls H locs hl hP hS
  obtain ⟨hx, hb, hml, hr, hlk, hnm, hown, hts, hK, hN9, hX⟩ := id C
  refine va_sld hx hb hX.2.1 hX.2.2.1 (Nat.not_le.mpr hX.2.2.2.1) hS (vp_in_nI hi (by omega)) hd ?_
  rw [nI_clamp (by omega)]
  exact k p e s m args below meth c C ls H locs hl hP hS
theorem J.slen (pc : Nat) (hd : decode cc pc = .ok (.arraylength, 1)) (k : J w y cc mL rt R (XL w b N xs) Qf (pc + 1) L (.int (nI N) :: S) n h ca sl) : J w y cc mL rt R (XL w b N xs) Qf pc L (.ref b :: S) n h ca sl := by
  intro p e s m args below meth c C ls H locs hl hP hS
  obtain ⟨hx, hb, hml, hr, hlk, hnm, hown, hts, hK, hN9, hX⟩ := id C
  exact va_slen hx hb hX.2.1 hX.2.2.1 (Nat.not_le.mpr hX.2.2.2.1) hS hd (k p e s m args below meth c C ls H locs hl hP hS)
theorem J.law1 (pc : Nat) (hd : decode code pc = .ok (.ireturn, 1)) (h1 : ca ≤ 600000) (h2 : sl ≤ 7302250) : J w y code 4 ret room_1 (XL w b N xs) lw_Z pc L [.int 1] n h ca sl := by
  intro p e s m args below meth c C ls H locs hl hP hS
  obtain ⟨hx, hb, hml, hr, hlk, hnm, hown, hts, hK, hN9, rfl, hX⟩ := id C
  refine va_forget (fun q hq => Nat.le_trans hX.2.2.2 (hS.2.2 q hq)) ?_
  refine W.widen (k := 600000) (n := 7302250) h1 h2 ?_
  exact lw_ret hx hb hr hlk hd
end JL
abbrev LLw (w : Wd) (b t : Nat) : List (Nat × Value) := [(0, .ref b), (1, .ref (wN w + 0)), (2, .ref (wN w + 178)), (3, .int (nI (4 * t)))]
abbrev yLn (nm : String) : MethodName := ⟨RL, nm, "([I)Z"⟩
/-- the law at pc, behind the constructors, with the ints v -/
def JLw (w : Wd) (nm : String) (b N : Nat) (xs : Nat → Int32) (t : Nat) (pc : Nat) (v : Vm2) : Prop := J w (yLn nm) code 4 ret room_1 (XL w b N xs) lw_Z pc (LLw w b t) [] 185 (hv w v) 185 8018
theorem q_tick (w : Wd) (v : Vm2) {b : Vm2} {n f ma K nx s wr a0 B : Nat} (hM : Mr v b n f ma K nx s wr a0 B) (hB : B ≤ 100000000) {x : Int32} : CI w yX7_tick cX7_tick 4 (some .int) (rm 3 82) [.ref (wN w + 0), .int x] v (fun r v' => r = (F_tick b n K ma x).1 ∧ MR v' (F_tick b n K ma x).2 (B + 160000) ∧ Rq v' v) := by
  by_cases hx : inF x (nI 1) (nI 20)
  · obtain ⟨t, h1, h2, rfl⟩ := inF_nI (by decide) (by decide) hx
    exact q_tickN w v hM hB h2 hx
  · exact q_tickO w v hM hB hx
theorem q_undo (w : Wd) (v : Vm2) {b : Vm2} {n f ma K nx s wr a0 B : Nat} (hM : Mr v b n f ma K nx s wr a0 B) (hB : B ≤ 100000000) {x : Int32} : CI w yX7_undo cX7_undo 2 (some .int) (rm 3 83) [.ref (wN w + 0), .int x] v (fun r v' => r = (F_undo b K x).1 ∧ MR v' (F_undo b K x).2 (B + 160000) ∧ Rq v' v) := by
  by_cases hx : inF x (nI 1) (nI 16)
  · obtain ⟨t, h1, h2, rfl⟩ := inF_nI (by decide) (by decide) hx
    exact q_undoN w v hM hB h1 h2 hx
  · exact q_undoO w v hM hB hx
theorem q_behind (w : Wd) (v : Vm2) {b : Vm2} {n f ma K nx s wr a0 B : Nat} (hM : Mr v b n f ma K nx s wr a0 B) (hB : B ≤ 100000000) {x : Int32} : CI w yX7_behind cX7_behind 3 (some .int) (rm 4 88) [.ref (wN w + 0), .int x] v (fun r v' => r = F_behind (b 179) n f x ∧ MR v' b (B + 160000) ∧ Rq v' v) := by
  by_cases hx : inF x (nI 0) (nI 20)
  · obtain ⟨t, h1, h2, rfl⟩ := inF_nI (by decide) (by decide) hx
    exact q_behindN w v hM hB h2 hx
  · exact q_behindO w v hM hB hx
theorem q_keep (w : Wd) (v : Vm2) {b : Vm2} {n f ma K nx s wr a0 B : Nat} (hM : Mr v b n f ma K nx s wr a0 B) (hB : B ≤ 100000000) {x : Int32} : CI w yX7_keep cX7_keep 2 (some .int) (rm 2 61) [.ref (wN w + 0), .int x] v (fun r v' => r = (F_keep b x).1 ∧ MR v' (F_keep b x).2 (B + 160000) ∧ Rq v' v) := by
  by_cases hx : inF x (nI 0) (nI 1)
  · obtain ⟨t, h1, h2, rfl⟩ := inF_nI (by decide) (by decide) hx
    exact q_keepN w v hM hB (by omega) hx
  · exact q_keepO w v hM hB hx
theorem q_goBack (w : Wd) (v : Vm2) {b : Vm2} {n f ma K nx s wr a0 B : Nat} (hM : Mr v b n f ma K nx s wr a0 B) (hB : B ≤ 100000000) {x : Int32} : CI w yX7_goBack cX7_goBack 2 (some .int) (rm 2 61) [.ref (wN w + 0), .int x] v (fun r v' => r = (F_goBack b x).1 ∧ MR v' (F_goBack b x).2 (B + 160000) ∧ Rq v' v) := by
  by_cases hx : inF x (nI 0) (nI 1)
  · obtain ⟨t, h1, h2, rfl⟩ := inF_nI (by decide) (by decide) hx
    exact q_goBackN w v hM hB (by omega) hx
  · exact q_goBackO w v hM hB hx
theorem q_drift (w : Wd) (v : Vm2) {b : Vm2} {n f ma K nx s wr a0 B : Nat} (hM : Mr v b n f ma K nx s wr a0 B) (hB : B ≤ 100000000) {x : Int32} : CI w yX7_drift cX7_drift 3 (some .int) (rm 5 113) [.ref (wN w + 0), .int x] v (fun r v' => r = (F_drift b n f ma K a0 x).1 ∧ MR v' (F_drift b n f ma K a0 x).2 (B + 160000) ∧ Rq v' v) := by
  by_cases hx : inF x (nI 1) (nI 16)
  · obtain ⟨t, h1, h2, rfl⟩ := inF_nI (by decide) (by decide) hx
    rcases Nat.eq_zero_or_pos n with h | h
    · exact q_drift0 w v hM hB h h2 hx
    · exact q_driftN w v hM hB h h2 hx
  · exact q_driftO w v hM hB hx
set_option maxHeartbeats 1000000 in
set_option maxRecDepth 100000 in
theorem lc_0 {w : Wd} {nm : String} {b N t : Nat} {xs : Nat → Int32} {v : Vm2} {B : Nat} (hN : N ≤ 2048) (ht : 4 * t + 4 ≤ N) (hm : MR v v B) (hB : B ≤ 100000000) (hB9 : 9999 ≤ B) (kk : ∀ u, MR u u (B + 160000) → JLw w nm b N xs t 782 u) : JLw w nm b N xs t 144 v := by
  obtain ⟨n, f, ma, K, nx, s, wr, a0, hM⟩ := hm
  have hW := hM.1.2.1
  unfold JLw at kk ⊢
  refine J.aload_n 144 dL_law_144 rfl rfl ?_
  refine J.aload_n 145 dL_law_145 rfl rfl ?_
  refine J.iload_n 146 dL_law_146 rfl rfl ?_
  refine J.iconst 147 (nI 1) dL_law_147 (by decide +kernel) ?_
  refine V.iadd 148 dL_law_148 ?_
  refine J.sld 149 dL_law_149 (by omega) hN ?_
  refine V.callv 150 dL_law_150 ml_RL_13 mi_yX7_feed mv_yX7_feed (q_feed w v hM hB) rfl rfl (Nat.le_of_ble_eq_true rfl) (by decide) (by decide) o_0 rfl rfl (fun r1 v1 h1 => ?_)
  have e9 : v1 179 = v 179 := h1.2.2 179 (by decide)
  have e8 : v1 178 = v 178 := h1.2.2 178 (by decide)
  refine J.aload_n 153 dL_law_153 rfl rfl ?_
  refine J.aload_n 154 dL_law_154 rfl rfl ?_
  refine J.iload_n 155 dL_law_155 rfl rfl ?_
  refine J.iconst 156 (nI 1) dL_law_156 (by decide +kernel) ?_
  refine V.iadd 157 dL_law_157 ?_
  refine J.sld 158 dL_law_158 (by omega) hN ?_
  refine V.callv 159 dL_law_159 ml_RL_17 mi_yX8_feed mv_yX8_feed (p_feed w v1 (by rw [e8]; exact hM.2.2.2.1.2.1) hM.2.2.2.1.2.2.1) rfl rfl (Nat.le_of_ble_eq_true rfl) (by decide) (by decide) o_178 rfl rfl (fun r2 v2 h2 => ?_)
  have e := mF_feed v1 v s (xs (4 * t + 1))
  rw [← h1.2.2.mx] at e
  rw [e] at h2
  have g1 : r1 = r2 := h1.1.trans h2.1.symm
  have g2 := stp h1.2.1 h2.2
  exact J.icmp_eq 162 782 dL_law_162 (by decide) (fun _ => kk _ g2) (fun c9 => absurd g1 c9)
set_option maxHeartbeats 1000000 in
set_option maxRecDepth 100000 in
theorem lc_1 {w : Wd} {nm : String} {b N t : Nat} {xs : Nat → Int32} {v : Vm2} {B : Nat} (hN : N ≤ 2048) (ht : 4 * t + 4 ≤ N) (hm : MR v v B) (hB : B ≤ 100000000) (hB9 : 9999 ≤ B) (kk : ∀ u, MR u u (B + 160000) → JLw w nm b N xs t 782 u) : JLw w nm b N xs t 167 v := by
  obtain ⟨n, f, ma, K, nx, s, wr, a0, hM⟩ := hm
  have hW := hM.1.2.1
  unfold JLw at kk ⊢
  refine J.aload_n 167 dL_law_167 rfl rfl ?_
  refine V.callv 168 dL_law_168 ml_RL_18 mi_yX7_clocks mv_yX7_clocks (q_clocks w v hM hB hB9) rfl rfl (Nat.le_of_ble_eq_true rfl) (by decide) (by decide) o_0 rfl rfl (fun r1 v1 h1 => ?_)
  have e9 : v1 179 = v 179 := h1.2.2 179 (by decide)
  have e8 : v1 178 = v 178 := h1.2.2 178 (by decide)
  refine J.aload_n 171 dL_law_171 rfl rfl ?_
  refine V.callv 172 dL_law_172 ml_RL_22 mi_yX8_clocks mv_yX8_clocks (c_X8_clocks w v1 (by rw [e8]; exact hM.2.2.2.1.2.1) hM.2.2.2.1.2.2.1) rfl rfl (Nat.le_of_ble_eq_true rfl) (by decide) (by decide) o_178 rfl rfl (fun r2 v2 h2 => ?_)
  have e := mF_clocks v1 v s
  rw [← h1.2.2.mx] at e
  have h2 : r2 = (F_clocks v1 s).1 ∧ EqR v2 (F_clocks v1 s).2 := h2
  rw [e] at h2
  have g1 : r1 = r2 := h1.1.trans h2.1.symm
  have g2 := stp h1.2.1 h2.2
  exact J.icmp_eq 175 782 dL_law_175 (by decide) (fun _ => kk _ g2) (fun c9 => absurd g1 c9)
set_option maxHeartbeats 1000000 in
set_option maxRecDepth 100000 in
theorem lc_2 {w : Wd} {nm : String} {b N t : Nat} {xs : Nat → Int32} {v : Vm2} {B : Nat} (hN : N ≤ 2048) (ht : 4 * t + 4 ≤ N) (hm : MR v v B) (hB : B ≤ 100000000) (hB9 : 9999 ≤ B) (kk : ∀ u, MR u u (B + 160000) → JLw w nm b N xs t 782 u) : JLw w nm b N xs t 180 v := by
  obtain ⟨n, f, ma, K, nx, s, wr, a0, hM⟩ := hm
  have hW := hM.1.2.1
  unfold JLw at kk ⊢
  refine J.aload_n 180 dL_law_180 rfl rfl ?_
  refine V.callv 181 dL_law_181 ml_RL_23 mi_yX7_fault mv_yX7_fault (q_fault w v hM hB) rfl rfl (Nat.le_of_ble_eq_true rfl) (by decide) (by decide) o_0 rfl rfl (fun r1 v1 h1 => ?_)
  have e9 : v1 179 = v 179 := h1.2.2 179 (by decide)
  have e8 : v1 178 = v 178 := h1.2.2 178 (by decide)
  refine J.aload_n 184 dL_law_184 rfl rfl ?_
  refine V.callvP 185 dL_law_185 ml_RL_26 mi_yX8_fault mv_yX8_fault (p_fault w v1 ) rfl rfl (Nat.le_of_ble_eq_true rfl) (by decide) (by decide) o_178 rfl rfl ?_
  have g1 : r1 = v1 178 5 := by rw [e8]; exact h1.1
  have g2 := stp h1.2.1 (show EqR v1 (mix v1 v) from by rw [← h1.2.2.mx]; exact EqR.rf v1)
  exact J.icmp_eq 188 782 dL_law_188 (by decide) (fun _ => kk _ g2) (fun c9 => absurd g1 c9)
set_option maxHeartbeats 1000000 in
set_option maxRecDepth 100000 in
theorem lc_3 {w : Wd} {nm : String} {b N t : Nat} {xs : Nat → Int32} {v : Vm2} {B : Nat} (hN : N ≤ 2048) (ht : 4 * t + 4 ≤ N) (hm : MR v v B) (hB : B ≤ 100000000) (hB9 : 9999 ≤ B) (kk : ∀ u, MR u u (B + 160000) → JLw w nm b N xs t 782 u) : JLw w nm b N xs t 193 v := by
  obtain ⟨n, f, ma, K, nx, s, wr, a0, hM⟩ := hm
  have hW := hM.1.2.1
  unfold JLw at kk ⊢
  refine J.aload_n 193 dL_law_193 rfl rfl ?_
  refine J.aload_n 194 dL_law_194 rfl rfl ?_
  refine J.iload_n 195 dL_law_195 rfl rfl ?_
  refine J.iconst 196 (nI 1) dL_law_196 (by decide +kernel) ?_
  refine V.iadd 197 dL_law_197 ?_
  refine J.sld 198 dL_law_198 (by omega) hN ?_
  refine V.callv 199 dL_law_199 ml_RL_27 mi_yX7_told mv_yX7_told (q_told w v hM hB) rfl rfl (Nat.le_of_ble_eq_true rfl) (by decide) (by decide) o_0 rfl rfl (fun r1 v1 h1 => ?_)
  have e9 : v1 179 = v 179 := h1.2.2 179 (by decide)
  have e8 : v1 178 = v 178 := h1.2.2 178 (by decide)
  refine J.aload_n 202 dL_law_202 rfl rfl ?_
  refine J.aload_n 203 dL_law_203 rfl rfl ?_
  refine J.iload_n 204 dL_law_204 rfl rfl ?_
  refine J.iconst 205 (nI 1) dL_law_205 (by decide +kernel) ?_
  refine V.iadd 206 dL_law_206 ?_
  refine J.sld 207 dL_law_207 (by omega) hN ?_
  refine V.callv 208 dL_law_208 ml_RL_30 mi_yX8_told mv_yX8_told (p_told w v1 (by rw [e9]; exact hW.1) hW.2.1 (by rw [e9]; exact hW.2.2.1) (by have := hW.2.2.2.1; omega) (by rw [e9]; exact hW.2.2.2.2.2.1) hW.2.2.2.2.2.2.1 (by rw [e8]; exact hM.2.2.2.2.1.2.1) hM.2.2.2.2.1.2.2.1) rfl rfl (Nat.le_of_ble_eq_true rfl) (by decide) (by decide) o_178 rfl rfl (fun r2 v2 h2 => ?_)
  have e := mF_told v1 v n f ma wr (xs (4 * t + 1))
  rw [← h1.2.2.mx] at e
  rw [e] at h2
  have g1 : r1 = r2 := h1.1.trans h2.1.symm
  have g2 := stp h1.2.1 (show EqR v2 (mix v1 v) from by rw [← h1.2.2.mx]; exact h2.2)
  exact J.icmp_eq 211 782 dL_law_211 (by decide) (fun _ => kk _ g2) (fun c9 => absurd g1 c9)
set_option maxHeartbeats 1000000 in
set_option maxRecDepth 100000 in
theorem lc_4 {w : Wd} {nm : String} {b N t : Nat} {xs : Nat → Int32} {v : Vm2} {B : Nat} (hN : N ≤ 2048) (ht : 4 * t + 4 ≤ N) (hm : MR v v B) (hB : B ≤ 100000000) (hB9 : 9999 ≤ B) (kk : ∀ u, MR u u (B + 160000) → JLw w nm b N xs t 782 u) : JLw w nm b N xs t 216 v := by
  obtain ⟨n, f, ma, K, nx, s, wr, a0, hM⟩ := hm
  have hW := hM.1.2.1
  unfold JLw at kk ⊢
  refine J.aload_n 216 dL_law_216 rfl rfl ?_
  refine J.aload_n 217 dL_law_217 rfl rfl ?_
  refine J.iload_n 218 dL_law_218 rfl rfl ?_
  refine J.iconst 219 (nI 1) dL_law_219 (by decide +kernel) ?_
  refine V.iadd 220 dL_law_220 ?_
  refine J.sld 221 dL_law_221 (by omega) hN ?_
  refine J.aload_n 222 dL_law_222 rfl rfl ?_
  refine J.iload_n 223 dL_law_223 rfl rfl ?_
  refine J.iconst 224 (nI 2) dL_law_224 (by decide +kernel) ?_
  refine V.iadd 225 dL_law_225 ?_
  refine J.sld 226 dL_law_226 (by omega) hN ?_
  refine V.callv 227 dL_law_227 ml_RL_31 mi_yX7_clock mv_yX7_clock (q_clock w v hM hB) rfl rfl (Nat.le_of_ble_eq_true rfl) (by decide) (by decide) o_0 rfl rfl (fun r1 v1 h1 => ?_)
  have e9 : v1 179 = v 179 := h1.2.2 179 (by decide)
  have e8 : v1 178 = v 178 := h1.2.2 178 (by decide)
  refine J.aload_n 230 dL_law_230 rfl rfl ?_
  refine J.aload_n 231 dL_law_231 rfl rfl ?_
  refine J.iload_n 232 dL_law_232 rfl rfl ?_
  refine J.iconst 233 (nI 1) dL_law_233 (by decide +kernel) ?_
  refine V.iadd 234 dL_law_234 ?_
  refine J.sld 235 dL_law_235 (by omega) hN ?_
  refine J.aload_n 236 dL_law_236 rfl rfl ?_
  refine J.iload_n 237 dL_law_237 rfl rfl ?_
  refine J.iconst 238 (nI 2) dL_law_238 (by decide +kernel) ?_
  refine V.iadd 239 dL_law_239 ?_
  refine J.sld 240 dL_law_240 (by omega) hN ?_
  refine V.callv 241 dL_law_241 ml_RL_35 mi_yX8_clock mv_yX8_clock (p_clock w v1 (by rw [e9]; exact hW.1) hW.2.1 (by rw [e9]; exact hW.2.2.1) (by have := hW.2.2.2.1; omega)) rfl rfl (Nat.le_of_ble_eq_true rfl) (by decide) (by decide) o_178 rfl rfl (fun r2 v2 h2 => ?_)
  rw [e9] at h2
  have g1 : r1 = r2 := h1.1.trans h2.1.symm
  have g2 := stp h1.2.1 (show EqR v2 (mix v1 v) from by rw [← h1.2.2.mx]; exact h2.2)
  exact J.icmp_eq 244 782 dL_law_244 (by decide) (fun _ => kk _ g2) (fun c9 => absurd g1 c9)
set_option maxHeartbeats 1000000 in
set_option maxRecDepth 100000 in
theorem lc_5 {w : Wd} {nm : String} {b N t : Nat} {xs : Nat → Int32} {v : Vm2} {B : Nat} (hN : N ≤ 2048) (ht : 4 * t + 4 ≤ N) (hm : MR v v B) (hB : B ≤ 100000000) (hB9 : 9999 ≤ B) (kk : ∀ u, MR u u (B + 160000) → JLw w nm b N xs t 782 u) : JLw w nm b N xs t 249 v := by
  obtain ⟨n, f, ma, K, nx, s, wr, a0, hM⟩ := hm
  have hW := hM.1.2.1
  unfold JLw at kk ⊢
  refine J.aload_n 249 dL_law_249 rfl rfl ?_
  refine J.aload_n 250 dL_law_250 rfl rfl ?_
  refine J.iload_n 251 dL_law_251 rfl rfl ?_
  refine J.iconst 252 (nI 1) dL_law_252 (by decide +kernel) ?_
  refine V.iadd 253 dL_law_253 ?_
  refine J.sld 254 dL_law_254 (by omega) hN ?_
  refine J.aload_n 255 dL_law_255 rfl rfl ?_
  refine J.iload_n 256 dL_law_256 rfl rfl ?_
  refine J.iconst 257 (nI 2) dL_law_257 (by decide +kernel) ?_
  refine V.iadd 258 dL_law_258 ?_
  refine J.sld 259 dL_law_259 (by omega) hN ?_
  refine J.aload_n 260 dL_law_260 rfl rfl ?_
  refine J.iload_n 261 dL_law_261 rfl rfl ?_
  refine J.iconst 262 (nI 3) dL_law_262 (by decide +kernel) ?_
  refine V.iadd 263 dL_law_263 ?_
  refine J.sld 264 dL_law_264 (by omega) hN ?_
  refine V.callv 265 dL_law_265 ml_RL_36 mi_yX7_heard mv_yX7_heard (q_heard w v hM hB) rfl rfl (Nat.le_of_ble_eq_true rfl) (by decide) (by decide) o_0 rfl rfl (fun r1 v1 h1 => ?_)
  have e9 : v1 179 = v 179 := h1.2.2 179 (by decide)
  have e8 : v1 178 = v 178 := h1.2.2 178 (by decide)
  refine J.aload_n 268 dL_law_268 rfl rfl ?_
  refine J.aload_n 269 dL_law_269 rfl rfl ?_
  refine J.iload_n 270 dL_law_270 rfl rfl ?_
  refine J.iconst 271 (nI 1) dL_law_271 (by decide +kernel) ?_
  refine V.iadd 272 dL_law_272 ?_
  refine J.sld 273 dL_law_273 (by omega) hN ?_
  refine J.aload_n 274 dL_law_274 rfl rfl ?_
  refine J.iload_n 275 dL_law_275 rfl rfl ?_
  refine J.iconst 276 (nI 2) dL_law_276 (by decide +kernel) ?_
  refine V.iadd 277 dL_law_277 ?_
  refine J.sld 278 dL_law_278 (by omega) hN ?_
  refine J.aload_n 279 dL_law_279 rfl rfl ?_
  refine J.iload_n 280 dL_law_280 rfl rfl ?_
  refine J.iconst 281 (nI 3) dL_law_281 (by decide +kernel) ?_
  refine V.iadd 282 dL_law_282 ?_
  refine J.sld 283 dL_law_283 (by omega) hN ?_
  refine V.callv 284 dL_law_284 ml_RL_40 mi_yX8_heard mv_yX8_heard (p_heard w v1 (by rw [e9]; exact hW.1) hW.2.1 (by rw [e9]; exact hW.2.2.1) (by have := hW.2.2.2.1; omega)) rfl rfl (Nat.le_of_ble_eq_true rfl) (by decide) (by decide) o_178 rfl rfl (fun r2 v2 h2 => ?_)
  rw [e9] at h2
  have g1 : r1 = r2 := h1.1.trans h2.1.symm
  have g2 := stp h1.2.1 (show EqR v2 (mix v1 v) from by rw [← h1.2.2.mx]; exact h2.2)
  exact J.icmp_eq 287 782 dL_law_287 (by decide) (fun _ => kk _ g2) (fun c9 => absurd g1 c9)
set_option maxHeartbeats 1000000 in
set_option maxRecDepth 100000 in
theorem lc_6 {w : Wd} {nm : String} {b N t : Nat} {xs : Nat → Int32} {v : Vm2} {B : Nat} (hN : N ≤ 2048) (ht : 4 * t + 4 ≤ N) (hm : MR v v B) (hB : B ≤ 100000000) (hB9 : 9999 ≤ B) (kk : ∀ u, MR u u (B + 160000) → JLw w nm b N xs t 782 u) : JLw w nm b N xs t 292 v := by
  obtain ⟨n, f, ma, K, nx, s, wr, a0, hM⟩ := hm
  have hW := hM.1.2.1
  unfold JLw at kk ⊢
  refine J.aload_n 292 dL_law_292 rfl rfl ?_
  refine J.aload_n 293 dL_law_293 rfl rfl ?_
  refine J.iload_n 294 dL_law_294 rfl rfl ?_
  refine J.iconst 295 (nI 1) dL_law_295 (by decide +kernel) ?_
  refine V.iadd 296 dL_law_296 ?_
  refine J.sld 297 dL_law_297 (by omega) hN ?_
  refine J.aload_n 298 dL_law_298 rfl rfl ?_
  refine J.iload_n 299 dL_law_299 rfl rfl ?_
  refine J.iconst 300 (nI 2) dL_law_300 (by decide +kernel) ?_
  refine V.iadd 301 dL_law_301 ?_
  refine J.sld 302 dL_law_302 (by omega) hN ?_
  refine V.callv 303 dL_law_303 ml_RL_41 mi_yX7_alarmAt mv_yX7_alarmAt (q_alarmAt w v hM hB) rfl rfl (Nat.le_of_ble_eq_true rfl) (by decide) (by decide) o_0 rfl rfl (fun r1 v1 h1 => ?_)
  have e9 : v1 179 = v 179 := h1.2.2 179 (by decide)
  have e8 : v1 178 = v 178 := h1.2.2 178 (by decide)
  refine J.aload_n 306 dL_law_306 rfl rfl ?_
  refine J.aload_n 307 dL_law_307 rfl rfl ?_
  refine J.iload_n 308 dL_law_308 rfl rfl ?_
  refine J.iconst 309 (nI 1) dL_law_309 (by decide +kernel) ?_
  refine V.iadd 310 dL_law_310 ?_
  refine J.sld 311 dL_law_311 (by omega) hN ?_
  refine J.aload_n 312 dL_law_312 rfl rfl ?_
  refine J.iload_n 313 dL_law_313 rfl rfl ?_
  refine J.iconst 314 (nI 2) dL_law_314 (by decide +kernel) ?_
  refine V.iadd 315 dL_law_315 ?_
  refine J.sld 316 dL_law_316 (by omega) hN ?_
  refine V.callv 317 dL_law_317 ml_RL_44 mi_yX8_alarmAt mv_yX8_alarmAt (p_alarmAt w v1 (by rw [e9]; exact hW.2.2.2.2.2.1) hW.2.2.2.2.2.2.1) rfl rfl (Nat.le_of_ble_eq_true rfl) (by decide) (by decide) o_178 rfl rfl (fun r2 v2 h2 => ?_)
  rw [e9] at h2
  have g1 : r1 = r2 := h1.1.trans h2.1.symm
  have g2 := stp h1.2.1 (show EqR v2 (mix v1 v) from by rw [← h1.2.2.mx]; exact h2.2)
  exact J.icmp_eq 320 782 dL_law_320 (by decide) (fun _ => kk _ g2) (fun c9 => absurd g1 c9)
set_option maxHeartbeats 1000000 in
set_option maxRecDepth 100000 in
theorem lc_7 {w : Wd} {nm : String} {b N t : Nat} {xs : Nat → Int32} {v : Vm2} {B : Nat} (hN : N ≤ 2048) (ht : 4 * t + 4 ≤ N) (hm : MR v v B) (hB : B ≤ 100000000) (hB9 : 9999 ≤ B) (kk : ∀ u, MR u u (B + 160000) → JLw w nm b N xs t 782 u) : JLw w nm b N xs t 325 v := by
  obtain ⟨n, f, ma, K, nx, s, wr, a0, hM⟩ := hm
  have hW := hM.1.2.1
  unfold JLw at kk ⊢
  refine J.aload_n 325 dL_law_325 rfl rfl ?_
  refine J.aload_n 326 dL_law_326 rfl rfl ?_
  refine J.iload_n 327 dL_law_327 rfl rfl ?_
  refine J.iconst 328 (nI 1) dL_law_328 (by decide +kernel) ?_
  refine V.iadd 329 dL_law_329 ?_
  refine J.sld 330 dL_law_330 (by omega) hN ?_
  refine V.callv 331 dL_law_331 ml_RL_45 mi_yX7_tick mv_yX7_tick (q_tick w v hM hB) rfl rfl (Nat.le_of_ble_eq_true rfl) (by decide) (by decide) o_0 rfl rfl (fun r1 v1 h1 => ?_)
  have e9 : v1 179 = v 179 := h1.2.2 179 (by decide)
  have e8 : v1 178 = v 178 := h1.2.2 178 (by decide)
  refine J.aload_n 334 dL_law_334 rfl rfl ?_
  refine J.aload_n 335 dL_law_335 rfl rfl ?_
  refine J.iload_n 336 dL_law_336 rfl rfl ?_
  refine J.iconst 337 (nI 1) dL_law_337 (by decide +kernel) ?_
  refine V.iadd 338 dL_law_338 ?_
  refine J.sld 339 dL_law_339 (by omega) hN ?_
  refine V.callv 340 dL_law_340 ml_RL_48 mi_yX8_tick mv_yX8_tick (p_tick w v1 (by rw [e9]; exact hW.1) hW.2.1 (by rw [e8]; exact hM.2.1.2.2.2.2) hM.2.1.2.2.2.1 (by rw [e9]; exact hW.2.2.2.2.2.1) hW.2.2.2.2.2.2.1 (fun a ha => by obtain ⟨-, cl, h1, h2, -⟩ := hW.2.2.2.2.2.2.2.2 a ha; exact ⟨cl, by have := hW.2.1; omega, by rw [e9]; exact h2⟩)) rfl rfl (Nat.le_of_ble_eq_true rfl) (by decide) (by decide) o_178 rfl rfl (fun r2 v2 h2 => ?_)
  have e := mF_tick v1 v n K ma (xs (4 * t + 1))
  rw [← h1.2.2.mx] at e
  rw [e] at h2
  have g1 : r1 = r2 := h1.1.trans h2.1.symm
  have g2 := stp h1.2.1 h2.2
  exact J.icmp_eq 343 782 dL_law_343 (by decide) (fun _ => kk _ g2) (fun c9 => absurd g1 c9)
set_option maxHeartbeats 1000000 in
set_option maxRecDepth 100000 in
theorem lc_8 {w : Wd} {nm : String} {b N t : Nat} {xs : Nat → Int32} {v : Vm2} {B : Nat} (hN : N ≤ 2048) (ht : 4 * t + 4 ≤ N) (hm : MR v v B) (hB : B ≤ 100000000) (hB9 : 9999 ≤ B) (kk : ∀ u, MR u u (B + 160000) → JLw w nm b N xs t 782 u) : JLw w nm b N xs t 348 v := by
  obtain ⟨n, f, ma, K, nx, s, wr, a0, hM⟩ := hm
  have hW := hM.1.2.1
  unfold JLw at kk ⊢
  refine J.aload_n 348 dL_law_348 rfl rfl ?_
  refine V.callv 349 dL_law_349 ml_RL_49 mi_yX7_round mv_yX7_round (q_round w v hM hB) rfl rfl (Nat.le_of_ble_eq_true rfl) (by decide) (by decide) o_0 rfl rfl (fun r1 v1 h1 => ?_)
  have e9 : v1 179 = v 179 := h1.2.2 179 (by decide)
  have e8 : v1 178 = v 178 := h1.2.2 178 (by decide)
  refine J.aload_n 352 dL_law_352 rfl rfl ?_
  refine V.callv 353 dL_law_353 ml_RL_52 mi_yX8_round mv_yX8_round (p_round w v1 (by rw [e9]; exact hW.1) hW.2.1 (by rw [e9]; exact hW.2.2.1) (by have := hW.2.2.2.1; omega) (by rw [e8]; exact hM.2.1.2.2.2.2) hM.2.1.2.2.2.1) rfl rfl (Nat.le_of_ble_eq_true rfl) (by decide) (by decide) o_178 rfl rfl (fun r2 v2 h2 => ?_)
  have e := mF_round v1 v n f K
  rw [← h1.2.2.mx] at e
  rw [e] at h2
  have g1 : r1 = r2 := h1.1.trans h2.1.symm
  have g2 := stp h1.2.1 h2.2
  exact J.icmp_eq 356 782 dL_law_356 (by decide) (fun _ => kk _ g2) (fun c9 => absurd g1 c9)
set_option maxHeartbeats 1000000 in
set_option maxRecDepth 100000 in
theorem lc_9 {w : Wd} {nm : String} {b N t : Nat} {xs : Nat → Int32} {v : Vm2} {B : Nat} (hN : N ≤ 2048) (ht : 4 * t + 4 ≤ N) (hm : MR v v B) (hB : B ≤ 100000000) (hB9 : 9999 ≤ B) (kk : ∀ u, MR u u (B + 160000) → JLw w nm b N xs t 782 u) : JLw w nm b N xs t 361 v := by
  obtain ⟨n, f, ma, K, nx, s, wr, a0, hM⟩ := hm
  have hW := hM.1.2.1
  unfold JLw at kk ⊢
  refine J.aload_n 361 dL_law_361 rfl rfl ?_
  refine J.aload_n 362 dL_law_362 rfl rfl ?_
  refine J.iload_n 363 dL_law_363 rfl rfl ?_
  refine J.iconst 364 (nI 1) dL_law_364 (by decide +kernel) ?_
  refine V.iadd 365 dL_law_365 ?_
  refine J.sld 366 dL_law_366 (by omega) hN ?_
  refine J.aload_n 367 dL_law_367 rfl rfl ?_
  refine J.iload_n 368 dL_law_368 rfl rfl ?_
  refine J.iconst 369 (nI 2) dL_law_369 (by decide +kernel) ?_
  refine V.iadd 370 dL_law_370 ?_
  refine J.sld 371 dL_law_371 (by omega) hN ?_
  refine J.aload_n 372 dL_law_372 rfl rfl ?_
  refine J.iload_n 373 dL_law_373 rfl rfl ?_
  refine J.iconst 374 (nI 3) dL_law_374 (by decide +kernel) ?_
  refine V.iadd 375 dL_law_375 ?_
  refine J.sld 376 dL_law_376 (by omega) hN ?_
  refine V.callv 377 dL_law_377 ml_RL_53 mi_yX7_lie mv_yX7_lie (q_lie w v hM hB) rfl rfl (Nat.le_of_ble_eq_true rfl) (by decide) (by decide) o_0 rfl rfl (fun r1 v1 h1 => ?_)
  have e9 : v1 179 = v 179 := h1.2.2 179 (by decide)
  have e8 : v1 178 = v 178 := h1.2.2 178 (by decide)
  refine J.aload_n 380 dL_law_380 rfl rfl ?_
  refine J.aload_n 381 dL_law_381 rfl rfl ?_
  refine J.iload_n 382 dL_law_382 rfl rfl ?_
  refine J.iconst 383 (nI 1) dL_law_383 (by decide +kernel) ?_
  refine V.iadd 384 dL_law_384 ?_
  refine J.sld 385 dL_law_385 (by omega) hN ?_
  refine J.aload_n 386 dL_law_386 rfl rfl ?_
  refine J.iload_n 387 dL_law_387 rfl rfl ?_
  refine J.iconst 388 (nI 2) dL_law_388 (by decide +kernel) ?_
  refine V.iadd 389 dL_law_389 ?_
  refine J.sld 390 dL_law_390 (by omega) hN ?_
  refine J.aload_n 391 dL_law_391 rfl rfl ?_
  refine J.iload_n 392 dL_law_392 rfl rfl ?_
  refine J.iconst 393 (nI 3) dL_law_393 (by decide +kernel) ?_
  refine V.iadd 394 dL_law_394 ?_
  refine J.sld 395 dL_law_395 (by omega) hN ?_
  refine V.callv 396 dL_law_396 ml_RL_56 mi_yX8_lie mv_yX8_lie (p_lie w v1 (by rw [e9]; exact hW.1) hW.2.1 (by rw [e8]; exact hM.2.1.2.2.2.2) hM.2.1.2.2.2.1) rfl rfl (Nat.le_of_ble_eq_true rfl) (by decide) (by decide) o_178 rfl rfl (fun r2 v2 h2 => ?_)
  have e := mF_lie v1 v n K (xs (4 * t + 1)) (xs (4 * t + 2)) (xs (4 * t + 3))
  rw [← h1.2.2.mx] at e
  rw [e] at h2
  have g1 : r1 = r2 := h1.1.trans h2.1.symm
  have g2 := stp h1.2.1 h2.2
  exact J.icmp_eq 399 782 dL_law_399 (by decide) (fun _ => kk _ g2) (fun c9 => absurd g1 c9)
set_option maxHeartbeats 1000000 in
set_option maxRecDepth 100000 in
theorem lc_10 {w : Wd} {nm : String} {b N t : Nat} {xs : Nat → Int32} {v : Vm2} {B : Nat} (hN : N ≤ 2048) (ht : 4 * t + 4 ≤ N) (hm : MR v v B) (hB : B ≤ 100000000) (hB9 : 9999 ≤ B) (kk : ∀ u, MR u u (B + 160000) → JLw w nm b N xs t 782 u) : JLw w nm b N xs t 404 v := by
  obtain ⟨n, f, ma, K, nx, s, wr, a0, hM⟩ := hm
  have hW := hM.1.2.1
  unfold JLw at kk ⊢
  refine J.aload_n 404 dL_law_404 rfl rfl ?_
  refine J.aload_n 405 dL_law_405 rfl rfl ?_
  refine J.iload_n 406 dL_law_406 rfl rfl ?_
  refine J.iconst 407 (nI 1) dL_law_407 (by decide +kernel) ?_
  refine V.iadd 408 dL_law_408 ?_
  refine J.sld 409 dL_law_409 (by omega) hN ?_
  refine J.aload_n 410 dL_law_410 rfl rfl ?_
  refine J.iload_n 411 dL_law_411 rfl rfl ?_
  refine J.iconst 412 (nI 2) dL_law_412 (by decide +kernel) ?_
  refine V.iadd 413 dL_law_413 ?_
  refine J.sld 414 dL_law_414 (by omega) hN ?_
  refine J.aload_n 415 dL_law_415 rfl rfl ?_
  refine J.iload_n 416 dL_law_416 rfl rfl ?_
  refine J.iconst 417 (nI 3) dL_law_417 (by decide +kernel) ?_
  refine V.iadd 418 dL_law_418 ?_
  refine J.sld 419 dL_law_419 (by omega) hN ?_
  refine V.callv 420 dL_law_420 ml_RL_57 mi_yX7_error mv_yX7_error (q_error w v hM hB) rfl rfl (Nat.le_of_ble_eq_true rfl) (by decide) (by decide) o_0 rfl rfl (fun r1 v1 h1 => ?_)
  have e9 : v1 179 = v 179 := h1.2.2 179 (by decide)
  have e8 : v1 178 = v 178 := h1.2.2 178 (by decide)
  refine J.aload_n 423 dL_law_423 rfl rfl ?_
  refine J.aload_n 424 dL_law_424 rfl rfl ?_
  refine J.iload_n 425 dL_law_425 rfl rfl ?_
  refine J.iconst 426 (nI 1) dL_law_426 (by decide +kernel) ?_
  refine V.iadd 427 dL_law_427 ?_
  refine J.sld 428 dL_law_428 (by omega) hN ?_
  refine J.aload_n 429 dL_law_429 rfl rfl ?_
  refine J.iload_n 430 dL_law_430 rfl rfl ?_
  refine J.iconst 431 (nI 2) dL_law_431 (by decide +kernel) ?_
  refine V.iadd 432 dL_law_432 ?_
  refine J.sld 433 dL_law_433 (by omega) hN ?_
  refine J.aload_n 434 dL_law_434 rfl rfl ?_
  refine J.iload_n 435 dL_law_435 rfl rfl ?_
  refine J.iconst 436 (nI 3) dL_law_436 (by decide +kernel) ?_
  refine V.iadd 437 dL_law_437 ?_
  refine J.sld 438 dL_law_438 (by omega) hN ?_
  refine V.callv 439 dL_law_439 ml_RL_60 mi_yX8_error mv_yX8_error (p_error w v1 (by rw [e9]; exact hW.1) hW.2.1 (by rw [e8]; exact hM.2.1.2.2.2.2) hM.2.1.2.2.2.1) rfl rfl (Nat.le_of_ble_eq_true rfl) (by decide) (by decide) o_178 rfl rfl (fun r2 v2 h2 => ?_)
  have e := mF_error v1 v n K (xs (4 * t + 1)) (xs (4 * t + 2)) (xs (4 * t + 3))
  rw [← h1.2.2.mx] at e
  rw [e] at h2
  have g1 : r1 = r2 := h1.1.trans h2.1.symm
  have g2 := stp h1.2.1 h2.2
  exact J.icmp_eq 442 782 dL_law_442 (by decide) (fun _ => kk _ g2) (fun c9 => absurd g1 c9)
set_option maxHeartbeats 1000000 in
set_option maxRecDepth 100000 in
theorem lc_11 {w : Wd} {nm : String} {b N t : Nat} {xs : Nat → Int32} {v : Vm2} {B : Nat} (hN : N ≤ 2048) (ht : 4 * t + 4 ≤ N) (hm : MR v v B) (hB : B ≤ 100000000) (hB9 : 9999 ≤ B) (kk : ∀ u, MR u u (B + 160000) → JLw w nm b N xs t 782 u) : JLw w nm b N xs t 447 v := by
  obtain ⟨n, f, ma, K, nx, s, wr, a0, hM⟩ := hm
  have hW := hM.1.2.1
  unfold JLw at kk ⊢
  refine J.aload_n 447 dL_law_447 rfl rfl ?_
  refine J.aload_n 448 dL_law_448 rfl rfl ?_
  refine J.iload_n 449 dL_law_449 rfl rfl ?_
  refine J.iconst 450 (nI 1) dL_law_450 (by decide +kernel) ?_
  refine V.iadd 451 dL_law_451 ?_
  refine J.sld 452 dL_law_452 (by omega) hN ?_
  refine J.aload_n 453 dL_law_453 rfl rfl ?_
  refine J.iload_n 454 dL_law_454 rfl rfl ?_
  refine J.iconst 455 (nI 2) dL_law_455 (by decide +kernel) ?_
  refine V.iadd 456 dL_law_456 ?_
  refine J.sld 457 dL_law_457 (by omega) hN ?_
  refine J.if_eq 458 465 dL_law_458 (by decide) (fun cz => ?_) (fun cz => ?_)
  · refine J.iconst 465 (nI 0) dL_law_465 (by decide +kernel) ?_
    refine V.callv 466 dL_law_466 ml_RL_61 mi_yX7_liar mv_yX7_liar (q_liar w v hM hB) rfl rfl (Nat.le_of_ble_eq_true rfl) (by decide) (by decide) o_0 rfl rfl (fun r1 v1 h1 => ?_)
    have e9 : v1 179 = v 179 := h1.2.2 179 (by decide)
    have e8 : v1 178 = v 178 := h1.2.2 178 (by decide)
    refine J.aload_n 469 dL_law_469 rfl rfl ?_
    refine J.aload_n 470 dL_law_470 rfl rfl ?_
    refine J.iload_n 471 dL_law_471 rfl rfl ?_
    refine J.iconst 472 (nI 1) dL_law_472 (by decide +kernel) ?_
    refine V.iadd 473 dL_law_473 ?_
    refine J.sld 474 dL_law_474 (by omega) hN ?_
    refine J.aload_n 475 dL_law_475 rfl rfl ?_
    refine J.iload_n 476 dL_law_476 rfl rfl ?_
    refine J.iconst 477 (nI 2) dL_law_477 (by decide +kernel) ?_
    refine V.iadd 478 dL_law_478 ?_
    refine J.sld 479 dL_law_479 (by omega) hN ?_
    refine J.if_eq 480 487 dL_law_480 (by decide) (fun _ => ?_) (fun c9 => absurd cz c9)
    refine J.iconst 487 (nI 0) dL_law_487 (by decide +kernel) ?_
    refine V.callv 488 dL_law_488 ml_RL_65 mi_yX8_liar mv_yX8_liar (p_liar w v1 (by rw [e9]; exact hW.1) hW.2.1 (by rw [e8]; exact hM.2.1.2.2.2.2) hM.2.1.2.2.2.1) rfl rfl (Nat.le_of_ble_eq_true rfl) (by decide) (by decide) o_178 rfl rfl (fun r2 v2 h2 => ?_)
    have e := mF_liar v1 v n K (xs (4 * t + 1)) (nI 0)
    rw [← h1.2.2.mx] at e
    rw [e] at h2
    have g1 : r1 = r2 := h1.1.trans h2.1.symm
    have g2 := stp h1.2.1 h2.2
    exact J.icmp_eq 491 782 dL_law_491 (by decide) (fun _ => kk _ g2) (fun c9 => absurd g1 c9)
  · refine J.iconst 461 (nI 1) dL_law_461 (by decide +kernel) ?_
    refine J.goto 462 466 dL_law_462 (by decide) ?_
    refine V.callv 466 dL_law_466 ml_RL_61 mi_yX7_liar mv_yX7_liar (q_liar w v hM hB) rfl rfl (Nat.le_of_ble_eq_true rfl) (by decide) (by decide) o_0 rfl rfl (fun r1 v1 h1 => ?_)
    have e9 : v1 179 = v 179 := h1.2.2 179 (by decide)
    have e8 : v1 178 = v 178 := h1.2.2 178 (by decide)
    refine J.aload_n 469 dL_law_469 rfl rfl ?_
    refine J.aload_n 470 dL_law_470 rfl rfl ?_
    refine J.iload_n 471 dL_law_471 rfl rfl ?_
    refine J.iconst 472 (nI 1) dL_law_472 (by decide +kernel) ?_
    refine V.iadd 473 dL_law_473 ?_
    refine J.sld 474 dL_law_474 (by omega) hN ?_
    refine J.aload_n 475 dL_law_475 rfl rfl ?_
    refine J.iload_n 476 dL_law_476 rfl rfl ?_
    refine J.iconst 477 (nI 2) dL_law_477 (by decide +kernel) ?_
    refine V.iadd 478 dL_law_478 ?_
    refine J.sld 479 dL_law_479 (by omega) hN ?_
    refine J.if_eq 480 487 dL_law_480 (by decide) (fun c9 => absurd c9 cz) (fun _ => ?_)
    refine J.iconst 483 (nI 1) dL_law_483 (by decide +kernel) ?_
    refine J.goto 484 488 dL_law_484 (by decide) ?_
    refine V.callv 488 dL_law_488 ml_RL_65 mi_yX8_liar mv_yX8_liar (p_liar w v1 (by rw [e9]; exact hW.1) hW.2.1 (by rw [e8]; exact hM.2.1.2.2.2.2) hM.2.1.2.2.2.1) rfl rfl (Nat.le_of_ble_eq_true rfl) (by decide) (by decide) o_178 rfl rfl (fun r2 v2 h2 => ?_)
    have e := mF_liar v1 v n K (xs (4 * t + 1)) (nI 1)
    rw [← h1.2.2.mx] at e
    rw [e] at h2
    have g1 : r1 = r2 := h1.1.trans h2.1.symm
    have g2 := stp h1.2.1 h2.2
    exact J.icmp_eq 491 782 dL_law_491 (by decide) (fun _ => kk _ g2) (fun c9 => absurd g1 c9)
set_option maxHeartbeats 1000000 in
set_option maxRecDepth 100000 in
theorem lc_12 {w : Wd} {nm : String} {b N t : Nat} {xs : Nat → Int32} {v : Vm2} {B : Nat} (hN : N ≤ 2048) (ht : 4 * t + 4 ≤ N) (hm : MR v v B) (hB : B ≤ 100000000) (hB9 : 9999 ≤ B) (kk : ∀ u, MR u u (B + 160000) → JLw w nm b N xs t 782 u) : JLw w nm b N xs t 496 v := by
  obtain ⟨n, f, ma, K, nx, s, wr, a0, hM⟩ := hm
  have hW := hM.1.2.1
  unfold JLw at kk ⊢
  refine J.aload_n 496 dL_law_496 rfl rfl ?_
  refine J.aload_n 497 dL_law_497 rfl rfl ?_
  refine J.iload_n 498 dL_law_498 rfl rfl ?_
  refine J.iconst 499 (nI 1) dL_law_499 (by decide +kernel) ?_
  refine V.iadd 500 dL_law_500 ?_
  refine J.sld 501 dL_law_501 (by omega) hN ?_
  refine V.callv 502 dL_law_502 ml_RL_66 mi_yX7_stand mv_yX7_stand (q_stand w v hM hB) rfl rfl (Nat.le_of_ble_eq_true rfl) (by decide) (by decide) o_0 rfl rfl (fun r1 v1 h1 => ?_)
  have e9 : v1 179 = v 179 := h1.2.2 179 (by decide)
  have e8 : v1 178 = v 178 := h1.2.2 178 (by decide)
  refine J.aload_n 505 dL_law_505 rfl rfl ?_
  refine J.aload_n 506 dL_law_506 rfl rfl ?_
  refine J.iload_n 507 dL_law_507 rfl rfl ?_
  refine J.iconst 508 (nI 1) dL_law_508 (by decide +kernel) ?_
  refine V.iadd 509 dL_law_509 ?_
  refine J.sld 510 dL_law_510 (by omega) hN ?_
  refine V.callv 511 dL_law_511 ml_RL_69 mi_yX8_stand mv_yX8_stand (p_stand w v1 (by rw [e9]; exact hW.1) hW.2.1 (by rw [e8]; exact hM.2.1.2.2.2.2) hM.2.1.2.2.2.1) rfl rfl (Nat.le_of_ble_eq_true rfl) (by decide) (by decide) o_178 rfl rfl (fun r2 v2 h2 => ?_)
  have e := mF_stand v1 v n K (xs (4 * t + 1))
  rw [← h1.2.2.mx] at e
  rw [e] at h2
  have g1 : r1 = r2 := h1.1.trans h2.1.symm
  have g2 := stp h1.2.1 h2.2
  exact J.icmp_eq 514 782 dL_law_514 (by decide) (fun _ => kk _ g2) (fun c9 => absurd g1 c9)
set_option maxHeartbeats 1000000 in
set_option maxRecDepth 100000 in
theorem lc_13 {w : Wd} {nm : String} {b N t : Nat} {xs : Nat → Int32} {v : Vm2} {B : Nat} (hN : N ≤ 2048) (ht : 4 * t + 4 ≤ N) (hm : MR v v B) (hB : B ≤ 100000000) (hB9 : 9999 ≤ B) (kk : ∀ u, MR u u (B + 160000) → JLw w nm b N xs t 782 u) : JLw w nm b N xs t 519 v := by
  obtain ⟨n, f, ma, K, nx, s, wr, a0, hM⟩ := hm
  have hW := hM.1.2.1
  unfold JLw at kk ⊢
  refine J.aload_n 519 dL_law_519 rfl rfl ?_
  refine J.aload_n 520 dL_law_520 rfl rfl ?_
  refine J.iload_n 521 dL_law_521 rfl rfl ?_
  refine J.iconst 522 (nI 1) dL_law_522 (by decide +kernel) ?_
  refine V.iadd 523 dL_law_523 ?_
  refine J.sld 524 dL_law_524 (by omega) hN ?_
  refine V.callv 525 dL_law_525 ml_RL_70 mi_yX7_join mv_yX7_join (q_join w v hM hB) rfl rfl (Nat.le_of_ble_eq_true rfl) (by decide) (by decide) o_0 rfl rfl (fun r1 v1 h1 => ?_)
  have e9 : v1 179 = v 179 := h1.2.2 179 (by decide)
  have e8 : v1 178 = v 178 := h1.2.2 178 (by decide)
  refine J.aload_n 528 dL_law_528 rfl rfl ?_
  refine J.aload_n 529 dL_law_529 rfl rfl ?_
  refine J.iload_n 530 dL_law_530 rfl rfl ?_
  refine J.iconst 531 (nI 1) dL_law_531 (by decide +kernel) ?_
  refine V.iadd 532 dL_law_532 ?_
  refine J.sld 533 dL_law_533 (by omega) hN ?_
  refine V.callv 534 dL_law_534 ml_RL_73 mi_yX8_join mv_yX8_join (p_join w v1 (by rw [e9]; exact hW.1) hW.2.1 (by rw [e9]; exact hW.2.2.1) (by have := hW.2.2.2.1; omega) (by rw [e8]; exact hM.2.1.2.2.2.2) hM.2.1.2.2.2.1 (by rw [e9]; exact hW.2.2.2.2.2.1) hW.2.2.2.2.2.2.1) rfl rfl (Nat.le_of_ble_eq_true rfl) (by decide) (by decide) o_178 rfl rfl (fun r2 v2 h2 => ?_)
  have e := mF_join v1 v n f K ma (xs (4 * t + 1))
  rw [← h1.2.2.mx] at e
  rw [e] at h2
  have g1 : r1 = r2 := h1.1.trans h2.1.symm
  have g2 := stp h1.2.1 h2.2
  exact J.icmp_eq 537 782 dL_law_537 (by decide) (fun _ => kk _ g2) (fun c9 => absurd g1 c9)
set_option maxHeartbeats 1000000 in
set_option maxRecDepth 100000 in
theorem lc_14 {w : Wd} {nm : String} {b N t : Nat} {xs : Nat → Int32} {v : Vm2} {B : Nat} (hN : N ≤ 2048) (ht : 4 * t + 4 ≤ N) (hm : MR v v B) (hB : B ≤ 100000000) (hB9 : 9999 ≤ B) (kk : ∀ u, MR u u (B + 160000) → JLw w nm b N xs t 782 u) : JLw w nm b N xs t 542 v := by
  obtain ⟨n, f, ma, K, nx, s, wr, a0, hM⟩ := hm
  have hW := hM.1.2.1
  unfold JLw at kk ⊢
  refine J.aload_n 542 dL_law_542 rfl rfl ?_
  refine J.aload_n 543 dL_law_543 rfl rfl ?_
  refine J.iload_n 544 dL_law_544 rfl rfl ?_
  refine J.iconst 545 (nI 1) dL_law_545 (by decide +kernel) ?_
  refine V.iadd 546 dL_law_546 ?_
  refine J.sld 547 dL_law_547 (by omega) hN ?_
  refine J.aload_n 548 dL_law_548 rfl rfl ?_
  refine J.iload_n 549 dL_law_549 rfl rfl ?_
  refine J.iconst 550 (nI 2) dL_law_550 (by decide +kernel) ?_
  refine V.iadd 551 dL_law_551 ?_
  refine J.sld 552 dL_law_552 (by omega) hN ?_
  refine V.callv 553 dL_law_553 ml_RL_74 mi_yX7_alarm mv_yX7_alarm (q_alarm w v hM hB) rfl rfl (Nat.le_of_ble_eq_true rfl) (by decide) (by decide) o_0 rfl rfl (fun r1 v1 h1 => ?_)
  have e9 : v1 179 = v 179 := h1.2.2 179 (by decide)
  have e8 : v1 178 = v 178 := h1.2.2 178 (by decide)
  refine J.aload_n 556 dL_law_556 rfl rfl ?_
  refine J.aload_n 557 dL_law_557 rfl rfl ?_
  refine J.iload_n 558 dL_law_558 rfl rfl ?_
  refine J.iconst 559 (nI 1) dL_law_559 (by decide +kernel) ?_
  refine V.iadd 560 dL_law_560 ?_
  refine J.sld 561 dL_law_561 (by omega) hN ?_
  refine J.aload_n 562 dL_law_562 rfl rfl ?_
  refine J.iload_n 563 dL_law_563 rfl rfl ?_
  refine J.iconst 564 (nI 2) dL_law_564 (by decide +kernel) ?_
  refine V.iadd 565 dL_law_565 ?_
  refine J.sld 566 dL_law_566 (by omega) hN ?_
  refine V.callv 567 dL_law_567 ml_RL_77 mi_yX8_alarm mv_yX8_alarm (p_alarm w v1 (by rw [e9]; exact hW.1) hW.2.1 (by rw [e8]; exact hM.2.1.2.2.2.2) hM.2.1.2.2.2.1 (by rw [e9]; exact hW.2.2.2.2.2.1) hW.2.2.2.2.2.2.1) rfl rfl (Nat.le_of_ble_eq_true rfl) (by decide) (by decide) o_178 rfl rfl (fun r2 v2 h2 => ?_)
  have e := mF_alarm v1 v n K ma (xs (4 * t + 1)) (xs (4 * t + 2))
  rw [← h1.2.2.mx] at e
  rw [e] at h2
  have g1 : r1 = r2 := h1.1.trans h2.1.symm
  have g2 := stp h1.2.1 h2.2
  exact J.icmp_eq 570 782 dL_law_570 (by decide) (fun _ => kk _ g2) (fun c9 => absurd g1 c9)
set_option maxHeartbeats 1000000 in
set_option maxRecDepth 100000 in
theorem lc_15 {w : Wd} {nm : String} {b N t : Nat} {xs : Nat → Int32} {v : Vm2} {B : Nat} (hN : N ≤ 2048) (ht : 4 * t + 4 ≤ N) (hm : MR v v B) (hB : B ≤ 100000000) (hB9 : 9999 ≤ B) (kk : ∀ u, MR u u (B + 160000) → JLw w nm b N xs t 782 u) : JLw w nm b N xs t 575 v := by
  obtain ⟨n, f, ma, K, nx, s, wr, a0, hM⟩ := hm
  have hW := hM.1.2.1
  unfold JLw at kk ⊢
  refine J.aload_n 575 dL_law_575 rfl rfl ?_
  refine J.aload_n 576 dL_law_576 rfl rfl ?_
  refine J.iload_n 577 dL_law_577 rfl rfl ?_
  refine J.iconst 578 (nI 1) dL_law_578 (by decide +kernel) ?_
  refine V.iadd 579 dL_law_579 ?_
  refine J.sld 580 dL_law_580 (by omega) hN ?_
  refine V.callv 581 dL_law_581 ml_RL_78 mi_yX7_drift mv_yX7_drift (q_drift w v hM hB) rfl rfl (Nat.le_of_ble_eq_true rfl) (by decide) (by decide) o_0 rfl rfl (fun r1 v1 h1 => ?_)
  have e9 : v1 179 = v 179 := h1.2.2 179 (by decide)
  have e8 : v1 178 = v 178 := h1.2.2 178 (by decide)
  refine J.aload_n 584 dL_law_584 rfl rfl ?_
  refine J.aload_n 585 dL_law_585 rfl rfl ?_
  refine J.iload_n 586 dL_law_586 rfl rfl ?_
  refine J.iconst 587 (nI 1) dL_law_587 (by decide +kernel) ?_
  refine V.iadd 588 dL_law_588 ?_
  refine J.sld 589 dL_law_589 (by omega) hN ?_
  refine V.callv 590 dL_law_590 ml_RL_81 mi_yX8_drift mv_yX8_drift (p_drift w v1 (show DrI v1 n f ma K a0 from ⟨by rw [e9]; exact hW.1, by rw [e9]; exact hW.2.2.1, by rw [e9]; exact hW.2.2.2.2.2.1, fun a ha => by obtain ⟨-, cl, h1, h2, -⟩ := hW.2.2.2.2.2.2.2.2 a ha; exact ⟨cl, by have := hW.2.1; omega, by rw [e9]; exact h2⟩, by rw [e8]; exact hM.2.1.2.2.2.2, by rw [e9]; exact hM.2.2.2.2.2.1.2.1, hM.2.1.2.2.2.1, hM.2.2.2.2.2.1.2.2⟩) hW.2.1 (by have := hW.2.2.2.1; omega) hW.2.2.2.2.2.2.1) rfl rfl (Nat.le_of_ble_eq_true rfl) (by decide) (by decide) o_178 rfl rfl (fun r2 v2 h2 => ?_)
  have e := mF_drift v1 v n f ma K a0 (xs (4 * t + 1))
  rw [← h1.2.2.mx] at e
  rw [e] at h2
  have g1 : r1 = r2 := h1.1.trans h2.1.symm
  have g2 := stp h1.2.1 h2.2
  exact J.icmp_eq 593 782 dL_law_593 (by decide) (fun _ => kk _ g2) (fun c9 => absurd g1 c9)
set_option maxHeartbeats 1000000 in
set_option maxRecDepth 100000 in
theorem lc_16 {w : Wd} {nm : String} {b N t : Nat} {xs : Nat → Int32} {v : Vm2} {B : Nat} (hN : N ≤ 2048) (ht : 4 * t + 4 ≤ N) (hm : MR v v B) (hB : B ≤ 100000000) (hB9 : 9999 ≤ B) (kk : ∀ u, MR u u (B + 160000) → JLw w nm b N xs t 782 u) : JLw w nm b N xs t 598 v := by
  obtain ⟨n, f, ma, K, nx, s, wr, a0, hM⟩ := hm
  have hW := hM.1.2.1
  unfold JLw at kk ⊢
  refine J.aload_n 598 dL_law_598 rfl rfl ?_
  refine J.aload_n 599 dL_law_599 rfl rfl ?_
  refine J.iload_n 600 dL_law_600 rfl rfl ?_
  refine J.iconst 601 (nI 1) dL_law_601 (by decide +kernel) ?_
  refine V.iadd 602 dL_law_602 ?_
  refine J.sld 603 dL_law_603 (by omega) hN ?_
  refine V.callv 604 dL_law_604 ml_RL_82 mi_yX7_undo mv_yX7_undo (q_undo w v hM hB) rfl rfl (Nat.le_of_ble_eq_true rfl) (by decide) (by decide) o_0 rfl rfl (fun r1 v1 h1 => ?_)
  have e9 : v1 179 = v 179 := h1.2.2 179 (by decide)
  have e8 : v1 178 = v 178 := h1.2.2 178 (by decide)
  refine J.aload_n 607 dL_law_607 rfl rfl ?_
  refine J.aload_n 608 dL_law_608 rfl rfl ?_
  refine J.iload_n 609 dL_law_609 rfl rfl ?_
  refine J.iconst 610 (nI 1) dL_law_610 (by decide +kernel) ?_
  refine V.iadd 611 dL_law_611 ?_
  refine J.sld 612 dL_law_612 (by omega) hN ?_
  refine V.callv 613 dL_law_613 ml_RL_85 mi_yX8_undo mv_yX8_undo (p_undo w v1 (by rw [e8]; exact hM.2.1.2.2.2.2) hM.2.1.2.2.2.1) rfl rfl (Nat.le_of_ble_eq_true rfl) (by decide) (by decide) o_178 rfl rfl (fun r2 v2 h2 => ?_)
  have e := mF_undo v1 v K (xs (4 * t + 1))
  rw [← h1.2.2.mx] at e
  rw [e] at h2
  have g1 : r1 = r2 := h1.1.trans h2.1.symm
  have g2 := stp h1.2.1 h2.2
  exact J.icmp_eq 616 782 dL_law_616 (by decide) (fun _ => kk _ g2) (fun c9 => absurd g1 c9)
set_option maxHeartbeats 1000000 in
set_option maxRecDepth 100000 in
theorem lc_17 {w : Wd} {nm : String} {b N t : Nat} {xs : Nat → Int32} {v : Vm2} {B : Nat} (hN : N ≤ 2048) (ht : 4 * t + 4 ≤ N) (hm : MR v v B) (hB : B ≤ 100000000) (hB9 : 9999 ≤ B) (kk : ∀ u, MR u u (B + 160000) → JLw w nm b N xs t 782 u) : JLw w nm b N xs t 621 v := by
  obtain ⟨n, f, ma, K, nx, s, wr, a0, hM⟩ := hm
  have hW := hM.1.2.1
  unfold JLw at kk ⊢
  refine J.aload_n 621 dL_law_621 rfl rfl ?_
  refine J.aload_n 622 dL_law_622 rfl rfl ?_
  refine J.iload_n 623 dL_law_623 rfl rfl ?_
  refine J.iconst 624 (nI 1) dL_law_624 (by decide +kernel) ?_
  refine V.iadd 625 dL_law_625 ?_
  refine J.sld 626 dL_law_626 (by omega) hN ?_
  refine V.callv 627 dL_law_627 ml_RL_86 mi_yX7_behind mv_yX7_behind (q_behind w v hM hB) rfl rfl (Nat.le_of_ble_eq_true rfl) (by decide) (by decide) o_0 rfl rfl (fun r1 v1 h1 => ?_)
  have e9 : v1 179 = v 179 := h1.2.2 179 (by decide)
  have e8 : v1 178 = v 178 := h1.2.2 178 (by decide)
  refine J.aload_n 630 dL_law_630 rfl rfl ?_
  refine J.aload_n 631 dL_law_631 rfl rfl ?_
  refine J.iload_n 632 dL_law_632 rfl rfl ?_
  refine J.iconst 633 (nI 1) dL_law_633 (by decide +kernel) ?_
  refine V.iadd 634 dL_law_634 ?_
  refine J.sld 635 dL_law_635 (by omega) hN ?_
  refine V.callv 636 dL_law_636 ml_RL_89 mi_yX8_behind mv_yX8_behind (p_behind w v1 (by rw [e9]; exact hW.1) hW.2.1 (by rw [e9]; exact hW.2.2.1) (by have := hW.2.2.2.1; omega)) rfl rfl (Nat.le_of_ble_eq_true rfl) (by decide) (by decide) o_178 rfl rfl (fun r2 v2 h2 => ?_)
  rw [e9] at h2
  have g1 : r1 = r2 := h1.1.trans h2.1.symm
  have g2 := stp h1.2.1 (show EqR v2 (mix v1 v) from by rw [← h1.2.2.mx]; exact h2.2)
  exact J.icmp_eq 639 782 dL_law_639 (by decide) (fun _ => kk _ g2) (fun c9 => absurd g1 c9)
set_option maxHeartbeats 1000000 in
set_option maxRecDepth 100000 in
theorem lc_18 {w : Wd} {nm : String} {b N t : Nat} {xs : Nat → Int32} {v : Vm2} {B : Nat} (hN : N ≤ 2048) (ht : 4 * t + 4 ≤ N) (hm : MR v v B) (hB : B ≤ 100000000) (hB9 : 9999 ≤ B) (kk : ∀ u, MR u u (B + 160000) → JLw w nm b N xs t 782 u) : JLw w nm b N xs t 644 v := by
  obtain ⟨n, f, ma, K, nx, s, wr, a0, hM⟩ := hm
  have hW := hM.1.2.1
  unfold JLw at kk ⊢
  refine J.aload_n 644 dL_law_644 rfl rfl ?_
  refine J.aload_n 645 dL_law_645 rfl rfl ?_
  refine J.iload_n 646 dL_law_646 rfl rfl ?_
  refine J.iconst 647 (nI 1) dL_law_647 (by decide +kernel) ?_
  refine V.iadd 648 dL_law_648 ?_
  refine J.sld 649 dL_law_649 (by omega) hN ?_
  refine V.callv 650 dL_law_650 ml_RL_90 mi_yX7_within mv_yX7_within (q_within w v hM hB) rfl rfl (Nat.le_of_ble_eq_true rfl) (by decide) (by decide) o_0 rfl rfl (fun r1 v1 h1 => ?_)
  have e9 : v1 179 = v 179 := h1.2.2 179 (by decide)
  have e8 : v1 178 = v 178 := h1.2.2 178 (by decide)
  refine J.aload_n 653 dL_law_653 rfl rfl ?_
  refine J.aload_n 654 dL_law_654 rfl rfl ?_
  refine J.iload_n 655 dL_law_655 rfl rfl ?_
  refine J.iconst 656 (nI 1) dL_law_656 (by decide +kernel) ?_
  refine V.iadd 657 dL_law_657 ?_
  refine J.sld 658 dL_law_658 (by omega) hN ?_
  refine V.callv 659 dL_law_659 ml_RL_93 mi_yX8_within mv_yX8_within (p_within w v1 (by rw [e9]; exact hW.1) hW.2.1 (by rw [e9]; exact hW.2.2.1) (by have := hW.2.2.2.1; omega)) rfl rfl (Nat.le_of_ble_eq_true rfl) (by decide) (by decide) o_178 rfl rfl (fun r2 v2 h2 => ?_)
  rw [e9] at h2
  have g1 : r1 = r2 := h1.1.trans h2.1.symm
  have g2 := stp h1.2.1 (show EqR v2 (mix v1 v) from by rw [← h1.2.2.mx]; exact h2.2)
  exact J.icmp_eq 662 782 dL_law_662 (by decide) (fun _ => kk _ g2) (fun c9 => absurd g1 c9)
set_option maxHeartbeats 1000000 in
set_option maxRecDepth 100000 in
theorem lc_19 {w : Wd} {nm : String} {b N t : Nat} {xs : Nat → Int32} {v : Vm2} {B : Nat} (hN : N ≤ 2048) (ht : 4 * t + 4 ≤ N) (hm : MR v v B) (hB : B ≤ 100000000) (hB9 : 9999 ≤ B) (kk : ∀ u, MR u u (B + 160000) → JLw w nm b N xs t 782 u) : JLw w nm b N xs t 667 v := by
  obtain ⟨n, f, ma, K, nx, s, wr, a0, hM⟩ := hm
  have hW := hM.1.2.1
  unfold JLw at kk ⊢
  refine J.aload_n 667 dL_law_667 rfl rfl ?_
  refine J.aload_n 668 dL_law_668 rfl rfl ?_
  refine J.iload_n 669 dL_law_669 rfl rfl ?_
  refine J.iconst 670 (nI 1) dL_law_670 (by decide +kernel) ?_
  refine V.iadd 671 dL_law_671 ?_
  refine J.sld 672 dL_law_672 (by omega) hN ?_
  refine J.aload_n 673 dL_law_673 rfl rfl ?_
  refine J.iload_n 674 dL_law_674 rfl rfl ?_
  refine J.iconst 675 (nI 2) dL_law_675 (by decide +kernel) ?_
  refine V.iadd 676 dL_law_676 ?_
  refine J.sld 677 dL_law_677 (by omega) hN ?_
  refine V.callv 678 dL_law_678 ml_RL_94 mi_yX7_write mv_yX7_write (q_write w v hM hB) rfl rfl (Nat.le_of_ble_eq_true rfl) (by decide) (by decide) o_0 rfl rfl (fun r1 v1 h1 => ?_)
  have e9 : v1 179 = v 179 := h1.2.2 179 (by decide)
  have e8 : v1 178 = v 178 := h1.2.2 178 (by decide)
  refine J.aload_n 681 dL_law_681 rfl rfl ?_
  refine J.aload_n 682 dL_law_682 rfl rfl ?_
  refine J.iload_n 683 dL_law_683 rfl rfl ?_
  refine J.iconst 684 (nI 1) dL_law_684 (by decide +kernel) ?_
  refine V.iadd 685 dL_law_685 ?_
  refine J.sld 686 dL_law_686 (by omega) hN ?_
  refine J.aload_n 687 dL_law_687 rfl rfl ?_
  refine J.iload_n 688 dL_law_688 rfl rfl ?_
  refine J.iconst 689 (nI 2) dL_law_689 (by decide +kernel) ?_
  refine V.iadd 690 dL_law_690 ?_
  refine J.sld 691 dL_law_691 (by omega) hN ?_
  refine V.callv 692 dL_law_692 ml_RL_97 mi_yX8_write mv_yX8_write (p_write w v1 (by rw [e9]; exact hW.1) hW.2.1 (by rw [e8]; exact hM.2.2.2.2.1.2.1) hM.2.2.2.2.1.2.2.1) rfl rfl (Nat.le_of_ble_eq_true rfl) (by decide) (by decide) o_178 rfl rfl (fun r2 v2 h2 => ?_)
  have e := mF_write v1 v n wr (xs (4 * t + 1)) (xs (4 * t + 2))
  rw [← h1.2.2.mx] at e
  rw [e] at h2
  have g1 : r1 = r2 := h1.1.trans h2.1.symm
  have g2 := stp h1.2.1 h2.2
  exact J.icmp_eq 695 782 dL_law_695 (by decide) (fun _ => kk _ g2) (fun c9 => absurd g1 c9)
set_option maxHeartbeats 1000000 in
set_option maxRecDepth 100000 in
theorem lc_20 {w : Wd} {nm : String} {b N t : Nat} {xs : Nat → Int32} {v : Vm2} {B : Nat} (hN : N ≤ 2048) (ht : 4 * t + 4 ≤ N) (hm : MR v v B) (hB : B ≤ 100000000) (hB9 : 9999 ≤ B) (kk : ∀ u, MR u u (B + 160000) → JLw w nm b N xs t 782 u) : JLw w nm b N xs t 700 v := by
  obtain ⟨n, f, ma, K, nx, s, wr, a0, hM⟩ := hm
  have hW := hM.1.2.1
  unfold JLw at kk ⊢
  refine J.aload_n 700 dL_law_700 rfl rfl ?_
  refine V.callv 701 dL_law_701 ml_RL_98 mi_yX7_tear mv_yX7_tear (q_tear w v hM hB) rfl rfl (Nat.le_of_ble_eq_true rfl) (by decide) (by decide) o_0 rfl rfl (fun r1 v1 h1 => ?_)
  have e9 : v1 179 = v 179 := h1.2.2 179 (by decide)
  have e8 : v1 178 = v 178 := h1.2.2 178 (by decide)
  refine J.aload_n 704 dL_law_704 rfl rfl ?_
  refine V.callv 705 dL_law_705 ml_RL_101 mi_yX8_tear mv_yX8_tear (p_tear w v1 ) rfl rfl (Nat.le_of_ble_eq_true rfl) (by decide) (by decide) o_178 rfl rfl (fun r2 v2 h2 => ?_)
  have e := mF_tear v1 v 
  rw [← h1.2.2.mx] at e
  have h2 : r2 = (F_tear v1).1 ∧ EqR v2 (F_tear v1).2 := ⟨h2.1, by rw [h2.2]; exact EqR.rf _⟩
  rw [e] at h2
  have g1 : r1 = r2 := h1.1.trans h2.1.symm
  have g2 := stp h1.2.1 h2.2
  exact J.icmp_eq 708 782 dL_law_708 (by decide) (fun _ => kk _ g2) (fun c9 => absurd g1 c9)
set_option maxHeartbeats 1000000 in
set_option maxRecDepth 100000 in
theorem lc_21 {w : Wd} {nm : String} {b N t : Nat} {xs : Nat → Int32} {v : Vm2} {B : Nat} (hN : N ≤ 2048) (ht : 4 * t + 4 ≤ N) (hm : MR v v B) (hB : B ≤ 100000000) (hB9 : 9999 ≤ B) (kk : ∀ u, MR u u (B + 160000) → JLw w nm b N xs t 782 u) : JLw w nm b N xs t 713 v := by
  obtain ⟨n, f, ma, K, nx, s, wr, a0, hM⟩ := hm
  have hW := hM.1.2.1
  unfold JLw at kk ⊢
  refine J.aload_n 713 dL_law_713 rfl rfl ?_
  refine J.aload_n 714 dL_law_714 rfl rfl ?_
  refine J.iload_n 715 dL_law_715 rfl rfl ?_
  refine J.iconst 716 (nI 1) dL_law_716 (by decide +kernel) ?_
  refine V.iadd 717 dL_law_717 ?_
  refine J.sld 718 dL_law_718 (by omega) hN ?_
  refine V.callv 719 dL_law_719 ml_RL_102 mi_yX7_seed mv_yX7_seed (q_seed w v hM hB) rfl rfl (Nat.le_of_ble_eq_true rfl) (by decide) (by decide) o_0 rfl rfl (fun r1 v1 h1 => ?_)
  have e9 : v1 179 = v 179 := h1.2.2 179 (by decide)
  have e8 : v1 178 = v 178 := h1.2.2 178 (by decide)
  refine J.aload_n 722 dL_law_722 rfl rfl ?_
  refine J.aload_n 723 dL_law_723 rfl rfl ?_
  refine J.iload_n 724 dL_law_724 rfl rfl ?_
  refine J.iconst 725 (nI 1) dL_law_725 (by decide +kernel) ?_
  refine V.iadd 726 dL_law_726 ?_
  refine J.sld 727 dL_law_727 (by omega) hN ?_
  refine V.callv 728 dL_law_728 ml_RL_105 mi_yX8_seed mv_yX8_seed (p_seed w v1 ) rfl rfl (Nat.le_of_ble_eq_true rfl) (by decide) (by decide) o_178 rfl rfl (fun r2 v2 h2 => ?_)
  have e := mF_seed v1 v (xs (4 * t + 1))
  rw [← h1.2.2.mx] at e
  rw [e] at h2
  have g1 : r1 = r2 := h1.1.trans h2.1.symm
  have g2 := stp h1.2.1 h2.2
  exact J.icmp_eq 731 782 dL_law_731 (by decide) (fun _ => kk _ g2) (fun c9 => absurd g1 c9)
set_option maxHeartbeats 1000000 in
set_option maxRecDepth 100000 in
theorem lc_22 {w : Wd} {nm : String} {b N t : Nat} {xs : Nat → Int32} {v : Vm2} {B : Nat} (hN : N ≤ 2048) (ht : 4 * t + 4 ≤ N) (hm : MR v v B) (hB : B ≤ 100000000) (hB9 : 9999 ≤ B) (kk : ∀ u, MR u u (B + 160000) → JLw w nm b N xs t 782 u) : JLw w nm b N xs t 736 v := by
  obtain ⟨n, f, ma, K, nx, s, wr, a0, hM⟩ := hm
  have hW := hM.1.2.1
  unfold JLw at kk ⊢
  refine J.aload_n 736 dL_law_736 rfl rfl ?_
  refine J.aload_n 737 dL_law_737 rfl rfl ?_
  refine J.iload_n 738 dL_law_738 rfl rfl ?_
  refine J.iconst 739 (nI 1) dL_law_739 (by decide +kernel) ?_
  refine V.iadd 740 dL_law_740 ?_
  refine J.sld 741 dL_law_741 (by omega) hN ?_
  refine V.callv 742 dL_law_742 ml_RL_106 mi_yX7_keep mv_yX7_keep (q_keep w v hM hB) rfl rfl (Nat.le_of_ble_eq_true rfl) (by decide) (by decide) o_0 rfl rfl (fun r1 v1 h1 => ?_)
  have e9 : v1 179 = v 179 := h1.2.2 179 (by decide)
  have e8 : v1 178 = v 178 := h1.2.2 178 (by decide)
  refine J.aload_n 745 dL_law_745 rfl rfl ?_
  refine J.aload_n 746 dL_law_746 rfl rfl ?_
  refine J.iload_n 747 dL_law_747 rfl rfl ?_
  refine J.iconst 748 (nI 1) dL_law_748 (by decide +kernel) ?_
  refine V.iadd 749 dL_law_749 ?_
  refine J.sld 750 dL_law_750 (by omega) hN ?_
  refine V.callv 751 dL_law_751 ml_RL_109 mi_yX8_keep mv_yX8_keep (p_keep w v1 ) rfl rfl (Nat.le_of_ble_eq_true rfl) (by decide) (by decide) o_178 rfl rfl (fun r2 v2 h2 => ?_)
  have e := mF_keep v1 v (xs (4 * t + 1))
  rw [← h1.2.2.mx] at e
  rw [e] at h2
  have g1 : r1 = r2 := h1.1.trans h2.1.symm
  have g2 := stp h1.2.1 h2.2
  exact J.icmp_eq 754 782 dL_law_754 (by decide) (fun _ => kk _ g2) (fun c9 => absurd g1 c9)
set_option maxHeartbeats 1000000 in
set_option maxRecDepth 100000 in
theorem lc_23 {w : Wd} {nm : String} {b N t : Nat} {xs : Nat → Int32} {v : Vm2} {B : Nat} (hN : N ≤ 2048) (ht : 4 * t + 4 ≤ N) (hm : MR v v B) (hB : B ≤ 100000000) (hB9 : 9999 ≤ B) (kk : ∀ u, MR u u (B + 160000) → JLw w nm b N xs t 782 u) : JLw w nm b N xs t 759 v := by
  obtain ⟨n, f, ma, K, nx, s, wr, a0, hM⟩ := hm
  have hW := hM.1.2.1
  unfold JLw at kk ⊢
  refine J.aload_n 759 dL_law_759 rfl rfl ?_
  refine J.aload_n 760 dL_law_760 rfl rfl ?_
  refine J.iload_n 761 dL_law_761 rfl rfl ?_
  refine J.iconst 762 (nI 1) dL_law_762 (by decide +kernel) ?_
  refine V.iadd 763 dL_law_763 ?_
  refine J.sld 764 dL_law_764 (by omega) hN ?_
  refine V.callv 765 dL_law_765 ml_RL_110 mi_yX7_goBack mv_yX7_goBack (q_goBack w v hM hB) rfl rfl (Nat.le_of_ble_eq_true rfl) (by decide) (by decide) o_0 rfl rfl (fun r1 v1 h1 => ?_)
  have e9 : v1 179 = v 179 := h1.2.2 179 (by decide)
  have e8 : v1 178 = v 178 := h1.2.2 178 (by decide)
  refine J.aload_n 768 dL_law_768 rfl rfl ?_
  refine J.aload_n 769 dL_law_769 rfl rfl ?_
  refine J.iload_n 770 dL_law_770 rfl rfl ?_
  refine J.iconst 771 (nI 1) dL_law_771 (by decide +kernel) ?_
  refine V.iadd 772 dL_law_772 ?_
  refine J.sld 773 dL_law_773 (by omega) hN ?_
  refine V.callv 774 dL_law_774 ml_RL_113 mi_yX8_goBack mv_yX8_goBack (p_goBack w v1 ) rfl rfl (Nat.le_of_ble_eq_true rfl) (by decide) (by decide) o_178 rfl rfl (fun r2 v2 h2 => ?_)
  have e := mF_goBack v1 v (xs (4 * t + 1))
  rw [← h1.2.2.mx] at e
  rw [e] at h2
  have g1 : r1 = r2 := h1.1.trans h2.1.symm
  have g2 := stp h1.2.1 h2.2
  exact J.icmp_eq 777 782 dL_law_777 (by decide) (fun _ => kk _ g2) (fun c9 => absurd g1 c9)
