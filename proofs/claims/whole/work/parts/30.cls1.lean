/-! ===== part 30: JDK's own methods, bits ===== -/
theorem Ct.ofF {w : Wd} {y : MethodName} {cc : ByteArray} {mL : Nat} {rt : Option FieldType} {R : Room} {av : List Value} {n : Nat} {h : Nat → va_E} {n' : Nat} {post : Po} (hy : plainFor y = true) (hle : (lg_sl av).length ≤ mL)
    (k : J w y cc mL rt R XT (ZJ w n' R.cells R.slots post) 0 (lv_args 0 av) [] n h 0 0) : Ct w y cc mL rt R av n h n' post := by
  unfold Ct Met
  refine MetFree.of_bodySF (code := cc) (maxLocals := mL) (ret := rt) hy ?_ ?_
  · intro args s m h1 hn
    obtain ⟨meth, c, g1, g2, g3, g4, g5, g6, -, -⟩ := Cond.code_spec hn (atoms_spec (ws := .code y cc mL rt :: AG) h1 _ List.mem_cons_self)
    exact ⟨meth, c, g1, g2, g3, g4, g5, g6⟩
  · intro p e s m args below meth c s₁ B hml hv _
    have hh0 : s₁.heap = s.heap := by rw [B.state]; rfl
    obtain ⟨rfl, hP, hK⟩ := hv
    have hts := atoms_spec (ws := .code y cc mL rt :: AG) B.pre
    have hl := lv_entry av (n := mL) hle
    have hsz : wN w ≤ s.heap.size := by rw [hP.1]; omega
    have q := k p e s m _ below meth c ⟨B.exec, B.bytes, hml, B.returns, B.notSynchronized, (name_of_methodNamed B.named B.method).1, findClass_of_methodNamed B.named, fun x hx => hts x (List.mem_cons_of_mem _ hx), hK, hsz, trivial⟩ _ s.heap [] hl hP va_S.rf
    rw [lg_entry_eq]
    obtain ⟨t, a1, o, b1, b2, b3⟩ := q s₁ hh0 (Stand.of_body B)
    exact ⟨t, o, a1, b1, b2, ⟨b3.1, b3.2⟩⟩
theorem CI.ofF {w : Wd} {y : MethodName} {cc : ByteArray} {mL : Nat} {v : Vm2} {rt : Option FieldType} {f l : Nat} {av : List Value} {P : Int32 → Vm2 → Prop} (hy : plainFor y = true) (hle : (lg_sl av).length ≤ mL) (k : J w y cc mL rt (rm f l) XT (ZJ w 185 0 0 (PI w P)) 0 (lv_args 0 av) [] 185 (hv w v) 0 0) : CI w y cc mL rt (rm f l) av v P := Ct.ofF hy hle k
theorem CU.ofF {w : Wd} {y : MethodName} {cc : ByteArray} {mL : Nat} {v : Vm2} {f l : Nat} {av : List Value} {P : Vm2 → Prop} (hy : plainFor y = true) (hle : (lg_sl av).length ≤ mL) (k : J w y cc mL none (rm f l) XT (ZJ w 185 0 0 (PU w P)) 0 (lv_args 0 av) [] 185 (hv w v) 0 0) : CU w y cc mL (rm f l) av v P := Ct.ofF hy hle k
def miF (a b : Int32) : Int32 := if b < a then b else a
def maF (a b : Int32) : Int32 := if a < b then b else a
def fdF (a b : Int32) : Int32 := if (a ^^^ b) < 0 ∧ a / b * b ≠ a then a / b - nI 1 else a / b
def fmF (a b : Int32) : Int32 := if (a ^^^ b) < 0 ∧ a - a / b * b ≠ 0 then a - a / b * b + b else a - a / b * b
def us (a b : Int32) : Int32 := (a.toUInt32 >>> (b.toUInt32 &&& Int32.toUInt32 31)).toInt32
def bc1 (x : Int32) : Int32 := x - (us x (nI 1) &&& 1431655765)
def bc2 (x : Int32) : Int32 := (x &&& 858993459) + (us x (nI 2) &&& 858993459)
def bc3 (x : Int32) : Int32 := (x + us x (nI 4)) &&& 252645135
def bc4 (x : Int32) : Int32 := x + us x (nI 8)
def bc5 (x : Int32) : Int32 := x + us x (nI 16)
def bcF (x : Int32) : Int32 := bc5 (bc4 (bc3 (bc2 (bc1 x)))) &&& nI 63
def b8 (b0 b1 b2 b3 b4 b5 b6 b7 : Bool) : Nat := b0.toNat + 2 * b1.toNat + 4 * b2.toNat + 8 * b3.toNat + 16 * b4.toNat + 32 * b5.toNat + 64 * b6.toNat + 128 * b7.toNat
theorem b8_t0 : ∀ b0 b1 b2 b3 b4 b5 b6 b7 : Bool, (nI (b8 b0 b1 b2 b3 b4 b5 b6 b7) >>> (nI 0 &&& 31)) &&& nI 1 = nI b0.toNat := by decide +kernel
theorem b8_s0 : ∀ b0 b1 b2 b3 b4 b5 b6 b7 : Bool, nI (b8 b0 b1 b2 b3 b4 b5 b6 b7) ||| (nI 1 <<< (nI 0 &&& 31)) = nI (b8 true b1 b2 b3 b4 b5 b6 b7) := by decide +kernel
theorem b8_c0 : ∀ b0 b1 b2 b3 b4 b5 b6 b7 : Bool, nI (b8 b0 b1 b2 b3 b4 b5 b6 b7) &&& ((nI 1 <<< (nI 0 &&& 31)) ^^^ -1) = nI (b8 false b1 b2 b3 b4 b5 b6 b7) := by decide +kernel
theorem b8_t1 : ∀ b0 b1 b2 b3 b4 b5 b6 b7 : Bool, (nI (b8 b0 b1 b2 b3 b4 b5 b6 b7) >>> (nI 1 &&& 31)) &&& nI 1 = nI b1.toNat := by decide +kernel
theorem b8_s1 : ∀ b0 b1 b2 b3 b4 b5 b6 b7 : Bool, nI (b8 b0 b1 b2 b3 b4 b5 b6 b7) ||| (nI 1 <<< (nI 1 &&& 31)) = nI (b8 b0 true b2 b3 b4 b5 b6 b7) := by decide +kernel
theorem b8_c1 : ∀ b0 b1 b2 b3 b4 b5 b6 b7 : Bool, nI (b8 b0 b1 b2 b3 b4 b5 b6 b7) &&& ((nI 1 <<< (nI 1 &&& 31)) ^^^ -1) = nI (b8 b0 false b2 b3 b4 b5 b6 b7) := by decide +kernel
theorem b8_t2 : ∀ b0 b1 b2 b3 b4 b5 b6 b7 : Bool, (nI (b8 b0 b1 b2 b3 b4 b5 b6 b7) >>> (nI 2 &&& 31)) &&& nI 1 = nI b2.toNat := by decide +kernel
theorem b8_s2 : ∀ b0 b1 b2 b3 b4 b5 b6 b7 : Bool, nI (b8 b0 b1 b2 b3 b4 b5 b6 b7) ||| (nI 1 <<< (nI 2 &&& 31)) = nI (b8 b0 b1 true b3 b4 b5 b6 b7) := by decide +kernel
theorem b8_c2 : ∀ b0 b1 b2 b3 b4 b5 b6 b7 : Bool, nI (b8 b0 b1 b2 b3 b4 b5 b6 b7) &&& ((nI 1 <<< (nI 2 &&& 31)) ^^^ -1) = nI (b8 b0 b1 false b3 b4 b5 b6 b7) := by decide +kernel
theorem b8_t3 : ∀ b0 b1 b2 b3 b4 b5 b6 b7 : Bool, (nI (b8 b0 b1 b2 b3 b4 b5 b6 b7) >>> (nI 3 &&& 31)) &&& nI 1 = nI b3.toNat := by decide +kernel
theorem b8_s3 : ∀ b0 b1 b2 b3 b4 b5 b6 b7 : Bool, nI (b8 b0 b1 b2 b3 b4 b5 b6 b7) ||| (nI 1 <<< (nI 3 &&& 31)) = nI (b8 b0 b1 b2 true b4 b5 b6 b7) := by decide +kernel
theorem b8_c3 : ∀ b0 b1 b2 b3 b4 b5 b6 b7 : Bool, nI (b8 b0 b1 b2 b3 b4 b5 b6 b7) &&& ((nI 1 <<< (nI 3 &&& 31)) ^^^ -1) = nI (b8 b0 b1 b2 false b4 b5 b6 b7) := by decide +kernel
theorem b8_t4 : ∀ b0 b1 b2 b3 b4 b5 b6 b7 : Bool, (nI (b8 b0 b1 b2 b3 b4 b5 b6 b7) >>> (nI 4 &&& 31)) &&& nI 1 = nI b4.toNat := by decide +kernel
theorem b8_s4 : ∀ b0 b1 b2 b3 b4 b5 b6 b7 : Bool, nI (b8 b0 b1 b2 b3 b4 b5 b6 b7) ||| (nI 1 <<< (nI 4 &&& 31)) = nI (b8 b0 b1 b2 b3 true b5 b6 b7) := by decide +kernel
theorem b8_c4 : ∀ b0 b1 b2 b3 b4 b5 b6 b7 : Bool, nI (b8 b0 b1 b2 b3 b4 b5 b6 b7) &&& ((nI 1 <<< (nI 4 &&& 31)) ^^^ -1) = nI (b8 b0 b1 b2 b3 false b5 b6 b7) := by decide +kernel
theorem b8_t5 : ∀ b0 b1 b2 b3 b4 b5 b6 b7 : Bool, (nI (b8 b0 b1 b2 b3 b4 b5 b6 b7) >>> (nI 5 &&& 31)) &&& nI 1 = nI b5.toNat := by decide +kernel
theorem b8_s5 : ∀ b0 b1 b2 b3 b4 b5 b6 b7 : Bool, nI (b8 b0 b1 b2 b3 b4 b5 b6 b7) ||| (nI 1 <<< (nI 5 &&& 31)) = nI (b8 b0 b1 b2 b3 b4 true b6 b7) := by decide +kernel
theorem b8_c5 : ∀ b0 b1 b2 b3 b4 b5 b6 b7 : Bool, nI (b8 b0 b1 b2 b3 b4 b5 b6 b7) &&& ((nI 1 <<< (nI 5 &&& 31)) ^^^ -1) = nI (b8 b0 b1 b2 b3 b4 false b6 b7) := by decide +kernel
theorem b8_t6 : ∀ b0 b1 b2 b3 b4 b5 b6 b7 : Bool, (nI (b8 b0 b1 b2 b3 b4 b5 b6 b7) >>> (nI 6 &&& 31)) &&& nI 1 = nI b6.toNat := by decide +kernel
theorem b8_s6 : ∀ b0 b1 b2 b3 b4 b5 b6 b7 : Bool, nI (b8 b0 b1 b2 b3 b4 b5 b6 b7) ||| (nI 1 <<< (nI 6 &&& 31)) = nI (b8 b0 b1 b2 b3 b4 b5 true b7) := by decide +kernel
theorem b8_c6 : ∀ b0 b1 b2 b3 b4 b5 b6 b7 : Bool, nI (b8 b0 b1 b2 b3 b4 b5 b6 b7) &&& ((nI 1 <<< (nI 6 &&& 31)) ^^^ -1) = nI (b8 b0 b1 b2 b3 b4 b5 false b7) := by decide +kernel
theorem b8_t7 : ∀ b0 b1 b2 b3 b4 b5 b6 b7 : Bool, (nI (b8 b0 b1 b2 b3 b4 b5 b6 b7) >>> (nI 7 &&& 31)) &&& nI 1 = nI b7.toNat := by decide +kernel
theorem b8_s7 : ∀ b0 b1 b2 b3 b4 b5 b6 b7 : Bool, nI (b8 b0 b1 b2 b3 b4 b5 b6 b7) ||| (nI 1 <<< (nI 7 &&& 31)) = nI (b8 b0 b1 b2 b3 b4 b5 b6 true) := by decide +kernel
theorem b8_c7 : ∀ b0 b1 b2 b3 b4 b5 b6 b7 : Bool, nI (b8 b0 b1 b2 b3 b4 b5 b6 b7) &&& ((nI 1 <<< (nI 7 &&& 31)) ^^^ -1) = nI (b8 b0 b1 b2 b3 b4 b5 b6 false) := by decide +kernel
theorem b8_n : ∀ b0 b1 b2 b3 b4 b5 b6 b7 : Bool, bcF (nI (b8 b0 b1 b2 b3 b4 b5 b6 b7)) = nI (b0.toNat + b1.toNat + b2.toNat + b3.toNat + b4.toNat + b5.toNat + b6.toNat + b7.toNat) := by decide +kernel
def BM (f : Nat → Int32) : Int32 := nI (b8 (decide (f 0 = nI 1)) (decide (f 1 = nI 1)) (decide (f 2 = nI 1)) (decide (f 3 = nI 1)) (decide (f 4 = nI 1)) (decide (f 5 = nI 1)) (decide (f 6 = nI 1)) (decide (f 7 = nI 1)))
theorem dB {p : Prop} [Decidable p] : nI (decide p).toNat = if p then nI 1 else nI 0 := by
  by_cases h : p <;> simp [h]
theorem BM_t (f : Nat → Int32) {c : Nat} (hc : c < 8) : (BM f >>> (nI c &&& 31)) &&& nI 1 = if f c = nI 1 then nI 1 else nI 0 := by
  unfold BM
  obtain rfl | rfl | rfl | rfl | rfl | rfl | rfl | rfl : c = 0 ∨ c = 1 ∨ c = 2 ∨ c = 3 ∨ c = 4 ∨ c = 5 ∨ c = 6 ∨ c = 7 := by omega
  · rw [b8_t0]; exact dB
  · rw [b8_t1]; exact dB
  · rw [b8_t2]; exact dB
  · rw [b8_t3]; exact dB
  · rw [b8_t4]; exact dB
  · rw [b8_t5]; exact dB
  · rw [b8_t6]; exact dB
  · rw [b8_t7]; exact dB
theorem n01 : ¬ (nI 0 : Int32) = nI 1 := by decide
theorem BM_s (f : Nat → Int32) {c : Nat} (hc : c < 8) : BM f ||| (nI 1 <<< (nI c &&& 31)) = BM (upd f c (nI 1)) := by
  unfold BM
  obtain rfl | rfl | rfl | rfl | rfl | rfl | rfl | rfl : c = 0 ∨ c = 1 ∨ c = 2 ∨ c = 3 ∨ c = 4 ∨ c = 5 ∨ c = 6 ∨ c = 7 := by omega
  · rw [b8_s0]; simp [upd]
  · rw [b8_s1]; simp [upd]
  · rw [b8_s2]; simp [upd]
  · rw [b8_s3]; simp [upd]
  · rw [b8_s4]; simp [upd]
  · rw [b8_s5]; simp [upd]
  · rw [b8_s6]; simp [upd]
  · rw [b8_s7]; simp [upd]
theorem BM_c (f : Nat → Int32) {c : Nat} (hc : c < 8) : BM f &&& ((nI 1 <<< (nI c &&& 31)) ^^^ -1) = BM (upd f c (nI 0)) := by
  unfold BM
  obtain rfl | rfl | rfl | rfl | rfl | rfl | rfl | rfl : c = 0 ∨ c = 1 ∨ c = 2 ∨ c = 3 ∨ c = 4 ∨ c = 5 ∨ c = 6 ∨ c = 7 := by omega
  · rw [b8_c0]; simp [upd, n01]
  · rw [b8_c1]; simp [upd, n01]
  · rw [b8_c2]; simp [upd, n01]
  · rw [b8_c3]; simp [upd, n01]
  · rw [b8_c4]; simp [upd, n01]
  · rw [b8_c5]; simp [upd, n01]
  · rw [b8_c6]; simp [upd, n01]
  · rw [b8_c7]; simp [upd, n01]
theorem BM_congr {f g : Nat → Int32} (h : ∀ c, c < 8 → (f c = nI 1 ↔ g c = nI 1)) : BM f = BM g := by
  unfold BM
  rw [decide_eq_decide.mpr (h 0 (by decide)), decide_eq_decide.mpr (h 1 (by decide)), decide_eq_decide.mpr (h 2 (by decide)), decide_eq_decide.mpr (h 3 (by decide)), decide_eq_decide.mpr (h 4 (by decide)), decide_eq_decide.mpr (h 5 (by decide)), decide_eq_decide.mpr (h 6 (by decide)), decide_eq_decide.mpr (h 7 (by decide))]
def cn8 (f : Nat → Int32) : Nat → Nat
  | 0 => 0
  | c + 1 => cn8 f c + (decide (f c = nI 1)).toNat
theorem BM_n (f : Nat → Int32) : bcF (BM f) = nI (cn8 f 8) := by
  unfold BM
  rw [b8_n]
  simp only [cn8, Nat.zero_add]

set_option maxHeartbeats 4000000 in
set_option maxRecDepth 100000 in
theorem c_J9_min_7cf53 (w : Wd) (v : Vm2) (a b : Int32) : CP w yJ9_min_7cf53 cJ9_min_7cf53 2 (some .int) (rm 0 0) [.int a, .int b] v (miF a b) := by
  refine CI.ofF (by decide +kernel) (Nat.le_of_ble_eq_true rfl) ?_
  refine J.iload_n 0 dJ9_min_7cf53_0 rfl rfl ?_
  refine J.iload_n 1 dJ9_min_7cf53_1 rfl rfl ?_
  refine J.icmp_gt 2 9 dJ9_min_7cf53_2 (by decide) (fun c2 => ?_) (fun c2 => ?_)
  · refine J.iload_n 9 dJ9_min_7cf53_9 rfl rfl ?_
    exact V.iret 10 dJ9_min_7cf53_10 (⟨by unfold miF; first | rw [if_pos c2] | rw [if_neg c2], rfl⟩)
  · refine J.iload_n 5 dJ9_min_7cf53_5 rfl rfl ?_
    refine J.goto 6 10 dJ9_min_7cf53_6 (by decide) ?_
    exact V.iret 10 dJ9_min_7cf53_10 (⟨by unfold miF; first | rw [if_pos c2] | rw [if_neg c2], rfl⟩)
set_option maxHeartbeats 4000000 in
set_option maxRecDepth 100000 in
theorem c_J9_max_7cf53 (w : Wd) (v : Vm2) (a b : Int32) : CP w yJ9_max_7cf53 cJ9_max_7cf53 2 (some .int) (rm 0 0) [.int a, .int b] v (maF a b) := by
  refine CI.ofF (by decide +kernel) (Nat.le_of_ble_eq_true rfl) ?_
  refine J.iload_n 0 dJ9_max_7cf53_0 rfl rfl ?_
  refine J.iload_n 1 dJ9_max_7cf53_1 rfl rfl ?_
  refine J.icmp_lt 2 9 dJ9_max_7cf53_2 (by decide) (fun c2 => ?_) (fun c2 => ?_)
  · refine J.iload_n 9 dJ9_max_7cf53_9 rfl rfl ?_
    exact V.iret 10 dJ9_max_7cf53_10 (⟨by unfold maF; first | rw [if_pos c2] | rw [if_neg c2], rfl⟩)
  · refine J.iload_n 5 dJ9_max_7cf53_5 rfl rfl ?_
    refine J.goto 6 10 dJ9_max_7cf53_6 (by decide) ?_
    exact V.iret 10 dJ9_max_7cf53_10 (⟨by unfold maF; first | rw [if_pos c2] | rw [if_neg c2], rfl⟩)
set_option maxHeartbeats 4000000 in
set_option maxRecDepth 100000 in
theorem c_J9_abs_0f7a4 (w : Wd) (v : Vm2) (a : Int32) : CP w yJ9_abs_0f7a4 cJ9_abs_0f7a4 1 (some .int) (rm 0 0) [.int a] v (abF a) := by
  refine CI.ofF (by decide +kernel) (Nat.le_of_ble_eq_true rfl) ?_
  refine J.iload_n 0 dJ9_abs_0f7a4_0 rfl rfl ?_
  refine J.if_ge 1 9 dJ9_abs_0f7a4_1 (by decide) (fun c1 => ?_) (fun c1 => ?_)
  · refine J.iload_n 9 dJ9_abs_0f7a4_9 rfl rfl ?_
    exact V.iret 10 dJ9_abs_0f7a4_10 (⟨by unfold abF; first | rw [if_pos c1] | rw [if_neg c1], rfl⟩)
  · refine J.iload_n 4 dJ9_abs_0f7a4_4 rfl rfl ?_
    refine J.ineg 5 dJ9_abs_0f7a4_5 ?_
    refine J.goto 6 10 dJ9_abs_0f7a4_6 (by decide) ?_
    exact V.iret 10 dJ9_abs_0f7a4_10 (⟨by unfold abF; first | rw [if_pos c1] | rw [if_neg c1], rfl⟩)
set_option maxHeartbeats 4000000 in
set_option maxRecDepth 100000 in
theorem c_J9_floorDiv_7cf53 (w : Wd) (v : Vm2) {a b : Int32} (hb : ¬ b = 0) : CP w yJ9_floorDiv_7cf53 cJ9_floorDiv_7cf53 3 (some .int) (rm 0 0) [.int a, .int b] v (fdF a b) := by
  refine CI.ofF (by decide +kernel) (Nat.le_of_ble_eq_true rfl) ?_
  refine J.iload_n 0 dJ9_floorDiv_7cf53_0 rfl rfl ?_
  refine J.iload_n 1 dJ9_floorDiv_7cf53_1 rfl rfl ?_
  refine J.idiv 2 dJ9_floorDiv_7cf53_2 (hb) ?_
  refine J.istore_n 3 dJ9_floorDiv_7cf53_3 rfl (by decide) ?_
  refine J.iload_n 4 dJ9_floorDiv_7cf53_4 rfl rfl ?_
  refine J.iload_n 5 dJ9_floorDiv_7cf53_5 rfl rfl ?_
  refine J.ixor 6 dJ9_floorDiv_7cf53_6 ?_
  refine J.if_ge 7 21 dJ9_floorDiv_7cf53_7 (by decide) (fun c7 => ?_) (fun c7 => ?_)
  · refine J.iload_n 21 dJ9_floorDiv_7cf53_21 rfl rfl ?_
    exact V.iret 22 dJ9_floorDiv_7cf53_22 (⟨by unfold fdF; first | exact (if_pos ⟨Int32.not_le.mp c7, c14⟩).symm | exact (if_neg (fun z => absurd c7 (Int32.not_le.mpr z.1))).symm | exact (if_neg (fun z => z.2 c14)).symm, rfl⟩)
  · refine J.iload_n 10 dJ9_floorDiv_7cf53_10 rfl rfl ?_
    refine J.iload_n 11 dJ9_floorDiv_7cf53_11 rfl rfl ?_
    refine J.imul 12 dJ9_floorDiv_7cf53_12 ?_
    refine J.iload_n 13 dJ9_floorDiv_7cf53_13 rfl rfl ?_
    refine J.icmp_eq 14 21 dJ9_floorDiv_7cf53_14 (by decide) (fun c14 => ?_) (fun c14 => ?_)
    · refine J.iload_n 21 dJ9_floorDiv_7cf53_21 rfl rfl ?_
      exact V.iret 22 dJ9_floorDiv_7cf53_22 (⟨by unfold fdF; first | exact (if_pos ⟨Int32.not_le.mp c7, c14⟩).symm | exact (if_neg (fun z => absurd c7 (Int32.not_le.mpr z.1))).symm | exact (if_neg (fun z => z.2 c14)).symm, rfl⟩)
    · refine J.iload_n 17 dJ9_floorDiv_7cf53_17 rfl rfl ?_
      refine J.iconst 18 (nI 1) dJ9_floorDiv_7cf53_18 (by decide +kernel) ?_
      refine J.isub 19 dJ9_floorDiv_7cf53_19 ?_
      exact V.iret 20 dJ9_floorDiv_7cf53_20 (⟨by unfold fdF; first | exact (if_pos ⟨Int32.not_le.mp c7, c14⟩).symm | exact (if_neg (fun z => absurd c7 (Int32.not_le.mpr z.1))).symm | exact (if_neg (fun z => z.2 c14)).symm, rfl⟩)
set_option maxHeartbeats 4000000 in
set_option maxRecDepth 100000 in
theorem c_J9_floorMod_7cf53 (w : Wd) (v : Vm2) {a b : Int32} (hb : ¬ b = 0) : CP w yJ9_floorMod_7cf53 cJ9_floorMod_7cf53 3 (some .int) (rm 0 0) [.int a, .int b] v (fmF a b) := by
  refine CI.ofF (by decide +kernel) (Nat.le_of_ble_eq_true rfl) ?_
  refine J.iload_n 0 dJ9_floorMod_7cf53_0 rfl rfl ?_
  refine J.iload_n 1 dJ9_floorMod_7cf53_1 rfl rfl ?_
  refine J.irem 2 dJ9_floorMod_7cf53_2 (hb) ?_
  refine J.istore_n 3 dJ9_floorMod_7cf53_3 rfl (by decide) ?_
  refine J.iload_n 4 dJ9_floorMod_7cf53_4 rfl rfl ?_
  refine J.iload_n 5 dJ9_floorMod_7cf53_5 rfl rfl ?_
  refine J.ixor 6 dJ9_floorMod_7cf53_6 ?_
  refine J.if_ge 7 18 dJ9_floorMod_7cf53_7 (by decide) (fun c7 => ?_) (fun c7 => ?_)
  · refine J.iload_n 18 dJ9_floorMod_7cf53_18 rfl rfl ?_
    exact V.iret 19 dJ9_floorMod_7cf53_19 (⟨by unfold fmF; first | exact (if_pos ⟨Int32.not_le.mp c7, c11⟩).symm | exact (if_neg (fun z => absurd c7 (Int32.not_le.mpr z.1))).symm | exact (if_neg (fun z => z.2 c11)).symm, rfl⟩)
  · refine J.iload_n 10 dJ9_floorMod_7cf53_10 rfl rfl ?_
    refine J.if_eq 11 18 dJ9_floorMod_7cf53_11 (by decide) (fun c11 => ?_) (fun c11 => ?_)
    · refine J.iload_n 18 dJ9_floorMod_7cf53_18 rfl rfl ?_
      exact V.iret 19 dJ9_floorMod_7cf53_19 (⟨by unfold fmF; first | exact (if_pos ⟨Int32.not_le.mp c7, c11⟩).symm | exact (if_neg (fun z => absurd c7 (Int32.not_le.mpr z.1))).symm | exact (if_neg (fun z => z.2 c11)).symm, rfl⟩)
    · refine J.iload_n 14 dJ9_floorMod_7cf53_14 rfl rfl ?_
      refine J.iload_n 15 dJ9_floorMod_7cf53_15 rfl rfl ?_
      refine J.iadd 16 dJ9_floorMod_7cf53_16 ?_
      exact V.iret 17 dJ9_floorMod_7cf53_17 (⟨by unfold fmF; first | exact (if_pos ⟨Int32.not_le.mp c7, c11⟩).symm | exact (if_neg (fun z => absurd c7 (Int32.not_le.mpr z.1))).symm | exact (if_neg (fun z => z.2 c11)).symm, rfl⟩)
set_option maxHeartbeats 4000000 in
set_option maxRecDepth 100000 in
theorem c_J6_bitCount_0f7a4 (w : Wd) (v : Vm2) (a : Int32) : CP w yJ6_bitCount_0f7a4 cJ6_bitCount_0f7a4 1 (some .int) (rm 0 0) [.int a] v (bcF a) := by
  refine CI.ofF (by decide +kernel) (Nat.le_of_ble_eq_true rfl) ?_
  refine J.iload_n 0 dJ6_bitCount_0f7a4_0 rfl rfl ?_
  refine J.iload_n 1 dJ6_bitCount_0f7a4_1 rfl rfl ?_
  refine J.iconst 2 (nI 1) dJ6_bitCount_0f7a4_2 (by decide +kernel) ?_
  refine J.iushr 3 dJ6_bitCount_0f7a4_3 ?_
  refine J.ldcw 4 (1431655765) dJ6_bitCount_0f7a4_4 kc_RJ6_265 ?_
  refine J.iand 7 dJ6_bitCount_0f7a4_7 ?_
  refine J.isub 8 dJ6_bitCount_0f7a4_8 ?_
  refine J.istore_n 9 dJ6_bitCount_0f7a4_9 rfl (by decide) ?_
  refine J.iload_n 10 dJ6_bitCount_0f7a4_10 rfl rfl ?_
  refine J.ldcw 11 (858993459) dJ6_bitCount_0f7a4_11 kc_RJ6_266 ?_
  refine J.iand 14 dJ6_bitCount_0f7a4_14 ?_
  refine J.iload_n 15 dJ6_bitCount_0f7a4_15 rfl rfl ?_
  refine J.iconst 16 (nI 2) dJ6_bitCount_0f7a4_16 (by decide +kernel) ?_
  refine J.iushr 17 dJ6_bitCount_0f7a4_17 ?_
  refine J.ldcw 18 (858993459) dJ6_bitCount_0f7a4_18 kc_RJ6_266 ?_
  refine J.iand 21 dJ6_bitCount_0f7a4_21 ?_
  refine J.iadd 22 dJ6_bitCount_0f7a4_22 ?_
  refine J.istore_n 23 dJ6_bitCount_0f7a4_23 rfl (by decide) ?_
  refine J.iload_n 24 dJ6_bitCount_0f7a4_24 rfl rfl ?_
  refine J.iload_n 25 dJ6_bitCount_0f7a4_25 rfl rfl ?_
  refine J.iconst 26 (nI 4) dJ6_bitCount_0f7a4_26 (by decide +kernel) ?_
  refine J.iushr 27 dJ6_bitCount_0f7a4_27 ?_
  refine J.iadd 28 dJ6_bitCount_0f7a4_28 ?_
  refine J.ldcw 29 (252645135) dJ6_bitCount_0f7a4_29 kc_RJ6_267 ?_
  refine J.iand 32 dJ6_bitCount_0f7a4_32 ?_
  refine J.istore_n 33 dJ6_bitCount_0f7a4_33 rfl (by decide) ?_
  refine J.iload_n 34 dJ6_bitCount_0f7a4_34 rfl rfl ?_
  refine J.iload_n 35 dJ6_bitCount_0f7a4_35 rfl rfl ?_
  refine J.bipush 36 (nI 8) dJ6_bitCount_0f7a4_36 (by decide +kernel) ?_
  refine J.iushr 38 dJ6_bitCount_0f7a4_38 ?_
  refine J.iadd 39 dJ6_bitCount_0f7a4_39 ?_
  refine J.istore_n 40 dJ6_bitCount_0f7a4_40 rfl (by decide) ?_
  refine J.iload_n 41 dJ6_bitCount_0f7a4_41 rfl rfl ?_
  refine J.iload_n 42 dJ6_bitCount_0f7a4_42 rfl rfl ?_
  refine J.bipush 43 (nI 16) dJ6_bitCount_0f7a4_43 (by decide +kernel) ?_
  refine J.iushr 45 dJ6_bitCount_0f7a4_45 ?_
  refine J.iadd 46 dJ6_bitCount_0f7a4_46 ?_
  refine J.istore_n 47 dJ6_bitCount_0f7a4_47 rfl (by decide) ?_
  refine J.iload_n 48 dJ6_bitCount_0f7a4_48 rfl rfl ?_
  refine J.bipush 49 (nI 63) dJ6_bitCount_0f7a4_49 (by decide +kernel) ?_
  refine J.iand 51 dJ6_bitCount_0f7a4_51 ?_
  exact V.iret 52 dJ6_bitCount_0f7a4_52 (⟨rfl, rfl⟩)
def fiK (v : Vm2) (k : Nat) (x : Int32) (n : Nat) : Vm2 := fun a b => if a = k ∧ b < n then x else v a b
theorem fiK_0 (v : Vm2) (k : Nat) (x : Int32) : v = fiK v k x 0 := by
  funext a b
  unfold fiK
  rw [if_neg (by omega)]
theorem fiK_s (v : Vm2) (k : Nat) (x : Int32) (n : Nat) : up2 (fiK v k x n) k n x = fiK v k x (n + 1) := by
  funext a b
  unfold up2 fiK
  by_cases h : a = k ∧ b = n
  · rw [if_pos h, if_pos (by omega)]
  · rw [if_neg h]
    by_cases h2 : a = k ∧ b < n
    · rw [if_pos h2, if_pos (by omega)]
    · rw [if_neg h2, if_neg (by omega)]
set_option maxHeartbeats 4000000 in
set_option maxRecDepth 100000 in
theorem c_J7_fill_53178 (w : Wd) (v : Vm2) {k N : Nat} {x : Int32} (hk : isIA k N) : CU w yJ7_fill_53178 cJ7_fill_53178 4 (rm 0 0) [.ref (wN w + k), .int x] v (fun v' => v' = fiK v k x N) := by
  refine CU.ofF (by decide +kernel) (Nat.le_of_ble_eq_true rfl) ?_
  have hN := hk.2.2
  have lp : ∀ (m : Nat) (i : Nat), (i ≤ N) → N - i < m → J w yJ7_fill_53178 cJ7_fill_53178 4 none (rm 0 0) XT (ZJ w 185 0 0 (PU w (fun v' => v' = fiK v k x N))) 5 [(0, .ref (wN w + k)), (1, .int x), (2, .int (nI i)), (3, .int (nI N))] [] 185 (hv w (fiK v k x i)) 0 0 := by
    intro m
    induction m with
    | zero =>
      intro i hi0 hm
      exact absurd hm (by omega)
    | succ m ih =>
      intro i hi0 hm
      refine J.iload_n 5 dJ7_fill_53178_5 rfl rfl ?_
      refine J.iload_n 6 dJ7_fill_53178_6 rfl rfl ?_
      refine V.icmp_ge 7 20 dJ7_fill_53178_7 (by decide) (by omega) (by omega) (fun c7 => ?_) (fun c7 => ?_)
      · obtain rfl : i = N := by omega
        exact V.vret 20 dJ7_fill_53178_20 (rfl)
      · refine J.aload_n 10 dJ7_fill_53178_10 rfl rfl ?_
        refine J.iload_n 11 dJ7_fill_53178_11 rfl rfl ?_
        refine J.iload_n 12 dJ7_fill_53178_12 rfl rfl ?_
        refine V.iast 13 dJ7_fill_53178_13 hk (by omega) ?_
        rw [fiK_s]
        refine V.iinc 14 dJ7_fill_53178_14 rfl (by decide) ?_
        refine J.goto 17 5 dJ7_fill_53178_17 (by decide) ?_
        exact ih (i + 1) (by omega) (by omega)
  refine J.iconst 0 (nI 0) dJ7_fill_53178_0 (by decide +kernel) ?_
  refine J.istore_n 1 dJ7_fill_53178_1 rfl (by decide) ?_
  refine J.aload_n 2 dJ7_fill_53178_2 rfl rfl ?_
  refine V.alen 3 dJ7_fill_53178_3 hk ?_
  refine J.istore_n 4 dJ7_fill_53178_4 rfl (by decide) ?_
  refine V.heapv (fiK_0 v k x) ?_
  exact lp (N + 1) 0 (by omega) (by omega)
