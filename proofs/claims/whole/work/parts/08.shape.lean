theorem o_0 : isO 0 7 := ⟨by decide +kernel, by decide +kernel⟩
theorem r_0_0 : isRF 0 7 0 1 := ⟨by decide +kernel, by decide +kernel⟩
theorem r_0_1 : isRF 0 7 1 9 := ⟨by decide +kernel, by decide +kernel⟩
theorem r_0_2 : isRF 0 7 2 17 := ⟨by decide +kernel, by decide +kernel⟩
theorem r_0_3 : isRF 0 7 3 19 := ⟨by decide +kernel, by decide +kernel⟩
theorem r_0_4 : isRF 0 7 4 25 := ⟨by decide +kernel, by decide +kernel⟩
theorem r_0_5 : isRF 0 7 5 155 := ⟨by decide +kernel, by decide +kernel⟩
theorem r_0_6 : isRF 0 7 6 158 := ⟨by decide +kernel, by decide +kernel⟩
theorem r_0_7 : isRF 0 7 7 159 := ⟨by decide +kernel, by decide +kernel⟩
theorem r_0_8 : isRF 0 7 8 176 := ⟨by decide +kernel, by decide +kernel⟩
theorem r_0_9 : isRF 0 7 9 177 := ⟨by decide +kernel, by decide +kernel⟩
theorem o_17 : isO 17 6 := ⟨by decide +kernel, by decide +kernel⟩
theorem r_17_0 : isRF 17 6 0 18 := ⟨by decide +kernel, by decide +kernel⟩
theorem i_17_1 : isIF 17 6 1 := ⟨by decide +kernel, by decide +kernel⟩
theorem i_17_2 : isIF 17 6 2 := ⟨by decide +kernel, by decide +kernel⟩
theorem i_17_3 : isIF 17 6 3 := ⟨by decide +kernel, by decide +kernel⟩
theorem i_17_4 : isIF 17 6 4 := ⟨by decide +kernel, by decide +kernel⟩
theorem i_17_5 : isIF 17 6 5 := ⟨by decide +kernel, by decide +kernel⟩
theorem i_17_6 : isIF 17 6 6 := ⟨by decide +kernel, by decide +kernel⟩
theorem i_17_7 : isIF 17 6 7 := ⟨by decide +kernel, by decide +kernel⟩
theorem a_18 : isIA 18 200 := ⟨by decide +kernel, by decide +kernel, by decide +kernel⟩
theorem o_19 : isO 19 1 := ⟨by decide +kernel, by decide +kernel⟩
theorem r_19_0 : isRF 19 1 0 20 := ⟨by decide +kernel, by decide +kernel⟩
theorem r_19_1 : isRF 19 1 1 22 := ⟨by decide +kernel, by decide +kernel⟩
theorem r_19_2 : isRF 19 1 2 23 := ⟨by decide +kernel, by decide +kernel⟩
theorem r_19_3 : isRF 19 1 3 24 := ⟨by decide +kernel, by decide +kernel⟩
theorem o_20 : isO 20 3 := ⟨by decide +kernel, by decide +kernel⟩
theorem r_20_0 : isRF 20 3 0 21 := ⟨by decide +kernel, by decide +kernel⟩
theorem i_20_1 : isIF 20 3 1 := ⟨by decide +kernel, by decide +kernel⟩
theorem a_21 : isIA 21 8 := ⟨by decide +kernel, by decide +kernel, by decide +kernel⟩
theorem a_22 : isIA 22 8 := ⟨by decide +kernel, by decide +kernel, by decide +kernel⟩
theorem a_23 : isIA 23 8 := ⟨by decide +kernel, by decide +kernel, by decide +kernel⟩
theorem a_24 : isIA 24 8 := ⟨by decide +kernel, by decide +kernel, by decide +kernel⟩
theorem o_25 : isO 25 4 := ⟨by decide +kernel, by decide +kernel⟩
theorem r_25_0 : isRF 25 4 0 26 := ⟨by decide +kernel, by decide +kernel⟩
theorem i_25_1 : isIF 25 4 1 := ⟨by decide +kernel, by decide +kernel⟩
theorem i_25_2 : isIF 25 4 2 := ⟨by decide +kernel, by decide +kernel⟩
theorem a_26 : isQA 26 [27, 35, 43, 51, 59, 67, 75, 83, 91, 99, 107, 115, 123, 131, 139, 147] := ⟨by decide +kernel, by decide +kernel, by decide +kernel⟩
theorem o_155 : isO 155 0 := ⟨by decide +kernel, by decide +kernel⟩
theorem r_155_0 : isRF 155 0 0 156 := ⟨by decide +kernel, by decide +kernel⟩
theorem r_155_1 : isRF 155 0 1 157 := ⟨by decide +kernel, by decide +kernel⟩
theorem i_155_2 : isIF 155 0 2 := ⟨by decide +kernel, by decide +kernel⟩
theorem a_156 : isIA 156 20 := ⟨by decide +kernel, by decide +kernel, by decide +kernel⟩
theorem a_157 : isIA 157 20 := ⟨by decide +kernel, by decide +kernel, by decide +kernel⟩
theorem o_158 : isO 158 2 := ⟨by decide +kernel, by decide +kernel⟩
theorem i_158_0 : isIF 158 2 0 := ⟨by decide +kernel, by decide +kernel⟩
theorem a_159 : isQA 159 [160, 168] := ⟨by decide +kernel, by decide +kernel, by decide +kernel⟩
theorem a_176 : isIA 176 2 := ⟨by decide +kernel, by decide +kernel, by decide +kernel⟩
theorem a_177 : isZA 177 2 := ⟨by decide +kernel, by decide +kernel, by decide +kernel⟩
theorem o_178 : isO 178 8 := ⟨by decide +kernel, by decide +kernel⟩
theorem r_178_0 : isRF 178 8 0 179 := ⟨by decide +kernel, by decide +kernel⟩
theorem i_178_1 : isIF 178 8 1 := ⟨by decide +kernel, by decide +kernel⟩
theorem i_178_2 : isIF 178 8 2 := ⟨by decide +kernel, by decide +kernel⟩
theorem r_178_3 : isRF 178 8 3 180 := ⟨by decide +kernel, by decide +kernel⟩
theorem i_178_4 : isIF 178 8 4 := ⟨by decide +kernel, by decide +kernel⟩
theorem i_178_5 : isIF 178 8 5 := ⟨by decide +kernel, by decide +kernel⟩
theorem r_178_6 : isRF 178 8 6 181 := ⟨by decide +kernel, by decide +kernel⟩
theorem r_178_7 : isRF 178 8 7 182 := ⟨by decide +kernel, by decide +kernel⟩
theorem i_178_8 : isIF 178 8 8 := ⟨by decide +kernel, by decide +kernel⟩
theorem r_178_9 : isRF 178 8 9 183 := ⟨by decide +kernel, by decide +kernel⟩
theorem r_178_10 : isRF 178 8 10 184 := ⟨by decide +kernel, by decide +kernel⟩
theorem i_178_11 : isIF 178 8 11 := ⟨by decide +kernel, by decide +kernel⟩
theorem i_178_12 : isIF 178 8 12 := ⟨by decide +kernel, by decide +kernel⟩
theorem i_178_13 : isIF 178 8 13 := ⟨by decide +kernel, by decide +kernel⟩
theorem i_178_14 : isIF 178 8 14 := ⟨by decide +kernel, by decide +kernel⟩
theorem i_178_15 : isIF 178 8 15 := ⟨by decide +kernel, by decide +kernel⟩
theorem i_178_16 : isIF 178 8 16 := ⟨by decide +kernel, by decide +kernel⟩
theorem a_179 : isIA 179 3840 := ⟨by decide +kernel, by decide +kernel, by decide +kernel⟩
theorem a_180 : isIA 180 200 := ⟨by decide +kernel, by decide +kernel, by decide +kernel⟩
theorem a_181 : isIA 181 20 := ⟨by decide +kernel, by decide +kernel, by decide +kernel⟩
theorem a_182 : isIA 182 20 := ⟨by decide +kernel, by decide +kernel, by decide +kernel⟩
theorem a_183 : isIA 183 8 := ⟨by decide +kernel, by decide +kernel, by decide +kernel⟩
theorem a_184 : isIA 184 8 := ⟨by decide +kernel, by decide +kernel, by decide +kernel⟩
/-- a State stands at q, its rows behind it -/
def IsS (q : Nat) : Prop := q + 8 ≤ 178 ∧ lay q = .inl (5, stF q) ∧ lay (q + 1) = .inr (.inl 8) ∧ lay (q + 2) = .inr (.inl 8) ∧ lay (q + 3) = .inr (.inl 8) ∧ lay (q + 4) = .inr (.inl 64) ∧ lay (q + 5) = .inr (.inl 64) ∧ lay (q + 6) = .inr (.inl 6) ∧ lay (q + 7) = .inr (.inl 6)
section ISS
theorem IsS.le {q : Nat} (h : IsS q) : q + 8 ≤ 178 := h.1
theorem IsS.o {q : Nat} (h : IsS q) : isO q 5 := ⟨by have := h.1; omega, by rw [h.2.1]; rfl⟩
theorem IsS.i0 {q : Nat} (h : IsS q) : isIF q 5 0 := ⟨by have := h.1; omega, by rw [h.2.1]; rfl⟩
theorem IsS.i1 {q : Nat} (h : IsS q) : isIF q 5 1 := ⟨by have := h.1; omega, by rw [h.2.1]; rfl⟩
theorem IsS.i2 {q : Nat} (h : IsS q) : isIF q 5 2 := ⟨by have := h.1; omega, by rw [h.2.1]; rfl⟩
theorem IsS.i3 {q : Nat} (h : IsS q) : isIF q 5 3 := ⟨by have := h.1; omega, by rw [h.2.1]; rfl⟩
theorem IsS.i4 {q : Nat} (h : IsS q) : isIF q 5 4 := ⟨by have := h.1; omega, by rw [h.2.1]; rfl⟩
theorem IsS.i5 {q : Nat} (h : IsS q) : isIF q 5 5 := ⟨by have := h.1; omega, by rw [h.2.1]; rfl⟩
theorem IsS.i6 {q : Nat} (h : IsS q) : isIF q 5 6 := ⟨by have := h.1; omega, by rw [h.2.1]; rfl⟩
theorem IsS.i7 {q : Nat} (h : IsS q) : isIF q 5 7 := ⟨by have := h.1; omega, by rw [h.2.1]; rfl⟩
theorem IsS.r8 {q : Nat} (h : IsS q) : isRF q 5 8 (q + 1) := ⟨by have := h.1; omega, by rw [h.2.1]; rfl⟩
theorem IsS.r9 {q : Nat} (h : IsS q) : isRF q 5 9 (q + 2) := ⟨by have := h.1; omega, by rw [h.2.1]; rfl⟩
theorem IsS.r10 {q : Nat} (h : IsS q) : isRF q 5 10 (q + 3) := ⟨by have := h.1; omega, by rw [h.2.1]; rfl⟩
theorem IsS.r11 {q : Nat} (h : IsS q) : isRF q 5 11 (q + 4) := ⟨by have := h.1; omega, by rw [h.2.1]; rfl⟩
theorem IsS.r12 {q : Nat} (h : IsS q) : isRF q 5 12 (q + 5) := ⟨by have := h.1; omega, by rw [h.2.1]; rfl⟩
theorem IsS.r13 {q : Nat} (h : IsS q) : isRF q 5 13 (q + 6) := ⟨by have := h.1; omega, by rw [h.2.1]; rfl⟩
theorem IsS.r14 {q : Nat} (h : IsS q) : isRF q 5 14 (q + 7) := ⟨by have := h.1; omega, by rw [h.2.1]; rfl⟩
theorem IsS.a8 {q : Nat} (h : IsS q) : isIA (q + 1) 8 := ⟨by have := h.1; omega, h.2.2.1, by decide⟩
theorem IsS.a9 {q : Nat} (h : IsS q) : isIA (q + 2) 8 := ⟨by have := h.1; omega, h.2.2.2.1, by decide⟩
theorem IsS.a10 {q : Nat} (h : IsS q) : isIA (q + 3) 8 := ⟨by have := h.1; omega, h.2.2.2.2.1, by decide⟩
theorem IsS.a11 {q : Nat} (h : IsS q) : isIA (q + 4) 64 := ⟨by have := h.1; omega, h.2.2.2.2.2.1, by decide⟩
theorem IsS.a12 {q : Nat} (h : IsS q) : isIA (q + 5) 64 := ⟨by have := h.1; omega, h.2.2.2.2.2.2.1, by decide⟩
theorem IsS.a13 {q : Nat} (h : IsS q) : isIA (q + 6) 6 := ⟨by have := h.1; omega, h.2.2.2.2.2.2.2.1, by decide⟩
theorem IsS.a14 {q : Nat} (h : IsS q) : isIA (q + 7) 6 := ⟨by have := h.1; omega, h.2.2.2.2.2.2.2.2, by decide⟩
end ISS
theorem isS_1 : IsS 1 := ⟨by decide +kernel, by decide +kernel, by decide +kernel, by decide +kernel, by decide +kernel, by decide +kernel, by decide +kernel, by decide +kernel, by decide +kernel⟩
theorem isS_9 : IsS 9 := ⟨by decide +kernel, by decide +kernel, by decide +kernel, by decide +kernel, by decide +kernel, by decide +kernel, by decide +kernel, by decide +kernel, by decide +kernel⟩
theorem isS_160 : IsS 160 := ⟨by decide +kernel, by decide +kernel, by decide +kernel, by decide +kernel, by decide +kernel, by decide +kernel, by decide +kernel, by decide +kernel, by decide +kernel⟩
theorem isS_168 : IsS 168 := ⟨by decide +kernel, by decide +kernel, by decide +kernel, by decide +kernel, by decide +kernel, by decide +kernel, by decide +kernel, by decide +kernel, by decide +kernel⟩
theorem isS_h : ∀ i, i < 16 → IsS (27 + 8 * i) := by
  intro i hi
  have h0 : ∀ i : Fin 16, lay (27 + 8 * i.val) = .inl (5, stF (27 + 8 * i.val)) := by decide +kernel
  have h1 : ∀ i : Fin 16, lay (27 + 8 * i.val + 1) = .inr (.inl 8) := by decide +kernel
  have h2 : ∀ i : Fin 16, lay (27 + 8 * i.val + 2) = .inr (.inl 8) := by decide +kernel
  have h3 : ∀ i : Fin 16, lay (27 + 8 * i.val + 3) = .inr (.inl 8) := by decide +kernel
  have h4 : ∀ i : Fin 16, lay (27 + 8 * i.val + 4) = .inr (.inl 64) := by decide +kernel
  have h5 : ∀ i : Fin 16, lay (27 + 8 * i.val + 5) = .inr (.inl 64) := by decide +kernel
  have h6 : ∀ i : Fin 16, lay (27 + 8 * i.val + 6) = .inr (.inl 6) := by decide +kernel
  have h7 : ∀ i : Fin 16, lay (27 + 8 * i.val + 7) = .inr (.inl 6) := by decide +kernel
  exact ⟨by omega, h0 ⟨i, hi⟩, h1 ⟨i, hi⟩, h2 ⟨i, hi⟩, h3 ⟨i, hi⟩, h4 ⟨i, hi⟩, h5 ⟨i, hi⟩, h6 ⟨i, hi⟩, h7 ⟨i, hi⟩⟩
/-! truth as an int -/
def bI (p : Prop) [Decidable p] : Int32 := if p then nI 1 else nI 0
theorem bI_t {p : Prop} [Decidable p] (h : p) : nI 1 = bI p := by simp [bI, h]
theorem bI_f {p : Prop} [Decidable p] (h : ¬ p) : nI 0 = bI p := by simp [bI, h]
theorem bI_0 {p : Prop} [Decidable p] (h : bI p = 0) : ¬ p := fun hp => by rw [← bI_t hp] at h; exact absurd h (by decide)
theorem bI_n {p : Prop} [Decidable p] (h : ¬ bI p = 0) : p := by
  rcases Decidable.em p with hp | hp
  · exact hp
  · exact absurd (bI_f hp).symm h
theorem bI_01 (p : Prop) [Decidable p] : bI p = 0 ∨ bI p = 1 := by
  unfold bI
  split
  · exact Or.inr rfl
  · exact Or.inl rfl
section VB
variable {w : Wd} {y : MethodName} {cc : ByteArray} {mL : Nat} {rt : Option FieldType} {R : Room} {X : Array Value → State → Prop} {Qf : List Frame → Array Value → State → State → Prop} {L : List (Nat × Value)} {S : List Value} {n : Nat} {h : Nat → va_E} {ca sl : Nat}
theorem V.if_eqB (pc tgt : Nat) {o : Int} {p : Prop} [Decidable p] (hd : decode cc pc = .ok (.ifCond .eq o, 3)) (ht : (pc : Int) + o = (tgt : Int)) (kt : ¬ p → J w y cc mL rt R X Qf tgt L S n h ca sl) (kf : p → J w y cc mL rt R X Qf (pc + 3) L S n h ca sl) : J w y cc mL rt R X Qf pc L (.int (bI p) :: S) n h ca sl := J.if_eq pc tgt hd ht (fun c => kt (bI_0 c)) (fun c => kf (bI_n c))
theorem V.if_neB (pc tgt : Nat) {o : Int} {p : Prop} [Decidable p] (hd : decode cc pc = .ok (.ifCond .ne o, 3)) (ht : (pc : Int) + o = (tgt : Int)) (kt : p → J w y cc mL rt R X Qf tgt L S n h ca sl) (kf : ¬ p → J w y cc mL rt R X Qf (pc + 3) L S n h ca sl) : J w y cc mL rt R X Qf pc L (.int (bI p) :: S) n h ca sl := J.if_ne pc tgt hd ht (fun c => kt (bI_n c)) (fun c => kf (bI_0 c))
theorem V.icmp_eq (pc tgt : Nat) {o : Int} {a b : Nat} (hd : decode cc pc = .ok (.if_icmp .eq o, 3)) (ht : (pc : Int) + o = (tgt : Int)) (ha : a < 2 ^ 31) (hb : b < 2 ^ 31) (kt : a = b → J w y cc mL rt R X Qf tgt L S n h ca sl) (kf : a ≠ b → J w y cc mL rt R X Qf (pc + 3) L S n h ca sl) : J w y cc mL rt R X Qf pc L (.int (nI b) :: .int (nI a) :: S) n h ca sl := J.icmp_eq pc tgt hd ht (fun c => kt ((nI_eq ha hb).mp c)) (fun c => kf (fun e => c ((nI_eq ha hb).mpr e)))
theorem V.if_eq (pc tgt : Nat) {o : Int} {a : Nat} (hd : decode cc pc = .ok (.ifCond .eq o, 3)) (ht : (pc : Int) + o = (tgt : Int)) (ha : a < 2 ^ 31) (kt : a = 0 → J w y cc mL rt R X Qf tgt L S n h ca sl) (kf : a ≠ 0 → J w y cc mL rt R X Qf (pc + 3) L S n h ca sl) : J w y cc mL rt R X Qf pc L (.int (nI a) :: S) n h ca sl := J.if_eq pc tgt hd ht (fun c => kt ((nI_eq ha (by decide : 0 < 2 ^ 31)).mp c)) (fun c => kf (fun e => c ((nI_eq ha (by decide : 0 < 2 ^ 31)).mpr e)))
theorem V.icmp_ne (pc tgt : Nat) {o : Int} {a b : Nat} (hd : decode cc pc = .ok (.if_icmp .ne o, 3)) (ht : (pc : Int) + o = (tgt : Int)) (ha : a < 2 ^ 31) (hb : b < 2 ^ 31) (kt : a ≠ b → J w y cc mL rt R X Qf tgt L S n h ca sl) (kf : a = b → J w y cc mL rt R X Qf (pc + 3) L S n h ca sl) : J w y cc mL rt R X Qf pc L (.int (nI b) :: .int (nI a) :: S) n h ca sl := J.icmp_ne pc tgt hd ht (fun c => kt (fun e => c ((nI_eq ha hb).mpr e))) (fun c => kf ((nI_eq ha hb).mp c))
theorem V.if_ne (pc tgt : Nat) {o : Int} {a : Nat} (hd : decode cc pc = .ok (.ifCond .ne o, 3)) (ht : (pc : Int) + o = (tgt : Int)) (ha : a < 2 ^ 31) (kt : a ≠ 0 → J w y cc mL rt R X Qf tgt L S n h ca sl) (kf : a = 0 → J w y cc mL rt R X Qf (pc + 3) L S n h ca sl) : J w y cc mL rt R X Qf pc L (.int (nI a) :: S) n h ca sl := J.if_ne pc tgt hd ht (fun c => kt (fun e => c ((nI_eq ha (by decide : 0 < 2 ^ 31)).mpr e))) (fun c => kf ((nI_eq ha (by decide : 0 < 2 ^ 31)).mp c))
theorem V.icmp_lt (pc tgt : Nat) {o : Int} {a b : Nat} (hd : decode cc pc = .ok (.if_icmp .lt o, 3)) (ht : (pc : Int) + o = (tgt : Int)) (ha : a < 2 ^ 31) (hb : b < 2 ^ 31) (kt : a < b → J w y cc mL rt R X Qf tgt L S n h ca sl) (kf : b ≤ a → J w y cc mL rt R X Qf (pc + 3) L S n h ca sl) : J w y cc mL rt R X Qf pc L (.int (nI b) :: .int (nI a) :: S) n h ca sl := J.icmp_lt pc tgt hd ht (fun c => kt ((nI_ltI ha hb).mp c)) (fun c => kf (Nat.not_lt.mp (fun e => c ((nI_ltI ha hb).mpr e))))
theorem V.if_lt (pc tgt : Nat) {o : Int} {a : Nat} (hd : decode cc pc = .ok (.ifCond .lt o, 3)) (ht : (pc : Int) + o = (tgt : Int)) (ha : a < 2 ^ 31) (kt : a < 0 → J w y cc mL rt R X Qf tgt L S n h ca sl) (kf : 0 ≤ a → J w y cc mL rt R X Qf (pc + 3) L S n h ca sl) : J w y cc mL rt R X Qf pc L (.int (nI a) :: S) n h ca sl := J.if_lt pc tgt hd ht (fun c => kt ((nI_ltI ha (by decide : 0 < 2 ^ 31)).mp c)) (fun c => kf (Nat.not_lt.mp (fun e => c ((nI_ltI ha (by decide : 0 < 2 ^ 31)).mpr e))))
theorem V.icmp_ge (pc tgt : Nat) {o : Int} {a b : Nat} (hd : decode cc pc = .ok (.if_icmp .ge o, 3)) (ht : (pc : Int) + o = (tgt : Int)) (ha : a < 2 ^ 31) (hb : b < 2 ^ 31) (kt : b ≤ a → J w y cc mL rt R X Qf tgt L S n h ca sl) (kf : a < b → J w y cc mL rt R X Qf (pc + 3) L S n h ca sl) : J w y cc mL rt R X Qf pc L (.int (nI b) :: .int (nI a) :: S) n h ca sl := J.icmp_ge pc tgt hd ht (fun c => kt ((nI_leI hb ha).mp c)) (fun c => kf (Nat.not_le.mp (fun e => c ((nI_leI hb ha).mpr e))))
theorem V.if_ge (pc tgt : Nat) {o : Int} {a : Nat} (hd : decode cc pc = .ok (.ifCond .ge o, 3)) (ht : (pc : Int) + o = (tgt : Int)) (ha : a < 2 ^ 31) (kt : 0 ≤ a → J w y cc mL rt R X Qf tgt L S n h ca sl) (kf : a < 0 → J w y cc mL rt R X Qf (pc + 3) L S n h ca sl) : J w y cc mL rt R X Qf pc L (.int (nI a) :: S) n h ca sl := J.if_ge pc tgt hd ht (fun c => kt ((nI_leI (by decide : 0 < 2 ^ 31) ha).mp c)) (fun c => kf (Nat.not_le.mp (fun e => c ((nI_leI (by decide : 0 < 2 ^ 31) ha).mpr e))))
theorem V.icmp_gt (pc tgt : Nat) {o : Int} {a b : Nat} (hd : decode cc pc = .ok (.if_icmp .gt o, 3)) (ht : (pc : Int) + o = (tgt : Int)) (ha : a < 2 ^ 31) (hb : b < 2 ^ 31) (kt : b < a → J w y cc mL rt R X Qf tgt L S n h ca sl) (kf : a ≤ b → J w y cc mL rt R X Qf (pc + 3) L S n h ca sl) : J w y cc mL rt R X Qf pc L (.int (nI b) :: .int (nI a) :: S) n h ca sl := J.icmp_gt pc tgt hd ht (fun c => kt ((nI_ltI hb ha).mp c)) (fun c => kf (Nat.not_lt.mp (fun e => c ((nI_ltI hb ha).mpr e))))
theorem V.if_gt (pc tgt : Nat) {o : Int} {a : Nat} (hd : decode cc pc = .ok (.ifCond .gt o, 3)) (ht : (pc : Int) + o = (tgt : Int)) (ha : a < 2 ^ 31) (kt : 0 < a → J w y cc mL rt R X Qf tgt L S n h ca sl) (kf : a ≤ 0 → J w y cc mL rt R X Qf (pc + 3) L S n h ca sl) : J w y cc mL rt R X Qf pc L (.int (nI a) :: S) n h ca sl := J.if_gt pc tgt hd ht (fun c => kt ((nI_ltI (by decide : 0 < 2 ^ 31) ha).mp c)) (fun c => kf (Nat.not_lt.mp (fun e => c ((nI_ltI (by decide : 0 < 2 ^ 31) ha).mpr e))))
theorem V.icmp_le (pc tgt : Nat) {o : Int} {a b : Nat} (hd : decode cc pc = .ok (.if_icmp .le o, 3)) (ht : (pc : Int) + o = (tgt : Int)) (ha : a < 2 ^ 31) (hb : b < 2 ^ 31) (kt : a ≤ b → J w y cc mL rt R X Qf tgt L S n h ca sl) (kf : b < a → J w y cc mL rt R X Qf (pc + 3) L S n h ca sl) : J w y cc mL rt R X Qf pc L (.int (nI b) :: .int (nI a) :: S) n h ca sl := J.icmp_le pc tgt hd ht (fun c => kt ((nI_leI ha hb).mp c)) (fun c => kf (Nat.not_le.mp (fun e => c ((nI_leI ha hb).mpr e))))
theorem V.if_le (pc tgt : Nat) {o : Int} {a : Nat} (hd : decode cc pc = .ok (.ifCond .le o, 3)) (ht : (pc : Int) + o = (tgt : Int)) (ha : a < 2 ^ 31) (kt : a ≤ 0 → J w y cc mL rt R X Qf tgt L S n h ca sl) (kf : 0 < a → J w y cc mL rt R X Qf (pc + 3) L S n h ca sl) : J w y cc mL rt R X Qf pc L (.int (nI a) :: S) n h ca sl := J.if_le pc tgt hd ht (fun c => kt ((nI_leI ha (by decide : 0 < 2 ^ 31)).mp c)) (fun c => kf (Nat.not_le.mp (fun e => c ((nI_leI ha (by decide : 0 < 2 ^ 31)).mpr e))))
end VB
