section
-- ===== PART A: goes FIRST, ahead of the names: the tables' words, and 'selects' of the private methods out of them =====
/-- a private method of a class that the tables say can be made, by its rows of tables_1 -/
def lw_okq (q : MethodName × Nat) : Prop := (q.1.cls ≠ "java/lang/invoke/MethodHandle" ∧ q.1.cls ≠ "java/lang/invoke/VarHandle") ∧ Cond.instantiable q.1.cls q.2 ∈ tables_1 ∧ Cond.privateMethod q.1 ∈ tables_1 ∧ Cond.instanceMethod q.1 ∈ tables_1
theorem lw_p0 : lw_okq (⟨"LiarClocks$Text", "append", "(I)I"⟩, 8) := ⟨⟨by decide +kernel, by decide +kernel⟩, List.mem_of_getElem? (i := 101) (by decide +kernel), List.mem_of_getElem? (i := 256) (by decide +kernel), List.mem_of_getElem? (i := 257) (by decide +kernel)⟩
theorem lw_p1 : lw_okq (⟨"LiarClocks$Text", "readInto", "(LLiarClocks$State;)I"⟩, 8) := ⟨⟨by decide +kernel, by decide +kernel⟩, List.mem_of_getElem? (i := 101) (by decide +kernel), List.mem_of_getElem? (i := 264) (by decide +kernel), List.mem_of_getElem? (i := 265) (by decide +kernel)⟩
theorem lw_p2 : lw_okq (⟨"LiarClocks$State", "clear", "()V"⟩, 15) := ⟨⟨by decide +kernel, by decide +kernel⟩, List.mem_of_getElem? (i := 23) (by decide +kernel), List.mem_of_getElem? (i := 268) (by decide +kernel), List.mem_of_getElem? (i := 269) (by decide +kernel)⟩
theorem lw_p3 : lw_okq (⟨"LiarClocks$Text", "skipBlanks", "()V"⟩, 8) := ⟨⟨by decide +kernel, by decide +kernel⟩, List.mem_of_getElem? (i := 101) (by decide +kernel), List.mem_of_getElem? (i := 275) (by decide +kernel), List.mem_of_getElem? (i := 276) (by decide +kernel)⟩
theorem lw_p4 : lw_okq (⟨"LiarClocks$Text", "readClause", "(LLiarClocks$State;)V"⟩, 8) := ⟨⟨by decide +kernel, by decide +kernel⟩, List.mem_of_getElem? (i := 101) (by decide +kernel), List.mem_of_getElem? (i := 279) (by decide +kernel), List.mem_of_getElem? (i := 280) (by decide +kernel)⟩
theorem lw_p5 : lw_okq (⟨"LiarClocks$Text", "letter", "()I"⟩, 8) := ⟨⟨by decide +kernel, by decide +kernel⟩, List.mem_of_getElem? (i := 101) (by decide +kernel), List.mem_of_getElem? (i := 283) (by decide +kernel), List.mem_of_getElem? (i := 284) (by decide +kernel)⟩
theorem lw_p6 : lw_okq (⟨"LiarClocks$Text", "readClock", "(LLiarClocks$State;)V"⟩, 8) := ⟨⟨by decide +kernel, by decide +kernel⟩, List.mem_of_getElem? (i := 101) (by decide +kernel), List.mem_of_getElem? (i := 287) (by decide +kernel), List.mem_of_getElem? (i := 288) (by decide +kernel)⟩
theorem lw_p7 : lw_okq (⟨"LiarClocks$Text", "note", "(II)V"⟩, 8) := ⟨⟨by decide +kernel, by decide +kernel⟩, List.mem_of_getElem? (i := 101) (by decide +kernel), List.mem_of_getElem? (i := 291) (by decide +kernel), List.mem_of_getElem? (i := 292) (by decide +kernel)⟩
theorem lw_p8 : lw_okq (⟨"LiarClocks$Text", "readNumber", "(II)I"⟩, 8) := ⟨⟨by decide +kernel, by decide +kernel⟩, List.mem_of_getElem? (i := 101) (by decide +kernel), List.mem_of_getElem? (i := 295) (by decide +kernel), List.mem_of_getElem? (i := 296) (by decide +kernel)⟩
theorem lw_p9 : lw_okq (⟨"LiarClocks$State", "addClock", "(II)V"⟩, 15) := ⟨⟨by decide +kernel, by decide +kernel⟩, List.mem_of_getElem? (i := 23) (by decide +kernel), List.mem_of_getElem? (i := 302) (by decide +kernel), List.mem_of_getElem? (i := 303) (by decide +kernel)⟩
theorem lw_p10 : lw_okq (⟨"LiarClocks$Text", "readLiar", "(LLiarClocks$State;)V"⟩, 8) := ⟨⟨by decide +kernel, by decide +kernel⟩, List.mem_of_getElem? (i := 101) (by decide +kernel), List.mem_of_getElem? (i := 306) (by decide +kernel), List.mem_of_getElem? (i := 307) (by decide +kernel)⟩
theorem lw_p11 : lw_okq (⟨"LiarClocks$State", "lies", "(I)Z"⟩, 15) := ⟨⟨by decide +kernel, by decide +kernel⟩, List.mem_of_getElem? (i := 23) (by decide +kernel), List.mem_of_getElem? (i := 310) (by decide +kernel), List.mem_of_getElem? (i := 311) (by decide +kernel)⟩
theorem lw_p12 : lw_okq (⟨"LiarClocks$Text", "readStrike", "(LLiarClocks$State;)V"⟩, 8) := ⟨⟨by decide +kernel, by decide +kernel⟩, List.mem_of_getElem? (i := 101) (by decide +kernel), List.mem_of_getElem? (i := 314) (by decide +kernel), List.mem_of_getElem? (i := 315) (by decide +kernel)⟩
theorem lw_p13 : lw_okq (⟨"LiarClocks$Text", "readStep", "(LLiarClocks$State;)V"⟩, 8) := ⟨⟨by decide +kernel, by decide +kernel⟩, List.mem_of_getElem? (i := 101) (by decide +kernel), List.mem_of_getElem? (i := 318) (by decide +kernel), List.mem_of_getElem? (i := 319) (by decide +kernel)⟩
theorem lw_p14 : lw_okq (⟨"LiarClocks$State", "copyFrom", "(LLiarClocks$State;)V"⟩, 15) := ⟨⟨by decide +kernel, by decide +kernel⟩, List.mem_of_getElem? (i := 23) (by decide +kernel), List.mem_of_getElem? (i := 322) (by decide +kernel), List.mem_of_getElem? (i := 323) (by decide +kernel)⟩
theorem lw_p15 : lw_okq (⟨"LiarClocks$History", "forget", "()V"⟩, 3) := ⟨⟨by decide +kernel, by decide +kernel⟩, List.mem_of_getElem? (i := 167) (by decide +kernel), List.mem_of_getElem? (i := 329) (by decide +kernel), List.mem_of_getElem? (i := 330) (by decide +kernel)⟩
def lw_privs_1 : List (MethodName × Nat) := [(⟨"LiarClocks$Text", "append", "(I)I"⟩, 8), (⟨"LiarClocks$Text", "readInto", "(LLiarClocks$State;)I"⟩, 8), (⟨"LiarClocks$State", "clear", "()V"⟩, 15), (⟨"LiarClocks$Text", "skipBlanks", "()V"⟩, 8), (⟨"LiarClocks$Text", "readClause", "(LLiarClocks$State;)V"⟩, 8), (⟨"LiarClocks$Text", "letter", "()I"⟩, 8), (⟨"LiarClocks$Text", "readClock", "(LLiarClocks$State;)V"⟩, 8), (⟨"LiarClocks$Text", "note", "(II)V"⟩, 8), (⟨"LiarClocks$Text", "readNumber", "(II)I"⟩, 8), (⟨"LiarClocks$State", "addClock", "(II)V"⟩, 15), (⟨"LiarClocks$Text", "readLiar", "(LLiarClocks$State;)V"⟩, 8), (⟨"LiarClocks$State", "lies", "(I)Z"⟩, 15), (⟨"LiarClocks$Text", "readStrike", "(LLiarClocks$State;)V"⟩, 8), (⟨"LiarClocks$Text", "readStep", "(LLiarClocks$State;)V"⟩, 8), (⟨"LiarClocks$State", "copyFrom", "(LLiarClocks$State;)V"⟩, 15), (⟨"LiarClocks$History", "forget", "()V"⟩, 3)]
theorem lw_r1 : ∀ q ∈ lw_privs_1, lw_okq q := List.forall_mem_cons.mpr ⟨lw_p0, List.forall_mem_cons.mpr ⟨lw_p1, List.forall_mem_cons.mpr ⟨lw_p2, List.forall_mem_cons.mpr ⟨lw_p3, List.forall_mem_cons.mpr ⟨lw_p4, List.forall_mem_cons.mpr ⟨lw_p5, List.forall_mem_cons.mpr ⟨lw_p6, List.forall_mem_cons.mpr ⟨lw_p7, List.forall_mem_cons.mpr ⟨lw_p8, List.forall_mem_cons.mpr ⟨lw_p9, List.forall_mem_cons.mpr ⟨lw_p10, List.forall_mem_cons.mpr ⟨lw_p11, List.forall_mem_cons.mpr ⟨lw_p12, List.forall_mem_cons.mpr ⟨lw_p13, List.forall_mem_cons.mpr ⟨lw_p14, List.forall_mem_cons.mpr ⟨lw_p15, fun _ h => absurd h List.not_mem_nil⟩⟩⟩⟩⟩⟩⟩⟩⟩⟩⟩⟩⟩⟩⟩⟩
theorem lw_p16 : lw_okq (⟨"LiarClocks$State", "trueSet", "()I"⟩, 15) := ⟨⟨by decide +kernel, by decide +kernel⟩, List.mem_of_getElem? (i := 23) (by decide +kernel), List.mem_of_getElem? (i := 341) (by decide +kernel), List.mem_of_getElem? (i := 342) (by decide +kernel)⟩
theorem lw_p17 : lw_okq (⟨"LiarClocks$State", "apart", "()I"⟩, 15) := ⟨⟨by decide +kernel, by decide +kernel⟩, List.mem_of_getElem? (i := 23) (by decide +kernel), List.mem_of_getElem? (i := 345) (by decide +kernel), List.mem_of_getElem? (i := 346) (by decide +kernel)⟩
theorem lw_p18 : lw_okq (⟨"LiarClocks$State", "isTrue", "(I)Z"⟩, 15) := ⟨⟨by decide +kernel, by decide +kernel⟩, List.mem_of_getElem? (i := 23) (by decide +kernel), List.mem_of_getElem? (i := 349) (by decide +kernel), List.mem_of_getElem? (i := 350) (by decide +kernel)⟩
theorem lw_p19 : lw_okq (⟨"LiarClocks$State", "stands", "(I)Z"⟩, 15) := ⟨⟨by decide +kernel, by decide +kernel⟩, List.mem_of_getElem? (i := 23) (by decide +kernel), List.mem_of_getElem? (i := 354) (by decide +kernel), List.mem_of_getElem? (i := 355) (by decide +kernel)⟩
theorem lw_p20 : lw_okq (⟨"LiarClocks$State", "aim", "(I)I"⟩, 15) := ⟨⟨by decide +kernel, by decide +kernel⟩, List.mem_of_getElem? (i := 23) (by decide +kernel), List.mem_of_getElem? (i := 358) (by decide +kernel), List.mem_of_getElem? (i := 359) (by decide +kernel)⟩
theorem lw_p21 : lw_okq (⟨"LiarClocks$Council", "worst", "(LLiarClocks$State;)I"⟩, 4) := ⟨⟨by decide +kernel, by decide +kernel⟩, List.mem_of_getElem? (i := 134) (by decide +kernel), List.mem_of_getElem? (i := 368) (by decide +kernel), List.mem_of_getElem? (i := 369) (by decide +kernel)⟩
theorem lw_p22 : lw_okq (⟨"LiarClocks$State", "allStruck", "()Z"⟩, 15) := ⟨⟨by decide +kernel, by decide +kernel⟩, List.mem_of_getElem? (i := 23) (by decide +kernel), List.mem_of_getElem? (i := 379) (by decide +kernel), List.mem_of_getElem? (i := 380) (by decide +kernel)⟩
theorem lw_p23 : lw_okq (⟨"LiarClocks$Council", "middleWithLiarsAt", "(LLiarClocks$State;II)I"⟩, 4) := ⟨⟨by decide +kernel, by decide +kernel⟩, List.mem_of_getElem? (i := 134) (by decide +kernel), List.mem_of_getElem? (i := 387) (by decide +kernel), List.mem_of_getElem? (i := 388) (by decide +kernel)⟩
theorem lw_p24 : lw_okq (⟨"LiarClocks$State", "tellsLies", "(I)Z"⟩, 15) := ⟨⟨by decide +kernel, by decide +kernel⟩, List.mem_of_getElem? (i := 23) (by decide +kernel), List.mem_of_getElem? (i := 391) (by decide +kernel), List.mem_of_getElem? (i := 392) (by decide +kernel)⟩
theorem lw_p25 : lw_okq (⟨"LiarClocks$State", "heardOf", "(II)I"⟩, 15) := ⟨⟨by decide +kernel, by decide +kernel⟩, List.mem_of_getElem? (i := 23) (by decide +kernel), List.mem_of_getElem? (i := 395) (by decide +kernel), List.mem_of_getElem? (i := 396) (by decide +kernel)⟩
theorem lw_p26 : lw_okq (⟨"LiarClocks$Hearing", "take", "(I)V"⟩, 2) := ⟨⟨by decide +kernel, by decide +kernel⟩, List.mem_of_getElem? (i := 140) (by decide +kernel), List.mem_of_getElem? (i := 402) (by decide +kernel), List.mem_of_getElem? (i := 403) (by decide +kernel)⟩
theorem lw_p27 : lw_okq (⟨"LiarClocks$Hearing", "middle", "(I)I"⟩, 2) := ⟨⟨by decide +kernel, by decide +kernel⟩, List.mem_of_getElem? (i := 140) (by decide +kernel), List.mem_of_getElem? (i := 406) (by decide +kernel), List.mem_of_getElem? (i := 407) (by decide +kernel)⟩
theorem lw_p28 : lw_okq (⟨"LiarClocks$Hearing", "leaves", "(I)Z"⟩, 2) := ⟨⟨by decide +kernel, by decide +kernel⟩, List.mem_of_getElem? (i := 140) (by decide +kernel), List.mem_of_getElem? (i := 410) (by decide +kernel), List.mem_of_getElem? (i := 411) (by decide +kernel)⟩
theorem lw_p29 : lw_okq (⟨"LiarClocks$Council", "widestPair", "(LLiarClocks$State;)I"⟩, 4) := ⟨⟨by decide +kernel, by decide +kernel⟩, List.mem_of_getElem? (i := 134) (by decide +kernel), List.mem_of_getElem? (i := 418) (by decide +kernel), List.mem_of_getElem? (i := 419) (by decide +kernel)⟩
theorem lw_p30 : lw_okq (⟨"LiarClocks$State", "mayLie", "()I"⟩, 15) := ⟨⟨by decide +kernel, by decide +kernel⟩, List.mem_of_getElem? (i := 23) (by decide +kernel), List.mem_of_getElem? (i := 423) (by decide +kernel), List.mem_of_getElem? (i := 424) (by decide +kernel)⟩
theorem lw_p31 : lw_okq (⟨"LiarClocks$Book", "firstWrong", "(LLiarClocks$State;)I"⟩, 3) := ⟨⟨by decide +kernel, by decide +kernel⟩, List.mem_of_getElem? (i := 187) (by decide +kernel), List.mem_of_getElem? (i := 428) (by decide +kernel), List.mem_of_getElem? (i := 429) (by decide +kernel)⟩
def lw_privs_2 : List (MethodName × Nat) := [(⟨"LiarClocks$State", "trueSet", "()I"⟩, 15), (⟨"LiarClocks$State", "apart", "()I"⟩, 15), (⟨"LiarClocks$State", "isTrue", "(I)Z"⟩, 15), (⟨"LiarClocks$State", "stands", "(I)Z"⟩, 15), (⟨"LiarClocks$State", "aim", "(I)I"⟩, 15), (⟨"LiarClocks$Council", "worst", "(LLiarClocks$State;)I"⟩, 4), (⟨"LiarClocks$State", "allStruck", "()Z"⟩, 15), (⟨"LiarClocks$Council", "middleWithLiarsAt", "(LLiarClocks$State;II)I"⟩, 4), (⟨"LiarClocks$State", "tellsLies", "(I)Z"⟩, 15), (⟨"LiarClocks$State", "heardOf", "(II)I"⟩, 15), (⟨"LiarClocks$Hearing", "take", "(I)V"⟩, 2), (⟨"LiarClocks$Hearing", "middle", "(I)I"⟩, 2), (⟨"LiarClocks$Hearing", "leaves", "(I)Z"⟩, 2), (⟨"LiarClocks$Council", "widestPair", "(LLiarClocks$State;)I"⟩, 4), (⟨"LiarClocks$State", "mayLie", "()I"⟩, 15), (⟨"LiarClocks$Book", "firstWrong", "(LLiarClocks$State;)I"⟩, 3)]
theorem lw_r2 : ∀ q ∈ lw_privs_2, lw_okq q := List.forall_mem_cons.mpr ⟨lw_p16, List.forall_mem_cons.mpr ⟨lw_p17, List.forall_mem_cons.mpr ⟨lw_p18, List.forall_mem_cons.mpr ⟨lw_p19, List.forall_mem_cons.mpr ⟨lw_p20, List.forall_mem_cons.mpr ⟨lw_p21, List.forall_mem_cons.mpr ⟨lw_p22, List.forall_mem_cons.mpr ⟨lw_p23, List.forall_mem_cons.mpr ⟨lw_p24, List.forall_mem_cons.mpr ⟨lw_p25, List.forall_mem_cons.mpr ⟨lw_p26, List.forall_mem_cons.mpr ⟨lw_p27, List.forall_mem_cons.mpr ⟨lw_p28, List.forall_mem_cons.mpr ⟨lw_p29, List.forall_mem_cons.mpr ⟨lw_p30, List.forall_mem_cons.mpr ⟨lw_p31, fun _ h => absurd h List.not_mem_nil⟩⟩⟩⟩⟩⟩⟩⟩⟩⟩⟩⟩⟩⟩⟩⟩
theorem lw_p32 : lw_okq (⟨"LiarClocks$State", "has", "(I)Z"⟩, 15) := ⟨⟨by decide +kernel, by decide +kernel⟩, List.mem_of_getElem? (i := 23) (by decide +kernel), List.mem_of_getElem? (i := 432) (by decide +kernel), List.mem_of_getElem? (i := 433) (by decide +kernel)⟩
theorem lw_p33 : lw_okq (⟨"LiarClocks$Council", "middleFor", "(LLiarClocks$State;I)I"⟩, 4) := ⟨⟨by decide +kernel, by decide +kernel⟩, List.mem_of_getElem? (i := 134) (by decide +kernel), List.mem_of_getElem? (i := 449) (by decide +kernel), List.mem_of_getElem? (i := 450) (by decide +kernel)⟩
theorem lw_p34 : lw_okq (⟨"LiarClocks$State", "hasBoth", "(II)Z"⟩, 15) := ⟨⟨by decide +kernel, by decide +kernel⟩, List.mem_of_getElem? (i := 23) (by decide +kernel), List.mem_of_getElem? (i := 457) (by decide +kernel), List.mem_of_getElem? (i := 458) (by decide +kernel)⟩
theorem lw_p35 : lw_okq (⟨"LiarClocks$State", "rank", "(II)I"⟩, 15) := ⟨⟨by decide +kernel, by decide +kernel⟩, List.mem_of_getElem? (i := 23) (by decide +kernel), List.mem_of_getElem? (i := 464) (by decide +kernel), List.mem_of_getElem? (i := 465) (by decide +kernel)⟩
theorem lw_p36 : lw_okq (⟨"LiarClocks$Council", "farthest", "(LLiarClocks$State;II)I"⟩, 4) := ⟨⟨by decide +kernel, by decide +kernel⟩, List.mem_of_getElem? (i := 134) (by decide +kernel), List.mem_of_getElem? (i := 470) (by decide +kernel), List.mem_of_getElem? (i := 471) (by decide +kernel)⟩
theorem lw_p37 : lw_okq (⟨"LiarClocks$Council", "middleByLie", "(LLiarClocks$State;III)I"⟩, 4) := ⟨⟨by decide +kernel, by decide +kernel⟩, List.mem_of_getElem? (i := 134) (by decide +kernel), List.mem_of_getElem? (i := 474) (by decide +kernel), List.mem_of_getElem? (i := 475) (by decide +kernel)⟩
theorem lw_p38 : lw_okq (⟨"LiarClocks$History", "remember", "(LLiarClocks$State;)V"⟩, 3) := ⟨⟨by decide +kernel, by decide +kernel⟩, List.mem_of_getElem? (i := 167) (by decide +kernel), List.mem_of_getElem? (i := 490) (by decide +kernel), List.mem_of_getElem? (i := 491) (by decide +kernel)⟩
theorem lw_p39 : lw_okq (⟨"LiarClocks$State", "goOn", "()I"⟩, 15) := ⟨⟨by decide +kernel, by decide +kernel⟩, List.mem_of_getElem? (i := 23) (by decide +kernel), List.mem_of_getElem? (i := 496) (by decide +kernel), List.mem_of_getElem? (i := 497) (by decide +kernel)⟩
theorem lw_p40 : lw_okq (⟨"LiarClocks$State", "ring", "()I"⟩, 15) := ⟨⟨by decide +kernel, by decide +kernel⟩, List.mem_of_getElem? (i := 23) (by decide +kernel), List.mem_of_getElem? (i := 500) (by decide +kernel), List.mem_of_getElem? (i := 501) (by decide +kernel)⟩
theorem lw_p41 : lw_okq (⟨"LiarClocks$Council", "meet", "(LLiarClocks$State;)V"⟩, 4) := ⟨⟨by decide +kernel, by decide +kernel⟩, List.mem_of_getElem? (i := 134) (by decide +kernel), List.mem_of_getElem? (i := 508) (by decide +kernel), List.mem_of_getElem? (i := 509) (by decide +kernel)⟩
theorem lw_p42 : lw_okq (⟨"LiarClocks$Council", "canJoin", "(LLiarClocks$State;I)Z"⟩, 4) := ⟨⟨by decide +kernel, by decide +kernel⟩, List.mem_of_getElem? (i := 134) (by decide +kernel), List.mem_of_getElem? (i := 535) (by decide +kernel), List.mem_of_getElem? (i := 536) (by decide +kernel)⟩
theorem lw_p43 : lw_okq (⟨"LiarClocks$Council", "hearToJoin", "(LLiarClocks$State;I)V"⟩, 4) := ⟨⟨by decide +kernel, by decide +kernel⟩, List.mem_of_getElem? (i := 134) (by decide +kernel), List.mem_of_getElem? (i := 539) (by decide +kernel), List.mem_of_getElem? (i := 540) (by decide +kernel)⟩
theorem lw_p44 : lw_okq (⟨"LiarClocks$Council", "letJoin", "(LLiarClocks$State;I)V"⟩, 4) := ⟨⟨by decide +kernel, by decide +kernel⟩, List.mem_of_getElem? (i := 134) (by decide +kernel), List.mem_of_getElem? (i := 545) (by decide +kernel), List.mem_of_getElem? (i := 546) (by decide +kernel)⟩
theorem lw_p45 : lw_okq (⟨"LiarClocks$State", "setAlarm", "(II)I"⟩, 15) := ⟨⟨by decide +kernel, by decide +kernel⟩, List.mem_of_getElem? (i := 23) (by decide +kernel), List.mem_of_getElem? (i := 555) (by decide +kernel), List.mem_of_getElem? (i := 556) (by decide +kernel)⟩
theorem lw_p46 : lw_okq (⟨"LiarClocks", "driftOnce", "()V"⟩, 10) := ⟨⟨by decide +kernel, by decide +kernel⟩, List.mem_of_getElem? (i := 15) (by decide +kernel), List.mem_of_getElem? (i := 563) (by decide +kernel), List.mem_of_getElem? (i := 564) (by decide +kernel)⟩
theorem lw_p47 : lw_okq (⟨"LiarClocks$Draws", "next", "(I)I"⟩, 1) := ⟨⟨by decide +kernel, by decide +kernel⟩, List.mem_of_getElem? (i := 204) (by decide +kernel), List.mem_of_getElem? (i := 567) (by decide +kernel), List.mem_of_getElem? (i := 568) (by decide +kernel)⟩
def lw_privs_3 : List (MethodName × Nat) := [(⟨"LiarClocks$State", "has", "(I)Z"⟩, 15), (⟨"LiarClocks$Council", "middleFor", "(LLiarClocks$State;I)I"⟩, 4), (⟨"LiarClocks$State", "hasBoth", "(II)Z"⟩, 15), (⟨"LiarClocks$State", "rank", "(II)I"⟩, 15), (⟨"LiarClocks$Council", "farthest", "(LLiarClocks$State;II)I"⟩, 4), (⟨"LiarClocks$Council", "middleByLie", "(LLiarClocks$State;III)I"⟩, 4), (⟨"LiarClocks$History", "remember", "(LLiarClocks$State;)V"⟩, 3), (⟨"LiarClocks$State", "goOn", "()I"⟩, 15), (⟨"LiarClocks$State", "ring", "()I"⟩, 15), (⟨"LiarClocks$Council", "meet", "(LLiarClocks$State;)V"⟩, 4), (⟨"LiarClocks$Council", "canJoin", "(LLiarClocks$State;I)Z"⟩, 4), (⟨"LiarClocks$Council", "hearToJoin", "(LLiarClocks$State;I)V"⟩, 4), (⟨"LiarClocks$Council", "letJoin", "(LLiarClocks$State;I)V"⟩, 4), (⟨"LiarClocks$State", "setAlarm", "(II)I"⟩, 15), (⟨"LiarClocks", "driftOnce", "()V"⟩, 10), (⟨"LiarClocks$Draws", "next", "(I)I"⟩, 1)]
theorem lw_r3 : ∀ q ∈ lw_privs_3, lw_okq q := List.forall_mem_cons.mpr ⟨lw_p32, List.forall_mem_cons.mpr ⟨lw_p33, List.forall_mem_cons.mpr ⟨lw_p34, List.forall_mem_cons.mpr ⟨lw_p35, List.forall_mem_cons.mpr ⟨lw_p36, List.forall_mem_cons.mpr ⟨lw_p37, List.forall_mem_cons.mpr ⟨lw_p38, List.forall_mem_cons.mpr ⟨lw_p39, List.forall_mem_cons.mpr ⟨lw_p40, List.forall_mem_cons.mpr ⟨lw_p41, List.forall_mem_cons.mpr ⟨lw_p42, List.forall_mem_cons.mpr ⟨lw_p43, List.forall_mem_cons.mpr ⟨lw_p44, List.forall_mem_cons.mpr ⟨lw_p45, List.forall_mem_cons.mpr ⟨lw_p46, List.forall_mem_cons.mpr ⟨lw_p47, fun _ h => absurd h List.not_mem_nil⟩⟩⟩⟩⟩⟩⟩⟩⟩⟩⟩⟩⟩⟩⟩⟩
theorem lw_p48 : lw_okq (⟨"LiarClocks$History", "takeBack", "(ILLiarClocks$State;)V"⟩, 3) := ⟨⟨by decide +kernel, by decide +kernel⟩, List.mem_of_getElem? (i := 167) (by decide +kernel), List.mem_of_getElem? (i := 579) (by decide +kernel), List.mem_of_getElem? (i := 580) (by decide +kernel)⟩
theorem lw_p49 : lw_okq (⟨"LiarClocks$Book", "append", "(II)I"⟩, 3) := ⟨⟨by decide +kernel, by decide +kernel⟩, List.mem_of_getElem? (i := 187) (by decide +kernel), List.mem_of_getElem? (i := 598) (by decide +kernel), List.mem_of_getElem? (i := 599) (by decide +kernel)⟩
theorem lw_p50 : lw_okq (⟨"LiarClocksModel", "here", "()I"⟩, 17) := ⟨⟨by decide +kernel, by decide +kernel⟩, List.mem_of_getElem? (i := 618) (by decide +kernel), List.mem_of_getElem? (i := 689) (by decide +kernel), List.mem_of_getElem? (i := 690) (by decide +kernel)⟩
theorem lw_p51 : lw_okq (⟨"LiarClocksModel", "fine", "()Z"⟩, 17) := ⟨⟨by decide +kernel, by decide +kernel⟩, List.mem_of_getElem? (i := 618) (by decide +kernel), List.mem_of_getElem? (i := 693) (by decide +kernel), List.mem_of_getElem? (i := 694) (by decide +kernel)⟩
theorem lw_p52 : lw_okq (⟨"LiarClocksModel", "readClause", "()V"⟩, 17) := ⟨⟨by decide +kernel, by decide +kernel⟩, List.mem_of_getElem? (i := 618) (by decide +kernel), List.mem_of_getElem? (i := 697) (by decide +kernel), List.mem_of_getElem? (i := 698) (by decide +kernel)⟩
theorem lw_p53 : lw_okq (⟨"LiarClocksModel", "readClock", "(I)V"⟩, 17) := ⟨⟨by decide +kernel, by decide +kernel⟩, List.mem_of_getElem? (i := 618) (by decide +kernel), List.mem_of_getElem? (i := 701) (by decide +kernel), List.mem_of_getElem? (i := 702) (by decide +kernel)⟩
theorem lw_p54 : lw_okq (⟨"LiarClocksModel", "fail", "(II)V"⟩, 17) := ⟨⟨by decide +kernel, by decide +kernel⟩, List.mem_of_getElem? (i := 618) (by decide +kernel), List.mem_of_getElem? (i := 705) (by decide +kernel), List.mem_of_getElem? (i := 706) (by decide +kernel)⟩
theorem lw_p55 : lw_okq (⟨"LiarClocksModel", "number", "(II)I"⟩, 17) := ⟨⟨by decide +kernel, by decide +kernel⟩, List.mem_of_getElem? (i := 618) (by decide +kernel), List.mem_of_getElem? (i := 709) (by decide +kernel), List.mem_of_getElem? (i := 710) (by decide +kernel)⟩
theorem lw_p56 : lw_okq (⟨"LiarClocksModel", "readOther", "(II)V"⟩, 17) := ⟨⟨by decide +kernel, by decide +kernel⟩, List.mem_of_getElem? (i := 618) (by decide +kernel), List.mem_of_getElem? (i := 713) (by decide +kernel), List.mem_of_getElem? (i := 714) (by decide +kernel)⟩
theorem lw_p57 : lw_okq (⟨"LiarClocksModel", "copyRow", "(II)V"⟩, 17) := ⟨⟨by decide +kernel, by decide +kernel⟩, List.mem_of_getElem? (i := 618) (by decide +kernel), List.mem_of_getElem? (i := 717) (by decide +kernel), List.mem_of_getElem? (i := 718) (by decide +kernel)⟩
theorem lw_p58 : lw_okq (⟨"LiarClocksModel", "setOf", "(I)I"⟩, 17) := ⟨⟨by decide +kernel, by decide +kernel⟩, List.mem_of_getElem? (i := 618) (by decide +kernel), List.mem_of_getElem? (i := 729) (by decide +kernel), List.mem_of_getElem? (i := 730) (by decide +kernel)⟩
theorem lw_p59 : lw_okq (⟨"LiarClocksModel", "isTrue", "(II)Z"⟩, 17) := ⟨⟨by decide +kernel, by decide +kernel⟩, List.mem_of_getElem? (i := 618) (by decide +kernel), List.mem_of_getElem? (i := 733) (by decide +kernel), List.mem_of_getElem? (i := 734) (by decide +kernel)⟩
theorem lw_p60 : lw_okq (⟨"LiarClocksModel", "apart", "(I)I"⟩, 17) := ⟨⟨by decide +kernel, by decide +kernel⟩, List.mem_of_getElem? (i := 618) (by decide +kernel), List.mem_of_getElem? (i := 737) (by decide +kernel), List.mem_of_getElem? (i := 738) (by decide +kernel)⟩
theorem lw_p61 : lw_okq (⟨"LiarClocksModel", "aim", "(II)I"⟩, 17) := ⟨⟨by decide +kernel, by decide +kernel⟩, List.mem_of_getElem? (i := 618) (by decide +kernel), List.mem_of_getElem? (i := 741) (by decide +kernel), List.mem_of_getElem? (i := 742) (by decide +kernel)⟩
theorem lw_p62 : lw_okq (⟨"LiarClocksModel", "worst", "()I"⟩, 17) := ⟨⟨by decide +kernel, by decide +kernel⟩, List.mem_of_getElem? (i := 618) (by decide +kernel), List.mem_of_getElem? (i := 745) (by decide +kernel), List.mem_of_getElem? (i := 746) (by decide +kernel)⟩
theorem lw_p63 : lw_okq (⟨"LiarClocksModel", "allStruck", "(II)Z"⟩, 17) := ⟨⟨by decide +kernel, by decide +kernel⟩, List.mem_of_getElem? (i := 618) (by decide +kernel), List.mem_of_getElem? (i := 749) (by decide +kernel), List.mem_of_getElem? (i := 750) (by decide +kernel)⟩
def lw_privs_4 : List (MethodName × Nat) := [(⟨"LiarClocks$History", "takeBack", "(ILLiarClocks$State;)V"⟩, 3), (⟨"LiarClocks$Book", "append", "(II)I"⟩, 3), (⟨"LiarClocksModel", "here", "()I"⟩, 17), (⟨"LiarClocksModel", "fine", "()Z"⟩, 17), (⟨"LiarClocksModel", "readClause", "()V"⟩, 17), (⟨"LiarClocksModel", "readClock", "(I)V"⟩, 17), (⟨"LiarClocksModel", "fail", "(II)V"⟩, 17), (⟨"LiarClocksModel", "number", "(II)I"⟩, 17), (⟨"LiarClocksModel", "readOther", "(II)V"⟩, 17), (⟨"LiarClocksModel", "copyRow", "(II)V"⟩, 17), (⟨"LiarClocksModel", "setOf", "(I)I"⟩, 17), (⟨"LiarClocksModel", "isTrue", "(II)Z"⟩, 17), (⟨"LiarClocksModel", "apart", "(I)I"⟩, 17), (⟨"LiarClocksModel", "aim", "(II)I"⟩, 17), (⟨"LiarClocksModel", "worst", "()I"⟩, 17), (⟨"LiarClocksModel", "allStruck", "(II)Z"⟩, 17)]
theorem lw_r4 : ∀ q ∈ lw_privs_4, lw_okq q := List.forall_mem_cons.mpr ⟨lw_p48, List.forall_mem_cons.mpr ⟨lw_p49, List.forall_mem_cons.mpr ⟨lw_p50, List.forall_mem_cons.mpr ⟨lw_p51, List.forall_mem_cons.mpr ⟨lw_p52, List.forall_mem_cons.mpr ⟨lw_p53, List.forall_mem_cons.mpr ⟨lw_p54, List.forall_mem_cons.mpr ⟨lw_p55, List.forall_mem_cons.mpr ⟨lw_p56, List.forall_mem_cons.mpr ⟨lw_p57, List.forall_mem_cons.mpr ⟨lw_p58, List.forall_mem_cons.mpr ⟨lw_p59, List.forall_mem_cons.mpr ⟨lw_p60, List.forall_mem_cons.mpr ⟨lw_p61, List.forall_mem_cons.mpr ⟨lw_p62, List.forall_mem_cons.mpr ⟨lw_p63, fun _ h => absurd h List.not_mem_nil⟩⟩⟩⟩⟩⟩⟩⟩⟩⟩⟩⟩⟩⟩⟩⟩
theorem lw_p64 : lw_okq (⟨"LiarClocksModel", "liars", "()I"⟩, 17) := ⟨⟨by decide +kernel, by decide +kernel⟩, List.mem_of_getElem? (i := 618) (by decide +kernel), List.mem_of_getElem? (i := 753) (by decide +kernel), List.mem_of_getElem? (i := 754) (by decide +kernel)⟩
theorem lw_p65 : lw_okq (⟨"LiarClocksModel", "isLiar", "(II)Z"⟩, 17) := ⟨⟨by decide +kernel, by decide +kernel⟩, List.mem_of_getElem? (i := 618) (by decide +kernel), List.mem_of_getElem? (i := 757) (by decide +kernel), List.mem_of_getElem? (i := 758) (by decide +kernel)⟩
theorem lw_p66 : lw_okq (⟨"LiarClocksModel", "extreme", "(II)I"⟩, 17) := ⟨⟨by decide +kernel, by decide +kernel⟩, List.mem_of_getElem? (i := 618) (by decide +kernel), List.mem_of_getElem? (i := 763) (by decide +kernel), List.mem_of_getElem? (i := 764) (by decide +kernel)⟩
theorem lw_p67 : lw_okq (⟨"LiarClocksModel", "heardOf", "(III)I"⟩, 17) := ⟨⟨by decide +kernel, by decide +kernel⟩, List.mem_of_getElem? (i := 618) (by decide +kernel), List.mem_of_getElem? (i := 767) (by decide +kernel), List.mem_of_getElem? (i := 768) (by decide +kernel)⟩
theorem lw_p68 : lw_okq (⟨"LiarClocksModel", "put", "(II)V"⟩, 17) := ⟨⟨by decide +kernel, by decide +kernel⟩, List.mem_of_getElem? (i := 618) (by decide +kernel), List.mem_of_getElem? (i := 771) (by decide +kernel), List.mem_of_getElem? (i := 772) (by decide +kernel)⟩
theorem lw_p69 : lw_okq (⟨"LiarClocksModel", "middle", "(II)I"⟩, 17) := ⟨⟨by decide +kernel, by decide +kernel⟩, List.mem_of_getElem? (i := 618) (by decide +kernel), List.mem_of_getElem? (i := 775) (by decide +kernel), List.mem_of_getElem? (i := 776) (by decide +kernel)⟩
theorem lw_p70 : lw_okq (⟨"LiarClocksModel", "mayLie", "()I"⟩, 17) := ⟨⟨by decide +kernel, by decide +kernel⟩, List.mem_of_getElem? (i := 618) (by decide +kernel), List.mem_of_getElem? (i := 780) (by decide +kernel), List.mem_of_getElem? (i := 781) (by decide +kernel)⟩
theorem lw_p71 : lw_okq (⟨"LiarClocksModel", "rungSet", "()I"⟩, 17) := ⟨⟨by decide +kernel, by decide +kernel⟩, List.mem_of_getElem? (i := 618) (by decide +kernel), List.mem_of_getElem? (i := 784) (by decide +kernel), List.mem_of_getElem? (i := 785) (by decide +kernel)⟩
theorem lw_p72 : lw_okq (⟨"LiarClocksModel", "wrongEntry", "()I"⟩, 17) := ⟨⟨by decide +kernel, by decide +kernel⟩, List.mem_of_getElem? (i := 618) (by decide +kernel), List.mem_of_getElem? (i := 788) (by decide +kernel), List.mem_of_getElem? (i := 789) (by decide +kernel)⟩
theorem lw_p73 : lw_okq (⟨"LiarClocksModel", "isClock", "(I)Z"⟩, 17) := ⟨⟨by decide +kernel, by decide +kernel⟩, List.mem_of_getElem? (i := 618) (by decide +kernel), List.mem_of_getElem? (i := 792) (by decide +kernel), List.mem_of_getElem? (i := 793) (by decide +kernel)⟩
theorem lw_p74 : lw_okq (⟨"LiarClocksModel", "middleOf", "(II)I"⟩, 17) := ⟨⟨by decide +kernel, by decide +kernel⟩, List.mem_of_getElem? (i := 618) (by decide +kernel), List.mem_of_getElem? (i := 802) (by decide +kernel), List.mem_of_getElem? (i := 803) (by decide +kernel)⟩
theorem lw_p75 : lw_okq (⟨"LiarClocksModel", "arePair", "(II)Z"⟩, 17) := ⟨⟨by decide +kernel, by decide +kernel⟩, List.mem_of_getElem? (i := 618) (by decide +kernel), List.mem_of_getElem? (i := 810) (by decide +kernel), List.mem_of_getElem? (i := 811) (by decide +kernel)⟩
theorem lw_p76 : lw_okq (⟨"LiarClocksModel", "rank", "(II)I"⟩, 17) := ⟨⟨by decide +kernel, by decide +kernel⟩, List.mem_of_getElem? (i := 618) (by decide +kernel), List.mem_of_getElem? (i := 814) (by decide +kernel), List.mem_of_getElem? (i := 815) (by decide +kernel)⟩
theorem lw_p77 : lw_okq (⟨"LiarClocksModel", "farthest", "(II)I"⟩, 17) := ⟨⟨by decide +kernel, by decide +kernel⟩, List.mem_of_getElem? (i := 618) (by decide +kernel), List.mem_of_getElem? (i := 818) (by decide +kernel), List.mem_of_getElem? (i := 819) (by decide +kernel)⟩
theorem lw_p78 : lw_okq (⟨"LiarClocksModel", "remember", "()V"⟩, 17) := ⟨⟨by decide +kernel, by decide +kernel⟩, List.mem_of_getElem? (i := 618) (by decide +kernel), List.mem_of_getElem? (i := 830) (by decide +kernel), List.mem_of_getElem? (i := 831) (by decide +kernel)⟩
theorem lw_p79 : lw_okq (⟨"LiarClocksModel", "tickOne", "()V"⟩, 17) := ⟨⟨by decide +kernel, by decide +kernel⟩, List.mem_of_getElem? (i := 618) (by decide +kernel), List.mem_of_getElem? (i := 834) (by decide +kernel), List.mem_of_getElem? (i := 835) (by decide +kernel)⟩
def lw_privs_5 : List (MethodName × Nat) := [(⟨"LiarClocksModel", "liars", "()I"⟩, 17), (⟨"LiarClocksModel", "isLiar", "(II)Z"⟩, 17), (⟨"LiarClocksModel", "extreme", "(II)I"⟩, 17), (⟨"LiarClocksModel", "heardOf", "(III)I"⟩, 17), (⟨"LiarClocksModel", "put", "(II)V"⟩, 17), (⟨"LiarClocksModel", "middle", "(II)I"⟩, 17), (⟨"LiarClocksModel", "mayLie", "()I"⟩, 17), (⟨"LiarClocksModel", "rungSet", "()I"⟩, 17), (⟨"LiarClocksModel", "wrongEntry", "()I"⟩, 17), (⟨"LiarClocksModel", "isClock", "(I)Z"⟩, 17), (⟨"LiarClocksModel", "middleOf", "(II)I"⟩, 17), (⟨"LiarClocksModel", "arePair", "(II)Z"⟩, 17), (⟨"LiarClocksModel", "rank", "(II)I"⟩, 17), (⟨"LiarClocksModel", "farthest", "(II)I"⟩, 17), (⟨"LiarClocksModel", "remember", "()V"⟩, 17), (⟨"LiarClocksModel", "tickOne", "()V"⟩, 17)]
theorem lw_r5 : ∀ q ∈ lw_privs_5, lw_okq q := List.forall_mem_cons.mpr ⟨lw_p64, List.forall_mem_cons.mpr ⟨lw_p65, List.forall_mem_cons.mpr ⟨lw_p66, List.forall_mem_cons.mpr ⟨lw_p67, List.forall_mem_cons.mpr ⟨lw_p68, List.forall_mem_cons.mpr ⟨lw_p69, List.forall_mem_cons.mpr ⟨lw_p70, List.forall_mem_cons.mpr ⟨lw_p71, List.forall_mem_cons.mpr ⟨lw_p72, List.forall_mem_cons.mpr ⟨lw_p73, List.forall_mem_cons.mpr ⟨lw_p74, List.forall_mem_cons.mpr ⟨lw_p75, List.forall_mem_cons.mpr ⟨lw_p76, List.forall_mem_cons.mpr ⟨lw_p77, List.forall_mem_cons.mpr ⟨lw_p78, List.forall_mem_cons.mpr ⟨lw_p79, fun _ h => absurd h List.not_mem_nil⟩⟩⟩⟩⟩⟩⟩⟩⟩⟩⟩⟩⟩⟩⟩⟩
theorem lw_p80 : lw_okq (⟨"LiarClocksModel", "roundIn", "(I)V"⟩, 17) := ⟨⟨by decide +kernel, by decide +kernel⟩, List.mem_of_getElem? (i := 618) (by decide +kernel), List.mem_of_getElem? (i := 842) (by decide +kernel), List.mem_of_getElem? (i := 843) (by decide +kernel)⟩
theorem lw_p81 : lw_okq (⟨"LiarClocksModel", "manyOf", "(I)I"⟩, 17) := ⟨⟨by decide +kernel, by decide +kernel⟩, List.mem_of_getElem? (i := 618) (by decide +kernel), List.mem_of_getElem? (i := 858) (by decide +kernel), List.mem_of_getElem? (i := 859) (by decide +kernel)⟩
theorem lw_p82 : lw_okq (⟨"LiarClocksModel", "time", "()V"⟩, 17) := ⟨⟨by decide +kernel, by decide +kernel⟩, List.mem_of_getElem? (i := 618) (by decide +kernel), List.mem_of_getElem? (i := 880) (by decide +kernel), List.mem_of_getElem? (i := 881) (by decide +kernel)⟩
theorem lw_p83 : lw_okq (⟨"LiarClocksModel", "draw", "(I)I"⟩, 17) := ⟨⟨by decide +kernel, by decide +kernel⟩, List.mem_of_getElem? (i := 618) (by decide +kernel), List.mem_of_getElem? (i := 884) (by decide +kernel), List.mem_of_getElem? (i := 885) (by decide +kernel)⟩
def lw_privs_6 : List (MethodName × Nat) := [(⟨"LiarClocksModel", "roundIn", "(I)V"⟩, 17), (⟨"LiarClocksModel", "manyOf", "(I)I"⟩, 17), (⟨"LiarClocksModel", "time", "()V"⟩, 17), (⟨"LiarClocksModel", "draw", "(I)I"⟩, 17)]
theorem lw_r6 : ∀ q ∈ lw_privs_6, lw_okq q := List.forall_mem_cons.mpr ⟨lw_p80, List.forall_mem_cons.mpr ⟨lw_p81, List.forall_mem_cons.mpr ⟨lw_p82, List.forall_mem_cons.mpr ⟨lw_p83, fun _ h => absurd h List.not_mem_nil⟩⟩⟩⟩
def lw_privs : List (MethodName × Nat) := lw_privs_1 ++ (lw_privs_2 ++ (lw_privs_3 ++ (lw_privs_4 ++ (lw_privs_5 ++ (lw_privs_6)))))
def lw_tbl : List Cond := k2_sels lw_privs ++ tables_1
theorem lw_privs_ok : ∀ q ∈ lw_privs, lw_okq q := by
  show ∀ q ∈ lw_privs_1 ++ (lw_privs_2 ++ (lw_privs_3 ++ (lw_privs_4 ++ (lw_privs_5 ++ (lw_privs_6))))), lw_okq q
  exact List.forall_mem_append.mpr ⟨lw_r1, List.forall_mem_append.mpr ⟨lw_r2, List.forall_mem_append.mpr ⟨lw_r3, List.forall_mem_append.mpr ⟨lw_r4, List.forall_mem_append.mpr ⟨lw_r5, lw_r6⟩⟩⟩⟩⟩
end
section
def RX0 : String := "LiarClocks$Book"
def TX0 : u_T := fun k => match k with
  | 0 => ("LiarClocks$Book", "clock", "[I", true)
  | 1 => ("LiarClocks$Book", "aim", "[I", true)
  | _ => ("LiarClocks$Book", "size", "I", false)
def tyX0 : Nat → FieldType := fun k => match k with
  | 0 => .array .int
  | 1 => .array .int
  | _ => .int
theorem nmX0 : ∀ a, a < 3 → ∀ b, b < 3 → a ≠ b → (TX0 a).2.1 ≠ (TX0 b).2.1 := by decide +kernel
theorem tyX0_ok : ∀ k, k < 3 → parseFieldDescriptor (TX0 k).2.2.1 = some (tyX0 k) := by decide +kernel
abbrev cX0_init : ByteArray := prog_2_method_1_code
def yX0_init : MethodName := ⟨RX0, "<init>", "()V"⟩
abbrev cX0_append : ByteArray := prog_2_method_2_code
def yX0_append : MethodName := ⟨RX0, "append", "(II)I"⟩
abbrev cX0_firstWrong : ByteArray := prog_2_method_3_code
def yX0_firstWrong : MethodName := ⟨RX0, "firstWrong", "(LLiarClocks$State;)I"⟩
def RX1 : String := "LiarClocks$Council"
def TX1 : u_T := fun k => match k with
  | 0 => ("LiarClocks$Council", "hearing", "LLiarClocks$Hearing;", true)
  | 1 => ("LiarClocks$Council", "middles", "[I", true)
  | 2 => ("LiarClocks$Council", "low", "[I", true)
  | _ => ("LiarClocks$Council", "high", "[I", true)
def tyX1 : Nat → FieldType := fun k => match k with
  | 0 => .object "LiarClocks$Hearing"
  | 1 => .array .int
  | 2 => .array .int
  | _ => .array .int
theorem nmX1 : ∀ a, a < 4 → ∀ b, b < 4 → a ≠ b → (TX1 a).2.1 ≠ (TX1 b).2.1 := by decide +kernel
theorem tyX1_ok : ∀ k, k < 4 → parseFieldDescriptor (TX1 k).2.2.1 = some (tyX1 k) := by decide +kernel
abbrev cX1_init : ByteArray := prog_3_method_1_code
def yX1_init : MethodName := ⟨RX1, "<init>", "()V"⟩
abbrev cX1_middleFor : ByteArray := prog_3_method_2_code
def yX1_middleFor : MethodName := ⟨RX1, "middleFor", "(LLiarClocks$State;I)I"⟩
abbrev cX1_meet : ByteArray := prog_3_method_3_code
def yX1_meet : MethodName := ⟨RX1, "meet", "(LLiarClocks$State;)V"⟩
abbrev cX1_canJoin : ByteArray := prog_3_method_4_code
def yX1_canJoin : MethodName := ⟨RX1, "canJoin", "(LLiarClocks$State;I)Z"⟩
abbrev cX1_letJoin : ByteArray := prog_3_method_5_code
def yX1_letJoin : MethodName := ⟨RX1, "letJoin", "(LLiarClocks$State;I)V"⟩
abbrev cX1_hearToJoin : ByteArray := prog_3_method_6_code
def yX1_hearToJoin : MethodName := ⟨RX1, "hearToJoin", "(LLiarClocks$State;I)V"⟩
abbrev cX1_middleByLie : ByteArray := prog_3_method_7_code
def yX1_middleByLie : MethodName := ⟨RX1, "middleByLie", "(LLiarClocks$State;III)I"⟩
abbrev cX1_farthest : ByteArray := prog_3_method_8_code
def yX1_farthest : MethodName := ⟨RX1, "farthest", "(LLiarClocks$State;II)I"⟩
abbrev cX1_worst : ByteArray := prog_3_method_9_code
def yX1_worst : MethodName := ⟨RX1, "worst", "(LLiarClocks$State;)I"⟩
abbrev cX1_middleWithLiarsAt : ByteArray := prog_3_method_10_code
def yX1_middleWithLiarsAt : MethodName := ⟨RX1, "middleWithLiarsAt", "(LLiarClocks$State;II)I"⟩
abbrev cX1_widestPair : ByteArray := prog_3_method_11_code
def yX1_widestPair : MethodName := ⟨RX1, "widestPair", "(LLiarClocks$State;)I"⟩
def RX2 : String := "LiarClocks$Draws"
def TX2 : u_T := fun k => match k with
  | _ => ("LiarClocks$Draws", "current", "I", false)
def tyX2 : Nat → FieldType := fun k => match k with
  | _ => .int
theorem nmX2 : ∀ a, a < 1 → ∀ b, b < 1 → a ≠ b → (TX2 a).2.1 ≠ (TX2 b).2.1 := by decide +kernel
theorem tyX2_ok : ∀ k, k < 1 → parseFieldDescriptor (TX2 k).2.2.1 = some (tyX2 k) := by decide +kernel
abbrev cX2_init : ByteArray := prog_4_method_1_code
def yX2_init : MethodName := ⟨RX2, "<init>", "()V"⟩
abbrev cX2_next : ByteArray := prog_4_method_2_code
def yX2_next : MethodName := ⟨RX2, "next", "(I)I"⟩
def RX3 : String := "LiarClocks$Hearing"
def TX3 : u_T := fun k => match k with
  | 0 => ("LiarClocks$Hearing", "order", "[I", true)
  | _ => ("LiarClocks$Hearing", "size", "I", false)
def tyX3 : Nat → FieldType := fun k => match k with
  | 0 => .array .int
  | _ => .int
theorem nmX3 : ∀ a, a < 2 → ∀ b, b < 2 → a ≠ b → (TX3 a).2.1 ≠ (TX3 b).2.1 := by decide +kernel
theorem tyX3_ok : ∀ k, k < 2 → parseFieldDescriptor (TX3 k).2.2.1 = some (tyX3 k) := by decide +kernel
abbrev cX3_init : ByteArray := prog_5_method_1_code
def yX3_init : MethodName := ⟨RX3, "<init>", "()V"⟩
abbrev cX3_take : ByteArray := prog_5_method_2_code
def yX3_take : MethodName := ⟨RX3, "take", "(I)V"⟩
abbrev cX3_leaves : ByteArray := prog_5_method_3_code
def yX3_leaves : MethodName := ⟨RX3, "leaves", "(I)Z"⟩
abbrev cX3_middle : ByteArray := prog_5_method_4_code
def yX3_middle : MethodName := ⟨RX3, "middle", "(I)I"⟩
def RX4 : String := "LiarClocks$History"
def TX4 : u_T := fun k => match k with
  | 0 => ("LiarClocks$History", "states", "[LLiarClocks$State;", true)
  | 1 => ("LiarClocks$History", "next", "I", false)
  | _ => ("LiarClocks$History", "size", "I", false)
def tyX4 : Nat → FieldType := fun k => match k with
  | 0 => .array (.object "LiarClocks$State")
  | 1 => .int
  | _ => .int
theorem nmX4 : ∀ a, a < 3 → ∀ b, b < 3 → a ≠ b → (TX4 a).2.1 ≠ (TX4 b).2.1 := by decide +kernel
theorem tyX4_ok : ∀ k, k < 3 → parseFieldDescriptor (TX4 k).2.2.1 = some (tyX4 k) := by decide +kernel
abbrev cX4_init : ByteArray := prog_6_method_1_code
def yX4_init : MethodName := ⟨RX4, "<init>", "()V"⟩
abbrev cX4_remember : ByteArray := prog_6_method_2_code
def yX4_remember : MethodName := ⟨RX4, "remember", "(LLiarClocks$State;)V"⟩
abbrev cX4_takeBack : ByteArray := prog_6_method_3_code
def yX4_takeBack : MethodName := ⟨RX4, "takeBack", "(ILLiarClocks$State;)V"⟩
abbrev cX4_forget : ByteArray := prog_6_method_4_code
def yX4_forget : MethodName := ⟨RX4, "forget", "()V"⟩
def RX5 : String := "LiarClocks$State"
def TX5 : u_T := fun k => match k with
  | 0 => ("LiarClocks$State", "count", "I", false)
  | 1 => ("LiarClocks$State", "strike", "I", false)
  | 2 => ("LiarClocks$State", "step", "I", false)
  | 3 => ("LiarClocks$State", "liars", "I", false)
  | 4 => ("LiarClocks$State", "standing", "I", false)
  | 5 => ("LiarClocks$State", "alarms", "I", false)
  | 6 => ("LiarClocks$State", "rung", "I", false)
  | 7 => ("LiarClocks$State", "times", "I", false)
  | 8 => ("LiarClocks$State", "value", "[I", true)
  | 9 => ("LiarClocks$State", "rate", "[I", true)
  | 10 => ("LiarClocks$State", "ahead", "[I", true)
  | 11 => ("LiarClocks$State", "lie", "[I", true)
  | 12 => ("LiarClocks$State", "error", "[I", true)
  | 13 => ("LiarClocks$State", "alarmClock", "[I", true)
  | _ => ("LiarClocks$State", "alarmValue", "[I", true)
def tyX5 : Nat → FieldType := fun k => match k with
  | 0 => .int
  | 1 => .int
  | 2 => .int
  | 3 => .int
  | 4 => .int
  | 5 => .int
  | 6 => .int
  | 7 => .int
  | 8 => .array .int
  | 9 => .array .int
  | 10 => .array .int
  | 11 => .array .int
  | 12 => .array .int
  | 13 => .array .int
  | _ => .array .int
theorem nmX5 : ∀ a, a < 15 → ∀ b, b < 15 → a ≠ b → (TX5 a).2.1 ≠ (TX5 b).2.1 := by decide +kernel
theorem tyX5_ok : ∀ k, k < 15 → parseFieldDescriptor (TX5 k).2.2.1 = some (tyX5 k) := by decide +kernel
abbrev cX5_init : ByteArray := prog_7_method_1_code
def yX5_init : MethodName := ⟨RX5, "<init>", "()V"⟩
abbrev cX5_way : ByteArray := prog_7_method_2_code
def yX5_way : MethodName := ⟨RX5, "way", "(II)I"⟩
abbrev cX5_clear : ByteArray := prog_7_method_3_code
def yX5_clear : MethodName := ⟨RX5, "clear", "()V"⟩
abbrev cX5_copyFrom : ByteArray := prog_7_method_4_code
def yX5_copyFrom : MethodName := ⟨RX5, "copyFrom", "(LLiarClocks$State;)V"⟩
abbrev cX5_addClock : ByteArray := prog_7_method_5_code
def yX5_addClock : MethodName := ⟨RX5, "addClock", "(II)V"⟩
abbrev cX5_has : ByteArray := prog_7_method_6_code
def yX5_has : MethodName := ⟨RX5, "has", "(I)Z"⟩
abbrev cX5_hasBoth : ByteArray := prog_7_method_7_code
def yX5_hasBoth : MethodName := ⟨RX5, "hasBoth", "(II)Z"⟩
abbrev cX5_lies : ByteArray := prog_7_method_8_code
def yX5_lies : MethodName := ⟨RX5, "lies", "(I)Z"⟩
abbrev cX5_stands : ByteArray := prog_7_method_9_code
def yX5_stands : MethodName := ⟨RX5, "stands", "(I)Z"⟩
abbrev cX5_isTrue : ByteArray := prog_7_method_10_code
def yX5_isTrue : MethodName := ⟨RX5, "isTrue", "(I)Z"⟩
abbrev cX5_tellsLies : ByteArray := prog_7_method_11_code
def yX5_tellsLies : MethodName := ⟨RX5, "tellsLies", "(I)Z"⟩
abbrev cX5_trueSet : ByteArray := prog_7_method_12_code
def yX5_trueSet : MethodName := ⟨RX5, "trueSet", "()I"⟩
abbrev cX5_aim : ByteArray := prog_7_method_13_code
def yX5_aim : MethodName := ⟨RX5, "aim", "(I)I"⟩
abbrev cX5_heardOf : ByteArray := prog_7_method_14_code
def yX5_heardOf : MethodName := ⟨RX5, "heardOf", "(II)I"⟩
abbrev cX5_allStruck : ByteArray := prog_7_method_15_code
def yX5_allStruck : MethodName := ⟨RX5, "allStruck", "()Z"⟩
abbrev cX5_rank : ByteArray := prog_7_method_16_code
def yX5_rank : MethodName := ⟨RX5, "rank", "(II)I"⟩
abbrev cX5_apart : ByteArray := prog_7_method_17_code
def yX5_apart : MethodName := ⟨RX5, "apart", "()I"⟩
abbrev cX5_mayLie : ByteArray := prog_7_method_18_code
def yX5_mayLie : MethodName := ⟨RX5, "mayLie", "()I"⟩
abbrev cX5_goOn : ByteArray := prog_7_method_19_code
def yX5_goOn : MethodName := ⟨RX5, "goOn", "()I"⟩
abbrev cX5_setAlarm : ByteArray := prog_7_method_20_code
def yX5_setAlarm : MethodName := ⟨RX5, "setAlarm", "(II)I"⟩
abbrev cX5_ring : ByteArray := prog_7_method_21_code
def yX5_ring : MethodName := ⟨RX5, "ring", "()I"⟩
def RX6 : String := "LiarClocks$Text"
def TX6 : u_T := fun k => match k with
  | 0 => ("LiarClocks$Text", "letters", "[I", true)
  | 1 => ("LiarClocks$Text", "length", "I", false)
  | 2 => ("LiarClocks$Text", "at", "I", false)
  | 3 => ("LiarClocks$Text", "numberAt", "I", false)
  | 4 => ("LiarClocks$Text", "faultKind", "I", false)
  | 5 => ("LiarClocks$Text", "faultAt", "I", false)
  | 6 => ("LiarClocks$Text", "strikeTold", "Z", false)
  | _ => ("LiarClocks$Text", "stepTold", "Z", false)
def tyX6 : Nat → FieldType := fun k => match k with
  | 0 => .array .int
  | 1 => .int
  | 2 => .int
  | 3 => .int
  | 4 => .int
  | 5 => .int
  | 6 => .boolean
  | _ => .boolean
theorem nmX6 : ∀ a, a < 8 → ∀ b, b < 8 → a ≠ b → (TX6 a).2.1 ≠ (TX6 b).2.1 := by decide +kernel
theorem tyX6_ok : ∀ k, k < 8 → parseFieldDescriptor (TX6 k).2.2.1 = some (tyX6 k) := by decide +kernel
abbrev cX6_init : ByteArray := prog_8_method_1_code
def yX6_init : MethodName := ⟨RX6, "<init>", "()V"⟩
abbrev cX6_append : ByteArray := prog_8_method_2_code
def yX6_append : MethodName := ⟨RX6, "append", "(I)I"⟩
abbrev cX6_readInto : ByteArray := prog_8_method_3_code
def yX6_readInto : MethodName := ⟨RX6, "readInto", "(LLiarClocks$State;)I"⟩
abbrev cX6_readClause : ByteArray := prog_8_method_4_code
def yX6_readClause : MethodName := ⟨RX6, "readClause", "(LLiarClocks$State;)V"⟩
abbrev cX6_readClock : ByteArray := prog_8_method_5_code
def yX6_readClock : MethodName := ⟨RX6, "readClock", "(LLiarClocks$State;)V"⟩
abbrev cX6_readLiar : ByteArray := prog_8_method_6_code
def yX6_readLiar : MethodName := ⟨RX6, "readLiar", "(LLiarClocks$State;)V"⟩
abbrev cX6_readStrike : ByteArray := prog_8_method_7_code
def yX6_readStrike : MethodName := ⟨RX6, "readStrike", "(LLiarClocks$State;)V"⟩
abbrev cX6_readStep : ByteArray := prog_8_method_8_code
def yX6_readStep : MethodName := ⟨RX6, "readStep", "(LLiarClocks$State;)V"⟩
abbrev cX6_readNumber : ByteArray := prog_8_method_9_code
def yX6_readNumber : MethodName := ⟨RX6, "readNumber", "(II)I"⟩
abbrev cX6_note : ByteArray := prog_8_method_10_code
def yX6_note : MethodName := ⟨RX6, "note", "(II)V"⟩
abbrev cX6_skipBlanks : ByteArray := prog_8_method_11_code
def yX6_skipBlanks : MethodName := ⟨RX6, "skipBlanks", "()V"⟩
abbrev cX6_letter : ByteArray := prog_8_method_12_code
def yX6_letter : MethodName := ⟨RX6, "letter", "()I"⟩
abbrev cX6_isFigure : ByteArray := prog_8_method_13_code
def yX6_isFigure : MethodName := ⟨RX6, "isFigure", "(I)Z"⟩
def RX7 : String := "LiarClocks"
def TX7 : u_T := fun k => match k with
  | 0 => ("LiarClocks", "now", "LLiarClocks$State;", true)
  | 1 => ("LiarClocks", "trial", "LLiarClocks$State;", true)
  | 2 => ("LiarClocks", "text", "LLiarClocks$Text;", true)
  | 3 => ("LiarClocks", "council", "LLiarClocks$Council;", true)
  | 4 => ("LiarClocks", "history", "LLiarClocks$History;", true)
  | 5 => ("LiarClocks", "book", "LLiarClocks$Book;", true)
  | 6 => ("LiarClocks", "draws", "LLiarClocks$Draws;", true)
  | 7 => ("LiarClocks", "images", "[LLiarClocks$State;", true)
  | 8 => ("LiarClocks", "imageSeeds", "[I", true)
  | _ => ("LiarClocks", "kept", "[Z", true)
def tyX7 : Nat → FieldType := fun k => match k with
  | 0 => .object "LiarClocks$State"
  | 1 => .object "LiarClocks$State"
  | 2 => .object "LiarClocks$Text"
  | 3 => .object "LiarClocks$Council"
  | 4 => .object "LiarClocks$History"
  | 5 => .object "LiarClocks$Book"
  | 6 => .object "LiarClocks$Draws"
  | 7 => .array (.object "LiarClocks$State")
  | 8 => .array .int
  | _ => .array .boolean
theorem nmX7 : ∀ a, a < 10 → ∀ b, b < 10 → a ≠ b → (TX7 a).2.1 ≠ (TX7 b).2.1 := by decide +kernel
theorem tyX7_ok : ∀ k, k < 10 → parseFieldDescriptor (TX7 k).2.2.1 = some (tyX7 k) := by decide +kernel
abbrev cX7_init : ByteArray := prog_1_method_1_code
def yX7_init : MethodName := ⟨RX7, "<init>", "()V"⟩
abbrev cX7_feed : ByteArray := prog_1_method_2_code
def yX7_feed : MethodName := ⟨RX7, "feed", "(I)I"⟩
abbrev cX7_clocks : ByteArray := prog_1_method_3_code
def yX7_clocks : MethodName := ⟨RX7, "clocks", "()I"⟩
abbrev cX7_fault : ByteArray := prog_1_method_4_code
def yX7_fault : MethodName := ⟨RX7, "fault", "()I"⟩
abbrev cX7_told : ByteArray := prog_1_method_5_code
def yX7_told : MethodName := ⟨RX7, "told", "(I)I"⟩
abbrev cX7_clock : ByteArray := prog_1_method_6_code
def yX7_clock : MethodName := ⟨RX7, "clock", "(II)I"⟩
abbrev cX7_heard : ByteArray := prog_1_method_7_code
def yX7_heard : MethodName := ⟨RX7, "heard", "(III)I"⟩
abbrev cX7_alarmAt : ByteArray := prog_1_method_8_code
def yX7_alarmAt : MethodName := ⟨RX7, "alarmAt", "(II)I"⟩
abbrev cX7_tick : ByteArray := prog_1_method_9_code
def yX7_tick : MethodName := ⟨RX7, "tick", "(I)I"⟩
abbrev cX7_round : ByteArray := prog_1_method_10_code
def yX7_round : MethodName := ⟨RX7, "round", "()I"⟩
abbrev cX7_lie : ByteArray := prog_1_method_11_code
def yX7_lie : MethodName := ⟨RX7, "lie", "(III)I"⟩
abbrev cX7_error : ByteArray := prog_1_method_12_code
def yX7_error : MethodName := ⟨RX7, "error", "(III)I"⟩
abbrev cX7_liar : ByteArray := prog_1_method_13_code
def yX7_liar : MethodName := ⟨RX7, "liar", "(IZ)I"⟩
abbrev cX7_stand : ByteArray := prog_1_method_14_code
def yX7_stand : MethodName := ⟨RX7, "stand", "(I)I"⟩
abbrev cX7_join : ByteArray := prog_1_method_15_code
def yX7_join : MethodName := ⟨RX7, "join", "(I)I"⟩
abbrev cX7_alarm : ByteArray := prog_1_method_16_code
def yX7_alarm : MethodName := ⟨RX7, "alarm", "(II)I"⟩
abbrev cX7_drift : ByteArray := prog_1_method_17_code
def yX7_drift : MethodName := ⟨RX7, "drift", "(I)I"⟩
abbrev cX7_undo : ByteArray := prog_1_method_18_code
def yX7_undo : MethodName := ⟨RX7, "undo", "(I)I"⟩
abbrev cX7_behind : ByteArray := prog_1_method_19_code
def yX7_behind : MethodName := ⟨RX7, "behind", "(I)I"⟩
abbrev cX7_within : ByteArray := prog_1_method_20_code
def yX7_within : MethodName := ⟨RX7, "within", "(I)I"⟩
abbrev cX7_write : ByteArray := prog_1_method_21_code
def yX7_write : MethodName := ⟨RX7, "write", "(II)I"⟩
abbrev cX7_tear : ByteArray := prog_1_method_22_code
def yX7_tear : MethodName := ⟨RX7, "tear", "()I"⟩
abbrev cX7_seed : ByteArray := prog_1_method_23_code
def yX7_seed : MethodName := ⟨RX7, "seed", "(I)I"⟩
abbrev cX7_keep : ByteArray := prog_1_method_24_code
def yX7_keep : MethodName := ⟨RX7, "keep", "(I)I"⟩
abbrev cX7_goBack : ByteArray := prog_1_method_25_code
def yX7_goBack : MethodName := ⟨RX7, "goBack", "(I)I"⟩
abbrev cX7_between : ByteArray := prog_1_method_26_code
def yX7_between : MethodName := ⟨RX7, "between", "(III)Z"⟩
abbrev cX7_driftOnce : ByteArray := prog_1_method_27_code
def yX7_driftOnce : MethodName := ⟨RX7, "driftOnce", "()V"⟩
def RX8 : String := "LiarClocksModel"
def TX8 : u_T := fun k => match k with
  | 0 => ("LiarClocksModel", "w", "[I", true)
  | 1 => ("LiarClocksModel", "known", "I", false)
  | 2 => ("LiarClocksModel", "kept", "I", false)
  | 3 => ("LiarClocksModel", "text", "[I", true)
  | 4 => ("LiarClocksModel", "size", "I", false)
  | 5 => ("LiarClocksModel", "fault", "I", false)
  | 6 => ("LiarClocksModel", "bookOf", "[I", true)
  | 7 => ("LiarClocksModel", "bookAim", "[I", true)
  | 8 => ("LiarClocksModel", "written", "I", false)
  | 9 => ("LiarClocksModel", "order", "[I", true)
  | 10 => ("LiarClocksModel", "next", "[I", true)
  | 11 => ("LiarClocksModel", "at", "I", false)
  | 12 => ("LiarClocksModel", "wrong", "I", false)
  | 13 => ("LiarClocksModel", "place", "I", false)
  | 14 => ("LiarClocksModel", "from", "I", false)
  | 15 => ("LiarClocksModel", "toldF", "I", false)
  | _ => ("LiarClocksModel", "toldS", "I", false)
def tyX8 : Nat → FieldType := fun k => match k with
  | 0 => .array .int
  | 1 => .int
  | 2 => .int
  | 3 => .array .int
  | 4 => .int
  | 5 => .int
  | 6 => .array .int
  | 7 => .array .int
  | 8 => .int
  | 9 => .array .int
  | 10 => .array .int
  | 11 => .int
  | 12 => .int
  | 13 => .int
  | 14 => .int
  | 15 => .int
  | _ => .int
theorem nmX8 : ∀ a, a < 17 → ∀ b, b < 17 → a ≠ b → (TX8 a).2.1 ≠ (TX8 b).2.1 := by decide +kernel
theorem tyX8_ok : ∀ k, k < 17 → parseFieldDescriptor (TX8 k).2.2.1 = some (tyX8 k) := by decide +kernel
abbrev cX8_init : ByteArray := prog_10_method_1_code
def yX8_init : MethodName := ⟨RX8, "<init>", "()V"⟩
abbrev cX8_in : ByteArray := prog_10_method_3_code
def yX8_in : MethodName := ⟨RX8, "in", "(III)Z"⟩
abbrev cX8_has : ByteArray := prog_10_method_4_code
def yX8_has : MethodName := ⟨RX8, "has", "(II)Z"⟩
abbrev cX8_copyRow : ByteArray := prog_10_method_5_code
def yX8_copyRow : MethodName := ⟨RX8, "copyRow", "(II)V"⟩
abbrev cX8_isClock : ByteArray := prog_10_method_6_code
def yX8_isClock : MethodName := ⟨RX8, "isClock", "(I)Z"⟩
abbrev cX8_aim : ByteArray := prog_10_method_7_code
def yX8_aim : MethodName := ⟨RX8, "aim", "(II)I"⟩
abbrev cX8_isTrue : ByteArray := prog_10_method_8_code
def yX8_isTrue : MethodName := ⟨RX8, "isTrue", "(II)Z"⟩
abbrev cX8_isLiar : ByteArray := prog_10_method_9_code
def yX8_isLiar : MethodName := ⟨RX8, "isLiar", "(II)Z"⟩
abbrev cX8_feed : ByteArray := prog_10_method_10_code
def yX8_feed : MethodName := ⟨RX8, "feed", "(I)I"⟩
abbrev cX8_fine : ByteArray := prog_10_method_11_code
def yX8_fine : MethodName := ⟨RX8, "fine", "()Z"⟩
abbrev cX8_fail : ByteArray := prog_10_method_12_code
def yX8_fail : MethodName := ⟨RX8, "fail", "(II)V"⟩
abbrev cX8_here : ByteArray := prog_10_method_13_code
def yX8_here : MethodName := ⟨RX8, "here", "()I"⟩
abbrev cX8_number : ByteArray := prog_10_method_14_code
def yX8_number : MethodName := ⟨RX8, "number", "(II)I"⟩
abbrev cX8_readClock : ByteArray := prog_10_method_15_code
def yX8_readClock : MethodName := ⟨RX8, "readClock", "(I)V"⟩
abbrev cX8_readOther : ByteArray := prog_10_method_16_code
def yX8_readOther : MethodName := ⟨RX8, "readOther", "(II)V"⟩
abbrev cX8_readClause : ByteArray := prog_10_method_17_code
def yX8_readClause : MethodName := ⟨RX8, "readClause", "()V"⟩
abbrev cX8_clocks : ByteArray := prog_10_method_18_code
def yX8_clocks : MethodName := ⟨RX8, "clocks", "()I"⟩
abbrev cX8_fault : ByteArray := prog_10_method_19_code
def yX8_fault : MethodName := ⟨RX8, "fault", "()I"⟩
abbrev cX8_heardOf : ByteArray := prog_10_method_20_code
def yX8_heardOf : MethodName := ⟨RX8, "heardOf", "(III)I"⟩
abbrev cX8_put : ByteArray := prog_10_method_21_code
def yX8_put : MethodName := ⟨RX8, "put", "(II)V"⟩
abbrev cX8_allStruck : ByteArray := prog_10_method_22_code
def yX8_allStruck : MethodName := ⟨RX8, "allStruck", "(II)Z"⟩
abbrev cX8_middle : ByteArray := prog_10_method_23_code
def yX8_middle : MethodName := ⟨RX8, "middle", "(II)I"⟩
abbrev cX8_middleOf : ByteArray := prog_10_method_24_code
def yX8_middleOf : MethodName := ⟨RX8, "middleOf", "(II)I"⟩
abbrev cX8_roundIn : ByteArray := prog_10_method_25_code
def yX8_roundIn : MethodName := ⟨RX8, "roundIn", "(I)V"⟩
abbrev cX8_apart : ByteArray := prog_10_method_26_code
def yX8_apart : MethodName := ⟨RX8, "apart", "(I)I"⟩
abbrev cX8_tickOne : ByteArray := prog_10_method_27_code
def yX8_tickOne : MethodName := ⟨RX8, "tickOne", "()V"⟩
abbrev cX8_liars : ByteArray := prog_10_method_28_code
def yX8_liars : MethodName := ⟨RX8, "liars", "()I"⟩
abbrev cX8_extreme : ByteArray := prog_10_method_29_code
def yX8_extreme : MethodName := ⟨RX8, "extreme", "(II)I"⟩
abbrev cX8_worst : ByteArray := prog_10_method_30_code
def yX8_worst : MethodName := ⟨RX8, "worst", "()I"⟩
abbrev cX8_mayLie : ByteArray := prog_10_method_31_code
def yX8_mayLie : MethodName := ⟨RX8, "mayLie", "()I"⟩
abbrev cX8_rank : ByteArray := prog_10_method_32_code
def yX8_rank : MethodName := ⟨RX8, "rank", "(II)I"⟩
abbrev cX8_farthest : ByteArray := prog_10_method_33_code
def yX8_farthest : MethodName := ⟨RX8, "farthest", "(II)I"⟩
abbrev cX8_setOf : ByteArray := prog_10_method_34_code
def yX8_setOf : MethodName := ⟨RX8, "setOf", "(I)I"⟩
abbrev cX8_rungSet : ByteArray := prog_10_method_35_code
def yX8_rungSet : MethodName := ⟨RX8, "rungSet", "()I"⟩
abbrev cX8_wrongEntry : ByteArray := prog_10_method_36_code
def yX8_wrongEntry : MethodName := ⟨RX8, "wrongEntry", "()I"⟩
abbrev cX8_told : ByteArray := prog_10_method_37_code
def yX8_told : MethodName := ⟨RX8, "told", "(I)I"⟩
abbrev cX8_clock : ByteArray := prog_10_method_38_code
def yX8_clock : MethodName := ⟨RX8, "clock", "(II)I"⟩
abbrev cX8_arePair : ByteArray := prog_10_method_39_code
def yX8_arePair : MethodName := ⟨RX8, "arePair", "(II)Z"⟩
abbrev cX8_heard : ByteArray := prog_10_method_40_code
def yX8_heard : MethodName := ⟨RX8, "heard", "(III)I"⟩
abbrev cX8_alarmAt : ByteArray := prog_10_method_41_code
def yX8_alarmAt : MethodName := ⟨RX8, "alarmAt", "(II)I"⟩
abbrev cX8_remember : ByteArray := prog_10_method_42_code
def yX8_remember : MethodName := ⟨RX8, "remember", "()V"⟩
abbrev cX8_tick : ByteArray := prog_10_method_43_code
def yX8_tick : MethodName := ⟨RX8, "tick", "(I)I"⟩
abbrev cX8_round : ByteArray := prog_10_method_44_code
def yX8_round : MethodName := ⟨RX8, "round", "()I"⟩
abbrev cX8_lie : ByteArray := prog_10_method_45_code
def yX8_lie : MethodName := ⟨RX8, "lie", "(III)I"⟩
abbrev cX8_error : ByteArray := prog_10_method_46_code
def yX8_error : MethodName := ⟨RX8, "error", "(III)I"⟩
abbrev cX8_manyOf : ByteArray := prog_10_method_47_code
def yX8_manyOf : MethodName := ⟨RX8, "manyOf", "(I)I"⟩
abbrev cX8_liar : ByteArray := prog_10_method_48_code
def yX8_liar : MethodName := ⟨RX8, "liar", "(IZ)I"⟩
abbrev cX8_stand : ByteArray := prog_10_method_49_code
def yX8_stand : MethodName := ⟨RX8, "stand", "(I)I"⟩
abbrev cX8_join : ByteArray := prog_10_method_50_code
def yX8_join : MethodName := ⟨RX8, "join", "(I)I"⟩
abbrev cX8_alarm : ByteArray := prog_10_method_51_code
def yX8_alarm : MethodName := ⟨RX8, "alarm", "(II)I"⟩
abbrev cX8_draw : ByteArray := prog_10_method_52_code
def yX8_draw : MethodName := ⟨RX8, "draw", "(I)I"⟩
abbrev cX8_time : ByteArray := prog_10_method_53_code
def yX8_time : MethodName := ⟨RX8, "time", "()V"⟩
abbrev cX8_drift : ByteArray := prog_10_method_54_code
def yX8_drift : MethodName := ⟨RX8, "drift", "(I)I"⟩
abbrev cX8_undo : ByteArray := prog_10_method_55_code
def yX8_undo : MethodName := ⟨RX8, "undo", "(I)I"⟩
abbrev cX8_behind : ByteArray := prog_10_method_56_code
def yX8_behind : MethodName := ⟨RX8, "behind", "(I)I"⟩
abbrev cX8_within : ByteArray := prog_10_method_57_code
def yX8_within : MethodName := ⟨RX8, "within", "(I)I"⟩
abbrev cX8_write : ByteArray := prog_10_method_58_code
def yX8_write : MethodName := ⟨RX8, "write", "(II)I"⟩
abbrev cX8_tear : ByteArray := prog_10_method_59_code
def yX8_tear : MethodName := ⟨RX8, "tear", "()I"⟩
abbrev cX8_seed : ByteArray := prog_10_method_60_code
def yX8_seed : MethodName := ⟨RX8, "seed", "(I)I"⟩
abbrev cX8_keep : ByteArray := prog_10_method_61_code
def yX8_keep : MethodName := ⟨RX8, "keep", "(I)I"⟩
abbrev cX8_goBack : ByteArray := prog_10_method_62_code
def yX8_goBack : MethodName := ⟨RX8, "goBack", "(I)I"⟩
def RJ6 : String := "java/lang/Integer"
def TJ6 : u_T := fun k => match k with
  | _ => ("", "", "", false)
def tyJ6 : Nat → FieldType := fun k => match k with
  | _ => .int
theorem nmJ6 : ∀ a, a < 0 → ∀ b, b < 0 → a ≠ b → (TJ6 a).2.1 ≠ (TJ6 b).2.1 := by decide +kernel
theorem tyJ6_ok : ∀ k, k < 0 → parseFieldDescriptor (TJ6 k).2.2.1 = some (tyJ6 k) := by decide +kernel
abbrev cJ6_bitCount_0f7a4 : ByteArray := prog_11_method_49_code
def yJ6_bitCount_0f7a4 : MethodName := ⟨RJ6, "bitCount", "(I)I"⟩
def RJ9 : String := "java/lang/Math"
def TJ9 : u_T := fun k => match k with
  | _ => ("", "", "", false)
def tyJ9 : Nat → FieldType := fun k => match k with
  | _ => .int
theorem nmJ9 : ∀ a, a < 0 → ∀ b, b < 0 → a ≠ b → (TJ9 a).2.1 ≠ (TJ9 b).2.1 := by decide +kernel
theorem tyJ9_ok : ∀ k, k < 0 → parseFieldDescriptor (TJ9 k).2.2.1 = some (tyJ9 k) := by decide +kernel
abbrev cJ9_floorDiv_7cf53 : ByteArray := prog_12_method_47_code
def yJ9_floorDiv_7cf53 : MethodName := ⟨RJ9, "floorDiv", "(II)I"⟩
abbrev cJ9_floorMod_7cf53 : ByteArray := prog_12_method_50_code
def yJ9_floorMod_7cf53 : MethodName := ⟨RJ9, "floorMod", "(II)I"⟩
abbrev cJ9_abs_0f7a4 : ByteArray := prog_12_method_59_code
def yJ9_abs_0f7a4 : MethodName := ⟨RJ9, "abs", "(I)I"⟩
abbrev cJ9_max_7cf53 : ByteArray := prog_12_method_65_code
def yJ9_max_7cf53 : MethodName := ⟨RJ9, "max", "(II)I"⟩
abbrev cJ9_min_7cf53 : ByteArray := prog_12_method_69_code
def yJ9_min_7cf53 : MethodName := ⟨RJ9, "min", "(II)I"⟩
def RJ10 : String := "java/lang/System"
def TJ10 : u_T := fun k => match k with
  | _ => ("", "", "", false)
def tyJ10 : Nat → FieldType := fun k => match k with
  | _ => .int
theorem nmJ10 : ∀ a, a < 0 → ∀ b, b < 0 → a ≠ b → (TJ10 a).2.1 ≠ (TJ10 b).2.1 := by decide +kernel
theorem tyJ10_ok : ∀ k, k < 0 → parseFieldDescriptor (TJ10 k).2.2.1 = some (tyJ10 k) := by decide +kernel
def RJ7 : String := "java/util/Arrays"
def TJ7 : u_T := fun k => match k with
  | _ => ("", "", "", false)
def tyJ7 : Nat → FieldType := fun k => match k with
  | _ => .int
theorem nmJ7 : ∀ a, a < 0 → ∀ b, b < 0 → a ≠ b → (TJ7 a).2.1 ≠ (TJ7 b).2.1 := by decide +kernel
theorem tyJ7_ok : ∀ k, k < 0 → parseFieldDescriptor (TJ7 k).2.2.1 = some (tyJ7 k) := by decide +kernel
abbrev cJ7_fill_53178 : ByteArray := prog_14_method_103_code
def yJ7_fill_53178 : MethodName := ⟨RJ7, "fill", "([II)V"⟩
def RL : String := "LiarClocksLaw"
abbrev cL_law : ByteArray := code
def yL_law : MethodName := ⟨RL, "law", "([I)Z"⟩
abbrev vwCl : List vw_C := [(RX0, TX0, 3), (RX1, TX1, 4), (RX2, TX2, 1), (RX3, TX3, 2), (RX4, TX4, 3), (RX5, TX5, 15), (RX6, TX6, 8), (RX7, TX7, 10), (RX8, TX8, 17)]
end
section
theorem dX0_init_0 : decode cX0_init 0 = .ok (.aload_n 0, 1) := by decide +kernel
theorem dX0_init_1 : decode cX0_init 1 = .ok (.invokespecial 3, 3) := by decide +kernel
theorem dX0_init_4 : decode cX0_init 4 = .ok (.aload_n 0, 1) := by decide +kernel
theorem dX0_init_5 : decode cX0_init 5 = .ok (.bipush 20, 2) := by decide +kernel
theorem dX0_init_7 : decode cX0_init 7 = .ok (.newarray .int, 2) := by decide +kernel
theorem dX0_init_9 : decode cX0_init 9 = .ok (.putfield 9, 3) := by decide +kernel
theorem dX0_init_12 : decode cX0_init 12 = .ok (.aload_n 0, 1) := by decide +kernel
theorem dX0_init_13 : decode cX0_init 13 = .ok (.bipush 20, 2) := by decide +kernel
theorem dX0_init_15 : decode cX0_init 15 = .ok (.newarray .int, 2) := by decide +kernel
theorem dX0_init_17 : decode cX0_init 17 = .ok (.putfield 15, 3) := by decide +kernel
theorem dX0_init_20 : decode cX0_init 20 = .ok (.return_, 1) := by decide +kernel
theorem dX0_append_0 : decode cX0_append 0 = .ok (.aload_n 0, 1) := by decide +kernel
theorem dX0_append_1 : decode cX0_append 1 = .ok (.getfield 18, 3) := by decide +kernel
theorem dX0_append_4 : decode cX0_append 4 = .ok (.bipush 20, 2) := by decide +kernel
theorem dX0_append_6 : decode cX0_append 6 = .ok (.if_icmp .ge 33, 3) := by decide +kernel
theorem dX0_append_9 : decode cX0_append 9 = .ok (.aload_n 0, 1) := by decide +kernel
theorem dX0_append_10 : decode cX0_append 10 = .ok (.getfield 9, 3) := by decide +kernel
theorem dX0_append_13 : decode cX0_append 13 = .ok (.aload_n 0, 1) := by decide +kernel
theorem dX0_append_14 : decode cX0_append 14 = .ok (.getfield 18, 3) := by decide +kernel
theorem dX0_append_17 : decode cX0_append 17 = .ok (.iload_n 1, 1) := by decide +kernel
theorem dX0_append_18 : decode cX0_append 18 = .ok (.iastore, 1) := by decide +kernel
theorem dX0_append_19 : decode cX0_append 19 = .ok (.aload_n 0, 1) := by decide +kernel
theorem dX0_append_20 : decode cX0_append 20 = .ok (.getfield 15, 3) := by decide +kernel
theorem dX0_append_23 : decode cX0_append 23 = .ok (.aload_n 0, 1) := by decide +kernel
theorem dX0_append_24 : decode cX0_append 24 = .ok (.getfield 18, 3) := by decide +kernel
theorem dX0_append_27 : decode cX0_append 27 = .ok (.iload_n 2, 1) := by decide +kernel
theorem dX0_append_28 : decode cX0_append 28 = .ok (.iastore, 1) := by decide +kernel
theorem dX0_append_29 : decode cX0_append 29 = .ok (.aload_n 0, 1) := by decide +kernel
theorem dX0_append_30 : decode cX0_append 30 = .ok (.dup, 1) := by decide +kernel
theorem dX0_append_31 : decode cX0_append 31 = .ok (.getfield 18, 3) := by decide +kernel
theorem dX0_append_34 : decode cX0_append 34 = .ok (.iconst 1, 1) := by decide +kernel
theorem dX0_append_35 : decode cX0_append 35 = .ok (.iadd, 1) := by decide +kernel
theorem dX0_append_36 : decode cX0_append 36 = .ok (.putfield 18, 3) := by decide +kernel
theorem dX0_append_39 : decode cX0_append 39 = .ok (.aload_n 0, 1) := by decide +kernel
theorem dX0_append_40 : decode cX0_append 40 = .ok (.getfield 18, 3) := by decide +kernel
theorem dX0_append_43 : decode cX0_append 43 = .ok (.ireturn, 1) := by decide +kernel
theorem dX0_firstWrong_0 : decode cX0_firstWrong 0 = .ok (.iconst 0, 1) := by decide +kernel
theorem dX0_firstWrong_1 : decode cX0_firstWrong 1 = .ok (.istore_n 2, 1) := by decide +kernel
theorem dX0_firstWrong_2 : decode cX0_firstWrong 2 = .ok (.iload_n 2, 1) := by decide +kernel
theorem dX0_firstWrong_3 : decode cX0_firstWrong 3 = .ok (.aload_n 0, 1) := by decide +kernel
theorem dX0_firstWrong_4 : decode cX0_firstWrong 4 = .ok (.getfield 18, 3) := by decide +kernel
theorem dX0_firstWrong_7 : decode cX0_firstWrong 7 = .ok (.if_icmp .ge 43, 3) := by decide +kernel
theorem dX0_firstWrong_10 : decode cX0_firstWrong 10 = .ok (.aload_n 1, 1) := by decide +kernel
theorem dX0_firstWrong_11 : decode cX0_firstWrong 11 = .ok (.aload_n 0, 1) := by decide +kernel
theorem dX0_firstWrong_12 : decode cX0_firstWrong 12 = .ok (.getfield 9, 3) := by decide +kernel
theorem dX0_firstWrong_15 : decode cX0_firstWrong 15 = .ok (.iload_n 2, 1) := by decide +kernel
theorem dX0_firstWrong_16 : decode cX0_firstWrong 16 = .ok (.iaload, 1) := by decide +kernel
theorem dX0_firstWrong_17 : decode cX0_firstWrong 17 = .ok (.invokevirtual 22, 3) := by decide +kernel
theorem dX0_firstWrong_20 : decode cX0_firstWrong 20 = .ok (.ifCond .eq 22, 3) := by decide +kernel
theorem dX0_firstWrong_23 : decode cX0_firstWrong 23 = .ok (.aload_n 1, 1) := by decide +kernel
theorem dX0_firstWrong_24 : decode cX0_firstWrong 24 = .ok (.aload_n 0, 1) := by decide +kernel
theorem dX0_firstWrong_25 : decode cX0_firstWrong 25 = .ok (.getfield 9, 3) := by decide +kernel
theorem dX0_firstWrong_28 : decode cX0_firstWrong 28 = .ok (.iload_n 2, 1) := by decide +kernel
theorem dX0_firstWrong_29 : decode cX0_firstWrong 29 = .ok (.iaload, 1) := by decide +kernel
theorem dX0_firstWrong_30 : decode cX0_firstWrong 30 = .ok (.invokevirtual 28, 3) := by decide +kernel
theorem dX0_firstWrong_33 : decode cX0_firstWrong 33 = .ok (.aload_n 0, 1) := by decide +kernel
theorem dX0_firstWrong_34 : decode cX0_firstWrong 34 = .ok (.getfield 15, 3) := by decide +kernel
theorem dX0_firstWrong_37 : decode cX0_firstWrong 37 = .ok (.iload_n 2, 1) := by decide +kernel
theorem dX0_firstWrong_38 : decode cX0_firstWrong 38 = .ok (.iaload, 1) := by decide +kernel
theorem dX0_firstWrong_39 : decode cX0_firstWrong 39 = .ok (.if_icmp .eq 5, 3) := by decide +kernel
theorem dX0_firstWrong_42 : decode cX0_firstWrong 42 = .ok (.iload_n 2, 1) := by decide +kernel
theorem dX0_firstWrong_43 : decode cX0_firstWrong 43 = .ok (.ireturn, 1) := by decide +kernel
theorem dX0_firstWrong_44 : decode cX0_firstWrong 44 = .ok (.iinc 2 1, 3) := by decide +kernel
theorem dX0_firstWrong_47 : decode cX0_firstWrong 47 = .ok (.goto (-45), 3) := by decide +kernel
theorem dX0_firstWrong_50 : decode cX0_firstWrong 50 = .ok (.iconst (-1), 1) := by decide +kernel
theorem dX0_firstWrong_51 : decode cX0_firstWrong 51 = .ok (.ireturn, 1) := by decide +kernel
theorem dX1_init_0 : decode cX1_init 0 = .ok (.aload_n 0, 1) := by decide +kernel
theorem dX1_init_1 : decode cX1_init 1 = .ok (.invokespecial 3, 3) := by decide +kernel
theorem dX1_init_4 : decode cX1_init 4 = .ok (.aload_n 0, 1) := by decide +kernel
theorem dX1_init_5 : decode cX1_init 5 = .ok (.new 9, 3) := by decide +kernel
theorem dX1_init_8 : decode cX1_init 8 = .ok (.dup, 1) := by decide +kernel
theorem dX1_init_9 : decode cX1_init 9 = .ok (.invokespecial 11, 3) := by decide +kernel
theorem dX1_init_12 : decode cX1_init 12 = .ok (.putfield 12, 3) := by decide +kernel
theorem dX1_init_15 : decode cX1_init 15 = .ok (.aload_n 0, 1) := by decide +kernel
theorem dX1_init_16 : decode cX1_init 16 = .ok (.bipush 8, 2) := by decide +kernel
theorem dX1_init_18 : decode cX1_init 18 = .ok (.newarray .int, 2) := by decide +kernel
theorem dX1_init_20 : decode cX1_init 20 = .ok (.putfield 18, 3) := by decide +kernel
theorem dX1_init_23 : decode cX1_init 23 = .ok (.aload_n 0, 1) := by decide +kernel
theorem dX1_init_24 : decode cX1_init 24 = .ok (.bipush 8, 2) := by decide +kernel
theorem dX1_init_26 : decode cX1_init 26 = .ok (.newarray .int, 2) := by decide +kernel
theorem dX1_init_28 : decode cX1_init 28 = .ok (.putfield 22, 3) := by decide +kernel
theorem dX1_init_31 : decode cX1_init 31 = .ok (.aload_n 0, 1) := by decide +kernel
theorem dX1_init_32 : decode cX1_init 32 = .ok (.bipush 8, 2) := by decide +kernel
theorem dX1_init_34 : decode cX1_init 34 = .ok (.newarray .int, 2) := by decide +kernel
theorem dX1_init_36 : decode cX1_init 36 = .ok (.putfield 25, 3) := by decide +kernel
theorem dX1_init_39 : decode cX1_init 39 = .ok (.return_, 1) := by decide +kernel
theorem dX1_middleFor_0 : decode cX1_middleFor 0 = .ok (.aload_n 0, 1) := by decide +kernel
theorem dX1_middleFor_1 : decode cX1_middleFor 1 = .ok (.getfield 12, 3) := by decide +kernel
theorem dX1_middleFor_4 : decode cX1_middleFor 4 = .ok (.iconst 0, 1) := by decide +kernel
theorem dX1_middleFor_5 : decode cX1_middleFor 5 = .ok (.putfield 28, 3) := by decide +kernel
theorem dX1_middleFor_8 : decode cX1_middleFor 8 = .ok (.iconst 0, 1) := by decide +kernel
theorem dX1_middleFor_9 : decode cX1_middleFor 9 = .ok (.istore_n 3, 1) := by decide +kernel
theorem dX1_middleFor_10 : decode cX1_middleFor 10 = .ok (.iload_n 3, 1) := by decide +kernel
theorem dX1_middleFor_11 : decode cX1_middleFor 11 = .ok (.aload_n 1, 1) := by decide +kernel
theorem dX1_middleFor_12 : decode cX1_middleFor 12 = .ok (.getfield 32, 3) := by decide +kernel
theorem dX1_middleFor_15 : decode cX1_middleFor 15 = .ok (.if_icmp .ge 22, 3) := by decide +kernel
theorem dX1_middleFor_18 : decode cX1_middleFor 18 = .ok (.aload_n 0, 1) := by decide +kernel
theorem dX1_middleFor_19 : decode cX1_middleFor 19 = .ok (.getfield 12, 3) := by decide +kernel
theorem dX1_middleFor_22 : decode cX1_middleFor 22 = .ok (.aload_n 1, 1) := by decide +kernel
theorem dX1_middleFor_23 : decode cX1_middleFor 23 = .ok (.iload_n 3, 1) := by decide +kernel
theorem dX1_middleFor_24 : decode cX1_middleFor 24 = .ok (.iload_n 2, 1) := by decide +kernel
theorem dX1_middleFor_25 : decode cX1_middleFor 25 = .ok (.invokevirtual 37, 3) := by decide +kernel
theorem dX1_middleFor_28 : decode cX1_middleFor 28 = .ok (.invokevirtual 41, 3) := by decide +kernel
theorem dX1_middleFor_31 : decode cX1_middleFor 31 = .ok (.iinc 3 1, 3) := by decide +kernel
theorem dX1_middleFor_34 : decode cX1_middleFor 34 = .ok (.goto (-24), 3) := by decide +kernel
theorem dX1_middleFor_37 : decode cX1_middleFor 37 = .ok (.aload_n 0, 1) := by decide +kernel
theorem dX1_middleFor_38 : decode cX1_middleFor 38 = .ok (.getfield 12, 3) := by decide +kernel
theorem dX1_middleFor_41 : decode cX1_middleFor 41 = .ok (.aload_n 1, 1) := by decide +kernel
theorem dX1_middleFor_42 : decode cX1_middleFor 42 = .ok (.getfield 45, 3) := by decide +kernel
theorem dX1_middleFor_45 : decode cX1_middleFor 45 = .ok (.invokevirtual 48, 3) := by decide +kernel
theorem dX1_middleFor_48 : decode cX1_middleFor 48 = .ok (.ireturn, 1) := by decide +kernel
theorem dX1_meet_0 : decode cX1_meet 0 = .ok (.aload_n 1, 1) := by decide +kernel
theorem dX1_meet_1 : decode cX1_meet 1 = .ok (.invokevirtual 52, 3) := by decide +kernel
theorem dX1_meet_4 : decode cX1_meet 4 = .ok (.ifCond .eq 4, 3) := by decide +kernel
theorem dX1_meet_7 : decode cX1_meet 7 = .ok (.return_, 1) := by decide +kernel
theorem dX1_meet_8 : decode cX1_meet 8 = .ok (.iconst 0, 1) := by decide +kernel
theorem dX1_meet_9 : decode cX1_meet 9 = .ok (.istore_n 2, 1) := by decide +kernel
theorem dX1_meet_10 : decode cX1_meet 10 = .ok (.iload_n 2, 1) := by decide +kernel
theorem dX1_meet_11 : decode cX1_meet 11 = .ok (.aload_n 1, 1) := by decide +kernel
theorem dX1_meet_12 : decode cX1_meet 12 = .ok (.getfield 32, 3) := by decide +kernel
theorem dX1_meet_15 : decode cX1_meet 15 = .ok (.if_icmp .ge 33, 3) := by decide +kernel
theorem dX1_meet_18 : decode cX1_meet 18 = .ok (.aload_n 0, 1) := by decide +kernel
theorem dX1_meet_19 : decode cX1_meet 19 = .ok (.getfield 18, 3) := by decide +kernel
theorem dX1_meet_22 : decode cX1_meet 22 = .ok (.iload_n 2, 1) := by decide +kernel
theorem dX1_meet_23 : decode cX1_meet 23 = .ok (.aload_n 1, 1) := by decide +kernel
theorem dX1_meet_24 : decode cX1_meet 24 = .ok (.iload_n 2, 1) := by decide +kernel
theorem dX1_meet_25 : decode cX1_meet 25 = .ok (.invokevirtual 56, 3) := by decide +kernel
theorem dX1_meet_28 : decode cX1_meet 28 = .ok (.ifCond .eq 12, 3) := by decide +kernel
theorem dX1_meet_31 : decode cX1_meet 31 = .ok (.aload_n 0, 1) := by decide +kernel
theorem dX1_meet_32 : decode cX1_meet 32 = .ok (.aload_n 1, 1) := by decide +kernel
theorem dX1_meet_33 : decode cX1_meet 33 = .ok (.iload_n 2, 1) := by decide +kernel
theorem dX1_meet_34 : decode cX1_meet 34 = .ok (.invokevirtual 60, 3) := by decide +kernel
theorem dX1_meet_37 : decode cX1_meet 37 = .ok (.goto 4, 3) := by decide +kernel
theorem dX1_meet_40 : decode cX1_meet 40 = .ok (.iconst 0, 1) := by decide +kernel
theorem dX1_meet_41 : decode cX1_meet 41 = .ok (.iastore, 1) := by decide +kernel
theorem dX1_meet_42 : decode cX1_meet 42 = .ok (.iinc 2 1, 3) := by decide +kernel
theorem dX1_meet_45 : decode cX1_meet 45 = .ok (.goto (-35), 3) := by decide +kernel
theorem dX1_meet_48 : decode cX1_meet 48 = .ok (.iconst 0, 1) := by decide +kernel
theorem dX1_meet_49 : decode cX1_meet 49 = .ok (.istore_n 2, 1) := by decide +kernel
theorem dX1_meet_50 : decode cX1_meet 50 = .ok (.iload_n 2, 1) := by decide +kernel
theorem dX1_meet_51 : decode cX1_meet 51 = .ok (.aload_n 1, 1) := by decide +kernel
theorem dX1_meet_52 : decode cX1_meet 52 = .ok (.getfield 32, 3) := by decide +kernel
theorem dX1_meet_55 : decode cX1_meet 55 = .ok (.if_icmp .ge 36, 3) := by decide +kernel
theorem dX1_meet_58 : decode cX1_meet 58 = .ok (.aload_n 1, 1) := by decide +kernel
theorem dX1_meet_59 : decode cX1_meet 59 = .ok (.iload_n 2, 1) := by decide +kernel
theorem dX1_meet_60 : decode cX1_meet 60 = .ok (.invokevirtual 56, 3) := by decide +kernel
theorem dX1_meet_63 : decode cX1_meet 63 = .ok (.ifCond .eq 22, 3) := by decide +kernel
theorem dX1_meet_66 : decode cX1_meet 66 = .ok (.aload_n 1, 1) := by decide +kernel
theorem dX1_meet_67 : decode cX1_meet 67 = .ok (.getfield 64, 3) := by decide +kernel
theorem dX1_meet_70 : decode cX1_meet 70 = .ok (.iload_n 2, 1) := by decide +kernel
theorem dX1_meet_71 : decode cX1_meet 71 = .ok (.aload_n 0, 1) := by decide +kernel
theorem dX1_meet_72 : decode cX1_meet 72 = .ok (.getfield 18, 3) := by decide +kernel
theorem dX1_meet_75 : decode cX1_meet 75 = .ok (.iload_n 2, 1) := by decide +kernel
theorem dX1_meet_76 : decode cX1_meet 76 = .ok (.iaload, 1) := by decide +kernel
theorem dX1_meet_77 : decode cX1_meet 77 = .ok (.aload_n 1, 1) := by decide +kernel
theorem dX1_meet_78 : decode cX1_meet 78 = .ok (.getfield 67, 3) := by decide +kernel
theorem dX1_meet_81 : decode cX1_meet 81 = .ok (.iload_n 2, 1) := by decide +kernel
theorem dX1_meet_82 : decode cX1_meet 82 = .ok (.iaload, 1) := by decide +kernel
theorem dX1_meet_83 : decode cX1_meet 83 = .ok (.isub, 1) := by decide +kernel
theorem dX1_meet_84 : decode cX1_meet 84 = .ok (.iastore, 1) := by decide +kernel
theorem dX1_meet_85 : decode cX1_meet 85 = .ok (.iinc 2 1, 3) := by decide +kernel
theorem dX1_meet_88 : decode cX1_meet 88 = .ok (.goto (-38), 3) := by decide +kernel
theorem dX1_meet_91 : decode cX1_meet 91 = .ok (.return_, 1) := by decide +kernel
theorem dX1_canJoin_0 : decode cX1_canJoin 0 = .ok (.aload_n 0, 1) := by decide +kernel
theorem dX1_canJoin_1 : decode cX1_canJoin 1 = .ok (.aload_n 1, 1) := by decide +kernel
theorem dX1_canJoin_2 : decode cX1_canJoin 2 = .ok (.iload_n 2, 1) := by decide +kernel
theorem dX1_canJoin_3 : decode cX1_canJoin 3 = .ok (.invokevirtual 70, 3) := by decide +kernel
theorem dX1_canJoin_6 : decode cX1_canJoin 6 = .ok (.aload_n 0, 1) := by decide +kernel
theorem dX1_canJoin_7 : decode cX1_canJoin 7 = .ok (.getfield 12, 3) := by decide +kernel
theorem dX1_canJoin_10 : decode cX1_canJoin 10 = .ok (.aload_n 1, 1) := by decide +kernel
theorem dX1_canJoin_11 : decode cX1_canJoin 11 = .ok (.getfield 45, 3) := by decide +kernel
theorem dX1_canJoin_14 : decode cX1_canJoin 14 = .ok (.invokevirtual 74, 3) := by decide +kernel
theorem dX1_canJoin_17 : decode cX1_canJoin 17 = .ok (.ireturn, 1) := by decide +kernel
theorem dX1_letJoin_0 : decode cX1_letJoin 0 = .ok (.aload_n 0, 1) := by decide +kernel
theorem dX1_letJoin_1 : decode cX1_letJoin 1 = .ok (.aload_n 1, 1) := by decide +kernel
theorem dX1_letJoin_2 : decode cX1_letJoin 2 = .ok (.iload_n 2, 1) := by decide +kernel
theorem dX1_letJoin_3 : decode cX1_letJoin 3 = .ok (.invokevirtual 70, 3) := by decide +kernel
theorem dX1_letJoin_6 : decode cX1_letJoin 6 = .ok (.aload_n 1, 1) := by decide +kernel
theorem dX1_letJoin_7 : decode cX1_letJoin 7 = .ok (.getfield 67, 3) := by decide +kernel
theorem dX1_letJoin_10 : decode cX1_letJoin 10 = .ok (.iload_n 2, 1) := by decide +kernel
theorem dX1_letJoin_11 : decode cX1_letJoin 11 = .ok (.aload_n 0, 1) := by decide +kernel
theorem dX1_letJoin_12 : decode cX1_letJoin 12 = .ok (.getfield 12, 3) := by decide +kernel
theorem dX1_letJoin_15 : decode cX1_letJoin 15 = .ok (.aload_n 1, 1) := by decide +kernel
theorem dX1_letJoin_16 : decode cX1_letJoin 16 = .ok (.getfield 45, 3) := by decide +kernel
theorem dX1_letJoin_19 : decode cX1_letJoin 19 = .ok (.invokevirtual 48, 3) := by decide +kernel
theorem dX1_letJoin_22 : decode cX1_letJoin 22 = .ok (.iastore, 1) := by decide +kernel
theorem dX1_letJoin_23 : decode cX1_letJoin 23 = .ok (.aload_n 1, 1) := by decide +kernel
theorem dX1_letJoin_24 : decode cX1_letJoin 24 = .ok (.getfield 64, 3) := by decide +kernel
theorem dX1_letJoin_27 : decode cX1_letJoin 27 = .ok (.iload_n 2, 1) := by decide +kernel
theorem dX1_letJoin_28 : decode cX1_letJoin 28 = .ok (.iconst 0, 1) := by decide +kernel
theorem dX1_letJoin_29 : decode cX1_letJoin 29 = .ok (.iastore, 1) := by decide +kernel
theorem dX1_letJoin_30 : decode cX1_letJoin 30 = .ok (.aload_n 1, 1) := by decide +kernel
theorem dX1_letJoin_31 : decode cX1_letJoin 31 = .ok (.dup, 1) := by decide +kernel
theorem dX1_letJoin_32 : decode cX1_letJoin 32 = .ok (.getfield 77, 3) := by decide +kernel
theorem dX1_letJoin_35 : decode cX1_letJoin 35 = .ok (.iconst 1, 1) := by decide +kernel
theorem dX1_letJoin_36 : decode cX1_letJoin 36 = .ok (.iload_n 2, 1) := by decide +kernel
theorem dX1_letJoin_37 : decode cX1_letJoin 37 = .ok (.ishl, 1) := by decide +kernel
theorem dX1_letJoin_38 : decode cX1_letJoin 38 = .ok (.iconst (-1), 1) := by decide +kernel
theorem dX1_letJoin_39 : decode cX1_letJoin 39 = .ok (.ixor, 1) := by decide +kernel
theorem dX1_letJoin_40 : decode cX1_letJoin 40 = .ok (.iand, 1) := by decide +kernel
theorem dX1_letJoin_41 : decode cX1_letJoin 41 = .ok (.putfield 77, 3) := by decide +kernel
theorem dX1_letJoin_44 : decode cX1_letJoin 44 = .ok (.aload_n 1, 1) := by decide +kernel
theorem dX1_letJoin_45 : decode cX1_letJoin 45 = .ok (.invokevirtual 80, 3) := by decide +kernel
theorem dX1_letJoin_48 : decode cX1_letJoin 48 = .ok (.pop, 1) := by decide +kernel
theorem dX1_letJoin_49 : decode cX1_letJoin 49 = .ok (.return_, 1) := by decide +kernel
theorem dX1_hearToJoin_0 : decode cX1_hearToJoin 0 = .ok (.aload_n 0, 1) := by decide +kernel
theorem dX1_hearToJoin_1 : decode cX1_hearToJoin 1 = .ok (.getfield 12, 3) := by decide +kernel
theorem dX1_hearToJoin_4 : decode cX1_hearToJoin 4 = .ok (.iconst 0, 1) := by decide +kernel
theorem dX1_hearToJoin_5 : decode cX1_hearToJoin 5 = .ok (.putfield 28, 3) := by decide +kernel
theorem dX1_hearToJoin_8 : decode cX1_hearToJoin 8 = .ok (.iconst 0, 1) := by decide +kernel
theorem dX1_hearToJoin_9 : decode cX1_hearToJoin 9 = .ok (.istore_n 3, 1) := by decide +kernel
theorem dX1_hearToJoin_10 : decode cX1_hearToJoin 10 = .ok (.iload_n 3, 1) := by decide +kernel
theorem dX1_hearToJoin_11 : decode cX1_hearToJoin 11 = .ok (.aload_n 1, 1) := by decide +kernel
theorem dX1_hearToJoin_12 : decode cX1_hearToJoin 12 = .ok (.getfield 32, 3) := by decide +kernel
theorem dX1_hearToJoin_15 : decode cX1_hearToJoin 15 = .ok (.if_icmp .ge 35, 3) := by decide +kernel
theorem dX1_hearToJoin_18 : decode cX1_hearToJoin 18 = .ok (.iload_n 3, 1) := by decide +kernel
theorem dX1_hearToJoin_19 : decode cX1_hearToJoin 19 = .ok (.iload_n 2, 1) := by decide +kernel
theorem dX1_hearToJoin_20 : decode cX1_hearToJoin 20 = .ok (.if_icmp .eq 24, 3) := by decide +kernel
theorem dX1_hearToJoin_23 : decode cX1_hearToJoin 23 = .ok (.aload_n 1, 1) := by decide +kernel
theorem dX1_hearToJoin_24 : decode cX1_hearToJoin 24 = .ok (.iload_n 3, 1) := by decide +kernel
theorem dX1_hearToJoin_25 : decode cX1_hearToJoin 25 = .ok (.invokevirtual 84, 3) := by decide +kernel
theorem dX1_hearToJoin_28 : decode cX1_hearToJoin 28 = .ok (.ifCond .ne 16, 3) := by decide +kernel
theorem dX1_hearToJoin_31 : decode cX1_hearToJoin 31 = .ok (.aload_n 0, 1) := by decide +kernel
theorem dX1_hearToJoin_32 : decode cX1_hearToJoin 32 = .ok (.getfield 12, 3) := by decide +kernel
theorem dX1_hearToJoin_35 : decode cX1_hearToJoin 35 = .ok (.aload_n 1, 1) := by decide +kernel
theorem dX1_hearToJoin_36 : decode cX1_hearToJoin 36 = .ok (.iload_n 3, 1) := by decide +kernel
theorem dX1_hearToJoin_37 : decode cX1_hearToJoin 37 = .ok (.iload_n 2, 1) := by decide +kernel
theorem dX1_hearToJoin_38 : decode cX1_hearToJoin 38 = .ok (.invokevirtual 37, 3) := by decide +kernel
theorem dX1_hearToJoin_41 : decode cX1_hearToJoin 41 = .ok (.invokevirtual 41, 3) := by decide +kernel
theorem dX1_hearToJoin_44 : decode cX1_hearToJoin 44 = .ok (.iinc 3 1, 3) := by decide +kernel
theorem dX1_hearToJoin_47 : decode cX1_hearToJoin 47 = .ok (.goto (-37), 3) := by decide +kernel
theorem dX1_hearToJoin_50 : decode cX1_hearToJoin 50 = .ok (.return_, 1) := by decide +kernel
theorem dX1_middleByLie_0 : decode cX1_middleByLie 0 = .ok (.aload_n 0, 1) := by decide +kernel
theorem dX1_middleByLie_1 : decode cX1_middleByLie 1 = .ok (.getfield 12, 3) := by decide +kernel
theorem dX1_middleByLie_4 : decode cX1_middleByLie 4 = .ok (.iconst 0, 1) := by decide +kernel
theorem dX1_middleByLie_5 : decode cX1_middleByLie 5 = .ok (.putfield 28, 3) := by decide +kernel
theorem dX1_middleByLie_8 : decode cX1_middleByLie 8 = .ok (.iconst 0, 1) := by decide +kernel
theorem dX1_middleByLie_9 : decode cX1_middleByLie 9 = .ok (.istore 5, 2) := by decide +kernel
theorem dX1_middleByLie_11 : decode cX1_middleByLie 11 = .ok (.iload 5, 2) := by decide +kernel
theorem dX1_middleByLie_13 : decode cX1_middleByLie 13 = .ok (.aload_n 1, 1) := by decide +kernel
theorem dX1_middleByLie_14 : decode cX1_middleByLie 14 = .ok (.getfield 32, 3) := by decide +kernel
theorem dX1_middleByLie_17 : decode cX1_middleByLie 17 = .ok (.if_icmp .ge 40, 3) := by decide +kernel
theorem dX1_middleByLie_20 : decode cX1_middleByLie 20 = .ok (.aload_n 0, 1) := by decide +kernel
theorem dX1_middleByLie_21 : decode cX1_middleByLie 21 = .ok (.getfield 12, 3) := by decide +kernel
theorem dX1_middleByLie_24 : decode cX1_middleByLie 24 = .ok (.iload 5, 2) := by decide +kernel
theorem dX1_middleByLie_26 : decode cX1_middleByLie 26 = .ok (.iload_n 2, 1) := by decide +kernel
theorem dX1_middleByLie_27 : decode cX1_middleByLie 27 = .ok (.if_icmp .ne 14, 3) := by decide +kernel
theorem dX1_middleByLie_30 : decode cX1_middleByLie 30 = .ok (.aload_n 1, 1) := by decide +kernel
theorem dX1_middleByLie_31 : decode cX1_middleByLie 31 = .ok (.iload_n 3, 1) := by decide +kernel
theorem dX1_middleByLie_32 : decode cX1_middleByLie 32 = .ok (.invokevirtual 87, 3) := by decide +kernel
theorem dX1_middleByLie_35 : decode cX1_middleByLie 35 = .ok (.iload 4, 2) := by decide +kernel
theorem dX1_middleByLie_37 : decode cX1_middleByLie 37 = .ok (.iadd, 1) := by decide +kernel
theorem dX1_middleByLie_38 : decode cX1_middleByLie 38 = .ok (.goto 10, 3) := by decide +kernel
theorem dX1_middleByLie_41 : decode cX1_middleByLie 41 = .ok (.aload_n 1, 1) := by decide +kernel
theorem dX1_middleByLie_42 : decode cX1_middleByLie 42 = .ok (.iload 5, 2) := by decide +kernel
theorem dX1_middleByLie_44 : decode cX1_middleByLie 44 = .ok (.iload_n 3, 1) := by decide +kernel
theorem dX1_middleByLie_45 : decode cX1_middleByLie 45 = .ok (.invokevirtual 37, 3) := by decide +kernel
theorem dX1_middleByLie_48 : decode cX1_middleByLie 48 = .ok (.invokevirtual 41, 3) := by decide +kernel
theorem dX1_middleByLie_51 : decode cX1_middleByLie 51 = .ok (.iinc 5 1, 3) := by decide +kernel
theorem dX1_middleByLie_54 : decode cX1_middleByLie 54 = .ok (.goto (-43), 3) := by decide +kernel
theorem dX1_middleByLie_57 : decode cX1_middleByLie 57 = .ok (.aload_n 0, 1) := by decide +kernel
theorem dX1_middleByLie_58 : decode cX1_middleByLie 58 = .ok (.getfield 12, 3) := by decide +kernel
theorem dX1_middleByLie_61 : decode cX1_middleByLie 61 = .ok (.aload_n 1, 1) := by decide +kernel
theorem dX1_middleByLie_62 : decode cX1_middleByLie 62 = .ok (.getfield 45, 3) := by decide +kernel
theorem dX1_middleByLie_65 : decode cX1_middleByLie 65 = .ok (.invokevirtual 48, 3) := by decide +kernel
theorem dX1_middleByLie_68 : decode cX1_middleByLie 68 = .ok (.ireturn, 1) := by decide +kernel
theorem dX1_farthest_0 : decode cX1_farthest 0 = .ok (.sipush (-9999), 3) := by decide +kernel
theorem dX1_farthest_3 : decode cX1_farthest 3 = .ok (.istore 4, 2) := by decide +kernel
theorem dX1_farthest_5 : decode cX1_farthest 5 = .ok (.aload_n 1, 1) := by decide +kernel
theorem dX1_farthest_6 : decode cX1_farthest 6 = .ok (.invokevirtual 52, 3) := by decide +kernel
theorem dX1_farthest_9 : decode cX1_farthest 9 = .ok (.ifCond .eq 6, 3) := by decide +kernel
theorem dX1_farthest_12 : decode cX1_farthest 12 = .ok (.iload 4, 2) := by decide +kernel
theorem dX1_farthest_14 : decode cX1_farthest 14 = .ok (.ireturn, 1) := by decide +kernel
theorem dX1_farthest_15 : decode cX1_farthest 15 = .ok (.aload_n 0, 1) := by decide +kernel
theorem dX1_farthest_16 : decode cX1_farthest 16 = .ok (.aload_n 1, 1) := by decide +kernel
theorem dX1_farthest_17 : decode cX1_farthest 17 = .ok (.iload_n 2, 1) := by decide +kernel
theorem dX1_farthest_18 : decode cX1_farthest 18 = .ok (.iload_n 3, 1) := by decide +kernel
theorem dX1_farthest_19 : decode cX1_farthest 19 = .ok (.iload 4, 2) := by decide +kernel
theorem dX1_farthest_21 : decode cX1_farthest 21 = .ok (.invokevirtual 90, 3) := by decide +kernel
theorem dX1_farthest_24 : decode cX1_farthest 24 = .ok (.aload_n 1, 1) := by decide +kernel
theorem dX1_farthest_25 : decode cX1_farthest 25 = .ok (.iload_n 3, 1) := by decide +kernel
theorem dX1_farthest_26 : decode cX1_farthest 26 = .ok (.invokevirtual 87, 3) := by decide +kernel
theorem dX1_farthest_29 : decode cX1_farthest 29 = .ok (.isub, 1) := by decide +kernel
theorem dX1_farthest_30 : decode cX1_farthest 30 = .ok (.invokestatic 94, 3) := by decide +kernel
theorem dX1_farthest_33 : decode cX1_farthest 33 = .ok (.istore 5, 2) := by decide +kernel
theorem dX1_farthest_35 : decode cX1_farthest 35 = .ok (.iconst 0, 1) := by decide +kernel
theorem dX1_farthest_36 : decode cX1_farthest 36 = .ok (.istore 6, 2) := by decide +kernel
theorem dX1_farthest_38 : decode cX1_farthest 38 = .ok (.iload 6, 2) := by decide +kernel
theorem dX1_farthest_40 : decode cX1_farthest 40 = .ok (.sipush 9999, 3) := by decide +kernel
theorem dX1_farthest_43 : decode cX1_farthest 43 = .ok (.if_icmp .gt 47, 3) := by decide +kernel
theorem dX1_farthest_46 : decode cX1_farthest 46 = .ok (.aload_n 0, 1) := by decide +kernel
theorem dX1_farthest_47 : decode cX1_farthest 47 = .ok (.aload_n 1, 1) := by decide +kernel
theorem dX1_farthest_48 : decode cX1_farthest 48 = .ok (.iload_n 2, 1) := by decide +kernel
theorem dX1_farthest_49 : decode cX1_farthest 49 = .ok (.iload_n 3, 1) := by decide +kernel
theorem dX1_farthest_50 : decode cX1_farthest 50 = .ok (.iload 6, 2) := by decide +kernel
theorem dX1_farthest_52 : decode cX1_farthest 52 = .ok (.invokevirtual 90, 3) := by decide +kernel
theorem dX1_farthest_55 : decode cX1_farthest 55 = .ok (.aload_n 1, 1) := by decide +kernel
theorem dX1_farthest_56 : decode cX1_farthest 56 = .ok (.iload_n 3, 1) := by decide +kernel
theorem dX1_farthest_57 : decode cX1_farthest 57 = .ok (.invokevirtual 87, 3) := by decide +kernel
theorem dX1_farthest_60 : decode cX1_farthest 60 = .ok (.isub, 1) := by decide +kernel
theorem dX1_farthest_61 : decode cX1_farthest 61 = .ok (.invokestatic 94, 3) := by decide +kernel
theorem dX1_farthest_64 : decode cX1_farthest 64 = .ok (.istore 7, 2) := by decide +kernel
theorem dX1_farthest_66 : decode cX1_farthest 66 = .ok (.iload 7, 2) := by decide +kernel
theorem dX1_farthest_68 : decode cX1_farthest 68 = .ok (.iload 5, 2) := by decide +kernel
theorem dX1_farthest_70 : decode cX1_farthest 70 = .ok (.if_icmp .le 11, 3) := by decide +kernel
theorem dX1_farthest_73 : decode cX1_farthest 73 = .ok (.iload 6, 2) := by decide +kernel
theorem dX1_farthest_75 : decode cX1_farthest 75 = .ok (.istore 4, 2) := by decide +kernel
theorem dX1_farthest_77 : decode cX1_farthest 77 = .ok (.iload 7, 2) := by decide +kernel
theorem dX1_farthest_79 : decode cX1_farthest 79 = .ok (.istore 5, 2) := by decide +kernel
theorem dX1_farthest_81 : decode cX1_farthest 81 = .ok (.iinc 6 9999, 6) := by decide +kernel
theorem dX1_farthest_87 : decode cX1_farthest 87 = .ok (.goto (-49), 3) := by decide +kernel
theorem dX1_farthest_90 : decode cX1_farthest 90 = .ok (.iload 4, 2) := by decide +kernel
theorem dX1_farthest_92 : decode cX1_farthest 92 = .ok (.ireturn, 1) := by decide +kernel
theorem dX1_worst_0 : decode cX1_worst 0 = .ok (.aload_n 1, 1) := by decide +kernel
theorem dX1_worst_1 : decode cX1_worst 1 = .ok (.invokevirtual 99, 3) := by decide +kernel
theorem dX1_worst_4 : decode cX1_worst 4 = .ok (.invokestatic 102, 3) := by decide +kernel
theorem dX1_worst_7 : decode cX1_worst 7 = .ok (.iconst 2, 1) := by decide +kernel
theorem dX1_worst_8 : decode cX1_worst 8 = .ok (.if_icmp .lt 10, 3) := by decide +kernel
theorem dX1_worst_11 : decode cX1_worst 11 = .ok (.aload_n 1, 1) := by decide +kernel
theorem dX1_worst_12 : decode cX1_worst 12 = .ok (.invokevirtual 52, 3) := by decide +kernel
theorem dX1_worst_15 : decode cX1_worst 15 = .ok (.ifCond .eq 8, 3) := by decide +kernel
theorem dX1_worst_18 : decode cX1_worst 18 = .ok (.aload_n 1, 1) := by decide +kernel
theorem dX1_worst_19 : decode cX1_worst 19 = .ok (.invokevirtual 107, 3) := by decide +kernel
theorem dX1_worst_22 : decode cX1_worst 22 = .ok (.ireturn, 1) := by decide +kernel
theorem dX1_worst_23 : decode cX1_worst 23 = .ok (.aload_n 1, 1) := by decide +kernel
theorem dX1_worst_24 : decode cX1_worst 24 = .ok (.getfield 110, 3) := by decide +kernel
theorem dX1_worst_27 : decode cX1_worst 27 = .ok (.aload_n 1, 1) := by decide +kernel
theorem dX1_worst_28 : decode cX1_worst 28 = .ok (.getfield 77, 3) := by decide +kernel
theorem dX1_worst_31 : decode cX1_worst 31 = .ok (.iconst (-1), 1) := by decide +kernel
theorem dX1_worst_32 : decode cX1_worst 32 = .ok (.ixor, 1) := by decide +kernel
theorem dX1_worst_33 : decode cX1_worst 33 = .ok (.iand, 1) := by decide +kernel
theorem dX1_worst_34 : decode cX1_worst 34 = .ok (.invokestatic 102, 3) := by decide +kernel
theorem dX1_worst_37 : decode cX1_worst 37 = .ok (.aload_n 1, 1) := by decide +kernel
theorem dX1_worst_38 : decode cX1_worst 38 = .ok (.getfield 45, 3) := by decide +kernel
theorem dX1_worst_41 : decode cX1_worst 41 = .ok (.if_icmp .le 6, 3) := by decide +kernel
theorem dX1_worst_44 : decode cX1_worst 44 = .ok (.ldc 113, 2) := by decide +kernel
theorem dX1_worst_46 : decode cX1_worst 46 = .ok (.ireturn, 1) := by decide +kernel
theorem dX1_worst_47 : decode cX1_worst 47 = .ok (.iconst 0, 1) := by decide +kernel
theorem dX1_worst_48 : decode cX1_worst 48 = .ok (.istore_n 2, 1) := by decide +kernel
theorem dX1_worst_49 : decode cX1_worst 49 = .ok (.iload_n 2, 1) := by decide +kernel
theorem dX1_worst_50 : decode cX1_worst 50 = .ok (.aload_n 1, 1) := by decide +kernel
theorem dX1_worst_51 : decode cX1_worst 51 = .ok (.getfield 32, 3) := by decide +kernel
theorem dX1_worst_54 : decode cX1_worst 54 = .ok (.if_icmp .ge 45, 3) := by decide +kernel
theorem dX1_worst_57 : decode cX1_worst 57 = .ok (.aload_n 1, 1) := by decide +kernel
theorem dX1_worst_58 : decode cX1_worst 58 = .ok (.iload_n 2, 1) := by decide +kernel
theorem dX1_worst_59 : decode cX1_worst 59 = .ok (.invokevirtual 56, 3) := by decide +kernel
theorem dX1_worst_62 : decode cX1_worst 62 = .ok (.ifCond .eq 31, 3) := by decide +kernel
theorem dX1_worst_65 : decode cX1_worst 65 = .ok (.aload_n 0, 1) := by decide +kernel
theorem dX1_worst_66 : decode cX1_worst 66 = .ok (.getfield 22, 3) := by decide +kernel
theorem dX1_worst_69 : decode cX1_worst 69 = .ok (.iload_n 2, 1) := by decide +kernel
theorem dX1_worst_70 : decode cX1_worst 70 = .ok (.aload_n 0, 1) := by decide +kernel
theorem dX1_worst_71 : decode cX1_worst 71 = .ok (.aload_n 1, 1) := by decide +kernel
theorem dX1_worst_72 : decode cX1_worst 72 = .ok (.iload_n 2, 1) := by decide +kernel
theorem dX1_worst_73 : decode cX1_worst 73 = .ok (.ldc 114, 2) := by decide +kernel
theorem dX1_worst_75 : decode cX1_worst 75 = .ok (.invokevirtual 115, 3) := by decide +kernel
theorem dX1_worst_78 : decode cX1_worst 78 = .ok (.iastore, 1) := by decide +kernel
theorem dX1_worst_79 : decode cX1_worst 79 = .ok (.aload_n 0, 1) := by decide +kernel
theorem dX1_worst_80 : decode cX1_worst 80 = .ok (.getfield 25, 3) := by decide +kernel
theorem dX1_worst_83 : decode cX1_worst 83 = .ok (.iload_n 2, 1) := by decide +kernel
theorem dX1_worst_84 : decode cX1_worst 84 = .ok (.aload_n 0, 1) := by decide +kernel
theorem dX1_worst_85 : decode cX1_worst 85 = .ok (.aload_n 1, 1) := by decide +kernel
theorem dX1_worst_86 : decode cX1_worst 86 = .ok (.iload_n 2, 1) := by decide +kernel
theorem dX1_worst_87 : decode cX1_worst 87 = .ok (.ldc 119, 2) := by decide +kernel
theorem dX1_worst_89 : decode cX1_worst 89 = .ok (.invokevirtual 115, 3) := by decide +kernel
theorem dX1_worst_92 : decode cX1_worst 92 = .ok (.iastore, 1) := by decide +kernel
theorem dX1_worst_93 : decode cX1_worst 93 = .ok (.iinc 2 1, 3) := by decide +kernel
theorem dX1_worst_96 : decode cX1_worst 96 = .ok (.goto (-47), 3) := by decide +kernel
theorem dX1_worst_99 : decode cX1_worst 99 = .ok (.aload_n 0, 1) := by decide +kernel
theorem dX1_worst_100 : decode cX1_worst 100 = .ok (.aload_n 1, 1) := by decide +kernel
theorem dX1_worst_101 : decode cX1_worst 101 = .ok (.invokevirtual 120, 3) := by decide +kernel
theorem dX1_worst_104 : decode cX1_worst 104 = .ok (.ireturn, 1) := by decide +kernel
theorem dX1_middleWithLiarsAt_0 : decode cX1_middleWithLiarsAt 0 = .ok (.aload_n 0, 1) := by decide +kernel
theorem dX1_middleWithLiarsAt_1 : decode cX1_middleWithLiarsAt 1 = .ok (.getfield 12, 3) := by decide +kernel
theorem dX1_middleWithLiarsAt_4 : decode cX1_middleWithLiarsAt 4 = .ok (.iconst 0, 1) := by decide +kernel
theorem dX1_middleWithLiarsAt_5 : decode cX1_middleWithLiarsAt 5 = .ok (.putfield 28, 3) := by decide +kernel
theorem dX1_middleWithLiarsAt_8 : decode cX1_middleWithLiarsAt 8 = .ok (.iconst 0, 1) := by decide +kernel
theorem dX1_middleWithLiarsAt_9 : decode cX1_middleWithLiarsAt 9 = .ok (.istore 4, 2) := by decide +kernel
theorem dX1_middleWithLiarsAt_11 : decode cX1_middleWithLiarsAt 11 = .ok (.iload 4, 2) := by decide +kernel
theorem dX1_middleWithLiarsAt_13 : decode cX1_middleWithLiarsAt 13 = .ok (.aload_n 1, 1) := by decide +kernel
theorem dX1_middleWithLiarsAt_14 : decode cX1_middleWithLiarsAt 14 = .ok (.getfield 32, 3) := by decide +kernel
theorem dX1_middleWithLiarsAt_17 : decode cX1_middleWithLiarsAt 17 = .ok (.if_icmp .ge 36, 3) := by decide +kernel
theorem dX1_middleWithLiarsAt_20 : decode cX1_middleWithLiarsAt 20 = .ok (.aload_n 0, 1) := by decide +kernel
theorem dX1_middleWithLiarsAt_21 : decode cX1_middleWithLiarsAt 21 = .ok (.getfield 12, 3) := by decide +kernel
theorem dX1_middleWithLiarsAt_24 : decode cX1_middleWithLiarsAt 24 = .ok (.aload_n 1, 1) := by decide +kernel
theorem dX1_middleWithLiarsAt_25 : decode cX1_middleWithLiarsAt 25 = .ok (.iload 4, 2) := by decide +kernel
theorem dX1_middleWithLiarsAt_27 : decode cX1_middleWithLiarsAt 27 = .ok (.invokevirtual 124, 3) := by decide +kernel
theorem dX1_middleWithLiarsAt_30 : decode cX1_middleWithLiarsAt 30 = .ok (.ifCond .eq 7, 3) := by decide +kernel
theorem dX1_middleWithLiarsAt_33 : decode cX1_middleWithLiarsAt 33 = .ok (.iload_n 3, 1) := by decide +kernel
theorem dX1_middleWithLiarsAt_34 : decode cX1_middleWithLiarsAt 34 = .ok (.goto 10, 3) := by decide +kernel
theorem dX1_middleWithLiarsAt_37 : decode cX1_middleWithLiarsAt 37 = .ok (.aload_n 1, 1) := by decide +kernel
theorem dX1_middleWithLiarsAt_38 : decode cX1_middleWithLiarsAt 38 = .ok (.iload 4, 2) := by decide +kernel
theorem dX1_middleWithLiarsAt_40 : decode cX1_middleWithLiarsAt 40 = .ok (.iload_n 2, 1) := by decide +kernel
theorem dX1_middleWithLiarsAt_41 : decode cX1_middleWithLiarsAt 41 = .ok (.invokevirtual 37, 3) := by decide +kernel
theorem dX1_middleWithLiarsAt_44 : decode cX1_middleWithLiarsAt 44 = .ok (.invokevirtual 41, 3) := by decide +kernel
theorem dX1_middleWithLiarsAt_47 : decode cX1_middleWithLiarsAt 47 = .ok (.iinc 4 1, 3) := by decide +kernel
theorem dX1_middleWithLiarsAt_50 : decode cX1_middleWithLiarsAt 50 = .ok (.goto (-39), 3) := by decide +kernel
theorem dX1_middleWithLiarsAt_53 : decode cX1_middleWithLiarsAt 53 = .ok (.aload_n 0, 1) := by decide +kernel
theorem dX1_middleWithLiarsAt_54 : decode cX1_middleWithLiarsAt 54 = .ok (.getfield 12, 3) := by decide +kernel
theorem dX1_middleWithLiarsAt_57 : decode cX1_middleWithLiarsAt 57 = .ok (.aload_n 1, 1) := by decide +kernel
theorem dX1_middleWithLiarsAt_58 : decode cX1_middleWithLiarsAt 58 = .ok (.getfield 45, 3) := by decide +kernel
theorem dX1_middleWithLiarsAt_61 : decode cX1_middleWithLiarsAt 61 = .ok (.invokevirtual 48, 3) := by decide +kernel
theorem dX1_middleWithLiarsAt_64 : decode cX1_middleWithLiarsAt 64 = .ok (.ireturn, 1) := by decide +kernel
theorem dX1_widestPair_0 : decode cX1_widestPair 0 = .ok (.iconst 0, 1) := by decide +kernel
theorem dX1_widestPair_1 : decode cX1_widestPair 1 = .ok (.istore_n 2, 1) := by decide +kernel
theorem dX1_widestPair_2 : decode cX1_widestPair 2 = .ok (.iconst 0, 1) := by decide +kernel
theorem dX1_widestPair_3 : decode cX1_widestPair 3 = .ok (.istore_n 3, 1) := by decide +kernel
theorem dX1_widestPair_4 : decode cX1_widestPair 4 = .ok (.iload_n 3, 1) := by decide +kernel
theorem dX1_widestPair_5 : decode cX1_widestPair 5 = .ok (.aload_n 1, 1) := by decide +kernel
theorem dX1_widestPair_6 : decode cX1_widestPair 6 = .ok (.getfield 32, 3) := by decide +kernel
theorem dX1_widestPair_9 : decode cX1_widestPair 9 = .ok (.if_icmp .ge 69, 3) := by decide +kernel
theorem dX1_widestPair_12 : decode cX1_widestPair 12 = .ok (.iconst 0, 1) := by decide +kernel
theorem dX1_widestPair_13 : decode cX1_widestPair 13 = .ok (.istore 4, 2) := by decide +kernel
theorem dX1_widestPair_15 : decode cX1_widestPair 15 = .ok (.iload 4, 2) := by decide +kernel
theorem dX1_widestPair_17 : decode cX1_widestPair 17 = .ok (.aload_n 1, 1) := by decide +kernel
theorem dX1_widestPair_18 : decode cX1_widestPair 18 = .ok (.getfield 32, 3) := by decide +kernel
theorem dX1_widestPair_21 : decode cX1_widestPair 21 = .ok (.if_icmp .ge 51, 3) := by decide +kernel
theorem dX1_widestPair_24 : decode cX1_widestPair 24 = .ok (.iload_n 3, 1) := by decide +kernel
theorem dX1_widestPair_25 : decode cX1_widestPair 25 = .ok (.iload 4, 2) := by decide +kernel
theorem dX1_widestPair_27 : decode cX1_widestPair 27 = .ok (.if_icmp .eq 39, 3) := by decide +kernel
theorem dX1_widestPair_30 : decode cX1_widestPair 30 = .ok (.aload_n 1, 1) := by decide +kernel
theorem dX1_widestPair_31 : decode cX1_widestPair 31 = .ok (.iload_n 3, 1) := by decide +kernel
theorem dX1_widestPair_32 : decode cX1_widestPair 32 = .ok (.invokevirtual 56, 3) := by decide +kernel
theorem dX1_widestPair_35 : decode cX1_widestPair 35 = .ok (.ifCond .eq 31, 3) := by decide +kernel
theorem dX1_widestPair_38 : decode cX1_widestPair 38 = .ok (.aload_n 1, 1) := by decide +kernel
theorem dX1_widestPair_39 : decode cX1_widestPair 39 = .ok (.iload 4, 2) := by decide +kernel
theorem dX1_widestPair_41 : decode cX1_widestPair 41 = .ok (.invokevirtual 56, 3) := by decide +kernel
theorem dX1_widestPair_44 : decode cX1_widestPair 44 = .ok (.ifCond .eq 22, 3) := by decide +kernel
theorem dX1_widestPair_47 : decode cX1_widestPair 47 = .ok (.iload_n 2, 1) := by decide +kernel
theorem dX1_widestPair_48 : decode cX1_widestPair 48 = .ok (.aload_n 0, 1) := by decide +kernel
theorem dX1_widestPair_49 : decode cX1_widestPair 49 = .ok (.getfield 25, 3) := by decide +kernel
theorem dX1_widestPair_52 : decode cX1_widestPair 52 = .ok (.iload_n 3, 1) := by decide +kernel
theorem dX1_widestPair_53 : decode cX1_widestPair 53 = .ok (.iaload, 1) := by decide +kernel
theorem dX1_widestPair_54 : decode cX1_widestPair 54 = .ok (.aload_n 0, 1) := by decide +kernel
theorem dX1_widestPair_55 : decode cX1_widestPair 55 = .ok (.getfield 22, 3) := by decide +kernel
theorem dX1_widestPair_58 : decode cX1_widestPair 58 = .ok (.iload 4, 2) := by decide +kernel
theorem dX1_widestPair_60 : decode cX1_widestPair 60 = .ok (.iaload, 1) := by decide +kernel
theorem dX1_widestPair_61 : decode cX1_widestPair 61 = .ok (.isub, 1) := by decide +kernel
theorem dX1_widestPair_62 : decode cX1_widestPair 62 = .ok (.invokestatic 127, 3) := by decide +kernel
theorem dX1_widestPair_65 : decode cX1_widestPair 65 = .ok (.istore_n 2, 1) := by decide +kernel
theorem dX1_widestPair_66 : decode cX1_widestPair 66 = .ok (.iinc 4 1, 3) := by decide +kernel
theorem dX1_widestPair_69 : decode cX1_widestPair 69 = .ok (.goto (-54), 3) := by decide +kernel
theorem dX1_widestPair_72 : decode cX1_widestPair 72 = .ok (.iinc 3 1, 3) := by decide +kernel
theorem dX1_widestPair_75 : decode cX1_widestPair 75 = .ok (.goto (-71), 3) := by decide +kernel
theorem dX1_widestPair_78 : decode cX1_widestPair 78 = .ok (.iload_n 2, 1) := by decide +kernel
theorem dX1_widestPair_79 : decode cX1_widestPair 79 = .ok (.ireturn, 1) := by decide +kernel
theorem dX2_init_0 : decode cX2_init 0 = .ok (.aload_n 0, 1) := by decide +kernel
theorem dX2_init_1 : decode cX2_init 1 = .ok (.invokespecial 1, 3) := by decide +kernel
theorem dX2_init_4 : decode cX2_init 4 = .ok (.return_, 1) := by decide +kernel
theorem dX2_next_0 : decode cX2_next 0 = .ok (.aload_n 0, 1) := by decide +kernel
theorem dX2_next_1 : decode cX2_next 1 = .ok (.aload_n 0, 1) := by decide +kernel
theorem dX2_next_2 : decode cX2_next 2 = .ok (.getfield 7, 3) := by decide +kernel
theorem dX2_next_5 : decode cX2_next 5 = .ok (.i2l, 1) := by decide +kernel
theorem dX2_next_6 : decode cX2_next 6 = .ok (.ldc2_w 13, 3) := by decide +kernel
theorem dX2_next_9 : decode cX2_next 9 = .ok (.lmul, 1) := by decide +kernel
theorem dX2_next_10 : decode cX2_next 10 = .ok (.ldc2_w 15, 3) := by decide +kernel
theorem dX2_next_13 : decode cX2_next 13 = .ok (.ladd, 1) := by decide +kernel
theorem dX2_next_14 : decode cX2_next 14 = .ok (.ldc2_w 17, 3) := by decide +kernel
theorem dX2_next_17 : decode cX2_next 17 = .ok (.lrem, 1) := by decide +kernel
theorem dX2_next_18 : decode cX2_next 18 = .ok (.l2i, 1) := by decide +kernel
theorem dX2_next_19 : decode cX2_next 19 = .ok (.putfield 7, 3) := by decide +kernel
theorem dX2_next_22 : decode cX2_next 22 = .ok (.iload_n 1, 1) := by decide +kernel
theorem dX2_next_23 : decode cX2_next 23 = .ok (.ifCond .le 15, 3) := by decide +kernel
theorem dX2_next_26 : decode cX2_next 26 = .ok (.aload_n 0, 1) := by decide +kernel
theorem dX2_next_27 : decode cX2_next 27 = .ok (.getfield 7, 3) := by decide +kernel
theorem dX2_next_30 : decode cX2_next 30 = .ok (.ldc 19, 2) := by decide +kernel
theorem dX2_next_32 : decode cX2_next 32 = .ok (.idiv, 1) := by decide +kernel
theorem dX2_next_33 : decode cX2_next 33 = .ok (.iload_n 1, 1) := by decide +kernel
theorem dX2_next_34 : decode cX2_next 34 = .ok (.irem, 1) := by decide +kernel
theorem dX2_next_35 : decode cX2_next 35 = .ok (.goto 4, 3) := by decide +kernel
theorem dX2_next_38 : decode cX2_next 38 = .ok (.iconst 0, 1) := by decide +kernel
theorem dX2_next_39 : decode cX2_next 39 = .ok (.ireturn, 1) := by decide +kernel
theorem dX3_init_0 : decode cX3_init 0 = .ok (.aload_n 0, 1) := by decide +kernel
theorem dX3_init_1 : decode cX3_init 1 = .ok (.invokespecial 3, 3) := by decide +kernel
theorem dX3_init_4 : decode cX3_init 4 = .ok (.aload_n 0, 1) := by decide +kernel
theorem dX3_init_5 : decode cX3_init 5 = .ok (.bipush 8, 2) := by decide +kernel
theorem dX3_init_7 : decode cX3_init 7 = .ok (.newarray .int, 2) := by decide +kernel
theorem dX3_init_9 : decode cX3_init 9 = .ok (.putfield 9, 3) := by decide +kernel
theorem dX3_init_12 : decode cX3_init 12 = .ok (.return_, 1) := by decide +kernel
theorem dX3_take_0 : decode cX3_take 0 = .ok (.aload_n 0, 1) := by decide +kernel
theorem dX3_take_1 : decode cX3_take 1 = .ok (.getfield 15, 3) := by decide +kernel
theorem dX3_take_4 : decode cX3_take 4 = .ok (.bipush 8, 2) := by decide +kernel
theorem dX3_take_6 : decode cX3_take 6 = .ok (.if_icmp .lt 4, 3) := by decide +kernel
theorem dX3_take_9 : decode cX3_take 9 = .ok (.return_, 1) := by decide +kernel
theorem dX3_take_10 : decode cX3_take 10 = .ok (.aload_n 0, 1) := by decide +kernel
theorem dX3_take_11 : decode cX3_take 11 = .ok (.getfield 15, 3) := by decide +kernel
theorem dX3_take_14 : decode cX3_take 14 = .ok (.istore_n 2, 1) := by decide +kernel
theorem dX3_take_15 : decode cX3_take 15 = .ok (.iload_n 2, 1) := by decide +kernel
theorem dX3_take_16 : decode cX3_take 16 = .ok (.ifCond .le 35, 3) := by decide +kernel
theorem dX3_take_19 : decode cX3_take 19 = .ok (.aload_n 0, 1) := by decide +kernel
theorem dX3_take_20 : decode cX3_take 20 = .ok (.getfield 9, 3) := by decide +kernel
theorem dX3_take_23 : decode cX3_take 23 = .ok (.iload_n 2, 1) := by decide +kernel
theorem dX3_take_24 : decode cX3_take 24 = .ok (.iconst 1, 1) := by decide +kernel
theorem dX3_take_25 : decode cX3_take 25 = .ok (.isub, 1) := by decide +kernel
theorem dX3_take_26 : decode cX3_take 26 = .ok (.iaload, 1) := by decide +kernel
theorem dX3_take_27 : decode cX3_take 27 = .ok (.iload_n 1, 1) := by decide +kernel
theorem dX3_take_28 : decode cX3_take 28 = .ok (.if_icmp .le 23, 3) := by decide +kernel
theorem dX3_take_31 : decode cX3_take 31 = .ok (.aload_n 0, 1) := by decide +kernel
theorem dX3_take_32 : decode cX3_take 32 = .ok (.getfield 9, 3) := by decide +kernel
theorem dX3_take_35 : decode cX3_take 35 = .ok (.iload_n 2, 1) := by decide +kernel
theorem dX3_take_36 : decode cX3_take 36 = .ok (.aload_n 0, 1) := by decide +kernel
theorem dX3_take_37 : decode cX3_take 37 = .ok (.getfield 9, 3) := by decide +kernel
theorem dX3_take_40 : decode cX3_take 40 = .ok (.iload_n 2, 1) := by decide +kernel
theorem dX3_take_41 : decode cX3_take 41 = .ok (.iconst 1, 1) := by decide +kernel
theorem dX3_take_42 : decode cX3_take 42 = .ok (.isub, 1) := by decide +kernel
theorem dX3_take_43 : decode cX3_take 43 = .ok (.iaload, 1) := by decide +kernel
theorem dX3_take_44 : decode cX3_take 44 = .ok (.iastore, 1) := by decide +kernel
theorem dX3_take_45 : decode cX3_take 45 = .ok (.iinc 2 (-1), 3) := by decide +kernel
theorem dX3_take_48 : decode cX3_take 48 = .ok (.goto (-33), 3) := by decide +kernel
theorem dX3_take_51 : decode cX3_take 51 = .ok (.aload_n 0, 1) := by decide +kernel
theorem dX3_take_52 : decode cX3_take 52 = .ok (.getfield 9, 3) := by decide +kernel
theorem dX3_take_55 : decode cX3_take 55 = .ok (.iload_n 2, 1) := by decide +kernel
theorem dX3_take_56 : decode cX3_take 56 = .ok (.iload_n 1, 1) := by decide +kernel
theorem dX3_take_57 : decode cX3_take 57 = .ok (.iastore, 1) := by decide +kernel
theorem dX3_take_58 : decode cX3_take 58 = .ok (.aload_n 0, 1) := by decide +kernel
theorem dX3_take_59 : decode cX3_take 59 = .ok (.dup, 1) := by decide +kernel
theorem dX3_take_60 : decode cX3_take 60 = .ok (.getfield 15, 3) := by decide +kernel
theorem dX3_take_63 : decode cX3_take 63 = .ok (.iconst 1, 1) := by decide +kernel
theorem dX3_take_64 : decode cX3_take 64 = .ok (.iadd, 1) := by decide +kernel
theorem dX3_take_65 : decode cX3_take 65 = .ok (.putfield 15, 3) := by decide +kernel
theorem dX3_take_68 : decode cX3_take 68 = .ok (.return_, 1) := by decide +kernel
theorem dX3_leaves_0 : decode cX3_leaves 0 = .ok (.iload_n 1, 1) := by decide +kernel
theorem dX3_leaves_1 : decode cX3_leaves 1 = .ok (.ifCond .lt 17, 3) := by decide +kernel
theorem dX3_leaves_4 : decode cX3_leaves 4 = .ok (.aload_n 0, 1) := by decide +kernel
theorem dX3_leaves_5 : decode cX3_leaves 5 = .ok (.getfield 15, 3) := by decide +kernel
theorem dX3_leaves_8 : decode cX3_leaves 8 = .ok (.iconst 2, 1) := by decide +kernel
theorem dX3_leaves_9 : decode cX3_leaves 9 = .ok (.iload_n 1, 1) := by decide +kernel
theorem dX3_leaves_10 : decode cX3_leaves 10 = .ok (.imul, 1) := by decide +kernel
theorem dX3_leaves_11 : decode cX3_leaves 11 = .ok (.if_icmp .le 7, 3) := by decide +kernel
theorem dX3_leaves_14 : decode cX3_leaves 14 = .ok (.iconst 1, 1) := by decide +kernel
theorem dX3_leaves_15 : decode cX3_leaves 15 = .ok (.goto 4, 3) := by decide +kernel
theorem dX3_leaves_18 : decode cX3_leaves 18 = .ok (.iconst 0, 1) := by decide +kernel
theorem dX3_leaves_19 : decode cX3_leaves 19 = .ok (.ireturn, 1) := by decide +kernel
theorem dX3_middle_0 : decode cX3_middle 0 = .ok (.aload_n 0, 1) := by decide +kernel
theorem dX3_middle_1 : decode cX3_middle 1 = .ok (.iload_n 1, 1) := by decide +kernel
theorem dX3_middle_2 : decode cX3_middle 2 = .ok (.invokevirtual 19, 3) := by decide +kernel
theorem dX3_middle_5 : decode cX3_middle 5 = .ok (.ifCond .eq 30, 3) := by decide +kernel
theorem dX3_middle_8 : decode cX3_middle 8 = .ok (.aload_n 0, 1) := by decide +kernel
theorem dX3_middle_9 : decode cX3_middle 9 = .ok (.getfield 9, 3) := by decide +kernel
theorem dX3_middle_12 : decode cX3_middle 12 = .ok (.iload_n 1, 1) := by decide +kernel
theorem dX3_middle_13 : decode cX3_middle 13 = .ok (.iaload, 1) := by decide +kernel
theorem dX3_middle_14 : decode cX3_middle 14 = .ok (.aload_n 0, 1) := by decide +kernel
theorem dX3_middle_15 : decode cX3_middle 15 = .ok (.getfield 9, 3) := by decide +kernel
theorem dX3_middle_18 : decode cX3_middle 18 = .ok (.aload_n 0, 1) := by decide +kernel
theorem dX3_middle_19 : decode cX3_middle 19 = .ok (.getfield 15, 3) := by decide +kernel
theorem dX3_middle_22 : decode cX3_middle 22 = .ok (.iconst 1, 1) := by decide +kernel
theorem dX3_middle_23 : decode cX3_middle 23 = .ok (.isub, 1) := by decide +kernel
theorem dX3_middle_24 : decode cX3_middle 24 = .ok (.iload_n 1, 1) := by decide +kernel
theorem dX3_middle_25 : decode cX3_middle 25 = .ok (.isub, 1) := by decide +kernel
theorem dX3_middle_26 : decode cX3_middle 26 = .ok (.iaload, 1) := by decide +kernel
theorem dX3_middle_27 : decode cX3_middle 27 = .ok (.iadd, 1) := by decide +kernel
theorem dX3_middle_28 : decode cX3_middle 28 = .ok (.iconst 2, 1) := by decide +kernel
theorem dX3_middle_29 : decode cX3_middle 29 = .ok (.invokestatic 23, 3) := by decide +kernel
theorem dX3_middle_32 : decode cX3_middle 32 = .ok (.goto 4, 3) := by decide +kernel
theorem dX3_middle_35 : decode cX3_middle 35 = .ok (.iconst 0, 1) := by decide +kernel
theorem dX3_middle_36 : decode cX3_middle 36 = .ok (.ireturn, 1) := by decide +kernel
theorem dX4_init_0 : decode cX4_init 0 = .ok (.aload_n 0, 1) := by decide +kernel
theorem dX4_init_1 : decode cX4_init 1 = .ok (.invokespecial 3, 3) := by decide +kernel
theorem dX4_init_4 : decode cX4_init 4 = .ok (.aload_n 0, 1) := by decide +kernel
theorem dX4_init_5 : decode cX4_init 5 = .ok (.bipush 16, 2) := by decide +kernel
theorem dX4_init_7 : decode cX4_init 7 = .ok (.anewarray 9, 3) := by decide +kernel
theorem dX4_init_10 : decode cX4_init 10 = .ok (.putfield 11, 3) := by decide +kernel
theorem dX4_init_13 : decode cX4_init 13 = .ok (.iconst 0, 1) := by decide +kernel
theorem dX4_init_14 : decode cX4_init 14 = .ok (.istore_n 1, 1) := by decide +kernel
theorem dX4_init_15 : decode cX4_init 15 = .ok (.iload_n 1, 1) := by decide +kernel
theorem dX4_init_16 : decode cX4_init 16 = .ok (.bipush 16, 2) := by decide +kernel
theorem dX4_init_18 : decode cX4_init 18 = .ok (.if_icmp .ge 22, 3) := by decide +kernel
theorem dX4_init_21 : decode cX4_init 21 = .ok (.aload_n 0, 1) := by decide +kernel
theorem dX4_init_22 : decode cX4_init 22 = .ok (.getfield 11, 3) := by decide +kernel
theorem dX4_init_25 : decode cX4_init 25 = .ok (.iload_n 1, 1) := by decide +kernel
theorem dX4_init_26 : decode cX4_init 26 = .ok (.new 9, 3) := by decide +kernel
theorem dX4_init_29 : decode cX4_init 29 = .ok (.dup, 1) := by decide +kernel
theorem dX4_init_30 : decode cX4_init 30 = .ok (.invokespecial 17, 3) := by decide +kernel
theorem dX4_init_33 : decode cX4_init 33 = .ok (.aastore, 1) := by decide +kernel
theorem dX4_init_34 : decode cX4_init 34 = .ok (.iinc 1 1, 3) := by decide +kernel
theorem dX4_init_37 : decode cX4_init 37 = .ok (.goto (-22), 3) := by decide +kernel
theorem dX4_init_40 : decode cX4_init 40 = .ok (.return_, 1) := by decide +kernel
theorem dX4_remember_0 : decode cX4_remember 0 = .ok (.aload_n 0, 1) := by decide +kernel
theorem dX4_remember_1 : decode cX4_remember 1 = .ok (.getfield 11, 3) := by decide +kernel
theorem dX4_remember_4 : decode cX4_remember 4 = .ok (.aload_n 0, 1) := by decide +kernel
theorem dX4_remember_5 : decode cX4_remember 5 = .ok (.getfield 18, 3) := by decide +kernel
theorem dX4_remember_8 : decode cX4_remember 8 = .ok (.aaload, 1) := by decide +kernel
theorem dX4_remember_9 : decode cX4_remember 9 = .ok (.aload_n 1, 1) := by decide +kernel
theorem dX4_remember_10 : decode cX4_remember 10 = .ok (.invokevirtual 22, 3) := by decide +kernel
theorem dX4_remember_13 : decode cX4_remember 13 = .ok (.aload_n 0, 1) := by decide +kernel
theorem dX4_remember_14 : decode cX4_remember 14 = .ok (.aload_n 0, 1) := by decide +kernel
theorem dX4_remember_15 : decode cX4_remember 15 = .ok (.getfield 18, 3) := by decide +kernel
theorem dX4_remember_18 : decode cX4_remember 18 = .ok (.iconst 1, 1) := by decide +kernel
theorem dX4_remember_19 : decode cX4_remember 19 = .ok (.iadd, 1) := by decide +kernel
theorem dX4_remember_20 : decode cX4_remember 20 = .ok (.bipush 16, 2) := by decide +kernel
theorem dX4_remember_22 : decode cX4_remember 22 = .ok (.irem, 1) := by decide +kernel
theorem dX4_remember_23 : decode cX4_remember 23 = .ok (.putfield 18, 3) := by decide +kernel
theorem dX4_remember_26 : decode cX4_remember 26 = .ok (.aload_n 0, 1) := by decide +kernel
theorem dX4_remember_27 : decode cX4_remember 27 = .ok (.aload_n 0, 1) := by decide +kernel
theorem dX4_remember_28 : decode cX4_remember 28 = .ok (.getfield 26, 3) := by decide +kernel
theorem dX4_remember_31 : decode cX4_remember 31 = .ok (.iconst 1, 1) := by decide +kernel
theorem dX4_remember_32 : decode cX4_remember 32 = .ok (.iadd, 1) := by decide +kernel
theorem dX4_remember_33 : decode cX4_remember 33 = .ok (.bipush 16, 2) := by decide +kernel
theorem dX4_remember_35 : decode cX4_remember 35 = .ok (.invokestatic 29, 3) := by decide +kernel
theorem dX4_remember_38 : decode cX4_remember 38 = .ok (.putfield 26, 3) := by decide +kernel
theorem dX4_remember_41 : decode cX4_remember 41 = .ok (.return_, 1) := by decide +kernel
theorem dX4_takeBack_0 : decode cX4_takeBack 0 = .ok (.iload_n 1, 1) := by decide +kernel
theorem dX4_takeBack_1 : decode cX4_takeBack 1 = .ok (.iconst 1, 1) := by decide +kernel
theorem dX4_takeBack_2 : decode cX4_takeBack 2 = .ok (.if_icmp .lt 49, 3) := by decide +kernel
theorem dX4_takeBack_5 : decode cX4_takeBack 5 = .ok (.iload_n 1, 1) := by decide +kernel
theorem dX4_takeBack_6 : decode cX4_takeBack 6 = .ok (.aload_n 0, 1) := by decide +kernel
theorem dX4_takeBack_7 : decode cX4_takeBack 7 = .ok (.getfield 26, 3) := by decide +kernel
theorem dX4_takeBack_10 : decode cX4_takeBack 10 = .ok (.if_icmp .gt 41, 3) := by decide +kernel
theorem dX4_takeBack_13 : decode cX4_takeBack 13 = .ok (.aload_n 0, 1) := by decide +kernel
theorem dX4_takeBack_14 : decode cX4_takeBack 14 = .ok (.aload_n 0, 1) := by decide +kernel
theorem dX4_takeBack_15 : decode cX4_takeBack 15 = .ok (.getfield 18, 3) := by decide +kernel
theorem dX4_takeBack_18 : decode cX4_takeBack 18 = .ok (.iload_n 1, 1) := by decide +kernel
theorem dX4_takeBack_19 : decode cX4_takeBack 19 = .ok (.isub, 1) := by decide +kernel
theorem dX4_takeBack_20 : decode cX4_takeBack 20 = .ok (.bipush 16, 2) := by decide +kernel
theorem dX4_takeBack_22 : decode cX4_takeBack 22 = .ok (.invokestatic 35, 3) := by decide +kernel
theorem dX4_takeBack_25 : decode cX4_takeBack 25 = .ok (.putfield 18, 3) := by decide +kernel
theorem dX4_takeBack_28 : decode cX4_takeBack 28 = .ok (.aload_n 0, 1) := by decide +kernel
theorem dX4_takeBack_29 : decode cX4_takeBack 29 = .ok (.dup, 1) := by decide +kernel
theorem dX4_takeBack_30 : decode cX4_takeBack 30 = .ok (.getfield 26, 3) := by decide +kernel
theorem dX4_takeBack_33 : decode cX4_takeBack 33 = .ok (.iload_n 1, 1) := by decide +kernel
theorem dX4_takeBack_34 : decode cX4_takeBack 34 = .ok (.isub, 1) := by decide +kernel
theorem dX4_takeBack_35 : decode cX4_takeBack 35 = .ok (.putfield 26, 3) := by decide +kernel
theorem dX4_takeBack_38 : decode cX4_takeBack 38 = .ok (.aload_n 2, 1) := by decide +kernel
theorem dX4_takeBack_39 : decode cX4_takeBack 39 = .ok (.aload_n 0, 1) := by decide +kernel
theorem dX4_takeBack_40 : decode cX4_takeBack 40 = .ok (.getfield 11, 3) := by decide +kernel
theorem dX4_takeBack_43 : decode cX4_takeBack 43 = .ok (.aload_n 0, 1) := by decide +kernel
theorem dX4_takeBack_44 : decode cX4_takeBack 44 = .ok (.getfield 18, 3) := by decide +kernel
theorem dX4_takeBack_47 : decode cX4_takeBack 47 = .ok (.aaload, 1) := by decide +kernel
theorem dX4_takeBack_48 : decode cX4_takeBack 48 = .ok (.invokevirtual 22, 3) := by decide +kernel
theorem dX4_takeBack_51 : decode cX4_takeBack 51 = .ok (.return_, 1) := by decide +kernel
theorem dX4_forget_0 : decode cX4_forget 0 = .ok (.aload_n 0, 1) := by decide +kernel
theorem dX4_forget_1 : decode cX4_forget 1 = .ok (.iconst 0, 1) := by decide +kernel
theorem dX4_forget_2 : decode cX4_forget 2 = .ok (.putfield 26, 3) := by decide +kernel
theorem dX4_forget_5 : decode cX4_forget 5 = .ok (.return_, 1) := by decide +kernel
theorem dX5_init_0 : decode cX5_init 0 = .ok (.aload_n 0, 1) := by decide +kernel
theorem dX5_init_1 : decode cX5_init 1 = .ok (.invokespecial 3, 3) := by decide +kernel
theorem dX5_init_4 : decode cX5_init 4 = .ok (.aload_n 0, 1) := by decide +kernel
theorem dX5_init_5 : decode cX5_init 5 = .ok (.bipush 10, 2) := by decide +kernel
theorem dX5_init_7 : decode cX5_init 7 = .ok (.putfield 9, 3) := by decide +kernel
theorem dX5_init_10 : decode cX5_init 10 = .ok (.aload_n 0, 1) := by decide +kernel
theorem dX5_init_11 : decode cX5_init 11 = .ok (.bipush 8, 2) := by decide +kernel
theorem dX5_init_13 : decode cX5_init 13 = .ok (.newarray .int, 2) := by decide +kernel
theorem dX5_init_15 : decode cX5_init 15 = .ok (.putfield 15, 3) := by decide +kernel
theorem dX5_init_18 : decode cX5_init 18 = .ok (.aload_n 0, 1) := by decide +kernel
theorem dX5_init_19 : decode cX5_init 19 = .ok (.bipush 8, 2) := by decide +kernel
theorem dX5_init_21 : decode cX5_init 21 = .ok (.newarray .int, 2) := by decide +kernel
theorem dX5_init_23 : decode cX5_init 23 = .ok (.putfield 19, 3) := by decide +kernel
theorem dX5_init_26 : decode cX5_init 26 = .ok (.aload_n 0, 1) := by decide +kernel
theorem dX5_init_27 : decode cX5_init 27 = .ok (.bipush 8, 2) := by decide +kernel
theorem dX5_init_29 : decode cX5_init 29 = .ok (.newarray .int, 2) := by decide +kernel
theorem dX5_init_31 : decode cX5_init 31 = .ok (.putfield 22, 3) := by decide +kernel
theorem dX5_init_34 : decode cX5_init 34 = .ok (.aload_n 0, 1) := by decide +kernel
theorem dX5_init_35 : decode cX5_init 35 = .ok (.bipush 64, 2) := by decide +kernel
theorem dX5_init_37 : decode cX5_init 37 = .ok (.newarray .int, 2) := by decide +kernel
theorem dX5_init_39 : decode cX5_init 39 = .ok (.putfield 25, 3) := by decide +kernel
theorem dX5_init_42 : decode cX5_init 42 = .ok (.aload_n 0, 1) := by decide +kernel
theorem dX5_init_43 : decode cX5_init 43 = .ok (.bipush 64, 2) := by decide +kernel
theorem dX5_init_45 : decode cX5_init 45 = .ok (.newarray .int, 2) := by decide +kernel
theorem dX5_init_47 : decode cX5_init 47 = .ok (.putfield 28, 3) := by decide +kernel
theorem dX5_init_50 : decode cX5_init 50 = .ok (.aload_n 0, 1) := by decide +kernel
theorem dX5_init_51 : decode cX5_init 51 = .ok (.bipush 6, 2) := by decide +kernel
theorem dX5_init_53 : decode cX5_init 53 = .ok (.newarray .int, 2) := by decide +kernel
theorem dX5_init_55 : decode cX5_init 55 = .ok (.putfield 31, 3) := by decide +kernel
theorem dX5_init_58 : decode cX5_init 58 = .ok (.aload_n 0, 1) := by decide +kernel
theorem dX5_init_59 : decode cX5_init 59 = .ok (.bipush 6, 2) := by decide +kernel
theorem dX5_init_61 : decode cX5_init 61 = .ok (.newarray .int, 2) := by decide +kernel
theorem dX5_init_63 : decode cX5_init 63 = .ok (.putfield 34, 3) := by decide +kernel
theorem dX5_init_66 : decode cX5_init 66 = .ok (.return_, 1) := by decide +kernel
theorem dX5_way_0 : decode cX5_way 0 = .ok (.iload_n 0, 1) := by decide +kernel
theorem dX5_way_1 : decode cX5_way 1 = .ok (.bipush 8, 2) := by decide +kernel
theorem dX5_way_3 : decode cX5_way 3 = .ok (.imul, 1) := by decide +kernel
theorem dX5_way_4 : decode cX5_way 4 = .ok (.iload_n 1, 1) := by decide +kernel
theorem dX5_way_5 : decode cX5_way 5 = .ok (.iadd, 1) := by decide +kernel
theorem dX5_way_6 : decode cX5_way 6 = .ok (.ireturn, 1) := by decide +kernel
theorem dX5_clear_0 : decode cX5_clear 0 = .ok (.aload_n 0, 1) := by decide +kernel
theorem dX5_clear_1 : decode cX5_clear 1 = .ok (.iconst 0, 1) := by decide +kernel
theorem dX5_clear_2 : decode cX5_clear 2 = .ok (.putfield 37, 3) := by decide +kernel
theorem dX5_clear_5 : decode cX5_clear 5 = .ok (.aload_n 0, 1) := by decide +kernel
theorem dX5_clear_6 : decode cX5_clear 6 = .ok (.iconst 0, 1) := by decide +kernel
theorem dX5_clear_7 : decode cX5_clear 7 = .ok (.putfield 40, 3) := by decide +kernel
theorem dX5_clear_10 : decode cX5_clear 10 = .ok (.aload_n 0, 1) := by decide +kernel
theorem dX5_clear_11 : decode cX5_clear 11 = .ok (.bipush 10, 2) := by decide +kernel
theorem dX5_clear_13 : decode cX5_clear 13 = .ok (.putfield 9, 3) := by decide +kernel
theorem dX5_clear_16 : decode cX5_clear 16 = .ok (.aload_n 0, 1) := by decide +kernel
theorem dX5_clear_17 : decode cX5_clear 17 = .ok (.iconst 0, 1) := by decide +kernel
theorem dX5_clear_18 : decode cX5_clear 18 = .ok (.putfield 43, 3) := by decide +kernel
theorem dX5_clear_21 : decode cX5_clear 21 = .ok (.aload_n 0, 1) := by decide +kernel
theorem dX5_clear_22 : decode cX5_clear 22 = .ok (.iconst 0, 1) := by decide +kernel
theorem dX5_clear_23 : decode cX5_clear 23 = .ok (.putfield 46, 3) := by decide +kernel
theorem dX5_clear_26 : decode cX5_clear 26 = .ok (.aload_n 0, 1) := by decide +kernel
theorem dX5_clear_27 : decode cX5_clear 27 = .ok (.iconst 0, 1) := by decide +kernel
theorem dX5_clear_28 : decode cX5_clear 28 = .ok (.putfield 49, 3) := by decide +kernel
theorem dX5_clear_31 : decode cX5_clear 31 = .ok (.aload_n 0, 1) := by decide +kernel
theorem dX5_clear_32 : decode cX5_clear 32 = .ok (.iconst 0, 1) := by decide +kernel
theorem dX5_clear_33 : decode cX5_clear 33 = .ok (.putfield 52, 3) := by decide +kernel
theorem dX5_clear_36 : decode cX5_clear 36 = .ok (.aload_n 0, 1) := by decide +kernel
theorem dX5_clear_37 : decode cX5_clear 37 = .ok (.iconst 0, 1) := by decide +kernel
theorem dX5_clear_38 : decode cX5_clear 38 = .ok (.putfield 55, 3) := by decide +kernel
theorem dX5_clear_41 : decode cX5_clear 41 = .ok (.aload_n 0, 1) := by decide +kernel
theorem dX5_clear_42 : decode cX5_clear 42 = .ok (.getfield 25, 3) := by decide +kernel
theorem dX5_clear_45 : decode cX5_clear 45 = .ok (.iconst 0, 1) := by decide +kernel
theorem dX5_clear_46 : decode cX5_clear 46 = .ok (.invokestatic 58, 3) := by decide +kernel
theorem dX5_clear_49 : decode cX5_clear 49 = .ok (.aload_n 0, 1) := by decide +kernel
theorem dX5_clear_50 : decode cX5_clear 50 = .ok (.getfield 28, 3) := by decide +kernel
theorem dX5_clear_53 : decode cX5_clear 53 = .ok (.iconst 0, 1) := by decide +kernel
theorem dX5_clear_54 : decode cX5_clear 54 = .ok (.invokestatic 58, 3) := by decide +kernel
theorem dX5_clear_57 : decode cX5_clear 57 = .ok (.return_, 1) := by decide +kernel
theorem dX5_copyFrom_0 : decode cX5_copyFrom 0 = .ok (.aload_n 0, 1) := by decide +kernel
theorem dX5_copyFrom_1 : decode cX5_copyFrom 1 = .ok (.aload_n 1, 1) := by decide +kernel
theorem dX5_copyFrom_2 : decode cX5_copyFrom 2 = .ok (.getfield 37, 3) := by decide +kernel
theorem dX5_copyFrom_5 : decode cX5_copyFrom 5 = .ok (.putfield 37, 3) := by decide +kernel
theorem dX5_copyFrom_8 : decode cX5_copyFrom 8 = .ok (.aload_n 0, 1) := by decide +kernel
theorem dX5_copyFrom_9 : decode cX5_copyFrom 9 = .ok (.aload_n 1, 1) := by decide +kernel
theorem dX5_copyFrom_10 : decode cX5_copyFrom 10 = .ok (.getfield 40, 3) := by decide +kernel
theorem dX5_copyFrom_13 : decode cX5_copyFrom 13 = .ok (.putfield 40, 3) := by decide +kernel
theorem dX5_copyFrom_16 : decode cX5_copyFrom 16 = .ok (.aload_n 0, 1) := by decide +kernel
theorem dX5_copyFrom_17 : decode cX5_copyFrom 17 = .ok (.aload_n 1, 1) := by decide +kernel
theorem dX5_copyFrom_18 : decode cX5_copyFrom 18 = .ok (.getfield 9, 3) := by decide +kernel
theorem dX5_copyFrom_21 : decode cX5_copyFrom 21 = .ok (.putfield 9, 3) := by decide +kernel
theorem dX5_copyFrom_24 : decode cX5_copyFrom 24 = .ok (.aload_n 0, 1) := by decide +kernel
theorem dX5_copyFrom_25 : decode cX5_copyFrom 25 = .ok (.aload_n 1, 1) := by decide +kernel
theorem dX5_copyFrom_26 : decode cX5_copyFrom 26 = .ok (.getfield 43, 3) := by decide +kernel
theorem dX5_copyFrom_29 : decode cX5_copyFrom 29 = .ok (.putfield 43, 3) := by decide +kernel
theorem dX5_copyFrom_32 : decode cX5_copyFrom 32 = .ok (.aload_n 0, 1) := by decide +kernel
theorem dX5_copyFrom_33 : decode cX5_copyFrom 33 = .ok (.aload_n 1, 1) := by decide +kernel
theorem dX5_copyFrom_34 : decode cX5_copyFrom 34 = .ok (.getfield 46, 3) := by decide +kernel
theorem dX5_copyFrom_37 : decode cX5_copyFrom 37 = .ok (.putfield 46, 3) := by decide +kernel
theorem dX5_copyFrom_40 : decode cX5_copyFrom 40 = .ok (.aload_n 0, 1) := by decide +kernel
theorem dX5_copyFrom_41 : decode cX5_copyFrom 41 = .ok (.aload_n 1, 1) := by decide +kernel
theorem dX5_copyFrom_42 : decode cX5_copyFrom 42 = .ok (.getfield 49, 3) := by decide +kernel
theorem dX5_copyFrom_45 : decode cX5_copyFrom 45 = .ok (.putfield 49, 3) := by decide +kernel
theorem dX5_copyFrom_48 : decode cX5_copyFrom 48 = .ok (.aload_n 0, 1) := by decide +kernel
theorem dX5_copyFrom_49 : decode cX5_copyFrom 49 = .ok (.aload_n 1, 1) := by decide +kernel
theorem dX5_copyFrom_50 : decode cX5_copyFrom 50 = .ok (.getfield 52, 3) := by decide +kernel
theorem dX5_copyFrom_53 : decode cX5_copyFrom 53 = .ok (.putfield 52, 3) := by decide +kernel
theorem dX5_copyFrom_56 : decode cX5_copyFrom 56 = .ok (.aload_n 0, 1) := by decide +kernel
theorem dX5_copyFrom_57 : decode cX5_copyFrom 57 = .ok (.aload_n 1, 1) := by decide +kernel
theorem dX5_copyFrom_58 : decode cX5_copyFrom 58 = .ok (.getfield 55, 3) := by decide +kernel
theorem dX5_copyFrom_61 : decode cX5_copyFrom 61 = .ok (.putfield 55, 3) := by decide +kernel
theorem dX5_copyFrom_64 : decode cX5_copyFrom 64 = .ok (.aload_n 1, 1) := by decide +kernel
theorem dX5_copyFrom_65 : decode cX5_copyFrom 65 = .ok (.getfield 15, 3) := by decide +kernel
theorem dX5_copyFrom_68 : decode cX5_copyFrom 68 = .ok (.iconst 0, 1) := by decide +kernel
theorem dX5_copyFrom_69 : decode cX5_copyFrom 69 = .ok (.aload_n 0, 1) := by decide +kernel
theorem dX5_copyFrom_70 : decode cX5_copyFrom 70 = .ok (.getfield 15, 3) := by decide +kernel
theorem dX5_copyFrom_73 : decode cX5_copyFrom 73 = .ok (.iconst 0, 1) := by decide +kernel
theorem dX5_copyFrom_74 : decode cX5_copyFrom 74 = .ok (.bipush 8, 2) := by decide +kernel
theorem dX5_copyFrom_76 : decode cX5_copyFrom 76 = .ok (.invokestatic 64, 3) := by decide +kernel
theorem dX5_copyFrom_79 : decode cX5_copyFrom 79 = .ok (.aload_n 1, 1) := by decide +kernel
theorem dX5_copyFrom_80 : decode cX5_copyFrom 80 = .ok (.getfield 19, 3) := by decide +kernel
theorem dX5_copyFrom_83 : decode cX5_copyFrom 83 = .ok (.iconst 0, 1) := by decide +kernel
theorem dX5_copyFrom_84 : decode cX5_copyFrom 84 = .ok (.aload_n 0, 1) := by decide +kernel
theorem dX5_copyFrom_85 : decode cX5_copyFrom 85 = .ok (.getfield 19, 3) := by decide +kernel
theorem dX5_copyFrom_88 : decode cX5_copyFrom 88 = .ok (.iconst 0, 1) := by decide +kernel
theorem dX5_copyFrom_89 : decode cX5_copyFrom 89 = .ok (.bipush 8, 2) := by decide +kernel
theorem dX5_copyFrom_91 : decode cX5_copyFrom 91 = .ok (.invokestatic 64, 3) := by decide +kernel
theorem dX5_copyFrom_94 : decode cX5_copyFrom 94 = .ok (.aload_n 1, 1) := by decide +kernel
theorem dX5_copyFrom_95 : decode cX5_copyFrom 95 = .ok (.getfield 22, 3) := by decide +kernel
theorem dX5_copyFrom_98 : decode cX5_copyFrom 98 = .ok (.iconst 0, 1) := by decide +kernel
theorem dX5_copyFrom_99 : decode cX5_copyFrom 99 = .ok (.aload_n 0, 1) := by decide +kernel
theorem dX5_copyFrom_100 : decode cX5_copyFrom 100 = .ok (.getfield 22, 3) := by decide +kernel
theorem dX5_copyFrom_103 : decode cX5_copyFrom 103 = .ok (.iconst 0, 1) := by decide +kernel
theorem dX5_copyFrom_104 : decode cX5_copyFrom 104 = .ok (.bipush 8, 2) := by decide +kernel
theorem dX5_copyFrom_106 : decode cX5_copyFrom 106 = .ok (.invokestatic 64, 3) := by decide +kernel
theorem dX5_copyFrom_109 : decode cX5_copyFrom 109 = .ok (.aload_n 1, 1) := by decide +kernel
theorem dX5_copyFrom_110 : decode cX5_copyFrom 110 = .ok (.getfield 25, 3) := by decide +kernel
theorem dX5_copyFrom_113 : decode cX5_copyFrom 113 = .ok (.iconst 0, 1) := by decide +kernel
theorem dX5_copyFrom_114 : decode cX5_copyFrom 114 = .ok (.aload_n 0, 1) := by decide +kernel
theorem dX5_copyFrom_115 : decode cX5_copyFrom 115 = .ok (.getfield 25, 3) := by decide +kernel
theorem dX5_copyFrom_118 : decode cX5_copyFrom 118 = .ok (.iconst 0, 1) := by decide +kernel
theorem dX5_copyFrom_119 : decode cX5_copyFrom 119 = .ok (.bipush 64, 2) := by decide +kernel
theorem dX5_copyFrom_121 : decode cX5_copyFrom 121 = .ok (.invokestatic 64, 3) := by decide +kernel
theorem dX5_copyFrom_124 : decode cX5_copyFrom 124 = .ok (.aload_n 1, 1) := by decide +kernel
theorem dX5_copyFrom_125 : decode cX5_copyFrom 125 = .ok (.getfield 28, 3) := by decide +kernel
theorem dX5_copyFrom_128 : decode cX5_copyFrom 128 = .ok (.iconst 0, 1) := by decide +kernel
theorem dX5_copyFrom_129 : decode cX5_copyFrom 129 = .ok (.aload_n 0, 1) := by decide +kernel
theorem dX5_copyFrom_130 : decode cX5_copyFrom 130 = .ok (.getfield 28, 3) := by decide +kernel
theorem dX5_copyFrom_133 : decode cX5_copyFrom 133 = .ok (.iconst 0, 1) := by decide +kernel
theorem dX5_copyFrom_134 : decode cX5_copyFrom 134 = .ok (.bipush 64, 2) := by decide +kernel
theorem dX5_copyFrom_136 : decode cX5_copyFrom 136 = .ok (.invokestatic 64, 3) := by decide +kernel
theorem dX5_copyFrom_139 : decode cX5_copyFrom 139 = .ok (.aload_n 1, 1) := by decide +kernel
theorem dX5_copyFrom_140 : decode cX5_copyFrom 140 = .ok (.getfield 31, 3) := by decide +kernel
theorem dX5_copyFrom_143 : decode cX5_copyFrom 143 = .ok (.iconst 0, 1) := by decide +kernel
theorem dX5_copyFrom_144 : decode cX5_copyFrom 144 = .ok (.aload_n 0, 1) := by decide +kernel
theorem dX5_copyFrom_145 : decode cX5_copyFrom 145 = .ok (.getfield 31, 3) := by decide +kernel
theorem dX5_copyFrom_148 : decode cX5_copyFrom 148 = .ok (.iconst 0, 1) := by decide +kernel
theorem dX5_copyFrom_149 : decode cX5_copyFrom 149 = .ok (.bipush 6, 2) := by decide +kernel
theorem dX5_copyFrom_151 : decode cX5_copyFrom 151 = .ok (.invokestatic 64, 3) := by decide +kernel
theorem dX5_copyFrom_154 : decode cX5_copyFrom 154 = .ok (.aload_n 1, 1) := by decide +kernel
theorem dX5_copyFrom_155 : decode cX5_copyFrom 155 = .ok (.getfield 34, 3) := by decide +kernel
theorem dX5_copyFrom_158 : decode cX5_copyFrom 158 = .ok (.iconst 0, 1) := by decide +kernel
theorem dX5_copyFrom_159 : decode cX5_copyFrom 159 = .ok (.aload_n 0, 1) := by decide +kernel
theorem dX5_copyFrom_160 : decode cX5_copyFrom 160 = .ok (.getfield 34, 3) := by decide +kernel
theorem dX5_copyFrom_163 : decode cX5_copyFrom 163 = .ok (.iconst 0, 1) := by decide +kernel
theorem dX5_copyFrom_164 : decode cX5_copyFrom 164 = .ok (.bipush 6, 2) := by decide +kernel
theorem dX5_copyFrom_166 : decode cX5_copyFrom 166 = .ok (.invokestatic 64, 3) := by decide +kernel
theorem dX5_copyFrom_169 : decode cX5_copyFrom 169 = .ok (.return_, 1) := by decide +kernel
theorem dX5_addClock_0 : decode cX5_addClock 0 = .ok (.aload_n 0, 1) := by decide +kernel
theorem dX5_addClock_1 : decode cX5_addClock 1 = .ok (.getfield 37, 3) := by decide +kernel
theorem dX5_addClock_4 : decode cX5_addClock 4 = .ok (.bipush 8, 2) := by decide +kernel
theorem dX5_addClock_6 : decode cX5_addClock 6 = .ok (.if_icmp .ge 43, 3) := by decide +kernel
theorem dX5_addClock_9 : decode cX5_addClock 9 = .ok (.aload_n 0, 1) := by decide +kernel
theorem dX5_addClock_10 : decode cX5_addClock 10 = .ok (.getfield 15, 3) := by decide +kernel
theorem dX5_addClock_13 : decode cX5_addClock 13 = .ok (.aload_n 0, 1) := by decide +kernel
theorem dX5_addClock_14 : decode cX5_addClock 14 = .ok (.getfield 37, 3) := by decide +kernel
theorem dX5_addClock_17 : decode cX5_addClock 17 = .ok (.iload_n 1, 1) := by decide +kernel
theorem dX5_addClock_18 : decode cX5_addClock 18 = .ok (.iastore, 1) := by decide +kernel
theorem dX5_addClock_19 : decode cX5_addClock 19 = .ok (.aload_n 0, 1) := by decide +kernel
theorem dX5_addClock_20 : decode cX5_addClock 20 = .ok (.getfield 19, 3) := by decide +kernel
theorem dX5_addClock_23 : decode cX5_addClock 23 = .ok (.aload_n 0, 1) := by decide +kernel
theorem dX5_addClock_24 : decode cX5_addClock 24 = .ok (.getfield 37, 3) := by decide +kernel
theorem dX5_addClock_27 : decode cX5_addClock 27 = .ok (.iload_n 2, 1) := by decide +kernel
theorem dX5_addClock_28 : decode cX5_addClock 28 = .ok (.iastore, 1) := by decide +kernel
theorem dX5_addClock_29 : decode cX5_addClock 29 = .ok (.aload_n 0, 1) := by decide +kernel
theorem dX5_addClock_30 : decode cX5_addClock 30 = .ok (.getfield 22, 3) := by decide +kernel
theorem dX5_addClock_33 : decode cX5_addClock 33 = .ok (.aload_n 0, 1) := by decide +kernel
theorem dX5_addClock_34 : decode cX5_addClock 34 = .ok (.getfield 37, 3) := by decide +kernel
theorem dX5_addClock_37 : decode cX5_addClock 37 = .ok (.iconst 0, 1) := by decide +kernel
theorem dX5_addClock_38 : decode cX5_addClock 38 = .ok (.iastore, 1) := by decide +kernel
theorem dX5_addClock_39 : decode cX5_addClock 39 = .ok (.aload_n 0, 1) := by decide +kernel
theorem dX5_addClock_40 : decode cX5_addClock 40 = .ok (.dup, 1) := by decide +kernel
theorem dX5_addClock_41 : decode cX5_addClock 41 = .ok (.getfield 37, 3) := by decide +kernel
theorem dX5_addClock_44 : decode cX5_addClock 44 = .ok (.iconst 1, 1) := by decide +kernel
theorem dX5_addClock_45 : decode cX5_addClock 45 = .ok (.iadd, 1) := by decide +kernel
theorem dX5_addClock_46 : decode cX5_addClock 46 = .ok (.putfield 37, 3) := by decide +kernel
theorem dX5_addClock_49 : decode cX5_addClock 49 = .ok (.return_, 1) := by decide +kernel
theorem dX5_has_0 : decode cX5_has 0 = .ok (.iload_n 1, 1) := by decide +kernel
theorem dX5_has_1 : decode cX5_has 1 = .ok (.ifCond .lt 15, 3) := by decide +kernel
theorem dX5_has_4 : decode cX5_has 4 = .ok (.iload_n 1, 1) := by decide +kernel
theorem dX5_has_5 : decode cX5_has 5 = .ok (.aload_n 0, 1) := by decide +kernel
theorem dX5_has_6 : decode cX5_has 6 = .ok (.getfield 37, 3) := by decide +kernel
theorem dX5_has_9 : decode cX5_has 9 = .ok (.if_icmp .ge 7, 3) := by decide +kernel
theorem dX5_has_12 : decode cX5_has 12 = .ok (.iconst 1, 1) := by decide +kernel
theorem dX5_has_13 : decode cX5_has 13 = .ok (.goto 4, 3) := by decide +kernel
theorem dX5_has_16 : decode cX5_has 16 = .ok (.iconst 0, 1) := by decide +kernel
theorem dX5_has_17 : decode cX5_has 17 = .ok (.ireturn, 1) := by decide +kernel
theorem dX5_hasBoth_0 : decode cX5_hasBoth 0 = .ok (.aload_n 0, 1) := by decide +kernel
theorem dX5_hasBoth_1 : decode cX5_hasBoth 1 = .ok (.iload_n 1, 1) := by decide +kernel
theorem dX5_hasBoth_2 : decode cX5_hasBoth 2 = .ok (.invokevirtual 70, 3) := by decide +kernel
theorem dX5_hasBoth_5 : decode cX5_hasBoth 5 = .ok (.ifCond .eq 20, 3) := by decide +kernel
theorem dX5_hasBoth_8 : decode cX5_hasBoth 8 = .ok (.aload_n 0, 1) := by decide +kernel
theorem dX5_hasBoth_9 : decode cX5_hasBoth 9 = .ok (.iload_n 2, 1) := by decide +kernel
theorem dX5_hasBoth_10 : decode cX5_hasBoth 10 = .ok (.invokevirtual 70, 3) := by decide +kernel
theorem dX5_hasBoth_13 : decode cX5_hasBoth 13 = .ok (.ifCond .eq 12, 3) := by decide +kernel
theorem dX5_hasBoth_16 : decode cX5_hasBoth 16 = .ok (.iload_n 1, 1) := by decide +kernel
theorem dX5_hasBoth_17 : decode cX5_hasBoth 17 = .ok (.iload_n 2, 1) := by decide +kernel
theorem dX5_hasBoth_18 : decode cX5_hasBoth 18 = .ok (.if_icmp .eq 7, 3) := by decide +kernel
theorem dX5_hasBoth_21 : decode cX5_hasBoth 21 = .ok (.iconst 1, 1) := by decide +kernel
theorem dX5_hasBoth_22 : decode cX5_hasBoth 22 = .ok (.goto 4, 3) := by decide +kernel
theorem dX5_hasBoth_25 : decode cX5_hasBoth 25 = .ok (.iconst 0, 1) := by decide +kernel
theorem dX5_hasBoth_26 : decode cX5_hasBoth 26 = .ok (.ireturn, 1) := by decide +kernel
theorem dX5_lies_0 : decode cX5_lies 0 = .ok (.aload_n 0, 1) := by decide +kernel
theorem dX5_lies_1 : decode cX5_lies 1 = .ok (.getfield 43, 3) := by decide +kernel
theorem dX5_lies_4 : decode cX5_lies 4 = .ok (.iload_n 1, 1) := by decide +kernel
theorem dX5_lies_5 : decode cX5_lies 5 = .ok (.ishr, 1) := by decide +kernel
theorem dX5_lies_6 : decode cX5_lies 6 = .ok (.iconst 1, 1) := by decide +kernel
theorem dX5_lies_7 : decode cX5_lies 7 = .ok (.iand, 1) := by decide +kernel
theorem dX5_lies_8 : decode cX5_lies 8 = .ok (.iconst 1, 1) := by decide +kernel
theorem dX5_lies_9 : decode cX5_lies 9 = .ok (.if_icmp .ne 7, 3) := by decide +kernel
theorem dX5_lies_12 : decode cX5_lies 12 = .ok (.iconst 1, 1) := by decide +kernel
theorem dX5_lies_13 : decode cX5_lies 13 = .ok (.goto 4, 3) := by decide +kernel
theorem dX5_lies_16 : decode cX5_lies 16 = .ok (.iconst 0, 1) := by decide +kernel
theorem dX5_lies_17 : decode cX5_lies 17 = .ok (.ireturn, 1) := by decide +kernel
theorem dX5_stands_0 : decode cX5_stands 0 = .ok (.aload_n 0, 1) := by decide +kernel
theorem dX5_stands_1 : decode cX5_stands 1 = .ok (.getfield 46, 3) := by decide +kernel
theorem dX5_stands_4 : decode cX5_stands 4 = .ok (.iload_n 1, 1) := by decide +kernel
theorem dX5_stands_5 : decode cX5_stands 5 = .ok (.ishr, 1) := by decide +kernel
theorem dX5_stands_6 : decode cX5_stands 6 = .ok (.iconst 1, 1) := by decide +kernel
theorem dX5_stands_7 : decode cX5_stands 7 = .ok (.iand, 1) := by decide +kernel
theorem dX5_stands_8 : decode cX5_stands 8 = .ok (.iconst 1, 1) := by decide +kernel
theorem dX5_stands_9 : decode cX5_stands 9 = .ok (.if_icmp .ne 7, 3) := by decide +kernel
theorem dX5_stands_12 : decode cX5_stands 12 = .ok (.iconst 1, 1) := by decide +kernel
theorem dX5_stands_13 : decode cX5_stands 13 = .ok (.goto 4, 3) := by decide +kernel
theorem dX5_stands_16 : decode cX5_stands 16 = .ok (.iconst 0, 1) := by decide +kernel
theorem dX5_stands_17 : decode cX5_stands 17 = .ok (.ireturn, 1) := by decide +kernel
theorem dX5_isTrue_0 : decode cX5_isTrue 0 = .ok (.aload_n 0, 1) := by decide +kernel
theorem dX5_isTrue_1 : decode cX5_isTrue 1 = .ok (.iload_n 1, 1) := by decide +kernel
theorem dX5_isTrue_2 : decode cX5_isTrue 2 = .ok (.invokevirtual 74, 3) := by decide +kernel
theorem dX5_isTrue_5 : decode cX5_isTrue 5 = .ok (.ifCond .ne 15, 3) := by decide +kernel
theorem dX5_isTrue_8 : decode cX5_isTrue 8 = .ok (.aload_n 0, 1) := by decide +kernel
theorem dX5_isTrue_9 : decode cX5_isTrue 9 = .ok (.iload_n 1, 1) := by decide +kernel
theorem dX5_isTrue_10 : decode cX5_isTrue 10 = .ok (.invokevirtual 77, 3) := by decide +kernel
theorem dX5_isTrue_13 : decode cX5_isTrue 13 = .ok (.ifCond .ne 7, 3) := by decide +kernel
theorem dX5_isTrue_16 : decode cX5_isTrue 16 = .ok (.iconst 1, 1) := by decide +kernel
theorem dX5_isTrue_17 : decode cX5_isTrue 17 = .ok (.goto 4, 3) := by decide +kernel
theorem dX5_isTrue_20 : decode cX5_isTrue 20 = .ok (.iconst 0, 1) := by decide +kernel
theorem dX5_isTrue_21 : decode cX5_isTrue 21 = .ok (.ireturn, 1) := by decide +kernel
theorem dX5_tellsLies_0 : decode cX5_tellsLies 0 = .ok (.aload_n 0, 1) := by decide +kernel
theorem dX5_tellsLies_1 : decode cX5_tellsLies 1 = .ok (.iload_n 1, 1) := by decide +kernel
theorem dX5_tellsLies_2 : decode cX5_tellsLies 2 = .ok (.invokevirtual 74, 3) := by decide +kernel
theorem dX5_tellsLies_5 : decode cX5_tellsLies 5 = .ok (.ifCond .eq 15, 3) := by decide +kernel
theorem dX5_tellsLies_8 : decode cX5_tellsLies 8 = .ok (.aload_n 0, 1) := by decide +kernel
theorem dX5_tellsLies_9 : decode cX5_tellsLies 9 = .ok (.iload_n 1, 1) := by decide +kernel
theorem dX5_tellsLies_10 : decode cX5_tellsLies 10 = .ok (.invokevirtual 77, 3) := by decide +kernel
theorem dX5_tellsLies_13 : decode cX5_tellsLies 13 = .ok (.ifCond .ne 7, 3) := by decide +kernel
theorem dX5_tellsLies_16 : decode cX5_tellsLies 16 = .ok (.iconst 1, 1) := by decide +kernel
theorem dX5_tellsLies_17 : decode cX5_tellsLies 17 = .ok (.goto 4, 3) := by decide +kernel
theorem dX5_tellsLies_20 : decode cX5_tellsLies 20 = .ok (.iconst 0, 1) := by decide +kernel
theorem dX5_tellsLies_21 : decode cX5_tellsLies 21 = .ok (.ireturn, 1) := by decide +kernel
theorem dX5_trueSet_0 : decode cX5_trueSet 0 = .ok (.iconst 1, 1) := by decide +kernel
theorem dX5_trueSet_1 : decode cX5_trueSet 1 = .ok (.aload_n 0, 1) := by decide +kernel
theorem dX5_trueSet_2 : decode cX5_trueSet 2 = .ok (.getfield 37, 3) := by decide +kernel
theorem dX5_trueSet_5 : decode cX5_trueSet 5 = .ok (.ishl, 1) := by decide +kernel
theorem dX5_trueSet_6 : decode cX5_trueSet 6 = .ok (.iconst 1, 1) := by decide +kernel
theorem dX5_trueSet_7 : decode cX5_trueSet 7 = .ok (.isub, 1) := by decide +kernel
theorem dX5_trueSet_8 : decode cX5_trueSet 8 = .ok (.aload_n 0, 1) := by decide +kernel
theorem dX5_trueSet_9 : decode cX5_trueSet 9 = .ok (.getfield 43, 3) := by decide +kernel
theorem dX5_trueSet_12 : decode cX5_trueSet 12 = .ok (.iconst (-1), 1) := by decide +kernel
theorem dX5_trueSet_13 : decode cX5_trueSet 13 = .ok (.ixor, 1) := by decide +kernel
theorem dX5_trueSet_14 : decode cX5_trueSet 14 = .ok (.iand, 1) := by decide +kernel
theorem dX5_trueSet_15 : decode cX5_trueSet 15 = .ok (.aload_n 0, 1) := by decide +kernel
theorem dX5_trueSet_16 : decode cX5_trueSet 16 = .ok (.getfield 46, 3) := by decide +kernel
theorem dX5_trueSet_19 : decode cX5_trueSet 19 = .ok (.iconst (-1), 1) := by decide +kernel
theorem dX5_trueSet_20 : decode cX5_trueSet 20 = .ok (.ixor, 1) := by decide +kernel
theorem dX5_trueSet_21 : decode cX5_trueSet 21 = .ok (.iand, 1) := by decide +kernel
theorem dX5_trueSet_22 : decode cX5_trueSet 22 = .ok (.ireturn, 1) := by decide +kernel
end
section
theorem dX5_aim_0 : decode cX5_aim 0 = .ok (.aload_n 0, 1) := by decide +kernel
theorem dX5_aim_1 : decode cX5_aim 1 = .ok (.getfield 15, 3) := by decide +kernel
theorem dX5_aim_4 : decode cX5_aim 4 = .ok (.iload_n 1, 1) := by decide +kernel
theorem dX5_aim_5 : decode cX5_aim 5 = .ok (.iaload, 1) := by decide +kernel
theorem dX5_aim_6 : decode cX5_aim 6 = .ok (.aload_n 0, 1) := by decide +kernel
theorem dX5_aim_7 : decode cX5_aim 7 = .ok (.getfield 22, 3) := by decide +kernel
theorem dX5_aim_10 : decode cX5_aim 10 = .ok (.iload_n 1, 1) := by decide +kernel
theorem dX5_aim_11 : decode cX5_aim 11 = .ok (.iaload, 1) := by decide +kernel
theorem dX5_aim_12 : decode cX5_aim 12 = .ok (.iadd, 1) := by decide +kernel
theorem dX5_aim_13 : decode cX5_aim 13 = .ok (.ireturn, 1) := by decide +kernel
theorem dX5_heardOf_0 : decode cX5_heardOf 0 = .ok (.iload_n 1, 1) := by decide +kernel
theorem dX5_heardOf_1 : decode cX5_heardOf 1 = .ok (.iload_n 2, 1) := by decide +kernel
theorem dX5_heardOf_2 : decode cX5_heardOf 2 = .ok (.if_icmp .eq 11, 3) := by decide +kernel
theorem dX5_heardOf_5 : decode cX5_heardOf 5 = .ok (.aload_n 0, 1) := by decide +kernel
theorem dX5_heardOf_6 : decode cX5_heardOf 6 = .ok (.iload_n 1, 1) := by decide +kernel
theorem dX5_heardOf_7 : decode cX5_heardOf 7 = .ok (.invokevirtual 77, 3) := by decide +kernel
theorem dX5_heardOf_10 : decode cX5_heardOf 10 = .ok (.ifCond .eq 9, 3) := by decide +kernel
theorem dX5_heardOf_13 : decode cX5_heardOf 13 = .ok (.aload_n 0, 1) := by decide +kernel
theorem dX5_heardOf_14 : decode cX5_heardOf 14 = .ok (.iload_n 2, 1) := by decide +kernel
theorem dX5_heardOf_15 : decode cX5_heardOf 15 = .ok (.invokevirtual 80, 3) := by decide +kernel
theorem dX5_heardOf_18 : decode cX5_heardOf 18 = .ok (.ireturn, 1) := by decide +kernel
theorem dX5_heardOf_19 : decode cX5_heardOf 19 = .ok (.aload_n 0, 1) := by decide +kernel
theorem dX5_heardOf_20 : decode cX5_heardOf 20 = .ok (.iload_n 1, 1) := by decide +kernel
theorem dX5_heardOf_21 : decode cX5_heardOf 21 = .ok (.invokevirtual 74, 3) := by decide +kernel
theorem dX5_heardOf_24 : decode cX5_heardOf 24 = .ok (.ifCond .eq 22, 3) := by decide +kernel
theorem dX5_heardOf_27 : decode cX5_heardOf 27 = .ok (.aload_n 0, 1) := by decide +kernel
theorem dX5_heardOf_28 : decode cX5_heardOf 28 = .ok (.iload_n 2, 1) := by decide +kernel
theorem dX5_heardOf_29 : decode cX5_heardOf 29 = .ok (.invokevirtual 80, 3) := by decide +kernel
theorem dX5_heardOf_32 : decode cX5_heardOf 32 = .ok (.aload_n 0, 1) := by decide +kernel
theorem dX5_heardOf_33 : decode cX5_heardOf 33 = .ok (.getfield 25, 3) := by decide +kernel
theorem dX5_heardOf_36 : decode cX5_heardOf 36 = .ok (.iload_n 1, 1) := by decide +kernel
theorem dX5_heardOf_37 : decode cX5_heardOf 37 = .ok (.iload_n 2, 1) := by decide +kernel
theorem dX5_heardOf_38 : decode cX5_heardOf 38 = .ok (.invokestatic 84, 3) := by decide +kernel
theorem dX5_heardOf_41 : decode cX5_heardOf 41 = .ok (.iaload, 1) := by decide +kernel
theorem dX5_heardOf_42 : decode cX5_heardOf 42 = .ok (.iadd, 1) := by decide +kernel
theorem dX5_heardOf_43 : decode cX5_heardOf 43 = .ok (.goto 19, 3) := by decide +kernel
theorem dX5_heardOf_46 : decode cX5_heardOf 46 = .ok (.aload_n 0, 1) := by decide +kernel
theorem dX5_heardOf_47 : decode cX5_heardOf 47 = .ok (.iload_n 1, 1) := by decide +kernel
theorem dX5_heardOf_48 : decode cX5_heardOf 48 = .ok (.invokevirtual 80, 3) := by decide +kernel
theorem dX5_heardOf_51 : decode cX5_heardOf 51 = .ok (.aload_n 0, 1) := by decide +kernel
theorem dX5_heardOf_52 : decode cX5_heardOf 52 = .ok (.getfield 28, 3) := by decide +kernel
theorem dX5_heardOf_55 : decode cX5_heardOf 55 = .ok (.iload_n 1, 1) := by decide +kernel
theorem dX5_heardOf_56 : decode cX5_heardOf 56 = .ok (.iload_n 2, 1) := by decide +kernel
theorem dX5_heardOf_57 : decode cX5_heardOf 57 = .ok (.invokestatic 84, 3) := by decide +kernel
theorem dX5_heardOf_60 : decode cX5_heardOf 60 = .ok (.iaload, 1) := by decide +kernel
theorem dX5_heardOf_61 : decode cX5_heardOf 61 = .ok (.iadd, 1) := by decide +kernel
theorem dX5_heardOf_62 : decode cX5_heardOf 62 = .ok (.ireturn, 1) := by decide +kernel
theorem dX5_allStruck_0 : decode cX5_allStruck 0 = .ok (.aload_n 0, 1) := by decide +kernel
theorem dX5_allStruck_1 : decode cX5_allStruck 1 = .ok (.getfield 37, 3) := by decide +kernel
theorem dX5_allStruck_4 : decode cX5_allStruck 4 = .ok (.iconst 2, 1) := by decide +kernel
theorem dX5_allStruck_5 : decode cX5_allStruck 5 = .ok (.aload_n 0, 1) := by decide +kernel
theorem dX5_allStruck_6 : decode cX5_allStruck 6 = .ok (.getfield 40, 3) := by decide +kernel
theorem dX5_allStruck_9 : decode cX5_allStruck 9 = .ok (.imul, 1) := by decide +kernel
theorem dX5_allStruck_10 : decode cX5_allStruck 10 = .ok (.if_icmp .gt 7, 3) := by decide +kernel
theorem dX5_allStruck_13 : decode cX5_allStruck 13 = .ok (.iconst 1, 1) := by decide +kernel
theorem dX5_allStruck_14 : decode cX5_allStruck 14 = .ok (.goto 4, 3) := by decide +kernel
theorem dX5_allStruck_17 : decode cX5_allStruck 17 = .ok (.iconst 0, 1) := by decide +kernel
theorem dX5_allStruck_18 : decode cX5_allStruck 18 = .ok (.ireturn, 1) := by decide +kernel
theorem dX5_rank_0 : decode cX5_rank 0 = .ok (.aload_n 0, 1) := by decide +kernel
theorem dX5_rank_1 : decode cX5_rank 1 = .ok (.iload_n 1, 1) := by decide +kernel
theorem dX5_rank_2 : decode cX5_rank 2 = .ok (.iload_n 2, 1) := by decide +kernel
theorem dX5_rank_3 : decode cX5_rank 3 = .ok (.invokevirtual 88, 3) := by decide +kernel
theorem dX5_rank_6 : decode cX5_rank 6 = .ok (.istore_n 3, 1) := by decide +kernel
theorem dX5_rank_7 : decode cX5_rank 7 = .ok (.iconst 0, 1) := by decide +kernel
theorem dX5_rank_8 : decode cX5_rank 8 = .ok (.istore 4, 2) := by decide +kernel
theorem dX5_rank_10 : decode cX5_rank 10 = .ok (.iconst 0, 1) := by decide +kernel
theorem dX5_rank_11 : decode cX5_rank 11 = .ok (.istore 5, 2) := by decide +kernel
theorem dX5_rank_13 : decode cX5_rank 13 = .ok (.iload 5, 2) := by decide +kernel
theorem dX5_rank_15 : decode cX5_rank 15 = .ok (.aload_n 0, 1) := by decide +kernel
theorem dX5_rank_16 : decode cX5_rank 16 = .ok (.getfield 37, 3) := by decide +kernel
theorem dX5_rank_19 : decode cX5_rank 19 = .ok (.if_icmp .ge 39, 3) := by decide +kernel
theorem dX5_rank_22 : decode cX5_rank 22 = .ok (.aload_n 0, 1) := by decide +kernel
theorem dX5_rank_23 : decode cX5_rank 23 = .ok (.iload 5, 2) := by decide +kernel
theorem dX5_rank_25 : decode cX5_rank 25 = .ok (.iload_n 2, 1) := by decide +kernel
theorem dX5_rank_26 : decode cX5_rank 26 = .ok (.invokevirtual 88, 3) := by decide +kernel
theorem dX5_rank_29 : decode cX5_rank 29 = .ok (.istore 6, 2) := by decide +kernel
theorem dX5_rank_31 : decode cX5_rank 31 = .ok (.iload 6, 2) := by decide +kernel
theorem dX5_rank_33 : decode cX5_rank 33 = .ok (.iload_n 3, 1) := by decide +kernel
theorem dX5_rank_34 : decode cX5_rank 34 = .ok (.if_icmp .lt 15, 3) := by decide +kernel
theorem dX5_rank_37 : decode cX5_rank 37 = .ok (.iload 6, 2) := by decide +kernel
theorem dX5_rank_39 : decode cX5_rank 39 = .ok (.iload_n 3, 1) := by decide +kernel
theorem dX5_rank_40 : decode cX5_rank 40 = .ok (.if_icmp .ne 12, 3) := by decide +kernel
theorem dX5_rank_43 : decode cX5_rank 43 = .ok (.iload 5, 2) := by decide +kernel
theorem dX5_rank_45 : decode cX5_rank 45 = .ok (.iload_n 1, 1) := by decide +kernel
theorem dX5_rank_46 : decode cX5_rank 46 = .ok (.if_icmp .ge 6, 3) := by decide +kernel
theorem dX5_rank_49 : decode cX5_rank 49 = .ok (.iinc 4 1, 3) := by decide +kernel
theorem dX5_rank_52 : decode cX5_rank 52 = .ok (.iinc 5 1, 3) := by decide +kernel
theorem dX5_rank_55 : decode cX5_rank 55 = .ok (.goto (-42), 3) := by decide +kernel
theorem dX5_rank_58 : decode cX5_rank 58 = .ok (.iload 4, 2) := by decide +kernel
theorem dX5_rank_60 : decode cX5_rank 60 = .ok (.ireturn, 1) := by decide +kernel
theorem dX5_apart_0 : decode cX5_apart 0 = .ok (.iconst 0, 1) := by decide +kernel
theorem dX5_apart_1 : decode cX5_apart 1 = .ok (.istore_n 1, 1) := by decide +kernel
theorem dX5_apart_2 : decode cX5_apart 2 = .ok (.iconst 0, 1) := by decide +kernel
theorem dX5_apart_3 : decode cX5_apart 3 = .ok (.istore_n 2, 1) := by decide +kernel
theorem dX5_apart_4 : decode cX5_apart 4 = .ok (.iconst 0, 1) := by decide +kernel
theorem dX5_apart_5 : decode cX5_apart 5 = .ok (.istore_n 3, 1) := by decide +kernel
theorem dX5_apart_6 : decode cX5_apart 6 = .ok (.iconst 0, 1) := by decide +kernel
theorem dX5_apart_7 : decode cX5_apart 7 = .ok (.istore 4, 2) := by decide +kernel
theorem dX5_apart_9 : decode cX5_apart 9 = .ok (.iload 4, 2) := by decide +kernel
theorem dX5_apart_11 : decode cX5_apart 11 = .ok (.aload_n 0, 1) := by decide +kernel
theorem dX5_apart_12 : decode cX5_apart 12 = .ok (.getfield 37, 3) := by decide +kernel
theorem dX5_apart_15 : decode cX5_apart 15 = .ok (.if_icmp .ge 69, 3) := by decide +kernel
theorem dX5_apart_18 : decode cX5_apart 18 = .ok (.aload_n 0, 1) := by decide +kernel
theorem dX5_apart_19 : decode cX5_apart 19 = .ok (.iload 4, 2) := by decide +kernel
theorem dX5_apart_21 : decode cX5_apart 21 = .ok (.invokevirtual 91, 3) := by decide +kernel
theorem dX5_apart_24 : decode cX5_apart 24 = .ok (.ifCond .eq 54, 3) := by decide +kernel
theorem dX5_apart_27 : decode cX5_apart 27 = .ok (.iload_n 1, 1) := by decide +kernel
theorem dX5_apart_28 : decode cX5_apart 28 = .ok (.ifCond .ne 12, 3) := by decide +kernel
theorem dX5_apart_31 : decode cX5_apart 31 = .ok (.aload_n 0, 1) := by decide +kernel
theorem dX5_apart_32 : decode cX5_apart 32 = .ok (.iload 4, 2) := by decide +kernel
theorem dX5_apart_34 : decode cX5_apart 34 = .ok (.invokevirtual 80, 3) := by decide +kernel
theorem dX5_apart_37 : decode cX5_apart 37 = .ok (.goto 13, 3) := by decide +kernel
theorem dX5_apart_40 : decode cX5_apart 40 = .ok (.iload_n 2, 1) := by decide +kernel
theorem dX5_apart_41 : decode cX5_apart 41 = .ok (.aload_n 0, 1) := by decide +kernel
theorem dX5_apart_42 : decode cX5_apart 42 = .ok (.iload 4, 2) := by decide +kernel
theorem dX5_apart_44 : decode cX5_apart 44 = .ok (.invokevirtual 80, 3) := by decide +kernel
theorem dX5_apart_47 : decode cX5_apart 47 = .ok (.invokestatic 94, 3) := by decide +kernel
theorem dX5_apart_50 : decode cX5_apart 50 = .ok (.istore_n 2, 1) := by decide +kernel
theorem dX5_apart_51 : decode cX5_apart 51 = .ok (.iload_n 1, 1) := by decide +kernel
theorem dX5_apart_52 : decode cX5_apart 52 = .ok (.ifCond .ne 12, 3) := by decide +kernel
theorem dX5_apart_55 : decode cX5_apart 55 = .ok (.aload_n 0, 1) := by decide +kernel
theorem dX5_apart_56 : decode cX5_apart 56 = .ok (.iload 4, 2) := by decide +kernel
theorem dX5_apart_58 : decode cX5_apart 58 = .ok (.invokevirtual 80, 3) := by decide +kernel
theorem dX5_apart_61 : decode cX5_apart 61 = .ok (.goto 13, 3) := by decide +kernel
theorem dX5_apart_64 : decode cX5_apart 64 = .ok (.iload_n 3, 1) := by decide +kernel
theorem dX5_apart_65 : decode cX5_apart 65 = .ok (.aload_n 0, 1) := by decide +kernel
theorem dX5_apart_66 : decode cX5_apart 66 = .ok (.iload 4, 2) := by decide +kernel
theorem dX5_apart_68 : decode cX5_apart 68 = .ok (.invokevirtual 80, 3) := by decide +kernel
theorem dX5_apart_71 : decode cX5_apart 71 = .ok (.invokestatic 99, 3) := by decide +kernel
theorem dX5_apart_74 : decode cX5_apart 74 = .ok (.istore_n 3, 1) := by decide +kernel
theorem dX5_apart_75 : decode cX5_apart 75 = .ok (.iinc 1 1, 3) := by decide +kernel
theorem dX5_apart_78 : decode cX5_apart 78 = .ok (.iinc 4 1, 3) := by decide +kernel
theorem dX5_apart_81 : decode cX5_apart 81 = .ok (.goto (-72), 3) := by decide +kernel
theorem dX5_apart_84 : decode cX5_apart 84 = .ok (.iload_n 1, 1) := by decide +kernel
theorem dX5_apart_85 : decode cX5_apart 85 = .ok (.ifCond .ne 7, 3) := by decide +kernel
theorem dX5_apart_88 : decode cX5_apart 88 = .ok (.iconst (-1), 1) := by decide +kernel
theorem dX5_apart_89 : decode cX5_apart 89 = .ok (.goto 6, 3) := by decide +kernel
theorem dX5_apart_92 : decode cX5_apart 92 = .ok (.iload_n 3, 1) := by decide +kernel
theorem dX5_apart_93 : decode cX5_apart 93 = .ok (.iload_n 2, 1) := by decide +kernel
theorem dX5_apart_94 : decode cX5_apart 94 = .ok (.isub, 1) := by decide +kernel
theorem dX5_apart_95 : decode cX5_apart 95 = .ok (.ireturn, 1) := by decide +kernel
theorem dX5_mayLie_0 : decode cX5_mayLie 0 = .ok (.aload_n 0, 1) := by decide +kernel
theorem dX5_mayLie_1 : decode cX5_mayLie 1 = .ok (.getfield 37, 3) := by decide +kernel
theorem dX5_mayLie_4 : decode cX5_mayLie 4 = .ok (.aload_n 0, 1) := by decide +kernel
theorem dX5_mayLie_5 : decode cX5_mayLie 5 = .ok (.getfield 46, 3) := by decide +kernel
theorem dX5_mayLie_8 : decode cX5_mayLie 8 = .ok (.invokestatic 102, 3) := by decide +kernel
theorem dX5_mayLie_11 : decode cX5_mayLie 11 = .ok (.isub, 1) := by decide +kernel
theorem dX5_mayLie_12 : decode cX5_mayLie 12 = .ok (.istore_n 1, 1) := by decide +kernel
theorem dX5_mayLie_13 : decode cX5_mayLie 13 = .ok (.iload_n 1, 1) := by decide +kernel
theorem dX5_mayLie_14 : decode cX5_mayLie 14 = .ok (.iconst 1, 1) := by decide +kernel
theorem dX5_mayLie_15 : decode cX5_mayLie 15 = .ok (.if_icmp .ge 7, 3) := by decide +kernel
theorem dX5_mayLie_18 : decode cX5_mayLie 18 = .ok (.iconst (-1), 1) := by decide +kernel
theorem dX5_mayLie_19 : decode cX5_mayLie 19 = .ok (.goto 15, 3) := by decide +kernel
theorem dX5_mayLie_22 : decode cX5_mayLie 22 = .ok (.aload_n 0, 1) := by decide +kernel
theorem dX5_mayLie_23 : decode cX5_mayLie 23 = .ok (.getfield 40, 3) := by decide +kernel
theorem dX5_mayLie_26 : decode cX5_mayLie 26 = .ok (.iload_n 1, 1) := by decide +kernel
theorem dX5_mayLie_27 : decode cX5_mayLie 27 = .ok (.iconst 1, 1) := by decide +kernel
theorem dX5_mayLie_28 : decode cX5_mayLie 28 = .ok (.isub, 1) := by decide +kernel
theorem dX5_mayLie_29 : decode cX5_mayLie 29 = .ok (.iconst 3, 1) := by decide +kernel
theorem dX5_mayLie_30 : decode cX5_mayLie 30 = .ok (.idiv, 1) := by decide +kernel
theorem dX5_mayLie_31 : decode cX5_mayLie 31 = .ok (.invokestatic 94, 3) := by decide +kernel
theorem dX5_mayLie_34 : decode cX5_mayLie 34 = .ok (.ireturn, 1) := by decide +kernel
theorem dX5_goOn_0 : decode cX5_goOn 0 = .ok (.iconst 0, 1) := by decide +kernel
theorem dX5_goOn_1 : decode cX5_goOn 1 = .ok (.istore_n 1, 1) := by decide +kernel
theorem dX5_goOn_2 : decode cX5_goOn 2 = .ok (.iload_n 1, 1) := by decide +kernel
theorem dX5_goOn_3 : decode cX5_goOn 3 = .ok (.aload_n 0, 1) := by decide +kernel
theorem dX5_goOn_4 : decode cX5_goOn 4 = .ok (.getfield 37, 3) := by decide +kernel
theorem dX5_goOn_7 : decode cX5_goOn 7 = .ok (.if_icmp .ge 66, 3) := by decide +kernel
theorem dX5_goOn_10 : decode cX5_goOn 10 = .ok (.aload_n 0, 1) := by decide +kernel
theorem dX5_goOn_11 : decode cX5_goOn 11 = .ok (.iload_n 1, 1) := by decide +kernel
theorem dX5_goOn_12 : decode cX5_goOn 12 = .ok (.invokevirtual 77, 3) := by decide +kernel
theorem dX5_goOn_15 : decode cX5_goOn 15 = .ok (.ifCond .ne 52, 3) := by decide +kernel
theorem dX5_goOn_18 : decode cX5_goOn 18 = .ok (.aload_n 0, 1) := by decide +kernel
theorem dX5_goOn_19 : decode cX5_goOn 19 = .ok (.getfield 9, 3) := by decide +kernel
theorem dX5_goOn_22 : decode cX5_goOn 22 = .ok (.ineg, 1) := by decide +kernel
theorem dX5_goOn_23 : decode cX5_goOn 23 = .ok (.aload_n 0, 1) := by decide +kernel
theorem dX5_goOn_24 : decode cX5_goOn 24 = .ok (.getfield 9, 3) := by decide +kernel
theorem dX5_goOn_27 : decode cX5_goOn 27 = .ok (.aload_n 0, 1) := by decide +kernel
theorem dX5_goOn_28 : decode cX5_goOn 28 = .ok (.getfield 22, 3) := by decide +kernel
theorem dX5_goOn_31 : decode cX5_goOn 31 = .ok (.iload_n 1, 1) := by decide +kernel
theorem dX5_goOn_32 : decode cX5_goOn 32 = .ok (.iaload, 1) := by decide +kernel
theorem dX5_goOn_33 : decode cX5_goOn 33 = .ok (.invokestatic 94, 3) := by decide +kernel
theorem dX5_goOn_36 : decode cX5_goOn 36 = .ok (.invokestatic 99, 3) := by decide +kernel
theorem dX5_goOn_39 : decode cX5_goOn 39 = .ok (.istore_n 2, 1) := by decide +kernel
theorem dX5_goOn_40 : decode cX5_goOn 40 = .ok (.aload_n 0, 1) := by decide +kernel
theorem dX5_goOn_41 : decode cX5_goOn 41 = .ok (.getfield 15, 3) := by decide +kernel
theorem dX5_goOn_44 : decode cX5_goOn 44 = .ok (.iload_n 1, 1) := by decide +kernel
theorem dX5_goOn_45 : decode cX5_goOn 45 = .ok (.dup2, 1) := by decide +kernel
theorem dX5_goOn_46 : decode cX5_goOn 46 = .ok (.iaload, 1) := by decide +kernel
theorem dX5_goOn_47 : decode cX5_goOn 47 = .ok (.aload_n 0, 1) := by decide +kernel
theorem dX5_goOn_48 : decode cX5_goOn 48 = .ok (.getfield 19, 3) := by decide +kernel
theorem dX5_goOn_51 : decode cX5_goOn 51 = .ok (.iload_n 1, 1) := by decide +kernel
theorem dX5_goOn_52 : decode cX5_goOn 52 = .ok (.iaload, 1) := by decide +kernel
theorem dX5_goOn_53 : decode cX5_goOn 53 = .ok (.iload_n 2, 1) := by decide +kernel
theorem dX5_goOn_54 : decode cX5_goOn 54 = .ok (.iadd, 1) := by decide +kernel
theorem dX5_goOn_55 : decode cX5_goOn 55 = .ok (.iadd, 1) := by decide +kernel
theorem dX5_goOn_56 : decode cX5_goOn 56 = .ok (.iastore, 1) := by decide +kernel
theorem dX5_goOn_57 : decode cX5_goOn 57 = .ok (.aload_n 0, 1) := by decide +kernel
theorem dX5_goOn_58 : decode cX5_goOn 58 = .ok (.getfield 22, 3) := by decide +kernel
theorem dX5_goOn_61 : decode cX5_goOn 61 = .ok (.iload_n 1, 1) := by decide +kernel
theorem dX5_goOn_62 : decode cX5_goOn 62 = .ok (.dup2, 1) := by decide +kernel
theorem dX5_goOn_63 : decode cX5_goOn 63 = .ok (.iaload, 1) := by decide +kernel
theorem dX5_goOn_64 : decode cX5_goOn 64 = .ok (.iload_n 2, 1) := by decide +kernel
theorem dX5_goOn_65 : decode cX5_goOn 65 = .ok (.isub, 1) := by decide +kernel
theorem dX5_goOn_66 : decode cX5_goOn 66 = .ok (.iastore, 1) := by decide +kernel
theorem dX5_goOn_67 : decode cX5_goOn 67 = .ok (.iinc 1 1, 3) := by decide +kernel
theorem dX5_goOn_70 : decode cX5_goOn 70 = .ok (.goto (-68), 3) := by decide +kernel
theorem dX5_goOn_73 : decode cX5_goOn 73 = .ok (.aload_n 0, 1) := by decide +kernel
theorem dX5_goOn_74 : decode cX5_goOn 74 = .ok (.dup, 1) := by decide +kernel
theorem dX5_goOn_75 : decode cX5_goOn 75 = .ok (.getfield 55, 3) := by decide +kernel
theorem dX5_goOn_78 : decode cX5_goOn 78 = .ok (.iconst 1, 1) := by decide +kernel
theorem dX5_goOn_79 : decode cX5_goOn 79 = .ok (.iadd, 1) := by decide +kernel
theorem dX5_goOn_80 : decode cX5_goOn 80 = .ok (.putfield 55, 3) := by decide +kernel
theorem dX5_goOn_83 : decode cX5_goOn 83 = .ok (.aload_n 0, 1) := by decide +kernel
theorem dX5_goOn_84 : decode cX5_goOn 84 = .ok (.invokevirtual 107, 3) := by decide +kernel
theorem dX5_goOn_87 : decode cX5_goOn 87 = .ok (.ireturn, 1) := by decide +kernel
theorem dX5_setAlarm_0 : decode cX5_setAlarm 0 = .ok (.aload_n 0, 1) := by decide +kernel
theorem dX5_setAlarm_1 : decode cX5_setAlarm 1 = .ok (.getfield 49, 3) := by decide +kernel
theorem dX5_setAlarm_4 : decode cX5_setAlarm 4 = .ok (.istore_n 3, 1) := by decide +kernel
theorem dX5_setAlarm_5 : decode cX5_setAlarm 5 = .ok (.iload_n 3, 1) := by decide +kernel
theorem dX5_setAlarm_6 : decode cX5_setAlarm 6 = .ok (.bipush 6, 2) := by decide +kernel
theorem dX5_setAlarm_8 : decode cX5_setAlarm 8 = .ok (.if_icmp .ge 32, 3) := by decide +kernel
theorem dX5_setAlarm_11 : decode cX5_setAlarm 11 = .ok (.aload_n 0, 1) := by decide +kernel
theorem dX5_setAlarm_12 : decode cX5_setAlarm 12 = .ok (.getfield 31, 3) := by decide +kernel
theorem dX5_setAlarm_15 : decode cX5_setAlarm 15 = .ok (.iload_n 3, 1) := by decide +kernel
theorem dX5_setAlarm_16 : decode cX5_setAlarm 16 = .ok (.iload_n 1, 1) := by decide +kernel
theorem dX5_setAlarm_17 : decode cX5_setAlarm 17 = .ok (.iastore, 1) := by decide +kernel
theorem dX5_setAlarm_18 : decode cX5_setAlarm 18 = .ok (.aload_n 0, 1) := by decide +kernel
theorem dX5_setAlarm_19 : decode cX5_setAlarm 19 = .ok (.getfield 34, 3) := by decide +kernel
theorem dX5_setAlarm_22 : decode cX5_setAlarm 22 = .ok (.iload_n 3, 1) := by decide +kernel
theorem dX5_setAlarm_23 : decode cX5_setAlarm 23 = .ok (.iload_n 2, 1) := by decide +kernel
theorem dX5_setAlarm_24 : decode cX5_setAlarm 24 = .ok (.iastore, 1) := by decide +kernel
theorem dX5_setAlarm_25 : decode cX5_setAlarm 25 = .ok (.aload_n 0, 1) := by decide +kernel
theorem dX5_setAlarm_26 : decode cX5_setAlarm 26 = .ok (.dup, 1) := by decide +kernel
theorem dX5_setAlarm_27 : decode cX5_setAlarm 27 = .ok (.getfield 49, 3) := by decide +kernel
theorem dX5_setAlarm_30 : decode cX5_setAlarm 30 = .ok (.iconst 1, 1) := by decide +kernel
theorem dX5_setAlarm_31 : decode cX5_setAlarm 31 = .ok (.iadd, 1) := by decide +kernel
theorem dX5_setAlarm_32 : decode cX5_setAlarm 32 = .ok (.putfield 49, 3) := by decide +kernel
theorem dX5_setAlarm_35 : decode cX5_setAlarm 35 = .ok (.aload_n 0, 1) := by decide +kernel
theorem dX5_setAlarm_36 : decode cX5_setAlarm 36 = .ok (.invokevirtual 107, 3) := by decide +kernel
theorem dX5_setAlarm_39 : decode cX5_setAlarm 39 = .ok (.pop, 1) := by decide +kernel
theorem dX5_setAlarm_40 : decode cX5_setAlarm 40 = .ok (.iload_n 3, 1) := by decide +kernel
theorem dX5_setAlarm_41 : decode cX5_setAlarm 41 = .ok (.ireturn, 1) := by decide +kernel
theorem dX5_ring_0 : decode cX5_ring 0 = .ok (.iconst 0, 1) := by decide +kernel
theorem dX5_ring_1 : decode cX5_ring 1 = .ok (.istore_n 1, 1) := by decide +kernel
theorem dX5_ring_2 : decode cX5_ring 2 = .ok (.iconst 0, 1) := by decide +kernel
theorem dX5_ring_3 : decode cX5_ring 3 = .ok (.istore_n 2, 1) := by decide +kernel
theorem dX5_ring_4 : decode cX5_ring 4 = .ok (.iload_n 2, 1) := by decide +kernel
theorem dX5_ring_5 : decode cX5_ring 5 = .ok (.aload_n 0, 1) := by decide +kernel
theorem dX5_ring_6 : decode cX5_ring 6 = .ok (.getfield 49, 3) := by decide +kernel
theorem dX5_ring_9 : decode cX5_ring 9 = .ok (.if_icmp .ge 46, 3) := by decide +kernel
theorem dX5_ring_12 : decode cX5_ring 12 = .ok (.aload_n 0, 1) := by decide +kernel
theorem dX5_ring_13 : decode cX5_ring 13 = .ok (.getfield 52, 3) := by decide +kernel
theorem dX5_ring_16 : decode cX5_ring 16 = .ok (.iload_n 2, 1) := by decide +kernel
theorem dX5_ring_17 : decode cX5_ring 17 = .ok (.ishr, 1) := by decide +kernel
theorem dX5_ring_18 : decode cX5_ring 18 = .ok (.iconst 1, 1) := by decide +kernel
theorem dX5_ring_19 : decode cX5_ring 19 = .ok (.iand, 1) := by decide +kernel
theorem dX5_ring_20 : decode cX5_ring 20 = .ok (.ifCond .ne 29, 3) := by decide +kernel
theorem dX5_ring_23 : decode cX5_ring 23 = .ok (.aload_n 0, 1) := by decide +kernel
theorem dX5_ring_24 : decode cX5_ring 24 = .ok (.getfield 15, 3) := by decide +kernel
theorem dX5_ring_27 : decode cX5_ring 27 = .ok (.aload_n 0, 1) := by decide +kernel
theorem dX5_ring_28 : decode cX5_ring 28 = .ok (.getfield 31, 3) := by decide +kernel
theorem dX5_ring_31 : decode cX5_ring 31 = .ok (.iload_n 2, 1) := by decide +kernel
theorem dX5_ring_32 : decode cX5_ring 32 = .ok (.iaload, 1) := by decide +kernel
theorem dX5_ring_33 : decode cX5_ring 33 = .ok (.iaload, 1) := by decide +kernel
theorem dX5_ring_34 : decode cX5_ring 34 = .ok (.aload_n 0, 1) := by decide +kernel
theorem dX5_ring_35 : decode cX5_ring 35 = .ok (.getfield 34, 3) := by decide +kernel
theorem dX5_ring_38 : decode cX5_ring 38 = .ok (.iload_n 2, 1) := by decide +kernel
theorem dX5_ring_39 : decode cX5_ring 39 = .ok (.iaload, 1) := by decide +kernel
theorem dX5_ring_40 : decode cX5_ring 40 = .ok (.if_icmp .lt 9, 3) := by decide +kernel
theorem dX5_ring_43 : decode cX5_ring 43 = .ok (.iload_n 1, 1) := by decide +kernel
theorem dX5_ring_44 : decode cX5_ring 44 = .ok (.iconst 1, 1) := by decide +kernel
theorem dX5_ring_45 : decode cX5_ring 45 = .ok (.iload_n 2, 1) := by decide +kernel
theorem dX5_ring_46 : decode cX5_ring 46 = .ok (.ishl, 1) := by decide +kernel
theorem dX5_ring_47 : decode cX5_ring 47 = .ok (.ior, 1) := by decide +kernel
theorem dX5_ring_48 : decode cX5_ring 48 = .ok (.istore_n 1, 1) := by decide +kernel
theorem dX5_ring_49 : decode cX5_ring 49 = .ok (.iinc 2 1, 3) := by decide +kernel
theorem dX5_ring_52 : decode cX5_ring 52 = .ok (.goto (-48), 3) := by decide +kernel
theorem dX5_ring_55 : decode cX5_ring 55 = .ok (.aload_n 0, 1) := by decide +kernel
theorem dX5_ring_56 : decode cX5_ring 56 = .ok (.dup, 1) := by decide +kernel
theorem dX5_ring_57 : decode cX5_ring 57 = .ok (.getfield 52, 3) := by decide +kernel
theorem dX5_ring_60 : decode cX5_ring 60 = .ok (.iload_n 1, 1) := by decide +kernel
theorem dX5_ring_61 : decode cX5_ring 61 = .ok (.ior, 1) := by decide +kernel
theorem dX5_ring_62 : decode cX5_ring 62 = .ok (.putfield 52, 3) := by decide +kernel
theorem dX5_ring_65 : decode cX5_ring 65 = .ok (.iload_n 1, 1) := by decide +kernel
theorem dX5_ring_66 : decode cX5_ring 66 = .ok (.ireturn, 1) := by decide +kernel
theorem dX6_init_0 : decode cX6_init 0 = .ok (.aload_n 0, 1) := by decide +kernel
theorem dX6_init_1 : decode cX6_init 1 = .ok (.invokespecial 3, 3) := by decide +kernel
theorem dX6_init_4 : decode cX6_init 4 = .ok (.aload_n 0, 1) := by decide +kernel
theorem dX6_init_5 : decode cX6_init 5 = .ok (.sipush 200, 3) := by decide +kernel
theorem dX6_init_8 : decode cX6_init 8 = .ok (.newarray .int, 2) := by decide +kernel
theorem dX6_init_10 : decode cX6_init 10 = .ok (.putfield 9, 3) := by decide +kernel
theorem dX6_init_13 : decode cX6_init 13 = .ok (.aload_n 0, 1) := by decide +kernel
theorem dX6_init_14 : decode cX6_init 14 = .ok (.iconst (-1), 1) := by decide +kernel
theorem dX6_init_15 : decode cX6_init 15 = .ok (.putfield 15, 3) := by decide +kernel
theorem dX6_init_18 : decode cX6_init 18 = .ok (.return_, 1) := by decide +kernel
theorem dX6_append_0 : decode cX6_append 0 = .ok (.aload_n 0, 1) := by decide +kernel
theorem dX6_append_1 : decode cX6_append 1 = .ok (.getfield 19, 3) := by decide +kernel
theorem dX6_append_4 : decode cX6_append 4 = .ok (.sipush 200, 3) := by decide +kernel
theorem dX6_append_7 : decode cX6_append 7 = .ok (.if_icmp .ge 23, 3) := by decide +kernel
theorem dX6_append_10 : decode cX6_append 10 = .ok (.aload_n 0, 1) := by decide +kernel
theorem dX6_append_11 : decode cX6_append 11 = .ok (.getfield 9, 3) := by decide +kernel
theorem dX6_append_14 : decode cX6_append 14 = .ok (.aload_n 0, 1) := by decide +kernel
theorem dX6_append_15 : decode cX6_append 15 = .ok (.getfield 19, 3) := by decide +kernel
theorem dX6_append_18 : decode cX6_append 18 = .ok (.iload_n 1, 1) := by decide +kernel
theorem dX6_append_19 : decode cX6_append 19 = .ok (.iastore, 1) := by decide +kernel
theorem dX6_append_20 : decode cX6_append 20 = .ok (.aload_n 0, 1) := by decide +kernel
theorem dX6_append_21 : decode cX6_append 21 = .ok (.dup, 1) := by decide +kernel
theorem dX6_append_22 : decode cX6_append 22 = .ok (.getfield 19, 3) := by decide +kernel
theorem dX6_append_25 : decode cX6_append 25 = .ok (.iconst 1, 1) := by decide +kernel
theorem dX6_append_26 : decode cX6_append 26 = .ok (.iadd, 1) := by decide +kernel
theorem dX6_append_27 : decode cX6_append 27 = .ok (.putfield 19, 3) := by decide +kernel
theorem dX6_append_30 : decode cX6_append 30 = .ok (.aload_n 0, 1) := by decide +kernel
theorem dX6_append_31 : decode cX6_append 31 = .ok (.getfield 19, 3) := by decide +kernel
theorem dX6_append_34 : decode cX6_append 34 = .ok (.ireturn, 1) := by decide +kernel
theorem dX6_readInto_0 : decode cX6_readInto 0 = .ok (.aload_n 1, 1) := by decide +kernel
theorem dX6_readInto_1 : decode cX6_readInto 1 = .ok (.invokevirtual 22, 3) := by decide +kernel
theorem dX6_readInto_4 : decode cX6_readInto 4 = .ok (.aload_n 0, 1) := by decide +kernel
theorem dX6_readInto_5 : decode cX6_readInto 5 = .ok (.iconst 0, 1) := by decide +kernel
theorem dX6_readInto_6 : decode cX6_readInto 6 = .ok (.putfield 27, 3) := by decide +kernel
theorem dX6_readInto_9 : decode cX6_readInto 9 = .ok (.aload_n 0, 1) := by decide +kernel
theorem dX6_readInto_10 : decode cX6_readInto 10 = .ok (.iconst 0, 1) := by decide +kernel
theorem dX6_readInto_11 : decode cX6_readInto 11 = .ok (.putfield 30, 3) := by decide +kernel
theorem dX6_readInto_14 : decode cX6_readInto 14 = .ok (.aload_n 0, 1) := by decide +kernel
theorem dX6_readInto_15 : decode cX6_readInto 15 = .ok (.iconst (-1), 1) := by decide +kernel
theorem dX6_readInto_16 : decode cX6_readInto 16 = .ok (.putfield 15, 3) := by decide +kernel
theorem dX6_readInto_19 : decode cX6_readInto 19 = .ok (.aload_n 0, 1) := by decide +kernel
theorem dX6_readInto_20 : decode cX6_readInto 20 = .ok (.iconst 0, 1) := by decide +kernel
theorem dX6_readInto_21 : decode cX6_readInto 21 = .ok (.putfield 33, 3) := by decide +kernel
theorem dX6_readInto_24 : decode cX6_readInto 24 = .ok (.aload_n 0, 1) := by decide +kernel
theorem dX6_readInto_25 : decode cX6_readInto 25 = .ok (.iconst 0, 1) := by decide +kernel
theorem dX6_readInto_26 : decode cX6_readInto 26 = .ok (.putfield 37, 3) := by decide +kernel
theorem dX6_readInto_29 : decode cX6_readInto 29 = .ok (.aload_n 0, 1) := by decide +kernel
theorem dX6_readInto_30 : decode cX6_readInto 30 = .ok (.invokevirtual 40, 3) := by decide +kernel
theorem dX6_readInto_33 : decode cX6_readInto 33 = .ok (.iconst 0, 1) := by decide +kernel
theorem dX6_readInto_34 : decode cX6_readInto 34 = .ok (.istore_n 2, 1) := by decide +kernel
theorem dX6_readInto_35 : decode cX6_readInto 35 = .ok (.iload_n 2, 1) := by decide +kernel
theorem dX6_readInto_36 : decode cX6_readInto 36 = .ok (.sipush 200, 3) := by decide +kernel
theorem dX6_readInto_39 : decode cX6_readInto 39 = .ok (.if_icmp .ge 36, 3) := by decide +kernel
theorem dX6_readInto_42 : decode cX6_readInto 42 = .ok (.aload_n 0, 1) := by decide +kernel
theorem dX6_readInto_43 : decode cX6_readInto 43 = .ok (.getfield 27, 3) := by decide +kernel
theorem dX6_readInto_46 : decode cX6_readInto 46 = .ok (.aload_n 0, 1) := by decide +kernel
theorem dX6_readInto_47 : decode cX6_readInto 47 = .ok (.getfield 19, 3) := by decide +kernel
theorem dX6_readInto_50 : decode cX6_readInto 50 = .ok (.if_icmp .ge 25, 3) := by decide +kernel
theorem dX6_readInto_53 : decode cX6_readInto 53 = .ok (.aload_n 0, 1) := by decide +kernel
theorem dX6_readInto_54 : decode cX6_readInto 54 = .ok (.getfield 30, 3) := by decide +kernel
theorem dX6_readInto_57 : decode cX6_readInto 57 = .ok (.ifCond .ne 18, 3) := by decide +kernel
theorem dX6_readInto_60 : decode cX6_readInto 60 = .ok (.aload_n 0, 1) := by decide +kernel
theorem dX6_readInto_61 : decode cX6_readInto 61 = .ok (.aload_n 1, 1) := by decide +kernel
theorem dX6_readInto_62 : decode cX6_readInto 62 = .ok (.invokevirtual 43, 3) := by decide +kernel
theorem dX6_readInto_65 : decode cX6_readInto 65 = .ok (.aload_n 0, 1) := by decide +kernel
theorem dX6_readInto_66 : decode cX6_readInto 66 = .ok (.invokevirtual 40, 3) := by decide +kernel
theorem dX6_readInto_69 : decode cX6_readInto 69 = .ok (.iinc 2 1, 3) := by decide +kernel
theorem dX6_readInto_72 : decode cX6_readInto 72 = .ok (.goto (-37), 3) := by decide +kernel
theorem dX6_readInto_75 : decode cX6_readInto 75 = .ok (.aload_n 0, 1) := by decide +kernel
theorem dX6_readInto_76 : decode cX6_readInto 76 = .ok (.iconst 0, 1) := by decide +kernel
theorem dX6_readInto_77 : decode cX6_readInto 77 = .ok (.putfield 19, 3) := by decide +kernel
theorem dX6_readInto_80 : decode cX6_readInto 80 = .ok (.aload_n 0, 1) := by decide +kernel
theorem dX6_readInto_81 : decode cX6_readInto 81 = .ok (.getfield 30, 3) := by decide +kernel
theorem dX6_readInto_84 : decode cX6_readInto 84 = .ok (.ireturn, 1) := by decide +kernel
theorem dX6_readClause_0 : decode cX6_readClause 0 = .ok (.aload_n 0, 1) := by decide +kernel
theorem dX6_readClause_1 : decode cX6_readClause 1 = .ok (.invokevirtual 47, 3) := by decide +kernel
theorem dX6_readClause_4 : decode cX6_readClause 4 = .ok (.lookupswitch 76 #[(102, 60), (107, 44), (108, 52), (115, 68)], 44) := by decide +kernel
theorem dX6_readClause_48 : decode cX6_readClause 48 = .ok (.aload_n 0, 1) := by decide +kernel
theorem dX6_readClause_49 : decode cX6_readClause 49 = .ok (.aload_n 1, 1) := by decide +kernel
theorem dX6_readClause_50 : decode cX6_readClause 50 = .ok (.invokevirtual 51, 3) := by decide +kernel
theorem dX6_readClause_53 : decode cX6_readClause 53 = .ok (.goto 36, 3) := by decide +kernel
theorem dX6_readClause_56 : decode cX6_readClause 56 = .ok (.aload_n 0, 1) := by decide +kernel
theorem dX6_readClause_57 : decode cX6_readClause 57 = .ok (.aload_n 1, 1) := by decide +kernel
theorem dX6_readClause_58 : decode cX6_readClause 58 = .ok (.invokevirtual 54, 3) := by decide +kernel
theorem dX6_readClause_61 : decode cX6_readClause 61 = .ok (.goto 28, 3) := by decide +kernel
theorem dX6_readClause_64 : decode cX6_readClause 64 = .ok (.aload_n 0, 1) := by decide +kernel
theorem dX6_readClause_65 : decode cX6_readClause 65 = .ok (.aload_n 1, 1) := by decide +kernel
theorem dX6_readClause_66 : decode cX6_readClause 66 = .ok (.invokevirtual 57, 3) := by decide +kernel
theorem dX6_readClause_69 : decode cX6_readClause 69 = .ok (.goto 20, 3) := by decide +kernel
theorem dX6_readClause_72 : decode cX6_readClause 72 = .ok (.aload_n 0, 1) := by decide +kernel
theorem dX6_readClause_73 : decode cX6_readClause 73 = .ok (.aload_n 1, 1) := by decide +kernel
theorem dX6_readClause_74 : decode cX6_readClause 74 = .ok (.invokevirtual 60, 3) := by decide +kernel
theorem dX6_readClause_77 : decode cX6_readClause 77 = .ok (.goto 12, 3) := by decide +kernel
theorem dX6_readClause_80 : decode cX6_readClause 80 = .ok (.aload_n 0, 1) := by decide +kernel
theorem dX6_readClause_81 : decode cX6_readClause 81 = .ok (.iconst 1, 1) := by decide +kernel
theorem dX6_readClause_82 : decode cX6_readClause 82 = .ok (.aload_n 0, 1) := by decide +kernel
theorem dX6_readClause_83 : decode cX6_readClause 83 = .ok (.getfield 27, 3) := by decide +kernel
theorem dX6_readClause_86 : decode cX6_readClause 86 = .ok (.invokevirtual 63, 3) := by decide +kernel
theorem dX6_readClause_89 : decode cX6_readClause 89 = .ok (.aload_n 0, 1) := by decide +kernel
theorem dX6_readClause_90 : decode cX6_readClause 90 = .ok (.invokevirtual 47, 3) := by decide +kernel
theorem dX6_readClause_93 : decode cX6_readClause 93 = .ok (.bipush 59, 2) := by decide +kernel
theorem dX6_readClause_95 : decode cX6_readClause 95 = .ok (.if_icmp .ne 16, 3) := by decide +kernel
theorem dX6_readClause_98 : decode cX6_readClause 98 = .ok (.aload_n 0, 1) := by decide +kernel
theorem dX6_readClause_99 : decode cX6_readClause 99 = .ok (.dup, 1) := by decide +kernel
theorem dX6_readClause_100 : decode cX6_readClause 100 = .ok (.getfield 27, 3) := by decide +kernel
theorem dX6_readClause_103 : decode cX6_readClause 103 = .ok (.iconst 1, 1) := by decide +kernel
theorem dX6_readClause_104 : decode cX6_readClause 104 = .ok (.iadd, 1) := by decide +kernel
theorem dX6_readClause_105 : decode cX6_readClause 105 = .ok (.putfield 27, 3) := by decide +kernel
theorem dX6_readClause_108 : decode cX6_readClause 108 = .ok (.goto 12, 3) := by decide +kernel
theorem dX6_readClause_111 : decode cX6_readClause 111 = .ok (.aload_n 0, 1) := by decide +kernel
theorem dX6_readClause_112 : decode cX6_readClause 112 = .ok (.iconst 1, 1) := by decide +kernel
theorem dX6_readClause_113 : decode cX6_readClause 113 = .ok (.aload_n 0, 1) := by decide +kernel
theorem dX6_readClause_114 : decode cX6_readClause 114 = .ok (.getfield 27, 3) := by decide +kernel
theorem dX6_readClause_117 : decode cX6_readClause 117 = .ok (.invokevirtual 63, 3) := by decide +kernel
theorem dX6_readClause_120 : decode cX6_readClause 120 = .ok (.return_, 1) := by decide +kernel
theorem dX6_readClock_0 : decode cX6_readClock 0 = .ok (.aload_n 1, 1) := by decide +kernel
theorem dX6_readClock_1 : decode cX6_readClock 1 = .ok (.getfield 67, 3) := by decide +kernel
theorem dX6_readClock_4 : decode cX6_readClock 4 = .ok (.bipush 8, 2) := by decide +kernel
theorem dX6_readClock_6 : decode cX6_readClock 6 = .ok (.if_icmp .lt 13, 3) := by decide +kernel
theorem dX6_readClock_9 : decode cX6_readClock 9 = .ok (.aload_n 0, 1) := by decide +kernel
theorem dX6_readClock_10 : decode cX6_readClock 10 = .ok (.iconst 3, 1) := by decide +kernel
theorem dX6_readClock_11 : decode cX6_readClock 11 = .ok (.aload_n 0, 1) := by decide +kernel
theorem dX6_readClock_12 : decode cX6_readClock 12 = .ok (.getfield 27, 3) := by decide +kernel
theorem dX6_readClock_15 : decode cX6_readClock 15 = .ok (.invokevirtual 63, 3) := by decide +kernel
theorem dX6_readClock_18 : decode cX6_readClock 18 = .ok (.return_, 1) := by decide +kernel
theorem dX6_readClock_19 : decode cX6_readClock 19 = .ok (.aload_n 0, 1) := by decide +kernel
theorem dX6_readClock_20 : decode cX6_readClock 20 = .ok (.dup, 1) := by decide +kernel
theorem dX6_readClock_21 : decode cX6_readClock 21 = .ok (.getfield 27, 3) := by decide +kernel
theorem dX6_readClock_24 : decode cX6_readClock 24 = .ok (.iconst 1, 1) := by decide +kernel
theorem dX6_readClock_25 : decode cX6_readClock 25 = .ok (.iadd, 1) := by decide +kernel
theorem dX6_readClock_26 : decode cX6_readClock 26 = .ok (.putfield 27, 3) := by decide +kernel
theorem dX6_readClock_29 : decode cX6_readClock 29 = .ok (.aload_n 0, 1) := by decide +kernel
theorem dX6_readClock_30 : decode cX6_readClock 30 = .ok (.iconst 0, 1) := by decide +kernel
theorem dX6_readClock_31 : decode cX6_readClock 31 = .ok (.sipush 9999, 3) := by decide +kernel
theorem dX6_readClock_34 : decode cX6_readClock 34 = .ok (.invokevirtual 70, 3) := by decide +kernel
theorem dX6_readClock_37 : decode cX6_readClock 37 = .ok (.istore_n 2, 1) := by decide +kernel
theorem dX6_readClock_38 : decode cX6_readClock 38 = .ok (.aload_n 0, 1) := by decide +kernel
theorem dX6_readClock_39 : decode cX6_readClock 39 = .ok (.bipush 90, 2) := by decide +kernel
theorem dX6_readClock_41 : decode cX6_readClock 41 = .ok (.bipush 110, 2) := by decide +kernel
theorem dX6_readClock_43 : decode cX6_readClock 43 = .ok (.invokevirtual 70, 3) := by decide +kernel
theorem dX6_readClock_46 : decode cX6_readClock 46 = .ok (.istore_n 3, 1) := by decide +kernel
theorem dX6_readClock_47 : decode cX6_readClock 47 = .ok (.aload_n 1, 1) := by decide +kernel
theorem dX6_readClock_48 : decode cX6_readClock 48 = .ok (.iload_n 2, 1) := by decide +kernel
theorem dX6_readClock_49 : decode cX6_readClock 49 = .ok (.iload_n 3, 1) := by decide +kernel
theorem dX6_readClock_50 : decode cX6_readClock 50 = .ok (.invokevirtual 74, 3) := by decide +kernel
theorem dX6_readClock_53 : decode cX6_readClock 53 = .ok (.return_, 1) := by decide +kernel
theorem dX6_readLiar_0 : decode cX6_readLiar 0 = .ok (.aload_n 0, 1) := by decide +kernel
theorem dX6_readLiar_1 : decode cX6_readLiar 1 = .ok (.dup, 1) := by decide +kernel
theorem dX6_readLiar_2 : decode cX6_readLiar 2 = .ok (.getfield 27, 3) := by decide +kernel
theorem dX6_readLiar_5 : decode cX6_readLiar 5 = .ok (.iconst 1, 1) := by decide +kernel
theorem dX6_readLiar_6 : decode cX6_readLiar 6 = .ok (.iadd, 1) := by decide +kernel
theorem dX6_readLiar_7 : decode cX6_readLiar 7 = .ok (.putfield 27, 3) := by decide +kernel
theorem dX6_readLiar_10 : decode cX6_readLiar 10 = .ok (.aload_n 0, 1) := by decide +kernel
theorem dX6_readLiar_11 : decode cX6_readLiar 11 = .ok (.iconst 0, 1) := by decide +kernel
theorem dX6_readLiar_12 : decode cX6_readLiar 12 = .ok (.aload_n 1, 1) := by decide +kernel
theorem dX6_readLiar_13 : decode cX6_readLiar 13 = .ok (.getfield 67, 3) := by decide +kernel
theorem dX6_readLiar_16 : decode cX6_readLiar 16 = .ok (.iconst 1, 1) := by decide +kernel
theorem dX6_readLiar_17 : decode cX6_readLiar 17 = .ok (.isub, 1) := by decide +kernel
theorem dX6_readLiar_18 : decode cX6_readLiar 18 = .ok (.invokevirtual 70, 3) := by decide +kernel
theorem dX6_readLiar_21 : decode cX6_readLiar 21 = .ok (.istore_n 2, 1) := by decide +kernel
theorem dX6_readLiar_22 : decode cX6_readLiar 22 = .ok (.aload_n 0, 1) := by decide +kernel
theorem dX6_readLiar_23 : decode cX6_readLiar 23 = .ok (.getfield 30, 3) := by decide +kernel
theorem dX6_readLiar_26 : decode cX6_readLiar 26 = .ok (.ifCond .eq 4, 3) := by decide +kernel
theorem dX6_readLiar_29 : decode cX6_readLiar 29 = .ok (.return_, 1) := by decide +kernel
theorem dX6_readLiar_30 : decode cX6_readLiar 30 = .ok (.aload_n 1, 1) := by decide +kernel
theorem dX6_readLiar_31 : decode cX6_readLiar 31 = .ok (.iload_n 2, 1) := by decide +kernel
theorem dX6_readLiar_32 : decode cX6_readLiar 32 = .ok (.invokevirtual 77, 3) := by decide +kernel
theorem dX6_readLiar_35 : decode cX6_readLiar 35 = .ok (.ifCond .eq 12, 3) := by decide +kernel
theorem dX6_readLiar_38 : decode cX6_readLiar 38 = .ok (.aload_n 0, 1) := by decide +kernel
theorem dX6_readLiar_39 : decode cX6_readLiar 39 = .ok (.iconst 4, 1) := by decide +kernel
theorem dX6_readLiar_40 : decode cX6_readLiar 40 = .ok (.aload_n 0, 1) := by decide +kernel
theorem dX6_readLiar_41 : decode cX6_readLiar 41 = .ok (.getfield 81, 3) := by decide +kernel
theorem dX6_readLiar_44 : decode cX6_readLiar 44 = .ok (.invokevirtual 63, 3) := by decide +kernel
theorem dX6_readLiar_47 : decode cX6_readLiar 47 = .ok (.aload_n 1, 1) := by decide +kernel
theorem dX6_readLiar_48 : decode cX6_readLiar 48 = .ok (.dup, 1) := by decide +kernel
theorem dX6_readLiar_49 : decode cX6_readLiar 49 = .ok (.getfield 84, 3) := by decide +kernel
theorem dX6_readLiar_52 : decode cX6_readLiar 52 = .ok (.iconst 1, 1) := by decide +kernel
theorem dX6_readLiar_53 : decode cX6_readLiar 53 = .ok (.iload_n 2, 1) := by decide +kernel
theorem dX6_readLiar_54 : decode cX6_readLiar 54 = .ok (.ishl, 1) := by decide +kernel
theorem dX6_readLiar_55 : decode cX6_readLiar 55 = .ok (.ior, 1) := by decide +kernel
theorem dX6_readLiar_56 : decode cX6_readLiar 56 = .ok (.putfield 84, 3) := by decide +kernel
theorem dX6_readLiar_59 : decode cX6_readLiar 59 = .ok (.return_, 1) := by decide +kernel
theorem dX6_readStrike_0 : decode cX6_readStrike 0 = .ok (.aload_n 0, 1) := by decide +kernel
theorem dX6_readStrike_1 : decode cX6_readStrike 1 = .ok (.getfield 33, 3) := by decide +kernel
theorem dX6_readStrike_4 : decode cX6_readStrike 4 = .ok (.ifCond .eq 12, 3) := by decide +kernel
theorem dX6_readStrike_7 : decode cX6_readStrike 7 = .ok (.aload_n 0, 1) := by decide +kernel
theorem dX6_readStrike_8 : decode cX6_readStrike 8 = .ok (.iconst 4, 1) := by decide +kernel
theorem dX6_readStrike_9 : decode cX6_readStrike 9 = .ok (.aload_n 0, 1) := by decide +kernel
theorem dX6_readStrike_10 : decode cX6_readStrike 10 = .ok (.getfield 27, 3) := by decide +kernel
theorem dX6_readStrike_13 : decode cX6_readStrike 13 = .ok (.invokevirtual 63, 3) := by decide +kernel
theorem dX6_readStrike_16 : decode cX6_readStrike 16 = .ok (.aload_n 0, 1) := by decide +kernel
theorem dX6_readStrike_17 : decode cX6_readStrike 17 = .ok (.iconst 1, 1) := by decide +kernel
theorem dX6_readStrike_18 : decode cX6_readStrike 18 = .ok (.putfield 33, 3) := by decide +kernel
theorem dX6_readStrike_21 : decode cX6_readStrike 21 = .ok (.aload_n 0, 1) := by decide +kernel
theorem dX6_readStrike_22 : decode cX6_readStrike 22 = .ok (.dup, 1) := by decide +kernel
theorem dX6_readStrike_23 : decode cX6_readStrike 23 = .ok (.getfield 27, 3) := by decide +kernel
theorem dX6_readStrike_26 : decode cX6_readStrike 26 = .ok (.iconst 1, 1) := by decide +kernel
theorem dX6_readStrike_27 : decode cX6_readStrike 27 = .ok (.iadd, 1) := by decide +kernel
theorem dX6_readStrike_28 : decode cX6_readStrike 28 = .ok (.putfield 27, 3) := by decide +kernel
theorem dX6_readStrike_31 : decode cX6_readStrike 31 = .ok (.aload_n 1, 1) := by decide +kernel
theorem dX6_readStrike_32 : decode cX6_readStrike 32 = .ok (.aload_n 0, 1) := by decide +kernel
theorem dX6_readStrike_33 : decode cX6_readStrike 33 = .ok (.iconst 0, 1) := by decide +kernel
theorem dX6_readStrike_34 : decode cX6_readStrike 34 = .ok (.iconst 3, 1) := by decide +kernel
theorem dX6_readStrike_35 : decode cX6_readStrike 35 = .ok (.invokevirtual 70, 3) := by decide +kernel
theorem dX6_readStrike_38 : decode cX6_readStrike 38 = .ok (.putfield 87, 3) := by decide +kernel
theorem dX6_readStrike_41 : decode cX6_readStrike 41 = .ok (.return_, 1) := by decide +kernel
theorem dX6_readStep_0 : decode cX6_readStep 0 = .ok (.aload_n 0, 1) := by decide +kernel
theorem dX6_readStep_1 : decode cX6_readStep 1 = .ok (.getfield 37, 3) := by decide +kernel
theorem dX6_readStep_4 : decode cX6_readStep 4 = .ok (.ifCond .eq 12, 3) := by decide +kernel
theorem dX6_readStep_7 : decode cX6_readStep 7 = .ok (.aload_n 0, 1) := by decide +kernel
theorem dX6_readStep_8 : decode cX6_readStep 8 = .ok (.iconst 4, 1) := by decide +kernel
theorem dX6_readStep_9 : decode cX6_readStep 9 = .ok (.aload_n 0, 1) := by decide +kernel
theorem dX6_readStep_10 : decode cX6_readStep 10 = .ok (.getfield 27, 3) := by decide +kernel
theorem dX6_readStep_13 : decode cX6_readStep 13 = .ok (.invokevirtual 63, 3) := by decide +kernel
theorem dX6_readStep_16 : decode cX6_readStep 16 = .ok (.aload_n 0, 1) := by decide +kernel
theorem dX6_readStep_17 : decode cX6_readStep 17 = .ok (.iconst 1, 1) := by decide +kernel
theorem dX6_readStep_18 : decode cX6_readStep 18 = .ok (.putfield 37, 3) := by decide +kernel
theorem dX6_readStep_21 : decode cX6_readStep 21 = .ok (.aload_n 0, 1) := by decide +kernel
theorem dX6_readStep_22 : decode cX6_readStep 22 = .ok (.dup, 1) := by decide +kernel
theorem dX6_readStep_23 : decode cX6_readStep 23 = .ok (.getfield 27, 3) := by decide +kernel
theorem dX6_readStep_26 : decode cX6_readStep 26 = .ok (.iconst 1, 1) := by decide +kernel
theorem dX6_readStep_27 : decode cX6_readStep 27 = .ok (.iadd, 1) := by decide +kernel
theorem dX6_readStep_28 : decode cX6_readStep 28 = .ok (.putfield 27, 3) := by decide +kernel
theorem dX6_readStep_31 : decode cX6_readStep 31 = .ok (.aload_n 1, 1) := by decide +kernel
theorem dX6_readStep_32 : decode cX6_readStep 32 = .ok (.aload_n 0, 1) := by decide +kernel
theorem dX6_readStep_33 : decode cX6_readStep 33 = .ok (.iconst 0, 1) := by decide +kernel
theorem dX6_readStep_34 : decode cX6_readStep 34 = .ok (.bipush 80, 2) := by decide +kernel
theorem dX6_readStep_36 : decode cX6_readStep 36 = .ok (.invokevirtual 70, 3) := by decide +kernel
theorem dX6_readStep_39 : decode cX6_readStep 39 = .ok (.putfield 90, 3) := by decide +kernel
theorem dX6_readStep_42 : decode cX6_readStep 42 = .ok (.return_, 1) := by decide +kernel
theorem dX6_readNumber_0 : decode cX6_readNumber 0 = .ok (.aload_n 0, 1) := by decide +kernel
theorem dX6_readNumber_1 : decode cX6_readNumber 1 = .ok (.invokevirtual 40, 3) := by decide +kernel
theorem dX6_readNumber_4 : decode cX6_readNumber 4 = .ok (.aload_n 0, 1) := by decide +kernel
theorem dX6_readNumber_5 : decode cX6_readNumber 5 = .ok (.aload_n 0, 1) := by decide +kernel
theorem dX6_readNumber_6 : decode cX6_readNumber 6 = .ok (.getfield 27, 3) := by decide +kernel
theorem dX6_readNumber_9 : decode cX6_readNumber 9 = .ok (.putfield 81, 3) := by decide +kernel
theorem dX6_readNumber_12 : decode cX6_readNumber 12 = .ok (.iconst 0, 1) := by decide +kernel
theorem dX6_readNumber_13 : decode cX6_readNumber 13 = .ok (.istore_n 3, 1) := by decide +kernel
theorem dX6_readNumber_14 : decode cX6_readNumber 14 = .ok (.aload_n 0, 1) := by decide +kernel
theorem dX6_readNumber_15 : decode cX6_readNumber 15 = .ok (.getfield 27, 3) := by decide +kernel
theorem dX6_readNumber_18 : decode cX6_readNumber 18 = .ok (.aload_n 0, 1) := by decide +kernel
theorem dX6_readNumber_19 : decode cX6_readNumber 19 = .ok (.getfield 19, 3) := by decide +kernel
theorem dX6_readNumber_22 : decode cX6_readNumber 22 = .ok (.if_icmp .ge 62, 3) := by decide +kernel
theorem dX6_readNumber_25 : decode cX6_readNumber 25 = .ok (.aload_n 0, 1) := by decide +kernel
theorem dX6_readNumber_26 : decode cX6_readNumber 26 = .ok (.getfield 9, 3) := by decide +kernel
theorem dX6_readNumber_29 : decode cX6_readNumber 29 = .ok (.aload_n 0, 1) := by decide +kernel
theorem dX6_readNumber_30 : decode cX6_readNumber 30 = .ok (.getfield 27, 3) := by decide +kernel
theorem dX6_readNumber_33 : decode cX6_readNumber 33 = .ok (.iaload, 1) := by decide +kernel
theorem dX6_readNumber_34 : decode cX6_readNumber 34 = .ok (.invokestatic 93, 3) := by decide +kernel
theorem dX6_readNumber_37 : decode cX6_readNumber 37 = .ok (.ifCond .eq 47, 3) := by decide +kernel
theorem dX6_readNumber_40 : decode cX6_readNumber 40 = .ok (.aload_n 0, 1) := by decide +kernel
theorem dX6_readNumber_41 : decode cX6_readNumber 41 = .ok (.getfield 27, 3) := by decide +kernel
theorem dX6_readNumber_44 : decode cX6_readNumber 44 = .ok (.aload_n 0, 1) := by decide +kernel
theorem dX6_readNumber_45 : decode cX6_readNumber 45 = .ok (.getfield 81, 3) := by decide +kernel
theorem dX6_readNumber_48 : decode cX6_readNumber 48 = .ok (.isub, 1) := by decide +kernel
theorem dX6_readNumber_49 : decode cX6_readNumber 49 = .ok (.iconst 4, 1) := by decide +kernel
theorem dX6_readNumber_50 : decode cX6_readNumber 50 = .ok (.if_icmp .ge 21, 3) := by decide +kernel
theorem dX6_readNumber_53 : decode cX6_readNumber 53 = .ok (.iload_n 3, 1) := by decide +kernel
theorem dX6_readNumber_54 : decode cX6_readNumber 54 = .ok (.bipush 10, 2) := by decide +kernel
theorem dX6_readNumber_56 : decode cX6_readNumber 56 = .ok (.imul, 1) := by decide +kernel
theorem dX6_readNumber_57 : decode cX6_readNumber 57 = .ok (.aload_n 0, 1) := by decide +kernel
theorem dX6_readNumber_58 : decode cX6_readNumber 58 = .ok (.getfield 9, 3) := by decide +kernel
theorem dX6_readNumber_61 : decode cX6_readNumber 61 = .ok (.aload_n 0, 1) := by decide +kernel
theorem dX6_readNumber_62 : decode cX6_readNumber 62 = .ok (.getfield 27, 3) := by decide +kernel
theorem dX6_readNumber_65 : decode cX6_readNumber 65 = .ok (.iaload, 1) := by decide +kernel
theorem dX6_readNumber_66 : decode cX6_readNumber 66 = .ok (.iadd, 1) := by decide +kernel
theorem dX6_readNumber_67 : decode cX6_readNumber 67 = .ok (.bipush 48, 2) := by decide +kernel
theorem dX6_readNumber_69 : decode cX6_readNumber 69 = .ok (.isub, 1) := by decide +kernel
theorem dX6_readNumber_70 : decode cX6_readNumber 70 = .ok (.istore_n 3, 1) := by decide +kernel
theorem dX6_readNumber_71 : decode cX6_readNumber 71 = .ok (.aload_n 0, 1) := by decide +kernel
theorem dX6_readNumber_72 : decode cX6_readNumber 72 = .ok (.dup, 1) := by decide +kernel
theorem dX6_readNumber_73 : decode cX6_readNumber 73 = .ok (.getfield 27, 3) := by decide +kernel
theorem dX6_readNumber_76 : decode cX6_readNumber 76 = .ok (.iconst 1, 1) := by decide +kernel
theorem dX6_readNumber_77 : decode cX6_readNumber 77 = .ok (.iadd, 1) := by decide +kernel
theorem dX6_readNumber_78 : decode cX6_readNumber 78 = .ok (.putfield 27, 3) := by decide +kernel
theorem dX6_readNumber_81 : decode cX6_readNumber 81 = .ok (.goto (-67), 3) := by decide +kernel
theorem dX6_readNumber_84 : decode cX6_readNumber 84 = .ok (.aload_n 0, 1) := by decide +kernel
theorem dX6_readNumber_85 : decode cX6_readNumber 85 = .ok (.getfield 27, 3) := by decide +kernel
theorem dX6_readNumber_88 : decode cX6_readNumber 88 = .ok (.aload_n 0, 1) := by decide +kernel
theorem dX6_readNumber_89 : decode cX6_readNumber 89 = .ok (.getfield 81, 3) := by decide +kernel
theorem dX6_readNumber_92 : decode cX6_readNumber 92 = .ok (.if_icmp .ne 15, 3) := by decide +kernel
theorem dX6_readNumber_95 : decode cX6_readNumber 95 = .ok (.aload_n 0, 1) := by decide +kernel
theorem dX6_readNumber_96 : decode cX6_readNumber 96 = .ok (.iconst 1, 1) := by decide +kernel
theorem dX6_readNumber_97 : decode cX6_readNumber 97 = .ok (.aload_n 0, 1) := by decide +kernel
theorem dX6_readNumber_98 : decode cX6_readNumber 98 = .ok (.getfield 27, 3) := by decide +kernel
theorem dX6_readNumber_101 : decode cX6_readNumber 101 = .ok (.invokevirtual 63, 3) := by decide +kernel
theorem dX6_readNumber_104 : decode cX6_readNumber 104 = .ok (.goto 35, 3) := by decide +kernel
theorem dX6_readNumber_107 : decode cX6_readNumber 107 = .ok (.aload_n 0, 1) := by decide +kernel
theorem dX6_readNumber_108 : decode cX6_readNumber 108 = .ok (.getfield 27, 3) := by decide +kernel
theorem dX6_readNumber_111 : decode cX6_readNumber 111 = .ok (.aload_n 0, 1) := by decide +kernel
theorem dX6_readNumber_112 : decode cX6_readNumber 112 = .ok (.getfield 81, 3) := by decide +kernel
theorem dX6_readNumber_115 : decode cX6_readNumber 115 = .ok (.isub, 1) := by decide +kernel
theorem dX6_readNumber_116 : decode cX6_readNumber 116 = .ok (.iconst 4, 1) := by decide +kernel
theorem dX6_readNumber_117 : decode cX6_readNumber 117 = .ok (.if_icmp .gt 13, 3) := by decide +kernel
theorem dX6_readNumber_120 : decode cX6_readNumber 120 = .ok (.iload_n 3, 1) := by decide +kernel
theorem dX6_readNumber_121 : decode cX6_readNumber 121 = .ok (.iload_n 1, 1) := by decide +kernel
theorem dX6_readNumber_122 : decode cX6_readNumber 122 = .ok (.if_icmp .lt 8, 3) := by decide +kernel
theorem dX6_readNumber_125 : decode cX6_readNumber 125 = .ok (.iload_n 3, 1) := by decide +kernel
theorem dX6_readNumber_126 : decode cX6_readNumber 126 = .ok (.iload_n 2, 1) := by decide +kernel
theorem dX6_readNumber_127 : decode cX6_readNumber 127 = .ok (.if_icmp .le 12, 3) := by decide +kernel
theorem dX6_readNumber_130 : decode cX6_readNumber 130 = .ok (.aload_n 0, 1) := by decide +kernel
theorem dX6_readNumber_131 : decode cX6_readNumber 131 = .ok (.iconst 2, 1) := by decide +kernel
theorem dX6_readNumber_132 : decode cX6_readNumber 132 = .ok (.aload_n 0, 1) := by decide +kernel
theorem dX6_readNumber_133 : decode cX6_readNumber 133 = .ok (.getfield 81, 3) := by decide +kernel
theorem dX6_readNumber_136 : decode cX6_readNumber 136 = .ok (.invokevirtual 63, 3) := by decide +kernel
theorem dX6_readNumber_139 : decode cX6_readNumber 139 = .ok (.aload_n 0, 1) := by decide +kernel
theorem dX6_readNumber_140 : decode cX6_readNumber 140 = .ok (.invokevirtual 40, 3) := by decide +kernel
theorem dX6_readNumber_143 : decode cX6_readNumber 143 = .ok (.iload_n 3, 1) := by decide +kernel
theorem dX6_readNumber_144 : decode cX6_readNumber 144 = .ok (.ireturn, 1) := by decide +kernel
theorem dX6_note_0 : decode cX6_note 0 = .ok (.aload_n 0, 1) := by decide +kernel
theorem dX6_note_1 : decode cX6_note 1 = .ok (.getfield 30, 3) := by decide +kernel
theorem dX6_note_4 : decode cX6_note 4 = .ok (.ifCond .ne 13, 3) := by decide +kernel
theorem dX6_note_7 : decode cX6_note 7 = .ok (.aload_n 0, 1) := by decide +kernel
theorem dX6_note_8 : decode cX6_note 8 = .ok (.iload_n 1, 1) := by decide +kernel
theorem dX6_note_9 : decode cX6_note 9 = .ok (.putfield 30, 3) := by decide +kernel
theorem dX6_note_12 : decode cX6_note 12 = .ok (.aload_n 0, 1) := by decide +kernel
theorem dX6_note_13 : decode cX6_note 13 = .ok (.iload_n 2, 1) := by decide +kernel
theorem dX6_note_14 : decode cX6_note 14 = .ok (.putfield 15, 3) := by decide +kernel
theorem dX6_note_17 : decode cX6_note 17 = .ok (.return_, 1) := by decide +kernel
theorem dX6_skipBlanks_0 : decode cX6_skipBlanks 0 = .ok (.aload_n 0, 1) := by decide +kernel
theorem dX6_skipBlanks_1 : decode cX6_skipBlanks 1 = .ok (.getfield 27, 3) := by decide +kernel
theorem dX6_skipBlanks_4 : decode cX6_skipBlanks 4 = .ok (.aload_n 0, 1) := by decide +kernel
theorem dX6_skipBlanks_5 : decode cX6_skipBlanks 5 = .ok (.getfield 19, 3) := by decide +kernel
theorem dX6_skipBlanks_8 : decode cX6_skipBlanks 8 = .ok (.if_icmp .ge 30, 3) := by decide +kernel
theorem dX6_skipBlanks_11 : decode cX6_skipBlanks 11 = .ok (.aload_n 0, 1) := by decide +kernel
theorem dX6_skipBlanks_12 : decode cX6_skipBlanks 12 = .ok (.getfield 9, 3) := by decide +kernel
theorem dX6_skipBlanks_15 : decode cX6_skipBlanks 15 = .ok (.aload_n 0, 1) := by decide +kernel
theorem dX6_skipBlanks_16 : decode cX6_skipBlanks 16 = .ok (.getfield 27, 3) := by decide +kernel
theorem dX6_skipBlanks_19 : decode cX6_skipBlanks 19 = .ok (.iaload, 1) := by decide +kernel
theorem dX6_skipBlanks_20 : decode cX6_skipBlanks 20 = .ok (.bipush 32, 2) := by decide +kernel
theorem dX6_skipBlanks_22 : decode cX6_skipBlanks 22 = .ok (.if_icmp .ne 16, 3) := by decide +kernel
theorem dX6_skipBlanks_25 : decode cX6_skipBlanks 25 = .ok (.aload_n 0, 1) := by decide +kernel
theorem dX6_skipBlanks_26 : decode cX6_skipBlanks 26 = .ok (.dup, 1) := by decide +kernel
theorem dX6_skipBlanks_27 : decode cX6_skipBlanks 27 = .ok (.getfield 27, 3) := by decide +kernel
theorem dX6_skipBlanks_30 : decode cX6_skipBlanks 30 = .ok (.iconst 1, 1) := by decide +kernel
theorem dX6_skipBlanks_31 : decode cX6_skipBlanks 31 = .ok (.iadd, 1) := by decide +kernel
theorem dX6_skipBlanks_32 : decode cX6_skipBlanks 32 = .ok (.putfield 27, 3) := by decide +kernel
theorem dX6_skipBlanks_35 : decode cX6_skipBlanks 35 = .ok (.goto (-35), 3) := by decide +kernel
theorem dX6_skipBlanks_38 : decode cX6_skipBlanks 38 = .ok (.return_, 1) := by decide +kernel
theorem dX6_letter_0 : decode cX6_letter 0 = .ok (.aload_n 0, 1) := by decide +kernel
theorem dX6_letter_1 : decode cX6_letter 1 = .ok (.getfield 27, 3) := by decide +kernel
theorem dX6_letter_4 : decode cX6_letter 4 = .ok (.aload_n 0, 1) := by decide +kernel
theorem dX6_letter_5 : decode cX6_letter 5 = .ok (.getfield 19, 3) := by decide +kernel
theorem dX6_letter_8 : decode cX6_letter 8 = .ok (.if_icmp .ge 15, 3) := by decide +kernel
theorem dX6_letter_11 : decode cX6_letter 11 = .ok (.aload_n 0, 1) := by decide +kernel
theorem dX6_letter_12 : decode cX6_letter 12 = .ok (.getfield 9, 3) := by decide +kernel
theorem dX6_letter_15 : decode cX6_letter 15 = .ok (.aload_n 0, 1) := by decide +kernel
theorem dX6_letter_16 : decode cX6_letter 16 = .ok (.getfield 27, 3) := by decide +kernel
theorem dX6_letter_19 : decode cX6_letter 19 = .ok (.iaload, 1) := by decide +kernel
theorem dX6_letter_20 : decode cX6_letter 20 = .ok (.goto 4, 3) := by decide +kernel
theorem dX6_letter_23 : decode cX6_letter 23 = .ok (.iconst (-1), 1) := by decide +kernel
theorem dX6_letter_24 : decode cX6_letter 24 = .ok (.ireturn, 1) := by decide +kernel
theorem dX6_isFigure_0 : decode cX6_isFigure 0 = .ok (.iload_n 0, 1) := by decide +kernel
theorem dX6_isFigure_1 : decode cX6_isFigure 1 = .ok (.bipush 48, 2) := by decide +kernel
theorem dX6_isFigure_3 : decode cX6_isFigure 3 = .ok (.if_icmp .lt 13, 3) := by decide +kernel
theorem dX6_isFigure_6 : decode cX6_isFigure 6 = .ok (.iload_n 0, 1) := by decide +kernel
theorem dX6_isFigure_7 : decode cX6_isFigure 7 = .ok (.bipush 57, 2) := by decide +kernel
theorem dX6_isFigure_9 : decode cX6_isFigure 9 = .ok (.if_icmp .gt 7, 3) := by decide +kernel
theorem dX6_isFigure_12 : decode cX6_isFigure 12 = .ok (.iconst 1, 1) := by decide +kernel
theorem dX6_isFigure_13 : decode cX6_isFigure 13 = .ok (.goto 4, 3) := by decide +kernel
theorem dX6_isFigure_16 : decode cX6_isFigure 16 = .ok (.iconst 0, 1) := by decide +kernel
theorem dX6_isFigure_17 : decode cX6_isFigure 17 = .ok (.ireturn, 1) := by decide +kernel
theorem dX7_init_0 : decode cX7_init 0 = .ok (.aload_n 0, 1) := by decide +kernel
theorem dX7_init_1 : decode cX7_init 1 = .ok (.invokespecial 1, 3) := by decide +kernel
theorem dX7_init_4 : decode cX7_init 4 = .ok (.aload_n 0, 1) := by decide +kernel
theorem dX7_init_5 : decode cX7_init 5 = .ok (.new 7, 3) := by decide +kernel
theorem dX7_init_8 : decode cX7_init 8 = .ok (.dup, 1) := by decide +kernel
theorem dX7_init_9 : decode cX7_init 9 = .ok (.invokespecial 9, 3) := by decide +kernel
theorem dX7_init_12 : decode cX7_init 12 = .ok (.putfield 10, 3) := by decide +kernel
theorem dX7_init_15 : decode cX7_init 15 = .ok (.aload_n 0, 1) := by decide +kernel
theorem dX7_init_16 : decode cX7_init 16 = .ok (.new 7, 3) := by decide +kernel
theorem dX7_init_19 : decode cX7_init 19 = .ok (.dup, 1) := by decide +kernel
theorem dX7_init_20 : decode cX7_init 20 = .ok (.invokespecial 9, 3) := by decide +kernel
theorem dX7_init_23 : decode cX7_init 23 = .ok (.putfield 16, 3) := by decide +kernel
theorem dX7_init_26 : decode cX7_init 26 = .ok (.aload_n 0, 1) := by decide +kernel
theorem dX7_init_27 : decode cX7_init 27 = .ok (.new 19, 3) := by decide +kernel
theorem dX7_init_30 : decode cX7_init 30 = .ok (.dup, 1) := by decide +kernel
theorem dX7_init_31 : decode cX7_init 31 = .ok (.invokespecial 21, 3) := by decide +kernel
theorem dX7_init_34 : decode cX7_init 34 = .ok (.putfield 22, 3) := by decide +kernel
theorem dX7_init_37 : decode cX7_init 37 = .ok (.aload_n 0, 1) := by decide +kernel
theorem dX7_init_38 : decode cX7_init 38 = .ok (.new 26, 3) := by decide +kernel
theorem dX7_init_41 : decode cX7_init 41 = .ok (.dup, 1) := by decide +kernel
theorem dX7_init_42 : decode cX7_init 42 = .ok (.invokespecial 28, 3) := by decide +kernel
theorem dX7_init_45 : decode cX7_init 45 = .ok (.putfield 29, 3) := by decide +kernel
theorem dX7_init_48 : decode cX7_init 48 = .ok (.aload_n 0, 1) := by decide +kernel
theorem dX7_init_49 : decode cX7_init 49 = .ok (.new 33, 3) := by decide +kernel
theorem dX7_init_52 : decode cX7_init 52 = .ok (.dup, 1) := by decide +kernel
theorem dX7_init_53 : decode cX7_init 53 = .ok (.invokespecial 35, 3) := by decide +kernel
theorem dX7_init_56 : decode cX7_init 56 = .ok (.putfield 36, 3) := by decide +kernel
theorem dX7_init_59 : decode cX7_init 59 = .ok (.aload_n 0, 1) := by decide +kernel
theorem dX7_init_60 : decode cX7_init 60 = .ok (.new 40, 3) := by decide +kernel
theorem dX7_init_63 : decode cX7_init 63 = .ok (.dup, 1) := by decide +kernel
theorem dX7_init_64 : decode cX7_init 64 = .ok (.invokespecial 42, 3) := by decide +kernel
theorem dX7_init_67 : decode cX7_init 67 = .ok (.putfield 43, 3) := by decide +kernel
theorem dX7_init_70 : decode cX7_init 70 = .ok (.aload_n 0, 1) := by decide +kernel
theorem dX7_init_71 : decode cX7_init 71 = .ok (.new 47, 3) := by decide +kernel
theorem dX7_init_74 : decode cX7_init 74 = .ok (.dup, 1) := by decide +kernel
theorem dX7_init_75 : decode cX7_init 75 = .ok (.invokespecial 49, 3) := by decide +kernel
theorem dX7_init_78 : decode cX7_init 78 = .ok (.putfield 50, 3) := by decide +kernel
theorem dX7_init_81 : decode cX7_init 81 = .ok (.aload_n 0, 1) := by decide +kernel
theorem dX7_init_82 : decode cX7_init 82 = .ok (.iconst 2, 1) := by decide +kernel
theorem dX7_init_83 : decode cX7_init 83 = .ok (.anewarray 7, 3) := by decide +kernel
theorem dX7_init_86 : decode cX7_init 86 = .ok (.putfield 54, 3) := by decide +kernel
theorem dX7_init_89 : decode cX7_init 89 = .ok (.iconst 0, 1) := by decide +kernel
theorem dX7_init_90 : decode cX7_init 90 = .ok (.istore_n 1, 1) := by decide +kernel
theorem dX7_init_91 : decode cX7_init 91 = .ok (.iload_n 1, 1) := by decide +kernel
theorem dX7_init_92 : decode cX7_init 92 = .ok (.iconst 2, 1) := by decide +kernel
theorem dX7_init_93 : decode cX7_init 93 = .ok (.if_icmp .ge 22, 3) := by decide +kernel
theorem dX7_init_96 : decode cX7_init 96 = .ok (.aload_n 0, 1) := by decide +kernel
theorem dX7_init_97 : decode cX7_init 97 = .ok (.getfield 54, 3) := by decide +kernel
theorem dX7_init_100 : decode cX7_init 100 = .ok (.iload_n 1, 1) := by decide +kernel
theorem dX7_init_101 : decode cX7_init 101 = .ok (.new 7, 3) := by decide +kernel
theorem dX7_init_104 : decode cX7_init 104 = .ok (.dup, 1) := by decide +kernel
theorem dX7_init_105 : decode cX7_init 105 = .ok (.invokespecial 9, 3) := by decide +kernel
theorem dX7_init_108 : decode cX7_init 108 = .ok (.aastore, 1) := by decide +kernel
theorem dX7_init_109 : decode cX7_init 109 = .ok (.iinc 1 1, 3) := by decide +kernel
theorem dX7_init_112 : decode cX7_init 112 = .ok (.goto (-21), 3) := by decide +kernel
theorem dX7_init_115 : decode cX7_init 115 = .ok (.aload_n 0, 1) := by decide +kernel
theorem dX7_init_116 : decode cX7_init 116 = .ok (.iconst 2, 1) := by decide +kernel
theorem dX7_init_117 : decode cX7_init 117 = .ok (.newarray .int, 2) := by decide +kernel
theorem dX7_init_119 : decode cX7_init 119 = .ok (.putfield 58, 3) := by decide +kernel
theorem dX7_init_122 : decode cX7_init 122 = .ok (.aload_n 0, 1) := by decide +kernel
theorem dX7_init_123 : decode cX7_init 123 = .ok (.iconst 2, 1) := by decide +kernel
theorem dX7_init_124 : decode cX7_init 124 = .ok (.newarray .boolean, 2) := by decide +kernel
theorem dX7_init_126 : decode cX7_init 126 = .ok (.putfield 62, 3) := by decide +kernel
theorem dX7_init_129 : decode cX7_init 129 = .ok (.return_, 1) := by decide +kernel
theorem dX7_feed_0 : decode cX7_feed 0 = .ok (.iload_n 1, 1) := by decide +kernel
theorem dX7_feed_1 : decode cX7_feed 1 = .ok (.iconst 0, 1) := by decide +kernel
theorem dX7_feed_2 : decode cX7_feed 2 = .ok (.sipush 255, 3) := by decide +kernel
theorem dX7_feed_5 : decode cX7_feed 5 = .ok (.invokestatic 66, 3) := by decide +kernel
theorem dX7_feed_8 : decode cX7_feed 8 = .ok (.ifCond .ne 6, 3) := by decide +kernel
theorem dX7_feed_11 : decode cX7_feed 11 = .ok (.ldc 70, 2) := by decide +kernel
theorem dX7_feed_13 : decode cX7_feed 13 = .ok (.ireturn, 1) := by decide +kernel
theorem dX7_feed_14 : decode cX7_feed 14 = .ok (.aload_n 0, 1) := by decide +kernel
theorem dX7_feed_15 : decode cX7_feed 15 = .ok (.getfield 22, 3) := by decide +kernel
theorem dX7_feed_18 : decode cX7_feed 18 = .ok (.getfield 71, 3) := by decide +kernel
theorem dX7_feed_21 : decode cX7_feed 21 = .ok (.sipush 200, 3) := by decide +kernel
theorem dX7_feed_24 : decode cX7_feed 24 = .ok (.if_icmp .lt 6, 3) := by decide +kernel
theorem dX7_feed_27 : decode cX7_feed 27 = .ok (.ldc 75, 2) := by decide +kernel
theorem dX7_feed_29 : decode cX7_feed 29 = .ok (.ireturn, 1) := by decide +kernel
theorem dX7_feed_30 : decode cX7_feed 30 = .ok (.aload_n 0, 1) := by decide +kernel
theorem dX7_feed_31 : decode cX7_feed 31 = .ok (.getfield 22, 3) := by decide +kernel
theorem dX7_feed_34 : decode cX7_feed 34 = .ok (.iload_n 1, 1) := by decide +kernel
theorem dX7_feed_35 : decode cX7_feed 35 = .ok (.invokevirtual 76, 3) := by decide +kernel
theorem dX7_feed_38 : decode cX7_feed 38 = .ok (.ireturn, 1) := by decide +kernel
theorem dX7_clocks_0 : decode cX7_clocks 0 = .ok (.aload_n 0, 1) := by decide +kernel
theorem dX7_clocks_1 : decode cX7_clocks 1 = .ok (.getfield 22, 3) := by decide +kernel
theorem dX7_clocks_4 : decode cX7_clocks 4 = .ok (.aload_n 0, 1) := by decide +kernel
theorem dX7_clocks_5 : decode cX7_clocks 5 = .ok (.getfield 16, 3) := by decide +kernel
theorem dX7_clocks_8 : decode cX7_clocks 8 = .ok (.invokevirtual 80, 3) := by decide +kernel
theorem dX7_clocks_11 : decode cX7_clocks 11 = .ok (.istore_n 1, 1) := by decide +kernel
theorem dX7_clocks_12 : decode cX7_clocks 12 = .ok (.iload_n 1, 1) := by decide +kernel
theorem dX7_clocks_13 : decode cX7_clocks 13 = .ok (.ifCond .eq 8, 3) := by decide +kernel
theorem dX7_clocks_16 : decode cX7_clocks 16 = .ok (.bipush (-10), 2) := by decide +kernel
theorem dX7_clocks_18 : decode cX7_clocks 18 = .ok (.iload_n 1, 1) := by decide +kernel
theorem dX7_clocks_19 : decode cX7_clocks 19 = .ok (.isub, 1) := by decide +kernel
theorem dX7_clocks_20 : decode cX7_clocks 20 = .ok (.ireturn, 1) := by decide +kernel
theorem dX7_clocks_21 : decode cX7_clocks 21 = .ok (.aload_n 0, 1) := by decide +kernel
theorem dX7_clocks_22 : decode cX7_clocks 22 = .ok (.getfield 10, 3) := by decide +kernel
theorem dX7_clocks_25 : decode cX7_clocks 25 = .ok (.aload_n 0, 1) := by decide +kernel
theorem dX7_clocks_26 : decode cX7_clocks 26 = .ok (.getfield 16, 3) := by decide +kernel
theorem dX7_clocks_29 : decode cX7_clocks 29 = .ok (.invokevirtual 84, 3) := by decide +kernel
theorem dX7_clocks_32 : decode cX7_clocks 32 = .ok (.aload_n 0, 1) := by decide +kernel
theorem dX7_clocks_33 : decode cX7_clocks 33 = .ok (.getfield 36, 3) := by decide +kernel
theorem dX7_clocks_36 : decode cX7_clocks 36 = .ok (.invokevirtual 88, 3) := by decide +kernel
theorem dX7_clocks_39 : decode cX7_clocks 39 = .ok (.aload_n 0, 1) := by decide +kernel
theorem dX7_clocks_40 : decode cX7_clocks 40 = .ok (.getfield 43, 3) := by decide +kernel
theorem dX7_clocks_43 : decode cX7_clocks 43 = .ok (.iconst 0, 1) := by decide +kernel
theorem dX7_clocks_44 : decode cX7_clocks 44 = .ok (.putfield 91, 3) := by decide +kernel
theorem dX7_clocks_47 : decode cX7_clocks 47 = .ok (.iconst 0, 1) := by decide +kernel
theorem dX7_clocks_48 : decode cX7_clocks 48 = .ok (.istore_n 2, 1) := by decide +kernel
theorem dX7_clocks_49 : decode cX7_clocks 49 = .ok (.iload_n 2, 1) := by decide +kernel
theorem dX7_clocks_50 : decode cX7_clocks 50 = .ok (.iconst 2, 1) := by decide +kernel
theorem dX7_clocks_51 : decode cX7_clocks 51 = .ok (.if_icmp .ge 16, 3) := by decide +kernel
theorem dX7_clocks_54 : decode cX7_clocks 54 = .ok (.aload_n 0, 1) := by decide +kernel
theorem dX7_clocks_55 : decode cX7_clocks 55 = .ok (.getfield 62, 3) := by decide +kernel
theorem dX7_clocks_58 : decode cX7_clocks 58 = .ok (.iload_n 2, 1) := by decide +kernel
theorem dX7_clocks_59 : decode cX7_clocks 59 = .ok (.iconst 0, 1) := by decide +kernel
theorem dX7_clocks_60 : decode cX7_clocks 60 = .ok (.bastore, 1) := by decide +kernel
theorem dX7_clocks_61 : decode cX7_clocks 61 = .ok (.iinc 2 1, 3) := by decide +kernel
theorem dX7_clocks_64 : decode cX7_clocks 64 = .ok (.goto (-15), 3) := by decide +kernel
theorem dX7_clocks_67 : decode cX7_clocks 67 = .ok (.aload_n 0, 1) := by decide +kernel
theorem dX7_clocks_68 : decode cX7_clocks 68 = .ok (.getfield 10, 3) := by decide +kernel
theorem dX7_clocks_71 : decode cX7_clocks 71 = .ok (.getfield 94, 3) := by decide +kernel
theorem dX7_clocks_74 : decode cX7_clocks 74 = .ok (.ireturn, 1) := by decide +kernel
theorem dX7_fault_0 : decode cX7_fault 0 = .ok (.aload_n 0, 1) := by decide +kernel
theorem dX7_fault_1 : decode cX7_fault 1 = .ok (.getfield 22, 3) := by decide +kernel
theorem dX7_fault_4 : decode cX7_fault 4 = .ok (.getfield 97, 3) := by decide +kernel
theorem dX7_fault_7 : decode cX7_fault 7 = .ok (.ireturn, 1) := by decide +kernel
theorem dX7_told_0 : decode cX7_told 0 = .ok (.iload_n 1, 1) := by decide +kernel
theorem dX7_told_1 : decode cX7_told 1 = .ok (.tableswitch 215 0 15 #[79, 87, 95, 103, 111, 119, 127, 135, 143, 155, 163, 171, 179, 187, 195, 207], 79) := by decide +kernel
theorem dX7_told_80 : decode cX7_told 80 = .ok (.aload_n 0, 1) := by decide +kernel
theorem dX7_told_81 : decode cX7_told 81 = .ok (.getfield 10, 3) := by decide +kernel
theorem dX7_told_84 : decode cX7_told 84 = .ok (.getfield 94, 3) := by decide +kernel
theorem dX7_told_87 : decode cX7_told 87 = .ok (.ireturn, 1) := by decide +kernel
theorem dX7_told_88 : decode cX7_told 88 = .ok (.aload_n 0, 1) := by decide +kernel
theorem dX7_told_89 : decode cX7_told 89 = .ok (.getfield 10, 3) := by decide +kernel
theorem dX7_told_92 : decode cX7_told 92 = .ok (.getfield 100, 3) := by decide +kernel
theorem dX7_told_95 : decode cX7_told 95 = .ok (.ireturn, 1) := by decide +kernel
theorem dX7_told_96 : decode cX7_told 96 = .ok (.aload_n 0, 1) := by decide +kernel
theorem dX7_told_97 : decode cX7_told 97 = .ok (.getfield 10, 3) := by decide +kernel
theorem dX7_told_100 : decode cX7_told 100 = .ok (.getfield 103, 3) := by decide +kernel
theorem dX7_told_103 : decode cX7_told 103 = .ok (.ireturn, 1) := by decide +kernel
theorem dX7_told_104 : decode cX7_told 104 = .ok (.aload_n 0, 1) := by decide +kernel
theorem dX7_told_105 : decode cX7_told 105 = .ok (.getfield 22, 3) := by decide +kernel
theorem dX7_told_108 : decode cX7_told 108 = .ok (.getfield 71, 3) := by decide +kernel
theorem dX7_told_111 : decode cX7_told 111 = .ok (.ireturn, 1) := by decide +kernel
theorem dX7_told_112 : decode cX7_told 112 = .ok (.aload_n 0, 1) := by decide +kernel
theorem dX7_told_113 : decode cX7_told 113 = .ok (.getfield 10, 3) := by decide +kernel
theorem dX7_told_116 : decode cX7_told 116 = .ok (.getfield 106, 3) := by decide +kernel
theorem dX7_told_119 : decode cX7_told 119 = .ok (.ireturn, 1) := by decide +kernel
theorem dX7_told_120 : decode cX7_told 120 = .ok (.aload_n 0, 1) := by decide +kernel
theorem dX7_told_121 : decode cX7_told 121 = .ok (.getfield 10, 3) := by decide +kernel
theorem dX7_told_124 : decode cX7_told 124 = .ok (.getfield 109, 3) := by decide +kernel
theorem dX7_told_127 : decode cX7_told 127 = .ok (.ireturn, 1) := by decide +kernel
theorem dX7_told_128 : decode cX7_told 128 = .ok (.aload_n 0, 1) := by decide +kernel
theorem dX7_told_129 : decode cX7_told 129 = .ok (.getfield 10, 3) := by decide +kernel
theorem dX7_told_132 : decode cX7_told 132 = .ok (.invokevirtual 112, 3) := by decide +kernel
theorem dX7_told_135 : decode cX7_told 135 = .ok (.ireturn, 1) := by decide +kernel
theorem dX7_told_136 : decode cX7_told 136 = .ok (.aload_n 0, 1) := by decide +kernel
theorem dX7_told_137 : decode cX7_told 137 = .ok (.getfield 10, 3) := by decide +kernel
theorem dX7_told_140 : decode cX7_told 140 = .ok (.invokevirtual 116, 3) := by decide +kernel
theorem dX7_told_143 : decode cX7_told 143 = .ok (.ireturn, 1) := by decide +kernel
theorem dX7_told_144 : decode cX7_told 144 = .ok (.aload_n 0, 1) := by decide +kernel
theorem dX7_told_145 : decode cX7_told 145 = .ok (.getfield 29, 3) := by decide +kernel
theorem dX7_told_148 : decode cX7_told 148 = .ok (.aload_n 0, 1) := by decide +kernel
theorem dX7_told_149 : decode cX7_told 149 = .ok (.getfield 10, 3) := by decide +kernel
theorem dX7_told_152 : decode cX7_told 152 = .ok (.invokevirtual 119, 3) := by decide +kernel
theorem dX7_told_155 : decode cX7_told 155 = .ok (.ireturn, 1) := by decide +kernel
theorem dX7_told_156 : decode cX7_told 156 = .ok (.aload_n 0, 1) := by decide +kernel
theorem dX7_told_157 : decode cX7_told 157 = .ok (.getfield 10, 3) := by decide +kernel
theorem dX7_told_160 : decode cX7_told 160 = .ok (.invokevirtual 122, 3) := by decide +kernel
theorem dX7_told_163 : decode cX7_told 163 = .ok (.ireturn, 1) := by decide +kernel
theorem dX7_told_164 : decode cX7_told 164 = .ok (.aload_n 0, 1) := by decide +kernel
theorem dX7_told_165 : decode cX7_told 165 = .ok (.getfield 10, 3) := by decide +kernel
theorem dX7_told_168 : decode cX7_told 168 = .ok (.getfield 125, 3) := by decide +kernel
theorem dX7_told_171 : decode cX7_told 171 = .ok (.ireturn, 1) := by decide +kernel
theorem dX7_told_172 : decode cX7_told 172 = .ok (.aload_n 0, 1) := by decide +kernel
theorem dX7_told_173 : decode cX7_told 173 = .ok (.getfield 10, 3) := by decide +kernel
theorem dX7_told_176 : decode cX7_told 176 = .ok (.getfield 128, 3) := by decide +kernel
theorem dX7_told_179 : decode cX7_told 179 = .ok (.ireturn, 1) := by decide +kernel
theorem dX7_told_180 : decode cX7_told 180 = .ok (.aload_n 0, 1) := by decide +kernel
theorem dX7_told_181 : decode cX7_told 181 = .ok (.getfield 10, 3) := by decide +kernel
theorem dX7_told_184 : decode cX7_told 184 = .ok (.getfield 131, 3) := by decide +kernel
theorem dX7_told_187 : decode cX7_told 187 = .ok (.ireturn, 1) := by decide +kernel
theorem dX7_told_188 : decode cX7_told 188 = .ok (.aload_n 0, 1) := by decide +kernel
theorem dX7_told_189 : decode cX7_told 189 = .ok (.getfield 43, 3) := by decide +kernel
theorem dX7_told_192 : decode cX7_told 192 = .ok (.getfield 91, 3) := by decide +kernel
theorem dX7_told_195 : decode cX7_told 195 = .ok (.ireturn, 1) := by decide +kernel
theorem dX7_told_196 : decode cX7_told 196 = .ok (.aload_n 0, 1) := by decide +kernel
theorem dX7_told_197 : decode cX7_told 197 = .ok (.getfield 43, 3) := by decide +kernel
theorem dX7_told_200 : decode cX7_told 200 = .ok (.aload_n 0, 1) := by decide +kernel
theorem dX7_told_201 : decode cX7_told 201 = .ok (.getfield 10, 3) := by decide +kernel
theorem dX7_told_204 : decode cX7_told 204 = .ok (.invokevirtual 134, 3) := by decide +kernel
theorem dX7_told_207 : decode cX7_told 207 = .ok (.ireturn, 1) := by decide +kernel
theorem dX7_told_208 : decode cX7_told 208 = .ok (.aload_n 0, 1) := by decide +kernel
theorem dX7_told_209 : decode cX7_told 209 = .ok (.getfield 36, 3) := by decide +kernel
theorem dX7_told_212 : decode cX7_told 212 = .ok (.getfield 137, 3) := by decide +kernel
theorem dX7_told_215 : decode cX7_told 215 = .ok (.ireturn, 1) := by decide +kernel
theorem dX7_told_216 : decode cX7_told 216 = .ok (.ldc 70, 2) := by decide +kernel
theorem dX7_told_218 : decode cX7_told 218 = .ok (.ireturn, 1) := by decide +kernel
theorem dX7_clock_0 : decode cX7_clock 0 = .ok (.aload_n 0, 1) := by decide +kernel
theorem dX7_clock_1 : decode cX7_clock 1 = .ok (.getfield 10, 3) := by decide +kernel
theorem dX7_clock_4 : decode cX7_clock 4 = .ok (.iload_n 1, 1) := by decide +kernel
theorem dX7_clock_5 : decode cX7_clock 5 = .ok (.invokevirtual 138, 3) := by decide +kernel
theorem dX7_clock_8 : decode cX7_clock 8 = .ok (.ifCond .ne 6, 3) := by decide +kernel
theorem dX7_clock_11 : decode cX7_clock 11 = .ok (.ldc 142, 2) := by decide +kernel
theorem dX7_clock_13 : decode cX7_clock 13 = .ok (.ireturn, 1) := by decide +kernel
theorem dX7_clock_14 : decode cX7_clock 14 = .ok (.iload_n 2, 1) := by decide +kernel
theorem dX7_clock_15 : decode cX7_clock 15 = .ok (.tableswitch 161 0 6 #[41, 51, 61, 74, 86, 103, 120], 41) := by decide +kernel
theorem dX7_clock_56 : decode cX7_clock 56 = .ok (.aload_n 0, 1) := by decide +kernel
theorem dX7_clock_57 : decode cX7_clock 57 = .ok (.getfield 10, 3) := by decide +kernel
theorem dX7_clock_60 : decode cX7_clock 60 = .ok (.getfield 143, 3) := by decide +kernel
theorem dX7_clock_63 : decode cX7_clock 63 = .ok (.iload_n 1, 1) := by decide +kernel
theorem dX7_clock_64 : decode cX7_clock 64 = .ok (.iaload, 1) := by decide +kernel
theorem dX7_clock_65 : decode cX7_clock 65 = .ok (.ireturn, 1) := by decide +kernel
theorem dX7_clock_66 : decode cX7_clock 66 = .ok (.aload_n 0, 1) := by decide +kernel
theorem dX7_clock_67 : decode cX7_clock 67 = .ok (.getfield 10, 3) := by decide +kernel
theorem dX7_clock_70 : decode cX7_clock 70 = .ok (.getfield 146, 3) := by decide +kernel
theorem dX7_clock_73 : decode cX7_clock 73 = .ok (.iload_n 1, 1) := by decide +kernel
theorem dX7_clock_74 : decode cX7_clock 74 = .ok (.iaload, 1) := by decide +kernel
theorem dX7_clock_75 : decode cX7_clock 75 = .ok (.ireturn, 1) := by decide +kernel
theorem dX7_clock_76 : decode cX7_clock 76 = .ok (.aload_n 0, 1) := by decide +kernel
theorem dX7_clock_77 : decode cX7_clock 77 = .ok (.getfield 10, 3) := by decide +kernel
theorem dX7_clock_80 : decode cX7_clock 80 = .ok (.getfield 149, 3) := by decide +kernel
theorem dX7_clock_83 : decode cX7_clock 83 = .ok (.iload_n 1, 1) := by decide +kernel
theorem dX7_clock_84 : decode cX7_clock 84 = .ok (.iaload, 1) := by decide +kernel
theorem dX7_clock_85 : decode cX7_clock 85 = .ok (.ldc 152, 2) := by decide +kernel
theorem dX7_clock_87 : decode cX7_clock 87 = .ok (.iadd, 1) := by decide +kernel
theorem dX7_clock_88 : decode cX7_clock 88 = .ok (.ireturn, 1) := by decide +kernel
theorem dX7_clock_89 : decode cX7_clock 89 = .ok (.aload_n 0, 1) := by decide +kernel
theorem dX7_clock_90 : decode cX7_clock 90 = .ok (.getfield 10, 3) := by decide +kernel
theorem dX7_clock_93 : decode cX7_clock 93 = .ok (.iload_n 1, 1) := by decide +kernel
theorem dX7_clock_94 : decode cX7_clock 94 = .ok (.invokevirtual 153, 3) := by decide +kernel
theorem dX7_clock_97 : decode cX7_clock 97 = .ok (.ldc 152, 2) := by decide +kernel
theorem dX7_clock_99 : decode cX7_clock 99 = .ok (.iadd, 1) := by decide +kernel
theorem dX7_clock_100 : decode cX7_clock 100 = .ok (.ireturn, 1) := by decide +kernel
theorem dX7_clock_101 : decode cX7_clock 101 = .ok (.aload_n 0, 1) := by decide +kernel
theorem dX7_clock_102 : decode cX7_clock 102 = .ok (.getfield 10, 3) := by decide +kernel
theorem dX7_clock_105 : decode cX7_clock 105 = .ok (.iload_n 1, 1) := by decide +kernel
theorem dX7_clock_106 : decode cX7_clock 106 = .ok (.invokevirtual 156, 3) := by decide +kernel
theorem dX7_clock_109 : decode cX7_clock 109 = .ok (.ifCond .eq 7, 3) := by decide +kernel
theorem dX7_clock_112 : decode cX7_clock 112 = .ok (.iconst 1, 1) := by decide +kernel
theorem dX7_clock_113 : decode cX7_clock 113 = .ok (.goto 4, 3) := by decide +kernel
theorem dX7_clock_116 : decode cX7_clock 116 = .ok (.iconst 0, 1) := by decide +kernel
theorem dX7_clock_117 : decode cX7_clock 117 = .ok (.ireturn, 1) := by decide +kernel
theorem dX7_clock_118 : decode cX7_clock 118 = .ok (.aload_n 0, 1) := by decide +kernel
theorem dX7_clock_119 : decode cX7_clock 119 = .ok (.getfield 10, 3) := by decide +kernel
theorem dX7_clock_122 : decode cX7_clock 122 = .ok (.iload_n 1, 1) := by decide +kernel
theorem dX7_clock_123 : decode cX7_clock 123 = .ok (.invokevirtual 159, 3) := by decide +kernel
theorem dX7_clock_126 : decode cX7_clock 126 = .ok (.ifCond .eq 7, 3) := by decide +kernel
theorem dX7_clock_129 : decode cX7_clock 129 = .ok (.iconst 1, 1) := by decide +kernel
theorem dX7_clock_130 : decode cX7_clock 130 = .ok (.goto 4, 3) := by decide +kernel
theorem dX7_clock_133 : decode cX7_clock 133 = .ok (.iconst 0, 1) := by decide +kernel
theorem dX7_clock_134 : decode cX7_clock 134 = .ok (.ireturn, 1) := by decide +kernel
theorem dX7_clock_135 : decode cX7_clock 135 = .ok (.aload_n 0, 1) := by decide +kernel
theorem dX7_clock_136 : decode cX7_clock 136 = .ok (.getfield 10, 3) := by decide +kernel
theorem dX7_clock_139 : decode cX7_clock 139 = .ok (.iload_n 1, 1) := by decide +kernel
theorem dX7_clock_140 : decode cX7_clock 140 = .ok (.invokevirtual 162, 3) := by decide +kernel
theorem dX7_clock_143 : decode cX7_clock 143 = .ok (.ifCond .eq 31, 3) := by decide +kernel
theorem dX7_clock_146 : decode cX7_clock 146 = .ok (.aload_n 0, 1) := by decide +kernel
theorem dX7_clock_147 : decode cX7_clock 147 = .ok (.getfield 10, 3) := by decide +kernel
theorem dX7_clock_150 : decode cX7_clock 150 = .ok (.invokevirtual 165, 3) := by decide +kernel
theorem dX7_clock_153 : decode cX7_clock 153 = .ok (.ifCond .ne 21, 3) := by decide +kernel
theorem dX7_clock_156 : decode cX7_clock 156 = .ok (.aload_n 0, 1) := by decide +kernel
theorem dX7_clock_157 : decode cX7_clock 157 = .ok (.getfield 29, 3) := by decide +kernel
theorem dX7_clock_160 : decode cX7_clock 160 = .ok (.aload_n 0, 1) := by decide +kernel
theorem dX7_clock_161 : decode cX7_clock 161 = .ok (.getfield 10, 3) := by decide +kernel
theorem dX7_clock_164 : decode cX7_clock 164 = .ok (.iload_n 1, 1) := by decide +kernel
theorem dX7_clock_165 : decode cX7_clock 165 = .ok (.invokevirtual 169, 3) := by decide +kernel
theorem dX7_clock_168 : decode cX7_clock 168 = .ok (.ldc 152, 2) := by decide +kernel
theorem dX7_clock_170 : decode cX7_clock 170 = .ok (.iadd, 1) := by decide +kernel
theorem dX7_clock_171 : decode cX7_clock 171 = .ok (.goto 4, 3) := by decide +kernel
theorem dX7_clock_174 : decode cX7_clock 174 = .ok (.iconst (-1), 1) := by decide +kernel
theorem dX7_clock_175 : decode cX7_clock 175 = .ok (.ireturn, 1) := by decide +kernel
theorem dX7_clock_176 : decode cX7_clock 176 = .ok (.ldc 70, 2) := by decide +kernel
theorem dX7_clock_178 : decode cX7_clock 178 = .ok (.ireturn, 1) := by decide +kernel
end
section
theorem dX7_heard_0 : decode cX7_heard 0 = .ok (.aload_n 0, 1) := by decide +kernel
theorem dX7_heard_1 : decode cX7_heard 1 = .ok (.getfield 10, 3) := by decide +kernel
theorem dX7_heard_4 : decode cX7_heard 4 = .ok (.iload_n 1, 1) := by decide +kernel
theorem dX7_heard_5 : decode cX7_heard 5 = .ok (.iload_n 2, 1) := by decide +kernel
theorem dX7_heard_6 : decode cX7_heard 6 = .ok (.invokevirtual 173, 3) := by decide +kernel
theorem dX7_heard_9 : decode cX7_heard 9 = .ok (.ifCond .ne 6, 3) := by decide +kernel
theorem dX7_heard_12 : decode cX7_heard 12 = .ok (.ldc 142, 2) := by decide +kernel
theorem dX7_heard_14 : decode cX7_heard 14 = .ok (.ireturn, 1) := by decide +kernel
theorem dX7_heard_15 : decode cX7_heard 15 = .ok (.iload_n 3, 1) := by decide +kernel
theorem dX7_heard_16 : decode cX7_heard 16 = .ok (.tableswitch 138 0 4 #[36, 49, 66, 84, 94], 36) := by decide +kernel
theorem dX7_heard_52 : decode cX7_heard 52 = .ok (.aload_n 0, 1) := by decide +kernel
theorem dX7_heard_53 : decode cX7_heard 53 = .ok (.getfield 10, 3) := by decide +kernel
theorem dX7_heard_56 : decode cX7_heard 56 = .ok (.iload_n 1, 1) := by decide +kernel
theorem dX7_heard_57 : decode cX7_heard 57 = .ok (.iload_n 2, 1) := by decide +kernel
theorem dX7_heard_58 : decode cX7_heard 58 = .ok (.invokevirtual 177, 3) := by decide +kernel
theorem dX7_heard_61 : decode cX7_heard 61 = .ok (.ldc 152, 2) := by decide +kernel
theorem dX7_heard_63 : decode cX7_heard 63 = .ok (.iadd, 1) := by decide +kernel
theorem dX7_heard_64 : decode cX7_heard 64 = .ok (.ireturn, 1) := by decide +kernel
theorem dX7_heard_65 : decode cX7_heard 65 = .ok (.aload_n 0, 1) := by decide +kernel
theorem dX7_heard_66 : decode cX7_heard 66 = .ok (.getfield 10, 3) := by decide +kernel
theorem dX7_heard_69 : decode cX7_heard 69 = .ok (.getfield 181, 3) := by decide +kernel
theorem dX7_heard_72 : decode cX7_heard 72 = .ok (.iload_n 1, 1) := by decide +kernel
theorem dX7_heard_73 : decode cX7_heard 73 = .ok (.iload_n 2, 1) := by decide +kernel
theorem dX7_heard_74 : decode cX7_heard 74 = .ok (.invokestatic 184, 3) := by decide +kernel
theorem dX7_heard_77 : decode cX7_heard 77 = .ok (.iaload, 1) := by decide +kernel
theorem dX7_heard_78 : decode cX7_heard 78 = .ok (.bipush 20, 2) := by decide +kernel
theorem dX7_heard_80 : decode cX7_heard 80 = .ok (.iadd, 1) := by decide +kernel
theorem dX7_heard_81 : decode cX7_heard 81 = .ok (.ireturn, 1) := by decide +kernel
theorem dX7_heard_82 : decode cX7_heard 82 = .ok (.aload_n 0, 1) := by decide +kernel
theorem dX7_heard_83 : decode cX7_heard 83 = .ok (.getfield 10, 3) := by decide +kernel
theorem dX7_heard_86 : decode cX7_heard 86 = .ok (.getfield 187, 3) := by decide +kernel
theorem dX7_heard_89 : decode cX7_heard 89 = .ok (.iload_n 1, 1) := by decide +kernel
theorem dX7_heard_90 : decode cX7_heard 90 = .ok (.iload_n 2, 1) := by decide +kernel
theorem dX7_heard_91 : decode cX7_heard 91 = .ok (.invokestatic 184, 3) := by decide +kernel
theorem dX7_heard_94 : decode cX7_heard 94 = .ok (.iaload, 1) := by decide +kernel
theorem dX7_heard_95 : decode cX7_heard 95 = .ok (.sipush 9999, 3) := by decide +kernel
theorem dX7_heard_98 : decode cX7_heard 98 = .ok (.iadd, 1) := by decide +kernel
theorem dX7_heard_99 : decode cX7_heard 99 = .ok (.ireturn, 1) := by decide +kernel
theorem dX7_heard_100 : decode cX7_heard 100 = .ok (.aload_n 0, 1) := by decide +kernel
theorem dX7_heard_101 : decode cX7_heard 101 = .ok (.getfield 10, 3) := by decide +kernel
theorem dX7_heard_104 : decode cX7_heard 104 = .ok (.iload_n 1, 1) := by decide +kernel
theorem dX7_heard_105 : decode cX7_heard 105 = .ok (.iload_n 2, 1) := by decide +kernel
theorem dX7_heard_106 : decode cX7_heard 106 = .ok (.invokevirtual 190, 3) := by decide +kernel
theorem dX7_heard_109 : decode cX7_heard 109 = .ok (.ireturn, 1) := by decide +kernel
theorem dX7_heard_110 : decode cX7_heard 110 = .ok (.aload_n 0, 1) := by decide +kernel
theorem dX7_heard_111 : decode cX7_heard 111 = .ok (.getfield 10, 3) := by decide +kernel
theorem dX7_heard_114 : decode cX7_heard 114 = .ok (.iload_n 2, 1) := by decide +kernel
theorem dX7_heard_115 : decode cX7_heard 115 = .ok (.invokevirtual 162, 3) := by decide +kernel
theorem dX7_heard_118 : decode cX7_heard 118 = .ok (.ifCond .eq 34, 3) := by decide +kernel
theorem dX7_heard_121 : decode cX7_heard 121 = .ok (.aload_n 0, 1) := by decide +kernel
theorem dX7_heard_122 : decode cX7_heard 122 = .ok (.getfield 10, 3) := by decide +kernel
theorem dX7_heard_125 : decode cX7_heard 125 = .ok (.iload_n 1, 1) := by decide +kernel
theorem dX7_heard_126 : decode cX7_heard 126 = .ok (.invokevirtual 193, 3) := by decide +kernel
theorem dX7_heard_129 : decode cX7_heard 129 = .ok (.ifCond .eq 23, 3) := by decide +kernel
theorem dX7_heard_132 : decode cX7_heard 132 = .ok (.aload_n 0, 1) := by decide +kernel
theorem dX7_heard_133 : decode cX7_heard 133 = .ok (.getfield 29, 3) := by decide +kernel
theorem dX7_heard_136 : decode cX7_heard 136 = .ok (.aload_n 0, 1) := by decide +kernel
theorem dX7_heard_137 : decode cX7_heard 137 = .ok (.getfield 10, 3) := by decide +kernel
theorem dX7_heard_140 : decode cX7_heard 140 = .ok (.iload_n 1, 1) := by decide +kernel
theorem dX7_heard_141 : decode cX7_heard 141 = .ok (.iload_n 2, 1) := by decide +kernel
theorem dX7_heard_142 : decode cX7_heard 142 = .ok (.invokevirtual 196, 3) := by decide +kernel
theorem dX7_heard_145 : decode cX7_heard 145 = .ok (.sipush 9999, 3) := by decide +kernel
theorem dX7_heard_148 : decode cX7_heard 148 = .ok (.iadd, 1) := by decide +kernel
theorem dX7_heard_149 : decode cX7_heard 149 = .ok (.goto 4, 3) := by decide +kernel
theorem dX7_heard_152 : decode cX7_heard 152 = .ok (.iconst (-1), 1) := by decide +kernel
theorem dX7_heard_153 : decode cX7_heard 153 = .ok (.ireturn, 1) := by decide +kernel
theorem dX7_heard_154 : decode cX7_heard 154 = .ok (.ldc 70, 2) := by decide +kernel
theorem dX7_heard_156 : decode cX7_heard 156 = .ok (.ireturn, 1) := by decide +kernel
theorem dX7_alarmAt_0 : decode cX7_alarmAt 0 = .ok (.iload_n 1, 1) := by decide +kernel
theorem dX7_alarmAt_1 : decode cX7_alarmAt 1 = .ok (.iconst 0, 1) := by decide +kernel
theorem dX7_alarmAt_2 : decode cX7_alarmAt 2 = .ok (.aload_n 0, 1) := by decide +kernel
theorem dX7_alarmAt_3 : decode cX7_alarmAt 3 = .ok (.getfield 10, 3) := by decide +kernel
theorem dX7_alarmAt_6 : decode cX7_alarmAt 6 = .ok (.getfield 125, 3) := by decide +kernel
theorem dX7_alarmAt_9 : decode cX7_alarmAt 9 = .ok (.iconst 1, 1) := by decide +kernel
theorem dX7_alarmAt_10 : decode cX7_alarmAt 10 = .ok (.isub, 1) := by decide +kernel
theorem dX7_alarmAt_11 : decode cX7_alarmAt 11 = .ok (.invokestatic 66, 3) := by decide +kernel
theorem dX7_alarmAt_14 : decode cX7_alarmAt 14 = .ok (.ifCond .ne 6, 3) := by decide +kernel
theorem dX7_alarmAt_17 : decode cX7_alarmAt 17 = .ok (.ldc 142, 2) := by decide +kernel
theorem dX7_alarmAt_19 : decode cX7_alarmAt 19 = .ok (.ireturn, 1) := by decide +kernel
theorem dX7_alarmAt_20 : decode cX7_alarmAt 20 = .ok (.iload_n 2, 1) := by decide +kernel
theorem dX7_alarmAt_21 : decode cX7_alarmAt 21 = .ok (.tableswitch 59 0 2 #[27, 37, 47], 27) := by decide +kernel
theorem dX7_alarmAt_48 : decode cX7_alarmAt 48 = .ok (.aload_n 0, 1) := by decide +kernel
theorem dX7_alarmAt_49 : decode cX7_alarmAt 49 = .ok (.getfield 10, 3) := by decide +kernel
theorem dX7_alarmAt_52 : decode cX7_alarmAt 52 = .ok (.getfield 200, 3) := by decide +kernel
theorem dX7_alarmAt_55 : decode cX7_alarmAt 55 = .ok (.iload_n 1, 1) := by decide +kernel
theorem dX7_alarmAt_56 : decode cX7_alarmAt 56 = .ok (.iaload, 1) := by decide +kernel
theorem dX7_alarmAt_57 : decode cX7_alarmAt 57 = .ok (.ireturn, 1) := by decide +kernel
theorem dX7_alarmAt_58 : decode cX7_alarmAt 58 = .ok (.aload_n 0, 1) := by decide +kernel
theorem dX7_alarmAt_59 : decode cX7_alarmAt 59 = .ok (.getfield 10, 3) := by decide +kernel
theorem dX7_alarmAt_62 : decode cX7_alarmAt 62 = .ok (.getfield 203, 3) := by decide +kernel
theorem dX7_alarmAt_65 : decode cX7_alarmAt 65 = .ok (.iload_n 1, 1) := by decide +kernel
theorem dX7_alarmAt_66 : decode cX7_alarmAt 66 = .ok (.iaload, 1) := by decide +kernel
theorem dX7_alarmAt_67 : decode cX7_alarmAt 67 = .ok (.ireturn, 1) := by decide +kernel
theorem dX7_alarmAt_68 : decode cX7_alarmAt 68 = .ok (.aload_n 0, 1) := by decide +kernel
theorem dX7_alarmAt_69 : decode cX7_alarmAt 69 = .ok (.getfield 10, 3) := by decide +kernel
theorem dX7_alarmAt_72 : decode cX7_alarmAt 72 = .ok (.getfield 128, 3) := by decide +kernel
theorem dX7_alarmAt_75 : decode cX7_alarmAt 75 = .ok (.iload_n 1, 1) := by decide +kernel
theorem dX7_alarmAt_76 : decode cX7_alarmAt 76 = .ok (.ishr, 1) := by decide +kernel
theorem dX7_alarmAt_77 : decode cX7_alarmAt 77 = .ok (.iconst 1, 1) := by decide +kernel
theorem dX7_alarmAt_78 : decode cX7_alarmAt 78 = .ok (.iand, 1) := by decide +kernel
theorem dX7_alarmAt_79 : decode cX7_alarmAt 79 = .ok (.ireturn, 1) := by decide +kernel
theorem dX7_alarmAt_80 : decode cX7_alarmAt 80 = .ok (.ldc 70, 2) := by decide +kernel
theorem dX7_alarmAt_82 : decode cX7_alarmAt 82 = .ok (.ireturn, 1) := by decide +kernel
theorem dX7_tick_0 : decode cX7_tick 0 = .ok (.iload_n 1, 1) := by decide +kernel
theorem dX7_tick_1 : decode cX7_tick 1 = .ok (.iconst 1, 1) := by decide +kernel
theorem dX7_tick_2 : decode cX7_tick 2 = .ok (.bipush 20, 2) := by decide +kernel
theorem dX7_tick_4 : decode cX7_tick 4 = .ok (.invokestatic 66, 3) := by decide +kernel
theorem dX7_tick_7 : decode cX7_tick 7 = .ok (.ifCond .ne 6, 3) := by decide +kernel
theorem dX7_tick_10 : decode cX7_tick 10 = .ok (.ldc 70, 2) := by decide +kernel
theorem dX7_tick_12 : decode cX7_tick 12 = .ok (.ireturn, 1) := by decide +kernel
theorem dX7_tick_13 : decode cX7_tick 13 = .ok (.aload_n 0, 1) := by decide +kernel
theorem dX7_tick_14 : decode cX7_tick 14 = .ok (.getfield 36, 3) := by decide +kernel
theorem dX7_tick_17 : decode cX7_tick 17 = .ok (.aload_n 0, 1) := by decide +kernel
theorem dX7_tick_18 : decode cX7_tick 18 = .ok (.getfield 10, 3) := by decide +kernel
theorem dX7_tick_21 : decode cX7_tick 21 = .ok (.invokevirtual 206, 3) := by decide +kernel
theorem dX7_tick_24 : decode cX7_tick 24 = .ok (.iconst 0, 1) := by decide +kernel
theorem dX7_tick_25 : decode cX7_tick 25 = .ok (.istore_n 2, 1) := by decide +kernel
theorem dX7_tick_26 : decode cX7_tick 26 = .ok (.iconst 0, 1) := by decide +kernel
theorem dX7_tick_27 : decode cX7_tick 27 = .ok (.istore_n 3, 1) := by decide +kernel
theorem dX7_tick_28 : decode cX7_tick 28 = .ok (.iload_n 3, 1) := by decide +kernel
theorem dX7_tick_29 : decode cX7_tick 29 = .ok (.iload_n 1, 1) := by decide +kernel
theorem dX7_tick_30 : decode cX7_tick 30 = .ok (.if_icmp .ge 19, 3) := by decide +kernel
theorem dX7_tick_33 : decode cX7_tick 33 = .ok (.iload_n 2, 1) := by decide +kernel
theorem dX7_tick_34 : decode cX7_tick 34 = .ok (.aload_n 0, 1) := by decide +kernel
theorem dX7_tick_35 : decode cX7_tick 35 = .ok (.getfield 10, 3) := by decide +kernel
theorem dX7_tick_38 : decode cX7_tick 38 = .ok (.invokevirtual 209, 3) := by decide +kernel
theorem dX7_tick_41 : decode cX7_tick 41 = .ok (.ior, 1) := by decide +kernel
theorem dX7_tick_42 : decode cX7_tick 42 = .ok (.istore_n 2, 1) := by decide +kernel
theorem dX7_tick_43 : decode cX7_tick 43 = .ok (.iinc 3 1, 3) := by decide +kernel
theorem dX7_tick_46 : decode cX7_tick 46 = .ok (.goto (-18), 3) := by decide +kernel
theorem dX7_tick_49 : decode cX7_tick 49 = .ok (.iload_n 2, 1) := by decide +kernel
theorem dX7_tick_50 : decode cX7_tick 50 = .ok (.ireturn, 1) := by decide +kernel
theorem dX7_round_0 : decode cX7_round 0 = .ok (.aload_n 0, 1) := by decide +kernel
theorem dX7_round_1 : decode cX7_round 1 = .ok (.getfield 36, 3) := by decide +kernel
theorem dX7_round_4 : decode cX7_round 4 = .ok (.aload_n 0, 1) := by decide +kernel
theorem dX7_round_5 : decode cX7_round 5 = .ok (.getfield 10, 3) := by decide +kernel
theorem dX7_round_8 : decode cX7_round 8 = .ok (.invokevirtual 206, 3) := by decide +kernel
theorem dX7_round_11 : decode cX7_round 11 = .ok (.aload_n 0, 1) := by decide +kernel
theorem dX7_round_12 : decode cX7_round 12 = .ok (.getfield 29, 3) := by decide +kernel
theorem dX7_round_15 : decode cX7_round 15 = .ok (.aload_n 0, 1) := by decide +kernel
theorem dX7_round_16 : decode cX7_round 16 = .ok (.getfield 10, 3) := by decide +kernel
theorem dX7_round_19 : decode cX7_round 19 = .ok (.invokevirtual 212, 3) := by decide +kernel
theorem dX7_round_22 : decode cX7_round 22 = .ok (.aload_n 0, 1) := by decide +kernel
theorem dX7_round_23 : decode cX7_round 23 = .ok (.getfield 10, 3) := by decide +kernel
theorem dX7_round_26 : decode cX7_round 26 = .ok (.invokevirtual 116, 3) := by decide +kernel
theorem dX7_round_29 : decode cX7_round 29 = .ok (.ireturn, 1) := by decide +kernel
theorem dX7_lie_0 : decode cX7_lie 0 = .ok (.aload_n 0, 1) := by decide +kernel
theorem dX7_lie_1 : decode cX7_lie 1 = .ok (.getfield 10, 3) := by decide +kernel
theorem dX7_lie_4 : decode cX7_lie 4 = .ok (.iload_n 1, 1) := by decide +kernel
theorem dX7_lie_5 : decode cX7_lie 5 = .ok (.iload_n 2, 1) := by decide +kernel
theorem dX7_lie_6 : decode cX7_lie 6 = .ok (.invokevirtual 173, 3) := by decide +kernel
theorem dX7_lie_9 : decode cX7_lie 9 = .ok (.ifCond .ne 6, 3) := by decide +kernel
theorem dX7_lie_12 : decode cX7_lie 12 = .ok (.ldc 142, 2) := by decide +kernel
theorem dX7_lie_14 : decode cX7_lie 14 = .ok (.ireturn, 1) := by decide +kernel
theorem dX7_lie_15 : decode cX7_lie 15 = .ok (.iload_n 3, 1) := by decide +kernel
theorem dX7_lie_16 : decode cX7_lie 16 = .ok (.sipush (-9999), 3) := by decide +kernel
theorem dX7_lie_19 : decode cX7_lie 19 = .ok (.sipush 9999, 3) := by decide +kernel
theorem dX7_lie_22 : decode cX7_lie 22 = .ok (.invokestatic 66, 3) := by decide +kernel
theorem dX7_lie_25 : decode cX7_lie 25 = .ok (.ifCond .ne 6, 3) := by decide +kernel
theorem dX7_lie_28 : decode cX7_lie 28 = .ok (.ldc 70, 2) := by decide +kernel
theorem dX7_lie_30 : decode cX7_lie 30 = .ok (.ireturn, 1) := by decide +kernel
theorem dX7_lie_31 : decode cX7_lie 31 = .ok (.aload_n 0, 1) := by decide +kernel
theorem dX7_lie_32 : decode cX7_lie 32 = .ok (.getfield 36, 3) := by decide +kernel
theorem dX7_lie_35 : decode cX7_lie 35 = .ok (.aload_n 0, 1) := by decide +kernel
theorem dX7_lie_36 : decode cX7_lie 36 = .ok (.getfield 10, 3) := by decide +kernel
theorem dX7_lie_39 : decode cX7_lie 39 = .ok (.invokevirtual 206, 3) := by decide +kernel
theorem dX7_lie_42 : decode cX7_lie 42 = .ok (.aload_n 0, 1) := by decide +kernel
theorem dX7_lie_43 : decode cX7_lie 43 = .ok (.getfield 10, 3) := by decide +kernel
theorem dX7_lie_46 : decode cX7_lie 46 = .ok (.getfield 187, 3) := by decide +kernel
theorem dX7_lie_49 : decode cX7_lie 49 = .ok (.iload_n 1, 1) := by decide +kernel
theorem dX7_lie_50 : decode cX7_lie 50 = .ok (.iload_n 2, 1) := by decide +kernel
theorem dX7_lie_51 : decode cX7_lie 51 = .ok (.invokestatic 184, 3) := by decide +kernel
theorem dX7_lie_54 : decode cX7_lie 54 = .ok (.iaload, 1) := by decide +kernel
theorem dX7_lie_55 : decode cX7_lie 55 = .ok (.istore 4, 2) := by decide +kernel
theorem dX7_lie_57 : decode cX7_lie 57 = .ok (.aload_n 0, 1) := by decide +kernel
theorem dX7_lie_58 : decode cX7_lie 58 = .ok (.getfield 10, 3) := by decide +kernel
theorem dX7_lie_61 : decode cX7_lie 61 = .ok (.getfield 187, 3) := by decide +kernel
theorem dX7_lie_64 : decode cX7_lie 64 = .ok (.iload_n 1, 1) := by decide +kernel
theorem dX7_lie_65 : decode cX7_lie 65 = .ok (.iload_n 2, 1) := by decide +kernel
theorem dX7_lie_66 : decode cX7_lie 66 = .ok (.invokestatic 184, 3) := by decide +kernel
theorem dX7_lie_69 : decode cX7_lie 69 = .ok (.iload_n 3, 1) := by decide +kernel
theorem dX7_lie_70 : decode cX7_lie 70 = .ok (.iastore, 1) := by decide +kernel
theorem dX7_lie_71 : decode cX7_lie 71 = .ok (.iload 4, 2) := by decide +kernel
theorem dX7_lie_73 : decode cX7_lie 73 = .ok (.sipush 9999, 3) := by decide +kernel
theorem dX7_lie_76 : decode cX7_lie 76 = .ok (.iadd, 1) := by decide +kernel
theorem dX7_lie_77 : decode cX7_lie 77 = .ok (.ireturn, 1) := by decide +kernel
theorem dX7_error_0 : decode cX7_error 0 = .ok (.aload_n 0, 1) := by decide +kernel
theorem dX7_error_1 : decode cX7_error 1 = .ok (.getfield 10, 3) := by decide +kernel
theorem dX7_error_4 : decode cX7_error 4 = .ok (.iload_n 1, 1) := by decide +kernel
theorem dX7_error_5 : decode cX7_error 5 = .ok (.iload_n 2, 1) := by decide +kernel
theorem dX7_error_6 : decode cX7_error 6 = .ok (.invokevirtual 173, 3) := by decide +kernel
theorem dX7_error_9 : decode cX7_error 9 = .ok (.ifCond .ne 6, 3) := by decide +kernel
theorem dX7_error_12 : decode cX7_error 12 = .ok (.ldc 142, 2) := by decide +kernel
theorem dX7_error_14 : decode cX7_error 14 = .ok (.ireturn, 1) := by decide +kernel
theorem dX7_error_15 : decode cX7_error 15 = .ok (.iload_n 3, 1) := by decide +kernel
theorem dX7_error_16 : decode cX7_error 16 = .ok (.bipush (-20), 2) := by decide +kernel
theorem dX7_error_18 : decode cX7_error 18 = .ok (.bipush 20, 2) := by decide +kernel
theorem dX7_error_20 : decode cX7_error 20 = .ok (.invokestatic 66, 3) := by decide +kernel
theorem dX7_error_23 : decode cX7_error 23 = .ok (.ifCond .ne 6, 3) := by decide +kernel
theorem dX7_error_26 : decode cX7_error 26 = .ok (.ldc 70, 2) := by decide +kernel
theorem dX7_error_28 : decode cX7_error 28 = .ok (.ireturn, 1) := by decide +kernel
theorem dX7_error_29 : decode cX7_error 29 = .ok (.aload_n 0, 1) := by decide +kernel
theorem dX7_error_30 : decode cX7_error 30 = .ok (.getfield 36, 3) := by decide +kernel
theorem dX7_error_33 : decode cX7_error 33 = .ok (.aload_n 0, 1) := by decide +kernel
theorem dX7_error_34 : decode cX7_error 34 = .ok (.getfield 10, 3) := by decide +kernel
theorem dX7_error_37 : decode cX7_error 37 = .ok (.invokevirtual 206, 3) := by decide +kernel
theorem dX7_error_40 : decode cX7_error 40 = .ok (.aload_n 0, 1) := by decide +kernel
theorem dX7_error_41 : decode cX7_error 41 = .ok (.getfield 10, 3) := by decide +kernel
theorem dX7_error_44 : decode cX7_error 44 = .ok (.getfield 181, 3) := by decide +kernel
theorem dX7_error_47 : decode cX7_error 47 = .ok (.iload_n 1, 1) := by decide +kernel
theorem dX7_error_48 : decode cX7_error 48 = .ok (.iload_n 2, 1) := by decide +kernel
theorem dX7_error_49 : decode cX7_error 49 = .ok (.invokestatic 184, 3) := by decide +kernel
theorem dX7_error_52 : decode cX7_error 52 = .ok (.iaload, 1) := by decide +kernel
theorem dX7_error_53 : decode cX7_error 53 = .ok (.istore 4, 2) := by decide +kernel
theorem dX7_error_55 : decode cX7_error 55 = .ok (.aload_n 0, 1) := by decide +kernel
theorem dX7_error_56 : decode cX7_error 56 = .ok (.getfield 10, 3) := by decide +kernel
theorem dX7_error_59 : decode cX7_error 59 = .ok (.getfield 181, 3) := by decide +kernel
theorem dX7_error_62 : decode cX7_error 62 = .ok (.iload_n 1, 1) := by decide +kernel
theorem dX7_error_63 : decode cX7_error 63 = .ok (.iload_n 2, 1) := by decide +kernel
theorem dX7_error_64 : decode cX7_error 64 = .ok (.invokestatic 184, 3) := by decide +kernel
theorem dX7_error_67 : decode cX7_error 67 = .ok (.iload_n 3, 1) := by decide +kernel
theorem dX7_error_68 : decode cX7_error 68 = .ok (.iastore, 1) := by decide +kernel
theorem dX7_error_69 : decode cX7_error 69 = .ok (.iload 4, 2) := by decide +kernel
theorem dX7_error_71 : decode cX7_error 71 = .ok (.bipush 20, 2) := by decide +kernel
theorem dX7_error_73 : decode cX7_error 73 = .ok (.iadd, 1) := by decide +kernel
theorem dX7_error_74 : decode cX7_error 74 = .ok (.ireturn, 1) := by decide +kernel
theorem dX7_liar_0 : decode cX7_liar 0 = .ok (.aload_n 0, 1) := by decide +kernel
theorem dX7_liar_1 : decode cX7_liar 1 = .ok (.getfield 10, 3) := by decide +kernel
theorem dX7_liar_4 : decode cX7_liar 4 = .ok (.iload_n 1, 1) := by decide +kernel
theorem dX7_liar_5 : decode cX7_liar 5 = .ok (.invokevirtual 138, 3) := by decide +kernel
theorem dX7_liar_8 : decode cX7_liar 8 = .ok (.ifCond .ne 6, 3) := by decide +kernel
theorem dX7_liar_11 : decode cX7_liar 11 = .ok (.ldc 142, 2) := by decide +kernel
theorem dX7_liar_13 : decode cX7_liar 13 = .ok (.ireturn, 1) := by decide +kernel
theorem dX7_liar_14 : decode cX7_liar 14 = .ok (.aload_n 0, 1) := by decide +kernel
theorem dX7_liar_15 : decode cX7_liar 15 = .ok (.getfield 36, 3) := by decide +kernel
theorem dX7_liar_18 : decode cX7_liar 18 = .ok (.aload_n 0, 1) := by decide +kernel
theorem dX7_liar_19 : decode cX7_liar 19 = .ok (.getfield 10, 3) := by decide +kernel
theorem dX7_liar_22 : decode cX7_liar 22 = .ok (.invokevirtual 206, 3) := by decide +kernel
theorem dX7_liar_25 : decode cX7_liar 25 = .ok (.aload_n 0, 1) := by decide +kernel
theorem dX7_liar_26 : decode cX7_liar 26 = .ok (.getfield 10, 3) := by decide +kernel
theorem dX7_liar_29 : decode cX7_liar 29 = .ok (.iload_n 2, 1) := by decide +kernel
theorem dX7_liar_30 : decode cX7_liar 30 = .ok (.ifCond .eq 17, 3) := by decide +kernel
theorem dX7_liar_33 : decode cX7_liar 33 = .ok (.aload_n 0, 1) := by decide +kernel
theorem dX7_liar_34 : decode cX7_liar 34 = .ok (.getfield 10, 3) := by decide +kernel
theorem dX7_liar_37 : decode cX7_liar 37 = .ok (.getfield 106, 3) := by decide +kernel
theorem dX7_liar_40 : decode cX7_liar 40 = .ok (.iconst 1, 1) := by decide +kernel
theorem dX7_liar_41 : decode cX7_liar 41 = .ok (.iload_n 1, 1) := by decide +kernel
theorem dX7_liar_42 : decode cX7_liar 42 = .ok (.ishl, 1) := by decide +kernel
theorem dX7_liar_43 : decode cX7_liar 43 = .ok (.ior, 1) := by decide +kernel
theorem dX7_liar_44 : decode cX7_liar 44 = .ok (.goto 16, 3) := by decide +kernel
theorem dX7_liar_47 : decode cX7_liar 47 = .ok (.aload_n 0, 1) := by decide +kernel
theorem dX7_liar_48 : decode cX7_liar 48 = .ok (.getfield 10, 3) := by decide +kernel
theorem dX7_liar_51 : decode cX7_liar 51 = .ok (.getfield 106, 3) := by decide +kernel
theorem dX7_liar_54 : decode cX7_liar 54 = .ok (.iconst 1, 1) := by decide +kernel
theorem dX7_liar_55 : decode cX7_liar 55 = .ok (.iload_n 1, 1) := by decide +kernel
theorem dX7_liar_56 : decode cX7_liar 56 = .ok (.ishl, 1) := by decide +kernel
theorem dX7_liar_57 : decode cX7_liar 57 = .ok (.iconst (-1), 1) := by decide +kernel
theorem dX7_liar_58 : decode cX7_liar 58 = .ok (.ixor, 1) := by decide +kernel
theorem dX7_liar_59 : decode cX7_liar 59 = .ok (.iand, 1) := by decide +kernel
theorem dX7_liar_60 : decode cX7_liar 60 = .ok (.putfield 106, 3) := by decide +kernel
theorem dX7_liar_63 : decode cX7_liar 63 = .ok (.aload_n 0, 1) := by decide +kernel
theorem dX7_liar_64 : decode cX7_liar 64 = .ok (.getfield 10, 3) := by decide +kernel
theorem dX7_liar_67 : decode cX7_liar 67 = .ok (.getfield 106, 3) := by decide +kernel
theorem dX7_liar_70 : decode cX7_liar 70 = .ok (.invokestatic 215, 3) := by decide +kernel
theorem dX7_liar_73 : decode cX7_liar 73 = .ok (.ireturn, 1) := by decide +kernel
theorem dX7_stand_0 : decode cX7_stand 0 = .ok (.aload_n 0, 1) := by decide +kernel
theorem dX7_stand_1 : decode cX7_stand 1 = .ok (.getfield 10, 3) := by decide +kernel
theorem dX7_stand_4 : decode cX7_stand 4 = .ok (.iload_n 1, 1) := by decide +kernel
theorem dX7_stand_5 : decode cX7_stand 5 = .ok (.invokevirtual 138, 3) := by decide +kernel
theorem dX7_stand_8 : decode cX7_stand 8 = .ok (.ifCond .ne 6, 3) := by decide +kernel
theorem dX7_stand_11 : decode cX7_stand 11 = .ok (.ldc 142, 2) := by decide +kernel
theorem dX7_stand_13 : decode cX7_stand 13 = .ok (.ireturn, 1) := by decide +kernel
theorem dX7_stand_14 : decode cX7_stand 14 = .ok (.aload_n 0, 1) := by decide +kernel
theorem dX7_stand_15 : decode cX7_stand 15 = .ok (.getfield 10, 3) := by decide +kernel
theorem dX7_stand_18 : decode cX7_stand 18 = .ok (.iload_n 1, 1) := by decide +kernel
theorem dX7_stand_19 : decode cX7_stand 19 = .ok (.invokevirtual 159, 3) := by decide +kernel
theorem dX7_stand_22 : decode cX7_stand 22 = .ok (.ifCond .eq 6, 3) := by decide +kernel
theorem dX7_stand_25 : decode cX7_stand 25 = .ok (.ldc 220, 2) := by decide +kernel
theorem dX7_stand_27 : decode cX7_stand 27 = .ok (.ireturn, 1) := by decide +kernel
theorem dX7_stand_28 : decode cX7_stand 28 = .ok (.aload_n 0, 1) := by decide +kernel
theorem dX7_stand_29 : decode cX7_stand 29 = .ok (.getfield 36, 3) := by decide +kernel
theorem dX7_stand_32 : decode cX7_stand 32 = .ok (.aload_n 0, 1) := by decide +kernel
theorem dX7_stand_33 : decode cX7_stand 33 = .ok (.getfield 10, 3) := by decide +kernel
theorem dX7_stand_36 : decode cX7_stand 36 = .ok (.invokevirtual 206, 3) := by decide +kernel
theorem dX7_stand_39 : decode cX7_stand 39 = .ok (.aload_n 0, 1) := by decide +kernel
theorem dX7_stand_40 : decode cX7_stand 40 = .ok (.getfield 10, 3) := by decide +kernel
theorem dX7_stand_43 : decode cX7_stand 43 = .ok (.dup, 1) := by decide +kernel
theorem dX7_stand_44 : decode cX7_stand 44 = .ok (.getfield 109, 3) := by decide +kernel
theorem dX7_stand_47 : decode cX7_stand 47 = .ok (.iconst 1, 1) := by decide +kernel
theorem dX7_stand_48 : decode cX7_stand 48 = .ok (.iload_n 1, 1) := by decide +kernel
theorem dX7_stand_49 : decode cX7_stand 49 = .ok (.ishl, 1) := by decide +kernel
theorem dX7_stand_50 : decode cX7_stand 50 = .ok (.ior, 1) := by decide +kernel
theorem dX7_stand_51 : decode cX7_stand 51 = .ok (.putfield 109, 3) := by decide +kernel
theorem dX7_stand_54 : decode cX7_stand 54 = .ok (.aload_n 0, 1) := by decide +kernel
theorem dX7_stand_55 : decode cX7_stand 55 = .ok (.getfield 10, 3) := by decide +kernel
theorem dX7_stand_58 : decode cX7_stand 58 = .ok (.getfield 109, 3) := by decide +kernel
theorem dX7_stand_61 : decode cX7_stand 61 = .ok (.invokestatic 215, 3) := by decide +kernel
theorem dX7_stand_64 : decode cX7_stand 64 = .ok (.ireturn, 1) := by decide +kernel
theorem dX7_join_0 : decode cX7_join 0 = .ok (.aload_n 0, 1) := by decide +kernel
theorem dX7_join_1 : decode cX7_join 1 = .ok (.getfield 10, 3) := by decide +kernel
theorem dX7_join_4 : decode cX7_join 4 = .ok (.iload_n 1, 1) := by decide +kernel
theorem dX7_join_5 : decode cX7_join 5 = .ok (.invokevirtual 138, 3) := by decide +kernel
theorem dX7_join_8 : decode cX7_join 8 = .ok (.ifCond .ne 6, 3) := by decide +kernel
theorem dX7_join_11 : decode cX7_join 11 = .ok (.ldc 142, 2) := by decide +kernel
theorem dX7_join_13 : decode cX7_join 13 = .ok (.ireturn, 1) := by decide +kernel
theorem dX7_join_14 : decode cX7_join 14 = .ok (.aload_n 0, 1) := by decide +kernel
theorem dX7_join_15 : decode cX7_join 15 = .ok (.getfield 10, 3) := by decide +kernel
theorem dX7_join_18 : decode cX7_join 18 = .ok (.iload_n 1, 1) := by decide +kernel
theorem dX7_join_19 : decode cX7_join 19 = .ok (.invokevirtual 159, 3) := by decide +kernel
theorem dX7_join_22 : decode cX7_join 22 = .ok (.ifCond .eq 18, 3) := by decide +kernel
theorem dX7_join_25 : decode cX7_join 25 = .ok (.aload_n 0, 1) := by decide +kernel
theorem dX7_join_26 : decode cX7_join 26 = .ok (.getfield 29, 3) := by decide +kernel
theorem dX7_join_29 : decode cX7_join 29 = .ok (.aload_n 0, 1) := by decide +kernel
theorem dX7_join_30 : decode cX7_join 30 = .ok (.getfield 10, 3) := by decide +kernel
theorem dX7_join_33 : decode cX7_join 33 = .ok (.iload_n 1, 1) := by decide +kernel
theorem dX7_join_34 : decode cX7_join 34 = .ok (.invokevirtual 221, 3) := by decide +kernel
theorem dX7_join_37 : decode cX7_join 37 = .ok (.ifCond .ne 6, 3) := by decide +kernel
theorem dX7_join_40 : decode cX7_join 40 = .ok (.ldc 220, 2) := by decide +kernel
theorem dX7_join_42 : decode cX7_join 42 = .ok (.ireturn, 1) := by decide +kernel
theorem dX7_join_43 : decode cX7_join 43 = .ok (.aload_n 0, 1) := by decide +kernel
theorem dX7_join_44 : decode cX7_join 44 = .ok (.getfield 36, 3) := by decide +kernel
theorem dX7_join_47 : decode cX7_join 47 = .ok (.aload_n 0, 1) := by decide +kernel
theorem dX7_join_48 : decode cX7_join 48 = .ok (.getfield 10, 3) := by decide +kernel
theorem dX7_join_51 : decode cX7_join 51 = .ok (.invokevirtual 206, 3) := by decide +kernel
theorem dX7_join_54 : decode cX7_join 54 = .ok (.aload_n 0, 1) := by decide +kernel
theorem dX7_join_55 : decode cX7_join 55 = .ok (.getfield 29, 3) := by decide +kernel
theorem dX7_join_58 : decode cX7_join 58 = .ok (.aload_n 0, 1) := by decide +kernel
theorem dX7_join_59 : decode cX7_join 59 = .ok (.getfield 10, 3) := by decide +kernel
theorem dX7_join_62 : decode cX7_join 62 = .ok (.iload_n 1, 1) := by decide +kernel
theorem dX7_join_63 : decode cX7_join 63 = .ok (.invokevirtual 225, 3) := by decide +kernel
theorem dX7_join_66 : decode cX7_join 66 = .ok (.aload_n 0, 1) := by decide +kernel
theorem dX7_join_67 : decode cX7_join 67 = .ok (.getfield 10, 3) := by decide +kernel
theorem dX7_join_70 : decode cX7_join 70 = .ok (.getfield 143, 3) := by decide +kernel
theorem dX7_join_73 : decode cX7_join 73 = .ok (.iload_n 1, 1) := by decide +kernel
theorem dX7_join_74 : decode cX7_join 74 = .ok (.iaload, 1) := by decide +kernel
theorem dX7_join_75 : decode cX7_join 75 = .ok (.ireturn, 1) := by decide +kernel
theorem dX7_alarm_0 : decode cX7_alarm 0 = .ok (.aload_n 0, 1) := by decide +kernel
theorem dX7_alarm_1 : decode cX7_alarm 1 = .ok (.getfield 10, 3) := by decide +kernel
theorem dX7_alarm_4 : decode cX7_alarm 4 = .ok (.iload_n 1, 1) := by decide +kernel
theorem dX7_alarm_5 : decode cX7_alarm 5 = .ok (.invokevirtual 138, 3) := by decide +kernel
theorem dX7_alarm_8 : decode cX7_alarm 8 = .ok (.ifCond .ne 6, 3) := by decide +kernel
theorem dX7_alarm_11 : decode cX7_alarm 11 = .ok (.ldc 142, 2) := by decide +kernel
theorem dX7_alarm_13 : decode cX7_alarm 13 = .ok (.ireturn, 1) := by decide +kernel
theorem dX7_alarm_14 : decode cX7_alarm 14 = .ok (.iload_n 2, 1) := by decide +kernel
theorem dX7_alarm_15 : decode cX7_alarm 15 = .ok (.iconst 0, 1) := by decide +kernel
theorem dX7_alarm_16 : decode cX7_alarm 16 = .ok (.ldc 229, 2) := by decide +kernel
theorem dX7_alarm_18 : decode cX7_alarm 18 = .ok (.invokestatic 66, 3) := by decide +kernel
theorem dX7_alarm_21 : decode cX7_alarm 21 = .ok (.ifCond .ne 6, 3) := by decide +kernel
theorem dX7_alarm_24 : decode cX7_alarm 24 = .ok (.ldc 70, 2) := by decide +kernel
theorem dX7_alarm_26 : decode cX7_alarm 26 = .ok (.ireturn, 1) := by decide +kernel
theorem dX7_alarm_27 : decode cX7_alarm 27 = .ok (.aload_n 0, 1) := by decide +kernel
theorem dX7_alarm_28 : decode cX7_alarm 28 = .ok (.getfield 10, 3) := by decide +kernel
theorem dX7_alarm_31 : decode cX7_alarm 31 = .ok (.getfield 125, 3) := by decide +kernel
theorem dX7_alarm_34 : decode cX7_alarm 34 = .ok (.bipush 6, 2) := by decide +kernel
theorem dX7_alarm_36 : decode cX7_alarm 36 = .ok (.if_icmp .lt 6, 3) := by decide +kernel
theorem dX7_alarm_39 : decode cX7_alarm 39 = .ok (.ldc 75, 2) := by decide +kernel
theorem dX7_alarm_41 : decode cX7_alarm 41 = .ok (.ireturn, 1) := by decide +kernel
theorem dX7_alarm_42 : decode cX7_alarm 42 = .ok (.aload_n 0, 1) := by decide +kernel
theorem dX7_alarm_43 : decode cX7_alarm 43 = .ok (.getfield 36, 3) := by decide +kernel
theorem dX7_alarm_46 : decode cX7_alarm 46 = .ok (.aload_n 0, 1) := by decide +kernel
theorem dX7_alarm_47 : decode cX7_alarm 47 = .ok (.getfield 10, 3) := by decide +kernel
theorem dX7_alarm_50 : decode cX7_alarm 50 = .ok (.invokevirtual 206, 3) := by decide +kernel
theorem dX7_alarm_53 : decode cX7_alarm 53 = .ok (.aload_n 0, 1) := by decide +kernel
theorem dX7_alarm_54 : decode cX7_alarm 54 = .ok (.getfield 10, 3) := by decide +kernel
theorem dX7_alarm_57 : decode cX7_alarm 57 = .ok (.iload_n 1, 1) := by decide +kernel
theorem dX7_alarm_58 : decode cX7_alarm 58 = .ok (.iload_n 2, 1) := by decide +kernel
theorem dX7_alarm_59 : decode cX7_alarm 59 = .ok (.invokevirtual 230, 3) := by decide +kernel
theorem dX7_alarm_62 : decode cX7_alarm 62 = .ok (.ireturn, 1) := by decide +kernel
theorem dX7_drift_0 : decode cX7_drift 0 = .ok (.iload_n 1, 1) := by decide +kernel
theorem dX7_drift_1 : decode cX7_drift 1 = .ok (.iconst 1, 1) := by decide +kernel
theorem dX7_drift_2 : decode cX7_drift 2 = .ok (.bipush 16, 2) := by decide +kernel
theorem dX7_drift_4 : decode cX7_drift 4 = .ok (.invokestatic 66, 3) := by decide +kernel
theorem dX7_drift_7 : decode cX7_drift 7 = .ok (.ifCond .ne 6, 3) := by decide +kernel
theorem dX7_drift_10 : decode cX7_drift 10 = .ok (.ldc 70, 2) := by decide +kernel
theorem dX7_drift_12 : decode cX7_drift 12 = .ok (.ireturn, 1) := by decide +kernel
theorem dX7_drift_13 : decode cX7_drift 13 = .ok (.aload_n 0, 1) := by decide +kernel
theorem dX7_drift_14 : decode cX7_drift 14 = .ok (.getfield 10, 3) := by decide +kernel
theorem dX7_drift_17 : decode cX7_drift 17 = .ok (.getfield 94, 3) := by decide +kernel
theorem dX7_drift_20 : decode cX7_drift 20 = .ok (.ifCond .le 31, 3) := by decide +kernel
theorem dX7_drift_23 : decode cX7_drift 23 = .ok (.iconst 0, 1) := by decide +kernel
theorem dX7_drift_24 : decode cX7_drift 24 = .ok (.istore_n 2, 1) := by decide +kernel
theorem dX7_drift_25 : decode cX7_drift 25 = .ok (.iload_n 2, 1) := by decide +kernel
theorem dX7_drift_26 : decode cX7_drift 26 = .ok (.iload_n 1, 1) := by decide +kernel
theorem dX7_drift_27 : decode cX7_drift 27 = .ok (.if_icmp .ge 24, 3) := by decide +kernel
theorem dX7_drift_30 : decode cX7_drift 30 = .ok (.aload_n 0, 1) := by decide +kernel
theorem dX7_drift_31 : decode cX7_drift 31 = .ok (.getfield 36, 3) := by decide +kernel
theorem dX7_drift_34 : decode cX7_drift 34 = .ok (.aload_n 0, 1) := by decide +kernel
theorem dX7_drift_35 : decode cX7_drift 35 = .ok (.getfield 10, 3) := by decide +kernel
theorem dX7_drift_38 : decode cX7_drift 38 = .ok (.invokevirtual 206, 3) := by decide +kernel
theorem dX7_drift_41 : decode cX7_drift 41 = .ok (.aload_n 0, 1) := by decide +kernel
theorem dX7_drift_42 : decode cX7_drift 42 = .ok (.invokevirtual 233, 3) := by decide +kernel
theorem dX7_drift_45 : decode cX7_drift 45 = .ok (.iinc 2 1, 3) := by decide +kernel
theorem dX7_drift_48 : decode cX7_drift 48 = .ok (.goto (-23), 3) := by decide +kernel
theorem dX7_drift_51 : decode cX7_drift 51 = .ok (.aload_n 0, 1) := by decide +kernel
theorem dX7_drift_52 : decode cX7_drift 52 = .ok (.getfield 10, 3) := by decide +kernel
theorem dX7_drift_55 : decode cX7_drift 55 = .ok (.invokevirtual 116, 3) := by decide +kernel
theorem dX7_drift_58 : decode cX7_drift 58 = .ok (.ireturn, 1) := by decide +kernel
theorem dX7_undo_0 : decode cX7_undo 0 = .ok (.iload_n 1, 1) := by decide +kernel
theorem dX7_undo_1 : decode cX7_undo 1 = .ok (.iconst 1, 1) := by decide +kernel
theorem dX7_undo_2 : decode cX7_undo 2 = .ok (.bipush 16, 2) := by decide +kernel
theorem dX7_undo_4 : decode cX7_undo 4 = .ok (.invokestatic 66, 3) := by decide +kernel
theorem dX7_undo_7 : decode cX7_undo 7 = .ok (.ifCond .ne 6, 3) := by decide +kernel
theorem dX7_undo_10 : decode cX7_undo 10 = .ok (.ldc 70, 2) := by decide +kernel
theorem dX7_undo_12 : decode cX7_undo 12 = .ok (.ireturn, 1) := by decide +kernel
theorem dX7_undo_13 : decode cX7_undo 13 = .ok (.iload_n 1, 1) := by decide +kernel
theorem dX7_undo_14 : decode cX7_undo 14 = .ok (.aload_n 0, 1) := by decide +kernel
theorem dX7_undo_15 : decode cX7_undo 15 = .ok (.getfield 36, 3) := by decide +kernel
theorem dX7_undo_18 : decode cX7_undo 18 = .ok (.getfield 137, 3) := by decide +kernel
theorem dX7_undo_21 : decode cX7_undo 21 = .ok (.if_icmp .le 6, 3) := by decide +kernel
theorem dX7_undo_24 : decode cX7_undo 24 = .ok (.ldc 220, 2) := by decide +kernel
theorem dX7_undo_26 : decode cX7_undo 26 = .ok (.ireturn, 1) := by decide +kernel
theorem dX7_undo_27 : decode cX7_undo 27 = .ok (.aload_n 0, 1) := by decide +kernel
theorem dX7_undo_28 : decode cX7_undo 28 = .ok (.getfield 36, 3) := by decide +kernel
theorem dX7_undo_31 : decode cX7_undo 31 = .ok (.iload_n 1, 1) := by decide +kernel
theorem dX7_undo_32 : decode cX7_undo 32 = .ok (.aload_n 0, 1) := by decide +kernel
theorem dX7_undo_33 : decode cX7_undo 33 = .ok (.getfield 10, 3) := by decide +kernel
theorem dX7_undo_36 : decode cX7_undo 36 = .ok (.invokevirtual 236, 3) := by decide +kernel
theorem dX7_undo_39 : decode cX7_undo 39 = .ok (.aload_n 0, 1) := by decide +kernel
theorem dX7_undo_40 : decode cX7_undo 40 = .ok (.getfield 10, 3) := by decide +kernel
theorem dX7_undo_43 : decode cX7_undo 43 = .ok (.getfield 131, 3) := by decide +kernel
theorem dX7_undo_46 : decode cX7_undo 46 = .ok (.ireturn, 1) := by decide +kernel
theorem dX7_behind_0 : decode cX7_behind 0 = .ok (.iload_n 1, 1) := by decide +kernel
theorem dX7_behind_1 : decode cX7_behind 1 = .ok (.iconst 0, 1) := by decide +kernel
theorem dX7_behind_2 : decode cX7_behind 2 = .ok (.bipush 20, 2) := by decide +kernel
theorem dX7_behind_4 : decode cX7_behind 4 = .ok (.invokestatic 66, 3) := by decide +kernel
theorem dX7_behind_7 : decode cX7_behind 7 = .ok (.ifCond .ne 6, 3) := by decide +kernel
theorem dX7_behind_10 : decode cX7_behind 10 = .ok (.ldc 70, 2) := by decide +kernel
theorem dX7_behind_12 : decode cX7_behind 12 = .ok (.ireturn, 1) := by decide +kernel
theorem dX7_behind_13 : decode cX7_behind 13 = .ok (.aload_n 0, 1) := by decide +kernel
theorem dX7_behind_14 : decode cX7_behind 14 = .ok (.getfield 16, 3) := by decide +kernel
theorem dX7_behind_17 : decode cX7_behind 17 = .ok (.aload_n 0, 1) := by decide +kernel
theorem dX7_behind_18 : decode cX7_behind 18 = .ok (.getfield 10, 3) := by decide +kernel
theorem dX7_behind_21 : decode cX7_behind 21 = .ok (.invokevirtual 84, 3) := by decide +kernel
theorem dX7_behind_24 : decode cX7_behind 24 = .ok (.iconst 0, 1) := by decide +kernel
theorem dX7_behind_25 : decode cX7_behind 25 = .ok (.istore_n 2, 1) := by decide +kernel
theorem dX7_behind_26 : decode cX7_behind 26 = .ok (.iload_n 2, 1) := by decide +kernel
theorem dX7_behind_27 : decode cX7_behind 27 = .ok (.iload_n 1, 1) := by decide +kernel
theorem dX7_behind_28 : decode cX7_behind 28 = .ok (.if_icmp .ge 20, 3) := by decide +kernel
theorem dX7_behind_31 : decode cX7_behind 31 = .ok (.aload_n 0, 1) := by decide +kernel
theorem dX7_behind_32 : decode cX7_behind 32 = .ok (.getfield 29, 3) := by decide +kernel
theorem dX7_behind_35 : decode cX7_behind 35 = .ok (.aload_n 0, 1) := by decide +kernel
theorem dX7_behind_36 : decode cX7_behind 36 = .ok (.getfield 16, 3) := by decide +kernel
theorem dX7_behind_39 : decode cX7_behind 39 = .ok (.invokevirtual 212, 3) := by decide +kernel
theorem dX7_behind_42 : decode cX7_behind 42 = .ok (.iinc 2 1, 3) := by decide +kernel
theorem dX7_behind_45 : decode cX7_behind 45 = .ok (.goto (-19), 3) := by decide +kernel
theorem dX7_behind_48 : decode cX7_behind 48 = .ok (.aload_n 0, 1) := by decide +kernel
theorem dX7_behind_49 : decode cX7_behind 49 = .ok (.getfield 16, 3) := by decide +kernel
theorem dX7_behind_52 : decode cX7_behind 52 = .ok (.invokevirtual 116, 3) := by decide +kernel
theorem dX7_behind_55 : decode cX7_behind 55 = .ok (.ireturn, 1) := by decide +kernel
theorem dX7_within_0 : decode cX7_within 0 = .ok (.iload_n 1, 1) := by decide +kernel
theorem dX7_within_1 : decode cX7_within 1 = .ok (.iconst 0, 1) := by decide +kernel
theorem dX7_within_2 : decode cX7_within 2 = .ok (.sipush 9999, 3) := by decide +kernel
theorem dX7_within_5 : decode cX7_within 5 = .ok (.invokestatic 66, 3) := by decide +kernel
theorem dX7_within_8 : decode cX7_within 8 = .ok (.ifCond .ne 6, 3) := by decide +kernel
theorem dX7_within_11 : decode cX7_within 11 = .ok (.ldc 70, 2) := by decide +kernel
theorem dX7_within_13 : decode cX7_within 13 = .ok (.ireturn, 1) := by decide +kernel
theorem dX7_within_14 : decode cX7_within 14 = .ok (.aload_n 0, 1) := by decide +kernel
theorem dX7_within_15 : decode cX7_within 15 = .ok (.getfield 10, 3) := by decide +kernel
theorem dX7_within_18 : decode cX7_within 18 = .ok (.invokevirtual 112, 3) := by decide +kernel
theorem dX7_within_21 : decode cX7_within 21 = .ok (.ifCond .ne 5, 3) := by decide +kernel
theorem dX7_within_24 : decode cX7_within 24 = .ok (.iconst (-1), 1) := by decide +kernel
theorem dX7_within_25 : decode cX7_within 25 = .ok (.ireturn, 1) := by decide +kernel
theorem dX7_within_26 : decode cX7_within 26 = .ok (.aload_n 0, 1) := by decide +kernel
theorem dX7_within_27 : decode cX7_within 27 = .ok (.getfield 16, 3) := by decide +kernel
theorem dX7_within_30 : decode cX7_within 30 = .ok (.aload_n 0, 1) := by decide +kernel
theorem dX7_within_31 : decode cX7_within 31 = .ok (.getfield 10, 3) := by decide +kernel
theorem dX7_within_34 : decode cX7_within 34 = .ok (.invokevirtual 84, 3) := by decide +kernel
theorem dX7_within_37 : decode cX7_within 37 = .ok (.iconst 0, 1) := by decide +kernel
theorem dX7_within_38 : decode cX7_within 38 = .ok (.istore_n 2, 1) := by decide +kernel
theorem dX7_within_39 : decode cX7_within 39 = .ok (.iload_n 2, 1) := by decide +kernel
theorem dX7_within_40 : decode cX7_within 40 = .ok (.bipush 20, 2) := by decide +kernel
theorem dX7_within_42 : decode cX7_within 42 = .ok (.if_icmp .gt 33, 3) := by decide +kernel
theorem dX7_within_45 : decode cX7_within 45 = .ok (.aload_n 0, 1) := by decide +kernel
theorem dX7_within_46 : decode cX7_within 46 = .ok (.getfield 16, 3) := by decide +kernel
theorem dX7_within_49 : decode cX7_within 49 = .ok (.invokevirtual 116, 3) := by decide +kernel
theorem dX7_within_52 : decode cX7_within 52 = .ok (.iload_n 1, 1) := by decide +kernel
theorem dX7_within_53 : decode cX7_within 53 = .ok (.if_icmp .gt 5, 3) := by decide +kernel
theorem dX7_within_56 : decode cX7_within 56 = .ok (.iload_n 2, 1) := by decide +kernel
theorem dX7_within_57 : decode cX7_within 57 = .ok (.ireturn, 1) := by decide +kernel
theorem dX7_within_58 : decode cX7_within 58 = .ok (.aload_n 0, 1) := by decide +kernel
theorem dX7_within_59 : decode cX7_within 59 = .ok (.getfield 29, 3) := by decide +kernel
theorem dX7_within_62 : decode cX7_within 62 = .ok (.aload_n 0, 1) := by decide +kernel
theorem dX7_within_63 : decode cX7_within 63 = .ok (.getfield 16, 3) := by decide +kernel
theorem dX7_within_66 : decode cX7_within 66 = .ok (.invokevirtual 212, 3) := by decide +kernel
theorem dX7_within_69 : decode cX7_within 69 = .ok (.iinc 2 1, 3) := by decide +kernel
theorem dX7_within_72 : decode cX7_within 72 = .ok (.goto (-33), 3) := by decide +kernel
theorem dX7_within_75 : decode cX7_within 75 = .ok (.iconst (-1), 1) := by decide +kernel
theorem dX7_within_76 : decode cX7_within 76 = .ok (.ireturn, 1) := by decide +kernel
theorem dX7_write_0 : decode cX7_write 0 = .ok (.aload_n 0, 1) := by decide +kernel
theorem dX7_write_1 : decode cX7_write 1 = .ok (.getfield 10, 3) := by decide +kernel
theorem dX7_write_4 : decode cX7_write 4 = .ok (.iload_n 1, 1) := by decide +kernel
theorem dX7_write_5 : decode cX7_write 5 = .ok (.invokevirtual 138, 3) := by decide +kernel
theorem dX7_write_8 : decode cX7_write 8 = .ok (.ifCond .ne 6, 3) := by decide +kernel
theorem dX7_write_11 : decode cX7_write 11 = .ok (.ldc 142, 2) := by decide +kernel
theorem dX7_write_13 : decode cX7_write 13 = .ok (.ireturn, 1) := by decide +kernel
theorem dX7_write_14 : decode cX7_write 14 = .ok (.aload_n 0, 1) := by decide +kernel
theorem dX7_write_15 : decode cX7_write 15 = .ok (.getfield 43, 3) := by decide +kernel
theorem dX7_write_18 : decode cX7_write 18 = .ok (.getfield 91, 3) := by decide +kernel
theorem dX7_write_21 : decode cX7_write 21 = .ok (.bipush 20, 2) := by decide +kernel
theorem dX7_write_23 : decode cX7_write 23 = .ok (.if_icmp .lt 6, 3) := by decide +kernel
theorem dX7_write_26 : decode cX7_write 26 = .ok (.ldc 75, 2) := by decide +kernel
theorem dX7_write_28 : decode cX7_write 28 = .ok (.ireturn, 1) := by decide +kernel
theorem dX7_write_29 : decode cX7_write 29 = .ok (.aload_n 0, 1) := by decide +kernel
theorem dX7_write_30 : decode cX7_write 30 = .ok (.getfield 43, 3) := by decide +kernel
theorem dX7_write_33 : decode cX7_write 33 = .ok (.iload_n 1, 1) := by decide +kernel
theorem dX7_write_34 : decode cX7_write 34 = .ok (.iload_n 2, 1) := by decide +kernel
theorem dX7_write_35 : decode cX7_write 35 = .ok (.invokevirtual 240, 3) := by decide +kernel
theorem dX7_write_38 : decode cX7_write 38 = .ok (.ireturn, 1) := by decide +kernel
theorem dX7_tear_0 : decode cX7_tear 0 = .ok (.aload_n 0, 1) := by decide +kernel
theorem dX7_tear_1 : decode cX7_tear 1 = .ok (.getfield 43, 3) := by decide +kernel
theorem dX7_tear_4 : decode cX7_tear 4 = .ok (.getfield 91, 3) := by decide +kernel
theorem dX7_tear_7 : decode cX7_tear 7 = .ok (.istore_n 1, 1) := by decide +kernel
theorem dX7_tear_8 : decode cX7_tear 8 = .ok (.aload_n 0, 1) := by decide +kernel
theorem dX7_tear_9 : decode cX7_tear 9 = .ok (.getfield 43, 3) := by decide +kernel
theorem dX7_tear_12 : decode cX7_tear 12 = .ok (.iconst 0, 1) := by decide +kernel
theorem dX7_tear_13 : decode cX7_tear 13 = .ok (.putfield 91, 3) := by decide +kernel
theorem dX7_tear_16 : decode cX7_tear 16 = .ok (.iload_n 1, 1) := by decide +kernel
theorem dX7_tear_17 : decode cX7_tear 17 = .ok (.ireturn, 1) := by decide +kernel
theorem dX7_seed_0 : decode cX7_seed 0 = .ok (.iload_n 1, 1) := by decide +kernel
theorem dX7_seed_1 : decode cX7_seed 1 = .ok (.ifCond .ge 6, 3) := by decide +kernel
theorem dX7_seed_4 : decode cX7_seed 4 = .ok (.ldc 70, 2) := by decide +kernel
theorem dX7_seed_6 : decode cX7_seed 6 = .ok (.ireturn, 1) := by decide +kernel
theorem dX7_seed_7 : decode cX7_seed 7 = .ok (.aload_n 0, 1) := by decide +kernel
theorem dX7_seed_8 : decode cX7_seed 8 = .ok (.getfield 50, 3) := by decide +kernel
theorem dX7_seed_11 : decode cX7_seed 11 = .ok (.getfield 242, 3) := by decide +kernel
theorem dX7_seed_14 : decode cX7_seed 14 = .ok (.istore_n 2, 1) := by decide +kernel
theorem dX7_seed_15 : decode cX7_seed 15 = .ok (.aload_n 0, 1) := by decide +kernel
theorem dX7_seed_16 : decode cX7_seed 16 = .ok (.getfield 50, 3) := by decide +kernel
theorem dX7_seed_19 : decode cX7_seed 19 = .ok (.iload_n 1, 1) := by decide +kernel
theorem dX7_seed_20 : decode cX7_seed 20 = .ok (.putfield 242, 3) := by decide +kernel
theorem dX7_seed_23 : decode cX7_seed 23 = .ok (.iload_n 2, 1) := by decide +kernel
theorem dX7_seed_24 : decode cX7_seed 24 = .ok (.ireturn, 1) := by decide +kernel
theorem dX7_keep_0 : decode cX7_keep 0 = .ok (.iload_n 1, 1) := by decide +kernel
theorem dX7_keep_1 : decode cX7_keep 1 = .ok (.iconst 0, 1) := by decide +kernel
theorem dX7_keep_2 : decode cX7_keep 2 = .ok (.iconst 1, 1) := by decide +kernel
theorem dX7_keep_3 : decode cX7_keep 3 = .ok (.invokestatic 66, 3) := by decide +kernel
theorem dX7_keep_6 : decode cX7_keep 6 = .ok (.ifCond .ne 6, 3) := by decide +kernel
theorem dX7_keep_9 : decode cX7_keep 9 = .ok (.ldc 142, 2) := by decide +kernel
theorem dX7_keep_11 : decode cX7_keep 11 = .ok (.ireturn, 1) := by decide +kernel
theorem dX7_keep_12 : decode cX7_keep 12 = .ok (.aload_n 0, 1) := by decide +kernel
theorem dX7_keep_13 : decode cX7_keep 13 = .ok (.getfield 54, 3) := by decide +kernel
theorem dX7_keep_16 : decode cX7_keep 16 = .ok (.iload_n 1, 1) := by decide +kernel
theorem dX7_keep_17 : decode cX7_keep 17 = .ok (.aaload, 1) := by decide +kernel
theorem dX7_keep_18 : decode cX7_keep 18 = .ok (.aload_n 0, 1) := by decide +kernel
theorem dX7_keep_19 : decode cX7_keep 19 = .ok (.getfield 10, 3) := by decide +kernel
theorem dX7_keep_22 : decode cX7_keep 22 = .ok (.invokevirtual 84, 3) := by decide +kernel
theorem dX7_keep_25 : decode cX7_keep 25 = .ok (.aload_n 0, 1) := by decide +kernel
theorem dX7_keep_26 : decode cX7_keep 26 = .ok (.getfield 58, 3) := by decide +kernel
theorem dX7_keep_29 : decode cX7_keep 29 = .ok (.iload_n 1, 1) := by decide +kernel
theorem dX7_keep_30 : decode cX7_keep 30 = .ok (.aload_n 0, 1) := by decide +kernel
theorem dX7_keep_31 : decode cX7_keep 31 = .ok (.getfield 50, 3) := by decide +kernel
theorem dX7_keep_34 : decode cX7_keep 34 = .ok (.getfield 242, 3) := by decide +kernel
theorem dX7_keep_37 : decode cX7_keep 37 = .ok (.iastore, 1) := by decide +kernel
theorem dX7_keep_38 : decode cX7_keep 38 = .ok (.aload_n 0, 1) := by decide +kernel
theorem dX7_keep_39 : decode cX7_keep 39 = .ok (.getfield 62, 3) := by decide +kernel
theorem dX7_keep_42 : decode cX7_keep 42 = .ok (.iload_n 1, 1) := by decide +kernel
theorem dX7_keep_43 : decode cX7_keep 43 = .ok (.iconst 1, 1) := by decide +kernel
theorem dX7_keep_44 : decode cX7_keep 44 = .ok (.bastore, 1) := by decide +kernel
theorem dX7_keep_45 : decode cX7_keep 45 = .ok (.aload_n 0, 1) := by decide +kernel
theorem dX7_keep_46 : decode cX7_keep 46 = .ok (.getfield 36, 3) := by decide +kernel
theorem dX7_keep_49 : decode cX7_keep 49 = .ok (.invokevirtual 88, 3) := by decide +kernel
theorem dX7_keep_52 : decode cX7_keep 52 = .ok (.iconst 1, 1) := by decide +kernel
theorem dX7_keep_53 : decode cX7_keep 53 = .ok (.ireturn, 1) := by decide +kernel
theorem dX7_goBack_0 : decode cX7_goBack 0 = .ok (.iload_n 1, 1) := by decide +kernel
theorem dX7_goBack_1 : decode cX7_goBack 1 = .ok (.iconst 0, 1) := by decide +kernel
theorem dX7_goBack_2 : decode cX7_goBack 2 = .ok (.iconst 1, 1) := by decide +kernel
theorem dX7_goBack_3 : decode cX7_goBack 3 = .ok (.invokestatic 66, 3) := by decide +kernel
theorem dX7_goBack_6 : decode cX7_goBack 6 = .ok (.ifCond .ne 6, 3) := by decide +kernel
theorem dX7_goBack_9 : decode cX7_goBack 9 = .ok (.ldc 142, 2) := by decide +kernel
theorem dX7_goBack_11 : decode cX7_goBack 11 = .ok (.ireturn, 1) := by decide +kernel
theorem dX7_goBack_12 : decode cX7_goBack 12 = .ok (.aload_n 0, 1) := by decide +kernel
theorem dX7_goBack_13 : decode cX7_goBack 13 = .ok (.getfield 62, 3) := by decide +kernel
theorem dX7_goBack_16 : decode cX7_goBack 16 = .ok (.iload_n 1, 1) := by decide +kernel
theorem dX7_goBack_17 : decode cX7_goBack 17 = .ok (.baload, 1) := by decide +kernel
theorem dX7_goBack_18 : decode cX7_goBack 18 = .ok (.ifCond .ne 6, 3) := by decide +kernel
theorem dX7_goBack_21 : decode cX7_goBack 21 = .ok (.ldc 220, 2) := by decide +kernel
theorem dX7_goBack_23 : decode cX7_goBack 23 = .ok (.ireturn, 1) := by decide +kernel
theorem dX7_goBack_24 : decode cX7_goBack 24 = .ok (.aload_n 0, 1) := by decide +kernel
theorem dX7_goBack_25 : decode cX7_goBack 25 = .ok (.getfield 10, 3) := by decide +kernel
theorem dX7_goBack_28 : decode cX7_goBack 28 = .ok (.aload_n 0, 1) := by decide +kernel
theorem dX7_goBack_29 : decode cX7_goBack 29 = .ok (.getfield 54, 3) := by decide +kernel
theorem dX7_goBack_32 : decode cX7_goBack 32 = .ok (.iload_n 1, 1) := by decide +kernel
theorem dX7_goBack_33 : decode cX7_goBack 33 = .ok (.aaload, 1) := by decide +kernel
theorem dX7_goBack_34 : decode cX7_goBack 34 = .ok (.invokevirtual 84, 3) := by decide +kernel
theorem dX7_goBack_37 : decode cX7_goBack 37 = .ok (.aload_n 0, 1) := by decide +kernel
theorem dX7_goBack_38 : decode cX7_goBack 38 = .ok (.getfield 50, 3) := by decide +kernel
theorem dX7_goBack_41 : decode cX7_goBack 41 = .ok (.aload_n 0, 1) := by decide +kernel
theorem dX7_goBack_42 : decode cX7_goBack 42 = .ok (.getfield 58, 3) := by decide +kernel
theorem dX7_goBack_45 : decode cX7_goBack 45 = .ok (.iload_n 1, 1) := by decide +kernel
theorem dX7_goBack_46 : decode cX7_goBack 46 = .ok (.iaload, 1) := by decide +kernel
theorem dX7_goBack_47 : decode cX7_goBack 47 = .ok (.putfield 242, 3) := by decide +kernel
theorem dX7_goBack_50 : decode cX7_goBack 50 = .ok (.aload_n 0, 1) := by decide +kernel
theorem dX7_goBack_51 : decode cX7_goBack 51 = .ok (.getfield 36, 3) := by decide +kernel
theorem dX7_goBack_54 : decode cX7_goBack 54 = .ok (.invokevirtual 88, 3) := by decide +kernel
theorem dX7_goBack_57 : decode cX7_goBack 57 = .ok (.iconst 1, 1) := by decide +kernel
theorem dX7_goBack_58 : decode cX7_goBack 58 = .ok (.ireturn, 1) := by decide +kernel
theorem dX7_between_0 : decode cX7_between 0 = .ok (.iload_n 0, 1) := by decide +kernel
theorem dX7_between_1 : decode cX7_between 1 = .ok (.iload_n 1, 1) := by decide +kernel
theorem dX7_between_2 : decode cX7_between 2 = .ok (.if_icmp .lt 12, 3) := by decide +kernel
theorem dX7_between_5 : decode cX7_between 5 = .ok (.iload_n 0, 1) := by decide +kernel
theorem dX7_between_6 : decode cX7_between 6 = .ok (.iload_n 2, 1) := by decide +kernel
theorem dX7_between_7 : decode cX7_between 7 = .ok (.if_icmp .gt 7, 3) := by decide +kernel
theorem dX7_between_10 : decode cX7_between 10 = .ok (.iconst 1, 1) := by decide +kernel
theorem dX7_between_11 : decode cX7_between 11 = .ok (.goto 4, 3) := by decide +kernel
theorem dX7_between_14 : decode cX7_between 14 = .ok (.iconst 0, 1) := by decide +kernel
theorem dX7_between_15 : decode cX7_between 15 = .ok (.ireturn, 1) := by decide +kernel
theorem dX7_driftOnce_0 : decode cX7_driftOnce 0 = .ok (.aload_n 0, 1) := by decide +kernel
theorem dX7_driftOnce_1 : decode cX7_driftOnce 1 = .ok (.getfield 50, 3) := by decide +kernel
theorem dX7_driftOnce_4 : decode cX7_driftOnce 4 = .ok (.aload_n 0, 1) := by decide +kernel
theorem dX7_driftOnce_5 : decode cX7_driftOnce 5 = .ok (.getfield 10, 3) := by decide +kernel
theorem dX7_driftOnce_8 : decode cX7_driftOnce 8 = .ok (.getfield 94, 3) := by decide +kernel
theorem dX7_driftOnce_11 : decode cX7_driftOnce 11 = .ok (.invokevirtual 245, 3) := by decide +kernel
theorem dX7_driftOnce_14 : decode cX7_driftOnce 14 = .ok (.istore_n 1, 1) := by decide +kernel
theorem dX7_driftOnce_15 : decode cX7_driftOnce 15 = .ok (.aload_n 0, 1) := by decide +kernel
theorem dX7_driftOnce_16 : decode cX7_driftOnce 16 = .ok (.getfield 50, 3) := by decide +kernel
theorem dX7_driftOnce_19 : decode cX7_driftOnce 19 = .ok (.aload_n 0, 1) := by decide +kernel
theorem dX7_driftOnce_20 : decode cX7_driftOnce 20 = .ok (.getfield 10, 3) := by decide +kernel
theorem dX7_driftOnce_23 : decode cX7_driftOnce 23 = .ok (.getfield 94, 3) := by decide +kernel
theorem dX7_driftOnce_26 : decode cX7_driftOnce 26 = .ok (.invokevirtual 245, 3) := by decide +kernel
theorem dX7_driftOnce_29 : decode cX7_driftOnce 29 = .ok (.istore_n 2, 1) := by decide +kernel
theorem dX7_driftOnce_30 : decode cX7_driftOnce 30 = .ok (.aload_n 0, 1) := by decide +kernel
theorem dX7_driftOnce_31 : decode cX7_driftOnce 31 = .ok (.getfield 50, 3) := by decide +kernel
theorem dX7_driftOnce_34 : decode cX7_driftOnce 34 = .ok (.sipush 2001, 3) := by decide +kernel
theorem dX7_driftOnce_37 : decode cX7_driftOnce 37 = .ok (.invokevirtual 245, 3) := by decide +kernel
theorem dX7_driftOnce_40 : decode cX7_driftOnce 40 = .ok (.sipush 1000, 3) := by decide +kernel
theorem dX7_driftOnce_43 : decode cX7_driftOnce 43 = .ok (.isub, 1) := by decide +kernel
theorem dX7_driftOnce_44 : decode cX7_driftOnce 44 = .ok (.istore_n 3, 1) := by decide +kernel
theorem dX7_driftOnce_45 : decode cX7_driftOnce 45 = .ok (.aload_n 0, 1) := by decide +kernel
theorem dX7_driftOnce_46 : decode cX7_driftOnce 46 = .ok (.getfield 50, 3) := by decide +kernel
theorem dX7_driftOnce_49 : decode cX7_driftOnce 49 = .ok (.bipush 41, 2) := by decide +kernel
theorem dX7_driftOnce_51 : decode cX7_driftOnce 51 = .ok (.invokevirtual 245, 3) := by decide +kernel
theorem dX7_driftOnce_54 : decode cX7_driftOnce 54 = .ok (.bipush 20, 2) := by decide +kernel
theorem dX7_driftOnce_56 : decode cX7_driftOnce 56 = .ok (.isub, 1) := by decide +kernel
theorem dX7_driftOnce_57 : decode cX7_driftOnce 57 = .ok (.istore 4, 2) := by decide +kernel
theorem dX7_driftOnce_59 : decode cX7_driftOnce 59 = .ok (.aload_n 0, 1) := by decide +kernel
theorem dX7_driftOnce_60 : decode cX7_driftOnce 60 = .ok (.getfield 50, 3) := by decide +kernel
theorem dX7_driftOnce_63 : decode cX7_driftOnce 63 = .ok (.iconst 3, 1) := by decide +kernel
theorem dX7_driftOnce_64 : decode cX7_driftOnce 64 = .ok (.invokevirtual 245, 3) := by decide +kernel
theorem dX7_driftOnce_67 : decode cX7_driftOnce 67 = .ok (.istore 5, 2) := by decide +kernel
theorem dX7_driftOnce_69 : decode cX7_driftOnce 69 = .ok (.aload_n 0, 1) := by decide +kernel
theorem dX7_driftOnce_70 : decode cX7_driftOnce 70 = .ok (.getfield 10, 3) := by decide +kernel
theorem dX7_driftOnce_73 : decode cX7_driftOnce 73 = .ok (.iload_n 1, 1) := by decide +kernel
theorem dX7_driftOnce_74 : decode cX7_driftOnce 74 = .ok (.iload_n 2, 1) := by decide +kernel
theorem dX7_driftOnce_75 : decode cX7_driftOnce 75 = .ok (.invokevirtual 173, 3) := by decide +kernel
theorem dX7_driftOnce_78 : decode cX7_driftOnce 78 = .ok (.ifCond .eq 32, 3) := by decide +kernel
theorem dX7_driftOnce_81 : decode cX7_driftOnce 81 = .ok (.aload_n 0, 1) := by decide +kernel
theorem dX7_driftOnce_82 : decode cX7_driftOnce 82 = .ok (.getfield 10, 3) := by decide +kernel
theorem dX7_driftOnce_85 : decode cX7_driftOnce 85 = .ok (.getfield 187, 3) := by decide +kernel
theorem dX7_driftOnce_88 : decode cX7_driftOnce 88 = .ok (.iload_n 1, 1) := by decide +kernel
theorem dX7_driftOnce_89 : decode cX7_driftOnce 89 = .ok (.iload_n 2, 1) := by decide +kernel
theorem dX7_driftOnce_90 : decode cX7_driftOnce 90 = .ok (.invokestatic 184, 3) := by decide +kernel
theorem dX7_driftOnce_93 : decode cX7_driftOnce 93 = .ok (.iload_n 3, 1) := by decide +kernel
theorem dX7_driftOnce_94 : decode cX7_driftOnce 94 = .ok (.iastore, 1) := by decide +kernel
theorem dX7_driftOnce_95 : decode cX7_driftOnce 95 = .ok (.aload_n 0, 1) := by decide +kernel
theorem dX7_driftOnce_96 : decode cX7_driftOnce 96 = .ok (.getfield 10, 3) := by decide +kernel
theorem dX7_driftOnce_99 : decode cX7_driftOnce 99 = .ok (.getfield 181, 3) := by decide +kernel
theorem dX7_driftOnce_102 : decode cX7_driftOnce 102 = .ok (.iload_n 1, 1) := by decide +kernel
theorem dX7_driftOnce_103 : decode cX7_driftOnce 103 = .ok (.iload_n 2, 1) := by decide +kernel
theorem dX7_driftOnce_104 : decode cX7_driftOnce 104 = .ok (.invokestatic 184, 3) := by decide +kernel
theorem dX7_driftOnce_107 : decode cX7_driftOnce 107 = .ok (.iload 4, 2) := by decide +kernel
theorem dX7_driftOnce_109 : decode cX7_driftOnce 109 = .ok (.iastore, 1) := by decide +kernel
theorem dX7_driftOnce_110 : decode cX7_driftOnce 110 = .ok (.iload 5, 2) := by decide +kernel
theorem dX7_driftOnce_112 : decode cX7_driftOnce 112 = .ok (.ifCond .ne 17, 3) := by decide +kernel
theorem dX7_driftOnce_115 : decode cX7_driftOnce 115 = .ok (.aload_n 0, 1) := by decide +kernel
theorem dX7_driftOnce_116 : decode cX7_driftOnce 116 = .ok (.getfield 29, 3) := by decide +kernel
theorem dX7_driftOnce_119 : decode cX7_driftOnce 119 = .ok (.aload_n 0, 1) := by decide +kernel
theorem dX7_driftOnce_120 : decode cX7_driftOnce 120 = .ok (.getfield 10, 3) := by decide +kernel
theorem dX7_driftOnce_123 : decode cX7_driftOnce 123 = .ok (.invokevirtual 212, 3) := by decide +kernel
theorem dX7_driftOnce_126 : decode cX7_driftOnce 126 = .ok (.goto 11, 3) := by decide +kernel
theorem dX7_driftOnce_129 : decode cX7_driftOnce 129 = .ok (.aload_n 0, 1) := by decide +kernel
theorem dX7_driftOnce_130 : decode cX7_driftOnce 130 = .ok (.getfield 10, 3) := by decide +kernel
theorem dX7_driftOnce_133 : decode cX7_driftOnce 133 = .ok (.invokevirtual 209, 3) := by decide +kernel
theorem dX7_driftOnce_136 : decode cX7_driftOnce 136 = .ok (.pop, 1) := by decide +kernel
theorem dX7_driftOnce_137 : decode cX7_driftOnce 137 = .ok (.return_, 1) := by decide +kernel
theorem dX8_init_0 : decode cX8_init 0 = .ok (.aload_n 0, 1) := by decide +kernel
theorem dX8_init_1 : decode cX8_init 1 = .ok (.invokespecial 1, 3) := by decide +kernel
theorem dX8_init_4 : decode cX8_init 4 = .ok (.aload_n 0, 1) := by decide +kernel
theorem dX8_init_5 : decode cX8_init 5 = .ok (.sipush 3840, 3) := by decide +kernel
theorem dX8_init_8 : decode cX8_init 8 = .ok (.newarray .int, 2) := by decide +kernel
theorem dX8_init_10 : decode cX8_init 10 = .ok (.putfield 7, 3) := by decide +kernel
theorem dX8_init_13 : decode cX8_init 13 = .ok (.aload_n 0, 1) := by decide +kernel
theorem dX8_init_14 : decode cX8_init 14 = .ok (.sipush 200, 3) := by decide +kernel
theorem dX8_init_17 : decode cX8_init 17 = .ok (.newarray .int, 2) := by decide +kernel
theorem dX8_init_19 : decode cX8_init 19 = .ok (.putfield 13, 3) := by decide +kernel
theorem dX8_init_22 : decode cX8_init 22 = .ok (.aload_n 0, 1) := by decide +kernel
theorem dX8_init_23 : decode cX8_init 23 = .ok (.iconst (-1), 1) := by decide +kernel
theorem dX8_init_24 : decode cX8_init 24 = .ok (.putfield 16, 3) := by decide +kernel
theorem dX8_init_27 : decode cX8_init 27 = .ok (.aload_n 0, 1) := by decide +kernel
theorem dX8_init_28 : decode cX8_init 28 = .ok (.bipush 20, 2) := by decide +kernel
theorem dX8_init_30 : decode cX8_init 30 = .ok (.newarray .int, 2) := by decide +kernel
theorem dX8_init_32 : decode cX8_init 32 = .ok (.putfield 20, 3) := by decide +kernel
theorem dX8_init_35 : decode cX8_init 35 = .ok (.aload_n 0, 1) := by decide +kernel
theorem dX8_init_36 : decode cX8_init 36 = .ok (.bipush 20, 2) := by decide +kernel
theorem dX8_init_38 : decode cX8_init 38 = .ok (.newarray .int, 2) := by decide +kernel
theorem dX8_init_40 : decode cX8_init 40 = .ok (.putfield 23, 3) := by decide +kernel
theorem dX8_init_43 : decode cX8_init 43 = .ok (.aload_n 0, 1) := by decide +kernel
theorem dX8_init_44 : decode cX8_init 44 = .ok (.bipush 8, 2) := by decide +kernel
theorem dX8_init_46 : decode cX8_init 46 = .ok (.newarray .int, 2) := by decide +kernel
theorem dX8_init_48 : decode cX8_init 48 = .ok (.putfield 26, 3) := by decide +kernel
theorem dX8_init_51 : decode cX8_init 51 = .ok (.aload_n 0, 1) := by decide +kernel
theorem dX8_init_52 : decode cX8_init 52 = .ok (.bipush 8, 2) := by decide +kernel
theorem dX8_init_54 : decode cX8_init 54 = .ok (.newarray .int, 2) := by decide +kernel
theorem dX8_init_56 : decode cX8_init 56 = .ok (.putfield 29, 3) := by decide +kernel
theorem dX8_init_59 : decode cX8_init 59 = .ok (.aload_n 0, 1) := by decide +kernel
theorem dX8_init_60 : decode cX8_init 60 = .ok (.getfield 7, 3) := by decide +kernel
theorem dX8_init_63 : decode cX8_init 63 = .ok (.iconst 2, 1) := by decide +kernel
theorem dX8_init_64 : decode cX8_init 64 = .ok (.bipush 10, 2) := by decide +kernel
theorem dX8_init_66 : decode cX8_init 66 = .ok (.iastore, 1) := by decide +kernel
theorem dX8_init_67 : decode cX8_init 67 = .ok (.return_, 1) := by decide +kernel
theorem dX8_in_0 : decode cX8_in 0 = .ok (.iload_n 0, 1) := by decide +kernel
theorem dX8_in_1 : decode cX8_in 1 = .ok (.iload_n 1, 1) := by decide +kernel
theorem dX8_in_2 : decode cX8_in 2 = .ok (.if_icmp .lt 12, 3) := by decide +kernel
theorem dX8_in_5 : decode cX8_in 5 = .ok (.iload_n 0, 1) := by decide +kernel
theorem dX8_in_6 : decode cX8_in 6 = .ok (.iload_n 2, 1) := by decide +kernel
theorem dX8_in_7 : decode cX8_in 7 = .ok (.if_icmp .gt 7, 3) := by decide +kernel
theorem dX8_in_10 : decode cX8_in 10 = .ok (.iconst 1, 1) := by decide +kernel
theorem dX8_in_11 : decode cX8_in 11 = .ok (.goto 4, 3) := by decide +kernel
theorem dX8_in_14 : decode cX8_in 14 = .ok (.iconst 0, 1) := by decide +kernel
theorem dX8_in_15 : decode cX8_in 15 = .ok (.ireturn, 1) := by decide +kernel
theorem dX8_has_0 : decode cX8_has 0 = .ok (.iload_n 0, 1) := by decide +kernel
theorem dX8_has_1 : decode cX8_has 1 = .ok (.iload_n 1, 1) := by decide +kernel
theorem dX8_has_2 : decode cX8_has 2 = .ok (.ishr, 1) := by decide +kernel
theorem dX8_has_3 : decode cX8_has 3 = .ok (.iconst 1, 1) := by decide +kernel
theorem dX8_has_4 : decode cX8_has 4 = .ok (.iand, 1) := by decide +kernel
theorem dX8_has_5 : decode cX8_has 5 = .ok (.iconst 1, 1) := by decide +kernel
theorem dX8_has_6 : decode cX8_has 6 = .ok (.if_icmp .ne 7, 3) := by decide +kernel
theorem dX8_has_9 : decode cX8_has 9 = .ok (.iconst 1, 1) := by decide +kernel
theorem dX8_has_10 : decode cX8_has 10 = .ok (.goto 4, 3) := by decide +kernel
theorem dX8_has_13 : decode cX8_has 13 = .ok (.iconst 0, 1) := by decide +kernel
theorem dX8_has_14 : decode cX8_has 14 = .ok (.ireturn, 1) := by decide +kernel
theorem dX8_copyRow_0 : decode cX8_copyRow 0 = .ok (.iconst 0, 1) := by decide +kernel
theorem dX8_copyRow_1 : decode cX8_copyRow 1 = .ok (.istore_n 3, 1) := by decide +kernel
theorem dX8_copyRow_2 : decode cX8_copyRow 2 = .ok (.iload_n 3, 1) := by decide +kernel
theorem dX8_copyRow_3 : decode cX8_copyRow 3 = .ok (.sipush 192, 3) := by decide +kernel
theorem dX8_copyRow_6 : decode cX8_copyRow 6 = .ok (.if_icmp .ge 25, 3) := by decide +kernel
theorem dX8_copyRow_9 : decode cX8_copyRow 9 = .ok (.aload_n 0, 1) := by decide +kernel
theorem dX8_copyRow_10 : decode cX8_copyRow 10 = .ok (.getfield 7, 3) := by decide +kernel
theorem dX8_copyRow_13 : decode cX8_copyRow 13 = .ok (.iload_n 2, 1) := by decide +kernel
theorem dX8_copyRow_14 : decode cX8_copyRow 14 = .ok (.iload_n 3, 1) := by decide +kernel
theorem dX8_copyRow_15 : decode cX8_copyRow 15 = .ok (.iadd, 1) := by decide +kernel
theorem dX8_copyRow_16 : decode cX8_copyRow 16 = .ok (.aload_n 0, 1) := by decide +kernel
theorem dX8_copyRow_17 : decode cX8_copyRow 17 = .ok (.getfield 7, 3) := by decide +kernel
theorem dX8_copyRow_20 : decode cX8_copyRow 20 = .ok (.iload_n 1, 1) := by decide +kernel
theorem dX8_copyRow_21 : decode cX8_copyRow 21 = .ok (.iload_n 3, 1) := by decide +kernel
theorem dX8_copyRow_22 : decode cX8_copyRow 22 = .ok (.iadd, 1) := by decide +kernel
theorem dX8_copyRow_23 : decode cX8_copyRow 23 = .ok (.iaload, 1) := by decide +kernel
theorem dX8_copyRow_24 : decode cX8_copyRow 24 = .ok (.iastore, 1) := by decide +kernel
theorem dX8_copyRow_25 : decode cX8_copyRow 25 = .ok (.iinc 3 1, 3) := by decide +kernel
theorem dX8_copyRow_28 : decode cX8_copyRow 28 = .ok (.goto (-26), 3) := by decide +kernel
theorem dX8_copyRow_31 : decode cX8_copyRow 31 = .ok (.return_, 1) := by decide +kernel
theorem dX8_isClock_0 : decode cX8_isClock 0 = .ok (.iload_n 1, 1) := by decide +kernel
theorem dX8_isClock_1 : decode cX8_isClock 1 = .ok (.iconst 0, 1) := by decide +kernel
theorem dX8_isClock_2 : decode cX8_isClock 2 = .ok (.aload_n 0, 1) := by decide +kernel
theorem dX8_isClock_3 : decode cX8_isClock 3 = .ok (.getfield 7, 3) := by decide +kernel
theorem dX8_isClock_6 : decode cX8_isClock 6 = .ok (.iconst 0, 1) := by decide +kernel
theorem dX8_isClock_7 : decode cX8_isClock 7 = .ok (.iaload, 1) := by decide +kernel
theorem dX8_isClock_8 : decode cX8_isClock 8 = .ok (.iconst 1, 1) := by decide +kernel
theorem dX8_isClock_9 : decode cX8_isClock 9 = .ok (.isub, 1) := by decide +kernel
theorem dX8_isClock_10 : decode cX8_isClock 10 = .ok (.invokestatic 32, 3) := by decide +kernel
theorem dX8_isClock_13 : decode cX8_isClock 13 = .ok (.ireturn, 1) := by decide +kernel
theorem dX8_aim_0 : decode cX8_aim 0 = .ok (.aload_n 0, 1) := by decide +kernel
theorem dX8_aim_1 : decode cX8_aim 1 = .ok (.getfield 7, 3) := by decide +kernel
theorem dX8_aim_4 : decode cX8_aim 4 = .ok (.iload_n 1, 1) := by decide +kernel
theorem dX8_aim_5 : decode cX8_aim 5 = .ok (.iconst 3, 1) := by decide +kernel
theorem dX8_aim_6 : decode cX8_aim 6 = .ok (.iadd, 1) := by decide +kernel
theorem dX8_aim_7 : decode cX8_aim 7 = .ok (.iload_n 2, 1) := by decide +kernel
theorem dX8_aim_8 : decode cX8_aim 8 = .ok (.iadd, 1) := by decide +kernel
theorem dX8_aim_9 : decode cX8_aim 9 = .ok (.iaload, 1) := by decide +kernel
theorem dX8_aim_10 : decode cX8_aim 10 = .ok (.aload_n 0, 1) := by decide +kernel
theorem dX8_aim_11 : decode cX8_aim 11 = .ok (.getfield 7, 3) := by decide +kernel
theorem dX8_aim_14 : decode cX8_aim 14 = .ok (.iload_n 1, 1) := by decide +kernel
theorem dX8_aim_15 : decode cX8_aim 15 = .ok (.bipush 19, 2) := by decide +kernel
theorem dX8_aim_17 : decode cX8_aim 17 = .ok (.iadd, 1) := by decide +kernel
theorem dX8_aim_18 : decode cX8_aim 18 = .ok (.iload_n 2, 1) := by decide +kernel
theorem dX8_aim_19 : decode cX8_aim 19 = .ok (.iadd, 1) := by decide +kernel
theorem dX8_aim_20 : decode cX8_aim 20 = .ok (.iaload, 1) := by decide +kernel
theorem dX8_aim_21 : decode cX8_aim 21 = .ok (.iadd, 1) := by decide +kernel
theorem dX8_aim_22 : decode cX8_aim 22 = .ok (.ireturn, 1) := by decide +kernel
theorem dX8_isTrue_0 : decode cX8_isTrue 0 = .ok (.aload_n 0, 1) := by decide +kernel
theorem dX8_isTrue_1 : decode cX8_isTrue 1 = .ok (.getfield 7, 3) := by decide +kernel
theorem dX8_isTrue_4 : decode cX8_isTrue 4 = .ok (.iload_n 1, 1) := by decide +kernel
theorem dX8_isTrue_5 : decode cX8_isTrue 5 = .ok (.bipush 27, 2) := by decide +kernel
theorem dX8_isTrue_7 : decode cX8_isTrue 7 = .ok (.iadd, 1) := by decide +kernel
theorem dX8_isTrue_8 : decode cX8_isTrue 8 = .ok (.iload_n 2, 1) := by decide +kernel
theorem dX8_isTrue_9 : decode cX8_isTrue 9 = .ok (.iadd, 1) := by decide +kernel
theorem dX8_isTrue_10 : decode cX8_isTrue 10 = .ok (.iaload, 1) := by decide +kernel
theorem dX8_isTrue_11 : decode cX8_isTrue 11 = .ok (.ifCond .ne 21, 3) := by decide +kernel
theorem dX8_isTrue_14 : decode cX8_isTrue 14 = .ok (.aload_n 0, 1) := by decide +kernel
theorem dX8_isTrue_15 : decode cX8_isTrue 15 = .ok (.getfield 7, 3) := by decide +kernel
theorem dX8_isTrue_18 : decode cX8_isTrue 18 = .ok (.iload_n 1, 1) := by decide +kernel
theorem dX8_isTrue_19 : decode cX8_isTrue 19 = .ok (.bipush 35, 2) := by decide +kernel
theorem dX8_isTrue_21 : decode cX8_isTrue 21 = .ok (.iadd, 1) := by decide +kernel
theorem dX8_isTrue_22 : decode cX8_isTrue 22 = .ok (.iload_n 2, 1) := by decide +kernel
theorem dX8_isTrue_23 : decode cX8_isTrue 23 = .ok (.iadd, 1) := by decide +kernel
theorem dX8_isTrue_24 : decode cX8_isTrue 24 = .ok (.iaload, 1) := by decide +kernel
theorem dX8_isTrue_25 : decode cX8_isTrue 25 = .ok (.ifCond .ne 7, 3) := by decide +kernel
theorem dX8_isTrue_28 : decode cX8_isTrue 28 = .ok (.iconst 1, 1) := by decide +kernel
theorem dX8_isTrue_29 : decode cX8_isTrue 29 = .ok (.goto 4, 3) := by decide +kernel
theorem dX8_isTrue_32 : decode cX8_isTrue 32 = .ok (.iconst 0, 1) := by decide +kernel
theorem dX8_isTrue_33 : decode cX8_isTrue 33 = .ok (.ireturn, 1) := by decide +kernel
theorem dX8_isLiar_0 : decode cX8_isLiar 0 = .ok (.aload_n 0, 1) := by decide +kernel
theorem dX8_isLiar_1 : decode cX8_isLiar 1 = .ok (.getfield 7, 3) := by decide +kernel
theorem dX8_isLiar_4 : decode cX8_isLiar 4 = .ok (.iload_n 1, 1) := by decide +kernel
theorem dX8_isLiar_5 : decode cX8_isLiar 5 = .ok (.bipush 27, 2) := by decide +kernel
theorem dX8_isLiar_7 : decode cX8_isLiar 7 = .ok (.iadd, 1) := by decide +kernel
theorem dX8_isLiar_8 : decode cX8_isLiar 8 = .ok (.iload_n 2, 1) := by decide +kernel
theorem dX8_isLiar_9 : decode cX8_isLiar 9 = .ok (.iadd, 1) := by decide +kernel
theorem dX8_isLiar_10 : decode cX8_isLiar 10 = .ok (.iaload, 1) := by decide +kernel
theorem dX8_isLiar_11 : decode cX8_isLiar 11 = .ok (.iconst 1, 1) := by decide +kernel
theorem dX8_isLiar_12 : decode cX8_isLiar 12 = .ok (.if_icmp .ne 21, 3) := by decide +kernel
theorem dX8_isLiar_15 : decode cX8_isLiar 15 = .ok (.aload_n 0, 1) := by decide +kernel
theorem dX8_isLiar_16 : decode cX8_isLiar 16 = .ok (.getfield 7, 3) := by decide +kernel
theorem dX8_isLiar_19 : decode cX8_isLiar 19 = .ok (.iload_n 1, 1) := by decide +kernel
theorem dX8_isLiar_20 : decode cX8_isLiar 20 = .ok (.bipush 35, 2) := by decide +kernel
theorem dX8_isLiar_22 : decode cX8_isLiar 22 = .ok (.iadd, 1) := by decide +kernel
theorem dX8_isLiar_23 : decode cX8_isLiar 23 = .ok (.iload_n 2, 1) := by decide +kernel
theorem dX8_isLiar_24 : decode cX8_isLiar 24 = .ok (.iadd, 1) := by decide +kernel
theorem dX8_isLiar_25 : decode cX8_isLiar 25 = .ok (.iaload, 1) := by decide +kernel
theorem dX8_isLiar_26 : decode cX8_isLiar 26 = .ok (.ifCond .ne 7, 3) := by decide +kernel
theorem dX8_isLiar_29 : decode cX8_isLiar 29 = .ok (.iconst 1, 1) := by decide +kernel
theorem dX8_isLiar_30 : decode cX8_isLiar 30 = .ok (.goto 4, 3) := by decide +kernel
theorem dX8_isLiar_33 : decode cX8_isLiar 33 = .ok (.iconst 0, 1) := by decide +kernel
theorem dX8_isLiar_34 : decode cX8_isLiar 34 = .ok (.ireturn, 1) := by decide +kernel
theorem dX8_feed_0 : decode cX8_feed 0 = .ok (.iload_n 1, 1) := by decide +kernel
theorem dX8_feed_1 : decode cX8_feed 1 = .ok (.iconst 0, 1) := by decide +kernel
theorem dX8_feed_2 : decode cX8_feed 2 = .ok (.sipush 255, 3) := by decide +kernel
theorem dX8_feed_5 : decode cX8_feed 5 = .ok (.invokestatic 32, 3) := by decide +kernel
theorem dX8_feed_8 : decode cX8_feed 8 = .ok (.ifCond .ne 6, 3) := by decide +kernel
theorem dX8_feed_11 : decode cX8_feed 11 = .ok (.ldc 36, 2) := by decide +kernel
theorem dX8_feed_13 : decode cX8_feed 13 = .ok (.ireturn, 1) := by decide +kernel
theorem dX8_feed_14 : decode cX8_feed 14 = .ok (.aload_n 0, 1) := by decide +kernel
theorem dX8_feed_15 : decode cX8_feed 15 = .ok (.getfield 37, 3) := by decide +kernel
theorem dX8_feed_18 : decode cX8_feed 18 = .ok (.sipush 200, 3) := by decide +kernel
theorem dX8_feed_21 : decode cX8_feed 21 = .ok (.if_icmp .ne 6, 3) := by decide +kernel
theorem dX8_feed_24 : decode cX8_feed 24 = .ok (.ldc 40, 2) := by decide +kernel
theorem dX8_feed_26 : decode cX8_feed 26 = .ok (.ireturn, 1) := by decide +kernel
theorem dX8_feed_27 : decode cX8_feed 27 = .ok (.aload_n 0, 1) := by decide +kernel
theorem dX8_feed_28 : decode cX8_feed 28 = .ok (.getfield 13, 3) := by decide +kernel
theorem dX8_feed_31 : decode cX8_feed 31 = .ok (.aload_n 0, 1) := by decide +kernel
theorem dX8_feed_32 : decode cX8_feed 32 = .ok (.getfield 37, 3) := by decide +kernel
theorem dX8_feed_35 : decode cX8_feed 35 = .ok (.iload_n 1, 1) := by decide +kernel
theorem dX8_feed_36 : decode cX8_feed 36 = .ok (.iastore, 1) := by decide +kernel
theorem dX8_feed_37 : decode cX8_feed 37 = .ok (.aload_n 0, 1) := by decide +kernel
theorem dX8_feed_38 : decode cX8_feed 38 = .ok (.dup, 1) := by decide +kernel
theorem dX8_feed_39 : decode cX8_feed 39 = .ok (.getfield 37, 3) := by decide +kernel
theorem dX8_feed_42 : decode cX8_feed 42 = .ok (.iconst 1, 1) := by decide +kernel
theorem dX8_feed_43 : decode cX8_feed 43 = .ok (.iadd, 1) := by decide +kernel
theorem dX8_feed_44 : decode cX8_feed 44 = .ok (.putfield 37, 3) := by decide +kernel
theorem dX8_feed_47 : decode cX8_feed 47 = .ok (.aload_n 0, 1) := by decide +kernel
theorem dX8_feed_48 : decode cX8_feed 48 = .ok (.getfield 37, 3) := by decide +kernel
theorem dX8_feed_51 : decode cX8_feed 51 = .ok (.ireturn, 1) := by decide +kernel
theorem dX8_fine_0 : decode cX8_fine 0 = .ok (.aload_n 0, 1) := by decide +kernel
theorem dX8_fine_1 : decode cX8_fine 1 = .ok (.getfield 41, 3) := by decide +kernel
theorem dX8_fine_4 : decode cX8_fine 4 = .ok (.ifCond .ne 7, 3) := by decide +kernel
theorem dX8_fine_7 : decode cX8_fine 7 = .ok (.iconst 1, 1) := by decide +kernel
theorem dX8_fine_8 : decode cX8_fine 8 = .ok (.goto 4, 3) := by decide +kernel
theorem dX8_fine_11 : decode cX8_fine 11 = .ok (.iconst 0, 1) := by decide +kernel
theorem dX8_fine_12 : decode cX8_fine 12 = .ok (.ireturn, 1) := by decide +kernel
theorem dX8_fail_0 : decode cX8_fail 0 = .ok (.aload_n 0, 1) := by decide +kernel
theorem dX8_fail_1 : decode cX8_fail 1 = .ok (.invokevirtual 44, 3) := by decide +kernel
theorem dX8_fail_4 : decode cX8_fail 4 = .ok (.ifCond .eq 13, 3) := by decide +kernel
theorem dX8_fail_7 : decode cX8_fail 7 = .ok (.aload_n 0, 1) := by decide +kernel
theorem dX8_fail_8 : decode cX8_fail 8 = .ok (.iload_n 1, 1) := by decide +kernel
theorem dX8_fail_9 : decode cX8_fail 9 = .ok (.putfield 41, 3) := by decide +kernel
theorem dX8_fail_12 : decode cX8_fail 12 = .ok (.aload_n 0, 1) := by decide +kernel
theorem dX8_fail_13 : decode cX8_fail 13 = .ok (.iload_n 2, 1) := by decide +kernel
theorem dX8_fail_14 : decode cX8_fail 14 = .ok (.putfield 48, 3) := by decide +kernel
theorem dX8_fail_17 : decode cX8_fail 17 = .ok (.return_, 1) := by decide +kernel
theorem dX8_here_0 : decode cX8_here 0 = .ok (.aload_n 0, 1) := by decide +kernel
theorem dX8_here_1 : decode cX8_here 1 = .ok (.getfield 51, 3) := by decide +kernel
theorem dX8_here_4 : decode cX8_here 4 = .ok (.aload_n 0, 1) := by decide +kernel
theorem dX8_here_5 : decode cX8_here 5 = .ok (.getfield 37, 3) := by decide +kernel
theorem dX8_here_8 : decode cX8_here 8 = .ok (.if_icmp .ge 30, 3) := by decide +kernel
theorem dX8_here_11 : decode cX8_here 11 = .ok (.aload_n 0, 1) := by decide +kernel
theorem dX8_here_12 : decode cX8_here 12 = .ok (.getfield 13, 3) := by decide +kernel
theorem dX8_here_15 : decode cX8_here 15 = .ok (.aload_n 0, 1) := by decide +kernel
theorem dX8_here_16 : decode cX8_here 16 = .ok (.getfield 51, 3) := by decide +kernel
theorem dX8_here_19 : decode cX8_here 19 = .ok (.iaload, 1) := by decide +kernel
theorem dX8_here_20 : decode cX8_here 20 = .ok (.bipush 32, 2) := by decide +kernel
theorem dX8_here_22 : decode cX8_here 22 = .ok (.if_icmp .ne 16, 3) := by decide +kernel
theorem dX8_here_25 : decode cX8_here 25 = .ok (.aload_n 0, 1) := by decide +kernel
theorem dX8_here_26 : decode cX8_here 26 = .ok (.dup, 1) := by decide +kernel
theorem dX8_here_27 : decode cX8_here 27 = .ok (.getfield 51, 3) := by decide +kernel
theorem dX8_here_30 : decode cX8_here 30 = .ok (.iconst 1, 1) := by decide +kernel
theorem dX8_here_31 : decode cX8_here 31 = .ok (.iadd, 1) := by decide +kernel
theorem dX8_here_32 : decode cX8_here 32 = .ok (.putfield 51, 3) := by decide +kernel
theorem dX8_here_35 : decode cX8_here 35 = .ok (.goto (-35), 3) := by decide +kernel
theorem dX8_here_38 : decode cX8_here 38 = .ok (.aload_n 0, 1) := by decide +kernel
theorem dX8_here_39 : decode cX8_here 39 = .ok (.getfield 51, 3) := by decide +kernel
theorem dX8_here_42 : decode cX8_here 42 = .ok (.aload_n 0, 1) := by decide +kernel
theorem dX8_here_43 : decode cX8_here 43 = .ok (.getfield 37, 3) := by decide +kernel
theorem dX8_here_46 : decode cX8_here 46 = .ok (.if_icmp .ge 15, 3) := by decide +kernel
theorem dX8_here_49 : decode cX8_here 49 = .ok (.aload_n 0, 1) := by decide +kernel
theorem dX8_here_50 : decode cX8_here 50 = .ok (.getfield 13, 3) := by decide +kernel
theorem dX8_here_53 : decode cX8_here 53 = .ok (.aload_n 0, 1) := by decide +kernel
theorem dX8_here_54 : decode cX8_here 54 = .ok (.getfield 51, 3) := by decide +kernel
theorem dX8_here_57 : decode cX8_here 57 = .ok (.iaload, 1) := by decide +kernel
theorem dX8_here_58 : decode cX8_here 58 = .ok (.goto 4, 3) := by decide +kernel
theorem dX8_here_61 : decode cX8_here 61 = .ok (.iconst 0, 1) := by decide +kernel
theorem dX8_here_62 : decode cX8_here 62 = .ok (.ireturn, 1) := by decide +kernel
theorem dX8_number_0 : decode cX8_number 0 = .ok (.aload_n 0, 1) := by decide +kernel
theorem dX8_number_1 : decode cX8_number 1 = .ok (.invokevirtual 44, 3) := by decide +kernel
theorem dX8_number_4 : decode cX8_number 4 = .ok (.ifCond .ne 5, 3) := by decide +kernel
theorem dX8_number_7 : decode cX8_number 7 = .ok (.iload_n 1, 1) := by decide +kernel
theorem dX8_number_8 : decode cX8_number 8 = .ok (.ireturn, 1) := by decide +kernel
theorem dX8_number_9 : decode cX8_number 9 = .ok (.aload_n 0, 1) := by decide +kernel
theorem dX8_number_10 : decode cX8_number 10 = .ok (.invokevirtual 54, 3) := by decide +kernel
theorem dX8_number_13 : decode cX8_number 13 = .ok (.istore_n 3, 1) := by decide +kernel
theorem dX8_number_14 : decode cX8_number 14 = .ok (.aload_n 0, 1) := by decide +kernel
theorem dX8_number_15 : decode cX8_number 15 = .ok (.aload_n 0, 1) := by decide +kernel
theorem dX8_number_16 : decode cX8_number 16 = .ok (.getfield 51, 3) := by decide +kernel
theorem dX8_number_19 : decode cX8_number 19 = .ok (.putfield 58, 3) := by decide +kernel
theorem dX8_number_22 : decode cX8_number 22 = .ok (.iconst 0, 1) := by decide +kernel
theorem dX8_number_23 : decode cX8_number 23 = .ok (.istore 4, 2) := by decide +kernel
theorem dX8_number_25 : decode cX8_number 25 = .ok (.aload_n 0, 1) := by decide +kernel
theorem dX8_number_26 : decode cX8_number 26 = .ok (.getfield 51, 3) := by decide +kernel
theorem dX8_number_29 : decode cX8_number 29 = .ok (.aload_n 0, 1) := by decide +kernel
theorem dX8_number_30 : decode cX8_number 30 = .ok (.getfield 37, 3) := by decide +kernel
theorem dX8_number_33 : decode cX8_number 33 = .ok (.if_icmp .ge 73, 3) := by decide +kernel
theorem dX8_number_36 : decode cX8_number 36 = .ok (.aload_n 0, 1) := by decide +kernel
theorem dX8_number_37 : decode cX8_number 37 = .ok (.getfield 13, 3) := by decide +kernel
theorem dX8_number_40 : decode cX8_number 40 = .ok (.aload_n 0, 1) := by decide +kernel
theorem dX8_number_41 : decode cX8_number 41 = .ok (.getfield 51, 3) := by decide +kernel
theorem dX8_number_44 : decode cX8_number 44 = .ok (.iaload, 1) := by decide +kernel
theorem dX8_number_45 : decode cX8_number 45 = .ok (.bipush 48, 2) := by decide +kernel
theorem dX8_number_47 : decode cX8_number 47 = .ok (.bipush 57, 2) := by decide +kernel
theorem dX8_number_49 : decode cX8_number 49 = .ok (.invokestatic 32, 3) := by decide +kernel
theorem dX8_number_52 : decode cX8_number 52 = .ok (.ifCond .eq 54, 3) := by decide +kernel
theorem dX8_number_55 : decode cX8_number 55 = .ok (.aload_n 0, 1) := by decide +kernel
theorem dX8_number_56 : decode cX8_number 56 = .ok (.getfield 51, 3) := by decide +kernel
theorem dX8_number_59 : decode cX8_number 59 = .ok (.aload_n 0, 1) := by decide +kernel
theorem dX8_number_60 : decode cX8_number 60 = .ok (.getfield 58, 3) := by decide +kernel
theorem dX8_number_63 : decode cX8_number 63 = .ok (.isub, 1) := by decide +kernel
theorem dX8_number_64 : decode cX8_number 64 = .ok (.iconst 4, 1) := by decide +kernel
theorem dX8_number_65 : decode cX8_number 65 = .ok (.if_icmp .ge 24, 3) := by decide +kernel
theorem dX8_number_68 : decode cX8_number 68 = .ok (.bipush 10, 2) := by decide +kernel
theorem dX8_number_70 : decode cX8_number 70 = .ok (.iload 4, 2) := by decide +kernel
theorem dX8_number_72 : decode cX8_number 72 = .ok (.imul, 1) := by decide +kernel
theorem dX8_number_73 : decode cX8_number 73 = .ok (.aload_n 0, 1) := by decide +kernel
theorem dX8_number_74 : decode cX8_number 74 = .ok (.getfield 13, 3) := by decide +kernel
theorem dX8_number_77 : decode cX8_number 77 = .ok (.aload_n 0, 1) := by decide +kernel
theorem dX8_number_78 : decode cX8_number 78 = .ok (.getfield 51, 3) := by decide +kernel
theorem dX8_number_81 : decode cX8_number 81 = .ok (.iaload, 1) := by decide +kernel
theorem dX8_number_82 : decode cX8_number 82 = .ok (.iadd, 1) := by decide +kernel
theorem dX8_number_83 : decode cX8_number 83 = .ok (.bipush 48, 2) := by decide +kernel
theorem dX8_number_85 : decode cX8_number 85 = .ok (.isub, 1) := by decide +kernel
theorem dX8_number_86 : decode cX8_number 86 = .ok (.goto 5, 3) := by decide +kernel
theorem dX8_number_89 : decode cX8_number 89 = .ok (.iload 4, 2) := by decide +kernel
theorem dX8_number_91 : decode cX8_number 91 = .ok (.istore 4, 2) := by decide +kernel
theorem dX8_number_93 : decode cX8_number 93 = .ok (.aload_n 0, 1) := by decide +kernel
theorem dX8_number_94 : decode cX8_number 94 = .ok (.dup, 1) := by decide +kernel
theorem dX8_number_95 : decode cX8_number 95 = .ok (.getfield 51, 3) := by decide +kernel
theorem dX8_number_98 : decode cX8_number 98 = .ok (.iconst 1, 1) := by decide +kernel
theorem dX8_number_99 : decode cX8_number 99 = .ok (.iadd, 1) := by decide +kernel
theorem dX8_number_100 : decode cX8_number 100 = .ok (.putfield 51, 3) := by decide +kernel
theorem dX8_number_103 : decode cX8_number 103 = .ok (.goto (-78), 3) := by decide +kernel
theorem dX8_number_106 : decode cX8_number 106 = .ok (.iload_n 3, 1) := by decide +kernel
theorem dX8_number_107 : decode cX8_number 107 = .ok (.bipush 48, 2) := by decide +kernel
theorem dX8_number_109 : decode cX8_number 109 = .ok (.bipush 57, 2) := by decide +kernel
theorem dX8_number_111 : decode cX8_number 111 = .ok (.invokestatic 32, 3) := by decide +kernel
theorem dX8_number_114 : decode cX8_number 114 = .ok (.ifCond .ne 15, 3) := by decide +kernel
theorem dX8_number_117 : decode cX8_number 117 = .ok (.aload_n 0, 1) := by decide +kernel
theorem dX8_number_118 : decode cX8_number 118 = .ok (.iconst 1, 1) := by decide +kernel
theorem dX8_number_119 : decode cX8_number 119 = .ok (.aload_n 0, 1) := by decide +kernel
theorem dX8_number_120 : decode cX8_number 120 = .ok (.getfield 58, 3) := by decide +kernel
theorem dX8_number_123 : decode cX8_number 123 = .ok (.invokevirtual 61, 3) := by decide +kernel
theorem dX8_number_126 : decode cX8_number 126 = .ok (.goto 35, 3) := by decide +kernel
theorem dX8_number_129 : decode cX8_number 129 = .ok (.aload_n 0, 1) := by decide +kernel
theorem dX8_number_130 : decode cX8_number 130 = .ok (.getfield 51, 3) := by decide +kernel
theorem dX8_number_133 : decode cX8_number 133 = .ok (.aload_n 0, 1) := by decide +kernel
theorem dX8_number_134 : decode cX8_number 134 = .ok (.getfield 58, 3) := by decide +kernel
theorem dX8_number_137 : decode cX8_number 137 = .ok (.isub, 1) := by decide +kernel
theorem dX8_number_138 : decode cX8_number 138 = .ok (.iconst 4, 1) := by decide +kernel
theorem dX8_number_139 : decode cX8_number 139 = .ok (.if_icmp .gt 13, 3) := by decide +kernel
theorem dX8_number_142 : decode cX8_number 142 = .ok (.iload 4, 2) := by decide +kernel
theorem dX8_number_144 : decode cX8_number 144 = .ok (.iload_n 1, 1) := by decide +kernel
theorem dX8_number_145 : decode cX8_number 145 = .ok (.iload_n 2, 1) := by decide +kernel
theorem dX8_number_146 : decode cX8_number 146 = .ok (.invokestatic 32, 3) := by decide +kernel
theorem dX8_number_149 : decode cX8_number 149 = .ok (.ifCond .ne 12, 3) := by decide +kernel
theorem dX8_number_152 : decode cX8_number 152 = .ok (.aload_n 0, 1) := by decide +kernel
theorem dX8_number_153 : decode cX8_number 153 = .ok (.iconst 2, 1) := by decide +kernel
theorem dX8_number_154 : decode cX8_number 154 = .ok (.aload_n 0, 1) := by decide +kernel
theorem dX8_number_155 : decode cX8_number 155 = .ok (.getfield 58, 3) := by decide +kernel
theorem dX8_number_158 : decode cX8_number 158 = .ok (.invokevirtual 61, 3) := by decide +kernel
theorem dX8_number_161 : decode cX8_number 161 = .ok (.iload 4, 2) := by decide +kernel
theorem dX8_number_163 : decode cX8_number 163 = .ok (.ireturn, 1) := by decide +kernel
end
section
theorem dX8_readClock_0 : decode cX8_readClock 0 = .ok (.aload_n 0, 1) := by decide +kernel
theorem dX8_readClock_1 : decode cX8_readClock 1 = .ok (.getfield 7, 3) := by decide +kernel
theorem dX8_readClock_4 : decode cX8_readClock 4 = .ok (.sipush 3648, 3) := by decide +kernel
theorem dX8_readClock_7 : decode cX8_readClock 7 = .ok (.iaload, 1) := by decide +kernel
theorem dX8_readClock_8 : decode cX8_readClock 8 = .ok (.istore_n 2, 1) := by decide +kernel
theorem dX8_readClock_9 : decode cX8_readClock 9 = .ok (.iload_n 2, 1) := by decide +kernel
theorem dX8_readClock_10 : decode cX8_readClock 10 = .ok (.bipush 8, 2) := by decide +kernel
theorem dX8_readClock_12 : decode cX8_readClock 12 = .ok (.if_icmp .ne 10, 3) := by decide +kernel
theorem dX8_readClock_15 : decode cX8_readClock 15 = .ok (.aload_n 0, 1) := by decide +kernel
theorem dX8_readClock_16 : decode cX8_readClock 16 = .ok (.iconst 3, 1) := by decide +kernel
theorem dX8_readClock_17 : decode cX8_readClock 17 = .ok (.iload_n 1, 1) := by decide +kernel
theorem dX8_readClock_18 : decode cX8_readClock 18 = .ok (.invokevirtual 61, 3) := by decide +kernel
theorem dX8_readClock_21 : decode cX8_readClock 21 = .ok (.return_, 1) := by decide +kernel
theorem dX8_readClock_22 : decode cX8_readClock 22 = .ok (.aload_n 0, 1) := by decide +kernel
theorem dX8_readClock_23 : decode cX8_readClock 23 = .ok (.getfield 7, 3) := by decide +kernel
theorem dX8_readClock_26 : decode cX8_readClock 26 = .ok (.sipush 3651, 3) := by decide +kernel
theorem dX8_readClock_29 : decode cX8_readClock 29 = .ok (.iload_n 2, 1) := by decide +kernel
theorem dX8_readClock_30 : decode cX8_readClock 30 = .ok (.iadd, 1) := by decide +kernel
theorem dX8_readClock_31 : decode cX8_readClock 31 = .ok (.aload_n 0, 1) := by decide +kernel
theorem dX8_readClock_32 : decode cX8_readClock 32 = .ok (.iconst 0, 1) := by decide +kernel
theorem dX8_readClock_33 : decode cX8_readClock 33 = .ok (.sipush 9999, 3) := by decide +kernel
theorem dX8_readClock_36 : decode cX8_readClock 36 = .ok (.invokevirtual 65, 3) := by decide +kernel
theorem dX8_readClock_39 : decode cX8_readClock 39 = .ok (.iastore, 1) := by decide +kernel
theorem dX8_readClock_40 : decode cX8_readClock 40 = .ok (.aload_n 0, 1) := by decide +kernel
theorem dX8_readClock_41 : decode cX8_readClock 41 = .ok (.getfield 7, 3) := by decide +kernel
theorem dX8_readClock_44 : decode cX8_readClock 44 = .ok (.sipush 3659, 3) := by decide +kernel
theorem dX8_readClock_47 : decode cX8_readClock 47 = .ok (.iload_n 2, 1) := by decide +kernel
theorem dX8_readClock_48 : decode cX8_readClock 48 = .ok (.iadd, 1) := by decide +kernel
theorem dX8_readClock_49 : decode cX8_readClock 49 = .ok (.aload_n 0, 1) := by decide +kernel
theorem dX8_readClock_50 : decode cX8_readClock 50 = .ok (.bipush 90, 2) := by decide +kernel
theorem dX8_readClock_52 : decode cX8_readClock 52 = .ok (.bipush 110, 2) := by decide +kernel
theorem dX8_readClock_54 : decode cX8_readClock 54 = .ok (.invokevirtual 65, 3) := by decide +kernel
theorem dX8_readClock_57 : decode cX8_readClock 57 = .ok (.iastore, 1) := by decide +kernel
theorem dX8_readClock_58 : decode cX8_readClock 58 = .ok (.aload_n 0, 1) := by decide +kernel
theorem dX8_readClock_59 : decode cX8_readClock 59 = .ok (.getfield 7, 3) := by decide +kernel
theorem dX8_readClock_62 : decode cX8_readClock 62 = .ok (.sipush 3648, 3) := by decide +kernel
theorem dX8_readClock_65 : decode cX8_readClock 65 = .ok (.dup2, 1) := by decide +kernel
theorem dX8_readClock_66 : decode cX8_readClock 66 = .ok (.iaload, 1) := by decide +kernel
theorem dX8_readClock_67 : decode cX8_readClock 67 = .ok (.iconst 1, 1) := by decide +kernel
theorem dX8_readClock_68 : decode cX8_readClock 68 = .ok (.iadd, 1) := by decide +kernel
theorem dX8_readClock_69 : decode cX8_readClock 69 = .ok (.iastore, 1) := by decide +kernel
theorem dX8_readClock_70 : decode cX8_readClock 70 = .ok (.return_, 1) := by decide +kernel
theorem dX8_readOther_0 : decode cX8_readOther 0 = .ok (.iload_n 1, 1) := by decide +kernel
theorem dX8_readOther_1 : decode cX8_readOther 1 = .ok (.bipush 102, 2) := by decide +kernel
theorem dX8_readOther_3 : decode cX8_readOther 3 = .ok (.if_icmp .ne 11, 3) := by decide +kernel
theorem dX8_readOther_6 : decode cX8_readOther 6 = .ok (.aload_n 0, 1) := by decide +kernel
theorem dX8_readOther_7 : decode cX8_readOther 7 = .ok (.getfield 69, 3) := by decide +kernel
theorem dX8_readOther_10 : decode cX8_readOther 10 = .ok (.iconst 1, 1) := by decide +kernel
theorem dX8_readOther_11 : decode cX8_readOther 11 = .ok (.if_icmp .eq 17, 3) := by decide +kernel
theorem dX8_readOther_14 : decode cX8_readOther 14 = .ok (.iload_n 1, 1) := by decide +kernel
theorem dX8_readOther_15 : decode cX8_readOther 15 = .ok (.bipush 115, 2) := by decide +kernel
theorem dX8_readOther_17 : decode cX8_readOther 17 = .ok (.if_icmp .ne 15, 3) := by decide +kernel
theorem dX8_readOther_20 : decode cX8_readOther 20 = .ok (.aload_n 0, 1) := by decide +kernel
theorem dX8_readOther_21 : decode cX8_readOther 21 = .ok (.getfield 72, 3) := by decide +kernel
theorem dX8_readOther_24 : decode cX8_readOther 24 = .ok (.iconst 1, 1) := by decide +kernel
theorem dX8_readOther_25 : decode cX8_readOther 25 = .ok (.if_icmp .ne 7, 3) := by decide +kernel
theorem dX8_readOther_28 : decode cX8_readOther 28 = .ok (.iconst 1, 1) := by decide +kernel
theorem dX8_readOther_29 : decode cX8_readOther 29 = .ok (.goto 4, 3) := by decide +kernel
theorem dX8_readOther_32 : decode cX8_readOther 32 = .ok (.iconst 0, 1) := by decide +kernel
theorem dX8_readOther_33 : decode cX8_readOther 33 = .ok (.istore_n 3, 1) := by decide +kernel
theorem dX8_readOther_34 : decode cX8_readOther 34 = .ok (.iload_n 3, 1) := by decide +kernel
theorem dX8_readOther_35 : decode cX8_readOther 35 = .ok (.ifCond .eq 12, 3) := by decide +kernel
theorem dX8_readOther_38 : decode cX8_readOther 38 = .ok (.aload_n 0, 1) := by decide +kernel
theorem dX8_readOther_39 : decode cX8_readOther 39 = .ok (.iconst 4, 1) := by decide +kernel
theorem dX8_readOther_40 : decode cX8_readOther 40 = .ok (.iload_n 2, 1) := by decide +kernel
theorem dX8_readOther_41 : decode cX8_readOther 41 = .ok (.invokevirtual 61, 3) := by decide +kernel
theorem dX8_readOther_44 : decode cX8_readOther 44 = .ok (.goto 142, 3) := by decide +kernel
theorem dX8_readOther_47 : decode cX8_readOther 47 = .ok (.iload_n 1, 1) := by decide +kernel
theorem dX8_readOther_48 : decode cX8_readOther 48 = .ok (.bipush 102, 2) := by decide +kernel
theorem dX8_readOther_50 : decode cX8_readOther 50 = .ok (.if_icmp .ne 25, 3) := by decide +kernel
theorem dX8_readOther_53 : decode cX8_readOther 53 = .ok (.aload_n 0, 1) := by decide +kernel
theorem dX8_readOther_54 : decode cX8_readOther 54 = .ok (.iconst 1, 1) := by decide +kernel
theorem dX8_readOther_55 : decode cX8_readOther 55 = .ok (.putfield 69, 3) := by decide +kernel
theorem dX8_readOther_58 : decode cX8_readOther 58 = .ok (.aload_n 0, 1) := by decide +kernel
theorem dX8_readOther_59 : decode cX8_readOther 59 = .ok (.getfield 7, 3) := by decide +kernel
theorem dX8_readOther_62 : decode cX8_readOther 62 = .ok (.sipush 3649, 3) := by decide +kernel
theorem dX8_readOther_65 : decode cX8_readOther 65 = .ok (.aload_n 0, 1) := by decide +kernel
theorem dX8_readOther_66 : decode cX8_readOther 66 = .ok (.iconst 0, 1) := by decide +kernel
theorem dX8_readOther_67 : decode cX8_readOther 67 = .ok (.iconst 3, 1) := by decide +kernel
theorem dX8_readOther_68 : decode cX8_readOther 68 = .ok (.invokevirtual 65, 3) := by decide +kernel
theorem dX8_readOther_71 : decode cX8_readOther 71 = .ok (.iastore, 1) := by decide +kernel
theorem dX8_readOther_72 : decode cX8_readOther 72 = .ok (.goto 114, 3) := by decide +kernel
theorem dX8_readOther_75 : decode cX8_readOther 75 = .ok (.iload_n 1, 1) := by decide +kernel
theorem dX8_readOther_76 : decode cX8_readOther 76 = .ok (.bipush 115, 2) := by decide +kernel
theorem dX8_readOther_78 : decode cX8_readOther 78 = .ok (.if_icmp .ne 26, 3) := by decide +kernel
theorem dX8_readOther_81 : decode cX8_readOther 81 = .ok (.aload_n 0, 1) := by decide +kernel
theorem dX8_readOther_82 : decode cX8_readOther 82 = .ok (.iconst 1, 1) := by decide +kernel
theorem dX8_readOther_83 : decode cX8_readOther 83 = .ok (.putfield 72, 3) := by decide +kernel
theorem dX8_readOther_86 : decode cX8_readOther 86 = .ok (.aload_n 0, 1) := by decide +kernel
theorem dX8_readOther_87 : decode cX8_readOther 87 = .ok (.getfield 7, 3) := by decide +kernel
theorem dX8_readOther_90 : decode cX8_readOther 90 = .ok (.sipush 3650, 3) := by decide +kernel
theorem dX8_readOther_93 : decode cX8_readOther 93 = .ok (.aload_n 0, 1) := by decide +kernel
theorem dX8_readOther_94 : decode cX8_readOther 94 = .ok (.iconst 0, 1) := by decide +kernel
theorem dX8_readOther_95 : decode cX8_readOther 95 = .ok (.bipush 80, 2) := by decide +kernel
theorem dX8_readOther_97 : decode cX8_readOther 97 = .ok (.invokevirtual 65, 3) := by decide +kernel
theorem dX8_readOther_100 : decode cX8_readOther 100 = .ok (.iastore, 1) := by decide +kernel
theorem dX8_readOther_101 : decode cX8_readOther 101 = .ok (.goto 85, 3) := by decide +kernel
theorem dX8_readOther_104 : decode cX8_readOther 104 = .ok (.iload_n 1, 1) := by decide +kernel
theorem dX8_readOther_105 : decode cX8_readOther 105 = .ok (.bipush 108, 2) := by decide +kernel
theorem dX8_readOther_107 : decode cX8_readOther 107 = .ok (.if_icmp .ne 73, 3) := by decide +kernel
theorem dX8_readOther_110 : decode cX8_readOther 110 = .ok (.aload_n 0, 1) := by decide +kernel
theorem dX8_readOther_111 : decode cX8_readOther 111 = .ok (.iconst 0, 1) := by decide +kernel
theorem dX8_readOther_112 : decode cX8_readOther 112 = .ok (.aload_n 0, 1) := by decide +kernel
theorem dX8_readOther_113 : decode cX8_readOther 113 = .ok (.getfield 7, 3) := by decide +kernel
theorem dX8_readOther_116 : decode cX8_readOther 116 = .ok (.sipush 3648, 3) := by decide +kernel
theorem dX8_readOther_119 : decode cX8_readOther 119 = .ok (.iaload, 1) := by decide +kernel
theorem dX8_readOther_120 : decode cX8_readOther 120 = .ok (.iconst 1, 1) := by decide +kernel
theorem dX8_readOther_121 : decode cX8_readOther 121 = .ok (.isub, 1) := by decide +kernel
theorem dX8_readOther_122 : decode cX8_readOther 122 = .ok (.invokevirtual 65, 3) := by decide +kernel
theorem dX8_readOther_125 : decode cX8_readOther 125 = .ok (.istore 4, 2) := by decide +kernel
theorem dX8_readOther_127 : decode cX8_readOther 127 = .ok (.aload_n 0, 1) := by decide +kernel
theorem dX8_readOther_128 : decode cX8_readOther 128 = .ok (.invokevirtual 44, 3) := by decide +kernel
theorem dX8_readOther_131 : decode cX8_readOther 131 = .ok (.ifCond .eq 27, 3) := by decide +kernel
theorem dX8_readOther_134 : decode cX8_readOther 134 = .ok (.aload_n 0, 1) := by decide +kernel
theorem dX8_readOther_135 : decode cX8_readOther 135 = .ok (.getfield 7, 3) := by decide +kernel
theorem dX8_readOther_138 : decode cX8_readOther 138 = .ok (.sipush 3675, 3) := by decide +kernel
theorem dX8_readOther_141 : decode cX8_readOther 141 = .ok (.iload 4, 2) := by decide +kernel
theorem dX8_readOther_143 : decode cX8_readOther 143 = .ok (.iadd, 1) := by decide +kernel
theorem dX8_readOther_144 : decode cX8_readOther 144 = .ok (.iaload, 1) := by decide +kernel
theorem dX8_readOther_145 : decode cX8_readOther 145 = .ok (.iconst 1, 1) := by decide +kernel
theorem dX8_readOther_146 : decode cX8_readOther 146 = .ok (.if_icmp .ne 12, 3) := by decide +kernel
theorem dX8_readOther_149 : decode cX8_readOther 149 = .ok (.aload_n 0, 1) := by decide +kernel
theorem dX8_readOther_150 : decode cX8_readOther 150 = .ok (.iconst 4, 1) := by decide +kernel
theorem dX8_readOther_151 : decode cX8_readOther 151 = .ok (.aload_n 0, 1) := by decide +kernel
theorem dX8_readOther_152 : decode cX8_readOther 152 = .ok (.getfield 58, 3) := by decide +kernel
theorem dX8_readOther_155 : decode cX8_readOther 155 = .ok (.invokevirtual 61, 3) := by decide +kernel
theorem dX8_readOther_158 : decode cX8_readOther 158 = .ok (.aload_n 0, 1) := by decide +kernel
theorem dX8_readOther_159 : decode cX8_readOther 159 = .ok (.invokevirtual 44, 3) := by decide +kernel
theorem dX8_readOther_162 : decode cX8_readOther 162 = .ok (.ifCond .eq 15, 3) := by decide +kernel
theorem dX8_readOther_165 : decode cX8_readOther 165 = .ok (.aload_n 0, 1) := by decide +kernel
theorem dX8_readOther_166 : decode cX8_readOther 166 = .ok (.getfield 7, 3) := by decide +kernel
theorem dX8_readOther_169 : decode cX8_readOther 169 = .ok (.sipush 3675, 3) := by decide +kernel
theorem dX8_readOther_172 : decode cX8_readOther 172 = .ok (.iload 4, 2) := by decide +kernel
theorem dX8_readOther_174 : decode cX8_readOther 174 = .ok (.iadd, 1) := by decide +kernel
theorem dX8_readOther_175 : decode cX8_readOther 175 = .ok (.iconst 1, 1) := by decide +kernel
theorem dX8_readOther_176 : decode cX8_readOther 176 = .ok (.iastore, 1) := by decide +kernel
theorem dX8_readOther_177 : decode cX8_readOther 177 = .ok (.goto 9, 3) := by decide +kernel
theorem dX8_readOther_180 : decode cX8_readOther 180 = .ok (.aload_n 0, 1) := by decide +kernel
theorem dX8_readOther_181 : decode cX8_readOther 181 = .ok (.iconst 1, 1) := by decide +kernel
theorem dX8_readOther_182 : decode cX8_readOther 182 = .ok (.iload_n 2, 1) := by decide +kernel
theorem dX8_readOther_183 : decode cX8_readOther 183 = .ok (.invokevirtual 61, 3) := by decide +kernel
theorem dX8_readOther_186 : decode cX8_readOther 186 = .ok (.return_, 1) := by decide +kernel
theorem dX8_readClause_0 : decode cX8_readClause 0 = .ok (.aload_n 0, 1) := by decide +kernel
theorem dX8_readClause_1 : decode cX8_readClause 1 = .ok (.invokevirtual 54, 3) := by decide +kernel
theorem dX8_readClause_4 : decode cX8_readClause 4 = .ok (.istore_n 1, 1) := by decide +kernel
theorem dX8_readClause_5 : decode cX8_readClause 5 = .ok (.aload_n 0, 1) := by decide +kernel
theorem dX8_readClause_6 : decode cX8_readClause 6 = .ok (.getfield 51, 3) := by decide +kernel
theorem dX8_readClause_9 : decode cX8_readClause 9 = .ok (.istore_n 2, 1) := by decide +kernel
theorem dX8_readClause_10 : decode cX8_readClause 10 = .ok (.aload_n 0, 1) := by decide +kernel
theorem dX8_readClause_11 : decode cX8_readClause 11 = .ok (.dup, 1) := by decide +kernel
theorem dX8_readClause_12 : decode cX8_readClause 12 = .ok (.getfield 51, 3) := by decide +kernel
theorem dX8_readClause_15 : decode cX8_readClause 15 = .ok (.iconst 1, 1) := by decide +kernel
theorem dX8_readClause_16 : decode cX8_readClause 16 = .ok (.iadd, 1) := by decide +kernel
theorem dX8_readClause_17 : decode cX8_readClause 17 = .ok (.putfield 51, 3) := by decide +kernel
theorem dX8_readClause_20 : decode cX8_readClause 20 = .ok (.iload_n 1, 1) := by decide +kernel
theorem dX8_readClause_21 : decode cX8_readClause 21 = .ok (.bipush 107, 2) := by decide +kernel
theorem dX8_readClause_23 : decode cX8_readClause 23 = .ok (.if_icmp .ne 11, 3) := by decide +kernel
theorem dX8_readClause_26 : decode cX8_readClause 26 = .ok (.aload_n 0, 1) := by decide +kernel
theorem dX8_readClause_27 : decode cX8_readClause 27 = .ok (.iload_n 2, 1) := by decide +kernel
theorem dX8_readClause_28 : decode cX8_readClause 28 = .ok (.invokevirtual 75, 3) := by decide +kernel
theorem dX8_readClause_31 : decode cX8_readClause 31 = .ok (.goto 9, 3) := by decide +kernel
theorem dX8_readClause_34 : decode cX8_readClause 34 = .ok (.aload_n 0, 1) := by decide +kernel
theorem dX8_readClause_35 : decode cX8_readClause 35 = .ok (.iload_n 1, 1) := by decide +kernel
theorem dX8_readClause_36 : decode cX8_readClause 36 = .ok (.iload_n 2, 1) := by decide +kernel
theorem dX8_readClause_37 : decode cX8_readClause 37 = .ok (.invokevirtual 79, 3) := by decide +kernel
theorem dX8_readClause_40 : decode cX8_readClause 40 = .ok (.aload_n 0, 1) := by decide +kernel
theorem dX8_readClause_41 : decode cX8_readClause 41 = .ok (.invokevirtual 44, 3) := by decide +kernel
theorem dX8_readClause_44 : decode cX8_readClause 44 = .ok (.ifCond .eq 31, 3) := by decide +kernel
theorem dX8_readClause_47 : decode cX8_readClause 47 = .ok (.aload_n 0, 1) := by decide +kernel
theorem dX8_readClause_48 : decode cX8_readClause 48 = .ok (.invokevirtual 54, 3) := by decide +kernel
theorem dX8_readClause_51 : decode cX8_readClause 51 = .ok (.bipush 59, 2) := by decide +kernel
theorem dX8_readClause_53 : decode cX8_readClause 53 = .ok (.if_icmp .eq 12, 3) := by decide +kernel
theorem dX8_readClause_56 : decode cX8_readClause 56 = .ok (.aload_n 0, 1) := by decide +kernel
theorem dX8_readClause_57 : decode cX8_readClause 57 = .ok (.iconst 1, 1) := by decide +kernel
theorem dX8_readClause_58 : decode cX8_readClause 58 = .ok (.aload_n 0, 1) := by decide +kernel
theorem dX8_readClause_59 : decode cX8_readClause 59 = .ok (.getfield 51, 3) := by decide +kernel
theorem dX8_readClause_62 : decode cX8_readClause 62 = .ok (.invokevirtual 61, 3) := by decide +kernel
theorem dX8_readClause_65 : decode cX8_readClause 65 = .ok (.aload_n 0, 1) := by decide +kernel
theorem dX8_readClause_66 : decode cX8_readClause 66 = .ok (.dup, 1) := by decide +kernel
theorem dX8_readClause_67 : decode cX8_readClause 67 = .ok (.getfield 51, 3) := by decide +kernel
theorem dX8_readClause_70 : decode cX8_readClause 70 = .ok (.iconst 1, 1) := by decide +kernel
theorem dX8_readClause_71 : decode cX8_readClause 71 = .ok (.iadd, 1) := by decide +kernel
theorem dX8_readClause_72 : decode cX8_readClause 72 = .ok (.putfield 51, 3) := by decide +kernel
theorem dX8_readClause_75 : decode cX8_readClause 75 = .ok (.return_, 1) := by decide +kernel
theorem dX8_clocks_0 : decode cX8_clocks 0 = .ok (.aload_n 0, 1) := by decide +kernel
theorem dX8_clocks_1 : decode cX8_clocks 1 = .ok (.iconst 0, 1) := by decide +kernel
theorem dX8_clocks_2 : decode cX8_clocks 2 = .ok (.putfield 51, 3) := by decide +kernel
theorem dX8_clocks_5 : decode cX8_clocks 5 = .ok (.aload_n 0, 1) := by decide +kernel
theorem dX8_clocks_6 : decode cX8_clocks 6 = .ok (.iconst 0, 1) := by decide +kernel
theorem dX8_clocks_7 : decode cX8_clocks 7 = .ok (.putfield 41, 3) := by decide +kernel
theorem dX8_clocks_10 : decode cX8_clocks 10 = .ok (.aload_n 0, 1) := by decide +kernel
theorem dX8_clocks_11 : decode cX8_clocks 11 = .ok (.iconst (-1), 1) := by decide +kernel
theorem dX8_clocks_12 : decode cX8_clocks 12 = .ok (.putfield 16, 3) := by decide +kernel
theorem dX8_clocks_15 : decode cX8_clocks 15 = .ok (.aload_n 0, 1) := by decide +kernel
theorem dX8_clocks_16 : decode cX8_clocks 16 = .ok (.iconst 0, 1) := by decide +kernel
theorem dX8_clocks_17 : decode cX8_clocks 17 = .ok (.putfield 69, 3) := by decide +kernel
theorem dX8_clocks_20 : decode cX8_clocks 20 = .ok (.aload_n 0, 1) := by decide +kernel
theorem dX8_clocks_21 : decode cX8_clocks 21 = .ok (.iconst 0, 1) := by decide +kernel
theorem dX8_clocks_22 : decode cX8_clocks 22 = .ok (.putfield 72, 3) := by decide +kernel
theorem dX8_clocks_25 : decode cX8_clocks 25 = .ok (.iconst 0, 1) := by decide +kernel
theorem dX8_clocks_26 : decode cX8_clocks 26 = .ok (.istore_n 1, 1) := by decide +kernel
theorem dX8_clocks_27 : decode cX8_clocks 27 = .ok (.iload_n 1, 1) := by decide +kernel
theorem dX8_clocks_28 : decode cX8_clocks 28 = .ok (.sipush 192, 3) := by decide +kernel
theorem dX8_clocks_31 : decode cX8_clocks 31 = .ok (.if_icmp .ge 20, 3) := by decide +kernel
theorem dX8_clocks_34 : decode cX8_clocks 34 = .ok (.aload_n 0, 1) := by decide +kernel
theorem dX8_clocks_35 : decode cX8_clocks 35 = .ok (.getfield 7, 3) := by decide +kernel
theorem dX8_clocks_38 : decode cX8_clocks 38 = .ok (.sipush 3648, 3) := by decide +kernel
theorem dX8_clocks_41 : decode cX8_clocks 41 = .ok (.iload_n 1, 1) := by decide +kernel
theorem dX8_clocks_42 : decode cX8_clocks 42 = .ok (.iadd, 1) := by decide +kernel
theorem dX8_clocks_43 : decode cX8_clocks 43 = .ok (.iconst 0, 1) := by decide +kernel
theorem dX8_clocks_44 : decode cX8_clocks 44 = .ok (.iastore, 1) := by decide +kernel
theorem dX8_clocks_45 : decode cX8_clocks 45 = .ok (.iinc 1 1, 3) := by decide +kernel
theorem dX8_clocks_48 : decode cX8_clocks 48 = .ok (.goto (-21), 3) := by decide +kernel
theorem dX8_clocks_51 : decode cX8_clocks 51 = .ok (.aload_n 0, 1) := by decide +kernel
theorem dX8_clocks_52 : decode cX8_clocks 52 = .ok (.getfield 7, 3) := by decide +kernel
theorem dX8_clocks_55 : decode cX8_clocks 55 = .ok (.sipush 3650, 3) := by decide +kernel
theorem dX8_clocks_58 : decode cX8_clocks 58 = .ok (.bipush 10, 2) := by decide +kernel
theorem dX8_clocks_60 : decode cX8_clocks 60 = .ok (.iastore, 1) := by decide +kernel
theorem dX8_clocks_61 : decode cX8_clocks 61 = .ok (.aload_n 0, 1) := by decide +kernel
theorem dX8_clocks_62 : decode cX8_clocks 62 = .ok (.invokevirtual 54, 3) := by decide +kernel
theorem dX8_clocks_65 : decode cX8_clocks 65 = .ok (.istore_n 1, 1) := by decide +kernel
theorem dX8_clocks_66 : decode cX8_clocks 66 = .ok (.aload_n 0, 1) := by decide +kernel
theorem dX8_clocks_67 : decode cX8_clocks 67 = .ok (.invokevirtual 44, 3) := by decide +kernel
theorem dX8_clocks_70 : decode cX8_clocks 70 = .ok (.ifCond .eq 26, 3) := by decide +kernel
theorem dX8_clocks_73 : decode cX8_clocks 73 = .ok (.aload_n 0, 1) := by decide +kernel
theorem dX8_clocks_74 : decode cX8_clocks 74 = .ok (.getfield 51, 3) := by decide +kernel
theorem dX8_clocks_77 : decode cX8_clocks 77 = .ok (.aload_n 0, 1) := by decide +kernel
theorem dX8_clocks_78 : decode cX8_clocks 78 = .ok (.getfield 37, 3) := by decide +kernel
theorem dX8_clocks_81 : decode cX8_clocks 81 = .ok (.if_icmp .ge 15, 3) := by decide +kernel
theorem dX8_clocks_84 : decode cX8_clocks 84 = .ok (.aload_n 0, 1) := by decide +kernel
theorem dX8_clocks_85 : decode cX8_clocks 85 = .ok (.invokevirtual 82, 3) := by decide +kernel
theorem dX8_clocks_88 : decode cX8_clocks 88 = .ok (.aload_n 0, 1) := by decide +kernel
theorem dX8_clocks_89 : decode cX8_clocks 89 = .ok (.invokevirtual 54, 3) := by decide +kernel
theorem dX8_clocks_92 : decode cX8_clocks 92 = .ok (.istore_n 1, 1) := by decide +kernel
theorem dX8_clocks_93 : decode cX8_clocks 93 = .ok (.goto (-27), 3) := by decide +kernel
theorem dX8_clocks_96 : decode cX8_clocks 96 = .ok (.aload_n 0, 1) := by decide +kernel
theorem dX8_clocks_97 : decode cX8_clocks 97 = .ok (.iconst 0, 1) := by decide +kernel
theorem dX8_clocks_98 : decode cX8_clocks 98 = .ok (.putfield 37, 3) := by decide +kernel
theorem dX8_clocks_101 : decode cX8_clocks 101 = .ok (.aload_n 0, 1) := by decide +kernel
theorem dX8_clocks_102 : decode cX8_clocks 102 = .ok (.invokevirtual 44, 3) := by decide +kernel
theorem dX8_clocks_105 : decode cX8_clocks 105 = .ok (.ifCond .ne 19, 3) := by decide +kernel
theorem dX8_clocks_108 : decode cX8_clocks 108 = .ok (.aload_n 0, 1) := by decide +kernel
theorem dX8_clocks_109 : decode cX8_clocks 109 = .ok (.aload_n 0, 1) := by decide +kernel
theorem dX8_clocks_110 : decode cX8_clocks 110 = .ok (.getfield 48, 3) := by decide +kernel
theorem dX8_clocks_113 : decode cX8_clocks 113 = .ok (.putfield 16, 3) := by decide +kernel
theorem dX8_clocks_116 : decode cX8_clocks 116 = .ok (.bipush (-10), 2) := by decide +kernel
theorem dX8_clocks_118 : decode cX8_clocks 118 = .ok (.aload_n 0, 1) := by decide +kernel
theorem dX8_clocks_119 : decode cX8_clocks 119 = .ok (.getfield 41, 3) := by decide +kernel
theorem dX8_clocks_122 : decode cX8_clocks 122 = .ok (.isub, 1) := by decide +kernel
theorem dX8_clocks_123 : decode cX8_clocks 123 = .ok (.ireturn, 1) := by decide +kernel
theorem dX8_clocks_124 : decode cX8_clocks 124 = .ok (.aload_n 0, 1) := by decide +kernel
theorem dX8_clocks_125 : decode cX8_clocks 125 = .ok (.getfield 7, 3) := by decide +kernel
theorem dX8_clocks_128 : decode cX8_clocks 128 = .ok (.sipush 3839, 3) := by decide +kernel
theorem dX8_clocks_131 : decode cX8_clocks 131 = .ok (.aload_n 0, 1) := by decide +kernel
theorem dX8_clocks_132 : decode cX8_clocks 132 = .ok (.getfield 7, 3) := by decide +kernel
theorem dX8_clocks_135 : decode cX8_clocks 135 = .ok (.sipush 191, 3) := by decide +kernel
theorem dX8_clocks_138 : decode cX8_clocks 138 = .ok (.iaload, 1) := by decide +kernel
theorem dX8_clocks_139 : decode cX8_clocks 139 = .ok (.iastore, 1) := by decide +kernel
theorem dX8_clocks_140 : decode cX8_clocks 140 = .ok (.aload_n 0, 1) := by decide +kernel
theorem dX8_clocks_141 : decode cX8_clocks 141 = .ok (.sipush 3648, 3) := by decide +kernel
theorem dX8_clocks_144 : decode cX8_clocks 144 = .ok (.iconst 0, 1) := by decide +kernel
theorem dX8_clocks_145 : decode cX8_clocks 145 = .ok (.invokevirtual 85, 3) := by decide +kernel
theorem dX8_clocks_148 : decode cX8_clocks 148 = .ok (.aload_n 0, 1) := by decide +kernel
theorem dX8_clocks_149 : decode cX8_clocks 149 = .ok (.iconst 0, 1) := by decide +kernel
theorem dX8_clocks_150 : decode cX8_clocks 150 = .ok (.putfield 88, 3) := by decide +kernel
theorem dX8_clocks_153 : decode cX8_clocks 153 = .ok (.aload_n 0, 1) := by decide +kernel
theorem dX8_clocks_154 : decode cX8_clocks 154 = .ok (.iconst 0, 1) := by decide +kernel
theorem dX8_clocks_155 : decode cX8_clocks 155 = .ok (.putfield 91, 3) := by decide +kernel
theorem dX8_clocks_158 : decode cX8_clocks 158 = .ok (.aload_n 0, 1) := by decide +kernel
theorem dX8_clocks_159 : decode cX8_clocks 159 = .ok (.iconst 0, 1) := by decide +kernel
theorem dX8_clocks_160 : decode cX8_clocks 160 = .ok (.putfield 94, 3) := by decide +kernel
theorem dX8_clocks_163 : decode cX8_clocks 163 = .ok (.aload_n 0, 1) := by decide +kernel
theorem dX8_clocks_164 : decode cX8_clocks 164 = .ok (.getfield 7, 3) := by decide +kernel
theorem dX8_clocks_167 : decode cX8_clocks 167 = .ok (.iconst 0, 1) := by decide +kernel
theorem dX8_clocks_168 : decode cX8_clocks 168 = .ok (.iaload, 1) := by decide +kernel
theorem dX8_clocks_169 : decode cX8_clocks 169 = .ok (.ireturn, 1) := by decide +kernel
theorem dX8_fault_0 : decode cX8_fault 0 = .ok (.aload_n 0, 1) := by decide +kernel
theorem dX8_fault_1 : decode cX8_fault 1 = .ok (.getfield 16, 3) := by decide +kernel
theorem dX8_fault_4 : decode cX8_fault 4 = .ok (.ireturn, 1) := by decide +kernel
theorem dX8_heardOf_0 : decode cX8_heardOf 0 = .ok (.iload_n 2, 1) := by decide +kernel
theorem dX8_heardOf_1 : decode cX8_heardOf 1 = .ok (.iload_n 3, 1) := by decide +kernel
theorem dX8_heardOf_2 : decode cX8_heardOf 2 = .ok (.if_icmp .eq 18, 3) := by decide +kernel
theorem dX8_heardOf_5 : decode cX8_heardOf 5 = .ok (.aload_n 0, 1) := by decide +kernel
theorem dX8_heardOf_6 : decode cX8_heardOf 6 = .ok (.getfield 7, 3) := by decide +kernel
theorem dX8_heardOf_9 : decode cX8_heardOf 9 = .ok (.iload_n 1, 1) := by decide +kernel
theorem dX8_heardOf_10 : decode cX8_heardOf 10 = .ok (.bipush 35, 2) := by decide +kernel
theorem dX8_heardOf_12 : decode cX8_heardOf 12 = .ok (.iadd, 1) := by decide +kernel
theorem dX8_heardOf_13 : decode cX8_heardOf 13 = .ok (.iload_n 2, 1) := by decide +kernel
theorem dX8_heardOf_14 : decode cX8_heardOf 14 = .ok (.iadd, 1) := by decide +kernel
theorem dX8_heardOf_15 : decode cX8_heardOf 15 = .ok (.iaload, 1) := by decide +kernel
theorem dX8_heardOf_16 : decode cX8_heardOf 16 = .ok (.iconst 1, 1) := by decide +kernel
theorem dX8_heardOf_17 : decode cX8_heardOf 17 = .ok (.if_icmp .ne 10, 3) := by decide +kernel
theorem dX8_heardOf_20 : decode cX8_heardOf 20 = .ok (.aload_n 0, 1) := by decide +kernel
theorem dX8_heardOf_21 : decode cX8_heardOf 21 = .ok (.iload_n 1, 1) := by decide +kernel
theorem dX8_heardOf_22 : decode cX8_heardOf 22 = .ok (.iload_n 3, 1) := by decide +kernel
theorem dX8_heardOf_23 : decode cX8_heardOf 23 = .ok (.invokevirtual 97, 3) := by decide +kernel
theorem dX8_heardOf_26 : decode cX8_heardOf 26 = .ok (.ireturn, 1) := by decide +kernel
theorem dX8_heardOf_27 : decode cX8_heardOf 27 = .ok (.bipush 8, 2) := by decide +kernel
theorem dX8_heardOf_29 : decode cX8_heardOf 29 = .ok (.iload_n 2, 1) := by decide +kernel
theorem dX8_heardOf_30 : decode cX8_heardOf 30 = .ok (.imul, 1) := by decide +kernel
theorem dX8_heardOf_31 : decode cX8_heardOf 31 = .ok (.iload_n 3, 1) := by decide +kernel
theorem dX8_heardOf_32 : decode cX8_heardOf 32 = .ok (.iadd, 1) := by decide +kernel
theorem dX8_heardOf_33 : decode cX8_heardOf 33 = .ok (.istore 4, 2) := by decide +kernel
theorem dX8_heardOf_35 : decode cX8_heardOf 35 = .ok (.aload_n 0, 1) := by decide +kernel
theorem dX8_heardOf_36 : decode cX8_heardOf 36 = .ok (.getfield 7, 3) := by decide +kernel
theorem dX8_heardOf_39 : decode cX8_heardOf 39 = .ok (.iload_n 1, 1) := by decide +kernel
theorem dX8_heardOf_40 : decode cX8_heardOf 40 = .ok (.bipush 27, 2) := by decide +kernel
theorem dX8_heardOf_42 : decode cX8_heardOf 42 = .ok (.iadd, 1) := by decide +kernel
theorem dX8_heardOf_43 : decode cX8_heardOf 43 = .ok (.iload_n 2, 1) := by decide +kernel
theorem dX8_heardOf_44 : decode cX8_heardOf 44 = .ok (.iadd, 1) := by decide +kernel
theorem dX8_heardOf_45 : decode cX8_heardOf 45 = .ok (.iaload, 1) := by decide +kernel
theorem dX8_heardOf_46 : decode cX8_heardOf 46 = .ok (.iconst 1, 1) := by decide +kernel
theorem dX8_heardOf_47 : decode cX8_heardOf 47 = .ok (.if_icmp .ne 25, 3) := by decide +kernel
theorem dX8_heardOf_50 : decode cX8_heardOf 50 = .ok (.aload_n 0, 1) := by decide +kernel
theorem dX8_heardOf_51 : decode cX8_heardOf 51 = .ok (.iload_n 1, 1) := by decide +kernel
theorem dX8_heardOf_52 : decode cX8_heardOf 52 = .ok (.iload_n 3, 1) := by decide +kernel
theorem dX8_heardOf_53 : decode cX8_heardOf 53 = .ok (.invokevirtual 97, 3) := by decide +kernel
theorem dX8_heardOf_56 : decode cX8_heardOf 56 = .ok (.aload_n 0, 1) := by decide +kernel
theorem dX8_heardOf_57 : decode cX8_heardOf 57 = .ok (.getfield 7, 3) := by decide +kernel
theorem dX8_heardOf_60 : decode cX8_heardOf 60 = .ok (.iload_n 1, 1) := by decide +kernel
theorem dX8_heardOf_61 : decode cX8_heardOf 61 = .ok (.bipush 107, 2) := by decide +kernel
theorem dX8_heardOf_63 : decode cX8_heardOf 63 = .ok (.iadd, 1) := by decide +kernel
theorem dX8_heardOf_64 : decode cX8_heardOf 64 = .ok (.iload 4, 2) := by decide +kernel
theorem dX8_heardOf_66 : decode cX8_heardOf 66 = .ok (.iadd, 1) := by decide +kernel
theorem dX8_heardOf_67 : decode cX8_heardOf 67 = .ok (.iaload, 1) := by decide +kernel
theorem dX8_heardOf_68 : decode cX8_heardOf 68 = .ok (.iadd, 1) := by decide +kernel
theorem dX8_heardOf_69 : decode cX8_heardOf 69 = .ok (.goto 22, 3) := by decide +kernel
theorem dX8_heardOf_72 : decode cX8_heardOf 72 = .ok (.aload_n 0, 1) := by decide +kernel
theorem dX8_heardOf_73 : decode cX8_heardOf 73 = .ok (.iload_n 1, 1) := by decide +kernel
theorem dX8_heardOf_74 : decode cX8_heardOf 74 = .ok (.iload_n 2, 1) := by decide +kernel
theorem dX8_heardOf_75 : decode cX8_heardOf 75 = .ok (.invokevirtual 97, 3) := by decide +kernel
theorem dX8_heardOf_78 : decode cX8_heardOf 78 = .ok (.aload_n 0, 1) := by decide +kernel
theorem dX8_heardOf_79 : decode cX8_heardOf 79 = .ok (.getfield 7, 3) := by decide +kernel
theorem dX8_heardOf_82 : decode cX8_heardOf 82 = .ok (.iload_n 1, 1) := by decide +kernel
theorem dX8_heardOf_83 : decode cX8_heardOf 83 = .ok (.bipush 43, 2) := by decide +kernel
theorem dX8_heardOf_85 : decode cX8_heardOf 85 = .ok (.iadd, 1) := by decide +kernel
theorem dX8_heardOf_86 : decode cX8_heardOf 86 = .ok (.iload 4, 2) := by decide +kernel
theorem dX8_heardOf_88 : decode cX8_heardOf 88 = .ok (.iadd, 1) := by decide +kernel
theorem dX8_heardOf_89 : decode cX8_heardOf 89 = .ok (.iaload, 1) := by decide +kernel
theorem dX8_heardOf_90 : decode cX8_heardOf 90 = .ok (.iadd, 1) := by decide +kernel
theorem dX8_heardOf_91 : decode cX8_heardOf 91 = .ok (.ireturn, 1) := by decide +kernel
theorem dX8_put_0 : decode cX8_put 0 = .ok (.iload_n 1, 1) := by decide +kernel
theorem dX8_put_1 : decode cX8_put 1 = .ok (.istore_n 3, 1) := by decide +kernel
theorem dX8_put_2 : decode cX8_put 2 = .ok (.iload_n 3, 1) := by decide +kernel
theorem dX8_put_3 : decode cX8_put 3 = .ok (.ifCond .le 35, 3) := by decide +kernel
theorem dX8_put_6 : decode cX8_put 6 = .ok (.aload_n 0, 1) := by decide +kernel
theorem dX8_put_7 : decode cX8_put 7 = .ok (.getfield 26, 3) := by decide +kernel
theorem dX8_put_10 : decode cX8_put 10 = .ok (.iload_n 3, 1) := by decide +kernel
theorem dX8_put_11 : decode cX8_put 11 = .ok (.iconst 1, 1) := by decide +kernel
theorem dX8_put_12 : decode cX8_put 12 = .ok (.isub, 1) := by decide +kernel
theorem dX8_put_13 : decode cX8_put 13 = .ok (.iaload, 1) := by decide +kernel
theorem dX8_put_14 : decode cX8_put 14 = .ok (.iload_n 2, 1) := by decide +kernel
theorem dX8_put_15 : decode cX8_put 15 = .ok (.if_icmp .le 23, 3) := by decide +kernel
theorem dX8_put_18 : decode cX8_put 18 = .ok (.aload_n 0, 1) := by decide +kernel
theorem dX8_put_19 : decode cX8_put 19 = .ok (.getfield 26, 3) := by decide +kernel
theorem dX8_put_22 : decode cX8_put 22 = .ok (.iload_n 3, 1) := by decide +kernel
theorem dX8_put_23 : decode cX8_put 23 = .ok (.aload_n 0, 1) := by decide +kernel
theorem dX8_put_24 : decode cX8_put 24 = .ok (.getfield 26, 3) := by decide +kernel
theorem dX8_put_27 : decode cX8_put 27 = .ok (.iload_n 3, 1) := by decide +kernel
theorem dX8_put_28 : decode cX8_put 28 = .ok (.iconst 1, 1) := by decide +kernel
theorem dX8_put_29 : decode cX8_put 29 = .ok (.isub, 1) := by decide +kernel
theorem dX8_put_30 : decode cX8_put 30 = .ok (.iaload, 1) := by decide +kernel
theorem dX8_put_31 : decode cX8_put 31 = .ok (.iastore, 1) := by decide +kernel
theorem dX8_put_32 : decode cX8_put 32 = .ok (.iinc 3 (-1), 3) := by decide +kernel
theorem dX8_put_35 : decode cX8_put 35 = .ok (.goto (-33), 3) := by decide +kernel
theorem dX8_put_38 : decode cX8_put 38 = .ok (.aload_n 0, 1) := by decide +kernel
theorem dX8_put_39 : decode cX8_put 39 = .ok (.getfield 26, 3) := by decide +kernel
theorem dX8_put_42 : decode cX8_put 42 = .ok (.iload_n 3, 1) := by decide +kernel
theorem dX8_put_43 : decode cX8_put 43 = .ok (.iload_n 2, 1) := by decide +kernel
theorem dX8_put_44 : decode cX8_put 44 = .ok (.iastore, 1) := by decide +kernel
theorem dX8_put_45 : decode cX8_put 45 = .ok (.return_, 1) := by decide +kernel
theorem dX8_allStruck_0 : decode cX8_allStruck 0 = .ok (.iconst 2, 1) := by decide +kernel
theorem dX8_allStruck_1 : decode cX8_allStruck 1 = .ok (.aload_n 0, 1) := by decide +kernel
theorem dX8_allStruck_2 : decode cX8_allStruck 2 = .ok (.getfield 7, 3) := by decide +kernel
theorem dX8_allStruck_5 : decode cX8_allStruck 5 = .ok (.iload_n 1, 1) := by decide +kernel
theorem dX8_allStruck_6 : decode cX8_allStruck 6 = .ok (.iconst 1, 1) := by decide +kernel
theorem dX8_allStruck_7 : decode cX8_allStruck 7 = .ok (.iadd, 1) := by decide +kernel
theorem dX8_allStruck_8 : decode cX8_allStruck 8 = .ok (.iaload, 1) := by decide +kernel
theorem dX8_allStruck_9 : decode cX8_allStruck 9 = .ok (.imul, 1) := by decide +kernel
theorem dX8_allStruck_10 : decode cX8_allStruck 10 = .ok (.iload_n 2, 1) := by decide +kernel
theorem dX8_allStruck_11 : decode cX8_allStruck 11 = .ok (.if_icmp .lt 7, 3) := by decide +kernel
theorem dX8_allStruck_14 : decode cX8_allStruck 14 = .ok (.iconst 1, 1) := by decide +kernel
theorem dX8_allStruck_15 : decode cX8_allStruck 15 = .ok (.goto 4, 3) := by decide +kernel
theorem dX8_allStruck_18 : decode cX8_allStruck 18 = .ok (.iconst 0, 1) := by decide +kernel
theorem dX8_allStruck_19 : decode cX8_allStruck 19 = .ok (.ireturn, 1) := by decide +kernel
theorem dX8_middle_0 : decode cX8_middle 0 = .ok (.aload_n 0, 1) := by decide +kernel
theorem dX8_middle_1 : decode cX8_middle 1 = .ok (.getfield 26, 3) := by decide +kernel
theorem dX8_middle_4 : decode cX8_middle 4 = .ok (.aload_n 0, 1) := by decide +kernel
theorem dX8_middle_5 : decode cX8_middle 5 = .ok (.getfield 7, 3) := by decide +kernel
theorem dX8_middle_8 : decode cX8_middle 8 = .ok (.iload_n 1, 1) := by decide +kernel
theorem dX8_middle_9 : decode cX8_middle 9 = .ok (.iconst 1, 1) := by decide +kernel
theorem dX8_middle_10 : decode cX8_middle 10 = .ok (.iadd, 1) := by decide +kernel
theorem dX8_middle_11 : decode cX8_middle 11 = .ok (.iaload, 1) := by decide +kernel
theorem dX8_middle_12 : decode cX8_middle 12 = .ok (.iaload, 1) := by decide +kernel
theorem dX8_middle_13 : decode cX8_middle 13 = .ok (.aload_n 0, 1) := by decide +kernel
theorem dX8_middle_14 : decode cX8_middle 14 = .ok (.getfield 26, 3) := by decide +kernel
theorem dX8_middle_17 : decode cX8_middle 17 = .ok (.iload_n 2, 1) := by decide +kernel
theorem dX8_middle_18 : decode cX8_middle 18 = .ok (.iconst 1, 1) := by decide +kernel
theorem dX8_middle_19 : decode cX8_middle 19 = .ok (.isub, 1) := by decide +kernel
theorem dX8_middle_20 : decode cX8_middle 20 = .ok (.aload_n 0, 1) := by decide +kernel
theorem dX8_middle_21 : decode cX8_middle 21 = .ok (.getfield 7, 3) := by decide +kernel
theorem dX8_middle_24 : decode cX8_middle 24 = .ok (.iload_n 1, 1) := by decide +kernel
theorem dX8_middle_25 : decode cX8_middle 25 = .ok (.iconst 1, 1) := by decide +kernel
theorem dX8_middle_26 : decode cX8_middle 26 = .ok (.iadd, 1) := by decide +kernel
theorem dX8_middle_27 : decode cX8_middle 27 = .ok (.iaload, 1) := by decide +kernel
theorem dX8_middle_28 : decode cX8_middle 28 = .ok (.isub, 1) := by decide +kernel
theorem dX8_middle_29 : decode cX8_middle 29 = .ok (.iaload, 1) := by decide +kernel
theorem dX8_middle_30 : decode cX8_middle 30 = .ok (.iadd, 1) := by decide +kernel
theorem dX8_middle_31 : decode cX8_middle 31 = .ok (.istore_n 3, 1) := by decide +kernel
theorem dX8_middle_32 : decode cX8_middle 32 = .ok (.iload_n 3, 1) := by decide +kernel
theorem dX8_middle_33 : decode cX8_middle 33 = .ok (.ifCond .lt 9, 3) := by decide +kernel
theorem dX8_middle_36 : decode cX8_middle 36 = .ok (.iload_n 3, 1) := by decide +kernel
theorem dX8_middle_37 : decode cX8_middle 37 = .ok (.iconst 2, 1) := by decide +kernel
theorem dX8_middle_38 : decode cX8_middle 38 = .ok (.idiv, 1) := by decide +kernel
theorem dX8_middle_39 : decode cX8_middle 39 = .ok (.goto 9, 3) := by decide +kernel
theorem dX8_middle_42 : decode cX8_middle 42 = .ok (.iconst 1, 1) := by decide +kernel
theorem dX8_middle_43 : decode cX8_middle 43 = .ok (.iload_n 3, 1) := by decide +kernel
theorem dX8_middle_44 : decode cX8_middle 44 = .ok (.isub, 1) := by decide +kernel
theorem dX8_middle_45 : decode cX8_middle 45 = .ok (.iconst 2, 1) := by decide +kernel
theorem dX8_middle_46 : decode cX8_middle 46 = .ok (.idiv, 1) := by decide +kernel
theorem dX8_middle_47 : decode cX8_middle 47 = .ok (.ineg, 1) := by decide +kernel
theorem dX8_middle_48 : decode cX8_middle 48 = .ok (.ireturn, 1) := by decide +kernel
theorem dX8_middleOf_0 : decode cX8_middleOf 0 = .ok (.aload_n 0, 1) := by decide +kernel
theorem dX8_middleOf_1 : decode cX8_middleOf 1 = .ok (.iload_n 1, 1) := by decide +kernel
theorem dX8_middleOf_2 : decode cX8_middleOf 2 = .ok (.aload_n 0, 1) := by decide +kernel
theorem dX8_middleOf_3 : decode cX8_middleOf 3 = .ok (.getfield 7, 3) := by decide +kernel
theorem dX8_middleOf_6 : decode cX8_middleOf 6 = .ok (.iload_n 1, 1) := by decide +kernel
theorem dX8_middleOf_7 : decode cX8_middleOf 7 = .ok (.iaload, 1) := by decide +kernel
theorem dX8_middleOf_8 : decode cX8_middleOf 8 = .ok (.invokevirtual 100, 3) := by decide +kernel
theorem dX8_middleOf_11 : decode cX8_middleOf 11 = .ok (.ifCond .eq 10, 3) := by decide +kernel
theorem dX8_middleOf_14 : decode cX8_middleOf 14 = .ok (.aload_n 0, 1) := by decide +kernel
theorem dX8_middleOf_15 : decode cX8_middleOf 15 = .ok (.iload_n 1, 1) := by decide +kernel
theorem dX8_middleOf_16 : decode cX8_middleOf 16 = .ok (.iload_n 2, 1) := by decide +kernel
theorem dX8_middleOf_17 : decode cX8_middleOf 17 = .ok (.invokevirtual 97, 3) := by decide +kernel
theorem dX8_middleOf_20 : decode cX8_middleOf 20 = .ok (.ireturn, 1) := by decide +kernel
theorem dX8_middleOf_21 : decode cX8_middleOf 21 = .ok (.iconst 0, 1) := by decide +kernel
theorem dX8_middleOf_22 : decode cX8_middleOf 22 = .ok (.istore_n 3, 1) := by decide +kernel
theorem dX8_middleOf_23 : decode cX8_middleOf 23 = .ok (.iload_n 3, 1) := by decide +kernel
theorem dX8_middleOf_24 : decode cX8_middleOf 24 = .ok (.aload_n 0, 1) := by decide +kernel
theorem dX8_middleOf_25 : decode cX8_middleOf 25 = .ok (.getfield 7, 3) := by decide +kernel
theorem dX8_middleOf_28 : decode cX8_middleOf 28 = .ok (.iload_n 1, 1) := by decide +kernel
theorem dX8_middleOf_29 : decode cX8_middleOf 29 = .ok (.iaload, 1) := by decide +kernel
theorem dX8_middleOf_30 : decode cX8_middleOf 30 = .ok (.if_icmp .ge 21, 3) := by decide +kernel
theorem dX8_middleOf_33 : decode cX8_middleOf 33 = .ok (.aload_n 0, 1) := by decide +kernel
theorem dX8_middleOf_34 : decode cX8_middleOf 34 = .ok (.iload_n 3, 1) := by decide +kernel
theorem dX8_middleOf_35 : decode cX8_middleOf 35 = .ok (.aload_n 0, 1) := by decide +kernel
theorem dX8_middleOf_36 : decode cX8_middleOf 36 = .ok (.iload_n 1, 1) := by decide +kernel
theorem dX8_middleOf_37 : decode cX8_middleOf 37 = .ok (.iload_n 3, 1) := by decide +kernel
theorem dX8_middleOf_38 : decode cX8_middleOf 38 = .ok (.iload_n 2, 1) := by decide +kernel
theorem dX8_middleOf_39 : decode cX8_middleOf 39 = .ok (.invokevirtual 104, 3) := by decide +kernel
theorem dX8_middleOf_42 : decode cX8_middleOf 42 = .ok (.invokevirtual 108, 3) := by decide +kernel
theorem dX8_middleOf_45 : decode cX8_middleOf 45 = .ok (.iinc 3 1, 3) := by decide +kernel
theorem dX8_middleOf_48 : decode cX8_middleOf 48 = .ok (.goto (-25), 3) := by decide +kernel
theorem dX8_middleOf_51 : decode cX8_middleOf 51 = .ok (.aload_n 0, 1) := by decide +kernel
theorem dX8_middleOf_52 : decode cX8_middleOf 52 = .ok (.iload_n 1, 1) := by decide +kernel
theorem dX8_middleOf_53 : decode cX8_middleOf 53 = .ok (.aload_n 0, 1) := by decide +kernel
theorem dX8_middleOf_54 : decode cX8_middleOf 54 = .ok (.getfield 7, 3) := by decide +kernel
theorem dX8_middleOf_57 : decode cX8_middleOf 57 = .ok (.iload_n 1, 1) := by decide +kernel
theorem dX8_middleOf_58 : decode cX8_middleOf 58 = .ok (.iaload, 1) := by decide +kernel
theorem dX8_middleOf_59 : decode cX8_middleOf 59 = .ok (.invokevirtual 111, 3) := by decide +kernel
theorem dX8_middleOf_62 : decode cX8_middleOf 62 = .ok (.ireturn, 1) := by decide +kernel
theorem dX8_roundIn_0 : decode cX8_roundIn 0 = .ok (.iconst 0, 1) := by decide +kernel
theorem dX8_roundIn_1 : decode cX8_roundIn 1 = .ok (.istore_n 2, 1) := by decide +kernel
theorem dX8_roundIn_2 : decode cX8_roundIn 2 = .ok (.iload_n 2, 1) := by decide +kernel
theorem dX8_roundIn_3 : decode cX8_roundIn 3 = .ok (.aload_n 0, 1) := by decide +kernel
theorem dX8_roundIn_4 : decode cX8_roundIn 4 = .ok (.getfield 7, 3) := by decide +kernel
theorem dX8_roundIn_7 : decode cX8_roundIn 7 = .ok (.iload_n 1, 1) := by decide +kernel
theorem dX8_roundIn_8 : decode cX8_roundIn 8 = .ok (.iaload, 1) := by decide +kernel
theorem dX8_roundIn_9 : decode cX8_roundIn 9 = .ok (.if_icmp .ge 55, 3) := by decide +kernel
theorem dX8_roundIn_12 : decode cX8_roundIn 12 = .ok (.aload_n 0, 1) := by decide +kernel
theorem dX8_roundIn_13 : decode cX8_roundIn 13 = .ok (.getfield 29, 3) := by decide +kernel
theorem dX8_roundIn_16 : decode cX8_roundIn 16 = .ok (.iload_n 2, 1) := by decide +kernel
theorem dX8_roundIn_17 : decode cX8_roundIn 17 = .ok (.aload_n 0, 1) := by decide +kernel
theorem dX8_roundIn_18 : decode cX8_roundIn 18 = .ok (.iload_n 1, 1) := by decide +kernel
theorem dX8_roundIn_19 : decode cX8_roundIn 19 = .ok (.iload_n 2, 1) := by decide +kernel
theorem dX8_roundIn_20 : decode cX8_roundIn 20 = .ok (.invokevirtual 114, 3) := by decide +kernel
theorem dX8_roundIn_23 : decode cX8_roundIn 23 = .ok (.ifCond .eq 23, 3) := by decide +kernel
theorem dX8_roundIn_26 : decode cX8_roundIn 26 = .ok (.aload_n 0, 1) := by decide +kernel
theorem dX8_roundIn_27 : decode cX8_roundIn 27 = .ok (.iload_n 1, 1) := by decide +kernel
theorem dX8_roundIn_28 : decode cX8_roundIn 28 = .ok (.iload_n 2, 1) := by decide +kernel
theorem dX8_roundIn_29 : decode cX8_roundIn 29 = .ok (.invokevirtual 117, 3) := by decide +kernel
theorem dX8_roundIn_32 : decode cX8_roundIn 32 = .ok (.aload_n 0, 1) := by decide +kernel
theorem dX8_roundIn_33 : decode cX8_roundIn 33 = .ok (.getfield 7, 3) := by decide +kernel
theorem dX8_roundIn_36 : decode cX8_roundIn 36 = .ok (.iload_n 1, 1) := by decide +kernel
theorem dX8_roundIn_37 : decode cX8_roundIn 37 = .ok (.iconst 3, 1) := by decide +kernel
theorem dX8_roundIn_38 : decode cX8_roundIn 38 = .ok (.iadd, 1) := by decide +kernel
theorem dX8_roundIn_39 : decode cX8_roundIn 39 = .ok (.iload_n 2, 1) := by decide +kernel
theorem dX8_roundIn_40 : decode cX8_roundIn 40 = .ok (.iadd, 1) := by decide +kernel
theorem dX8_roundIn_41 : decode cX8_roundIn 41 = .ok (.iaload, 1) := by decide +kernel
theorem dX8_roundIn_42 : decode cX8_roundIn 42 = .ok (.isub, 1) := by decide +kernel
theorem dX8_roundIn_43 : decode cX8_roundIn 43 = .ok (.goto 14, 3) := by decide +kernel
theorem dX8_roundIn_46 : decode cX8_roundIn 46 = .ok (.aload_n 0, 1) := by decide +kernel
theorem dX8_roundIn_47 : decode cX8_roundIn 47 = .ok (.getfield 7, 3) := by decide +kernel
theorem dX8_roundIn_50 : decode cX8_roundIn 50 = .ok (.iload_n 1, 1) := by decide +kernel
theorem dX8_roundIn_51 : decode cX8_roundIn 51 = .ok (.bipush 19, 2) := by decide +kernel
theorem dX8_roundIn_53 : decode cX8_roundIn 53 = .ok (.iadd, 1) := by decide +kernel
theorem dX8_roundIn_54 : decode cX8_roundIn 54 = .ok (.iload_n 2, 1) := by decide +kernel
theorem dX8_roundIn_55 : decode cX8_roundIn 55 = .ok (.iadd, 1) := by decide +kernel
theorem dX8_roundIn_56 : decode cX8_roundIn 56 = .ok (.iaload, 1) := by decide +kernel
theorem dX8_roundIn_57 : decode cX8_roundIn 57 = .ok (.iastore, 1) := by decide +kernel
theorem dX8_roundIn_58 : decode cX8_roundIn 58 = .ok (.iinc 2 1, 3) := by decide +kernel
theorem dX8_roundIn_61 : decode cX8_roundIn 61 = .ok (.goto (-59), 3) := by decide +kernel
theorem dX8_roundIn_64 : decode cX8_roundIn 64 = .ok (.iconst 0, 1) := by decide +kernel
theorem dX8_roundIn_65 : decode cX8_roundIn 65 = .ok (.istore_n 2, 1) := by decide +kernel
theorem dX8_roundIn_66 : decode cX8_roundIn 66 = .ok (.iload_n 2, 1) := by decide +kernel
theorem dX8_roundIn_67 : decode cX8_roundIn 67 = .ok (.aload_n 0, 1) := by decide +kernel
theorem dX8_roundIn_68 : decode cX8_roundIn 68 = .ok (.getfield 7, 3) := by decide +kernel
theorem dX8_roundIn_71 : decode cX8_roundIn 71 = .ok (.iload_n 1, 1) := by decide +kernel
theorem dX8_roundIn_72 : decode cX8_roundIn 72 = .ok (.iaload, 1) := by decide +kernel
theorem dX8_roundIn_73 : decode cX8_roundIn 73 = .ok (.if_icmp .ge 26, 3) := by decide +kernel
theorem dX8_roundIn_76 : decode cX8_roundIn 76 = .ok (.aload_n 0, 1) := by decide +kernel
theorem dX8_roundIn_77 : decode cX8_roundIn 77 = .ok (.getfield 7, 3) := by decide +kernel
theorem dX8_roundIn_80 : decode cX8_roundIn 80 = .ok (.iload_n 1, 1) := by decide +kernel
theorem dX8_roundIn_81 : decode cX8_roundIn 81 = .ok (.bipush 19, 2) := by decide +kernel
theorem dX8_roundIn_83 : decode cX8_roundIn 83 = .ok (.iadd, 1) := by decide +kernel
theorem dX8_roundIn_84 : decode cX8_roundIn 84 = .ok (.iload_n 2, 1) := by decide +kernel
theorem dX8_roundIn_85 : decode cX8_roundIn 85 = .ok (.iadd, 1) := by decide +kernel
theorem dX8_roundIn_86 : decode cX8_roundIn 86 = .ok (.aload_n 0, 1) := by decide +kernel
theorem dX8_roundIn_87 : decode cX8_roundIn 87 = .ok (.getfield 29, 3) := by decide +kernel
theorem dX8_roundIn_90 : decode cX8_roundIn 90 = .ok (.iload_n 2, 1) := by decide +kernel
theorem dX8_roundIn_91 : decode cX8_roundIn 91 = .ok (.iaload, 1) := by decide +kernel
theorem dX8_roundIn_92 : decode cX8_roundIn 92 = .ok (.iastore, 1) := by decide +kernel
theorem dX8_roundIn_93 : decode cX8_roundIn 93 = .ok (.iinc 2 1, 3) := by decide +kernel
theorem dX8_roundIn_96 : decode cX8_roundIn 96 = .ok (.goto (-30), 3) := by decide +kernel
theorem dX8_roundIn_99 : decode cX8_roundIn 99 = .ok (.return_, 1) := by decide +kernel
theorem dX8_apart_0 : decode cX8_apart 0 = .ok (.iconst (-1), 1) := by decide +kernel
theorem dX8_apart_1 : decode cX8_apart 1 = .ok (.istore_n 2, 1) := by decide +kernel
theorem dX8_apart_2 : decode cX8_apart 2 = .ok (.iconst (-1), 1) := by decide +kernel
theorem dX8_apart_3 : decode cX8_apart 3 = .ok (.istore_n 3, 1) := by decide +kernel
theorem dX8_apart_4 : decode cX8_apart 4 = .ok (.iconst 0, 1) := by decide +kernel
theorem dX8_apart_5 : decode cX8_apart 5 = .ok (.istore 4, 2) := by decide +kernel
theorem dX8_apart_7 : decode cX8_apart 7 = .ok (.iload 4, 2) := by decide +kernel
theorem dX8_apart_9 : decode cX8_apart 9 = .ok (.aload_n 0, 1) := by decide +kernel
theorem dX8_apart_10 : decode cX8_apart 10 = .ok (.getfield 7, 3) := by decide +kernel
theorem dX8_apart_13 : decode cX8_apart 13 = .ok (.iload_n 1, 1) := by decide +kernel
theorem dX8_apart_14 : decode cX8_apart 14 = .ok (.iaload, 1) := by decide +kernel
theorem dX8_apart_15 : decode cX8_apart 15 = .ok (.if_icmp .ge 75, 3) := by decide +kernel
theorem dX8_apart_18 : decode cX8_apart 18 = .ok (.aload_n 0, 1) := by decide +kernel
theorem dX8_apart_19 : decode cX8_apart 19 = .ok (.iload_n 1, 1) := by decide +kernel
theorem dX8_apart_20 : decode cX8_apart 20 = .ok (.iload 4, 2) := by decide +kernel
theorem dX8_apart_22 : decode cX8_apart 22 = .ok (.invokevirtual 114, 3) := by decide +kernel
theorem dX8_apart_25 : decode cX8_apart 25 = .ok (.ifCond .eq 59, 3) := by decide +kernel
theorem dX8_apart_28 : decode cX8_apart 28 = .ok (.iload_n 2, 1) := by decide +kernel
theorem dX8_apart_29 : decode cX8_apart 29 = .ok (.iconst (-1), 1) := by decide +kernel
theorem dX8_apart_30 : decode cX8_apart 30 = .ok (.if_icmp .eq 19, 3) := by decide +kernel
theorem dX8_apart_33 : decode cX8_apart 33 = .ok (.aload_n 0, 1) := by decide +kernel
theorem dX8_apart_34 : decode cX8_apart 34 = .ok (.iload_n 1, 1) := by decide +kernel
theorem dX8_apart_35 : decode cX8_apart 35 = .ok (.iload 4, 2) := by decide +kernel
theorem dX8_apart_37 : decode cX8_apart 37 = .ok (.invokevirtual 97, 3) := by decide +kernel
theorem dX8_apart_40 : decode cX8_apart 40 = .ok (.aload_n 0, 1) := by decide +kernel
theorem dX8_apart_41 : decode cX8_apart 41 = .ok (.iload_n 1, 1) := by decide +kernel
theorem dX8_apart_42 : decode cX8_apart 42 = .ok (.iload_n 2, 1) := by decide +kernel
theorem dX8_apart_43 : decode cX8_apart 43 = .ok (.invokevirtual 97, 3) := by decide +kernel
theorem dX8_apart_46 : decode cX8_apart 46 = .ok (.if_icmp .ge 8, 3) := by decide +kernel
theorem dX8_apart_49 : decode cX8_apart 49 = .ok (.iload 4, 2) := by decide +kernel
theorem dX8_apart_51 : decode cX8_apart 51 = .ok (.goto 4, 3) := by decide +kernel
theorem dX8_apart_54 : decode cX8_apart 54 = .ok (.iload_n 2, 1) := by decide +kernel
theorem dX8_apart_55 : decode cX8_apart 55 = .ok (.istore_n 2, 1) := by decide +kernel
theorem dX8_apart_56 : decode cX8_apart 56 = .ok (.iload_n 3, 1) := by decide +kernel
theorem dX8_apart_57 : decode cX8_apart 57 = .ok (.iconst (-1), 1) := by decide +kernel
theorem dX8_apart_58 : decode cX8_apart 58 = .ok (.if_icmp .eq 19, 3) := by decide +kernel
theorem dX8_apart_61 : decode cX8_apart 61 = .ok (.aload_n 0, 1) := by decide +kernel
theorem dX8_apart_62 : decode cX8_apart 62 = .ok (.iload_n 1, 1) := by decide +kernel
theorem dX8_apart_63 : decode cX8_apart 63 = .ok (.iload 4, 2) := by decide +kernel
theorem dX8_apart_65 : decode cX8_apart 65 = .ok (.invokevirtual 97, 3) := by decide +kernel
theorem dX8_apart_68 : decode cX8_apart 68 = .ok (.aload_n 0, 1) := by decide +kernel
theorem dX8_apart_69 : decode cX8_apart 69 = .ok (.iload_n 1, 1) := by decide +kernel
theorem dX8_apart_70 : decode cX8_apart 70 = .ok (.iload_n 3, 1) := by decide +kernel
theorem dX8_apart_71 : decode cX8_apart 71 = .ok (.invokevirtual 97, 3) := by decide +kernel
theorem dX8_apart_74 : decode cX8_apart 74 = .ok (.if_icmp .le 8, 3) := by decide +kernel
theorem dX8_apart_77 : decode cX8_apart 77 = .ok (.iload 4, 2) := by decide +kernel
theorem dX8_apart_79 : decode cX8_apart 79 = .ok (.goto 4, 3) := by decide +kernel
theorem dX8_apart_82 : decode cX8_apart 82 = .ok (.iload_n 3, 1) := by decide +kernel
theorem dX8_apart_83 : decode cX8_apart 83 = .ok (.istore_n 3, 1) := by decide +kernel
theorem dX8_apart_84 : decode cX8_apart 84 = .ok (.iinc 4 1, 3) := by decide +kernel
theorem dX8_apart_87 : decode cX8_apart 87 = .ok (.goto (-80), 3) := by decide +kernel
theorem dX8_apart_90 : decode cX8_apart 90 = .ok (.iload_n 2, 1) := by decide +kernel
theorem dX8_apart_91 : decode cX8_apart 91 = .ok (.iconst (-1), 1) := by decide +kernel
theorem dX8_apart_92 : decode cX8_apart 92 = .ok (.if_icmp .ne 7, 3) := by decide +kernel
theorem dX8_apart_95 : decode cX8_apart 95 = .ok (.iconst (-1), 1) := by decide +kernel
theorem dX8_apart_96 : decode cX8_apart 96 = .ok (.goto 16, 3) := by decide +kernel
theorem dX8_apart_99 : decode cX8_apart 99 = .ok (.aload_n 0, 1) := by decide +kernel
theorem dX8_apart_100 : decode cX8_apart 100 = .ok (.iload_n 1, 1) := by decide +kernel
theorem dX8_apart_101 : decode cX8_apart 101 = .ok (.iload_n 3, 1) := by decide +kernel
theorem dX8_apart_102 : decode cX8_apart 102 = .ok (.invokevirtual 97, 3) := by decide +kernel
theorem dX8_apart_105 : decode cX8_apart 105 = .ok (.aload_n 0, 1) := by decide +kernel
theorem dX8_apart_106 : decode cX8_apart 106 = .ok (.iload_n 1, 1) := by decide +kernel
theorem dX8_apart_107 : decode cX8_apart 107 = .ok (.iload_n 2, 1) := by decide +kernel
theorem dX8_apart_108 : decode cX8_apart 108 = .ok (.invokevirtual 97, 3) := by decide +kernel
theorem dX8_apart_111 : decode cX8_apart 111 = .ok (.isub, 1) := by decide +kernel
theorem dX8_apart_112 : decode cX8_apart 112 = .ok (.ireturn, 1) := by decide +kernel
theorem dX8_tickOne_0 : decode cX8_tickOne 0 = .ok (.iconst 0, 1) := by decide +kernel
theorem dX8_tickOne_1 : decode cX8_tickOne 1 = .ok (.istore_n 1, 1) := by decide +kernel
theorem dX8_tickOne_2 : decode cX8_tickOne 2 = .ok (.iload_n 1, 1) := by decide +kernel
theorem dX8_tickOne_3 : decode cX8_tickOne 3 = .ok (.aload_n 0, 1) := by decide +kernel
theorem dX8_tickOne_4 : decode cX8_tickOne 4 = .ok (.getfield 7, 3) := by decide +kernel
theorem dX8_tickOne_7 : decode cX8_tickOne 7 = .ok (.iconst 0, 1) := by decide +kernel
theorem dX8_tickOne_8 : decode cX8_tickOne 8 = .ok (.iaload, 1) := by decide +kernel
theorem dX8_tickOne_9 : decode cX8_tickOne 9 = .ok (.if_icmp .ge 122, 3) := by decide +kernel
theorem dX8_tickOne_12 : decode cX8_tickOne 12 = .ok (.aload_n 0, 1) := by decide +kernel
theorem dX8_tickOne_13 : decode cX8_tickOne 13 = .ok (.getfield 7, 3) := by decide +kernel
theorem dX8_tickOne_16 : decode cX8_tickOne 16 = .ok (.bipush 35, 2) := by decide +kernel
theorem dX8_tickOne_18 : decode cX8_tickOne 18 = .ok (.iload_n 1, 1) := by decide +kernel
theorem dX8_tickOne_19 : decode cX8_tickOne 19 = .ok (.iadd, 1) := by decide +kernel
theorem dX8_tickOne_20 : decode cX8_tickOne 20 = .ok (.iaload, 1) := by decide +kernel
theorem dX8_tickOne_21 : decode cX8_tickOne 21 = .ok (.ifCond .ne 104, 3) := by decide +kernel
theorem dX8_tickOne_24 : decode cX8_tickOne 24 = .ok (.aload_n 0, 1) := by decide +kernel
theorem dX8_tickOne_25 : decode cX8_tickOne 25 = .ok (.getfield 7, 3) := by decide +kernel
theorem dX8_tickOne_28 : decode cX8_tickOne 28 = .ok (.bipush 19, 2) := by decide +kernel
theorem dX8_tickOne_30 : decode cX8_tickOne 30 = .ok (.iload_n 1, 1) := by decide +kernel
theorem dX8_tickOne_31 : decode cX8_tickOne 31 = .ok (.iadd, 1) := by decide +kernel
theorem dX8_tickOne_32 : decode cX8_tickOne 32 = .ok (.iaload, 1) := by decide +kernel
theorem dX8_tickOne_33 : decode cX8_tickOne 33 = .ok (.aload_n 0, 1) := by decide +kernel
theorem dX8_tickOne_34 : decode cX8_tickOne 34 = .ok (.getfield 7, 3) := by decide +kernel
theorem dX8_tickOne_37 : decode cX8_tickOne 37 = .ok (.iconst 2, 1) := by decide +kernel
theorem dX8_tickOne_38 : decode cX8_tickOne 38 = .ok (.iaload, 1) := by decide +kernel
theorem dX8_tickOne_39 : decode cX8_tickOne 39 = .ok (.if_icmp .le 12, 3) := by decide +kernel
theorem dX8_tickOne_42 : decode cX8_tickOne 42 = .ok (.aload_n 0, 1) := by decide +kernel
theorem dX8_tickOne_43 : decode cX8_tickOne 43 = .ok (.getfield 7, 3) := by decide +kernel
theorem dX8_tickOne_46 : decode cX8_tickOne 46 = .ok (.iconst 2, 1) := by decide +kernel
theorem dX8_tickOne_47 : decode cX8_tickOne 47 = .ok (.iaload, 1) := by decide +kernel
theorem dX8_tickOne_48 : decode cX8_tickOne 48 = .ok (.goto 41, 3) := by decide +kernel
theorem dX8_tickOne_51 : decode cX8_tickOne 51 = .ok (.aload_n 0, 1) := by decide +kernel
theorem dX8_tickOne_52 : decode cX8_tickOne 52 = .ok (.getfield 7, 3) := by decide +kernel
theorem dX8_tickOne_55 : decode cX8_tickOne 55 = .ok (.bipush 19, 2) := by decide +kernel
theorem dX8_tickOne_57 : decode cX8_tickOne 57 = .ok (.iload_n 1, 1) := by decide +kernel
theorem dX8_tickOne_58 : decode cX8_tickOne 58 = .ok (.iadd, 1) := by decide +kernel
theorem dX8_tickOne_59 : decode cX8_tickOne 59 = .ok (.iaload, 1) := by decide +kernel
theorem dX8_tickOne_60 : decode cX8_tickOne 60 = .ok (.aload_n 0, 1) := by decide +kernel
theorem dX8_tickOne_61 : decode cX8_tickOne 61 = .ok (.getfield 7, 3) := by decide +kernel
theorem dX8_tickOne_64 : decode cX8_tickOne 64 = .ok (.iconst 2, 1) := by decide +kernel
theorem dX8_tickOne_65 : decode cX8_tickOne 65 = .ok (.iaload, 1) := by decide +kernel
theorem dX8_tickOne_66 : decode cX8_tickOne 66 = .ok (.ineg, 1) := by decide +kernel
theorem dX8_tickOne_67 : decode cX8_tickOne 67 = .ok (.if_icmp .ge 13, 3) := by decide +kernel
theorem dX8_tickOne_70 : decode cX8_tickOne 70 = .ok (.aload_n 0, 1) := by decide +kernel
theorem dX8_tickOne_71 : decode cX8_tickOne 71 = .ok (.getfield 7, 3) := by decide +kernel
theorem dX8_tickOne_74 : decode cX8_tickOne 74 = .ok (.iconst 2, 1) := by decide +kernel
theorem dX8_tickOne_75 : decode cX8_tickOne 75 = .ok (.iaload, 1) := by decide +kernel
theorem dX8_tickOne_76 : decode cX8_tickOne 76 = .ok (.ineg, 1) := by decide +kernel
theorem dX8_tickOne_77 : decode cX8_tickOne 77 = .ok (.goto 12, 3) := by decide +kernel
theorem dX8_tickOne_80 : decode cX8_tickOne 80 = .ok (.aload_n 0, 1) := by decide +kernel
theorem dX8_tickOne_81 : decode cX8_tickOne 81 = .ok (.getfield 7, 3) := by decide +kernel
theorem dX8_tickOne_84 : decode cX8_tickOne 84 = .ok (.bipush 19, 2) := by decide +kernel
theorem dX8_tickOne_86 : decode cX8_tickOne 86 = .ok (.iload_n 1, 1) := by decide +kernel
theorem dX8_tickOne_87 : decode cX8_tickOne 87 = .ok (.iadd, 1) := by decide +kernel
theorem dX8_tickOne_88 : decode cX8_tickOne 88 = .ok (.iaload, 1) := by decide +kernel
theorem dX8_tickOne_89 : decode cX8_tickOne 89 = .ok (.istore_n 2, 1) := by decide +kernel
theorem dX8_tickOne_90 : decode cX8_tickOne 90 = .ok (.aload_n 0, 1) := by decide +kernel
theorem dX8_tickOne_91 : decode cX8_tickOne 91 = .ok (.getfield 7, 3) := by decide +kernel
theorem dX8_tickOne_94 : decode cX8_tickOne 94 = .ok (.iconst 3, 1) := by decide +kernel
theorem dX8_tickOne_95 : decode cX8_tickOne 95 = .ok (.iload_n 1, 1) := by decide +kernel
theorem dX8_tickOne_96 : decode cX8_tickOne 96 = .ok (.iadd, 1) := by decide +kernel
theorem dX8_tickOne_97 : decode cX8_tickOne 97 = .ok (.dup2, 1) := by decide +kernel
theorem dX8_tickOne_98 : decode cX8_tickOne 98 = .ok (.iaload, 1) := by decide +kernel
theorem dX8_tickOne_99 : decode cX8_tickOne 99 = .ok (.aload_n 0, 1) := by decide +kernel
theorem dX8_tickOne_100 : decode cX8_tickOne 100 = .ok (.getfield 7, 3) := by decide +kernel
theorem dX8_tickOne_103 : decode cX8_tickOne 103 = .ok (.bipush 11, 2) := by decide +kernel
theorem dX8_tickOne_105 : decode cX8_tickOne 105 = .ok (.iload_n 1, 1) := by decide +kernel
theorem dX8_tickOne_106 : decode cX8_tickOne 106 = .ok (.iadd, 1) := by decide +kernel
theorem dX8_tickOne_107 : decode cX8_tickOne 107 = .ok (.iaload, 1) := by decide +kernel
theorem dX8_tickOne_108 : decode cX8_tickOne 108 = .ok (.iload_n 2, 1) := by decide +kernel
theorem dX8_tickOne_109 : decode cX8_tickOne 109 = .ok (.iadd, 1) := by decide +kernel
theorem dX8_tickOne_110 : decode cX8_tickOne 110 = .ok (.iadd, 1) := by decide +kernel
theorem dX8_tickOne_111 : decode cX8_tickOne 111 = .ok (.iastore, 1) := by decide +kernel
theorem dX8_tickOne_112 : decode cX8_tickOne 112 = .ok (.aload_n 0, 1) := by decide +kernel
theorem dX8_tickOne_113 : decode cX8_tickOne 113 = .ok (.getfield 7, 3) := by decide +kernel
theorem dX8_tickOne_116 : decode cX8_tickOne 116 = .ok (.bipush 19, 2) := by decide +kernel
theorem dX8_tickOne_118 : decode cX8_tickOne 118 = .ok (.iload_n 1, 1) := by decide +kernel
theorem dX8_tickOne_119 : decode cX8_tickOne 119 = .ok (.iadd, 1) := by decide +kernel
theorem dX8_tickOne_120 : decode cX8_tickOne 120 = .ok (.dup2, 1) := by decide +kernel
theorem dX8_tickOne_121 : decode cX8_tickOne 121 = .ok (.iaload, 1) := by decide +kernel
theorem dX8_tickOne_122 : decode cX8_tickOne 122 = .ok (.iload_n 2, 1) := by decide +kernel
theorem dX8_tickOne_123 : decode cX8_tickOne 123 = .ok (.isub, 1) := by decide +kernel
theorem dX8_tickOne_124 : decode cX8_tickOne 124 = .ok (.iastore, 1) := by decide +kernel
theorem dX8_tickOne_125 : decode cX8_tickOne 125 = .ok (.iinc 1 1, 3) := by decide +kernel
theorem dX8_tickOne_128 : decode cX8_tickOne 128 = .ok (.goto (-126), 3) := by decide +kernel
theorem dX8_tickOne_131 : decode cX8_tickOne 131 = .ok (.aload_n 0, 1) := by decide +kernel
theorem dX8_tickOne_132 : decode cX8_tickOne 132 = .ok (.getfield 7, 3) := by decide +kernel
theorem dX8_tickOne_135 : decode cX8_tickOne 135 = .ok (.sipush 190, 3) := by decide +kernel
theorem dX8_tickOne_138 : decode cX8_tickOne 138 = .ok (.dup2, 1) := by decide +kernel
theorem dX8_tickOne_139 : decode cX8_tickOne 139 = .ok (.iaload, 1) := by decide +kernel
theorem dX8_tickOne_140 : decode cX8_tickOne 140 = .ok (.iconst 1, 1) := by decide +kernel
theorem dX8_tickOne_141 : decode cX8_tickOne 141 = .ok (.iadd, 1) := by decide +kernel
theorem dX8_tickOne_142 : decode cX8_tickOne 142 = .ok (.iastore, 1) := by decide +kernel
theorem dX8_tickOne_143 : decode cX8_tickOne 143 = .ok (.iconst 0, 1) := by decide +kernel
theorem dX8_tickOne_144 : decode cX8_tickOne 144 = .ok (.istore_n 1, 1) := by decide +kernel
theorem dX8_tickOne_145 : decode cX8_tickOne 145 = .ok (.iload_n 1, 1) := by decide +kernel
theorem dX8_tickOne_146 : decode cX8_tickOne 146 = .ok (.aload_n 0, 1) := by decide +kernel
theorem dX8_tickOne_147 : decode cX8_tickOne 147 = .ok (.getfield 7, 3) := by decide +kernel
theorem dX8_tickOne_150 : decode cX8_tickOne 150 = .ok (.sipush 171, 3) := by decide +kernel
theorem dX8_tickOne_153 : decode cX8_tickOne 153 = .ok (.iaload, 1) := by decide +kernel
theorem dX8_tickOne_154 : decode cX8_tickOne 154 = .ok (.if_icmp .ge 94, 3) := by decide +kernel
theorem dX8_tickOne_157 : decode cX8_tickOne 157 = .ok (.aload_n 0, 1) := by decide +kernel
theorem dX8_tickOne_158 : decode cX8_tickOne 158 = .ok (.getfield 7, 3) := by decide +kernel
theorem dX8_tickOne_161 : decode cX8_tickOne 161 = .ok (.bipush 35, 2) := by decide +kernel
theorem dX8_tickOne_163 : decode cX8_tickOne 163 = .ok (.aload_n 0, 1) := by decide +kernel
theorem dX8_tickOne_164 : decode cX8_tickOne 164 = .ok (.getfield 7, 3) := by decide +kernel
theorem dX8_tickOne_167 : decode cX8_tickOne 167 = .ok (.sipush 172, 3) := by decide +kernel
theorem dX8_tickOne_170 : decode cX8_tickOne 170 = .ok (.iload_n 1, 1) := by decide +kernel
theorem dX8_tickOne_171 : decode cX8_tickOne 171 = .ok (.iadd, 1) := by decide +kernel
theorem dX8_tickOne_172 : decode cX8_tickOne 172 = .ok (.iaload, 1) := by decide +kernel
theorem dX8_tickOne_173 : decode cX8_tickOne 173 = .ok (.iadd, 1) := by decide +kernel
theorem dX8_tickOne_174 : decode cX8_tickOne 174 = .ok (.iaload, 1) := by decide +kernel
theorem dX8_tickOne_175 : decode cX8_tickOne 175 = .ok (.ifCond .ne 37, 3) := by decide +kernel
theorem dX8_tickOne_178 : decode cX8_tickOne 178 = .ok (.aload_n 0, 1) := by decide +kernel
theorem dX8_tickOne_179 : decode cX8_tickOne 179 = .ok (.getfield 7, 3) := by decide +kernel
theorem dX8_tickOne_182 : decode cX8_tickOne 182 = .ok (.iconst 3, 1) := by decide +kernel
theorem dX8_tickOne_183 : decode cX8_tickOne 183 = .ok (.aload_n 0, 1) := by decide +kernel
theorem dX8_tickOne_184 : decode cX8_tickOne 184 = .ok (.getfield 7, 3) := by decide +kernel
theorem dX8_tickOne_187 : decode cX8_tickOne 187 = .ok (.sipush 172, 3) := by decide +kernel
theorem dX8_tickOne_190 : decode cX8_tickOne 190 = .ok (.iload_n 1, 1) := by decide +kernel
theorem dX8_tickOne_191 : decode cX8_tickOne 191 = .ok (.iadd, 1) := by decide +kernel
theorem dX8_tickOne_192 : decode cX8_tickOne 192 = .ok (.iaload, 1) := by decide +kernel
theorem dX8_tickOne_193 : decode cX8_tickOne 193 = .ok (.iadd, 1) := by decide +kernel
theorem dX8_tickOne_194 : decode cX8_tickOne 194 = .ok (.iaload, 1) := by decide +kernel
theorem dX8_tickOne_195 : decode cX8_tickOne 195 = .ok (.aload_n 0, 1) := by decide +kernel
theorem dX8_tickOne_196 : decode cX8_tickOne 196 = .ok (.getfield 7, 3) := by decide +kernel
theorem dX8_tickOne_199 : decode cX8_tickOne 199 = .ok (.sipush 178, 3) := by decide +kernel
theorem dX8_tickOne_202 : decode cX8_tickOne 202 = .ok (.iload_n 1, 1) := by decide +kernel
theorem dX8_tickOne_203 : decode cX8_tickOne 203 = .ok (.iadd, 1) := by decide +kernel
theorem dX8_tickOne_204 : decode cX8_tickOne 204 = .ok (.iaload, 1) := by decide +kernel
theorem dX8_tickOne_205 : decode cX8_tickOne 205 = .ok (.if_icmp .lt 7, 3) := by decide +kernel
theorem dX8_tickOne_208 : decode cX8_tickOne 208 = .ok (.iconst 1, 1) := by decide +kernel
theorem dX8_tickOne_209 : decode cX8_tickOne 209 = .ok (.goto 4, 3) := by decide +kernel
theorem dX8_tickOne_212 : decode cX8_tickOne 212 = .ok (.iconst 0, 1) := by decide +kernel
theorem dX8_tickOne_213 : decode cX8_tickOne 213 = .ok (.istore_n 2, 1) := by decide +kernel
theorem dX8_tickOne_214 : decode cX8_tickOne 214 = .ok (.aload_n 0, 1) := by decide +kernel
theorem dX8_tickOne_215 : decode cX8_tickOne 215 = .ok (.getfield 7, 3) := by decide +kernel
theorem dX8_tickOne_218 : decode cX8_tickOne 218 = .ok (.sipush 184, 3) := by decide +kernel
theorem dX8_tickOne_221 : decode cX8_tickOne 221 = .ok (.iload_n 1, 1) := by decide +kernel
theorem dX8_tickOne_222 : decode cX8_tickOne 222 = .ok (.iadd, 1) := by decide +kernel
theorem dX8_tickOne_223 : decode cX8_tickOne 223 = .ok (.iload_n 2, 1) := by decide +kernel
theorem dX8_tickOne_224 : decode cX8_tickOne 224 = .ok (.ifCond .eq 7, 3) := by decide +kernel
theorem dX8_tickOne_227 : decode cX8_tickOne 227 = .ok (.iconst 1, 1) := by decide +kernel
theorem dX8_tickOne_228 : decode cX8_tickOne 228 = .ok (.goto 13, 3) := by decide +kernel
theorem dX8_tickOne_231 : decode cX8_tickOne 231 = .ok (.aload_n 0, 1) := by decide +kernel
theorem dX8_tickOne_232 : decode cX8_tickOne 232 = .ok (.getfield 7, 3) := by decide +kernel
theorem dX8_tickOne_235 : decode cX8_tickOne 235 = .ok (.sipush 184, 3) := by decide +kernel
theorem dX8_tickOne_238 : decode cX8_tickOne 238 = .ok (.iload_n 1, 1) := by decide +kernel
theorem dX8_tickOne_239 : decode cX8_tickOne 239 = .ok (.iadd, 1) := by decide +kernel
theorem dX8_tickOne_240 : decode cX8_tickOne 240 = .ok (.iaload, 1) := by decide +kernel
theorem dX8_tickOne_241 : decode cX8_tickOne 241 = .ok (.iastore, 1) := by decide +kernel
theorem dX8_tickOne_242 : decode cX8_tickOne 242 = .ok (.iinc 1 1, 3) := by decide +kernel
theorem dX8_tickOne_245 : decode cX8_tickOne 245 = .ok (.goto (-100), 3) := by decide +kernel
theorem dX8_tickOne_248 : decode cX8_tickOne 248 = .ok (.return_, 1) := by decide +kernel
theorem dX8_liars_0 : decode cX8_liars 0 = .ok (.iconst 0, 1) := by decide +kernel
theorem dX8_liars_1 : decode cX8_liars 1 = .ok (.istore_n 1, 1) := by decide +kernel
theorem dX8_liars_2 : decode cX8_liars 2 = .ok (.iconst 0, 1) := by decide +kernel
theorem dX8_liars_3 : decode cX8_liars 3 = .ok (.istore_n 2, 1) := by decide +kernel
theorem dX8_liars_4 : decode cX8_liars 4 = .ok (.iload_n 2, 1) := by decide +kernel
theorem dX8_liars_5 : decode cX8_liars 5 = .ok (.aload_n 0, 1) := by decide +kernel
theorem dX8_liars_6 : decode cX8_liars 6 = .ok (.getfield 7, 3) := by decide +kernel
theorem dX8_liars_9 : decode cX8_liars 9 = .ok (.iconst 0, 1) := by decide +kernel
theorem dX8_liars_10 : decode cX8_liars 10 = .ok (.iaload, 1) := by decide +kernel
theorem dX8_liars_11 : decode cX8_liars 11 = .ok (.if_icmp .ge 26, 3) := by decide +kernel
theorem dX8_liars_14 : decode cX8_liars 14 = .ok (.iload_n 1, 1) := by decide +kernel
theorem dX8_liars_15 : decode cX8_liars 15 = .ok (.aload_n 0, 1) := by decide +kernel
theorem dX8_liars_16 : decode cX8_liars 16 = .ok (.iconst 0, 1) := by decide +kernel
theorem dX8_liars_17 : decode cX8_liars 17 = .ok (.iload_n 2, 1) := by decide +kernel
theorem dX8_liars_18 : decode cX8_liars 18 = .ok (.invokevirtual 120, 3) := by decide +kernel
theorem dX8_liars_21 : decode cX8_liars 21 = .ok (.ifCond .eq 7, 3) := by decide +kernel
theorem dX8_liars_24 : decode cX8_liars 24 = .ok (.iconst 1, 1) := by decide +kernel
theorem dX8_liars_25 : decode cX8_liars 25 = .ok (.goto 4, 3) := by decide +kernel
theorem dX8_liars_28 : decode cX8_liars 28 = .ok (.iconst 0, 1) := by decide +kernel
theorem dX8_liars_29 : decode cX8_liars 29 = .ok (.iadd, 1) := by decide +kernel
theorem dX8_liars_30 : decode cX8_liars 30 = .ok (.istore_n 1, 1) := by decide +kernel
theorem dX8_liars_31 : decode cX8_liars 31 = .ok (.iinc 2 1, 3) := by decide +kernel
theorem dX8_liars_34 : decode cX8_liars 34 = .ok (.goto (-30), 3) := by decide +kernel
theorem dX8_liars_37 : decode cX8_liars 37 = .ok (.iload_n 1, 1) := by decide +kernel
theorem dX8_liars_38 : decode cX8_liars 38 = .ok (.ireturn, 1) := by decide +kernel
theorem dX8_extreme_0 : decode cX8_extreme 0 = .ok (.iconst 0, 1) := by decide +kernel
theorem dX8_extreme_1 : decode cX8_extreme 1 = .ok (.istore_n 3, 1) := by decide +kernel
theorem dX8_extreme_2 : decode cX8_extreme 2 = .ok (.iload_n 3, 1) := by decide +kernel
theorem dX8_extreme_3 : decode cX8_extreme 3 = .ok (.aload_n 0, 1) := by decide +kernel
theorem dX8_extreme_4 : decode cX8_extreme 4 = .ok (.getfield 7, 3) := by decide +kernel
theorem dX8_extreme_7 : decode cX8_extreme 7 = .ok (.iconst 0, 1) := by decide +kernel
theorem dX8_extreme_8 : decode cX8_extreme 8 = .ok (.iaload, 1) := by decide +kernel
theorem dX8_extreme_9 : decode cX8_extreme 9 = .ok (.if_icmp .ge 34, 3) := by decide +kernel
theorem dX8_extreme_12 : decode cX8_extreme 12 = .ok (.aload_n 0, 1) := by decide +kernel
theorem dX8_extreme_13 : decode cX8_extreme 13 = .ok (.iload_n 3, 1) := by decide +kernel
theorem dX8_extreme_14 : decode cX8_extreme 14 = .ok (.aload_n 0, 1) := by decide +kernel
theorem dX8_extreme_15 : decode cX8_extreme 15 = .ok (.iconst 0, 1) := by decide +kernel
theorem dX8_extreme_16 : decode cX8_extreme 16 = .ok (.iload_n 3, 1) := by decide +kernel
theorem dX8_extreme_17 : decode cX8_extreme 17 = .ok (.invokevirtual 120, 3) := by decide +kernel
theorem dX8_extreme_20 : decode cX8_extreme 20 = .ok (.ifCond .eq 7, 3) := by decide +kernel
theorem dX8_extreme_23 : decode cX8_extreme 23 = .ok (.iload_n 2, 1) := by decide +kernel
theorem dX8_extreme_24 : decode cX8_extreme 24 = .ok (.goto 10, 3) := by decide +kernel
theorem dX8_extreme_27 : decode cX8_extreme 27 = .ok (.aload_n 0, 1) := by decide +kernel
theorem dX8_extreme_28 : decode cX8_extreme 28 = .ok (.iconst 0, 1) := by decide +kernel
theorem dX8_extreme_29 : decode cX8_extreme 29 = .ok (.iload_n 3, 1) := by decide +kernel
theorem dX8_extreme_30 : decode cX8_extreme 30 = .ok (.iload_n 1, 1) := by decide +kernel
theorem dX8_extreme_31 : decode cX8_extreme 31 = .ok (.invokevirtual 104, 3) := by decide +kernel
theorem dX8_extreme_34 : decode cX8_extreme 34 = .ok (.invokevirtual 108, 3) := by decide +kernel
theorem dX8_extreme_37 : decode cX8_extreme 37 = .ok (.iinc 3 1, 3) := by decide +kernel
theorem dX8_extreme_40 : decode cX8_extreme 40 = .ok (.goto (-38), 3) := by decide +kernel
theorem dX8_extreme_43 : decode cX8_extreme 43 = .ok (.aload_n 0, 1) := by decide +kernel
theorem dX8_extreme_44 : decode cX8_extreme 44 = .ok (.iconst 0, 1) := by decide +kernel
theorem dX8_extreme_45 : decode cX8_extreme 45 = .ok (.aload_n 0, 1) := by decide +kernel
theorem dX8_extreme_46 : decode cX8_extreme 46 = .ok (.getfield 7, 3) := by decide +kernel
theorem dX8_extreme_49 : decode cX8_extreme 49 = .ok (.iconst 0, 1) := by decide +kernel
theorem dX8_extreme_50 : decode cX8_extreme 50 = .ok (.iaload, 1) := by decide +kernel
theorem dX8_extreme_51 : decode cX8_extreme 51 = .ok (.invokevirtual 111, 3) := by decide +kernel
theorem dX8_extreme_54 : decode cX8_extreme 54 = .ok (.ireturn, 1) := by decide +kernel
theorem dX8_worst_0 : decode cX8_worst 0 = .ok (.iconst 0, 1) := by decide +kernel
theorem dX8_worst_1 : decode cX8_worst 1 = .ok (.istore_n 1, 1) := by decide +kernel
theorem dX8_worst_2 : decode cX8_worst 2 = .ok (.iconst 0, 1) := by decide +kernel
theorem dX8_worst_3 : decode cX8_worst 3 = .ok (.istore_n 2, 1) := by decide +kernel
theorem dX8_worst_4 : decode cX8_worst 4 = .ok (.iconst 0, 1) := by decide +kernel
theorem dX8_worst_5 : decode cX8_worst 5 = .ok (.istore_n 3, 1) := by decide +kernel
theorem dX8_worst_6 : decode cX8_worst 6 = .ok (.iload_n 3, 1) := by decide +kernel
theorem dX8_worst_7 : decode cX8_worst 7 = .ok (.aload_n 0, 1) := by decide +kernel
theorem dX8_worst_8 : decode cX8_worst 8 = .ok (.getfield 7, 3) := by decide +kernel
theorem dX8_worst_11 : decode cX8_worst 11 = .ok (.iconst 0, 1) := by decide +kernel
theorem dX8_worst_12 : decode cX8_worst 12 = .ok (.iaload, 1) := by decide +kernel
theorem dX8_worst_13 : decode cX8_worst 13 = .ok (.if_icmp .ge 26, 3) := by decide +kernel
theorem dX8_worst_16 : decode cX8_worst 16 = .ok (.iload_n 1, 1) := by decide +kernel
theorem dX8_worst_17 : decode cX8_worst 17 = .ok (.aload_n 0, 1) := by decide +kernel
theorem dX8_worst_18 : decode cX8_worst 18 = .ok (.iconst 0, 1) := by decide +kernel
theorem dX8_worst_19 : decode cX8_worst 19 = .ok (.iload_n 3, 1) := by decide +kernel
theorem dX8_worst_20 : decode cX8_worst 20 = .ok (.invokevirtual 114, 3) := by decide +kernel
theorem dX8_worst_23 : decode cX8_worst 23 = .ok (.ifCond .eq 7, 3) := by decide +kernel
theorem dX8_worst_26 : decode cX8_worst 26 = .ok (.iconst 1, 1) := by decide +kernel
theorem dX8_worst_27 : decode cX8_worst 27 = .ok (.goto 4, 3) := by decide +kernel
theorem dX8_worst_30 : decode cX8_worst 30 = .ok (.iconst 0, 1) := by decide +kernel
theorem dX8_worst_31 : decode cX8_worst 31 = .ok (.iadd, 1) := by decide +kernel
theorem dX8_worst_32 : decode cX8_worst 32 = .ok (.istore_n 1, 1) := by decide +kernel
theorem dX8_worst_33 : decode cX8_worst 33 = .ok (.iinc 3 1, 3) := by decide +kernel
theorem dX8_worst_36 : decode cX8_worst 36 = .ok (.goto (-30), 3) := by decide +kernel
theorem dX8_worst_39 : decode cX8_worst 39 = .ok (.iload_n 1, 1) := by decide +kernel
theorem dX8_worst_40 : decode cX8_worst 40 = .ok (.iconst 2, 1) := by decide +kernel
theorem dX8_worst_41 : decode cX8_worst 41 = .ok (.if_icmp .ge 13, 3) := by decide +kernel
theorem dX8_worst_44 : decode cX8_worst 44 = .ok (.iload_n 1, 1) := by decide +kernel
theorem dX8_worst_45 : decode cX8_worst 45 = .ok (.ifCond .ne 7, 3) := by decide +kernel
theorem dX8_worst_48 : decode cX8_worst 48 = .ok (.iconst (-1), 1) := by decide +kernel
theorem dX8_worst_49 : decode cX8_worst 49 = .ok (.goto 4, 3) := by decide +kernel
theorem dX8_worst_52 : decode cX8_worst 52 = .ok (.iconst 0, 1) := by decide +kernel
theorem dX8_worst_53 : decode cX8_worst 53 = .ok (.ireturn, 1) := by decide +kernel
theorem dX8_worst_54 : decode cX8_worst 54 = .ok (.aload_n 0, 1) := by decide +kernel
theorem dX8_worst_55 : decode cX8_worst 55 = .ok (.iconst 0, 1) := by decide +kernel
theorem dX8_worst_56 : decode cX8_worst 56 = .ok (.aload_n 0, 1) := by decide +kernel
theorem dX8_worst_57 : decode cX8_worst 57 = .ok (.getfield 7, 3) := by decide +kernel
theorem dX8_worst_60 : decode cX8_worst 60 = .ok (.iconst 0, 1) := by decide +kernel
theorem dX8_worst_61 : decode cX8_worst 61 = .ok (.iaload, 1) := by decide +kernel
theorem dX8_worst_62 : decode cX8_worst 62 = .ok (.invokevirtual 100, 3) := by decide +kernel
theorem dX8_worst_65 : decode cX8_worst 65 = .ok (.ifCond .eq 9, 3) := by decide +kernel
theorem dX8_worst_68 : decode cX8_worst 68 = .ok (.aload_n 0, 1) := by decide +kernel
theorem dX8_worst_69 : decode cX8_worst 69 = .ok (.iconst 0, 1) := by decide +kernel
theorem dX8_worst_70 : decode cX8_worst 70 = .ok (.invokevirtual 123, 3) := by decide +kernel
theorem dX8_worst_73 : decode cX8_worst 73 = .ok (.ireturn, 1) := by decide +kernel
theorem dX8_worst_74 : decode cX8_worst 74 = .ok (.aload_n 0, 1) := by decide +kernel
theorem dX8_worst_75 : decode cX8_worst 75 = .ok (.invokevirtual 127, 3) := by decide +kernel
theorem dX8_worst_78 : decode cX8_worst 78 = .ok (.aload_n 0, 1) := by decide +kernel
theorem dX8_worst_79 : decode cX8_worst 79 = .ok (.getfield 7, 3) := by decide +kernel
theorem dX8_worst_82 : decode cX8_worst 82 = .ok (.iconst 1, 1) := by decide +kernel
theorem dX8_worst_83 : decode cX8_worst 83 = .ok (.iaload, 1) := by decide +kernel
theorem dX8_worst_84 : decode cX8_worst 84 = .ok (.if_icmp .le 6, 3) := by decide +kernel
theorem dX8_worst_87 : decode cX8_worst 87 = .ok (.ldc 130, 2) := by decide +kernel
theorem dX8_worst_89 : decode cX8_worst 89 = .ok (.ireturn, 1) := by decide +kernel
theorem dX8_worst_90 : decode cX8_worst 90 = .ok (.iconst 0, 1) := by decide +kernel
theorem dX8_worst_91 : decode cX8_worst 91 = .ok (.istore_n 3, 1) := by decide +kernel
theorem dX8_worst_92 : decode cX8_worst 92 = .ok (.iload_n 3, 1) := by decide +kernel
theorem dX8_worst_93 : decode cX8_worst 93 = .ok (.aload_n 0, 1) := by decide +kernel
theorem dX8_worst_94 : decode cX8_worst 94 = .ok (.getfield 7, 3) := by decide +kernel
theorem dX8_worst_97 : decode cX8_worst 97 = .ok (.iconst 0, 1) := by decide +kernel
theorem dX8_worst_98 : decode cX8_worst 98 = .ok (.iaload, 1) := by decide +kernel
theorem dX8_worst_99 : decode cX8_worst 99 = .ok (.if_icmp .ge 101, 3) := by decide +kernel
theorem dX8_worst_102 : decode cX8_worst 102 = .ok (.iconst 0, 1) := by decide +kernel
theorem dX8_worst_103 : decode cX8_worst 103 = .ok (.istore 4, 2) := by decide +kernel
theorem dX8_worst_105 : decode cX8_worst 105 = .ok (.iload 4, 2) := by decide +kernel
theorem dX8_worst_107 : decode cX8_worst 107 = .ok (.aload_n 0, 1) := by decide +kernel
theorem dX8_worst_108 : decode cX8_worst 108 = .ok (.getfield 7, 3) := by decide +kernel
theorem dX8_worst_111 : decode cX8_worst 111 = .ok (.iconst 0, 1) := by decide +kernel
theorem dX8_worst_112 : decode cX8_worst 112 = .ok (.iaload, 1) := by decide +kernel
theorem dX8_worst_113 : decode cX8_worst 113 = .ok (.if_icmp .ge 81, 3) := by decide +kernel
theorem dX8_worst_116 : decode cX8_worst 116 = .ok (.iload_n 3, 1) := by decide +kernel
theorem dX8_worst_117 : decode cX8_worst 117 = .ok (.iload 4, 2) := by decide +kernel
theorem dX8_worst_119 : decode cX8_worst 119 = .ok (.if_icmp .eq 26, 3) := by decide +kernel
theorem dX8_worst_122 : decode cX8_worst 122 = .ok (.aload_n 0, 1) := by decide +kernel
theorem dX8_worst_123 : decode cX8_worst 123 = .ok (.iconst 0, 1) := by decide +kernel
theorem dX8_worst_124 : decode cX8_worst 124 = .ok (.iload_n 3, 1) := by decide +kernel
theorem dX8_worst_125 : decode cX8_worst 125 = .ok (.invokevirtual 114, 3) := by decide +kernel
theorem dX8_worst_128 : decode cX8_worst 128 = .ok (.ifCond .eq 17, 3) := by decide +kernel
theorem dX8_worst_131 : decode cX8_worst 131 = .ok (.aload_n 0, 1) := by decide +kernel
theorem dX8_worst_132 : decode cX8_worst 132 = .ok (.iconst 0, 1) := by decide +kernel
theorem dX8_worst_133 : decode cX8_worst 133 = .ok (.iload 4, 2) := by decide +kernel
theorem dX8_worst_135 : decode cX8_worst 135 = .ok (.invokevirtual 114, 3) := by decide +kernel
theorem dX8_worst_138 : decode cX8_worst 138 = .ok (.ifCond .eq 7, 3) := by decide +kernel
theorem dX8_worst_141 : decode cX8_worst 141 = .ok (.iconst 1, 1) := by decide +kernel
theorem dX8_worst_142 : decode cX8_worst 142 = .ok (.goto 4, 3) := by decide +kernel
theorem dX8_worst_145 : decode cX8_worst 145 = .ok (.iconst 0, 1) := by decide +kernel
theorem dX8_worst_146 : decode cX8_worst 146 = .ok (.istore 5, 2) := by decide +kernel
theorem dX8_worst_148 : decode cX8_worst 148 = .ok (.iload 5, 2) := by decide +kernel
theorem dX8_worst_150 : decode cX8_worst 150 = .ok (.ifCond .eq 22, 3) := by decide +kernel
theorem dX8_worst_153 : decode cX8_worst 153 = .ok (.aload_n 0, 1) := by decide +kernel
theorem dX8_worst_154 : decode cX8_worst 154 = .ok (.iload_n 3, 1) := by decide +kernel
theorem dX8_worst_155 : decode cX8_worst 155 = .ok (.ldc 131, 2) := by decide +kernel
theorem dX8_worst_157 : decode cX8_worst 157 = .ok (.invokevirtual 132, 3) := by decide +kernel
theorem dX8_worst_160 : decode cX8_worst 160 = .ok (.aload_n 0, 1) := by decide +kernel
theorem dX8_worst_161 : decode cX8_worst 161 = .ok (.iload 4, 2) := by decide +kernel
theorem dX8_worst_163 : decode cX8_worst 163 = .ok (.ldc 135, 2) := by decide +kernel
theorem dX8_worst_165 : decode cX8_worst 165 = .ok (.invokevirtual 132, 3) := by decide +kernel
theorem dX8_worst_168 : decode cX8_worst 168 = .ok (.isub, 1) := by decide +kernel
theorem dX8_worst_169 : decode cX8_worst 169 = .ok (.goto 4, 3) := by decide +kernel
theorem dX8_worst_172 : decode cX8_worst 172 = .ok (.iconst 0, 1) := by decide +kernel
theorem dX8_worst_173 : decode cX8_worst 173 = .ok (.istore 6, 2) := by decide +kernel
theorem dX8_worst_175 : decode cX8_worst 175 = .ok (.iload 6, 2) := by decide +kernel
theorem dX8_worst_177 : decode cX8_worst 177 = .ok (.iload_n 2, 1) := by decide +kernel
theorem dX8_worst_178 : decode cX8_worst 178 = .ok (.if_icmp .le 8, 3) := by decide +kernel
theorem dX8_worst_181 : decode cX8_worst 181 = .ok (.iload 6, 2) := by decide +kernel
theorem dX8_worst_183 : decode cX8_worst 183 = .ok (.goto 4, 3) := by decide +kernel
theorem dX8_worst_186 : decode cX8_worst 186 = .ok (.iload_n 2, 1) := by decide +kernel
theorem dX8_worst_187 : decode cX8_worst 187 = .ok (.istore_n 2, 1) := by decide +kernel
theorem dX8_worst_188 : decode cX8_worst 188 = .ok (.iinc 4 1, 3) := by decide +kernel
theorem dX8_worst_191 : decode cX8_worst 191 = .ok (.goto (-86), 3) := by decide +kernel
theorem dX8_worst_194 : decode cX8_worst 194 = .ok (.iinc 3 1, 3) := by decide +kernel
theorem dX8_worst_197 : decode cX8_worst 197 = .ok (.goto (-105), 3) := by decide +kernel
theorem dX8_worst_200 : decode cX8_worst 200 = .ok (.iload_n 2, 1) := by decide +kernel
theorem dX8_worst_201 : decode cX8_worst 201 = .ok (.ireturn, 1) := by decide +kernel
end
section
theorem dX8_mayLie_0 : decode cX8_mayLie 0 = .ok (.iconst 0, 1) := by decide +kernel
theorem dX8_mayLie_1 : decode cX8_mayLie 1 = .ok (.istore_n 1, 1) := by decide +kernel
theorem dX8_mayLie_2 : decode cX8_mayLie 2 = .ok (.iconst 0, 1) := by decide +kernel
theorem dX8_mayLie_3 : decode cX8_mayLie 3 = .ok (.istore_n 2, 1) := by decide +kernel
theorem dX8_mayLie_4 : decode cX8_mayLie 4 = .ok (.iload_n 2, 1) := by decide +kernel
theorem dX8_mayLie_5 : decode cX8_mayLie 5 = .ok (.aload_n 0, 1) := by decide +kernel
theorem dX8_mayLie_6 : decode cX8_mayLie 6 = .ok (.getfield 7, 3) := by decide +kernel
theorem dX8_mayLie_9 : decode cX8_mayLie 9 = .ok (.iconst 0, 1) := by decide +kernel
theorem dX8_mayLie_10 : decode cX8_mayLie 10 = .ok (.iaload, 1) := by decide +kernel
theorem dX8_mayLie_11 : decode cX8_mayLie 11 = .ok (.if_icmp .ge 29, 3) := by decide +kernel
theorem dX8_mayLie_14 : decode cX8_mayLie 14 = .ok (.iload_n 1, 1) := by decide +kernel
theorem dX8_mayLie_15 : decode cX8_mayLie 15 = .ok (.aload_n 0, 1) := by decide +kernel
theorem dX8_mayLie_16 : decode cX8_mayLie 16 = .ok (.getfield 7, 3) := by decide +kernel
theorem dX8_mayLie_19 : decode cX8_mayLie 19 = .ok (.bipush 35, 2) := by decide +kernel
theorem dX8_mayLie_21 : decode cX8_mayLie 21 = .ok (.iload_n 2, 1) := by decide +kernel
theorem dX8_mayLie_22 : decode cX8_mayLie 22 = .ok (.iadd, 1) := by decide +kernel
theorem dX8_mayLie_23 : decode cX8_mayLie 23 = .ok (.iaload, 1) := by decide +kernel
theorem dX8_mayLie_24 : decode cX8_mayLie 24 = .ok (.ifCond .ne 7, 3) := by decide +kernel
theorem dX8_mayLie_27 : decode cX8_mayLie 27 = .ok (.iconst 1, 1) := by decide +kernel
theorem dX8_mayLie_28 : decode cX8_mayLie 28 = .ok (.goto 4, 3) := by decide +kernel
theorem dX8_mayLie_31 : decode cX8_mayLie 31 = .ok (.iconst 0, 1) := by decide +kernel
theorem dX8_mayLie_32 : decode cX8_mayLie 32 = .ok (.iadd, 1) := by decide +kernel
theorem dX8_mayLie_33 : decode cX8_mayLie 33 = .ok (.istore_n 1, 1) := by decide +kernel
theorem dX8_mayLie_34 : decode cX8_mayLie 34 = .ok (.iinc 2 1, 3) := by decide +kernel
theorem dX8_mayLie_37 : decode cX8_mayLie 37 = .ok (.goto (-33), 3) := by decide +kernel
theorem dX8_mayLie_40 : decode cX8_mayLie 40 = .ok (.iload_n 1, 1) := by decide +kernel
theorem dX8_mayLie_41 : decode cX8_mayLie 41 = .ok (.iconst 1, 1) := by decide +kernel
theorem dX8_mayLie_42 : decode cX8_mayLie 42 = .ok (.isub, 1) := by decide +kernel
theorem dX8_mayLie_43 : decode cX8_mayLie 43 = .ok (.iconst 3, 1) := by decide +kernel
theorem dX8_mayLie_44 : decode cX8_mayLie 44 = .ok (.idiv, 1) := by decide +kernel
theorem dX8_mayLie_45 : decode cX8_mayLie 45 = .ok (.istore_n 2, 1) := by decide +kernel
theorem dX8_mayLie_46 : decode cX8_mayLie 46 = .ok (.iload_n 1, 1) := by decide +kernel
theorem dX8_mayLie_47 : decode cX8_mayLie 47 = .ok (.ifCond .ne 7, 3) := by decide +kernel
theorem dX8_mayLie_50 : decode cX8_mayLie 50 = .ok (.iconst (-1), 1) := by decide +kernel
theorem dX8_mayLie_51 : decode cX8_mayLie 51 = .ok (.goto 23, 3) := by decide +kernel
theorem dX8_mayLie_54 : decode cX8_mayLie 54 = .ok (.iload_n 2, 1) := by decide +kernel
theorem dX8_mayLie_55 : decode cX8_mayLie 55 = .ok (.aload_n 0, 1) := by decide +kernel
theorem dX8_mayLie_56 : decode cX8_mayLie 56 = .ok (.getfield 7, 3) := by decide +kernel
theorem dX8_mayLie_59 : decode cX8_mayLie 59 = .ok (.iconst 1, 1) := by decide +kernel
theorem dX8_mayLie_60 : decode cX8_mayLie 60 = .ok (.iaload, 1) := by decide +kernel
theorem dX8_mayLie_61 : decode cX8_mayLie 61 = .ok (.if_icmp .ge 7, 3) := by decide +kernel
theorem dX8_mayLie_64 : decode cX8_mayLie 64 = .ok (.iload_n 2, 1) := by decide +kernel
theorem dX8_mayLie_65 : decode cX8_mayLie 65 = .ok (.goto 9, 3) := by decide +kernel
theorem dX8_mayLie_68 : decode cX8_mayLie 68 = .ok (.aload_n 0, 1) := by decide +kernel
theorem dX8_mayLie_69 : decode cX8_mayLie 69 = .ok (.getfield 7, 3) := by decide +kernel
theorem dX8_mayLie_72 : decode cX8_mayLie 72 = .ok (.iconst 1, 1) := by decide +kernel
theorem dX8_mayLie_73 : decode cX8_mayLie 73 = .ok (.iaload, 1) := by decide +kernel
theorem dX8_mayLie_74 : decode cX8_mayLie 74 = .ok (.ireturn, 1) := by decide +kernel
theorem dX8_rank_0 : decode cX8_rank 0 = .ok (.aload_n 0, 1) := by decide +kernel
theorem dX8_rank_1 : decode cX8_rank 1 = .ok (.iconst 0, 1) := by decide +kernel
theorem dX8_rank_2 : decode cX8_rank 2 = .ok (.iload_n 1, 1) := by decide +kernel
theorem dX8_rank_3 : decode cX8_rank 3 = .ok (.iload_n 2, 1) := by decide +kernel
theorem dX8_rank_4 : decode cX8_rank 4 = .ok (.invokevirtual 104, 3) := by decide +kernel
theorem dX8_rank_7 : decode cX8_rank 7 = .ok (.istore_n 3, 1) := by decide +kernel
theorem dX8_rank_8 : decode cX8_rank 8 = .ok (.iconst 0, 1) := by decide +kernel
theorem dX8_rank_9 : decode cX8_rank 9 = .ok (.istore 4, 2) := by decide +kernel
theorem dX8_rank_11 : decode cX8_rank 11 = .ok (.iconst 0, 1) := by decide +kernel
theorem dX8_rank_12 : decode cX8_rank 12 = .ok (.istore 5, 2) := by decide +kernel
theorem dX8_rank_14 : decode cX8_rank 14 = .ok (.iload 5, 2) := by decide +kernel
theorem dX8_rank_16 : decode cX8_rank 16 = .ok (.aload_n 0, 1) := by decide +kernel
theorem dX8_rank_17 : decode cX8_rank 17 = .ok (.getfield 7, 3) := by decide +kernel
theorem dX8_rank_20 : decode cX8_rank 20 = .ok (.iconst 0, 1) := by decide +kernel
theorem dX8_rank_21 : decode cX8_rank 21 = .ok (.iaload, 1) := by decide +kernel
theorem dX8_rank_22 : decode cX8_rank 22 = .ok (.if_icmp .ge 47, 3) := by decide +kernel
theorem dX8_rank_25 : decode cX8_rank 25 = .ok (.aload_n 0, 1) := by decide +kernel
theorem dX8_rank_26 : decode cX8_rank 26 = .ok (.iconst 0, 1) := by decide +kernel
theorem dX8_rank_27 : decode cX8_rank 27 = .ok (.iload 5, 2) := by decide +kernel
theorem dX8_rank_29 : decode cX8_rank 29 = .ok (.iload_n 2, 1) := by decide +kernel
theorem dX8_rank_30 : decode cX8_rank 30 = .ok (.invokevirtual 104, 3) := by decide +kernel
theorem dX8_rank_33 : decode cX8_rank 33 = .ok (.istore 6, 2) := by decide +kernel
theorem dX8_rank_35 : decode cX8_rank 35 = .ok (.iload 4, 2) := by decide +kernel
theorem dX8_rank_37 : decode cX8_rank 37 = .ok (.iload 6, 2) := by decide +kernel
theorem dX8_rank_39 : decode cX8_rank 39 = .ok (.iload_n 3, 1) := by decide +kernel
theorem dX8_rank_40 : decode cX8_rank 40 = .ok (.if_icmp .lt 15, 3) := by decide +kernel
theorem dX8_rank_43 : decode cX8_rank 43 = .ok (.iload 6, 2) := by decide +kernel
theorem dX8_rank_45 : decode cX8_rank 45 = .ok (.iload_n 3, 1) := by decide +kernel
theorem dX8_rank_46 : decode cX8_rank 46 = .ok (.if_icmp .ne 13, 3) := by decide +kernel
theorem dX8_rank_49 : decode cX8_rank 49 = .ok (.iload 5, 2) := by decide +kernel
theorem dX8_rank_51 : decode cX8_rank 51 = .ok (.iload_n 1, 1) := by decide +kernel
theorem dX8_rank_52 : decode cX8_rank 52 = .ok (.if_icmp .ge 7, 3) := by decide +kernel
theorem dX8_rank_55 : decode cX8_rank 55 = .ok (.iconst 1, 1) := by decide +kernel
theorem dX8_rank_56 : decode cX8_rank 56 = .ok (.goto 4, 3) := by decide +kernel
theorem dX8_rank_59 : decode cX8_rank 59 = .ok (.iconst 0, 1) := by decide +kernel
theorem dX8_rank_60 : decode cX8_rank 60 = .ok (.iadd, 1) := by decide +kernel
theorem dX8_rank_61 : decode cX8_rank 61 = .ok (.istore 4, 2) := by decide +kernel
theorem dX8_rank_63 : decode cX8_rank 63 = .ok (.iinc 5 1, 3) := by decide +kernel
theorem dX8_rank_66 : decode cX8_rank 66 = .ok (.goto (-52), 3) := by decide +kernel
theorem dX8_rank_69 : decode cX8_rank 69 = .ok (.iload 4, 2) := by decide +kernel
theorem dX8_rank_71 : decode cX8_rank 71 = .ok (.ireturn, 1) := by decide +kernel
theorem dX8_farthest_0 : decode cX8_farthest 0 = .ok (.aload_n 0, 1) := by decide +kernel
theorem dX8_farthest_1 : decode cX8_farthest 1 = .ok (.iconst 0, 1) := by decide +kernel
theorem dX8_farthest_2 : decode cX8_farthest 2 = .ok (.iload_n 2, 1) := by decide +kernel
theorem dX8_farthest_3 : decode cX8_farthest 3 = .ok (.invokevirtual 114, 3) := by decide +kernel
theorem dX8_farthest_6 : decode cX8_farthest 6 = .ok (.ifCond .eq 12, 3) := by decide +kernel
theorem dX8_farthest_9 : decode cX8_farthest 9 = .ok (.aload_n 0, 1) := by decide +kernel
theorem dX8_farthest_10 : decode cX8_farthest 10 = .ok (.iconst 0, 1) := by decide +kernel
theorem dX8_farthest_11 : decode cX8_farthest 11 = .ok (.iload_n 1, 1) := by decide +kernel
theorem dX8_farthest_12 : decode cX8_farthest 12 = .ok (.invokevirtual 120, 3) := by decide +kernel
theorem dX8_farthest_15 : decode cX8_farthest 15 = .ok (.ifCond .ne 5, 3) := by decide +kernel
theorem dX8_farthest_18 : decode cX8_farthest 18 = .ok (.iconst (-1), 1) := by decide +kernel
theorem dX8_farthest_19 : decode cX8_farthest 19 = .ok (.ireturn, 1) := by decide +kernel
theorem dX8_farthest_20 : decode cX8_farthest 20 = .ok (.bipush 107, 2) := by decide +kernel
theorem dX8_farthest_22 : decode cX8_farthest 22 = .ok (.bipush 8, 2) := by decide +kernel
theorem dX8_farthest_24 : decode cX8_farthest 24 = .ok (.iload_n 1, 1) := by decide +kernel
theorem dX8_farthest_25 : decode cX8_farthest 25 = .ok (.imul, 1) := by decide +kernel
theorem dX8_farthest_26 : decode cX8_farthest 26 = .ok (.iadd, 1) := by decide +kernel
theorem dX8_farthest_27 : decode cX8_farthest 27 = .ok (.iload_n 2, 1) := by decide +kernel
theorem dX8_farthest_28 : decode cX8_farthest 28 = .ok (.iadd, 1) := by decide +kernel
theorem dX8_farthest_29 : decode cX8_farthest 29 = .ok (.istore_n 3, 1) := by decide +kernel
theorem dX8_farthest_30 : decode cX8_farthest 30 = .ok (.aload_n 0, 1) := by decide +kernel
theorem dX8_farthest_31 : decode cX8_farthest 31 = .ok (.getfield 7, 3) := by decide +kernel
theorem dX8_farthest_34 : decode cX8_farthest 34 = .ok (.iload_n 3, 1) := by decide +kernel
theorem dX8_farthest_35 : decode cX8_farthest 35 = .ok (.iaload, 1) := by decide +kernel
theorem dX8_farthest_36 : decode cX8_farthest 36 = .ok (.istore 4, 2) := by decide +kernel
theorem dX8_farthest_38 : decode cX8_farthest 38 = .ok (.iconst 0, 1) := by decide +kernel
theorem dX8_farthest_39 : decode cX8_farthest 39 = .ok (.istore 5, 2) := by decide +kernel
theorem dX8_farthest_41 : decode cX8_farthest 41 = .ok (.iconst (-1), 1) := by decide +kernel
theorem dX8_farthest_42 : decode cX8_farthest 42 = .ok (.istore 6, 2) := by decide +kernel
theorem dX8_farthest_44 : decode cX8_farthest 44 = .ok (.iconst 0, 1) := by decide +kernel
theorem dX8_farthest_45 : decode cX8_farthest 45 = .ok (.istore 7, 2) := by decide +kernel
theorem dX8_farthest_47 : decode cX8_farthest 47 = .ok (.iload 7, 2) := by decide +kernel
theorem dX8_farthest_49 : decode cX8_farthest 49 = .ok (.iconst 3, 1) := by decide +kernel
theorem dX8_farthest_50 : decode cX8_farthest 50 = .ok (.if_icmp .ge 93, 3) := by decide +kernel
theorem dX8_farthest_53 : decode cX8_farthest 53 = .ok (.aload_n 0, 1) := by decide +kernel
theorem dX8_farthest_54 : decode cX8_farthest 54 = .ok (.getfield 7, 3) := by decide +kernel
theorem dX8_farthest_57 : decode cX8_farthest 57 = .ok (.iload_n 3, 1) := by decide +kernel
theorem dX8_farthest_58 : decode cX8_farthest 58 = .ok (.sipush 9999, 3) := by decide +kernel
theorem dX8_farthest_61 : decode cX8_farthest 61 = .ok (.iload 7, 2) := by decide +kernel
theorem dX8_farthest_63 : decode cX8_farthest 63 = .ok (.iconst 1, 1) := by decide +kernel
theorem dX8_farthest_64 : decode cX8_farthest 64 = .ok (.isub, 1) := by decide +kernel
theorem dX8_farthest_65 : decode cX8_farthest 65 = .ok (.imul, 1) := by decide +kernel
theorem dX8_farthest_66 : decode cX8_farthest 66 = .ok (.iastore, 1) := by decide +kernel
theorem dX8_farthest_67 : decode cX8_farthest 67 = .ok (.aload_n 0, 1) := by decide +kernel
theorem dX8_farthest_68 : decode cX8_farthest 68 = .ok (.iconst 0, 1) := by decide +kernel
theorem dX8_farthest_69 : decode cX8_farthest 69 = .ok (.iload_n 2, 1) := by decide +kernel
theorem dX8_farthest_70 : decode cX8_farthest 70 = .ok (.invokevirtual 117, 3) := by decide +kernel
theorem dX8_farthest_73 : decode cX8_farthest 73 = .ok (.aload_n 0, 1) := by decide +kernel
theorem dX8_farthest_74 : decode cX8_farthest 74 = .ok (.iconst 0, 1) := by decide +kernel
theorem dX8_farthest_75 : decode cX8_farthest 75 = .ok (.iload_n 2, 1) := by decide +kernel
theorem dX8_farthest_76 : decode cX8_farthest 76 = .ok (.invokevirtual 97, 3) := by decide +kernel
theorem dX8_farthest_79 : decode cX8_farthest 79 = .ok (.isub, 1) := by decide +kernel
theorem dX8_farthest_80 : decode cX8_farthest 80 = .ok (.istore 8, 2) := by decide +kernel
theorem dX8_farthest_82 : decode cX8_farthest 82 = .ok (.iload 8, 2) := by decide +kernel
theorem dX8_farthest_84 : decode cX8_farthest 84 = .ok (.ifCond .ge 9, 3) := by decide +kernel
theorem dX8_farthest_87 : decode cX8_farthest 87 = .ok (.iload 8, 2) := by decide +kernel
theorem dX8_farthest_89 : decode cX8_farthest 89 = .ok (.ineg, 1) := by decide +kernel
theorem dX8_farthest_90 : decode cX8_farthest 90 = .ok (.goto 5, 3) := by decide +kernel
theorem dX8_farthest_93 : decode cX8_farthest 93 = .ok (.iload 8, 2) := by decide +kernel
theorem dX8_farthest_95 : decode cX8_farthest 95 = .ok (.istore 8, 2) := by decide +kernel
theorem dX8_farthest_97 : decode cX8_farthest 97 = .ok (.iload 8, 2) := by decide +kernel
theorem dX8_farthest_99 : decode cX8_farthest 99 = .ok (.iload 6, 2) := by decide +kernel
theorem dX8_farthest_101 : decode cX8_farthest 101 = .ok (.if_icmp .le 16, 3) := by decide +kernel
theorem dX8_farthest_104 : decode cX8_farthest 104 = .ok (.aload_n 0, 1) := by decide +kernel
theorem dX8_farthest_105 : decode cX8_farthest 105 = .ok (.getfield 7, 3) := by decide +kernel
theorem dX8_farthest_108 : decode cX8_farthest 108 = .ok (.iload_n 3, 1) := by decide +kernel
theorem dX8_farthest_109 : decode cX8_farthest 109 = .ok (.iaload, 1) := by decide +kernel
theorem dX8_farthest_110 : decode cX8_farthest 110 = .ok (.sipush 9999, 3) := by decide +kernel
theorem dX8_farthest_113 : decode cX8_farthest 113 = .ok (.iadd, 1) := by decide +kernel
theorem dX8_farthest_114 : decode cX8_farthest 114 = .ok (.goto 5, 3) := by decide +kernel
theorem dX8_farthest_117 : decode cX8_farthest 117 = .ok (.iload 5, 2) := by decide +kernel
theorem dX8_farthest_119 : decode cX8_farthest 119 = .ok (.istore 5, 2) := by decide +kernel
theorem dX8_farthest_121 : decode cX8_farthest 121 = .ok (.iload 8, 2) := by decide +kernel
theorem dX8_farthest_123 : decode cX8_farthest 123 = .ok (.iload 6, 2) := by decide +kernel
theorem dX8_farthest_125 : decode cX8_farthest 125 = .ok (.if_icmp .le 8, 3) := by decide +kernel
theorem dX8_farthest_128 : decode cX8_farthest 128 = .ok (.iload 8, 2) := by decide +kernel
theorem dX8_farthest_130 : decode cX8_farthest 130 = .ok (.goto 5, 3) := by decide +kernel
theorem dX8_farthest_133 : decode cX8_farthest 133 = .ok (.iload 6, 2) := by decide +kernel
theorem dX8_farthest_135 : decode cX8_farthest 135 = .ok (.istore 6, 2) := by decide +kernel
theorem dX8_farthest_137 : decode cX8_farthest 137 = .ok (.iinc 7 1, 3) := by decide +kernel
theorem dX8_farthest_140 : decode cX8_farthest 140 = .ok (.goto (-93), 3) := by decide +kernel
theorem dX8_farthest_143 : decode cX8_farthest 143 = .ok (.aload_n 0, 1) := by decide +kernel
theorem dX8_farthest_144 : decode cX8_farthest 144 = .ok (.getfield 7, 3) := by decide +kernel
theorem dX8_farthest_147 : decode cX8_farthest 147 = .ok (.iload_n 3, 1) := by decide +kernel
theorem dX8_farthest_148 : decode cX8_farthest 148 = .ok (.iload 4, 2) := by decide +kernel
theorem dX8_farthest_150 : decode cX8_farthest 150 = .ok (.iastore, 1) := by decide +kernel
theorem dX8_farthest_151 : decode cX8_farthest 151 = .ok (.iload 5, 2) := by decide +kernel
theorem dX8_farthest_153 : decode cX8_farthest 153 = .ok (.ireturn, 1) := by decide +kernel
theorem dX8_setOf_0 : decode cX8_setOf 0 = .ok (.iconst 0, 1) := by decide +kernel
theorem dX8_setOf_1 : decode cX8_setOf 1 = .ok (.istore_n 2, 1) := by decide +kernel
theorem dX8_setOf_2 : decode cX8_setOf 2 = .ok (.iconst 0, 1) := by decide +kernel
theorem dX8_setOf_3 : decode cX8_setOf 3 = .ok (.istore_n 3, 1) := by decide +kernel
theorem dX8_setOf_4 : decode cX8_setOf 4 = .ok (.iload_n 3, 1) := by decide +kernel
theorem dX8_setOf_5 : decode cX8_setOf 5 = .ok (.aload_n 0, 1) := by decide +kernel
theorem dX8_setOf_6 : decode cX8_setOf 6 = .ok (.getfield 7, 3) := by decide +kernel
theorem dX8_setOf_9 : decode cX8_setOf 9 = .ok (.iconst 0, 1) := by decide +kernel
theorem dX8_setOf_10 : decode cX8_setOf 10 = .ok (.iaload, 1) := by decide +kernel
theorem dX8_setOf_11 : decode cX8_setOf 11 = .ok (.if_icmp .ge 84, 3) := by decide +kernel
theorem dX8_setOf_14 : decode cX8_setOf 14 = .ok (.iload_n 1, 1) := by decide +kernel
theorem dX8_setOf_15 : decode cX8_setOf 15 = .ok (.iconst 4, 1) := by decide +kernel
theorem dX8_setOf_16 : decode cX8_setOf 16 = .ok (.if_icmp .ne 24, 3) := by decide +kernel
theorem dX8_setOf_19 : decode cX8_setOf 19 = .ok (.aload_n 0, 1) := by decide +kernel
theorem dX8_setOf_20 : decode cX8_setOf 20 = .ok (.getfield 7, 3) := by decide +kernel
theorem dX8_setOf_23 : decode cX8_setOf 23 = .ok (.bipush 27, 2) := by decide +kernel
theorem dX8_setOf_25 : decode cX8_setOf 25 = .ok (.iload_n 3, 1) := by decide +kernel
theorem dX8_setOf_26 : decode cX8_setOf 26 = .ok (.iadd, 1) := by decide +kernel
theorem dX8_setOf_27 : decode cX8_setOf 27 = .ok (.iaload, 1) := by decide +kernel
theorem dX8_setOf_28 : decode cX8_setOf 28 = .ok (.iconst 1, 1) := by decide +kernel
theorem dX8_setOf_29 : decode cX8_setOf 29 = .ok (.if_icmp .ne 7, 3) := by decide +kernel
theorem dX8_setOf_32 : decode cX8_setOf 32 = .ok (.iconst 1, 1) := by decide +kernel
theorem dX8_setOf_33 : decode cX8_setOf 33 = .ok (.goto 39, 3) := by decide +kernel
theorem dX8_setOf_36 : decode cX8_setOf 36 = .ok (.iconst 0, 1) := by decide +kernel
theorem dX8_setOf_37 : decode cX8_setOf 37 = .ok (.goto 35, 3) := by decide +kernel
theorem dX8_setOf_40 : decode cX8_setOf 40 = .ok (.iload_n 1, 1) := by decide +kernel
theorem dX8_setOf_41 : decode cX8_setOf 41 = .ok (.iconst 5, 1) := by decide +kernel
theorem dX8_setOf_42 : decode cX8_setOf 42 = .ok (.if_icmp .ne 24, 3) := by decide +kernel
theorem dX8_setOf_45 : decode cX8_setOf 45 = .ok (.aload_n 0, 1) := by decide +kernel
theorem dX8_setOf_46 : decode cX8_setOf 46 = .ok (.getfield 7, 3) := by decide +kernel
theorem dX8_setOf_49 : decode cX8_setOf 49 = .ok (.bipush 35, 2) := by decide +kernel
theorem dX8_setOf_51 : decode cX8_setOf 51 = .ok (.iload_n 3, 1) := by decide +kernel
theorem dX8_setOf_52 : decode cX8_setOf 52 = .ok (.iadd, 1) := by decide +kernel
theorem dX8_setOf_53 : decode cX8_setOf 53 = .ok (.iaload, 1) := by decide +kernel
theorem dX8_setOf_54 : decode cX8_setOf 54 = .ok (.iconst 1, 1) := by decide +kernel
theorem dX8_setOf_55 : decode cX8_setOf 55 = .ok (.if_icmp .ne 7, 3) := by decide +kernel
theorem dX8_setOf_58 : decode cX8_setOf 58 = .ok (.iconst 1, 1) := by decide +kernel
theorem dX8_setOf_59 : decode cX8_setOf 59 = .ok (.goto 13, 3) := by decide +kernel
theorem dX8_setOf_62 : decode cX8_setOf 62 = .ok (.iconst 0, 1) := by decide +kernel
theorem dX8_setOf_63 : decode cX8_setOf 63 = .ok (.goto 9, 3) := by decide +kernel
theorem dX8_setOf_66 : decode cX8_setOf 66 = .ok (.aload_n 0, 1) := by decide +kernel
theorem dX8_setOf_67 : decode cX8_setOf 67 = .ok (.iconst 0, 1) := by decide +kernel
theorem dX8_setOf_68 : decode cX8_setOf 68 = .ok (.iload_n 3, 1) := by decide +kernel
theorem dX8_setOf_69 : decode cX8_setOf 69 = .ok (.invokevirtual 114, 3) := by decide +kernel
theorem dX8_setOf_72 : decode cX8_setOf 72 = .ok (.istore 4, 2) := by decide +kernel
theorem dX8_setOf_74 : decode cX8_setOf 74 = .ok (.iload_n 2, 1) := by decide +kernel
theorem dX8_setOf_75 : decode cX8_setOf 75 = .ok (.iload 4, 2) := by decide +kernel
theorem dX8_setOf_77 : decode cX8_setOf 77 = .ok (.ifCond .eq 9, 3) := by decide +kernel
theorem dX8_setOf_80 : decode cX8_setOf 80 = .ok (.iconst 1, 1) := by decide +kernel
theorem dX8_setOf_81 : decode cX8_setOf 81 = .ok (.iload_n 3, 1) := by decide +kernel
theorem dX8_setOf_82 : decode cX8_setOf 82 = .ok (.ishl, 1) := by decide +kernel
theorem dX8_setOf_83 : decode cX8_setOf 83 = .ok (.goto 4, 3) := by decide +kernel
theorem dX8_setOf_86 : decode cX8_setOf 86 = .ok (.iconst 0, 1) := by decide +kernel
theorem dX8_setOf_87 : decode cX8_setOf 87 = .ok (.ior, 1) := by decide +kernel
theorem dX8_setOf_88 : decode cX8_setOf 88 = .ok (.istore_n 2, 1) := by decide +kernel
theorem dX8_setOf_89 : decode cX8_setOf 89 = .ok (.iinc 3 1, 3) := by decide +kernel
theorem dX8_setOf_92 : decode cX8_setOf 92 = .ok (.goto (-88), 3) := by decide +kernel
theorem dX8_setOf_95 : decode cX8_setOf 95 = .ok (.iload_n 2, 1) := by decide +kernel
theorem dX8_setOf_96 : decode cX8_setOf 96 = .ok (.ireturn, 1) := by decide +kernel
theorem dX8_rungSet_0 : decode cX8_rungSet 0 = .ok (.iconst 0, 1) := by decide +kernel
theorem dX8_rungSet_1 : decode cX8_rungSet 1 = .ok (.istore_n 1, 1) := by decide +kernel
theorem dX8_rungSet_2 : decode cX8_rungSet 2 = .ok (.iconst 0, 1) := by decide +kernel
theorem dX8_rungSet_3 : decode cX8_rungSet 3 = .ok (.istore_n 2, 1) := by decide +kernel
theorem dX8_rungSet_4 : decode cX8_rungSet 4 = .ok (.iload_n 2, 1) := by decide +kernel
theorem dX8_rungSet_5 : decode cX8_rungSet 5 = .ok (.aload_n 0, 1) := by decide +kernel
theorem dX8_rungSet_6 : decode cX8_rungSet 6 = .ok (.getfield 7, 3) := by decide +kernel
theorem dX8_rungSet_9 : decode cX8_rungSet 9 = .ok (.sipush 171, 3) := by decide +kernel
theorem dX8_rungSet_12 : decode cX8_rungSet 12 = .ok (.iaload, 1) := by decide +kernel
theorem dX8_rungSet_13 : decode cX8_rungSet 13 = .ok (.if_icmp .ge 24, 3) := by decide +kernel
theorem dX8_rungSet_16 : decode cX8_rungSet 16 = .ok (.iload_n 1, 1) := by decide +kernel
theorem dX8_rungSet_17 : decode cX8_rungSet 17 = .ok (.aload_n 0, 1) := by decide +kernel
theorem dX8_rungSet_18 : decode cX8_rungSet 18 = .ok (.getfield 7, 3) := by decide +kernel
theorem dX8_rungSet_21 : decode cX8_rungSet 21 = .ok (.sipush 184, 3) := by decide +kernel
theorem dX8_rungSet_24 : decode cX8_rungSet 24 = .ok (.iload_n 2, 1) := by decide +kernel
theorem dX8_rungSet_25 : decode cX8_rungSet 25 = .ok (.iadd, 1) := by decide +kernel
theorem dX8_rungSet_26 : decode cX8_rungSet 26 = .ok (.iaload, 1) := by decide +kernel
theorem dX8_rungSet_27 : decode cX8_rungSet 27 = .ok (.iload_n 2, 1) := by decide +kernel
theorem dX8_rungSet_28 : decode cX8_rungSet 28 = .ok (.ishl, 1) := by decide +kernel
theorem dX8_rungSet_29 : decode cX8_rungSet 29 = .ok (.ior, 1) := by decide +kernel
theorem dX8_rungSet_30 : decode cX8_rungSet 30 = .ok (.istore_n 1, 1) := by decide +kernel
theorem dX8_rungSet_31 : decode cX8_rungSet 31 = .ok (.iinc 2 1, 3) := by decide +kernel
theorem dX8_rungSet_34 : decode cX8_rungSet 34 = .ok (.goto (-30), 3) := by decide +kernel
theorem dX8_rungSet_37 : decode cX8_rungSet 37 = .ok (.iload_n 1, 1) := by decide +kernel
theorem dX8_rungSet_38 : decode cX8_rungSet 38 = .ok (.ireturn, 1) := by decide +kernel
theorem dX8_wrongEntry_0 : decode cX8_wrongEntry 0 = .ok (.iconst 0, 1) := by decide +kernel
theorem dX8_wrongEntry_1 : decode cX8_wrongEntry 1 = .ok (.istore_n 1, 1) := by decide +kernel
theorem dX8_wrongEntry_2 : decode cX8_wrongEntry 2 = .ok (.iload_n 1, 1) := by decide +kernel
theorem dX8_wrongEntry_3 : decode cX8_wrongEntry 3 = .ok (.aload_n 0, 1) := by decide +kernel
theorem dX8_wrongEntry_4 : decode cX8_wrongEntry 4 = .ok (.getfield 94, 3) := by decide +kernel
theorem dX8_wrongEntry_7 : decode cX8_wrongEntry 7 = .ok (.if_icmp .ge 44, 3) := by decide +kernel
theorem dX8_wrongEntry_10 : decode cX8_wrongEntry 10 = .ok (.aload_n 0, 1) := by decide +kernel
theorem dX8_wrongEntry_11 : decode cX8_wrongEntry 11 = .ok (.aload_n 0, 1) := by decide +kernel
theorem dX8_wrongEntry_12 : decode cX8_wrongEntry 12 = .ok (.getfield 20, 3) := by decide +kernel
theorem dX8_wrongEntry_15 : decode cX8_wrongEntry 15 = .ok (.iload_n 1, 1) := by decide +kernel
theorem dX8_wrongEntry_16 : decode cX8_wrongEntry 16 = .ok (.iaload, 1) := by decide +kernel
theorem dX8_wrongEntry_17 : decode cX8_wrongEntry 17 = .ok (.invokevirtual 136, 3) := by decide +kernel
theorem dX8_wrongEntry_20 : decode cX8_wrongEntry 20 = .ok (.ifCond .eq 23, 3) := by decide +kernel
theorem dX8_wrongEntry_23 : decode cX8_wrongEntry 23 = .ok (.aload_n 0, 1) := by decide +kernel
theorem dX8_wrongEntry_24 : decode cX8_wrongEntry 24 = .ok (.iconst 0, 1) := by decide +kernel
theorem dX8_wrongEntry_25 : decode cX8_wrongEntry 25 = .ok (.aload_n 0, 1) := by decide +kernel
theorem dX8_wrongEntry_26 : decode cX8_wrongEntry 26 = .ok (.getfield 20, 3) := by decide +kernel
theorem dX8_wrongEntry_29 : decode cX8_wrongEntry 29 = .ok (.iload_n 1, 1) := by decide +kernel
theorem dX8_wrongEntry_30 : decode cX8_wrongEntry 30 = .ok (.iaload, 1) := by decide +kernel
theorem dX8_wrongEntry_31 : decode cX8_wrongEntry 31 = .ok (.invokevirtual 97, 3) := by decide +kernel
theorem dX8_wrongEntry_34 : decode cX8_wrongEntry 34 = .ok (.aload_n 0, 1) := by decide +kernel
theorem dX8_wrongEntry_35 : decode cX8_wrongEntry 35 = .ok (.getfield 23, 3) := by decide +kernel
theorem dX8_wrongEntry_38 : decode cX8_wrongEntry 38 = .ok (.iload_n 1, 1) := by decide +kernel
theorem dX8_wrongEntry_39 : decode cX8_wrongEntry 39 = .ok (.iaload, 1) := by decide +kernel
theorem dX8_wrongEntry_40 : decode cX8_wrongEntry 40 = .ok (.if_icmp .eq 5, 3) := by decide +kernel
theorem dX8_wrongEntry_43 : decode cX8_wrongEntry 43 = .ok (.iload_n 1, 1) := by decide +kernel
theorem dX8_wrongEntry_44 : decode cX8_wrongEntry 44 = .ok (.ireturn, 1) := by decide +kernel
theorem dX8_wrongEntry_45 : decode cX8_wrongEntry 45 = .ok (.iinc 1 1, 3) := by decide +kernel
theorem dX8_wrongEntry_48 : decode cX8_wrongEntry 48 = .ok (.goto (-46), 3) := by decide +kernel
theorem dX8_wrongEntry_51 : decode cX8_wrongEntry 51 = .ok (.iconst (-1), 1) := by decide +kernel
theorem dX8_wrongEntry_52 : decode cX8_wrongEntry 52 = .ok (.ireturn, 1) := by decide +kernel
theorem dX8_told_0 : decode cX8_told 0 = .ok (.iload_n 1, 1) := by decide +kernel
theorem dX8_told_1 : decode cX8_told 1 = .ok (.tableswitch 165 0 15 #[79, 86, 93, 100, 105, 105, 105, 111, 117, 122, 127, 136, 141, 150, 155, 160], 79) := by decide +kernel
theorem dX8_told_80 : decode cX8_told 80 = .ok (.aload_n 0, 1) := by decide +kernel
theorem dX8_told_81 : decode cX8_told 81 = .ok (.getfield 7, 3) := by decide +kernel
theorem dX8_told_84 : decode cX8_told 84 = .ok (.iconst 0, 1) := by decide +kernel
theorem dX8_told_85 : decode cX8_told 85 = .ok (.iaload, 1) := by decide +kernel
theorem dX8_told_86 : decode cX8_told 86 = .ok (.ireturn, 1) := by decide +kernel
theorem dX8_told_87 : decode cX8_told 87 = .ok (.aload_n 0, 1) := by decide +kernel
theorem dX8_told_88 : decode cX8_told 88 = .ok (.getfield 7, 3) := by decide +kernel
theorem dX8_told_91 : decode cX8_told 91 = .ok (.iconst 1, 1) := by decide +kernel
theorem dX8_told_92 : decode cX8_told 92 = .ok (.iaload, 1) := by decide +kernel
theorem dX8_told_93 : decode cX8_told 93 = .ok (.ireturn, 1) := by decide +kernel
theorem dX8_told_94 : decode cX8_told 94 = .ok (.aload_n 0, 1) := by decide +kernel
theorem dX8_told_95 : decode cX8_told 95 = .ok (.getfield 7, 3) := by decide +kernel
theorem dX8_told_98 : decode cX8_told 98 = .ok (.iconst 2, 1) := by decide +kernel
theorem dX8_told_99 : decode cX8_told 99 = .ok (.iaload, 1) := by decide +kernel
theorem dX8_told_100 : decode cX8_told 100 = .ok (.ireturn, 1) := by decide +kernel
theorem dX8_told_101 : decode cX8_told 101 = .ok (.aload_n 0, 1) := by decide +kernel
theorem dX8_told_102 : decode cX8_told 102 = .ok (.getfield 37, 3) := by decide +kernel
theorem dX8_told_105 : decode cX8_told 105 = .ok (.ireturn, 1) := by decide +kernel
theorem dX8_told_106 : decode cX8_told 106 = .ok (.aload_n 0, 1) := by decide +kernel
theorem dX8_told_107 : decode cX8_told 107 = .ok (.iload_n 1, 1) := by decide +kernel
theorem dX8_told_108 : decode cX8_told 108 = .ok (.invokevirtual 140, 3) := by decide +kernel
theorem dX8_told_111 : decode cX8_told 111 = .ok (.ireturn, 1) := by decide +kernel
theorem dX8_told_112 : decode cX8_told 112 = .ok (.aload_n 0, 1) := by decide +kernel
theorem dX8_told_113 : decode cX8_told 113 = .ok (.iconst 0, 1) := by decide +kernel
theorem dX8_told_114 : decode cX8_told 114 = .ok (.invokevirtual 123, 3) := by decide +kernel
theorem dX8_told_117 : decode cX8_told 117 = .ok (.ireturn, 1) := by decide +kernel
theorem dX8_told_118 : decode cX8_told 118 = .ok (.aload_n 0, 1) := by decide +kernel
theorem dX8_told_119 : decode cX8_told 119 = .ok (.invokevirtual 143, 3) := by decide +kernel
theorem dX8_told_122 : decode cX8_told 122 = .ok (.ireturn, 1) := by decide +kernel
theorem dX8_told_123 : decode cX8_told 123 = .ok (.aload_n 0, 1) := by decide +kernel
theorem dX8_told_124 : decode cX8_told 124 = .ok (.invokevirtual 146, 3) := by decide +kernel
theorem dX8_told_127 : decode cX8_told 127 = .ok (.ireturn, 1) := by decide +kernel
theorem dX8_told_128 : decode cX8_told 128 = .ok (.aload_n 0, 1) := by decide +kernel
theorem dX8_told_129 : decode cX8_told 129 = .ok (.getfield 7, 3) := by decide +kernel
theorem dX8_told_132 : decode cX8_told 132 = .ok (.sipush 171, 3) := by decide +kernel
theorem dX8_told_135 : decode cX8_told 135 = .ok (.iaload, 1) := by decide +kernel
theorem dX8_told_136 : decode cX8_told 136 = .ok (.ireturn, 1) := by decide +kernel
theorem dX8_told_137 : decode cX8_told 137 = .ok (.aload_n 0, 1) := by decide +kernel
theorem dX8_told_138 : decode cX8_told 138 = .ok (.invokevirtual 149, 3) := by decide +kernel
theorem dX8_told_141 : decode cX8_told 141 = .ok (.ireturn, 1) := by decide +kernel
theorem dX8_told_142 : decode cX8_told 142 = .ok (.aload_n 0, 1) := by decide +kernel
theorem dX8_told_143 : decode cX8_told 143 = .ok (.getfield 7, 3) := by decide +kernel
theorem dX8_told_146 : decode cX8_told 146 = .ok (.sipush 190, 3) := by decide +kernel
theorem dX8_told_149 : decode cX8_told 149 = .ok (.iaload, 1) := by decide +kernel
theorem dX8_told_150 : decode cX8_told 150 = .ok (.ireturn, 1) := by decide +kernel
theorem dX8_told_151 : decode cX8_told 151 = .ok (.aload_n 0, 1) := by decide +kernel
theorem dX8_told_152 : decode cX8_told 152 = .ok (.getfield 94, 3) := by decide +kernel
theorem dX8_told_155 : decode cX8_told 155 = .ok (.ireturn, 1) := by decide +kernel
theorem dX8_told_156 : decode cX8_told 156 = .ok (.aload_n 0, 1) := by decide +kernel
theorem dX8_told_157 : decode cX8_told 157 = .ok (.invokevirtual 152, 3) := by decide +kernel
theorem dX8_told_160 : decode cX8_told 160 = .ok (.ireturn, 1) := by decide +kernel
theorem dX8_told_161 : decode cX8_told 161 = .ok (.aload_n 0, 1) := by decide +kernel
theorem dX8_told_162 : decode cX8_told 162 = .ok (.getfield 88, 3) := by decide +kernel
theorem dX8_told_165 : decode cX8_told 165 = .ok (.ireturn, 1) := by decide +kernel
theorem dX8_told_166 : decode cX8_told 166 = .ok (.ldc 36, 2) := by decide +kernel
theorem dX8_told_168 : decode cX8_told 168 = .ok (.ireturn, 1) := by decide +kernel
theorem dX8_clock_0 : decode cX8_clock 0 = .ok (.aload_n 0, 1) := by decide +kernel
theorem dX8_clock_1 : decode cX8_clock 1 = .ok (.iload_n 1, 1) := by decide +kernel
theorem dX8_clock_2 : decode cX8_clock 2 = .ok (.invokevirtual 136, 3) := by decide +kernel
theorem dX8_clock_5 : decode cX8_clock 5 = .ok (.ifCond .ne 6, 3) := by decide +kernel
theorem dX8_clock_8 : decode cX8_clock 8 = .ok (.ldc 155, 2) := by decide +kernel
theorem dX8_clock_10 : decode cX8_clock 10 = .ok (.ireturn, 1) := by decide +kernel
theorem dX8_clock_11 : decode cX8_clock 11 = .ok (.iload_n 2, 1) := by decide +kernel
theorem dX8_clock_12 : decode cX8_clock 12 = .ok (.tableswitch 143 0 6 #[44, 53, 63, 76, 86, 96, 106], 44) := by decide +kernel
theorem dX8_clock_56 : decode cX8_clock 56 = .ok (.aload_n 0, 1) := by decide +kernel
theorem dX8_clock_57 : decode cX8_clock 57 = .ok (.getfield 7, 3) := by decide +kernel
theorem dX8_clock_60 : decode cX8_clock 60 = .ok (.iconst 3, 1) := by decide +kernel
theorem dX8_clock_61 : decode cX8_clock 61 = .ok (.iload_n 1, 1) := by decide +kernel
theorem dX8_clock_62 : decode cX8_clock 62 = .ok (.iadd, 1) := by decide +kernel
theorem dX8_clock_63 : decode cX8_clock 63 = .ok (.iaload, 1) := by decide +kernel
theorem dX8_clock_64 : decode cX8_clock 64 = .ok (.ireturn, 1) := by decide +kernel
theorem dX8_clock_65 : decode cX8_clock 65 = .ok (.aload_n 0, 1) := by decide +kernel
theorem dX8_clock_66 : decode cX8_clock 66 = .ok (.getfield 7, 3) := by decide +kernel
theorem dX8_clock_69 : decode cX8_clock 69 = .ok (.bipush 11, 2) := by decide +kernel
theorem dX8_clock_71 : decode cX8_clock 71 = .ok (.iload_n 1, 1) := by decide +kernel
theorem dX8_clock_72 : decode cX8_clock 72 = .ok (.iadd, 1) := by decide +kernel
theorem dX8_clock_73 : decode cX8_clock 73 = .ok (.iaload, 1) := by decide +kernel
theorem dX8_clock_74 : decode cX8_clock 74 = .ok (.ireturn, 1) := by decide +kernel
theorem dX8_clock_75 : decode cX8_clock 75 = .ok (.aload_n 0, 1) := by decide +kernel
theorem dX8_clock_76 : decode cX8_clock 76 = .ok (.getfield 7, 3) := by decide +kernel
theorem dX8_clock_79 : decode cX8_clock 79 = .ok (.bipush 19, 2) := by decide +kernel
theorem dX8_clock_81 : decode cX8_clock 81 = .ok (.iload_n 1, 1) := by decide +kernel
theorem dX8_clock_82 : decode cX8_clock 82 = .ok (.iadd, 1) := by decide +kernel
theorem dX8_clock_83 : decode cX8_clock 83 = .ok (.iaload, 1) := by decide +kernel
theorem dX8_clock_84 : decode cX8_clock 84 = .ok (.ldc 156, 2) := by decide +kernel
theorem dX8_clock_86 : decode cX8_clock 86 = .ok (.iadd, 1) := by decide +kernel
theorem dX8_clock_87 : decode cX8_clock 87 = .ok (.ireturn, 1) := by decide +kernel
theorem dX8_clock_88 : decode cX8_clock 88 = .ok (.aload_n 0, 1) := by decide +kernel
theorem dX8_clock_89 : decode cX8_clock 89 = .ok (.iconst 0, 1) := by decide +kernel
theorem dX8_clock_90 : decode cX8_clock 90 = .ok (.iload_n 1, 1) := by decide +kernel
theorem dX8_clock_91 : decode cX8_clock 91 = .ok (.invokevirtual 97, 3) := by decide +kernel
theorem dX8_clock_94 : decode cX8_clock 94 = .ok (.ldc 156, 2) := by decide +kernel
theorem dX8_clock_96 : decode cX8_clock 96 = .ok (.iadd, 1) := by decide +kernel
theorem dX8_clock_97 : decode cX8_clock 97 = .ok (.ireturn, 1) := by decide +kernel
theorem dX8_clock_98 : decode cX8_clock 98 = .ok (.aload_n 0, 1) := by decide +kernel
theorem dX8_clock_99 : decode cX8_clock 99 = .ok (.getfield 7, 3) := by decide +kernel
theorem dX8_clock_102 : decode cX8_clock 102 = .ok (.bipush 27, 2) := by decide +kernel
theorem dX8_clock_104 : decode cX8_clock 104 = .ok (.iload_n 1, 1) := by decide +kernel
theorem dX8_clock_105 : decode cX8_clock 105 = .ok (.iadd, 1) := by decide +kernel
theorem dX8_clock_106 : decode cX8_clock 106 = .ok (.iaload, 1) := by decide +kernel
theorem dX8_clock_107 : decode cX8_clock 107 = .ok (.ireturn, 1) := by decide +kernel
theorem dX8_clock_108 : decode cX8_clock 108 = .ok (.aload_n 0, 1) := by decide +kernel
theorem dX8_clock_109 : decode cX8_clock 109 = .ok (.getfield 7, 3) := by decide +kernel
theorem dX8_clock_112 : decode cX8_clock 112 = .ok (.bipush 35, 2) := by decide +kernel
theorem dX8_clock_114 : decode cX8_clock 114 = .ok (.iload_n 1, 1) := by decide +kernel
theorem dX8_clock_115 : decode cX8_clock 115 = .ok (.iadd, 1) := by decide +kernel
theorem dX8_clock_116 : decode cX8_clock 116 = .ok (.iaload, 1) := by decide +kernel
theorem dX8_clock_117 : decode cX8_clock 117 = .ok (.ireturn, 1) := by decide +kernel
theorem dX8_clock_118 : decode cX8_clock 118 = .ok (.aload_n 0, 1) := by decide +kernel
theorem dX8_clock_119 : decode cX8_clock 119 = .ok (.iconst 0, 1) := by decide +kernel
theorem dX8_clock_120 : decode cX8_clock 120 = .ok (.iload_n 1, 1) := by decide +kernel
theorem dX8_clock_121 : decode cX8_clock 121 = .ok (.invokevirtual 114, 3) := by decide +kernel
theorem dX8_clock_124 : decode cX8_clock 124 = .ok (.ifCond .eq 17, 3) := by decide +kernel
theorem dX8_clock_127 : decode cX8_clock 127 = .ok (.aload_n 0, 1) := by decide +kernel
theorem dX8_clock_128 : decode cX8_clock 128 = .ok (.iconst 0, 1) := by decide +kernel
theorem dX8_clock_129 : decode cX8_clock 129 = .ok (.aload_n 0, 1) := by decide +kernel
theorem dX8_clock_130 : decode cX8_clock 130 = .ok (.getfield 7, 3) := by decide +kernel
theorem dX8_clock_133 : decode cX8_clock 133 = .ok (.iconst 0, 1) := by decide +kernel
theorem dX8_clock_134 : decode cX8_clock 134 = .ok (.iaload, 1) := by decide +kernel
theorem dX8_clock_135 : decode cX8_clock 135 = .ok (.invokevirtual 100, 3) := by decide +kernel
theorem dX8_clock_138 : decode cX8_clock 138 = .ok (.ifCond .eq 7, 3) := by decide +kernel
theorem dX8_clock_141 : decode cX8_clock 141 = .ok (.iconst (-1), 1) := by decide +kernel
theorem dX8_clock_142 : decode cX8_clock 142 = .ok (.goto 12, 3) := by decide +kernel
theorem dX8_clock_145 : decode cX8_clock 145 = .ok (.aload_n 0, 1) := by decide +kernel
theorem dX8_clock_146 : decode cX8_clock 146 = .ok (.iconst 0, 1) := by decide +kernel
theorem dX8_clock_147 : decode cX8_clock 147 = .ok (.iload_n 1, 1) := by decide +kernel
theorem dX8_clock_148 : decode cX8_clock 148 = .ok (.invokevirtual 117, 3) := by decide +kernel
theorem dX8_clock_151 : decode cX8_clock 151 = .ok (.ldc 156, 2) := by decide +kernel
theorem dX8_clock_153 : decode cX8_clock 153 = .ok (.iadd, 1) := by decide +kernel
theorem dX8_clock_154 : decode cX8_clock 154 = .ok (.ireturn, 1) := by decide +kernel
theorem dX8_clock_155 : decode cX8_clock 155 = .ok (.ldc 36, 2) := by decide +kernel
theorem dX8_clock_157 : decode cX8_clock 157 = .ok (.ireturn, 1) := by decide +kernel
theorem dX8_arePair_0 : decode cX8_arePair 0 = .ok (.aload_n 0, 1) := by decide +kernel
theorem dX8_arePair_1 : decode cX8_arePair 1 = .ok (.iload_n 1, 1) := by decide +kernel
theorem dX8_arePair_2 : decode cX8_arePair 2 = .ok (.invokevirtual 136, 3) := by decide +kernel
theorem dX8_arePair_5 : decode cX8_arePair 5 = .ok (.ifCond .eq 20, 3) := by decide +kernel
theorem dX8_arePair_8 : decode cX8_arePair 8 = .ok (.aload_n 0, 1) := by decide +kernel
theorem dX8_arePair_9 : decode cX8_arePair 9 = .ok (.iload_n 2, 1) := by decide +kernel
theorem dX8_arePair_10 : decode cX8_arePair 10 = .ok (.invokevirtual 136, 3) := by decide +kernel
theorem dX8_arePair_13 : decode cX8_arePair 13 = .ok (.ifCond .eq 12, 3) := by decide +kernel
theorem dX8_arePair_16 : decode cX8_arePair 16 = .ok (.iload_n 1, 1) := by decide +kernel
theorem dX8_arePair_17 : decode cX8_arePair 17 = .ok (.iload_n 2, 1) := by decide +kernel
theorem dX8_arePair_18 : decode cX8_arePair 18 = .ok (.if_icmp .eq 7, 3) := by decide +kernel
theorem dX8_arePair_21 : decode cX8_arePair 21 = .ok (.iconst 1, 1) := by decide +kernel
theorem dX8_arePair_22 : decode cX8_arePair 22 = .ok (.goto 4, 3) := by decide +kernel
theorem dX8_arePair_25 : decode cX8_arePair 25 = .ok (.iconst 0, 1) := by decide +kernel
theorem dX8_arePair_26 : decode cX8_arePair 26 = .ok (.ireturn, 1) := by decide +kernel
theorem dX8_heard_0 : decode cX8_heard 0 = .ok (.aload_n 0, 1) := by decide +kernel
theorem dX8_heard_1 : decode cX8_heard 1 = .ok (.iload_n 1, 1) := by decide +kernel
theorem dX8_heard_2 : decode cX8_heard 2 = .ok (.iload_n 2, 1) := by decide +kernel
theorem dX8_heard_3 : decode cX8_heard 3 = .ok (.invokevirtual 157, 3) := by decide +kernel
theorem dX8_heard_6 : decode cX8_heard 6 = .ok (.ifCond .ne 6, 3) := by decide +kernel
theorem dX8_heard_9 : decode cX8_heard 9 = .ok (.ldc 155, 2) := by decide +kernel
theorem dX8_heard_11 : decode cX8_heard 11 = .ok (.ireturn, 1) := by decide +kernel
theorem dX8_heard_12 : decode cX8_heard 12 = .ok (.iload_n 3, 1) := by decide +kernel
theorem dX8_heard_13 : decode cX8_heard 13 = .ok (.tableswitch 97 0 4 #[35, 46, 64, 83, 90], 35) := by decide +kernel
theorem dX8_heard_48 : decode cX8_heard 48 = .ok (.aload_n 0, 1) := by decide +kernel
theorem dX8_heard_49 : decode cX8_heard 49 = .ok (.iconst 0, 1) := by decide +kernel
theorem dX8_heard_50 : decode cX8_heard 50 = .ok (.iload_n 1, 1) := by decide +kernel
theorem dX8_heard_51 : decode cX8_heard 51 = .ok (.iload_n 2, 1) := by decide +kernel
theorem dX8_heard_52 : decode cX8_heard 52 = .ok (.invokevirtual 104, 3) := by decide +kernel
theorem dX8_heard_55 : decode cX8_heard 55 = .ok (.ldc 156, 2) := by decide +kernel
theorem dX8_heard_57 : decode cX8_heard 57 = .ok (.iadd, 1) := by decide +kernel
theorem dX8_heard_58 : decode cX8_heard 58 = .ok (.ireturn, 1) := by decide +kernel
theorem dX8_heard_59 : decode cX8_heard 59 = .ok (.aload_n 0, 1) := by decide +kernel
theorem dX8_heard_60 : decode cX8_heard 60 = .ok (.getfield 7, 3) := by decide +kernel
theorem dX8_heard_63 : decode cX8_heard 63 = .ok (.bipush 43, 2) := by decide +kernel
theorem dX8_heard_65 : decode cX8_heard 65 = .ok (.bipush 8, 2) := by decide +kernel
theorem dX8_heard_67 : decode cX8_heard 67 = .ok (.iload_n 1, 1) := by decide +kernel
theorem dX8_heard_68 : decode cX8_heard 68 = .ok (.imul, 1) := by decide +kernel
theorem dX8_heard_69 : decode cX8_heard 69 = .ok (.iadd, 1) := by decide +kernel
theorem dX8_heard_70 : decode cX8_heard 70 = .ok (.iload_n 2, 1) := by decide +kernel
theorem dX8_heard_71 : decode cX8_heard 71 = .ok (.iadd, 1) := by decide +kernel
theorem dX8_heard_72 : decode cX8_heard 72 = .ok (.iaload, 1) := by decide +kernel
theorem dX8_heard_73 : decode cX8_heard 73 = .ok (.bipush 20, 2) := by decide +kernel
theorem dX8_heard_75 : decode cX8_heard 75 = .ok (.iadd, 1) := by decide +kernel
theorem dX8_heard_76 : decode cX8_heard 76 = .ok (.ireturn, 1) := by decide +kernel
theorem dX8_heard_77 : decode cX8_heard 77 = .ok (.aload_n 0, 1) := by decide +kernel
theorem dX8_heard_78 : decode cX8_heard 78 = .ok (.getfield 7, 3) := by decide +kernel
theorem dX8_heard_81 : decode cX8_heard 81 = .ok (.bipush 107, 2) := by decide +kernel
theorem dX8_heard_83 : decode cX8_heard 83 = .ok (.bipush 8, 2) := by decide +kernel
theorem dX8_heard_85 : decode cX8_heard 85 = .ok (.iload_n 1, 1) := by decide +kernel
theorem dX8_heard_86 : decode cX8_heard 86 = .ok (.imul, 1) := by decide +kernel
theorem dX8_heard_87 : decode cX8_heard 87 = .ok (.iadd, 1) := by decide +kernel
theorem dX8_heard_88 : decode cX8_heard 88 = .ok (.iload_n 2, 1) := by decide +kernel
theorem dX8_heard_89 : decode cX8_heard 89 = .ok (.iadd, 1) := by decide +kernel
theorem dX8_heard_90 : decode cX8_heard 90 = .ok (.iaload, 1) := by decide +kernel
theorem dX8_heard_91 : decode cX8_heard 91 = .ok (.sipush 9999, 3) := by decide +kernel
theorem dX8_heard_94 : decode cX8_heard 94 = .ok (.iadd, 1) := by decide +kernel
theorem dX8_heard_95 : decode cX8_heard 95 = .ok (.ireturn, 1) := by decide +kernel
theorem dX8_heard_96 : decode cX8_heard 96 = .ok (.aload_n 0, 1) := by decide +kernel
theorem dX8_heard_97 : decode cX8_heard 97 = .ok (.iload_n 1, 1) := by decide +kernel
theorem dX8_heard_98 : decode cX8_heard 98 = .ok (.iload_n 2, 1) := by decide +kernel
theorem dX8_heard_99 : decode cX8_heard 99 = .ok (.invokevirtual 160, 3) := by decide +kernel
theorem dX8_heard_102 : decode cX8_heard 102 = .ok (.ireturn, 1) := by decide +kernel
theorem dX8_heard_103 : decode cX8_heard 103 = .ok (.aload_n 0, 1) := by decide +kernel
theorem dX8_heard_104 : decode cX8_heard 104 = .ok (.iload_n 1, 1) := by decide +kernel
theorem dX8_heard_105 : decode cX8_heard 105 = .ok (.iload_n 2, 1) := by decide +kernel
theorem dX8_heard_106 : decode cX8_heard 106 = .ok (.invokevirtual 163, 3) := by decide +kernel
theorem dX8_heard_109 : decode cX8_heard 109 = .ok (.ireturn, 1) := by decide +kernel
theorem dX8_heard_110 : decode cX8_heard 110 = .ok (.ldc 36, 2) := by decide +kernel
theorem dX8_heard_112 : decode cX8_heard 112 = .ok (.ireturn, 1) := by decide +kernel
theorem dX8_alarmAt_0 : decode cX8_alarmAt 0 = .ok (.iload_n 1, 1) := by decide +kernel
theorem dX8_alarmAt_1 : decode cX8_alarmAt 1 = .ok (.iconst 0, 1) := by decide +kernel
theorem dX8_alarmAt_2 : decode cX8_alarmAt 2 = .ok (.aload_n 0, 1) := by decide +kernel
theorem dX8_alarmAt_3 : decode cX8_alarmAt 3 = .ok (.getfield 7, 3) := by decide +kernel
theorem dX8_alarmAt_6 : decode cX8_alarmAt 6 = .ok (.sipush 171, 3) := by decide +kernel
theorem dX8_alarmAt_9 : decode cX8_alarmAt 9 = .ok (.iaload, 1) := by decide +kernel
theorem dX8_alarmAt_10 : decode cX8_alarmAt 10 = .ok (.iconst 1, 1) := by decide +kernel
theorem dX8_alarmAt_11 : decode cX8_alarmAt 11 = .ok (.isub, 1) := by decide +kernel
theorem dX8_alarmAt_12 : decode cX8_alarmAt 12 = .ok (.invokestatic 32, 3) := by decide +kernel
theorem dX8_alarmAt_15 : decode cX8_alarmAt 15 = .ok (.ifCond .ne 6, 3) := by decide +kernel
theorem dX8_alarmAt_18 : decode cX8_alarmAt 18 = .ok (.ldc 155, 2) := by decide +kernel
theorem dX8_alarmAt_20 : decode cX8_alarmAt 20 = .ok (.ireturn, 1) := by decide +kernel
theorem dX8_alarmAt_21 : decode cX8_alarmAt 21 = .ok (.iload_n 2, 1) := by decide +kernel
theorem dX8_alarmAt_22 : decode cX8_alarmAt 22 = .ok (.tableswitch 59 0 2 #[26, 37, 48], 26) := by decide +kernel
theorem dX8_alarmAt_48 : decode cX8_alarmAt 48 = .ok (.aload_n 0, 1) := by decide +kernel
theorem dX8_alarmAt_49 : decode cX8_alarmAt 49 = .ok (.getfield 7, 3) := by decide +kernel
theorem dX8_alarmAt_52 : decode cX8_alarmAt 52 = .ok (.sipush 172, 3) := by decide +kernel
theorem dX8_alarmAt_55 : decode cX8_alarmAt 55 = .ok (.iload_n 1, 1) := by decide +kernel
theorem dX8_alarmAt_56 : decode cX8_alarmAt 56 = .ok (.iadd, 1) := by decide +kernel
theorem dX8_alarmAt_57 : decode cX8_alarmAt 57 = .ok (.iaload, 1) := by decide +kernel
theorem dX8_alarmAt_58 : decode cX8_alarmAt 58 = .ok (.ireturn, 1) := by decide +kernel
theorem dX8_alarmAt_59 : decode cX8_alarmAt 59 = .ok (.aload_n 0, 1) := by decide +kernel
theorem dX8_alarmAt_60 : decode cX8_alarmAt 60 = .ok (.getfield 7, 3) := by decide +kernel
theorem dX8_alarmAt_63 : decode cX8_alarmAt 63 = .ok (.sipush 178, 3) := by decide +kernel
theorem dX8_alarmAt_66 : decode cX8_alarmAt 66 = .ok (.iload_n 1, 1) := by decide +kernel
theorem dX8_alarmAt_67 : decode cX8_alarmAt 67 = .ok (.iadd, 1) := by decide +kernel
theorem dX8_alarmAt_68 : decode cX8_alarmAt 68 = .ok (.iaload, 1) := by decide +kernel
theorem dX8_alarmAt_69 : decode cX8_alarmAt 69 = .ok (.ireturn, 1) := by decide +kernel
theorem dX8_alarmAt_70 : decode cX8_alarmAt 70 = .ok (.aload_n 0, 1) := by decide +kernel
theorem dX8_alarmAt_71 : decode cX8_alarmAt 71 = .ok (.getfield 7, 3) := by decide +kernel
theorem dX8_alarmAt_74 : decode cX8_alarmAt 74 = .ok (.sipush 184, 3) := by decide +kernel
theorem dX8_alarmAt_77 : decode cX8_alarmAt 77 = .ok (.iload_n 1, 1) := by decide +kernel
theorem dX8_alarmAt_78 : decode cX8_alarmAt 78 = .ok (.iadd, 1) := by decide +kernel
theorem dX8_alarmAt_79 : decode cX8_alarmAt 79 = .ok (.iaload, 1) := by decide +kernel
theorem dX8_alarmAt_80 : decode cX8_alarmAt 80 = .ok (.ireturn, 1) := by decide +kernel
theorem dX8_alarmAt_81 : decode cX8_alarmAt 81 = .ok (.ldc 36, 2) := by decide +kernel
theorem dX8_alarmAt_83 : decode cX8_alarmAt 83 = .ok (.ireturn, 1) := by decide +kernel
theorem dX8_remember_0 : decode cX8_remember 0 = .ok (.aload_n 0, 1) := by decide +kernel
theorem dX8_remember_1 : decode cX8_remember 1 = .ok (.getfield 88, 3) := by decide +kernel
theorem dX8_remember_4 : decode cX8_remember 4 = .ok (.bipush 16, 2) := by decide +kernel
theorem dX8_remember_6 : decode cX8_remember 6 = .ok (.if_icmp .ne 43, 3) := by decide +kernel
theorem dX8_remember_9 : decode cX8_remember 9 = .ok (.iconst 1, 1) := by decide +kernel
theorem dX8_remember_10 : decode cX8_remember 10 = .ok (.istore_n 1, 1) := by decide +kernel
theorem dX8_remember_11 : decode cX8_remember 11 = .ok (.iload_n 1, 1) := by decide +kernel
theorem dX8_remember_12 : decode cX8_remember 12 = .ok (.bipush 16, 2) := by decide +kernel
theorem dX8_remember_14 : decode cX8_remember 14 = .ok (.if_icmp .ge 25, 3) := by decide +kernel
theorem dX8_remember_17 : decode cX8_remember 17 = .ok (.aload_n 0, 1) := by decide +kernel
theorem dX8_remember_18 : decode cX8_remember 18 = .ok (.sipush 192, 3) := by decide +kernel
theorem dX8_remember_21 : decode cX8_remember 21 = .ok (.iload_n 1, 1) := by decide +kernel
theorem dX8_remember_22 : decode cX8_remember 22 = .ok (.iconst 1, 1) := by decide +kernel
theorem dX8_remember_23 : decode cX8_remember 23 = .ok (.iadd, 1) := by decide +kernel
theorem dX8_remember_24 : decode cX8_remember 24 = .ok (.imul, 1) := by decide +kernel
theorem dX8_remember_25 : decode cX8_remember 25 = .ok (.sipush 192, 3) := by decide +kernel
theorem dX8_remember_28 : decode cX8_remember 28 = .ok (.iload_n 1, 1) := by decide +kernel
theorem dX8_remember_29 : decode cX8_remember 29 = .ok (.imul, 1) := by decide +kernel
theorem dX8_remember_30 : decode cX8_remember 30 = .ok (.invokevirtual 85, 3) := by decide +kernel
theorem dX8_remember_33 : decode cX8_remember 33 = .ok (.iinc 1 1, 3) := by decide +kernel
theorem dX8_remember_36 : decode cX8_remember 36 = .ok (.goto (-25), 3) := by decide +kernel
theorem dX8_remember_39 : decode cX8_remember 39 = .ok (.aload_n 0, 1) := by decide +kernel
theorem dX8_remember_40 : decode cX8_remember 40 = .ok (.dup, 1) := by decide +kernel
theorem dX8_remember_41 : decode cX8_remember 41 = .ok (.getfield 88, 3) := by decide +kernel
theorem dX8_remember_44 : decode cX8_remember 44 = .ok (.iconst 1, 1) := by decide +kernel
theorem dX8_remember_45 : decode cX8_remember 45 = .ok (.isub, 1) := by decide +kernel
theorem dX8_remember_46 : decode cX8_remember 46 = .ok (.putfield 88, 3) := by decide +kernel
theorem dX8_remember_49 : decode cX8_remember 49 = .ok (.aload_n 0, 1) := by decide +kernel
theorem dX8_remember_50 : decode cX8_remember 50 = .ok (.iconst 0, 1) := by decide +kernel
theorem dX8_remember_51 : decode cX8_remember 51 = .ok (.sipush 192, 3) := by decide +kernel
theorem dX8_remember_54 : decode cX8_remember 54 = .ok (.aload_n 0, 1) := by decide +kernel
theorem dX8_remember_55 : decode cX8_remember 55 = .ok (.getfield 88, 3) := by decide +kernel
theorem dX8_remember_58 : decode cX8_remember 58 = .ok (.iconst 1, 1) := by decide +kernel
theorem dX8_remember_59 : decode cX8_remember 59 = .ok (.iadd, 1) := by decide +kernel
theorem dX8_remember_60 : decode cX8_remember 60 = .ok (.imul, 1) := by decide +kernel
theorem dX8_remember_61 : decode cX8_remember 61 = .ok (.invokevirtual 85, 3) := by decide +kernel
theorem dX8_remember_64 : decode cX8_remember 64 = .ok (.aload_n 0, 1) := by decide +kernel
theorem dX8_remember_65 : decode cX8_remember 65 = .ok (.dup, 1) := by decide +kernel
theorem dX8_remember_66 : decode cX8_remember 66 = .ok (.getfield 88, 3) := by decide +kernel
theorem dX8_remember_69 : decode cX8_remember 69 = .ok (.iconst 1, 1) := by decide +kernel
theorem dX8_remember_70 : decode cX8_remember 70 = .ok (.iadd, 1) := by decide +kernel
theorem dX8_remember_71 : decode cX8_remember 71 = .ok (.putfield 88, 3) := by decide +kernel
theorem dX8_remember_74 : decode cX8_remember 74 = .ok (.return_, 1) := by decide +kernel
theorem dX8_tick_0 : decode cX8_tick 0 = .ok (.iload_n 1, 1) := by decide +kernel
theorem dX8_tick_1 : decode cX8_tick 1 = .ok (.iconst 1, 1) := by decide +kernel
theorem dX8_tick_2 : decode cX8_tick 2 = .ok (.bipush 20, 2) := by decide +kernel
theorem dX8_tick_4 : decode cX8_tick 4 = .ok (.invokestatic 32, 3) := by decide +kernel
theorem dX8_tick_7 : decode cX8_tick 7 = .ok (.ifCond .ne 6, 3) := by decide +kernel
theorem dX8_tick_10 : decode cX8_tick 10 = .ok (.ldc 36, 2) := by decide +kernel
theorem dX8_tick_12 : decode cX8_tick 12 = .ok (.ireturn, 1) := by decide +kernel
theorem dX8_tick_13 : decode cX8_tick 13 = .ok (.aload_n 0, 1) := by decide +kernel
theorem dX8_tick_14 : decode cX8_tick 14 = .ok (.invokevirtual 166, 3) := by decide +kernel
theorem dX8_tick_17 : decode cX8_tick 17 = .ok (.aload_n 0, 1) := by decide +kernel
theorem dX8_tick_18 : decode cX8_tick 18 = .ok (.invokevirtual 149, 3) := by decide +kernel
theorem dX8_tick_21 : decode cX8_tick 21 = .ok (.istore_n 2, 1) := by decide +kernel
theorem dX8_tick_22 : decode cX8_tick 22 = .ok (.iconst 0, 1) := by decide +kernel
theorem dX8_tick_23 : decode cX8_tick 23 = .ok (.istore_n 3, 1) := by decide +kernel
theorem dX8_tick_24 : decode cX8_tick 24 = .ok (.iload_n 3, 1) := by decide +kernel
theorem dX8_tick_25 : decode cX8_tick 25 = .ok (.iload_n 1, 1) := by decide +kernel
theorem dX8_tick_26 : decode cX8_tick 26 = .ok (.if_icmp .ge 13, 3) := by decide +kernel
theorem dX8_tick_29 : decode cX8_tick 29 = .ok (.aload_n 0, 1) := by decide +kernel
theorem dX8_tick_30 : decode cX8_tick 30 = .ok (.invokevirtual 169, 3) := by decide +kernel
theorem dX8_tick_33 : decode cX8_tick 33 = .ok (.iinc 3 1, 3) := by decide +kernel
theorem dX8_tick_36 : decode cX8_tick 36 = .ok (.goto (-12), 3) := by decide +kernel
theorem dX8_tick_39 : decode cX8_tick 39 = .ok (.aload_n 0, 1) := by decide +kernel
theorem dX8_tick_40 : decode cX8_tick 40 = .ok (.invokevirtual 149, 3) := by decide +kernel
theorem dX8_tick_43 : decode cX8_tick 43 = .ok (.iload_n 2, 1) := by decide +kernel
theorem dX8_tick_44 : decode cX8_tick 44 = .ok (.iconst (-1), 1) := by decide +kernel
theorem dX8_tick_45 : decode cX8_tick 45 = .ok (.ixor, 1) := by decide +kernel
theorem dX8_tick_46 : decode cX8_tick 46 = .ok (.iand, 1) := by decide +kernel
theorem dX8_tick_47 : decode cX8_tick 47 = .ok (.ireturn, 1) := by decide +kernel
theorem dX8_round_0 : decode cX8_round 0 = .ok (.aload_n 0, 1) := by decide +kernel
theorem dX8_round_1 : decode cX8_round 1 = .ok (.invokevirtual 166, 3) := by decide +kernel
theorem dX8_round_4 : decode cX8_round 4 = .ok (.aload_n 0, 1) := by decide +kernel
theorem dX8_round_5 : decode cX8_round 5 = .ok (.iconst 0, 1) := by decide +kernel
theorem dX8_round_6 : decode cX8_round 6 = .ok (.invokevirtual 172, 3) := by decide +kernel
theorem dX8_round_9 : decode cX8_round 9 = .ok (.aload_n 0, 1) := by decide +kernel
theorem dX8_round_10 : decode cX8_round 10 = .ok (.iconst 0, 1) := by decide +kernel
theorem dX8_round_11 : decode cX8_round 11 = .ok (.invokevirtual 123, 3) := by decide +kernel
theorem dX8_round_14 : decode cX8_round 14 = .ok (.ireturn, 1) := by decide +kernel
theorem dX8_lie_0 : decode cX8_lie 0 = .ok (.aload_n 0, 1) := by decide +kernel
theorem dX8_lie_1 : decode cX8_lie 1 = .ok (.iload_n 1, 1) := by decide +kernel
theorem dX8_lie_2 : decode cX8_lie 2 = .ok (.iload_n 2, 1) := by decide +kernel
theorem dX8_lie_3 : decode cX8_lie 3 = .ok (.invokevirtual 157, 3) := by decide +kernel
theorem dX8_lie_6 : decode cX8_lie 6 = .ok (.ifCond .ne 6, 3) := by decide +kernel
theorem dX8_lie_9 : decode cX8_lie 9 = .ok (.ldc 155, 2) := by decide +kernel
theorem dX8_lie_11 : decode cX8_lie 11 = .ok (.ireturn, 1) := by decide +kernel
theorem dX8_lie_12 : decode cX8_lie 12 = .ok (.iload_n 3, 1) := by decide +kernel
theorem dX8_lie_13 : decode cX8_lie 13 = .ok (.sipush (-9999), 3) := by decide +kernel
theorem dX8_lie_16 : decode cX8_lie 16 = .ok (.sipush 9999, 3) := by decide +kernel
theorem dX8_lie_19 : decode cX8_lie 19 = .ok (.invokestatic 32, 3) := by decide +kernel
theorem dX8_lie_22 : decode cX8_lie 22 = .ok (.ifCond .ne 6, 3) := by decide +kernel
theorem dX8_lie_25 : decode cX8_lie 25 = .ok (.ldc 36, 2) := by decide +kernel
theorem dX8_lie_27 : decode cX8_lie 27 = .ok (.ireturn, 1) := by decide +kernel
theorem dX8_lie_28 : decode cX8_lie 28 = .ok (.aload_n 0, 1) := by decide +kernel
theorem dX8_lie_29 : decode cX8_lie 29 = .ok (.invokevirtual 166, 3) := by decide +kernel
theorem dX8_lie_32 : decode cX8_lie 32 = .ok (.aload_n 0, 1) := by decide +kernel
theorem dX8_lie_33 : decode cX8_lie 33 = .ok (.getfield 7, 3) := by decide +kernel
theorem dX8_lie_36 : decode cX8_lie 36 = .ok (.bipush 107, 2) := by decide +kernel
theorem dX8_lie_38 : decode cX8_lie 38 = .ok (.bipush 8, 2) := by decide +kernel
theorem dX8_lie_40 : decode cX8_lie 40 = .ok (.iload_n 1, 1) := by decide +kernel
theorem dX8_lie_41 : decode cX8_lie 41 = .ok (.imul, 1) := by decide +kernel
theorem dX8_lie_42 : decode cX8_lie 42 = .ok (.iadd, 1) := by decide +kernel
theorem dX8_lie_43 : decode cX8_lie 43 = .ok (.iload_n 2, 1) := by decide +kernel
theorem dX8_lie_44 : decode cX8_lie 44 = .ok (.iadd, 1) := by decide +kernel
theorem dX8_lie_45 : decode cX8_lie 45 = .ok (.iaload, 1) := by decide +kernel
theorem dX8_lie_46 : decode cX8_lie 46 = .ok (.sipush 9999, 3) := by decide +kernel
theorem dX8_lie_49 : decode cX8_lie 49 = .ok (.iadd, 1) := by decide +kernel
theorem dX8_lie_50 : decode cX8_lie 50 = .ok (.istore 4, 2) := by decide +kernel
theorem dX8_lie_52 : decode cX8_lie 52 = .ok (.aload_n 0, 1) := by decide +kernel
theorem dX8_lie_53 : decode cX8_lie 53 = .ok (.getfield 7, 3) := by decide +kernel
theorem dX8_lie_56 : decode cX8_lie 56 = .ok (.bipush 107, 2) := by decide +kernel
theorem dX8_lie_58 : decode cX8_lie 58 = .ok (.bipush 8, 2) := by decide +kernel
theorem dX8_lie_60 : decode cX8_lie 60 = .ok (.iload_n 1, 1) := by decide +kernel
theorem dX8_lie_61 : decode cX8_lie 61 = .ok (.imul, 1) := by decide +kernel
theorem dX8_lie_62 : decode cX8_lie 62 = .ok (.iadd, 1) := by decide +kernel
theorem dX8_lie_63 : decode cX8_lie 63 = .ok (.iload_n 2, 1) := by decide +kernel
theorem dX8_lie_64 : decode cX8_lie 64 = .ok (.iadd, 1) := by decide +kernel
theorem dX8_lie_65 : decode cX8_lie 65 = .ok (.iload_n 3, 1) := by decide +kernel
theorem dX8_lie_66 : decode cX8_lie 66 = .ok (.iastore, 1) := by decide +kernel
theorem dX8_lie_67 : decode cX8_lie 67 = .ok (.iload 4, 2) := by decide +kernel
theorem dX8_lie_69 : decode cX8_lie 69 = .ok (.ireturn, 1) := by decide +kernel
theorem dX8_error_0 : decode cX8_error 0 = .ok (.aload_n 0, 1) := by decide +kernel
theorem dX8_error_1 : decode cX8_error 1 = .ok (.iload_n 1, 1) := by decide +kernel
theorem dX8_error_2 : decode cX8_error 2 = .ok (.iload_n 2, 1) := by decide +kernel
theorem dX8_error_3 : decode cX8_error 3 = .ok (.invokevirtual 157, 3) := by decide +kernel
theorem dX8_error_6 : decode cX8_error 6 = .ok (.ifCond .ne 6, 3) := by decide +kernel
theorem dX8_error_9 : decode cX8_error 9 = .ok (.ldc 155, 2) := by decide +kernel
theorem dX8_error_11 : decode cX8_error 11 = .ok (.ireturn, 1) := by decide +kernel
theorem dX8_error_12 : decode cX8_error 12 = .ok (.iload_n 3, 1) := by decide +kernel
theorem dX8_error_13 : decode cX8_error 13 = .ok (.bipush (-20), 2) := by decide +kernel
theorem dX8_error_15 : decode cX8_error 15 = .ok (.bipush 20, 2) := by decide +kernel
theorem dX8_error_17 : decode cX8_error 17 = .ok (.invokestatic 32, 3) := by decide +kernel
theorem dX8_error_20 : decode cX8_error 20 = .ok (.ifCond .ne 6, 3) := by decide +kernel
theorem dX8_error_23 : decode cX8_error 23 = .ok (.ldc 36, 2) := by decide +kernel
theorem dX8_error_25 : decode cX8_error 25 = .ok (.ireturn, 1) := by decide +kernel
theorem dX8_error_26 : decode cX8_error 26 = .ok (.aload_n 0, 1) := by decide +kernel
theorem dX8_error_27 : decode cX8_error 27 = .ok (.invokevirtual 166, 3) := by decide +kernel
theorem dX8_error_30 : decode cX8_error 30 = .ok (.aload_n 0, 1) := by decide +kernel
theorem dX8_error_31 : decode cX8_error 31 = .ok (.getfield 7, 3) := by decide +kernel
theorem dX8_error_34 : decode cX8_error 34 = .ok (.bipush 43, 2) := by decide +kernel
theorem dX8_error_36 : decode cX8_error 36 = .ok (.bipush 8, 2) := by decide +kernel
theorem dX8_error_38 : decode cX8_error 38 = .ok (.iload_n 1, 1) := by decide +kernel
theorem dX8_error_39 : decode cX8_error 39 = .ok (.imul, 1) := by decide +kernel
theorem dX8_error_40 : decode cX8_error 40 = .ok (.iadd, 1) := by decide +kernel
theorem dX8_error_41 : decode cX8_error 41 = .ok (.iload_n 2, 1) := by decide +kernel
theorem dX8_error_42 : decode cX8_error 42 = .ok (.iadd, 1) := by decide +kernel
theorem dX8_error_43 : decode cX8_error 43 = .ok (.iaload, 1) := by decide +kernel
theorem dX8_error_44 : decode cX8_error 44 = .ok (.bipush 20, 2) := by decide +kernel
theorem dX8_error_46 : decode cX8_error 46 = .ok (.iadd, 1) := by decide +kernel
theorem dX8_error_47 : decode cX8_error 47 = .ok (.istore 4, 2) := by decide +kernel
theorem dX8_error_49 : decode cX8_error 49 = .ok (.aload_n 0, 1) := by decide +kernel
theorem dX8_error_50 : decode cX8_error 50 = .ok (.getfield 7, 3) := by decide +kernel
theorem dX8_error_53 : decode cX8_error 53 = .ok (.bipush 43, 2) := by decide +kernel
theorem dX8_error_55 : decode cX8_error 55 = .ok (.bipush 8, 2) := by decide +kernel
theorem dX8_error_57 : decode cX8_error 57 = .ok (.iload_n 1, 1) := by decide +kernel
theorem dX8_error_58 : decode cX8_error 58 = .ok (.imul, 1) := by decide +kernel
theorem dX8_error_59 : decode cX8_error 59 = .ok (.iadd, 1) := by decide +kernel
theorem dX8_error_60 : decode cX8_error 60 = .ok (.iload_n 2, 1) := by decide +kernel
theorem dX8_error_61 : decode cX8_error 61 = .ok (.iadd, 1) := by decide +kernel
theorem dX8_error_62 : decode cX8_error 62 = .ok (.iload_n 3, 1) := by decide +kernel
theorem dX8_error_63 : decode cX8_error 63 = .ok (.iastore, 1) := by decide +kernel
theorem dX8_error_64 : decode cX8_error 64 = .ok (.iload 4, 2) := by decide +kernel
theorem dX8_error_66 : decode cX8_error 66 = .ok (.ireturn, 1) := by decide +kernel
theorem dX8_manyOf_0 : decode cX8_manyOf 0 = .ok (.iconst 0, 1) := by decide +kernel
theorem dX8_manyOf_1 : decode cX8_manyOf 1 = .ok (.istore_n 2, 1) := by decide +kernel
theorem dX8_manyOf_2 : decode cX8_manyOf 2 = .ok (.iconst 0, 1) := by decide +kernel
theorem dX8_manyOf_3 : decode cX8_manyOf 3 = .ok (.istore_n 3, 1) := by decide +kernel
theorem dX8_manyOf_4 : decode cX8_manyOf 4 = .ok (.iload_n 3, 1) := by decide +kernel
theorem dX8_manyOf_5 : decode cX8_manyOf 5 = .ok (.aload_n 0, 1) := by decide +kernel
theorem dX8_manyOf_6 : decode cX8_manyOf 6 = .ok (.getfield 7, 3) := by decide +kernel
theorem dX8_manyOf_9 : decode cX8_manyOf 9 = .ok (.iconst 0, 1) := by decide +kernel
theorem dX8_manyOf_10 : decode cX8_manyOf 10 = .ok (.iaload, 1) := by decide +kernel
theorem dX8_manyOf_11 : decode cX8_manyOf 11 = .ok (.if_icmp .ge 20, 3) := by decide +kernel
theorem dX8_manyOf_14 : decode cX8_manyOf 14 = .ok (.iload_n 2, 1) := by decide +kernel
theorem dX8_manyOf_15 : decode cX8_manyOf 15 = .ok (.aload_n 0, 1) := by decide +kernel
theorem dX8_manyOf_16 : decode cX8_manyOf 16 = .ok (.getfield 7, 3) := by decide +kernel
theorem dX8_manyOf_19 : decode cX8_manyOf 19 = .ok (.iload_n 1, 1) := by decide +kernel
theorem dX8_manyOf_20 : decode cX8_manyOf 20 = .ok (.iload_n 3, 1) := by decide +kernel
theorem dX8_manyOf_21 : decode cX8_manyOf 21 = .ok (.iadd, 1) := by decide +kernel
theorem dX8_manyOf_22 : decode cX8_manyOf 22 = .ok (.iaload, 1) := by decide +kernel
theorem dX8_manyOf_23 : decode cX8_manyOf 23 = .ok (.iadd, 1) := by decide +kernel
theorem dX8_manyOf_24 : decode cX8_manyOf 24 = .ok (.istore_n 2, 1) := by decide +kernel
theorem dX8_manyOf_25 : decode cX8_manyOf 25 = .ok (.iinc 3 1, 3) := by decide +kernel
theorem dX8_manyOf_28 : decode cX8_manyOf 28 = .ok (.goto (-24), 3) := by decide +kernel
theorem dX8_manyOf_31 : decode cX8_manyOf 31 = .ok (.iload_n 2, 1) := by decide +kernel
theorem dX8_manyOf_32 : decode cX8_manyOf 32 = .ok (.ireturn, 1) := by decide +kernel
theorem dX8_liar_0 : decode cX8_liar 0 = .ok (.aload_n 0, 1) := by decide +kernel
theorem dX8_liar_1 : decode cX8_liar 1 = .ok (.iload_n 1, 1) := by decide +kernel
theorem dX8_liar_2 : decode cX8_liar 2 = .ok (.invokevirtual 136, 3) := by decide +kernel
theorem dX8_liar_5 : decode cX8_liar 5 = .ok (.ifCond .ne 6, 3) := by decide +kernel
theorem dX8_liar_8 : decode cX8_liar 8 = .ok (.ldc 155, 2) := by decide +kernel
theorem dX8_liar_10 : decode cX8_liar 10 = .ok (.ireturn, 1) := by decide +kernel
theorem dX8_liar_11 : decode cX8_liar 11 = .ok (.aload_n 0, 1) := by decide +kernel
theorem dX8_liar_12 : decode cX8_liar 12 = .ok (.invokevirtual 166, 3) := by decide +kernel
theorem dX8_liar_15 : decode cX8_liar 15 = .ok (.aload_n 0, 1) := by decide +kernel
theorem dX8_liar_16 : decode cX8_liar 16 = .ok (.getfield 7, 3) := by decide +kernel
theorem dX8_liar_19 : decode cX8_liar 19 = .ok (.bipush 27, 2) := by decide +kernel
theorem dX8_liar_21 : decode cX8_liar 21 = .ok (.iload_n 1, 1) := by decide +kernel
theorem dX8_liar_22 : decode cX8_liar 22 = .ok (.iadd, 1) := by decide +kernel
theorem dX8_liar_23 : decode cX8_liar 23 = .ok (.iload_n 2, 1) := by decide +kernel
theorem dX8_liar_24 : decode cX8_liar 24 = .ok (.ifCond .eq 7, 3) := by decide +kernel
theorem dX8_liar_27 : decode cX8_liar 27 = .ok (.iconst 1, 1) := by decide +kernel
theorem dX8_liar_28 : decode cX8_liar 28 = .ok (.goto 4, 3) := by decide +kernel
theorem dX8_liar_31 : decode cX8_liar 31 = .ok (.iconst 0, 1) := by decide +kernel
theorem dX8_liar_32 : decode cX8_liar 32 = .ok (.iastore, 1) := by decide +kernel
theorem dX8_liar_33 : decode cX8_liar 33 = .ok (.aload_n 0, 1) := by decide +kernel
theorem dX8_liar_34 : decode cX8_liar 34 = .ok (.bipush 27, 2) := by decide +kernel
theorem dX8_liar_36 : decode cX8_liar 36 = .ok (.invokevirtual 175, 3) := by decide +kernel
theorem dX8_liar_39 : decode cX8_liar 39 = .ok (.ireturn, 1) := by decide +kernel
theorem dX8_stand_0 : decode cX8_stand 0 = .ok (.aload_n 0, 1) := by decide +kernel
theorem dX8_stand_1 : decode cX8_stand 1 = .ok (.iload_n 1, 1) := by decide +kernel
theorem dX8_stand_2 : decode cX8_stand 2 = .ok (.invokevirtual 136, 3) := by decide +kernel
theorem dX8_stand_5 : decode cX8_stand 5 = .ok (.ifCond .ne 6, 3) := by decide +kernel
theorem dX8_stand_8 : decode cX8_stand 8 = .ok (.ldc 155, 2) := by decide +kernel
theorem dX8_stand_10 : decode cX8_stand 10 = .ok (.ireturn, 1) := by decide +kernel
theorem dX8_stand_11 : decode cX8_stand 11 = .ok (.aload_n 0, 1) := by decide +kernel
theorem dX8_stand_12 : decode cX8_stand 12 = .ok (.getfield 7, 3) := by decide +kernel
theorem dX8_stand_15 : decode cX8_stand 15 = .ok (.bipush 35, 2) := by decide +kernel
theorem dX8_stand_17 : decode cX8_stand 17 = .ok (.iload_n 1, 1) := by decide +kernel
theorem dX8_stand_18 : decode cX8_stand 18 = .ok (.iadd, 1) := by decide +kernel
theorem dX8_stand_19 : decode cX8_stand 19 = .ok (.iaload, 1) := by decide +kernel
theorem dX8_stand_20 : decode cX8_stand 20 = .ok (.iconst 1, 1) := by decide +kernel
theorem dX8_stand_21 : decode cX8_stand 21 = .ok (.if_icmp .ne 6, 3) := by decide +kernel
theorem dX8_stand_24 : decode cX8_stand 24 = .ok (.ldc 178, 2) := by decide +kernel
theorem dX8_stand_26 : decode cX8_stand 26 = .ok (.ireturn, 1) := by decide +kernel
theorem dX8_stand_27 : decode cX8_stand 27 = .ok (.aload_n 0, 1) := by decide +kernel
theorem dX8_stand_28 : decode cX8_stand 28 = .ok (.invokevirtual 166, 3) := by decide +kernel
theorem dX8_stand_31 : decode cX8_stand 31 = .ok (.aload_n 0, 1) := by decide +kernel
theorem dX8_stand_32 : decode cX8_stand 32 = .ok (.getfield 7, 3) := by decide +kernel
theorem dX8_stand_35 : decode cX8_stand 35 = .ok (.bipush 35, 2) := by decide +kernel
theorem dX8_stand_37 : decode cX8_stand 37 = .ok (.iload_n 1, 1) := by decide +kernel
theorem dX8_stand_38 : decode cX8_stand 38 = .ok (.iadd, 1) := by decide +kernel
theorem dX8_stand_39 : decode cX8_stand 39 = .ok (.iconst 1, 1) := by decide +kernel
theorem dX8_stand_40 : decode cX8_stand 40 = .ok (.iastore, 1) := by decide +kernel
theorem dX8_stand_41 : decode cX8_stand 41 = .ok (.aload_n 0, 1) := by decide +kernel
theorem dX8_stand_42 : decode cX8_stand 42 = .ok (.bipush 35, 2) := by decide +kernel
theorem dX8_stand_44 : decode cX8_stand 44 = .ok (.invokevirtual 175, 3) := by decide +kernel
theorem dX8_stand_47 : decode cX8_stand 47 = .ok (.ireturn, 1) := by decide +kernel
theorem dX8_join_0 : decode cX8_join 0 = .ok (.aload_n 0, 1) := by decide +kernel
theorem dX8_join_1 : decode cX8_join 1 = .ok (.iload_n 1, 1) := by decide +kernel
theorem dX8_join_2 : decode cX8_join 2 = .ok (.invokevirtual 136, 3) := by decide +kernel
theorem dX8_join_5 : decode cX8_join 5 = .ok (.ifCond .ne 6, 3) := by decide +kernel
theorem dX8_join_8 : decode cX8_join 8 = .ok (.ldc 155, 2) := by decide +kernel
theorem dX8_join_10 : decode cX8_join 10 = .ok (.ireturn, 1) := by decide +kernel
theorem dX8_join_11 : decode cX8_join 11 = .ok (.iconst 0, 1) := by decide +kernel
theorem dX8_join_12 : decode cX8_join 12 = .ok (.istore_n 2, 1) := by decide +kernel
theorem dX8_join_13 : decode cX8_join 13 = .ok (.iconst 0, 1) := by decide +kernel
theorem dX8_join_14 : decode cX8_join 14 = .ok (.istore_n 3, 1) := by decide +kernel
theorem dX8_join_15 : decode cX8_join 15 = .ok (.iload_n 3, 1) := by decide +kernel
theorem dX8_join_16 : decode cX8_join 16 = .ok (.aload_n 0, 1) := by decide +kernel
theorem dX8_join_17 : decode cX8_join 17 = .ok (.getfield 7, 3) := by decide +kernel
theorem dX8_join_20 : decode cX8_join 20 = .ok (.iconst 0, 1) := by decide +kernel
theorem dX8_join_21 : decode cX8_join 21 = .ok (.iaload, 1) := by decide +kernel
theorem dX8_join_22 : decode cX8_join 22 = .ok (.if_icmp .ge 36, 3) := by decide +kernel
theorem dX8_join_25 : decode cX8_join 25 = .ok (.aload_n 0, 1) := by decide +kernel
theorem dX8_join_26 : decode cX8_join 26 = .ok (.getfield 7, 3) := by decide +kernel
theorem dX8_join_29 : decode cX8_join 29 = .ok (.bipush 35, 2) := by decide +kernel
theorem dX8_join_31 : decode cX8_join 31 = .ok (.iload_n 3, 1) := by decide +kernel
theorem dX8_join_32 : decode cX8_join 32 = .ok (.iadd, 1) := by decide +kernel
theorem dX8_join_33 : decode cX8_join 33 = .ok (.iaload, 1) := by decide +kernel
theorem dX8_join_34 : decode cX8_join 34 = .ok (.ifCond .ne 18, 3) := by decide +kernel
theorem dX8_join_37 : decode cX8_join 37 = .ok (.aload_n 0, 1) := by decide +kernel
theorem dX8_join_38 : decode cX8_join 38 = .ok (.iload_n 2, 1) := by decide +kernel
theorem dX8_join_39 : decode cX8_join 39 = .ok (.aload_n 0, 1) := by decide +kernel
theorem dX8_join_40 : decode cX8_join 40 = .ok (.iconst 0, 1) := by decide +kernel
theorem dX8_join_41 : decode cX8_join 41 = .ok (.iload_n 3, 1) := by decide +kernel
theorem dX8_join_42 : decode cX8_join 42 = .ok (.iload_n 1, 1) := by decide +kernel
theorem dX8_join_43 : decode cX8_join 43 = .ok (.invokevirtual 104, 3) := by decide +kernel
theorem dX8_join_46 : decode cX8_join 46 = .ok (.invokevirtual 108, 3) := by decide +kernel
theorem dX8_join_49 : decode cX8_join 49 = .ok (.iinc 2 1, 3) := by decide +kernel
theorem dX8_join_52 : decode cX8_join 52 = .ok (.iinc 3 1, 3) := by decide +kernel
theorem dX8_join_55 : decode cX8_join 55 = .ok (.goto (-40), 3) := by decide +kernel
theorem dX8_join_58 : decode cX8_join 58 = .ok (.aload_n 0, 1) := by decide +kernel
theorem dX8_join_59 : decode cX8_join 59 = .ok (.getfield 7, 3) := by decide +kernel
theorem dX8_join_62 : decode cX8_join 62 = .ok (.bipush 35, 2) := by decide +kernel
theorem dX8_join_64 : decode cX8_join 64 = .ok (.iload_n 1, 1) := by decide +kernel
theorem dX8_join_65 : decode cX8_join 65 = .ok (.iadd, 1) := by decide +kernel
theorem dX8_join_66 : decode cX8_join 66 = .ok (.iaload, 1) := by decide +kernel
theorem dX8_join_67 : decode cX8_join 67 = .ok (.ifCond .eq 17, 3) := by decide +kernel
theorem dX8_join_70 : decode cX8_join 70 = .ok (.iload_n 2, 1) := by decide +kernel
theorem dX8_join_71 : decode cX8_join 71 = .ok (.iconst 2, 1) := by decide +kernel
theorem dX8_join_72 : decode cX8_join 72 = .ok (.aload_n 0, 1) := by decide +kernel
theorem dX8_join_73 : decode cX8_join 73 = .ok (.getfield 7, 3) := by decide +kernel
theorem dX8_join_76 : decode cX8_join 76 = .ok (.iconst 1, 1) := by decide +kernel
theorem dX8_join_77 : decode cX8_join 77 = .ok (.iaload, 1) := by decide +kernel
theorem dX8_join_78 : decode cX8_join 78 = .ok (.imul, 1) := by decide +kernel
theorem dX8_join_79 : decode cX8_join 79 = .ok (.iconst 1, 1) := by decide +kernel
theorem dX8_join_80 : decode cX8_join 80 = .ok (.iadd, 1) := by decide +kernel
theorem dX8_join_81 : decode cX8_join 81 = .ok (.if_icmp .ge 6, 3) := by decide +kernel
theorem dX8_join_84 : decode cX8_join 84 = .ok (.ldc 178, 2) := by decide +kernel
theorem dX8_join_86 : decode cX8_join 86 = .ok (.ireturn, 1) := by decide +kernel
theorem dX8_join_87 : decode cX8_join 87 = .ok (.aload_n 0, 1) := by decide +kernel
theorem dX8_join_88 : decode cX8_join 88 = .ok (.invokevirtual 166, 3) := by decide +kernel
theorem dX8_join_91 : decode cX8_join 91 = .ok (.aload_n 0, 1) := by decide +kernel
theorem dX8_join_92 : decode cX8_join 92 = .ok (.getfield 7, 3) := by decide +kernel
theorem dX8_join_95 : decode cX8_join 95 = .ok (.iconst 3, 1) := by decide +kernel
theorem dX8_join_96 : decode cX8_join 96 = .ok (.iload_n 1, 1) := by decide +kernel
theorem dX8_join_97 : decode cX8_join 97 = .ok (.iadd, 1) := by decide +kernel
theorem dX8_join_98 : decode cX8_join 98 = .ok (.aload_n 0, 1) := by decide +kernel
theorem dX8_join_99 : decode cX8_join 99 = .ok (.iconst 0, 1) := by decide +kernel
theorem dX8_join_100 : decode cX8_join 100 = .ok (.iload_n 2, 1) := by decide +kernel
theorem dX8_join_101 : decode cX8_join 101 = .ok (.invokevirtual 111, 3) := by decide +kernel
theorem dX8_join_104 : decode cX8_join 104 = .ok (.iastore, 1) := by decide +kernel
theorem dX8_join_105 : decode cX8_join 105 = .ok (.aload_n 0, 1) := by decide +kernel
theorem dX8_join_106 : decode cX8_join 106 = .ok (.getfield 7, 3) := by decide +kernel
theorem dX8_join_109 : decode cX8_join 109 = .ok (.bipush 19, 2) := by decide +kernel
theorem dX8_join_111 : decode cX8_join 111 = .ok (.iload_n 1, 1) := by decide +kernel
theorem dX8_join_112 : decode cX8_join 112 = .ok (.iadd, 1) := by decide +kernel
theorem dX8_join_113 : decode cX8_join 113 = .ok (.iconst 0, 1) := by decide +kernel
theorem dX8_join_114 : decode cX8_join 114 = .ok (.iastore, 1) := by decide +kernel
theorem dX8_join_115 : decode cX8_join 115 = .ok (.aload_n 0, 1) := by decide +kernel
theorem dX8_join_116 : decode cX8_join 116 = .ok (.getfield 7, 3) := by decide +kernel
theorem dX8_join_119 : decode cX8_join 119 = .ok (.bipush 35, 2) := by decide +kernel
theorem dX8_join_121 : decode cX8_join 121 = .ok (.iload_n 1, 1) := by decide +kernel
theorem dX8_join_122 : decode cX8_join 122 = .ok (.iadd, 1) := by decide +kernel
theorem dX8_join_123 : decode cX8_join 123 = .ok (.iconst 0, 1) := by decide +kernel
theorem dX8_join_124 : decode cX8_join 124 = .ok (.iastore, 1) := by decide +kernel
theorem dX8_join_125 : decode cX8_join 125 = .ok (.iconst 0, 1) := by decide +kernel
theorem dX8_join_126 : decode cX8_join 126 = .ok (.istore_n 3, 1) := by decide +kernel
theorem dX8_join_127 : decode cX8_join 127 = .ok (.iload_n 3, 1) := by decide +kernel
theorem dX8_join_128 : decode cX8_join 128 = .ok (.aload_n 0, 1) := by decide +kernel
theorem dX8_join_129 : decode cX8_join 129 = .ok (.getfield 7, 3) := by decide +kernel
theorem dX8_join_132 : decode cX8_join 132 = .ok (.sipush 171, 3) := by decide +kernel
theorem dX8_join_135 : decode cX8_join 135 = .ok (.iaload, 1) := by decide +kernel
theorem dX8_join_136 : decode cX8_join 136 = .ok (.if_icmp .ge 80, 3) := by decide +kernel
theorem dX8_join_139 : decode cX8_join 139 = .ok (.aload_n 0, 1) := by decide +kernel
theorem dX8_join_140 : decode cX8_join 140 = .ok (.getfield 7, 3) := by decide +kernel
theorem dX8_join_143 : decode cX8_join 143 = .ok (.sipush 172, 3) := by decide +kernel
theorem dX8_join_146 : decode cX8_join 146 = .ok (.iload_n 3, 1) := by decide +kernel
theorem dX8_join_147 : decode cX8_join 147 = .ok (.iadd, 1) := by decide +kernel
theorem dX8_join_148 : decode cX8_join 148 = .ok (.iaload, 1) := by decide +kernel
theorem dX8_join_149 : decode cX8_join 149 = .ok (.iload_n 1, 1) := by decide +kernel
theorem dX8_join_150 : decode cX8_join 150 = .ok (.if_icmp .ne 28, 3) := by decide +kernel
theorem dX8_join_153 : decode cX8_join 153 = .ok (.aload_n 0, 1) := by decide +kernel
theorem dX8_join_154 : decode cX8_join 154 = .ok (.getfield 7, 3) := by decide +kernel
theorem dX8_join_157 : decode cX8_join 157 = .ok (.iconst 3, 1) := by decide +kernel
theorem dX8_join_158 : decode cX8_join 158 = .ok (.iload_n 1, 1) := by decide +kernel
theorem dX8_join_159 : decode cX8_join 159 = .ok (.iadd, 1) := by decide +kernel
theorem dX8_join_160 : decode cX8_join 160 = .ok (.iaload, 1) := by decide +kernel
theorem dX8_join_161 : decode cX8_join 161 = .ok (.aload_n 0, 1) := by decide +kernel
theorem dX8_join_162 : decode cX8_join 162 = .ok (.getfield 7, 3) := by decide +kernel
theorem dX8_join_165 : decode cX8_join 165 = .ok (.sipush 178, 3) := by decide +kernel
theorem dX8_join_168 : decode cX8_join 168 = .ok (.iload_n 3, 1) := by decide +kernel
theorem dX8_join_169 : decode cX8_join 169 = .ok (.iadd, 1) := by decide +kernel
theorem dX8_join_170 : decode cX8_join 170 = .ok (.iaload, 1) := by decide +kernel
theorem dX8_join_171 : decode cX8_join 171 = .ok (.if_icmp .lt 7, 3) := by decide +kernel
theorem dX8_join_174 : decode cX8_join 174 = .ok (.iconst 1, 1) := by decide +kernel
theorem dX8_join_175 : decode cX8_join 175 = .ok (.goto 4, 3) := by decide +kernel
theorem dX8_join_178 : decode cX8_join 178 = .ok (.iconst 0, 1) := by decide +kernel
theorem dX8_join_179 : decode cX8_join 179 = .ok (.istore 4, 2) := by decide +kernel
theorem dX8_join_181 : decode cX8_join 181 = .ok (.aload_n 0, 1) := by decide +kernel
theorem dX8_join_182 : decode cX8_join 182 = .ok (.getfield 7, 3) := by decide +kernel
theorem dX8_join_185 : decode cX8_join 185 = .ok (.sipush 184, 3) := by decide +kernel
theorem dX8_join_188 : decode cX8_join 188 = .ok (.iload_n 3, 1) := by decide +kernel
theorem dX8_join_189 : decode cX8_join 189 = .ok (.iadd, 1) := by decide +kernel
theorem dX8_join_190 : decode cX8_join 190 = .ok (.iload 4, 2) := by decide +kernel
theorem dX8_join_192 : decode cX8_join 192 = .ok (.ifCond .eq 7, 3) := by decide +kernel
theorem dX8_join_195 : decode cX8_join 195 = .ok (.iconst 1, 1) := by decide +kernel
theorem dX8_join_196 : decode cX8_join 196 = .ok (.goto 13, 3) := by decide +kernel
theorem dX8_join_199 : decode cX8_join 199 = .ok (.aload_n 0, 1) := by decide +kernel
theorem dX8_join_200 : decode cX8_join 200 = .ok (.getfield 7, 3) := by decide +kernel
theorem dX8_join_203 : decode cX8_join 203 = .ok (.sipush 184, 3) := by decide +kernel
theorem dX8_join_206 : decode cX8_join 206 = .ok (.iload_n 3, 1) := by decide +kernel
theorem dX8_join_207 : decode cX8_join 207 = .ok (.iadd, 1) := by decide +kernel
theorem dX8_join_208 : decode cX8_join 208 = .ok (.iaload, 1) := by decide +kernel
theorem dX8_join_209 : decode cX8_join 209 = .ok (.iastore, 1) := by decide +kernel
theorem dX8_join_210 : decode cX8_join 210 = .ok (.iinc 3 1, 3) := by decide +kernel
theorem dX8_join_213 : decode cX8_join 213 = .ok (.goto (-86), 3) := by decide +kernel
theorem dX8_join_216 : decode cX8_join 216 = .ok (.aload_n 0, 1) := by decide +kernel
theorem dX8_join_217 : decode cX8_join 217 = .ok (.getfield 7, 3) := by decide +kernel
theorem dX8_join_220 : decode cX8_join 220 = .ok (.iconst 3, 1) := by decide +kernel
theorem dX8_join_221 : decode cX8_join 221 = .ok (.iload_n 1, 1) := by decide +kernel
theorem dX8_join_222 : decode cX8_join 222 = .ok (.iadd, 1) := by decide +kernel
theorem dX8_join_223 : decode cX8_join 223 = .ok (.iaload, 1) := by decide +kernel
theorem dX8_join_224 : decode cX8_join 224 = .ok (.ireturn, 1) := by decide +kernel
end
section
theorem dX8_alarm_0 : decode cX8_alarm 0 = .ok (.aload_n 0, 1) := by decide +kernel
theorem dX8_alarm_1 : decode cX8_alarm 1 = .ok (.iload_n 1, 1) := by decide +kernel
theorem dX8_alarm_2 : decode cX8_alarm 2 = .ok (.invokevirtual 136, 3) := by decide +kernel
theorem dX8_alarm_5 : decode cX8_alarm 5 = .ok (.ifCond .ne 6, 3) := by decide +kernel
theorem dX8_alarm_8 : decode cX8_alarm 8 = .ok (.ldc 155, 2) := by decide +kernel
theorem dX8_alarm_10 : decode cX8_alarm 10 = .ok (.ireturn, 1) := by decide +kernel
theorem dX8_alarm_11 : decode cX8_alarm 11 = .ok (.iload_n 2, 1) := by decide +kernel
theorem dX8_alarm_12 : decode cX8_alarm 12 = .ok (.iconst 0, 1) := by decide +kernel
theorem dX8_alarm_13 : decode cX8_alarm 13 = .ok (.ldc 179, 2) := by decide +kernel
theorem dX8_alarm_15 : decode cX8_alarm 15 = .ok (.invokestatic 32, 3) := by decide +kernel
theorem dX8_alarm_18 : decode cX8_alarm 18 = .ok (.ifCond .ne 6, 3) := by decide +kernel
theorem dX8_alarm_21 : decode cX8_alarm 21 = .ok (.ldc 36, 2) := by decide +kernel
theorem dX8_alarm_23 : decode cX8_alarm 23 = .ok (.ireturn, 1) := by decide +kernel
theorem dX8_alarm_24 : decode cX8_alarm 24 = .ok (.aload_n 0, 1) := by decide +kernel
theorem dX8_alarm_25 : decode cX8_alarm 25 = .ok (.getfield 7, 3) := by decide +kernel
theorem dX8_alarm_28 : decode cX8_alarm 28 = .ok (.sipush 171, 3) := by decide +kernel
theorem dX8_alarm_31 : decode cX8_alarm 31 = .ok (.iaload, 1) := by decide +kernel
theorem dX8_alarm_32 : decode cX8_alarm 32 = .ok (.bipush 6, 2) := by decide +kernel
theorem dX8_alarm_34 : decode cX8_alarm 34 = .ok (.if_icmp .ne 6, 3) := by decide +kernel
theorem dX8_alarm_37 : decode cX8_alarm 37 = .ok (.ldc 40, 2) := by decide +kernel
theorem dX8_alarm_39 : decode cX8_alarm 39 = .ok (.ireturn, 1) := by decide +kernel
theorem dX8_alarm_40 : decode cX8_alarm 40 = .ok (.aload_n 0, 1) := by decide +kernel
theorem dX8_alarm_41 : decode cX8_alarm 41 = .ok (.invokevirtual 166, 3) := by decide +kernel
theorem dX8_alarm_44 : decode cX8_alarm 44 = .ok (.aload_n 0, 1) := by decide +kernel
theorem dX8_alarm_45 : decode cX8_alarm 45 = .ok (.getfield 7, 3) := by decide +kernel
theorem dX8_alarm_48 : decode cX8_alarm 48 = .ok (.sipush 171, 3) := by decide +kernel
theorem dX8_alarm_51 : decode cX8_alarm 51 = .ok (.iaload, 1) := by decide +kernel
theorem dX8_alarm_52 : decode cX8_alarm 52 = .ok (.istore_n 3, 1) := by decide +kernel
theorem dX8_alarm_53 : decode cX8_alarm 53 = .ok (.aload_n 0, 1) := by decide +kernel
theorem dX8_alarm_54 : decode cX8_alarm 54 = .ok (.getfield 7, 3) := by decide +kernel
theorem dX8_alarm_57 : decode cX8_alarm 57 = .ok (.sipush 172, 3) := by decide +kernel
theorem dX8_alarm_60 : decode cX8_alarm 60 = .ok (.iload_n 3, 1) := by decide +kernel
theorem dX8_alarm_61 : decode cX8_alarm 61 = .ok (.iadd, 1) := by decide +kernel
theorem dX8_alarm_62 : decode cX8_alarm 62 = .ok (.iload_n 1, 1) := by decide +kernel
theorem dX8_alarm_63 : decode cX8_alarm 63 = .ok (.iastore, 1) := by decide +kernel
theorem dX8_alarm_64 : decode cX8_alarm 64 = .ok (.aload_n 0, 1) := by decide +kernel
theorem dX8_alarm_65 : decode cX8_alarm 65 = .ok (.getfield 7, 3) := by decide +kernel
theorem dX8_alarm_68 : decode cX8_alarm 68 = .ok (.sipush 178, 3) := by decide +kernel
theorem dX8_alarm_71 : decode cX8_alarm 71 = .ok (.iload_n 3, 1) := by decide +kernel
theorem dX8_alarm_72 : decode cX8_alarm 72 = .ok (.iadd, 1) := by decide +kernel
theorem dX8_alarm_73 : decode cX8_alarm 73 = .ok (.iload_n 2, 1) := by decide +kernel
theorem dX8_alarm_74 : decode cX8_alarm 74 = .ok (.iastore, 1) := by decide +kernel
theorem dX8_alarm_75 : decode cX8_alarm 75 = .ok (.aload_n 0, 1) := by decide +kernel
theorem dX8_alarm_76 : decode cX8_alarm 76 = .ok (.getfield 7, 3) := by decide +kernel
theorem dX8_alarm_79 : decode cX8_alarm 79 = .ok (.sipush 184, 3) := by decide +kernel
theorem dX8_alarm_82 : decode cX8_alarm 82 = .ok (.iload_n 3, 1) := by decide +kernel
theorem dX8_alarm_83 : decode cX8_alarm 83 = .ok (.iadd, 1) := by decide +kernel
theorem dX8_alarm_84 : decode cX8_alarm 84 = .ok (.aload_n 0, 1) := by decide +kernel
theorem dX8_alarm_85 : decode cX8_alarm 85 = .ok (.getfield 7, 3) := by decide +kernel
theorem dX8_alarm_88 : decode cX8_alarm 88 = .ok (.iconst 3, 1) := by decide +kernel
theorem dX8_alarm_89 : decode cX8_alarm 89 = .ok (.iload_n 1, 1) := by decide +kernel
theorem dX8_alarm_90 : decode cX8_alarm 90 = .ok (.iadd, 1) := by decide +kernel
theorem dX8_alarm_91 : decode cX8_alarm 91 = .ok (.iaload, 1) := by decide +kernel
theorem dX8_alarm_92 : decode cX8_alarm 92 = .ok (.iload_n 2, 1) := by decide +kernel
theorem dX8_alarm_93 : decode cX8_alarm 93 = .ok (.if_icmp .lt 7, 3) := by decide +kernel
theorem dX8_alarm_96 : decode cX8_alarm 96 = .ok (.iconst 1, 1) := by decide +kernel
theorem dX8_alarm_97 : decode cX8_alarm 97 = .ok (.goto 4, 3) := by decide +kernel
theorem dX8_alarm_100 : decode cX8_alarm 100 = .ok (.iconst 0, 1) := by decide +kernel
theorem dX8_alarm_101 : decode cX8_alarm 101 = .ok (.iastore, 1) := by decide +kernel
theorem dX8_alarm_102 : decode cX8_alarm 102 = .ok (.aload_n 0, 1) := by decide +kernel
theorem dX8_alarm_103 : decode cX8_alarm 103 = .ok (.getfield 7, 3) := by decide +kernel
theorem dX8_alarm_106 : decode cX8_alarm 106 = .ok (.sipush 171, 3) := by decide +kernel
theorem dX8_alarm_109 : decode cX8_alarm 109 = .ok (.dup2, 1) := by decide +kernel
theorem dX8_alarm_110 : decode cX8_alarm 110 = .ok (.iaload, 1) := by decide +kernel
theorem dX8_alarm_111 : decode cX8_alarm 111 = .ok (.iconst 1, 1) := by decide +kernel
theorem dX8_alarm_112 : decode cX8_alarm 112 = .ok (.iadd, 1) := by decide +kernel
theorem dX8_alarm_113 : decode cX8_alarm 113 = .ok (.iastore, 1) := by decide +kernel
theorem dX8_alarm_114 : decode cX8_alarm 114 = .ok (.iload_n 3, 1) := by decide +kernel
theorem dX8_alarm_115 : decode cX8_alarm 115 = .ok (.ireturn, 1) := by decide +kernel
theorem dX8_draw_0 : decode cX8_draw 0 = .ok (.aload_n 0, 1) := by decide +kernel
theorem dX8_draw_1 : decode cX8_draw 1 = .ok (.getfield 7, 3) := by decide +kernel
theorem dX8_draw_4 : decode cX8_draw 4 = .ok (.sipush 191, 3) := by decide +kernel
theorem dX8_draw_7 : decode cX8_draw 7 = .ok (.iaload, 1) := by decide +kernel
theorem dX8_draw_8 : decode cX8_draw 8 = .ok (.i2l, 1) := by decide +kernel
theorem dX8_draw_9 : decode cX8_draw 9 = .ok (.ldc2_w 180, 3) := by decide +kernel
theorem dX8_draw_12 : decode cX8_draw 12 = .ok (.lmul, 1) := by decide +kernel
theorem dX8_draw_13 : decode cX8_draw 13 = .ok (.ldc2_w 182, 3) := by decide +kernel
theorem dX8_draw_16 : decode cX8_draw 16 = .ok (.ladd, 1) := by decide +kernel
theorem dX8_draw_17 : decode cX8_draw 17 = .ok (.ldc2_w 184, 3) := by decide +kernel
theorem dX8_draw_20 : decode cX8_draw 20 = .ok (.lrem, 1) := by decide +kernel
theorem dX8_draw_21 : decode cX8_draw 21 = .ok (.lstore_n 2, 1) := by decide +kernel
theorem dX8_draw_22 : decode cX8_draw 22 = .ok (.aload_n 0, 1) := by decide +kernel
theorem dX8_draw_23 : decode cX8_draw 23 = .ok (.getfield 7, 3) := by decide +kernel
theorem dX8_draw_26 : decode cX8_draw 26 = .ok (.sipush 191, 3) := by decide +kernel
theorem dX8_draw_29 : decode cX8_draw 29 = .ok (.lload_n 2, 1) := by decide +kernel
theorem dX8_draw_30 : decode cX8_draw 30 = .ok (.l2i, 1) := by decide +kernel
theorem dX8_draw_31 : decode cX8_draw 31 = .ok (.iastore, 1) := by decide +kernel
theorem dX8_draw_32 : decode cX8_draw 32 = .ok (.aload_n 0, 1) := by decide +kernel
theorem dX8_draw_33 : decode cX8_draw 33 = .ok (.getfield 7, 3) := by decide +kernel
theorem dX8_draw_36 : decode cX8_draw 36 = .ok (.sipush 191, 3) := by decide +kernel
theorem dX8_draw_39 : decode cX8_draw 39 = .ok (.iaload, 1) := by decide +kernel
theorem dX8_draw_40 : decode cX8_draw 40 = .ok (.ldc 186, 2) := by decide +kernel
theorem dX8_draw_42 : decode cX8_draw 42 = .ok (.idiv, 1) := by decide +kernel
theorem dX8_draw_43 : decode cX8_draw 43 = .ok (.iload_n 1, 1) := by decide +kernel
theorem dX8_draw_44 : decode cX8_draw 44 = .ok (.irem, 1) := by decide +kernel
theorem dX8_draw_45 : decode cX8_draw 45 = .ok (.ireturn, 1) := by decide +kernel
theorem dX8_time_0 : decode cX8_time 0 = .ok (.aload_n 0, 1) := by decide +kernel
theorem dX8_time_1 : decode cX8_time 1 = .ok (.aload_n 0, 1) := by decide +kernel
theorem dX8_time_2 : decode cX8_time 2 = .ok (.getfield 7, 3) := by decide +kernel
theorem dX8_time_5 : decode cX8_time 5 = .ok (.iconst 0, 1) := by decide +kernel
theorem dX8_time_6 : decode cX8_time 6 = .ok (.iaload, 1) := by decide +kernel
theorem dX8_time_7 : decode cX8_time 7 = .ok (.invokevirtual 187, 3) := by decide +kernel
theorem dX8_time_10 : decode cX8_time 10 = .ok (.istore_n 1, 1) := by decide +kernel
theorem dX8_time_11 : decode cX8_time 11 = .ok (.aload_n 0, 1) := by decide +kernel
theorem dX8_time_12 : decode cX8_time 12 = .ok (.aload_n 0, 1) := by decide +kernel
theorem dX8_time_13 : decode cX8_time 13 = .ok (.getfield 7, 3) := by decide +kernel
theorem dX8_time_16 : decode cX8_time 16 = .ok (.iconst 0, 1) := by decide +kernel
theorem dX8_time_17 : decode cX8_time 17 = .ok (.iaload, 1) := by decide +kernel
theorem dX8_time_18 : decode cX8_time 18 = .ok (.invokevirtual 187, 3) := by decide +kernel
theorem dX8_time_21 : decode cX8_time 21 = .ok (.istore_n 2, 1) := by decide +kernel
theorem dX8_time_22 : decode cX8_time 22 = .ok (.aload_n 0, 1) := by decide +kernel
theorem dX8_time_23 : decode cX8_time 23 = .ok (.sipush 2001, 3) := by decide +kernel
theorem dX8_time_26 : decode cX8_time 26 = .ok (.invokevirtual 187, 3) := by decide +kernel
theorem dX8_time_29 : decode cX8_time 29 = .ok (.sipush 1000, 3) := by decide +kernel
theorem dX8_time_32 : decode cX8_time 32 = .ok (.isub, 1) := by decide +kernel
theorem dX8_time_33 : decode cX8_time 33 = .ok (.istore_n 3, 1) := by decide +kernel
theorem dX8_time_34 : decode cX8_time 34 = .ok (.aload_n 0, 1) := by decide +kernel
theorem dX8_time_35 : decode cX8_time 35 = .ok (.bipush 41, 2) := by decide +kernel
theorem dX8_time_37 : decode cX8_time 37 = .ok (.invokevirtual 187, 3) := by decide +kernel
theorem dX8_time_40 : decode cX8_time 40 = .ok (.bipush 20, 2) := by decide +kernel
theorem dX8_time_42 : decode cX8_time 42 = .ok (.isub, 1) := by decide +kernel
theorem dX8_time_43 : decode cX8_time 43 = .ok (.istore 4, 2) := by decide +kernel
theorem dX8_time_45 : decode cX8_time 45 = .ok (.aload_n 0, 1) := by decide +kernel
theorem dX8_time_46 : decode cX8_time 46 = .ok (.iconst 3, 1) := by decide +kernel
theorem dX8_time_47 : decode cX8_time 47 = .ok (.invokevirtual 187, 3) := by decide +kernel
theorem dX8_time_50 : decode cX8_time 50 = .ok (.istore 5, 2) := by decide +kernel
theorem dX8_time_52 : decode cX8_time 52 = .ok (.iload_n 1, 1) := by decide +kernel
theorem dX8_time_53 : decode cX8_time 53 = .ok (.iload_n 2, 1) := by decide +kernel
theorem dX8_time_54 : decode cX8_time 54 = .ok (.if_icmp .eq 34, 3) := by decide +kernel
theorem dX8_time_57 : decode cX8_time 57 = .ok (.aload_n 0, 1) := by decide +kernel
theorem dX8_time_58 : decode cX8_time 58 = .ok (.getfield 7, 3) := by decide +kernel
theorem dX8_time_61 : decode cX8_time 61 = .ok (.bipush 107, 2) := by decide +kernel
theorem dX8_time_63 : decode cX8_time 63 = .ok (.bipush 8, 2) := by decide +kernel
theorem dX8_time_65 : decode cX8_time 65 = .ok (.iload_n 1, 1) := by decide +kernel
theorem dX8_time_66 : decode cX8_time 66 = .ok (.imul, 1) := by decide +kernel
theorem dX8_time_67 : decode cX8_time 67 = .ok (.iadd, 1) := by decide +kernel
theorem dX8_time_68 : decode cX8_time 68 = .ok (.iload_n 2, 1) := by decide +kernel
theorem dX8_time_69 : decode cX8_time 69 = .ok (.iadd, 1) := by decide +kernel
theorem dX8_time_70 : decode cX8_time 70 = .ok (.iload_n 3, 1) := by decide +kernel
theorem dX8_time_71 : decode cX8_time 71 = .ok (.iastore, 1) := by decide +kernel
theorem dX8_time_72 : decode cX8_time 72 = .ok (.aload_n 0, 1) := by decide +kernel
theorem dX8_time_73 : decode cX8_time 73 = .ok (.getfield 7, 3) := by decide +kernel
theorem dX8_time_76 : decode cX8_time 76 = .ok (.bipush 43, 2) := by decide +kernel
theorem dX8_time_78 : decode cX8_time 78 = .ok (.bipush 8, 2) := by decide +kernel
theorem dX8_time_80 : decode cX8_time 80 = .ok (.iload_n 1, 1) := by decide +kernel
theorem dX8_time_81 : decode cX8_time 81 = .ok (.imul, 1) := by decide +kernel
theorem dX8_time_82 : decode cX8_time 82 = .ok (.iadd, 1) := by decide +kernel
theorem dX8_time_83 : decode cX8_time 83 = .ok (.iload_n 2, 1) := by decide +kernel
theorem dX8_time_84 : decode cX8_time 84 = .ok (.iadd, 1) := by decide +kernel
theorem dX8_time_85 : decode cX8_time 85 = .ok (.iload 4, 2) := by decide +kernel
theorem dX8_time_87 : decode cX8_time 87 = .ok (.iastore, 1) := by decide +kernel
theorem dX8_time_88 : decode cX8_time 88 = .ok (.iload 5, 2) := by decide +kernel
theorem dX8_time_90 : decode cX8_time 90 = .ok (.ifCond .ne 11, 3) := by decide +kernel
theorem dX8_time_93 : decode cX8_time 93 = .ok (.aload_n 0, 1) := by decide +kernel
theorem dX8_time_94 : decode cX8_time 94 = .ok (.iconst 0, 1) := by decide +kernel
theorem dX8_time_95 : decode cX8_time 95 = .ok (.invokevirtual 172, 3) := by decide +kernel
theorem dX8_time_98 : decode cX8_time 98 = .ok (.goto 7, 3) := by decide +kernel
theorem dX8_time_101 : decode cX8_time 101 = .ok (.aload_n 0, 1) := by decide +kernel
theorem dX8_time_102 : decode cX8_time 102 = .ok (.invokevirtual 169, 3) := by decide +kernel
theorem dX8_time_105 : decode cX8_time 105 = .ok (.return_, 1) := by decide +kernel
theorem dX8_drift_0 : decode cX8_drift 0 = .ok (.iload_n 1, 1) := by decide +kernel
theorem dX8_drift_1 : decode cX8_drift 1 = .ok (.iconst 1, 1) := by decide +kernel
theorem dX8_drift_2 : decode cX8_drift 2 = .ok (.bipush 16, 2) := by decide +kernel
theorem dX8_drift_4 : decode cX8_drift 4 = .ok (.invokestatic 32, 3) := by decide +kernel
theorem dX8_drift_7 : decode cX8_drift 7 = .ok (.ifCond .ne 6, 3) := by decide +kernel
theorem dX8_drift_10 : decode cX8_drift 10 = .ok (.ldc 36, 2) := by decide +kernel
theorem dX8_drift_12 : decode cX8_drift 12 = .ok (.ireturn, 1) := by decide +kernel
theorem dX8_drift_13 : decode cX8_drift 13 = .ok (.iconst 0, 1) := by decide +kernel
theorem dX8_drift_14 : decode cX8_drift 14 = .ok (.istore_n 2, 1) := by decide +kernel
theorem dX8_drift_15 : decode cX8_drift 15 = .ok (.iload_n 2, 1) := by decide +kernel
theorem dX8_drift_16 : decode cX8_drift 16 = .ok (.iload_n 1, 1) := by decide +kernel
theorem dX8_drift_17 : decode cX8_drift 17 = .ok (.if_icmp .ge 26, 3) := by decide +kernel
theorem dX8_drift_20 : decode cX8_drift 20 = .ok (.aload_n 0, 1) := by decide +kernel
theorem dX8_drift_21 : decode cX8_drift 21 = .ok (.getfield 7, 3) := by decide +kernel
theorem dX8_drift_24 : decode cX8_drift 24 = .ok (.iconst 0, 1) := by decide +kernel
theorem dX8_drift_25 : decode cX8_drift 25 = .ok (.iaload, 1) := by decide +kernel
theorem dX8_drift_26 : decode cX8_drift 26 = .ok (.ifCond .le 17, 3) := by decide +kernel
theorem dX8_drift_29 : decode cX8_drift 29 = .ok (.aload_n 0, 1) := by decide +kernel
theorem dX8_drift_30 : decode cX8_drift 30 = .ok (.invokevirtual 166, 3) := by decide +kernel
theorem dX8_drift_33 : decode cX8_drift 33 = .ok (.aload_n 0, 1) := by decide +kernel
theorem dX8_drift_34 : decode cX8_drift 34 = .ok (.invokevirtual 190, 3) := by decide +kernel
theorem dX8_drift_37 : decode cX8_drift 37 = .ok (.iinc 2 1, 3) := by decide +kernel
theorem dX8_drift_40 : decode cX8_drift 40 = .ok (.goto (-25), 3) := by decide +kernel
theorem dX8_drift_43 : decode cX8_drift 43 = .ok (.aload_n 0, 1) := by decide +kernel
theorem dX8_drift_44 : decode cX8_drift 44 = .ok (.iconst 0, 1) := by decide +kernel
theorem dX8_drift_45 : decode cX8_drift 45 = .ok (.invokevirtual 123, 3) := by decide +kernel
theorem dX8_drift_48 : decode cX8_drift 48 = .ok (.ireturn, 1) := by decide +kernel
theorem dX8_undo_0 : decode cX8_undo 0 = .ok (.iload_n 1, 1) := by decide +kernel
theorem dX8_undo_1 : decode cX8_undo 1 = .ok (.iconst 1, 1) := by decide +kernel
theorem dX8_undo_2 : decode cX8_undo 2 = .ok (.bipush 16, 2) := by decide +kernel
theorem dX8_undo_4 : decode cX8_undo 4 = .ok (.invokestatic 32, 3) := by decide +kernel
theorem dX8_undo_7 : decode cX8_undo 7 = .ok (.ifCond .ne 6, 3) := by decide +kernel
theorem dX8_undo_10 : decode cX8_undo 10 = .ok (.ldc 36, 2) := by decide +kernel
theorem dX8_undo_12 : decode cX8_undo 12 = .ok (.ireturn, 1) := by decide +kernel
theorem dX8_undo_13 : decode cX8_undo 13 = .ok (.iload_n 1, 1) := by decide +kernel
theorem dX8_undo_14 : decode cX8_undo 14 = .ok (.aload_n 0, 1) := by decide +kernel
theorem dX8_undo_15 : decode cX8_undo 15 = .ok (.getfield 88, 3) := by decide +kernel
theorem dX8_undo_18 : decode cX8_undo 18 = .ok (.if_icmp .le 6, 3) := by decide +kernel
theorem dX8_undo_21 : decode cX8_undo 21 = .ok (.ldc 178, 2) := by decide +kernel
theorem dX8_undo_23 : decode cX8_undo 23 = .ok (.ireturn, 1) := by decide +kernel
theorem dX8_undo_24 : decode cX8_undo 24 = .ok (.aload_n 0, 1) := by decide +kernel
theorem dX8_undo_25 : decode cX8_undo 25 = .ok (.getfield 7, 3) := by decide +kernel
theorem dX8_undo_28 : decode cX8_undo 28 = .ok (.sipush 191, 3) := by decide +kernel
theorem dX8_undo_31 : decode cX8_undo 31 = .ok (.iaload, 1) := by decide +kernel
theorem dX8_undo_32 : decode cX8_undo 32 = .ok (.istore_n 2, 1) := by decide +kernel
theorem dX8_undo_33 : decode cX8_undo 33 = .ok (.aload_n 0, 1) := by decide +kernel
theorem dX8_undo_34 : decode cX8_undo 34 = .ok (.dup, 1) := by decide +kernel
theorem dX8_undo_35 : decode cX8_undo 35 = .ok (.getfield 88, 3) := by decide +kernel
theorem dX8_undo_38 : decode cX8_undo 38 = .ok (.iload_n 1, 1) := by decide +kernel
theorem dX8_undo_39 : decode cX8_undo 39 = .ok (.isub, 1) := by decide +kernel
theorem dX8_undo_40 : decode cX8_undo 40 = .ok (.putfield 88, 3) := by decide +kernel
theorem dX8_undo_43 : decode cX8_undo 43 = .ok (.aload_n 0, 1) := by decide +kernel
theorem dX8_undo_44 : decode cX8_undo 44 = .ok (.sipush 192, 3) := by decide +kernel
theorem dX8_undo_47 : decode cX8_undo 47 = .ok (.aload_n 0, 1) := by decide +kernel
theorem dX8_undo_48 : decode cX8_undo 48 = .ok (.getfield 88, 3) := by decide +kernel
theorem dX8_undo_51 : decode cX8_undo 51 = .ok (.iconst 1, 1) := by decide +kernel
theorem dX8_undo_52 : decode cX8_undo 52 = .ok (.iadd, 1) := by decide +kernel
theorem dX8_undo_53 : decode cX8_undo 53 = .ok (.imul, 1) := by decide +kernel
theorem dX8_undo_54 : decode cX8_undo 54 = .ok (.iconst 0, 1) := by decide +kernel
theorem dX8_undo_55 : decode cX8_undo 55 = .ok (.invokevirtual 85, 3) := by decide +kernel
theorem dX8_undo_58 : decode cX8_undo 58 = .ok (.aload_n 0, 1) := by decide +kernel
theorem dX8_undo_59 : decode cX8_undo 59 = .ok (.getfield 7, 3) := by decide +kernel
theorem dX8_undo_62 : decode cX8_undo 62 = .ok (.sipush 191, 3) := by decide +kernel
theorem dX8_undo_65 : decode cX8_undo 65 = .ok (.iload_n 2, 1) := by decide +kernel
theorem dX8_undo_66 : decode cX8_undo 66 = .ok (.iastore, 1) := by decide +kernel
theorem dX8_undo_67 : decode cX8_undo 67 = .ok (.aload_n 0, 1) := by decide +kernel
theorem dX8_undo_68 : decode cX8_undo 68 = .ok (.getfield 7, 3) := by decide +kernel
theorem dX8_undo_71 : decode cX8_undo 71 = .ok (.sipush 190, 3) := by decide +kernel
theorem dX8_undo_74 : decode cX8_undo 74 = .ok (.iaload, 1) := by decide +kernel
theorem dX8_undo_75 : decode cX8_undo 75 = .ok (.ireturn, 1) := by decide +kernel
theorem dX8_behind_0 : decode cX8_behind 0 = .ok (.iload_n 1, 1) := by decide +kernel
theorem dX8_behind_1 : decode cX8_behind 1 = .ok (.iconst 0, 1) := by decide +kernel
theorem dX8_behind_2 : decode cX8_behind 2 = .ok (.bipush 20, 2) := by decide +kernel
theorem dX8_behind_4 : decode cX8_behind 4 = .ok (.invokestatic 32, 3) := by decide +kernel
theorem dX8_behind_7 : decode cX8_behind 7 = .ok (.ifCond .ne 6, 3) := by decide +kernel
theorem dX8_behind_10 : decode cX8_behind 10 = .ok (.ldc 36, 2) := by decide +kernel
theorem dX8_behind_12 : decode cX8_behind 12 = .ok (.ireturn, 1) := by decide +kernel
theorem dX8_behind_13 : decode cX8_behind 13 = .ok (.aload_n 0, 1) := by decide +kernel
theorem dX8_behind_14 : decode cX8_behind 14 = .ok (.iconst 0, 1) := by decide +kernel
theorem dX8_behind_15 : decode cX8_behind 15 = .ok (.sipush 3648, 3) := by decide +kernel
theorem dX8_behind_18 : decode cX8_behind 18 = .ok (.invokevirtual 85, 3) := by decide +kernel
theorem dX8_behind_21 : decode cX8_behind 21 = .ok (.iconst 0, 1) := by decide +kernel
theorem dX8_behind_22 : decode cX8_behind 22 = .ok (.istore_n 2, 1) := by decide +kernel
theorem dX8_behind_23 : decode cX8_behind 23 = .ok (.iload_n 2, 1) := by decide +kernel
theorem dX8_behind_24 : decode cX8_behind 24 = .ok (.iload_n 1, 1) := by decide +kernel
theorem dX8_behind_25 : decode cX8_behind 25 = .ok (.if_icmp .ge 16, 3) := by decide +kernel
theorem dX8_behind_28 : decode cX8_behind 28 = .ok (.aload_n 0, 1) := by decide +kernel
theorem dX8_behind_29 : decode cX8_behind 29 = .ok (.sipush 3648, 3) := by decide +kernel
theorem dX8_behind_32 : decode cX8_behind 32 = .ok (.invokevirtual 172, 3) := by decide +kernel
theorem dX8_behind_35 : decode cX8_behind 35 = .ok (.iinc 2 1, 3) := by decide +kernel
theorem dX8_behind_38 : decode cX8_behind 38 = .ok (.goto (-15), 3) := by decide +kernel
theorem dX8_behind_41 : decode cX8_behind 41 = .ok (.aload_n 0, 1) := by decide +kernel
theorem dX8_behind_42 : decode cX8_behind 42 = .ok (.sipush 3648, 3) := by decide +kernel
theorem dX8_behind_45 : decode cX8_behind 45 = .ok (.invokevirtual 123, 3) := by decide +kernel
theorem dX8_behind_48 : decode cX8_behind 48 = .ok (.ireturn, 1) := by decide +kernel
theorem dX8_within_0 : decode cX8_within 0 = .ok (.iload_n 1, 1) := by decide +kernel
theorem dX8_within_1 : decode cX8_within 1 = .ok (.iconst 0, 1) := by decide +kernel
theorem dX8_within_2 : decode cX8_within 2 = .ok (.sipush 9999, 3) := by decide +kernel
theorem dX8_within_5 : decode cX8_within 5 = .ok (.invokestatic 32, 3) := by decide +kernel
theorem dX8_within_8 : decode cX8_within 8 = .ok (.ifCond .ne 6, 3) := by decide +kernel
theorem dX8_within_11 : decode cX8_within 11 = .ok (.ldc 36, 2) := by decide +kernel
theorem dX8_within_13 : decode cX8_within 13 = .ok (.ireturn, 1) := by decide +kernel
theorem dX8_within_14 : decode cX8_within 14 = .ok (.iconst 0, 1) := by decide +kernel
theorem dX8_within_15 : decode cX8_within 15 = .ok (.istore_n 2, 1) := by decide +kernel
theorem dX8_within_16 : decode cX8_within 16 = .ok (.iload_n 2, 1) := by decide +kernel
theorem dX8_within_17 : decode cX8_within 17 = .ok (.bipush 20, 2) := by decide +kernel
theorem dX8_within_19 : decode cX8_within 19 = .ok (.if_icmp .gt 27, 3) := by decide +kernel
theorem dX8_within_22 : decode cX8_within 22 = .ok (.aload_n 0, 1) := by decide +kernel
theorem dX8_within_23 : decode cX8_within 23 = .ok (.iload_n 2, 1) := by decide +kernel
theorem dX8_within_24 : decode cX8_within 24 = .ok (.invokevirtual 193, 3) := by decide +kernel
theorem dX8_within_27 : decode cX8_within 27 = .ok (.istore_n 3, 1) := by decide +kernel
theorem dX8_within_28 : decode cX8_within 28 = .ok (.iload_n 3, 1) := by decide +kernel
theorem dX8_within_29 : decode cX8_within 29 = .ok (.iconst (-1), 1) := by decide +kernel
theorem dX8_within_30 : decode cX8_within 30 = .ok (.if_icmp .eq 10, 3) := by decide +kernel
theorem dX8_within_33 : decode cX8_within 33 = .ok (.iload_n 3, 1) := by decide +kernel
theorem dX8_within_34 : decode cX8_within 34 = .ok (.iload_n 1, 1) := by decide +kernel
theorem dX8_within_35 : decode cX8_within 35 = .ok (.if_icmp .gt 5, 3) := by decide +kernel
theorem dX8_within_38 : decode cX8_within 38 = .ok (.iload_n 2, 1) := by decide +kernel
theorem dX8_within_39 : decode cX8_within 39 = .ok (.ireturn, 1) := by decide +kernel
theorem dX8_within_40 : decode cX8_within 40 = .ok (.iinc 2 1, 3) := by decide +kernel
theorem dX8_within_43 : decode cX8_within 43 = .ok (.goto (-27), 3) := by decide +kernel
theorem dX8_within_46 : decode cX8_within 46 = .ok (.iconst (-1), 1) := by decide +kernel
theorem dX8_within_47 : decode cX8_within 47 = .ok (.ireturn, 1) := by decide +kernel
theorem dX8_write_0 : decode cX8_write 0 = .ok (.aload_n 0, 1) := by decide +kernel
theorem dX8_write_1 : decode cX8_write 1 = .ok (.iload_n 1, 1) := by decide +kernel
theorem dX8_write_2 : decode cX8_write 2 = .ok (.invokevirtual 136, 3) := by decide +kernel
theorem dX8_write_5 : decode cX8_write 5 = .ok (.ifCond .ne 6, 3) := by decide +kernel
theorem dX8_write_8 : decode cX8_write 8 = .ok (.ldc 155, 2) := by decide +kernel
theorem dX8_write_10 : decode cX8_write 10 = .ok (.ireturn, 1) := by decide +kernel
theorem dX8_write_11 : decode cX8_write 11 = .ok (.aload_n 0, 1) := by decide +kernel
theorem dX8_write_12 : decode cX8_write 12 = .ok (.getfield 94, 3) := by decide +kernel
theorem dX8_write_15 : decode cX8_write 15 = .ok (.bipush 20, 2) := by decide +kernel
theorem dX8_write_17 : decode cX8_write 17 = .ok (.if_icmp .ne 6, 3) := by decide +kernel
theorem dX8_write_20 : decode cX8_write 20 = .ok (.ldc 40, 2) := by decide +kernel
theorem dX8_write_22 : decode cX8_write 22 = .ok (.ireturn, 1) := by decide +kernel
theorem dX8_write_23 : decode cX8_write 23 = .ok (.aload_n 0, 1) := by decide +kernel
theorem dX8_write_24 : decode cX8_write 24 = .ok (.getfield 20, 3) := by decide +kernel
theorem dX8_write_27 : decode cX8_write 27 = .ok (.aload_n 0, 1) := by decide +kernel
theorem dX8_write_28 : decode cX8_write 28 = .ok (.getfield 94, 3) := by decide +kernel
theorem dX8_write_31 : decode cX8_write 31 = .ok (.iload_n 1, 1) := by decide +kernel
theorem dX8_write_32 : decode cX8_write 32 = .ok (.iastore, 1) := by decide +kernel
theorem dX8_write_33 : decode cX8_write 33 = .ok (.aload_n 0, 1) := by decide +kernel
theorem dX8_write_34 : decode cX8_write 34 = .ok (.getfield 23, 3) := by decide +kernel
theorem dX8_write_37 : decode cX8_write 37 = .ok (.aload_n 0, 1) := by decide +kernel
theorem dX8_write_38 : decode cX8_write 38 = .ok (.getfield 94, 3) := by decide +kernel
theorem dX8_write_41 : decode cX8_write 41 = .ok (.iload_n 2, 1) := by decide +kernel
theorem dX8_write_42 : decode cX8_write 42 = .ok (.iastore, 1) := by decide +kernel
theorem dX8_write_43 : decode cX8_write 43 = .ok (.aload_n 0, 1) := by decide +kernel
theorem dX8_write_44 : decode cX8_write 44 = .ok (.dup, 1) := by decide +kernel
theorem dX8_write_45 : decode cX8_write 45 = .ok (.getfield 94, 3) := by decide +kernel
theorem dX8_write_48 : decode cX8_write 48 = .ok (.iconst 1, 1) := by decide +kernel
theorem dX8_write_49 : decode cX8_write 49 = .ok (.iadd, 1) := by decide +kernel
theorem dX8_write_50 : decode cX8_write 50 = .ok (.putfield 94, 3) := by decide +kernel
theorem dX8_write_53 : decode cX8_write 53 = .ok (.aload_n 0, 1) := by decide +kernel
theorem dX8_write_54 : decode cX8_write 54 = .ok (.getfield 94, 3) := by decide +kernel
theorem dX8_write_57 : decode cX8_write 57 = .ok (.ireturn, 1) := by decide +kernel
theorem dX8_tear_0 : decode cX8_tear 0 = .ok (.aload_n 0, 1) := by decide +kernel
theorem dX8_tear_1 : decode cX8_tear 1 = .ok (.getfield 94, 3) := by decide +kernel
theorem dX8_tear_4 : decode cX8_tear 4 = .ok (.istore_n 1, 1) := by decide +kernel
theorem dX8_tear_5 : decode cX8_tear 5 = .ok (.aload_n 0, 1) := by decide +kernel
theorem dX8_tear_6 : decode cX8_tear 6 = .ok (.iconst 0, 1) := by decide +kernel
theorem dX8_tear_7 : decode cX8_tear 7 = .ok (.putfield 94, 3) := by decide +kernel
theorem dX8_tear_10 : decode cX8_tear 10 = .ok (.iload_n 1, 1) := by decide +kernel
theorem dX8_tear_11 : decode cX8_tear 11 = .ok (.ireturn, 1) := by decide +kernel
theorem dX8_seed_0 : decode cX8_seed 0 = .ok (.iload_n 1, 1) := by decide +kernel
theorem dX8_seed_1 : decode cX8_seed 1 = .ok (.ifCond .ge 6, 3) := by decide +kernel
theorem dX8_seed_4 : decode cX8_seed 4 = .ok (.ldc 36, 2) := by decide +kernel
theorem dX8_seed_6 : decode cX8_seed 6 = .ok (.ireturn, 1) := by decide +kernel
theorem dX8_seed_7 : decode cX8_seed 7 = .ok (.aload_n 0, 1) := by decide +kernel
theorem dX8_seed_8 : decode cX8_seed 8 = .ok (.getfield 7, 3) := by decide +kernel
theorem dX8_seed_11 : decode cX8_seed 11 = .ok (.sipush 191, 3) := by decide +kernel
theorem dX8_seed_14 : decode cX8_seed 14 = .ok (.iaload, 1) := by decide +kernel
theorem dX8_seed_15 : decode cX8_seed 15 = .ok (.istore_n 2, 1) := by decide +kernel
theorem dX8_seed_16 : decode cX8_seed 16 = .ok (.aload_n 0, 1) := by decide +kernel
theorem dX8_seed_17 : decode cX8_seed 17 = .ok (.getfield 7, 3) := by decide +kernel
theorem dX8_seed_20 : decode cX8_seed 20 = .ok (.sipush 191, 3) := by decide +kernel
theorem dX8_seed_23 : decode cX8_seed 23 = .ok (.iload_n 1, 1) := by decide +kernel
theorem dX8_seed_24 : decode cX8_seed 24 = .ok (.iastore, 1) := by decide +kernel
theorem dX8_seed_25 : decode cX8_seed 25 = .ok (.iload_n 2, 1) := by decide +kernel
theorem dX8_seed_26 : decode cX8_seed 26 = .ok (.ireturn, 1) := by decide +kernel
theorem dX8_keep_0 : decode cX8_keep 0 = .ok (.iload_n 1, 1) := by decide +kernel
theorem dX8_keep_1 : decode cX8_keep 1 = .ok (.iconst 0, 1) := by decide +kernel
theorem dX8_keep_2 : decode cX8_keep 2 = .ok (.iconst 1, 1) := by decide +kernel
theorem dX8_keep_3 : decode cX8_keep 3 = .ok (.invokestatic 32, 3) := by decide +kernel
theorem dX8_keep_6 : decode cX8_keep 6 = .ok (.ifCond .ne 6, 3) := by decide +kernel
theorem dX8_keep_9 : decode cX8_keep 9 = .ok (.ldc 155, 2) := by decide +kernel
theorem dX8_keep_11 : decode cX8_keep 11 = .ok (.ireturn, 1) := by decide +kernel
theorem dX8_keep_12 : decode cX8_keep 12 = .ok (.aload_n 0, 1) := by decide +kernel
theorem dX8_keep_13 : decode cX8_keep 13 = .ok (.iconst 0, 1) := by decide +kernel
theorem dX8_keep_14 : decode cX8_keep 14 = .ok (.sipush 3264, 3) := by decide +kernel
theorem dX8_keep_17 : decode cX8_keep 17 = .ok (.sipush 192, 3) := by decide +kernel
theorem dX8_keep_20 : decode cX8_keep 20 = .ok (.iload_n 1, 1) := by decide +kernel
theorem dX8_keep_21 : decode cX8_keep 21 = .ok (.imul, 1) := by decide +kernel
theorem dX8_keep_22 : decode cX8_keep 22 = .ok (.iadd, 1) := by decide +kernel
theorem dX8_keep_23 : decode cX8_keep 23 = .ok (.invokevirtual 85, 3) := by decide +kernel
theorem dX8_keep_26 : decode cX8_keep 26 = .ok (.aload_n 0, 1) := by decide +kernel
theorem dX8_keep_27 : decode cX8_keep 27 = .ok (.dup, 1) := by decide +kernel
theorem dX8_keep_28 : decode cX8_keep 28 = .ok (.getfield 91, 3) := by decide +kernel
theorem dX8_keep_31 : decode cX8_keep 31 = .ok (.iconst 1, 1) := by decide +kernel
theorem dX8_keep_32 : decode cX8_keep 32 = .ok (.iload_n 1, 1) := by decide +kernel
theorem dX8_keep_33 : decode cX8_keep 33 = .ok (.ishl, 1) := by decide +kernel
theorem dX8_keep_34 : decode cX8_keep 34 = .ok (.ior, 1) := by decide +kernel
theorem dX8_keep_35 : decode cX8_keep 35 = .ok (.putfield 91, 3) := by decide +kernel
theorem dX8_keep_38 : decode cX8_keep 38 = .ok (.aload_n 0, 1) := by decide +kernel
theorem dX8_keep_39 : decode cX8_keep 39 = .ok (.iconst 0, 1) := by decide +kernel
theorem dX8_keep_40 : decode cX8_keep 40 = .ok (.putfield 88, 3) := by decide +kernel
theorem dX8_keep_43 : decode cX8_keep 43 = .ok (.iconst 1, 1) := by decide +kernel
theorem dX8_keep_44 : decode cX8_keep 44 = .ok (.ireturn, 1) := by decide +kernel
theorem dX8_goBack_0 : decode cX8_goBack 0 = .ok (.iload_n 1, 1) := by decide +kernel
theorem dX8_goBack_1 : decode cX8_goBack 1 = .ok (.iconst 0, 1) := by decide +kernel
theorem dX8_goBack_2 : decode cX8_goBack 2 = .ok (.iconst 1, 1) := by decide +kernel
theorem dX8_goBack_3 : decode cX8_goBack 3 = .ok (.invokestatic 32, 3) := by decide +kernel
theorem dX8_goBack_6 : decode cX8_goBack 6 = .ok (.ifCond .ne 6, 3) := by decide +kernel
theorem dX8_goBack_9 : decode cX8_goBack 9 = .ok (.ldc 155, 2) := by decide +kernel
theorem dX8_goBack_11 : decode cX8_goBack 11 = .ok (.ireturn, 1) := by decide +kernel
theorem dX8_goBack_12 : decode cX8_goBack 12 = .ok (.aload_n 0, 1) := by decide +kernel
theorem dX8_goBack_13 : decode cX8_goBack 13 = .ok (.getfield 91, 3) := by decide +kernel
theorem dX8_goBack_16 : decode cX8_goBack 16 = .ok (.iload_n 1, 1) := by decide +kernel
theorem dX8_goBack_17 : decode cX8_goBack 17 = .ok (.invokestatic 196, 3) := by decide +kernel
theorem dX8_goBack_20 : decode cX8_goBack 20 = .ok (.ifCond .ne 6, 3) := by decide +kernel
theorem dX8_goBack_23 : decode cX8_goBack 23 = .ok (.ldc 178, 2) := by decide +kernel
theorem dX8_goBack_25 : decode cX8_goBack 25 = .ok (.ireturn, 1) := by decide +kernel
theorem dX8_goBack_26 : decode cX8_goBack 26 = .ok (.aload_n 0, 1) := by decide +kernel
theorem dX8_goBack_27 : decode cX8_goBack 27 = .ok (.sipush 3264, 3) := by decide +kernel
theorem dX8_goBack_30 : decode cX8_goBack 30 = .ok (.sipush 192, 3) := by decide +kernel
theorem dX8_goBack_33 : decode cX8_goBack 33 = .ok (.iload_n 1, 1) := by decide +kernel
theorem dX8_goBack_34 : decode cX8_goBack 34 = .ok (.imul, 1) := by decide +kernel
theorem dX8_goBack_35 : decode cX8_goBack 35 = .ok (.iadd, 1) := by decide +kernel
theorem dX8_goBack_36 : decode cX8_goBack 36 = .ok (.iconst 0, 1) := by decide +kernel
theorem dX8_goBack_37 : decode cX8_goBack 37 = .ok (.invokevirtual 85, 3) := by decide +kernel
theorem dX8_goBack_40 : decode cX8_goBack 40 = .ok (.aload_n 0, 1) := by decide +kernel
theorem dX8_goBack_41 : decode cX8_goBack 41 = .ok (.iconst 0, 1) := by decide +kernel
theorem dX8_goBack_42 : decode cX8_goBack 42 = .ok (.putfield 88, 3) := by decide +kernel
theorem dX8_goBack_45 : decode cX8_goBack 45 = .ok (.iconst 1, 1) := by decide +kernel
theorem dX8_goBack_46 : decode cX8_goBack 46 = .ok (.ireturn, 1) := by decide +kernel
theorem dJ6_bitCount_0f7a4_0 : decode cJ6_bitCount_0f7a4 0 = .ok (.iload_n 0, 1) := by decide +kernel
theorem dJ6_bitCount_0f7a4_1 : decode cJ6_bitCount_0f7a4 1 = .ok (.iload_n 0, 1) := by decide +kernel
theorem dJ6_bitCount_0f7a4_2 : decode cJ6_bitCount_0f7a4 2 = .ok (.iconst 1, 1) := by decide +kernel
theorem dJ6_bitCount_0f7a4_3 : decode cJ6_bitCount_0f7a4 3 = .ok (.iushr, 1) := by decide +kernel
theorem dJ6_bitCount_0f7a4_4 : decode cJ6_bitCount_0f7a4 4 = .ok (.ldc_w 265, 3) := by decide +kernel
theorem dJ6_bitCount_0f7a4_7 : decode cJ6_bitCount_0f7a4 7 = .ok (.iand, 1) := by decide +kernel
theorem dJ6_bitCount_0f7a4_8 : decode cJ6_bitCount_0f7a4 8 = .ok (.isub, 1) := by decide +kernel
theorem dJ6_bitCount_0f7a4_9 : decode cJ6_bitCount_0f7a4 9 = .ok (.istore_n 0, 1) := by decide +kernel
theorem dJ6_bitCount_0f7a4_10 : decode cJ6_bitCount_0f7a4 10 = .ok (.iload_n 0, 1) := by decide +kernel
theorem dJ6_bitCount_0f7a4_11 : decode cJ6_bitCount_0f7a4 11 = .ok (.ldc_w 266, 3) := by decide +kernel
theorem dJ6_bitCount_0f7a4_14 : decode cJ6_bitCount_0f7a4 14 = .ok (.iand, 1) := by decide +kernel
theorem dJ6_bitCount_0f7a4_15 : decode cJ6_bitCount_0f7a4 15 = .ok (.iload_n 0, 1) := by decide +kernel
theorem dJ6_bitCount_0f7a4_16 : decode cJ6_bitCount_0f7a4 16 = .ok (.iconst 2, 1) := by decide +kernel
theorem dJ6_bitCount_0f7a4_17 : decode cJ6_bitCount_0f7a4 17 = .ok (.iushr, 1) := by decide +kernel
theorem dJ6_bitCount_0f7a4_18 : decode cJ6_bitCount_0f7a4 18 = .ok (.ldc_w 266, 3) := by decide +kernel
theorem dJ6_bitCount_0f7a4_21 : decode cJ6_bitCount_0f7a4 21 = .ok (.iand, 1) := by decide +kernel
theorem dJ6_bitCount_0f7a4_22 : decode cJ6_bitCount_0f7a4 22 = .ok (.iadd, 1) := by decide +kernel
theorem dJ6_bitCount_0f7a4_23 : decode cJ6_bitCount_0f7a4 23 = .ok (.istore_n 0, 1) := by decide +kernel
theorem dJ6_bitCount_0f7a4_24 : decode cJ6_bitCount_0f7a4 24 = .ok (.iload_n 0, 1) := by decide +kernel
theorem dJ6_bitCount_0f7a4_25 : decode cJ6_bitCount_0f7a4 25 = .ok (.iload_n 0, 1) := by decide +kernel
theorem dJ6_bitCount_0f7a4_26 : decode cJ6_bitCount_0f7a4 26 = .ok (.iconst 4, 1) := by decide +kernel
theorem dJ6_bitCount_0f7a4_27 : decode cJ6_bitCount_0f7a4 27 = .ok (.iushr, 1) := by decide +kernel
theorem dJ6_bitCount_0f7a4_28 : decode cJ6_bitCount_0f7a4 28 = .ok (.iadd, 1) := by decide +kernel
theorem dJ6_bitCount_0f7a4_29 : decode cJ6_bitCount_0f7a4 29 = .ok (.ldc_w 267, 3) := by decide +kernel
theorem dJ6_bitCount_0f7a4_32 : decode cJ6_bitCount_0f7a4 32 = .ok (.iand, 1) := by decide +kernel
theorem dJ6_bitCount_0f7a4_33 : decode cJ6_bitCount_0f7a4 33 = .ok (.istore_n 0, 1) := by decide +kernel
theorem dJ6_bitCount_0f7a4_34 : decode cJ6_bitCount_0f7a4 34 = .ok (.iload_n 0, 1) := by decide +kernel
theorem dJ6_bitCount_0f7a4_35 : decode cJ6_bitCount_0f7a4 35 = .ok (.iload_n 0, 1) := by decide +kernel
theorem dJ6_bitCount_0f7a4_36 : decode cJ6_bitCount_0f7a4 36 = .ok (.bipush 8, 2) := by decide +kernel
theorem dJ6_bitCount_0f7a4_38 : decode cJ6_bitCount_0f7a4 38 = .ok (.iushr, 1) := by decide +kernel
theorem dJ6_bitCount_0f7a4_39 : decode cJ6_bitCount_0f7a4 39 = .ok (.iadd, 1) := by decide +kernel
theorem dJ6_bitCount_0f7a4_40 : decode cJ6_bitCount_0f7a4 40 = .ok (.istore_n 0, 1) := by decide +kernel
theorem dJ6_bitCount_0f7a4_41 : decode cJ6_bitCount_0f7a4 41 = .ok (.iload_n 0, 1) := by decide +kernel
theorem dJ6_bitCount_0f7a4_42 : decode cJ6_bitCount_0f7a4 42 = .ok (.iload_n 0, 1) := by decide +kernel
theorem dJ6_bitCount_0f7a4_43 : decode cJ6_bitCount_0f7a4 43 = .ok (.bipush 16, 2) := by decide +kernel
theorem dJ6_bitCount_0f7a4_45 : decode cJ6_bitCount_0f7a4 45 = .ok (.iushr, 1) := by decide +kernel
theorem dJ6_bitCount_0f7a4_46 : decode cJ6_bitCount_0f7a4 46 = .ok (.iadd, 1) := by decide +kernel
theorem dJ6_bitCount_0f7a4_47 : decode cJ6_bitCount_0f7a4 47 = .ok (.istore_n 0, 1) := by decide +kernel
theorem dJ6_bitCount_0f7a4_48 : decode cJ6_bitCount_0f7a4 48 = .ok (.iload_n 0, 1) := by decide +kernel
theorem dJ6_bitCount_0f7a4_49 : decode cJ6_bitCount_0f7a4 49 = .ok (.bipush 63, 2) := by decide +kernel
theorem dJ6_bitCount_0f7a4_51 : decode cJ6_bitCount_0f7a4 51 = .ok (.iand, 1) := by decide +kernel
theorem dJ6_bitCount_0f7a4_52 : decode cJ6_bitCount_0f7a4 52 = .ok (.ireturn, 1) := by decide +kernel
theorem dJ9_floorDiv_7cf53_0 : decode cJ9_floorDiv_7cf53 0 = .ok (.iload_n 0, 1) := by decide +kernel
theorem dJ9_floorDiv_7cf53_1 : decode cJ9_floorDiv_7cf53 1 = .ok (.iload_n 1, 1) := by decide +kernel
theorem dJ9_floorDiv_7cf53_2 : decode cJ9_floorDiv_7cf53 2 = .ok (.idiv, 1) := by decide +kernel
theorem dJ9_floorDiv_7cf53_3 : decode cJ9_floorDiv_7cf53 3 = .ok (.istore_n 2, 1) := by decide +kernel
theorem dJ9_floorDiv_7cf53_4 : decode cJ9_floorDiv_7cf53 4 = .ok (.iload_n 0, 1) := by decide +kernel
theorem dJ9_floorDiv_7cf53_5 : decode cJ9_floorDiv_7cf53 5 = .ok (.iload_n 1, 1) := by decide +kernel
theorem dJ9_floorDiv_7cf53_6 : decode cJ9_floorDiv_7cf53 6 = .ok (.ixor, 1) := by decide +kernel
theorem dJ9_floorDiv_7cf53_7 : decode cJ9_floorDiv_7cf53 7 = .ok (.ifCond .ge 14, 3) := by decide +kernel
theorem dJ9_floorDiv_7cf53_10 : decode cJ9_floorDiv_7cf53 10 = .ok (.iload_n 2, 1) := by decide +kernel
theorem dJ9_floorDiv_7cf53_11 : decode cJ9_floorDiv_7cf53 11 = .ok (.iload_n 1, 1) := by decide +kernel
theorem dJ9_floorDiv_7cf53_12 : decode cJ9_floorDiv_7cf53 12 = .ok (.imul, 1) := by decide +kernel
theorem dJ9_floorDiv_7cf53_13 : decode cJ9_floorDiv_7cf53 13 = .ok (.iload_n 0, 1) := by decide +kernel
theorem dJ9_floorDiv_7cf53_14 : decode cJ9_floorDiv_7cf53 14 = .ok (.if_icmp .eq 7, 3) := by decide +kernel
theorem dJ9_floorDiv_7cf53_17 : decode cJ9_floorDiv_7cf53 17 = .ok (.iload_n 2, 1) := by decide +kernel
theorem dJ9_floorDiv_7cf53_18 : decode cJ9_floorDiv_7cf53 18 = .ok (.iconst 1, 1) := by decide +kernel
theorem dJ9_floorDiv_7cf53_19 : decode cJ9_floorDiv_7cf53 19 = .ok (.isub, 1) := by decide +kernel
theorem dJ9_floorDiv_7cf53_20 : decode cJ9_floorDiv_7cf53 20 = .ok (.ireturn, 1) := by decide +kernel
theorem dJ9_floorDiv_7cf53_21 : decode cJ9_floorDiv_7cf53 21 = .ok (.iload_n 2, 1) := by decide +kernel
theorem dJ9_floorDiv_7cf53_22 : decode cJ9_floorDiv_7cf53 22 = .ok (.ireturn, 1) := by decide +kernel
theorem dJ9_floorMod_7cf53_0 : decode cJ9_floorMod_7cf53 0 = .ok (.iload_n 0, 1) := by decide +kernel
theorem dJ9_floorMod_7cf53_1 : decode cJ9_floorMod_7cf53 1 = .ok (.iload_n 1, 1) := by decide +kernel
theorem dJ9_floorMod_7cf53_2 : decode cJ9_floorMod_7cf53 2 = .ok (.irem, 1) := by decide +kernel
theorem dJ9_floorMod_7cf53_3 : decode cJ9_floorMod_7cf53 3 = .ok (.istore_n 2, 1) := by decide +kernel
theorem dJ9_floorMod_7cf53_4 : decode cJ9_floorMod_7cf53 4 = .ok (.iload_n 0, 1) := by decide +kernel
theorem dJ9_floorMod_7cf53_5 : decode cJ9_floorMod_7cf53 5 = .ok (.iload_n 1, 1) := by decide +kernel
theorem dJ9_floorMod_7cf53_6 : decode cJ9_floorMod_7cf53 6 = .ok (.ixor, 1) := by decide +kernel
theorem dJ9_floorMod_7cf53_7 : decode cJ9_floorMod_7cf53 7 = .ok (.ifCond .ge 11, 3) := by decide +kernel
theorem dJ9_floorMod_7cf53_10 : decode cJ9_floorMod_7cf53 10 = .ok (.iload_n 2, 1) := by decide +kernel
theorem dJ9_floorMod_7cf53_11 : decode cJ9_floorMod_7cf53 11 = .ok (.ifCond .eq 7, 3) := by decide +kernel
theorem dJ9_floorMod_7cf53_14 : decode cJ9_floorMod_7cf53 14 = .ok (.iload_n 2, 1) := by decide +kernel
theorem dJ9_floorMod_7cf53_15 : decode cJ9_floorMod_7cf53 15 = .ok (.iload_n 1, 1) := by decide +kernel
theorem dJ9_floorMod_7cf53_16 : decode cJ9_floorMod_7cf53 16 = .ok (.iadd, 1) := by decide +kernel
theorem dJ9_floorMod_7cf53_17 : decode cJ9_floorMod_7cf53 17 = .ok (.ireturn, 1) := by decide +kernel
theorem dJ9_floorMod_7cf53_18 : decode cJ9_floorMod_7cf53 18 = .ok (.iload_n 2, 1) := by decide +kernel
theorem dJ9_floorMod_7cf53_19 : decode cJ9_floorMod_7cf53 19 = .ok (.ireturn, 1) := by decide +kernel
theorem dJ9_abs_0f7a4_0 : decode cJ9_abs_0f7a4 0 = .ok (.iload_n 0, 1) := by decide +kernel
theorem dJ9_abs_0f7a4_1 : decode cJ9_abs_0f7a4 1 = .ok (.ifCond .ge 8, 3) := by decide +kernel
theorem dJ9_abs_0f7a4_4 : decode cJ9_abs_0f7a4 4 = .ok (.iload_n 0, 1) := by decide +kernel
theorem dJ9_abs_0f7a4_5 : decode cJ9_abs_0f7a4 5 = .ok (.ineg, 1) := by decide +kernel
theorem dJ9_abs_0f7a4_6 : decode cJ9_abs_0f7a4 6 = .ok (.goto 4, 3) := by decide +kernel
theorem dJ9_abs_0f7a4_9 : decode cJ9_abs_0f7a4 9 = .ok (.iload_n 0, 1) := by decide +kernel
theorem dJ9_abs_0f7a4_10 : decode cJ9_abs_0f7a4 10 = .ok (.ireturn, 1) := by decide +kernel
theorem dJ9_max_7cf53_0 : decode cJ9_max_7cf53 0 = .ok (.iload_n 0, 1) := by decide +kernel
theorem dJ9_max_7cf53_1 : decode cJ9_max_7cf53 1 = .ok (.iload_n 1, 1) := by decide +kernel
theorem dJ9_max_7cf53_2 : decode cJ9_max_7cf53 2 = .ok (.if_icmp .lt 7, 3) := by decide +kernel
theorem dJ9_max_7cf53_5 : decode cJ9_max_7cf53 5 = .ok (.iload_n 0, 1) := by decide +kernel
theorem dJ9_max_7cf53_6 : decode cJ9_max_7cf53 6 = .ok (.goto 4, 3) := by decide +kernel
theorem dJ9_max_7cf53_9 : decode cJ9_max_7cf53 9 = .ok (.iload_n 1, 1) := by decide +kernel
theorem dJ9_max_7cf53_10 : decode cJ9_max_7cf53 10 = .ok (.ireturn, 1) := by decide +kernel
theorem dJ9_min_7cf53_0 : decode cJ9_min_7cf53 0 = .ok (.iload_n 0, 1) := by decide +kernel
theorem dJ9_min_7cf53_1 : decode cJ9_min_7cf53 1 = .ok (.iload_n 1, 1) := by decide +kernel
theorem dJ9_min_7cf53_2 : decode cJ9_min_7cf53 2 = .ok (.if_icmp .gt 7, 3) := by decide +kernel
theorem dJ9_min_7cf53_5 : decode cJ9_min_7cf53 5 = .ok (.iload_n 0, 1) := by decide +kernel
theorem dJ9_min_7cf53_6 : decode cJ9_min_7cf53 6 = .ok (.goto 4, 3) := by decide +kernel
theorem dJ9_min_7cf53_9 : decode cJ9_min_7cf53 9 = .ok (.iload_n 1, 1) := by decide +kernel
theorem dJ9_min_7cf53_10 : decode cJ9_min_7cf53 10 = .ok (.ireturn, 1) := by decide +kernel
theorem dJ7_fill_53178_0 : decode cJ7_fill_53178 0 = .ok (.iconst 0, 1) := by decide +kernel
theorem dJ7_fill_53178_1 : decode cJ7_fill_53178 1 = .ok (.istore_n 2, 1) := by decide +kernel
theorem dJ7_fill_53178_2 : decode cJ7_fill_53178 2 = .ok (.aload_n 0, 1) := by decide +kernel
theorem dJ7_fill_53178_3 : decode cJ7_fill_53178 3 = .ok (.arraylength, 1) := by decide +kernel
theorem dJ7_fill_53178_4 : decode cJ7_fill_53178 4 = .ok (.istore_n 3, 1) := by decide +kernel
theorem dJ7_fill_53178_5 : decode cJ7_fill_53178 5 = .ok (.iload_n 2, 1) := by decide +kernel
theorem dJ7_fill_53178_6 : decode cJ7_fill_53178 6 = .ok (.iload_n 3, 1) := by decide +kernel
theorem dJ7_fill_53178_7 : decode cJ7_fill_53178 7 = .ok (.if_icmp .ge 13, 3) := by decide +kernel
theorem dJ7_fill_53178_10 : decode cJ7_fill_53178 10 = .ok (.aload_n 0, 1) := by decide +kernel
theorem dJ7_fill_53178_11 : decode cJ7_fill_53178 11 = .ok (.iload_n 2, 1) := by decide +kernel
theorem dJ7_fill_53178_12 : decode cJ7_fill_53178 12 = .ok (.iload_n 1, 1) := by decide +kernel
theorem dJ7_fill_53178_13 : decode cJ7_fill_53178 13 = .ok (.iastore, 1) := by decide +kernel
theorem dJ7_fill_53178_14 : decode cJ7_fill_53178 14 = .ok (.iinc 2 1, 3) := by decide +kernel
theorem dJ7_fill_53178_17 : decode cJ7_fill_53178 17 = .ok (.goto (-12), 3) := by decide +kernel
theorem dJ7_fill_53178_20 : decode cJ7_fill_53178 20 = .ok (.return_, 1) := by decide +kernel
theorem dL_law_0 : decode cL_law 0 = .ok (.new 7, 3) := by decide +kernel
theorem dL_law_3 : decode cL_law 3 = .ok (.dup, 1) := by decide +kernel
theorem dL_law_4 : decode cL_law 4 = .ok (.invokespecial 9, 3) := by decide +kernel
theorem dL_law_7 : decode cL_law 7 = .ok (.astore_n 1, 1) := by decide +kernel
theorem dL_law_8 : decode cL_law 8 = .ok (.new 10, 3) := by decide +kernel
theorem dL_law_11 : decode cL_law 11 = .ok (.dup, 1) := by decide +kernel
theorem dL_law_12 : decode cL_law 12 = .ok (.invokespecial 12, 3) := by decide +kernel
theorem dL_law_15 : decode cL_law 15 = .ok (.astore_n 2, 1) := by decide +kernel
theorem dL_law_16 : decode cL_law 16 = .ok (.iconst 0, 1) := by decide +kernel
theorem dL_law_17 : decode cL_law 17 = .ok (.istore_n 3, 1) := by decide +kernel
theorem dL_law_18 : decode cL_law 18 = .ok (.iload_n 3, 1) := by decide +kernel
theorem dL_law_19 : decode cL_law 19 = .ok (.aload_n 0, 1) := by decide +kernel
theorem dL_law_20 : decode cL_law 20 = .ok (.arraylength, 1) := by decide +kernel
theorem dL_law_21 : decode cL_law 21 = .ok (.iconst 4, 1) := by decide +kernel
theorem dL_law_22 : decode cL_law 22 = .ok (.isub, 1) := by decide +kernel
theorem dL_law_23 : decode cL_law 23 = .ok (.if_icmp .gt 765, 3) := by decide +kernel
theorem dL_law_26 : decode cL_law 26 = .ok (.aload_n 0, 1) := by decide +kernel
theorem dL_law_27 : decode cL_law 27 = .ok (.iload_n 3, 1) := by decide +kernel
theorem dL_law_28 : decode cL_law 28 = .ok (.iaload, 1) := by decide +kernel
theorem dL_law_29 : decode cL_law 29 = .ok (.bipush 31, 2) := by decide +kernel
theorem dL_law_31 : decode cL_law 31 = .ok (.iand, 1) := by decide +kernel
theorem dL_law_32 : decode cL_law 32 = .ok (.tableswitch 750 0 23 #[112, 135, 148, 161, 184, 217, 260, 293, 316, 329, 372, 415, 464, 487, 510, 543, 566, 589, 612, 635, 668, 681, 704, 727], 112) := by decide +kernel
theorem dL_law_144 : decode cL_law 144 = .ok (.aload_n 1, 1) := by decide +kernel
theorem dL_law_145 : decode cL_law 145 = .ok (.aload_n 0, 1) := by decide +kernel
theorem dL_law_146 : decode cL_law 146 = .ok (.iload_n 3, 1) := by decide +kernel
theorem dL_law_147 : decode cL_law 147 = .ok (.iconst 1, 1) := by decide +kernel
theorem dL_law_148 : decode cL_law 148 = .ok (.iadd, 1) := by decide +kernel
theorem dL_law_149 : decode cL_law 149 = .ok (.iaload, 1) := by decide +kernel
theorem dL_law_150 : decode cL_law 150 = .ok (.invokevirtual 13, 3) := by decide +kernel
theorem dL_law_153 : decode cL_law 153 = .ok (.aload_n 2, 1) := by decide +kernel
theorem dL_law_154 : decode cL_law 154 = .ok (.aload_n 0, 1) := by decide +kernel
theorem dL_law_155 : decode cL_law 155 = .ok (.iload_n 3, 1) := by decide +kernel
theorem dL_law_156 : decode cL_law 156 = .ok (.iconst 1, 1) := by decide +kernel
theorem dL_law_157 : decode cL_law 157 = .ok (.iadd, 1) := by decide +kernel
theorem dL_law_158 : decode cL_law 158 = .ok (.iaload, 1) := by decide +kernel
theorem dL_law_159 : decode cL_law 159 = .ok (.invokevirtual 17, 3) := by decide +kernel
theorem dL_law_162 : decode cL_law 162 = .ok (.if_icmp .eq 620, 3) := by decide +kernel
theorem dL_law_165 : decode cL_law 165 = .ok (.iconst 0, 1) := by decide +kernel
theorem dL_law_166 : decode cL_law 166 = .ok (.ireturn, 1) := by decide +kernel
theorem dL_law_167 : decode cL_law 167 = .ok (.aload_n 1, 1) := by decide +kernel
theorem dL_law_168 : decode cL_law 168 = .ok (.invokevirtual 18, 3) := by decide +kernel
theorem dL_law_171 : decode cL_law 171 = .ok (.aload_n 2, 1) := by decide +kernel
theorem dL_law_172 : decode cL_law 172 = .ok (.invokevirtual 22, 3) := by decide +kernel
theorem dL_law_175 : decode cL_law 175 = .ok (.if_icmp .eq 607, 3) := by decide +kernel
theorem dL_law_178 : decode cL_law 178 = .ok (.iconst 0, 1) := by decide +kernel
theorem dL_law_179 : decode cL_law 179 = .ok (.ireturn, 1) := by decide +kernel
theorem dL_law_180 : decode cL_law 180 = .ok (.aload_n 1, 1) := by decide +kernel
theorem dL_law_181 : decode cL_law 181 = .ok (.invokevirtual 23, 3) := by decide +kernel
theorem dL_law_184 : decode cL_law 184 = .ok (.aload_n 2, 1) := by decide +kernel
theorem dL_law_185 : decode cL_law 185 = .ok (.invokevirtual 26, 3) := by decide +kernel
theorem dL_law_188 : decode cL_law 188 = .ok (.if_icmp .eq 594, 3) := by decide +kernel
theorem dL_law_191 : decode cL_law 191 = .ok (.iconst 0, 1) := by decide +kernel
theorem dL_law_192 : decode cL_law 192 = .ok (.ireturn, 1) := by decide +kernel
theorem dL_law_193 : decode cL_law 193 = .ok (.aload_n 1, 1) := by decide +kernel
theorem dL_law_194 : decode cL_law 194 = .ok (.aload_n 0, 1) := by decide +kernel
theorem dL_law_195 : decode cL_law 195 = .ok (.iload_n 3, 1) := by decide +kernel
theorem dL_law_196 : decode cL_law 196 = .ok (.iconst 1, 1) := by decide +kernel
theorem dL_law_197 : decode cL_law 197 = .ok (.iadd, 1) := by decide +kernel
theorem dL_law_198 : decode cL_law 198 = .ok (.iaload, 1) := by decide +kernel
theorem dL_law_199 : decode cL_law 199 = .ok (.invokevirtual 27, 3) := by decide +kernel
theorem dL_law_202 : decode cL_law 202 = .ok (.aload_n 2, 1) := by decide +kernel
theorem dL_law_203 : decode cL_law 203 = .ok (.aload_n 0, 1) := by decide +kernel
theorem dL_law_204 : decode cL_law 204 = .ok (.iload_n 3, 1) := by decide +kernel
theorem dL_law_205 : decode cL_law 205 = .ok (.iconst 1, 1) := by decide +kernel
theorem dL_law_206 : decode cL_law 206 = .ok (.iadd, 1) := by decide +kernel
theorem dL_law_207 : decode cL_law 207 = .ok (.iaload, 1) := by decide +kernel
theorem dL_law_208 : decode cL_law 208 = .ok (.invokevirtual 30, 3) := by decide +kernel
theorem dL_law_211 : decode cL_law 211 = .ok (.if_icmp .eq 571, 3) := by decide +kernel
theorem dL_law_214 : decode cL_law 214 = .ok (.iconst 0, 1) := by decide +kernel
theorem dL_law_215 : decode cL_law 215 = .ok (.ireturn, 1) := by decide +kernel
theorem dL_law_216 : decode cL_law 216 = .ok (.aload_n 1, 1) := by decide +kernel
theorem dL_law_217 : decode cL_law 217 = .ok (.aload_n 0, 1) := by decide +kernel
theorem dL_law_218 : decode cL_law 218 = .ok (.iload_n 3, 1) := by decide +kernel
theorem dL_law_219 : decode cL_law 219 = .ok (.iconst 1, 1) := by decide +kernel
theorem dL_law_220 : decode cL_law 220 = .ok (.iadd, 1) := by decide +kernel
theorem dL_law_221 : decode cL_law 221 = .ok (.iaload, 1) := by decide +kernel
theorem dL_law_222 : decode cL_law 222 = .ok (.aload_n 0, 1) := by decide +kernel
theorem dL_law_223 : decode cL_law 223 = .ok (.iload_n 3, 1) := by decide +kernel
theorem dL_law_224 : decode cL_law 224 = .ok (.iconst 2, 1) := by decide +kernel
theorem dL_law_225 : decode cL_law 225 = .ok (.iadd, 1) := by decide +kernel
theorem dL_law_226 : decode cL_law 226 = .ok (.iaload, 1) := by decide +kernel
theorem dL_law_227 : decode cL_law 227 = .ok (.invokevirtual 31, 3) := by decide +kernel
theorem dL_law_230 : decode cL_law 230 = .ok (.aload_n 2, 1) := by decide +kernel
theorem dL_law_231 : decode cL_law 231 = .ok (.aload_n 0, 1) := by decide +kernel
theorem dL_law_232 : decode cL_law 232 = .ok (.iload_n 3, 1) := by decide +kernel
theorem dL_law_233 : decode cL_law 233 = .ok (.iconst 1, 1) := by decide +kernel
theorem dL_law_234 : decode cL_law 234 = .ok (.iadd, 1) := by decide +kernel
theorem dL_law_235 : decode cL_law 235 = .ok (.iaload, 1) := by decide +kernel
theorem dL_law_236 : decode cL_law 236 = .ok (.aload_n 0, 1) := by decide +kernel
theorem dL_law_237 : decode cL_law 237 = .ok (.iload_n 3, 1) := by decide +kernel
theorem dL_law_238 : decode cL_law 238 = .ok (.iconst 2, 1) := by decide +kernel
theorem dL_law_239 : decode cL_law 239 = .ok (.iadd, 1) := by decide +kernel
theorem dL_law_240 : decode cL_law 240 = .ok (.iaload, 1) := by decide +kernel
theorem dL_law_241 : decode cL_law 241 = .ok (.invokevirtual 35, 3) := by decide +kernel
theorem dL_law_244 : decode cL_law 244 = .ok (.if_icmp .eq 538, 3) := by decide +kernel
theorem dL_law_247 : decode cL_law 247 = .ok (.iconst 0, 1) := by decide +kernel
theorem dL_law_248 : decode cL_law 248 = .ok (.ireturn, 1) := by decide +kernel
theorem dL_law_249 : decode cL_law 249 = .ok (.aload_n 1, 1) := by decide +kernel
theorem dL_law_250 : decode cL_law 250 = .ok (.aload_n 0, 1) := by decide +kernel
theorem dL_law_251 : decode cL_law 251 = .ok (.iload_n 3, 1) := by decide +kernel
theorem dL_law_252 : decode cL_law 252 = .ok (.iconst 1, 1) := by decide +kernel
theorem dL_law_253 : decode cL_law 253 = .ok (.iadd, 1) := by decide +kernel
theorem dL_law_254 : decode cL_law 254 = .ok (.iaload, 1) := by decide +kernel
theorem dL_law_255 : decode cL_law 255 = .ok (.aload_n 0, 1) := by decide +kernel
theorem dL_law_256 : decode cL_law 256 = .ok (.iload_n 3, 1) := by decide +kernel
theorem dL_law_257 : decode cL_law 257 = .ok (.iconst 2, 1) := by decide +kernel
theorem dL_law_258 : decode cL_law 258 = .ok (.iadd, 1) := by decide +kernel
theorem dL_law_259 : decode cL_law 259 = .ok (.iaload, 1) := by decide +kernel
theorem dL_law_260 : decode cL_law 260 = .ok (.aload_n 0, 1) := by decide +kernel
theorem dL_law_261 : decode cL_law 261 = .ok (.iload_n 3, 1) := by decide +kernel
theorem dL_law_262 : decode cL_law 262 = .ok (.iconst 3, 1) := by decide +kernel
theorem dL_law_263 : decode cL_law 263 = .ok (.iadd, 1) := by decide +kernel
theorem dL_law_264 : decode cL_law 264 = .ok (.iaload, 1) := by decide +kernel
theorem dL_law_265 : decode cL_law 265 = .ok (.invokevirtual 36, 3) := by decide +kernel
theorem dL_law_268 : decode cL_law 268 = .ok (.aload_n 2, 1) := by decide +kernel
theorem dL_law_269 : decode cL_law 269 = .ok (.aload_n 0, 1) := by decide +kernel
theorem dL_law_270 : decode cL_law 270 = .ok (.iload_n 3, 1) := by decide +kernel
theorem dL_law_271 : decode cL_law 271 = .ok (.iconst 1, 1) := by decide +kernel
theorem dL_law_272 : decode cL_law 272 = .ok (.iadd, 1) := by decide +kernel
theorem dL_law_273 : decode cL_law 273 = .ok (.iaload, 1) := by decide +kernel
theorem dL_law_274 : decode cL_law 274 = .ok (.aload_n 0, 1) := by decide +kernel
theorem dL_law_275 : decode cL_law 275 = .ok (.iload_n 3, 1) := by decide +kernel
theorem dL_law_276 : decode cL_law 276 = .ok (.iconst 2, 1) := by decide +kernel
theorem dL_law_277 : decode cL_law 277 = .ok (.iadd, 1) := by decide +kernel
theorem dL_law_278 : decode cL_law 278 = .ok (.iaload, 1) := by decide +kernel
theorem dL_law_279 : decode cL_law 279 = .ok (.aload_n 0, 1) := by decide +kernel
theorem dL_law_280 : decode cL_law 280 = .ok (.iload_n 3, 1) := by decide +kernel
theorem dL_law_281 : decode cL_law 281 = .ok (.iconst 3, 1) := by decide +kernel
theorem dL_law_282 : decode cL_law 282 = .ok (.iadd, 1) := by decide +kernel
theorem dL_law_283 : decode cL_law 283 = .ok (.iaload, 1) := by decide +kernel
theorem dL_law_284 : decode cL_law 284 = .ok (.invokevirtual 40, 3) := by decide +kernel
theorem dL_law_287 : decode cL_law 287 = .ok (.if_icmp .eq 495, 3) := by decide +kernel
theorem dL_law_290 : decode cL_law 290 = .ok (.iconst 0, 1) := by decide +kernel
theorem dL_law_291 : decode cL_law 291 = .ok (.ireturn, 1) := by decide +kernel
theorem dL_law_292 : decode cL_law 292 = .ok (.aload_n 1, 1) := by decide +kernel
theorem dL_law_293 : decode cL_law 293 = .ok (.aload_n 0, 1) := by decide +kernel
theorem dL_law_294 : decode cL_law 294 = .ok (.iload_n 3, 1) := by decide +kernel
theorem dL_law_295 : decode cL_law 295 = .ok (.iconst 1, 1) := by decide +kernel
theorem dL_law_296 : decode cL_law 296 = .ok (.iadd, 1) := by decide +kernel
theorem dL_law_297 : decode cL_law 297 = .ok (.iaload, 1) := by decide +kernel
theorem dL_law_298 : decode cL_law 298 = .ok (.aload_n 0, 1) := by decide +kernel
theorem dL_law_299 : decode cL_law 299 = .ok (.iload_n 3, 1) := by decide +kernel
theorem dL_law_300 : decode cL_law 300 = .ok (.iconst 2, 1) := by decide +kernel
theorem dL_law_301 : decode cL_law 301 = .ok (.iadd, 1) := by decide +kernel
theorem dL_law_302 : decode cL_law 302 = .ok (.iaload, 1) := by decide +kernel
theorem dL_law_303 : decode cL_law 303 = .ok (.invokevirtual 41, 3) := by decide +kernel
theorem dL_law_306 : decode cL_law 306 = .ok (.aload_n 2, 1) := by decide +kernel
theorem dL_law_307 : decode cL_law 307 = .ok (.aload_n 0, 1) := by decide +kernel
theorem dL_law_308 : decode cL_law 308 = .ok (.iload_n 3, 1) := by decide +kernel
theorem dL_law_309 : decode cL_law 309 = .ok (.iconst 1, 1) := by decide +kernel
theorem dL_law_310 : decode cL_law 310 = .ok (.iadd, 1) := by decide +kernel
theorem dL_law_311 : decode cL_law 311 = .ok (.iaload, 1) := by decide +kernel
theorem dL_law_312 : decode cL_law 312 = .ok (.aload_n 0, 1) := by decide +kernel
theorem dL_law_313 : decode cL_law 313 = .ok (.iload_n 3, 1) := by decide +kernel
theorem dL_law_314 : decode cL_law 314 = .ok (.iconst 2, 1) := by decide +kernel
theorem dL_law_315 : decode cL_law 315 = .ok (.iadd, 1) := by decide +kernel
theorem dL_law_316 : decode cL_law 316 = .ok (.iaload, 1) := by decide +kernel
theorem dL_law_317 : decode cL_law 317 = .ok (.invokevirtual 44, 3) := by decide +kernel
theorem dL_law_320 : decode cL_law 320 = .ok (.if_icmp .eq 462, 3) := by decide +kernel
theorem dL_law_323 : decode cL_law 323 = .ok (.iconst 0, 1) := by decide +kernel
theorem dL_law_324 : decode cL_law 324 = .ok (.ireturn, 1) := by decide +kernel
theorem dL_law_325 : decode cL_law 325 = .ok (.aload_n 1, 1) := by decide +kernel
theorem dL_law_326 : decode cL_law 326 = .ok (.aload_n 0, 1) := by decide +kernel
theorem dL_law_327 : decode cL_law 327 = .ok (.iload_n 3, 1) := by decide +kernel
theorem dL_law_328 : decode cL_law 328 = .ok (.iconst 1, 1) := by decide +kernel
theorem dL_law_329 : decode cL_law 329 = .ok (.iadd, 1) := by decide +kernel
theorem dL_law_330 : decode cL_law 330 = .ok (.iaload, 1) := by decide +kernel
theorem dL_law_331 : decode cL_law 331 = .ok (.invokevirtual 45, 3) := by decide +kernel
theorem dL_law_334 : decode cL_law 334 = .ok (.aload_n 2, 1) := by decide +kernel
theorem dL_law_335 : decode cL_law 335 = .ok (.aload_n 0, 1) := by decide +kernel
theorem dL_law_336 : decode cL_law 336 = .ok (.iload_n 3, 1) := by decide +kernel
theorem dL_law_337 : decode cL_law 337 = .ok (.iconst 1, 1) := by decide +kernel
theorem dL_law_338 : decode cL_law 338 = .ok (.iadd, 1) := by decide +kernel
theorem dL_law_339 : decode cL_law 339 = .ok (.iaload, 1) := by decide +kernel
theorem dL_law_340 : decode cL_law 340 = .ok (.invokevirtual 48, 3) := by decide +kernel
theorem dL_law_343 : decode cL_law 343 = .ok (.if_icmp .eq 439, 3) := by decide +kernel
theorem dL_law_346 : decode cL_law 346 = .ok (.iconst 0, 1) := by decide +kernel
theorem dL_law_347 : decode cL_law 347 = .ok (.ireturn, 1) := by decide +kernel
theorem dL_law_348 : decode cL_law 348 = .ok (.aload_n 1, 1) := by decide +kernel
theorem dL_law_349 : decode cL_law 349 = .ok (.invokevirtual 49, 3) := by decide +kernel
theorem dL_law_352 : decode cL_law 352 = .ok (.aload_n 2, 1) := by decide +kernel
theorem dL_law_353 : decode cL_law 353 = .ok (.invokevirtual 52, 3) := by decide +kernel
theorem dL_law_356 : decode cL_law 356 = .ok (.if_icmp .eq 426, 3) := by decide +kernel
theorem dL_law_359 : decode cL_law 359 = .ok (.iconst 0, 1) := by decide +kernel
theorem dL_law_360 : decode cL_law 360 = .ok (.ireturn, 1) := by decide +kernel
theorem dL_law_361 : decode cL_law 361 = .ok (.aload_n 1, 1) := by decide +kernel
theorem dL_law_362 : decode cL_law 362 = .ok (.aload_n 0, 1) := by decide +kernel
theorem dL_law_363 : decode cL_law 363 = .ok (.iload_n 3, 1) := by decide +kernel
theorem dL_law_364 : decode cL_law 364 = .ok (.iconst 1, 1) := by decide +kernel
theorem dL_law_365 : decode cL_law 365 = .ok (.iadd, 1) := by decide +kernel
theorem dL_law_366 : decode cL_law 366 = .ok (.iaload, 1) := by decide +kernel
theorem dL_law_367 : decode cL_law 367 = .ok (.aload_n 0, 1) := by decide +kernel
theorem dL_law_368 : decode cL_law 368 = .ok (.iload_n 3, 1) := by decide +kernel
theorem dL_law_369 : decode cL_law 369 = .ok (.iconst 2, 1) := by decide +kernel
theorem dL_law_370 : decode cL_law 370 = .ok (.iadd, 1) := by decide +kernel
theorem dL_law_371 : decode cL_law 371 = .ok (.iaload, 1) := by decide +kernel
theorem dL_law_372 : decode cL_law 372 = .ok (.aload_n 0, 1) := by decide +kernel
theorem dL_law_373 : decode cL_law 373 = .ok (.iload_n 3, 1) := by decide +kernel
theorem dL_law_374 : decode cL_law 374 = .ok (.iconst 3, 1) := by decide +kernel
theorem dL_law_375 : decode cL_law 375 = .ok (.iadd, 1) := by decide +kernel
theorem dL_law_376 : decode cL_law 376 = .ok (.iaload, 1) := by decide +kernel
theorem dL_law_377 : decode cL_law 377 = .ok (.invokevirtual 53, 3) := by decide +kernel
theorem dL_law_380 : decode cL_law 380 = .ok (.aload_n 2, 1) := by decide +kernel
theorem dL_law_381 : decode cL_law 381 = .ok (.aload_n 0, 1) := by decide +kernel
theorem dL_law_382 : decode cL_law 382 = .ok (.iload_n 3, 1) := by decide +kernel
theorem dL_law_383 : decode cL_law 383 = .ok (.iconst 1, 1) := by decide +kernel
theorem dL_law_384 : decode cL_law 384 = .ok (.iadd, 1) := by decide +kernel
theorem dL_law_385 : decode cL_law 385 = .ok (.iaload, 1) := by decide +kernel
theorem dL_law_386 : decode cL_law 386 = .ok (.aload_n 0, 1) := by decide +kernel
theorem dL_law_387 : decode cL_law 387 = .ok (.iload_n 3, 1) := by decide +kernel
theorem dL_law_388 : decode cL_law 388 = .ok (.iconst 2, 1) := by decide +kernel
theorem dL_law_389 : decode cL_law 389 = .ok (.iadd, 1) := by decide +kernel
theorem dL_law_390 : decode cL_law 390 = .ok (.iaload, 1) := by decide +kernel
theorem dL_law_391 : decode cL_law 391 = .ok (.aload_n 0, 1) := by decide +kernel
theorem dL_law_392 : decode cL_law 392 = .ok (.iload_n 3, 1) := by decide +kernel
theorem dL_law_393 : decode cL_law 393 = .ok (.iconst 3, 1) := by decide +kernel
theorem dL_law_394 : decode cL_law 394 = .ok (.iadd, 1) := by decide +kernel
theorem dL_law_395 : decode cL_law 395 = .ok (.iaload, 1) := by decide +kernel
theorem dL_law_396 : decode cL_law 396 = .ok (.invokevirtual 56, 3) := by decide +kernel
theorem dL_law_399 : decode cL_law 399 = .ok (.if_icmp .eq 383, 3) := by decide +kernel
theorem dL_law_402 : decode cL_law 402 = .ok (.iconst 0, 1) := by decide +kernel
theorem dL_law_403 : decode cL_law 403 = .ok (.ireturn, 1) := by decide +kernel
theorem dL_law_404 : decode cL_law 404 = .ok (.aload_n 1, 1) := by decide +kernel
theorem dL_law_405 : decode cL_law 405 = .ok (.aload_n 0, 1) := by decide +kernel
theorem dL_law_406 : decode cL_law 406 = .ok (.iload_n 3, 1) := by decide +kernel
theorem dL_law_407 : decode cL_law 407 = .ok (.iconst 1, 1) := by decide +kernel
theorem dL_law_408 : decode cL_law 408 = .ok (.iadd, 1) := by decide +kernel
theorem dL_law_409 : decode cL_law 409 = .ok (.iaload, 1) := by decide +kernel
theorem dL_law_410 : decode cL_law 410 = .ok (.aload_n 0, 1) := by decide +kernel
theorem dL_law_411 : decode cL_law 411 = .ok (.iload_n 3, 1) := by decide +kernel
theorem dL_law_412 : decode cL_law 412 = .ok (.iconst 2, 1) := by decide +kernel
theorem dL_law_413 : decode cL_law 413 = .ok (.iadd, 1) := by decide +kernel
theorem dL_law_414 : decode cL_law 414 = .ok (.iaload, 1) := by decide +kernel
theorem dL_law_415 : decode cL_law 415 = .ok (.aload_n 0, 1) := by decide +kernel
theorem dL_law_416 : decode cL_law 416 = .ok (.iload_n 3, 1) := by decide +kernel
theorem dL_law_417 : decode cL_law 417 = .ok (.iconst 3, 1) := by decide +kernel
theorem dL_law_418 : decode cL_law 418 = .ok (.iadd, 1) := by decide +kernel
theorem dL_law_419 : decode cL_law 419 = .ok (.iaload, 1) := by decide +kernel
theorem dL_law_420 : decode cL_law 420 = .ok (.invokevirtual 57, 3) := by decide +kernel
theorem dL_law_423 : decode cL_law 423 = .ok (.aload_n 2, 1) := by decide +kernel
theorem dL_law_424 : decode cL_law 424 = .ok (.aload_n 0, 1) := by decide +kernel
theorem dL_law_425 : decode cL_law 425 = .ok (.iload_n 3, 1) := by decide +kernel
theorem dL_law_426 : decode cL_law 426 = .ok (.iconst 1, 1) := by decide +kernel
theorem dL_law_427 : decode cL_law 427 = .ok (.iadd, 1) := by decide +kernel
theorem dL_law_428 : decode cL_law 428 = .ok (.iaload, 1) := by decide +kernel
theorem dL_law_429 : decode cL_law 429 = .ok (.aload_n 0, 1) := by decide +kernel
theorem dL_law_430 : decode cL_law 430 = .ok (.iload_n 3, 1) := by decide +kernel
theorem dL_law_431 : decode cL_law 431 = .ok (.iconst 2, 1) := by decide +kernel
theorem dL_law_432 : decode cL_law 432 = .ok (.iadd, 1) := by decide +kernel
theorem dL_law_433 : decode cL_law 433 = .ok (.iaload, 1) := by decide +kernel
theorem dL_law_434 : decode cL_law 434 = .ok (.aload_n 0, 1) := by decide +kernel
theorem dL_law_435 : decode cL_law 435 = .ok (.iload_n 3, 1) := by decide +kernel
theorem dL_law_436 : decode cL_law 436 = .ok (.iconst 3, 1) := by decide +kernel
theorem dL_law_437 : decode cL_law 437 = .ok (.iadd, 1) := by decide +kernel
theorem dL_law_438 : decode cL_law 438 = .ok (.iaload, 1) := by decide +kernel
theorem dL_law_439 : decode cL_law 439 = .ok (.invokevirtual 60, 3) := by decide +kernel
theorem dL_law_442 : decode cL_law 442 = .ok (.if_icmp .eq 340, 3) := by decide +kernel
theorem dL_law_445 : decode cL_law 445 = .ok (.iconst 0, 1) := by decide +kernel
theorem dL_law_446 : decode cL_law 446 = .ok (.ireturn, 1) := by decide +kernel
theorem dL_law_447 : decode cL_law 447 = .ok (.aload_n 1, 1) := by decide +kernel
theorem dL_law_448 : decode cL_law 448 = .ok (.aload_n 0, 1) := by decide +kernel
theorem dL_law_449 : decode cL_law 449 = .ok (.iload_n 3, 1) := by decide +kernel
theorem dL_law_450 : decode cL_law 450 = .ok (.iconst 1, 1) := by decide +kernel
theorem dL_law_451 : decode cL_law 451 = .ok (.iadd, 1) := by decide +kernel
theorem dL_law_452 : decode cL_law 452 = .ok (.iaload, 1) := by decide +kernel
theorem dL_law_453 : decode cL_law 453 = .ok (.aload_n 0, 1) := by decide +kernel
theorem dL_law_454 : decode cL_law 454 = .ok (.iload_n 3, 1) := by decide +kernel
theorem dL_law_455 : decode cL_law 455 = .ok (.iconst 2, 1) := by decide +kernel
theorem dL_law_456 : decode cL_law 456 = .ok (.iadd, 1) := by decide +kernel
theorem dL_law_457 : decode cL_law 457 = .ok (.iaload, 1) := by decide +kernel
theorem dL_law_458 : decode cL_law 458 = .ok (.ifCond .eq 7, 3) := by decide +kernel
theorem dL_law_461 : decode cL_law 461 = .ok (.iconst 1, 1) := by decide +kernel
theorem dL_law_462 : decode cL_law 462 = .ok (.goto 4, 3) := by decide +kernel
theorem dL_law_465 : decode cL_law 465 = .ok (.iconst 0, 1) := by decide +kernel
theorem dL_law_466 : decode cL_law 466 = .ok (.invokevirtual 61, 3) := by decide +kernel
theorem dL_law_469 : decode cL_law 469 = .ok (.aload_n 2, 1) := by decide +kernel
theorem dL_law_470 : decode cL_law 470 = .ok (.aload_n 0, 1) := by decide +kernel
theorem dL_law_471 : decode cL_law 471 = .ok (.iload_n 3, 1) := by decide +kernel
theorem dL_law_472 : decode cL_law 472 = .ok (.iconst 1, 1) := by decide +kernel
theorem dL_law_473 : decode cL_law 473 = .ok (.iadd, 1) := by decide +kernel
theorem dL_law_474 : decode cL_law 474 = .ok (.iaload, 1) := by decide +kernel
theorem dL_law_475 : decode cL_law 475 = .ok (.aload_n 0, 1) := by decide +kernel
theorem dL_law_476 : decode cL_law 476 = .ok (.iload_n 3, 1) := by decide +kernel
theorem dL_law_477 : decode cL_law 477 = .ok (.iconst 2, 1) := by decide +kernel
theorem dL_law_478 : decode cL_law 478 = .ok (.iadd, 1) := by decide +kernel
theorem dL_law_479 : decode cL_law 479 = .ok (.iaload, 1) := by decide +kernel
theorem dL_law_480 : decode cL_law 480 = .ok (.ifCond .eq 7, 3) := by decide +kernel
theorem dL_law_483 : decode cL_law 483 = .ok (.iconst 1, 1) := by decide +kernel
theorem dL_law_484 : decode cL_law 484 = .ok (.goto 4, 3) := by decide +kernel
theorem dL_law_487 : decode cL_law 487 = .ok (.iconst 0, 1) := by decide +kernel
theorem dL_law_488 : decode cL_law 488 = .ok (.invokevirtual 65, 3) := by decide +kernel
theorem dL_law_491 : decode cL_law 491 = .ok (.if_icmp .eq 291, 3) := by decide +kernel
theorem dL_law_494 : decode cL_law 494 = .ok (.iconst 0, 1) := by decide +kernel
theorem dL_law_495 : decode cL_law 495 = .ok (.ireturn, 1) := by decide +kernel
theorem dL_law_496 : decode cL_law 496 = .ok (.aload_n 1, 1) := by decide +kernel
theorem dL_law_497 : decode cL_law 497 = .ok (.aload_n 0, 1) := by decide +kernel
theorem dL_law_498 : decode cL_law 498 = .ok (.iload_n 3, 1) := by decide +kernel
theorem dL_law_499 : decode cL_law 499 = .ok (.iconst 1, 1) := by decide +kernel
theorem dL_law_500 : decode cL_law 500 = .ok (.iadd, 1) := by decide +kernel
theorem dL_law_501 : decode cL_law 501 = .ok (.iaload, 1) := by decide +kernel
theorem dL_law_502 : decode cL_law 502 = .ok (.invokevirtual 66, 3) := by decide +kernel
theorem dL_law_505 : decode cL_law 505 = .ok (.aload_n 2, 1) := by decide +kernel
theorem dL_law_506 : decode cL_law 506 = .ok (.aload_n 0, 1) := by decide +kernel
theorem dL_law_507 : decode cL_law 507 = .ok (.iload_n 3, 1) := by decide +kernel
theorem dL_law_508 : decode cL_law 508 = .ok (.iconst 1, 1) := by decide +kernel
theorem dL_law_509 : decode cL_law 509 = .ok (.iadd, 1) := by decide +kernel
theorem dL_law_510 : decode cL_law 510 = .ok (.iaload, 1) := by decide +kernel
theorem dL_law_511 : decode cL_law 511 = .ok (.invokevirtual 69, 3) := by decide +kernel
theorem dL_law_514 : decode cL_law 514 = .ok (.if_icmp .eq 268, 3) := by decide +kernel
theorem dL_law_517 : decode cL_law 517 = .ok (.iconst 0, 1) := by decide +kernel
theorem dL_law_518 : decode cL_law 518 = .ok (.ireturn, 1) := by decide +kernel
theorem dL_law_519 : decode cL_law 519 = .ok (.aload_n 1, 1) := by decide +kernel
theorem dL_law_520 : decode cL_law 520 = .ok (.aload_n 0, 1) := by decide +kernel
theorem dL_law_521 : decode cL_law 521 = .ok (.iload_n 3, 1) := by decide +kernel
theorem dL_law_522 : decode cL_law 522 = .ok (.iconst 1, 1) := by decide +kernel
theorem dL_law_523 : decode cL_law 523 = .ok (.iadd, 1) := by decide +kernel
theorem dL_law_524 : decode cL_law 524 = .ok (.iaload, 1) := by decide +kernel
theorem dL_law_525 : decode cL_law 525 = .ok (.invokevirtual 70, 3) := by decide +kernel
theorem dL_law_528 : decode cL_law 528 = .ok (.aload_n 2, 1) := by decide +kernel
theorem dL_law_529 : decode cL_law 529 = .ok (.aload_n 0, 1) := by decide +kernel
theorem dL_law_530 : decode cL_law 530 = .ok (.iload_n 3, 1) := by decide +kernel
theorem dL_law_531 : decode cL_law 531 = .ok (.iconst 1, 1) := by decide +kernel
theorem dL_law_532 : decode cL_law 532 = .ok (.iadd, 1) := by decide +kernel
theorem dL_law_533 : decode cL_law 533 = .ok (.iaload, 1) := by decide +kernel
theorem dL_law_534 : decode cL_law 534 = .ok (.invokevirtual 73, 3) := by decide +kernel
theorem dL_law_537 : decode cL_law 537 = .ok (.if_icmp .eq 245, 3) := by decide +kernel
theorem dL_law_540 : decode cL_law 540 = .ok (.iconst 0, 1) := by decide +kernel
theorem dL_law_541 : decode cL_law 541 = .ok (.ireturn, 1) := by decide +kernel
theorem dL_law_542 : decode cL_law 542 = .ok (.aload_n 1, 1) := by decide +kernel
theorem dL_law_543 : decode cL_law 543 = .ok (.aload_n 0, 1) := by decide +kernel
theorem dL_law_544 : decode cL_law 544 = .ok (.iload_n 3, 1) := by decide +kernel
theorem dL_law_545 : decode cL_law 545 = .ok (.iconst 1, 1) := by decide +kernel
theorem dL_law_546 : decode cL_law 546 = .ok (.iadd, 1) := by decide +kernel
theorem dL_law_547 : decode cL_law 547 = .ok (.iaload, 1) := by decide +kernel
theorem dL_law_548 : decode cL_law 548 = .ok (.aload_n 0, 1) := by decide +kernel
theorem dL_law_549 : decode cL_law 549 = .ok (.iload_n 3, 1) := by decide +kernel
theorem dL_law_550 : decode cL_law 550 = .ok (.iconst 2, 1) := by decide +kernel
theorem dL_law_551 : decode cL_law 551 = .ok (.iadd, 1) := by decide +kernel
theorem dL_law_552 : decode cL_law 552 = .ok (.iaload, 1) := by decide +kernel
theorem dL_law_553 : decode cL_law 553 = .ok (.invokevirtual 74, 3) := by decide +kernel
theorem dL_law_556 : decode cL_law 556 = .ok (.aload_n 2, 1) := by decide +kernel
theorem dL_law_557 : decode cL_law 557 = .ok (.aload_n 0, 1) := by decide +kernel
theorem dL_law_558 : decode cL_law 558 = .ok (.iload_n 3, 1) := by decide +kernel
theorem dL_law_559 : decode cL_law 559 = .ok (.iconst 1, 1) := by decide +kernel
theorem dL_law_560 : decode cL_law 560 = .ok (.iadd, 1) := by decide +kernel
theorem dL_law_561 : decode cL_law 561 = .ok (.iaload, 1) := by decide +kernel
theorem dL_law_562 : decode cL_law 562 = .ok (.aload_n 0, 1) := by decide +kernel
theorem dL_law_563 : decode cL_law 563 = .ok (.iload_n 3, 1) := by decide +kernel
theorem dL_law_564 : decode cL_law 564 = .ok (.iconst 2, 1) := by decide +kernel
theorem dL_law_565 : decode cL_law 565 = .ok (.iadd, 1) := by decide +kernel
theorem dL_law_566 : decode cL_law 566 = .ok (.iaload, 1) := by decide +kernel
theorem dL_law_567 : decode cL_law 567 = .ok (.invokevirtual 77, 3) := by decide +kernel
theorem dL_law_570 : decode cL_law 570 = .ok (.if_icmp .eq 212, 3) := by decide +kernel
theorem dL_law_573 : decode cL_law 573 = .ok (.iconst 0, 1) := by decide +kernel
theorem dL_law_574 : decode cL_law 574 = .ok (.ireturn, 1) := by decide +kernel
theorem dL_law_575 : decode cL_law 575 = .ok (.aload_n 1, 1) := by decide +kernel
theorem dL_law_576 : decode cL_law 576 = .ok (.aload_n 0, 1) := by decide +kernel
theorem dL_law_577 : decode cL_law 577 = .ok (.iload_n 3, 1) := by decide +kernel
theorem dL_law_578 : decode cL_law 578 = .ok (.iconst 1, 1) := by decide +kernel
theorem dL_law_579 : decode cL_law 579 = .ok (.iadd, 1) := by decide +kernel
theorem dL_law_580 : decode cL_law 580 = .ok (.iaload, 1) := by decide +kernel
theorem dL_law_581 : decode cL_law 581 = .ok (.invokevirtual 78, 3) := by decide +kernel
theorem dL_law_584 : decode cL_law 584 = .ok (.aload_n 2, 1) := by decide +kernel
theorem dL_law_585 : decode cL_law 585 = .ok (.aload_n 0, 1) := by decide +kernel
theorem dL_law_586 : decode cL_law 586 = .ok (.iload_n 3, 1) := by decide +kernel
theorem dL_law_587 : decode cL_law 587 = .ok (.iconst 1, 1) := by decide +kernel
theorem dL_law_588 : decode cL_law 588 = .ok (.iadd, 1) := by decide +kernel
theorem dL_law_589 : decode cL_law 589 = .ok (.iaload, 1) := by decide +kernel
theorem dL_law_590 : decode cL_law 590 = .ok (.invokevirtual 81, 3) := by decide +kernel
theorem dL_law_593 : decode cL_law 593 = .ok (.if_icmp .eq 189, 3) := by decide +kernel
theorem dL_law_596 : decode cL_law 596 = .ok (.iconst 0, 1) := by decide +kernel
theorem dL_law_597 : decode cL_law 597 = .ok (.ireturn, 1) := by decide +kernel
theorem dL_law_598 : decode cL_law 598 = .ok (.aload_n 1, 1) := by decide +kernel
theorem dL_law_599 : decode cL_law 599 = .ok (.aload_n 0, 1) := by decide +kernel
theorem dL_law_600 : decode cL_law 600 = .ok (.iload_n 3, 1) := by decide +kernel
theorem dL_law_601 : decode cL_law 601 = .ok (.iconst 1, 1) := by decide +kernel
theorem dL_law_602 : decode cL_law 602 = .ok (.iadd, 1) := by decide +kernel
theorem dL_law_603 : decode cL_law 603 = .ok (.iaload, 1) := by decide +kernel
theorem dL_law_604 : decode cL_law 604 = .ok (.invokevirtual 82, 3) := by decide +kernel
theorem dL_law_607 : decode cL_law 607 = .ok (.aload_n 2, 1) := by decide +kernel
theorem dL_law_608 : decode cL_law 608 = .ok (.aload_n 0, 1) := by decide +kernel
theorem dL_law_609 : decode cL_law 609 = .ok (.iload_n 3, 1) := by decide +kernel
theorem dL_law_610 : decode cL_law 610 = .ok (.iconst 1, 1) := by decide +kernel
theorem dL_law_611 : decode cL_law 611 = .ok (.iadd, 1) := by decide +kernel
theorem dL_law_612 : decode cL_law 612 = .ok (.iaload, 1) := by decide +kernel
theorem dL_law_613 : decode cL_law 613 = .ok (.invokevirtual 85, 3) := by decide +kernel
theorem dL_law_616 : decode cL_law 616 = .ok (.if_icmp .eq 166, 3) := by decide +kernel
theorem dL_law_619 : decode cL_law 619 = .ok (.iconst 0, 1) := by decide +kernel
theorem dL_law_620 : decode cL_law 620 = .ok (.ireturn, 1) := by decide +kernel
theorem dL_law_621 : decode cL_law 621 = .ok (.aload_n 1, 1) := by decide +kernel
theorem dL_law_622 : decode cL_law 622 = .ok (.aload_n 0, 1) := by decide +kernel
theorem dL_law_623 : decode cL_law 623 = .ok (.iload_n 3, 1) := by decide +kernel
theorem dL_law_624 : decode cL_law 624 = .ok (.iconst 1, 1) := by decide +kernel
theorem dL_law_625 : decode cL_law 625 = .ok (.iadd, 1) := by decide +kernel
theorem dL_law_626 : decode cL_law 626 = .ok (.iaload, 1) := by decide +kernel
theorem dL_law_627 : decode cL_law 627 = .ok (.invokevirtual 86, 3) := by decide +kernel
theorem dL_law_630 : decode cL_law 630 = .ok (.aload_n 2, 1) := by decide +kernel
theorem dL_law_631 : decode cL_law 631 = .ok (.aload_n 0, 1) := by decide +kernel
theorem dL_law_632 : decode cL_law 632 = .ok (.iload_n 3, 1) := by decide +kernel
theorem dL_law_633 : decode cL_law 633 = .ok (.iconst 1, 1) := by decide +kernel
theorem dL_law_634 : decode cL_law 634 = .ok (.iadd, 1) := by decide +kernel
theorem dL_law_635 : decode cL_law 635 = .ok (.iaload, 1) := by decide +kernel
theorem dL_law_636 : decode cL_law 636 = .ok (.invokevirtual 89, 3) := by decide +kernel
theorem dL_law_639 : decode cL_law 639 = .ok (.if_icmp .eq 143, 3) := by decide +kernel
theorem dL_law_642 : decode cL_law 642 = .ok (.iconst 0, 1) := by decide +kernel
theorem dL_law_643 : decode cL_law 643 = .ok (.ireturn, 1) := by decide +kernel
theorem dL_law_644 : decode cL_law 644 = .ok (.aload_n 1, 1) := by decide +kernel
theorem dL_law_645 : decode cL_law 645 = .ok (.aload_n 0, 1) := by decide +kernel
theorem dL_law_646 : decode cL_law 646 = .ok (.iload_n 3, 1) := by decide +kernel
theorem dL_law_647 : decode cL_law 647 = .ok (.iconst 1, 1) := by decide +kernel
theorem dL_law_648 : decode cL_law 648 = .ok (.iadd, 1) := by decide +kernel
theorem dL_law_649 : decode cL_law 649 = .ok (.iaload, 1) := by decide +kernel
theorem dL_law_650 : decode cL_law 650 = .ok (.invokevirtual 90, 3) := by decide +kernel
theorem dL_law_653 : decode cL_law 653 = .ok (.aload_n 2, 1) := by decide +kernel
theorem dL_law_654 : decode cL_law 654 = .ok (.aload_n 0, 1) := by decide +kernel
theorem dL_law_655 : decode cL_law 655 = .ok (.iload_n 3, 1) := by decide +kernel
theorem dL_law_656 : decode cL_law 656 = .ok (.iconst 1, 1) := by decide +kernel
theorem dL_law_657 : decode cL_law 657 = .ok (.iadd, 1) := by decide +kernel
theorem dL_law_658 : decode cL_law 658 = .ok (.iaload, 1) := by decide +kernel
theorem dL_law_659 : decode cL_law 659 = .ok (.invokevirtual 93, 3) := by decide +kernel
theorem dL_law_662 : decode cL_law 662 = .ok (.if_icmp .eq 120, 3) := by decide +kernel
theorem dL_law_665 : decode cL_law 665 = .ok (.iconst 0, 1) := by decide +kernel
theorem dL_law_666 : decode cL_law 666 = .ok (.ireturn, 1) := by decide +kernel
theorem dL_law_667 : decode cL_law 667 = .ok (.aload_n 1, 1) := by decide +kernel
theorem dL_law_668 : decode cL_law 668 = .ok (.aload_n 0, 1) := by decide +kernel
theorem dL_law_669 : decode cL_law 669 = .ok (.iload_n 3, 1) := by decide +kernel
theorem dL_law_670 : decode cL_law 670 = .ok (.iconst 1, 1) := by decide +kernel
theorem dL_law_671 : decode cL_law 671 = .ok (.iadd, 1) := by decide +kernel
theorem dL_law_672 : decode cL_law 672 = .ok (.iaload, 1) := by decide +kernel
theorem dL_law_673 : decode cL_law 673 = .ok (.aload_n 0, 1) := by decide +kernel
theorem dL_law_674 : decode cL_law 674 = .ok (.iload_n 3, 1) := by decide +kernel
theorem dL_law_675 : decode cL_law 675 = .ok (.iconst 2, 1) := by decide +kernel
theorem dL_law_676 : decode cL_law 676 = .ok (.iadd, 1) := by decide +kernel
theorem dL_law_677 : decode cL_law 677 = .ok (.iaload, 1) := by decide +kernel
theorem dL_law_678 : decode cL_law 678 = .ok (.invokevirtual 94, 3) := by decide +kernel
theorem dL_law_681 : decode cL_law 681 = .ok (.aload_n 2, 1) := by decide +kernel
theorem dL_law_682 : decode cL_law 682 = .ok (.aload_n 0, 1) := by decide +kernel
theorem dL_law_683 : decode cL_law 683 = .ok (.iload_n 3, 1) := by decide +kernel
theorem dL_law_684 : decode cL_law 684 = .ok (.iconst 1, 1) := by decide +kernel
theorem dL_law_685 : decode cL_law 685 = .ok (.iadd, 1) := by decide +kernel
theorem dL_law_686 : decode cL_law 686 = .ok (.iaload, 1) := by decide +kernel
theorem dL_law_687 : decode cL_law 687 = .ok (.aload_n 0, 1) := by decide +kernel
theorem dL_law_688 : decode cL_law 688 = .ok (.iload_n 3, 1) := by decide +kernel
theorem dL_law_689 : decode cL_law 689 = .ok (.iconst 2, 1) := by decide +kernel
theorem dL_law_690 : decode cL_law 690 = .ok (.iadd, 1) := by decide +kernel
theorem dL_law_691 : decode cL_law 691 = .ok (.iaload, 1) := by decide +kernel
theorem dL_law_692 : decode cL_law 692 = .ok (.invokevirtual 97, 3) := by decide +kernel
theorem dL_law_695 : decode cL_law 695 = .ok (.if_icmp .eq 87, 3) := by decide +kernel
theorem dL_law_698 : decode cL_law 698 = .ok (.iconst 0, 1) := by decide +kernel
theorem dL_law_699 : decode cL_law 699 = .ok (.ireturn, 1) := by decide +kernel
theorem dL_law_700 : decode cL_law 700 = .ok (.aload_n 1, 1) := by decide +kernel
theorem dL_law_701 : decode cL_law 701 = .ok (.invokevirtual 98, 3) := by decide +kernel
theorem dL_law_704 : decode cL_law 704 = .ok (.aload_n 2, 1) := by decide +kernel
theorem dL_law_705 : decode cL_law 705 = .ok (.invokevirtual 101, 3) := by decide +kernel
theorem dL_law_708 : decode cL_law 708 = .ok (.if_icmp .eq 74, 3) := by decide +kernel
theorem dL_law_711 : decode cL_law 711 = .ok (.iconst 0, 1) := by decide +kernel
theorem dL_law_712 : decode cL_law 712 = .ok (.ireturn, 1) := by decide +kernel
theorem dL_law_713 : decode cL_law 713 = .ok (.aload_n 1, 1) := by decide +kernel
theorem dL_law_714 : decode cL_law 714 = .ok (.aload_n 0, 1) := by decide +kernel
theorem dL_law_715 : decode cL_law 715 = .ok (.iload_n 3, 1) := by decide +kernel
theorem dL_law_716 : decode cL_law 716 = .ok (.iconst 1, 1) := by decide +kernel
theorem dL_law_717 : decode cL_law 717 = .ok (.iadd, 1) := by decide +kernel
theorem dL_law_718 : decode cL_law 718 = .ok (.iaload, 1) := by decide +kernel
theorem dL_law_719 : decode cL_law 719 = .ok (.invokevirtual 102, 3) := by decide +kernel
theorem dL_law_722 : decode cL_law 722 = .ok (.aload_n 2, 1) := by decide +kernel
theorem dL_law_723 : decode cL_law 723 = .ok (.aload_n 0, 1) := by decide +kernel
theorem dL_law_724 : decode cL_law 724 = .ok (.iload_n 3, 1) := by decide +kernel
theorem dL_law_725 : decode cL_law 725 = .ok (.iconst 1, 1) := by decide +kernel
theorem dL_law_726 : decode cL_law 726 = .ok (.iadd, 1) := by decide +kernel
theorem dL_law_727 : decode cL_law 727 = .ok (.iaload, 1) := by decide +kernel
theorem dL_law_728 : decode cL_law 728 = .ok (.invokevirtual 105, 3) := by decide +kernel
theorem dL_law_731 : decode cL_law 731 = .ok (.if_icmp .eq 51, 3) := by decide +kernel
theorem dL_law_734 : decode cL_law 734 = .ok (.iconst 0, 1) := by decide +kernel
theorem dL_law_735 : decode cL_law 735 = .ok (.ireturn, 1) := by decide +kernel
theorem dL_law_736 : decode cL_law 736 = .ok (.aload_n 1, 1) := by decide +kernel
theorem dL_law_737 : decode cL_law 737 = .ok (.aload_n 0, 1) := by decide +kernel
theorem dL_law_738 : decode cL_law 738 = .ok (.iload_n 3, 1) := by decide +kernel
theorem dL_law_739 : decode cL_law 739 = .ok (.iconst 1, 1) := by decide +kernel
theorem dL_law_740 : decode cL_law 740 = .ok (.iadd, 1) := by decide +kernel
theorem dL_law_741 : decode cL_law 741 = .ok (.iaload, 1) := by decide +kernel
theorem dL_law_742 : decode cL_law 742 = .ok (.invokevirtual 106, 3) := by decide +kernel
theorem dL_law_745 : decode cL_law 745 = .ok (.aload_n 2, 1) := by decide +kernel
theorem dL_law_746 : decode cL_law 746 = .ok (.aload_n 0, 1) := by decide +kernel
theorem dL_law_747 : decode cL_law 747 = .ok (.iload_n 3, 1) := by decide +kernel
theorem dL_law_748 : decode cL_law 748 = .ok (.iconst 1, 1) := by decide +kernel
theorem dL_law_749 : decode cL_law 749 = .ok (.iadd, 1) := by decide +kernel
theorem dL_law_750 : decode cL_law 750 = .ok (.iaload, 1) := by decide +kernel
theorem dL_law_751 : decode cL_law 751 = .ok (.invokevirtual 109, 3) := by decide +kernel
theorem dL_law_754 : decode cL_law 754 = .ok (.if_icmp .eq 28, 3) := by decide +kernel
theorem dL_law_757 : decode cL_law 757 = .ok (.iconst 0, 1) := by decide +kernel
theorem dL_law_758 : decode cL_law 758 = .ok (.ireturn, 1) := by decide +kernel
theorem dL_law_759 : decode cL_law 759 = .ok (.aload_n 1, 1) := by decide +kernel
theorem dL_law_760 : decode cL_law 760 = .ok (.aload_n 0, 1) := by decide +kernel
theorem dL_law_761 : decode cL_law 761 = .ok (.iload_n 3, 1) := by decide +kernel
theorem dL_law_762 : decode cL_law 762 = .ok (.iconst 1, 1) := by decide +kernel
theorem dL_law_763 : decode cL_law 763 = .ok (.iadd, 1) := by decide +kernel
theorem dL_law_764 : decode cL_law 764 = .ok (.iaload, 1) := by decide +kernel
theorem dL_law_765 : decode cL_law 765 = .ok (.invokevirtual 110, 3) := by decide +kernel
theorem dL_law_768 : decode cL_law 768 = .ok (.aload_n 2, 1) := by decide +kernel
theorem dL_law_769 : decode cL_law 769 = .ok (.aload_n 0, 1) := by decide +kernel
theorem dL_law_770 : decode cL_law 770 = .ok (.iload_n 3, 1) := by decide +kernel
theorem dL_law_771 : decode cL_law 771 = .ok (.iconst 1, 1) := by decide +kernel
theorem dL_law_772 : decode cL_law 772 = .ok (.iadd, 1) := by decide +kernel
theorem dL_law_773 : decode cL_law 773 = .ok (.iaload, 1) := by decide +kernel
theorem dL_law_774 : decode cL_law 774 = .ok (.invokevirtual 113, 3) := by decide +kernel
theorem dL_law_777 : decode cL_law 777 = .ok (.if_icmp .eq 5, 3) := by decide +kernel
theorem dL_law_780 : decode cL_law 780 = .ok (.iconst 0, 1) := by decide +kernel
theorem dL_law_781 : decode cL_law 781 = .ok (.ireturn, 1) := by decide +kernel
theorem dL_law_782 : decode cL_law 782 = .ok (.iinc 3 4, 3) := by decide +kernel
theorem dL_law_785 : decode cL_law 785 = .ok (.goto (-767), 3) := by decide +kernel
theorem dL_law_788 : decode cL_law 788 = .ok (.iconst 1, 1) := by decide +kernel
theorem dL_law_789 : decode cL_law 789 = .ok (.ireturn, 1) := by decide +kernel
end
section
/-! ===== the layer J: one global world of cells at base + k, contracts that speak of all of it ===== -/
def isNest : Cond → Bool
  | .fieldLinkNest .. => true
  | .methodLinkNest .. => true
  | _ => false
def AG : List Cond := lw_tbl.filter goodWord
theorem AG_mem {x : Cond} (h : x ∈ lw_tbl) (g : goodWord x = true) : x ∈ AG := List.mem_filter.mpr ⟨h, g⟩
theorem AG_good : ∀ x ∈ AG, goodWord x = true := fun _ h => (List.mem_filter.mp h).2
abbrev Wd : Type := Launch × va_G × Nat × ClassId × ClassId × ClassId
abbrev wl (w : Wd) : Launch := w.1
abbrev wD (w : Wd) : va_G := w.2.1
abbrev wN (w : Wd) : Nat := w.2.2.1
abbrev wI (w : Wd) : ClassId := w.2.2.2.1
abbrev wZ (w : Wd) : ClassId := w.2.2.2.2.1
abbrev wS (w : Wd) : ClassId := w.2.2.2.2.2
abbrev wtys (w : Wd) : List (ClassId × FieldType) := [(wI w, .int), (wZ w, .boolean), (wS w, .object "LiarClocks$State")]
def wsn (w : Wd) (n : Nat) (h : Nat → va_E) : va_W := (List.range n).map (fun k => (wN w + k, h k))
def PP (w : Wd) (n : Nat) (h : Nat → va_E) (H : Heap) : Prop := H.size = wN w + n ∧ va_P (wD w) vwCl (wsn w n h) H
def KK (w : Wd) (U : State) : Prop := va_K (wD w) vwCl (wtys w) U ∧ (∀ x ∈ lw_tbl, isNest x = true → va_Nw x U) ∧ va_AO "LiarClocks$State" U
theorem wsn_get (w : Wd) {n : Nat} (h : Nat → va_E) {k : Nat} (hk : k < n) : (wsn w n h)[k]? = some (wN w + k, h k) := by
  simp [wsn, hk]
theorem wsn_len (w : Wd) (n : Nat) (h : Nat → va_E) : (wsn w n h).length = n := by simp [wsn]
theorem wsn_set (w : Wd) (n : Nat) (h : Nat → va_E) (k : Nat) (e : va_E) : (wsn w n h).set k (wN w + k, e) = wsn w n (va_up h k e) := by
  apply List.ext_getElem?
  intro j
  by_cases hj : j < n
  · by_cases hk : j = k
    · subst hk
      rw [List.getElem?_set_self (by rw [wsn_len]; exact hj), wsn_get w _ hj, va_up_self]
    · rw [List.getElem?_set_ne (Ne.symm hk), wsn_get w _ hj, wsn_get w _ hj, va_up_ne _ _ hk]
  · rw [List.getElem?_eq_none (by rw [List.length_set, wsn_len]; omega), List.getElem?_eq_none (by rw [wsn_len]; omega)]
theorem wsn_push (w : Wd) (n : Nat) (h : Nat → va_E) (e : va_E) : wsn w n h ++ [(wN w + n, e)] = wsn w (n + 1) (va_up h n e) := by
  apply List.ext_getElem?
  intro j
  by_cases hj : j < n
  · rw [List.getElem?_append_left (by rw [wsn_len]; exact hj), wsn_get w _ hj, wsn_get w _ (by omega), va_up_ne _ _ (by omega)]
  · by_cases hk : j = n
    · subst hk
      rw [List.getElem?_append_right (by rw [wsn_len]; omega), wsn_len, wsn_get w _ (by omega), va_up_self]
      simp
    · rw [List.getElem?_eq_none (by rw [List.length_append, wsn_len]; simp; omega), List.getElem?_eq_none (by rw [wsn_len]; omega)]
theorem wsn_D (w : Wd) (n : Nat) (h : Nat → va_E) : va_D (fun q : Nat => wN w ≤ q) (wsn w n h) := by
  have key : ∀ (i : Nat) (p : Nat × va_E), (wsn w n h)[i]? = some p → p.1 = wN w + i := by
    intro i p hp
    have hi : i < n := by
      have := (List.getElem?_eq_some_iff.mp hp).1
      rwa [wsn_len] at this
    rw [wsn_get w _ hi] at hp
    cases hp
    rfl
  refine ⟨fun i j p q hp hq hpq => ?_, fun k q hq => ?_⟩
  · have h1 := key i p hp
    have h2 := key j q hq
    omega
  · have h1 := key k q hq
    omega
theorem KK.warm {w : Wd} {s U : State} (h : KK w s) (hW : s.WarmedH U.vm) : KK w U := by
  refine ⟨va_K.moved hW.alike h.1, fun x hx hn => ?_, va_AO.moved hW.alike h.2.2⟩
  have hz := h.2.1 x hx hn
  cases x <;> first | exact va_Nw.warmF hW hz | exact va_Nw.warmM hW hz | (exact absurd hn (by simp [isNest]))
theorem KK.same {w : Wd} {u U : State} (hv : u.vm = U.vm) (h : KK w u) : KK w U := by
  refine ⟨va_K.moved (by rw [hv]; exact Vm.Alike.refl _) h.1, fun x hx hn => ?_, va_AO.moved (by rw [hv]; exact Vm.Alike.refl _) h.2.2⟩
  have hz := h.2.1 x hx hn
  cases x <;> first | exact va_Nw.same rfl hv hz | (exact absurd hn (by simp [isNest]))
/-- what stands at every step of a method: the machine, its code, the tables' words, the world's classes -/
def Cx (w : Wd) (y : MethodName) (cc : ByteArray) (mL : Nat) (rt : Option FieldType) (X : Array Value → State → Prop) (p : Program) (s : State) (m : MethodId) (args : Array Value) (meth : Method) (c : Code) : Prop :=
  p.tables.exec = Jvm.exec ∧ c.code = cc ∧ c.maxLocals = mL ∧ meth.sig.returnType = rt ∧ meth.locks = false ∧ meth.name = y.name ∧ s.vm.findClass y.cls = some m.cls ∧ (∀ x ∈ AG, x.before args s = true) ∧ KK w s ∧ wN w ≤ s.heap.size ∧ X args s
/-- the judgement: from pc, with locals L, stack S, the world h of n cells, the method comes to its end Qf -/
def J (w : Wd) (y : MethodName) (cc : ByteArray) (mL : Nat) (rt : Option FieldType) (R : Room) (X : Array Value → State → Prop) (Qf : List Frame → Array Value → State → State → Prop) (pc : Nat) (L : List (Nat × Value)) (S : List Value) (n : Nat) (h : Nat → va_E) (ca sl : Nat) : Prop :=
  ∀ (p : Program) (e : Env) (s : State) (m : MethodId) (args : Array Value) (below : List Frame) (meth : Method) (c : Code), Cx w y cc mL rt X p s m args meth c →
  ∀ (ls : Array Slot) (H : Heap) (locs : List Loc), lv_has ls mL L → PP w n h H → va_S (fun q : Nat => wN w ≤ q) s.heap H locs → W p (wl w) e R s m args below meth c H locs ca sl (Qf below args s) (F0 m pc ls S)
abbrev Po : Type := Option Value → (Nat → va_E) → Prop
def QJ (w : Wd) (n' : Nat) (post : Po) : Array Value → State → Outcome → State → Prop := fun _ st o t =>
  ∃ (r : Option Value) (h' : Nat → va_E), o = .returned r ∧ post r h' ∧ PP w n' h' t.heap ∧ st.heap.size ≤ t.heap.size ∧ ∀ q : Nat, q < wN w → t.heap[q]? = st.heap[q]?
def PJ (w : Wd) (n : Nat) (h : Nat → va_E) (av : List Value) : Array Value → State → Prop := fun v U => v = av.toArray ∧ PP w n h U.heap ∧ KK w U
def ZJ (w : Wd) (n' mc ms : Nat) (post : Po) : List Frame → Array Value → State → State → Prop := fun below args s => MQ below (QJ w n' post) args s mc ms (fun q : Nat => wN w ≤ q)
def XT : Array Value → State → Prop := fun _ _ => True
/-- a contract over the whole world -/
def Ct (w : Wd) (y : MethodName) (cc : ByteArray) (mL : Nat) (rt : Option FieldType) (R : Room) (av : List Value) (n : Nat) (h : Nat → va_E) (n' : Nat) (post : Po) : Prop :=
  Met (wl w) y (.code y cc mL rt :: AG) R (PJ w n h av) (QJ w n' post) R.cells R.slots (fun q : Nat => wN w ≤ q)
/-- the locals that are looked up -/
def lget : List (Nat × Value) → Nat → Option Value
  | [], _ => none
  | (j, v) :: r, i => if j = i then some v else lget r i
def lins : List (Nat × Value) → Nat → Value → List (Nat × Value)
  | [], i, v => [(i, v)]
  | (j, u) :: r, i, v => if i < j then (i, v) :: (j, u) :: r else (j, u) :: lins r i v
theorem lins_mem : ∀ {F : List (Nat × Value)} {i : Nat} {v : Value} {q : Nat × Value}, q ∈ lins F i v → q ∈ (i, v) :: F
  | [], _, _, _, h => h
  | (j, u) :: r, i, v, q, h => by
    unfold lins at h
    split at h
    · exact h
    · rcases List.mem_cons.mp h with h | h
      · exact List.mem_cons_of_mem _ (List.mem_cons.mpr (Or.inl h))
      · rcases List.mem_cons.mp (lins_mem h) with h | h
        · exact List.mem_cons.mpr (Or.inl h)
        · exact List.mem_cons_of_mem _ (List.mem_cons_of_mem _ h)
theorem lins_has {ls : Array Slot} {nL : Nat} {F : List (Nat × Value)} {i : Nat} {v : Value} (h : lv_has ls nL ((i, v) :: F)) : lv_has ls nL (lins F i v) := ⟨h.1, h.2.1, fun q hq => h.2.2 q (lins_mem hq)⟩
def lset (L : List (Nat × Value)) (i : Nat) (v : Value) : List (Nat × Value) :=
  lins (L.filter (fun q => !(q.1 == i) && !(q.1 + 1 == i && q.2.category == 2))) i v
def ldrop (L : List (Nat × Value)) (i : Nat) : List (Nat × Value) := L.filter (fun q => !(q.1 == i))
theorem lget_mem : ∀ {L : List (Nat × Value)} {i : Nat} {v : Value}, lget L i = some v → (i, v) ∈ L
  | [], _, _, h => by cases h
  | (j, u) :: r, i, v, h => by
    unfold lget at h
    split at h
    · rename_i e
      cases h
      subst e
      exact List.mem_cons_self
    · exact List.mem_cons_of_mem _ (lget_mem h)
theorem lget_at {ls : Array Slot} {nL : Nat} {L : List (Nat × Value)} (h : lv_has ls nL L) {i : Nat} {v : Value} (hk : lget L i = some v) : ls[i]? = some (.val v) := h.2.2 (i, v) (lget_mem hk)
theorem Ct.of {w : Wd} {y : MethodName} {cc : ByteArray} {mL : Nat} {rt : Option FieldType} {R : Room} {av : List Value} {n : Nat} {h : Nat → va_E} {n' : Nat} {post : Po} {L : List (Nat × Value)} (hy : plainName y.cls = true) (hle : (lg_sl av).length ≤ mL) (hL : lv_args 0 av = L)
    (k : J w y cc mL rt R XT (ZJ w n' R.cells R.slots post) 0 L [] n h 0 0) : Ct w y cc mL rt R av n h n' post := by
  refine Met.ofW (cc := cc) (maxL := mL) (ret := rt) hy rfl ?_
  intro p e s m args below meth c s₁ B hml hv
  obtain ⟨rfl, hP, hK⟩ := hv
  have hts := atoms_spec (ws := .code y cc mL rt :: AG) B.pre
  have hl := lv_entry av (n := mL) hle
  rw [lg_entry_eq]
  rw [hL] at hl
  have hsz : wN w ≤ s.heap.size := by rw [hP.1]; omega
  exact k p e s m _ below meth c ⟨B.exec, B.bytes, hml, B.returns, B.notSynchronized, (name_of_methodNamed B.named B.method).1, findClass_of_methodNamed B.named, fun x hx => hts x (List.mem_cons_of_mem _ hx), hK, hsz, trivial⟩ _ s.heap [] hl hP va_S.rf
section JR
variable {w : Wd} {y : MethodName} {cc : ByteArray} {mL : Nat} {rt : Option FieldType} {R : Room} {X : Array Value → State → Prop} {Qf : List Frame → Array Value → State → State → Prop} {L : List (Nat × Value)} {S : List Value} {n : Nat} {h : Nat → va_E} {ca sl : Nat}

theorem J.iadd (pc : Nat) {a b : Int32} (hd : decode cc pc = .ok (.iadd, 1))  (k : J w y cc mL rt R X Qf (pc + 1) L (.int (a + b) :: S) n h ca sl) : J w y cc mL rt R X Qf pc L (.int b :: .int a :: S) n h ca sl := by
  intro p e s m args below meth c C ls H locs hl hP hS
  exact lv_iadd C.1 C.2.1 hd  (k p e s m args below meth c C ls H locs hl hP hS)
theorem J.isub (pc : Nat) {a b : Int32} (hd : decode cc pc = .ok (.isub, 1))  (k : J w y cc mL rt R X Qf (pc + 1) L (.int (a - b) :: S) n h ca sl) : J w y cc mL rt R X Qf pc L (.int b :: .int a :: S) n h ca sl := by
  intro p e s m args below meth c C ls H locs hl hP hS
  exact lv_isub C.1 C.2.1 hd  (k p e s m args below meth c C ls H locs hl hP hS)
theorem J.imul (pc : Nat) {a b : Int32} (hd : decode cc pc = .ok (.imul, 1))  (k : J w y cc mL rt R X Qf (pc + 1) L (.int (a * b) :: S) n h ca sl) : J w y cc mL rt R X Qf pc L (.int b :: .int a :: S) n h ca sl := by
  intro p e s m args below meth c C ls H locs hl hP hS
  exact lv_imul C.1 C.2.1 hd  (k p e s m args below meth c C ls H locs hl hP hS)
theorem J.iand (pc : Nat) {a b : Int32} (hd : decode cc pc = .ok (.iand, 1))  (k : J w y cc mL rt R X Qf (pc + 1) L (.int (a &&& b) :: S) n h ca sl) : J w y cc mL rt R X Qf pc L (.int b :: .int a :: S) n h ca sl := by
  intro p e s m args below meth c C ls H locs hl hP hS
  exact lv_iand C.1 C.2.1 hd  (k p e s m args below meth c C ls H locs hl hP hS)
theorem J.ior (pc : Nat) {a b : Int32} (hd : decode cc pc = .ok (.ior, 1))  (k : J w y cc mL rt R X Qf (pc + 1) L (.int (a ||| b) :: S) n h ca sl) : J w y cc mL rt R X Qf pc L (.int b :: .int a :: S) n h ca sl := by
  intro p e s m args below meth c C ls H locs hl hP hS
  exact lv_ior C.1 C.2.1 hd  (k p e s m args below meth c C ls H locs hl hP hS)
theorem J.ixor (pc : Nat) {a b : Int32} (hd : decode cc pc = .ok (.ixor, 1))  (k : J w y cc mL rt R X Qf (pc + 1) L (.int (a ^^^ b) :: S) n h ca sl) : J w y cc mL rt R X Qf pc L (.int b :: .int a :: S) n h ca sl := by
  intro p e s m args below meth c C ls H locs hl hP hS
  exact lv_ixor C.1 C.2.1 hd  (k p e s m args below meth c C ls H locs hl hP hS)
theorem J.ishl (pc : Nat) {a b : Int32} (hd : decode cc pc = .ok (.ishl, 1))  (k : J w y cc mL rt R X Qf (pc + 1) L (.int (a <<< (b &&& 31)) :: S) n h ca sl) : J w y cc mL rt R X Qf pc L (.int b :: .int a :: S) n h ca sl := by
  intro p e s m args below meth c C ls H locs hl hP hS
  exact lv_ishl C.1 C.2.1 hd  (k p e s m args below meth c C ls H locs hl hP hS)
theorem J.ishr (pc : Nat) {a b : Int32} (hd : decode cc pc = .ok (.ishr, 1))  (k : J w y cc mL rt R X Qf (pc + 1) L (.int (a >>> (b &&& 31)) :: S) n h ca sl) : J w y cc mL rt R X Qf pc L (.int b :: .int a :: S) n h ca sl := by
  intro p e s m args below meth c C ls H locs hl hP hS
  exact lv_ishr C.1 C.2.1 hd  (k p e s m args below meth c C ls H locs hl hP hS)
theorem J.idiv (pc : Nat) {a b : Int32} (hd : decode cc pc = .ok (.idiv, 1)) (hne : ¬ b = 0) (k : J w y cc mL rt R X Qf (pc + 1) L (.int (a / b) :: S) n h ca sl) : J w y cc mL rt R X Qf pc L (.int b :: .int a :: S) n h ca sl := by
  intro p e s m args below meth c C ls H locs hl hP hS
  exact lv_idiv C.1 C.2.1 hd hne (k p e s m args below meth c C ls H locs hl hP hS)
theorem J.irem (pc : Nat) {a b : Int32} (hd : decode cc pc = .ok (.irem, 1)) (hne : ¬ b = 0) (k : J w y cc mL rt R X Qf (pc + 1) L (.int (a - a / b * b) :: S) n h ca sl) : J w y cc mL rt R X Qf pc L (.int b :: .int a :: S) n h ca sl := by
  intro p e s m args below meth c C ls H locs hl hP hS
  exact lv_irem C.1 C.2.1 hd hne (k p e s m args below meth c C ls H locs hl hP hS)
theorem J.ineg (pc : Nat) {a : Int32} (hd : decode cc pc = .ok (.ineg, 1))  (k : J w y cc mL rt R X Qf (pc + 1) L (.int (-a) :: S) n h ca sl) : J w y cc mL rt R X Qf pc L (.int a :: S) n h ca sl := by
  intro p e s m args below meth c C ls H locs hl hP hS
  exact lv_ineg C.1 C.2.1 hd  (k p e s m args below meth c C ls H locs hl hP hS)
theorem J.ladd (pc : Nat) {a b : Int64} (hd : decode cc pc = .ok (.ladd, 1))  (k : J w y cc mL rt R X Qf (pc + 1) L (.long (a + b) :: S) n h ca sl) : J w y cc mL rt R X Qf pc L (.long b :: .long a :: S) n h ca sl := by
  intro p e s m args below meth c C ls H locs hl hP hS
  exact lv_ladd C.1 C.2.1 hd  (k p e s m args below meth c C ls H locs hl hP hS)
theorem J.lmul (pc : Nat) {a b : Int64} (hd : decode cc pc = .ok (.lmul, 1))  (k : J w y cc mL rt R X Qf (pc + 1) L (.long (a * b) :: S) n h ca sl) : J w y cc mL rt R X Qf pc L (.long b :: .long a :: S) n h ca sl := by
  intro p e s m args below meth c C ls H locs hl hP hS
  exact lv_lmul C.1 C.2.1 hd  (k p e s m args below meth c C ls H locs hl hP hS)
theorem J.lrem (pc : Nat) {a b : Int64} (hd : decode cc pc = .ok (.lrem, 1)) (hne : ¬ b = 0) (k : J w y cc mL rt R X Qf (pc + 1) L (.long (a - a / b * b) :: S) n h ca sl) : J w y cc mL rt R X Qf pc L (.long b :: .long a :: S) n h ca sl := by
  intro p e s m args below meth c C ls H locs hl hP hS
  exact lv_lrem C.1 C.2.1 hd hne (k p e s m args below meth c C ls H locs hl hP hS)
theorem J.i2l (pc : Nat) {a : Int32} (hd : decode cc pc = .ok (.i2l, 1))  (k : J w y cc mL rt R X Qf (pc + 1) L (.long a.toInt64 :: S) n h ca sl) : J w y cc mL rt R X Qf pc L (.int a :: S) n h ca sl := by
  intro p e s m args below meth c C ls H locs hl hP hS
  exact lv_i2l C.1 C.2.1 hd rfl (k p e s m args below meth c C ls H locs hl hP hS)
theorem J.l2i (pc : Nat) {a : Int64} (hd : decode cc pc = .ok (.l2i, 1))  (k : J w y cc mL rt R X Qf (pc + 1) L (.int a.toInt32 :: S) n h ca sl) : J w y cc mL rt R X Qf pc L (.long a :: S) n h ca sl := by
  intro p e s m args below meth c C ls H locs hl hP hS
  exact lv_l2i C.1 C.2.1 hd rfl (k p e s m args below meth c C ls H locs hl hP hS)
theorem J.iushr (pc : Nat) {a b : Int32} (hd : decode cc pc = .ok (.iushr, 1))  (k : J w y cc mL rt R X Qf (pc + 1) L (.int (a.toUInt32 >>> (b.toUInt32 &&& Int32.toUInt32 31)).toInt32 :: S) n h ca sl) : J w y cc mL rt R X Qf pc L (.int b :: .int a :: S) n h ca sl := by
  intro p e s m args below meth c C ls H locs hl hP hS
  exact lv_iushr C.1 C.2.1 hd rfl (k p e s m args below meth c C ls H locs hl hP hS)
theorem J.dup (pc : Nat) {a : Value} (hd : decode cc pc = .ok (.dup, 1)) (ha : a.category = 1) (k : J w y cc mL rt R X Qf (pc + 1) L (a :: a :: S) n h ca sl) : J w y cc mL rt R X Qf pc L (a :: S) n h ca sl := by
  intro p e s m args below meth c C ls H locs hl hP hS
  exact lv_dup C.1 C.2.1 hd ha (k p e s m args below meth c C ls H locs hl hP hS)
theorem J.pop (pc : Nat) {a : Value} (hd : decode cc pc = .ok (.pop, 1)) (ha : a.category = 1) (k : J w y cc mL rt R X Qf (pc + 1) L S n h ca sl) : J w y cc mL rt R X Qf pc L (a :: S) n h ca sl := by
  intro p e s m args below meth c C ls H locs hl hP hS
  exact lv_pop C.1 C.2.1 hd ha (k p e s m args below meth c C ls H locs hl hP hS)
theorem J.dup2 (pc : Nat) {a b : Value} (hd : decode cc pc = .ok (.dup2, 1)) (ha : a.category = 1) (hb : b.category = 1) (k : J w y cc mL rt R X Qf (pc + 1) L (a :: b :: a :: b :: S) n h ca sl) : J w y cc mL rt R X Qf pc L (a :: b :: S) n h ca sl := by
  intro p e s m args below meth c C ls H locs hl hP hS
  exact lv_dup2_11 C.1 C.2.1 hd ha hb (k p e s m args below meth c C ls H locs hl hP hS)
theorem J.iconst (pc : Nat) {i : Int} (v : Int32) (hd : decode cc pc = .ok (.iconst i, 1)) (hv : Int32.ofInt i = v) (k : J w y cc mL rt R X Qf (pc + 1) L (.int v :: S) n h ca sl) : J w y cc mL rt R X Qf pc L S n h ca sl := by
  intro p e s m args below meth c C ls H locs hl hP hS
  exact lv_iconst C.1 C.2.1 hd hv (k p e s m args below meth c C ls H locs hl hP hS)
theorem J.bipush (pc : Nat) {i : Int} (v : Int32) (hd : decode cc pc = .ok (.bipush i, 2)) (hv : (Int8.ofInt i).toInt32 = v) (k : J w y cc mL rt R X Qf (pc + 2) L (.int v :: S) n h ca sl) : J w y cc mL rt R X Qf pc L S n h ca sl := by
  intro p e s m args below meth c C ls H locs hl hP hS
  exact lv_bipush C.1 C.2.1 hd hv (k p e s m args below meth c C ls H locs hl hP hS)
theorem J.sipush (pc : Nat) {i : Int} (v : Int32) (hd : decode cc pc = .ok (.sipush i, 3)) (hv : (Int16.ofInt i).toInt32 = v) (k : J w y cc mL rt R X Qf (pc + 3) L (.int v :: S) n h ca sl) : J w y cc mL rt R X Qf pc L S n h ca sl := by
  intro p e s m args below meth c C ls H locs hl hP hS
  exact lv_sipush C.1 C.2.1 hd hv (k p e s m args below meth c C ls H locs hl hP hS)
theorem J.ldc (pc : Nat) {i : Nat} (v : Int32) (hd : decode cc pc = .ok (.ldc i, 2)) (hw : Cond.constant y.cls i v ∈ AG) (k : J w y cc mL rt R X Qf (pc + 2) L (.int v :: S) n h ca sl) : J w y cc mL rt R X Qf pc L S n h ca sl := by
  intro p e s m args below meth c C ls H locs hl hP hS
  exact lv_ldc C.1 C.2.1 C.2.2.2.2.2.2.1 (C.2.2.2.2.2.2.2.1 _ hw) hd (k p e s m args below meth c C ls H locs hl hP hS)
theorem J.ldcw (pc : Nat) {i : Nat} (v : Int32) (hd : decode cc pc = .ok (.ldc_w i, 3)) (hw : Cond.constant y.cls i v ∈ AG) (k : J w y cc mL rt R X Qf (pc + 3) L (.int v :: S) n h ca sl) : J w y cc mL rt R X Qf pc L S n h ca sl := by
  intro p e s m args below meth c C ls H locs hl hP hS
  exact lv_ldcw C.1 C.2.1 C.2.2.2.2.2.2.1 (C.2.2.2.2.2.2.2.1 _ hw) hd (k p e s m args below meth c C ls H locs hl hP hS)
theorem J.ldc2 (pc : Nat) {i : Nat} (v : Int64) (hd : decode cc pc = .ok (.ldc2_w i, 3)) (hw : Cond.constantLong y.cls i v ∈ AG) (k : J w y cc mL rt R X Qf (pc + 3) L (.long v :: S) n h ca sl) : J w y cc mL rt R X Qf pc L S n h ca sl := by
  intro p e s m args below meth c C ls H locs hl hP hS
  exact lv_ldc2 C.1 C.2.1 C.2.2.2.2.2.2.1 (C.2.2.2.2.2.2.2.1 _ hw) hd (k p e s m args below meth c C ls H locs hl hP hS)
theorem J.iload_n (pc : Nat) {i : Nat} {k4 : Fin 4} {v : Int32} (hd : decode cc pc = .ok (.iload_n k4, 1)) (hi : (k4 : Nat) = i) (hv : lget L i = some (.int v)) (k : J w y cc mL rt R X Qf (pc + 1) L (.int v :: S) n h ca sl) : J w y cc mL rt R X Qf pc L S n h ca sl := by
  intro p e s m args below meth c C ls H locs hl hP hS
  exact lv_iload_n C.1 C.2.1 hd hi (lget_at hl hv) (k p e s m args below meth c C ls H locs hl hP hS)
theorem J.iload (pc : Nat) {i : Nat} {v : Int32} (hd : decode cc pc = .ok (.iload i, 2)) (hv : lget L i = some (.int v)) (k : J w y cc mL rt R X Qf (pc + 2) L (.int v :: S) n h ca sl) : J w y cc mL rt R X Qf pc L S n h ca sl := by
  intro p e s m args below meth c C ls H locs hl hP hS
  exact lv_iload C.1 C.2.1 hd (lget_at hl hv) (k p e s m args below meth c C ls H locs hl hP hS)
theorem J.aload_n (pc : Nat) {i : Nat} {k4 : Fin 4} {v : Nat} (hd : decode cc pc = .ok (.aload_n k4, 1)) (hi : (k4 : Nat) = i) (hv : lget L i = some (.ref v)) (k : J w y cc mL rt R X Qf (pc + 1) L (.ref v :: S) n h ca sl) : J w y cc mL rt R X Qf pc L S n h ca sl := by
  intro p e s m args below meth c C ls H locs hl hP hS
  exact lv_aload_n C.1 C.2.1 hd hi (lget_at hl hv) (k p e s m args below meth c C ls H locs hl hP hS)
theorem J.aload (pc : Nat) {i : Nat} {v : Nat} (hd : decode cc pc = .ok (.aload i, 2)) (hv : lget L i = some (.ref v)) (k : J w y cc mL rt R X Qf (pc + 2) L (.ref v :: S) n h ca sl) : J w y cc mL rt R X Qf pc L S n h ca sl := by
  intro p e s m args below meth c C ls H locs hl hP hS
  exact lv_aload C.1 C.2.1 hd (lget_at hl hv) (k p e s m args below meth c C ls H locs hl hP hS)
theorem J.lload_n (pc : Nat) {i : Nat} {k4 : Fin 4} {v : Int64} (hd : decode cc pc = .ok (.lload_n k4, 1)) (hi : (k4 : Nat) = i) (hv : lget L i = some (.long v)) (k : J w y cc mL rt R X Qf (pc + 1) L (.long v :: S) n h ca sl) : J w y cc mL rt R X Qf pc L S n h ca sl := by
  intro p e s m args below meth c C ls H locs hl hP hS
  exact lv_lload_n C.1 C.2.1 hd hi (lget_at hl hv) (k p e s m args below meth c C ls H locs hl hP hS)
theorem J.istore_n (pc : Nat) {i : Nat} {k4 : Fin 4} {v : Int32} (hd : decode cc pc = .ok (.istore_n k4, 1)) (hi : (k4 : Nat) = i) (hn : i < mL) (k : J w y cc mL rt R X Qf (pc + 1) (lset L i (.int v)) S n h ca sl) : J w y cc mL rt R X Qf pc L (.int v :: S) n h ca sl := by
  intro p e s m args below meth c C ls H locs hl hP hS
  exact lv_istore_n C.1 C.2.1 hd hi hl hn rfl (fun ls' hl' => k p e s m args below meth c C ls' H locs (lins_has hl') hP hS)
theorem J.istore (pc : Nat) {i : Nat} {v : Int32} (hd : decode cc pc = .ok (.istore i, 2)) (hn : i < mL) (k : J w y cc mL rt R X Qf (pc + 2) (lset L i (.int v)) S n h ca sl) : J w y cc mL rt R X Qf pc L (.int v :: S) n h ca sl := by
  intro p e s m args below meth c C ls H locs hl hP hS
  exact lv_istore C.1 C.2.1 hd  hl hn rfl (fun ls' hl' => k p e s m args below meth c C ls' H locs (lins_has hl') hP hS)
theorem J.astore_n (pc : Nat) {i : Nat} {k4 : Fin 4} {v : Nat} (hd : decode cc pc = .ok (.astore_n k4, 1)) (hi : (k4 : Nat) = i) (hn : i < mL) (k : J w y cc mL rt R X Qf (pc + 1) (lset L i (.ref v)) S n h ca sl) : J w y cc mL rt R X Qf pc L (.ref v :: S) n h ca sl := by
  intro p e s m args below meth c C ls H locs hl hP hS
  exact lv_astore_n C.1 C.2.1 hd hi hl hn rfl (fun ls' hl' => k p e s m args below meth c C ls' H locs (lins_has hl') hP hS)
def lset2 (L : List (Nat × Value)) (i : Nat) (v : Value) : List (Nat × Value) :=
  lins (L.filter (fun q => !(q.1 == i) && (!(q.1 == i + 1) && !(q.1 + 1 == i && q.2.category == 2)))) i v
theorem J.lstore_n (pc : Nat) {i : Nat} {k4 : Fin 4} {v : Int64} (hd : decode cc pc = .ok (.lstore_n k4, 1)) (hi : (k4 : Nat) = i) (hn : i + 1 < mL) (k : J w y cc mL rt R X Qf (pc + 1) (lset2 L i (.long v)) S n h ca sl) : J w y cc mL rt R X Qf pc L (.long v :: S) n h ca sl := by
  intro p e s m args below meth c C ls H locs hl hP hS
  exact lv_lstore_n C.1 C.2.1 hd hi hl hn rfl (fun ls' hl' => k p e s m args below meth c C ls' H locs (lins_has hl') hP hS)
theorem J.iinc (pc : Nat) {i : Nat} {d : Int} {x : Int32} (hd : decode cc pc = .ok (.iinc i d, 3)) (v : Int32) (hx : lget L i = some (.int x)) (hv : x + Int32.ofInt d = v) (hn : i < mL) (k : J w y cc mL rt R X Qf (pc + 3) (lset L i (.int v)) S n h ca sl) : J w y cc mL rt R X Qf pc L S n h ca sl := by
  intro p e s m args below meth c C ls H locs hl hP hS
  obtain ⟨k0, hk0⟩ := List.getElem?_of_mem (lget_mem hx)
  exact lv_iinc C.1 C.2.1 hd hl hk0 hv hn rfl (fun ls' hl' => k p e s m args below meth c C ls' H locs (lins_has hl') hP hS)
theorem J.icmp_eq (pc tgt : Nat) {o : Int} {a b : Int32} (hd : decode cc pc = .ok (.if_icmp .eq o, 3)) (ht : (pc : Int) + o = (tgt : Int)) (kt : a = b → J w y cc mL rt R X Qf tgt L S n h ca sl) (kf : ¬ a = b → J w y cc mL rt R X Qf (pc + 3) L S n h ca sl) : J w y cc mL rt R X Qf pc L (.int b :: .int a :: S) n h ca sl := by
  intro p e s m args below meth c C ls H locs hl hP hS
  exact lv_icmp_eq C.1 C.2.1 hd ht (fun q => kt q p e s m args below meth c C ls H locs hl hP hS) (fun q => kf q p e s m args below meth c C ls H locs hl hP hS)
theorem J.if_eq (pc tgt : Nat) {o : Int} {a : Int32} (hd : decode cc pc = .ok (.ifCond .eq o, 3)) (ht : (pc : Int) + o = (tgt : Int)) (kt : a = 0 → J w y cc mL rt R X Qf tgt L S n h ca sl) (kf : ¬ a = 0 → J w y cc mL rt R X Qf (pc + 3) L S n h ca sl) : J w y cc mL rt R X Qf pc L (.int a :: S) n h ca sl := by
  intro p e s m args below meth c C ls H locs hl hP hS
  exact lv_if_eq C.1 C.2.1 hd ht (fun q => kt q p e s m args below meth c C ls H locs hl hP hS) (fun q => kf q p e s m args below meth c C ls H locs hl hP hS)
theorem J.icmp_ne (pc tgt : Nat) {o : Int} {a b : Int32} (hd : decode cc pc = .ok (.if_icmp .ne o, 3)) (ht : (pc : Int) + o = (tgt : Int)) (kt : ¬ a = b → J w y cc mL rt R X Qf tgt L S n h ca sl) (kf : a = b → J w y cc mL rt R X Qf (pc + 3) L S n h ca sl) : J w y cc mL rt R X Qf pc L (.int b :: .int a :: S) n h ca sl := by
  intro p e s m args below meth c C ls H locs hl hP hS
  exact lv_icmp_ne C.1 C.2.1 hd ht (fun q => kt q p e s m args below meth c C ls H locs hl hP hS) (fun q => kf q p e s m args below meth c C ls H locs hl hP hS)
theorem J.if_ne (pc tgt : Nat) {o : Int} {a : Int32} (hd : decode cc pc = .ok (.ifCond .ne o, 3)) (ht : (pc : Int) + o = (tgt : Int)) (kt : ¬ a = 0 → J w y cc mL rt R X Qf tgt L S n h ca sl) (kf : a = 0 → J w y cc mL rt R X Qf (pc + 3) L S n h ca sl) : J w y cc mL rt R X Qf pc L (.int a :: S) n h ca sl := by
  intro p e s m args below meth c C ls H locs hl hP hS
  exact lv_if_ne C.1 C.2.1 hd ht (fun q => kt q p e s m args below meth c C ls H locs hl hP hS) (fun q => kf q p e s m args below meth c C ls H locs hl hP hS)
theorem J.icmp_lt (pc tgt : Nat) {o : Int} {a b : Int32} (hd : decode cc pc = .ok (.if_icmp .lt o, 3)) (ht : (pc : Int) + o = (tgt : Int)) (kt : a < b → J w y cc mL rt R X Qf tgt L S n h ca sl) (kf : ¬ a < b → J w y cc mL rt R X Qf (pc + 3) L S n h ca sl) : J w y cc mL rt R X Qf pc L (.int b :: .int a :: S) n h ca sl := by
  intro p e s m args below meth c C ls H locs hl hP hS
  exact lv_icmp_lt C.1 C.2.1 hd ht (fun q => kt q p e s m args below meth c C ls H locs hl hP hS) (fun q => kf q p e s m args below meth c C ls H locs hl hP hS)
theorem J.if_lt (pc tgt : Nat) {o : Int} {a : Int32} (hd : decode cc pc = .ok (.ifCond .lt o, 3)) (ht : (pc : Int) + o = (tgt : Int)) (kt : a < 0 → J w y cc mL rt R X Qf tgt L S n h ca sl) (kf : ¬ a < 0 → J w y cc mL rt R X Qf (pc + 3) L S n h ca sl) : J w y cc mL rt R X Qf pc L (.int a :: S) n h ca sl := by
  intro p e s m args below meth c C ls H locs hl hP hS
  exact lv_if_lt C.1 C.2.1 hd ht (fun q => kt q p e s m args below meth c C ls H locs hl hP hS) (fun q => kf q p e s m args below meth c C ls H locs hl hP hS)
theorem J.icmp_ge (pc tgt : Nat) {o : Int} {a b : Int32} (hd : decode cc pc = .ok (.if_icmp .ge o, 3)) (ht : (pc : Int) + o = (tgt : Int)) (kt : b ≤ a → J w y cc mL rt R X Qf tgt L S n h ca sl) (kf : ¬ b ≤ a → J w y cc mL rt R X Qf (pc + 3) L S n h ca sl) : J w y cc mL rt R X Qf pc L (.int b :: .int a :: S) n h ca sl := by
  intro p e s m args below meth c C ls H locs hl hP hS
  exact lv_icmp_ge C.1 C.2.1 hd ht (fun q => kt q p e s m args below meth c C ls H locs hl hP hS) (fun q => kf q p e s m args below meth c C ls H locs hl hP hS)
theorem J.if_ge (pc tgt : Nat) {o : Int} {a : Int32} (hd : decode cc pc = .ok (.ifCond .ge o, 3)) (ht : (pc : Int) + o = (tgt : Int)) (kt : 0 ≤ a → J w y cc mL rt R X Qf tgt L S n h ca sl) (kf : ¬ 0 ≤ a → J w y cc mL rt R X Qf (pc + 3) L S n h ca sl) : J w y cc mL rt R X Qf pc L (.int a :: S) n h ca sl := by
  intro p e s m args below meth c C ls H locs hl hP hS
  exact lv_if_ge C.1 C.2.1 hd ht (fun q => kt q p e s m args below meth c C ls H locs hl hP hS) (fun q => kf q p e s m args below meth c C ls H locs hl hP hS)
theorem J.icmp_gt (pc tgt : Nat) {o : Int} {a b : Int32} (hd : decode cc pc = .ok (.if_icmp .gt o, 3)) (ht : (pc : Int) + o = (tgt : Int)) (kt : b < a → J w y cc mL rt R X Qf tgt L S n h ca sl) (kf : ¬ b < a → J w y cc mL rt R X Qf (pc + 3) L S n h ca sl) : J w y cc mL rt R X Qf pc L (.int b :: .int a :: S) n h ca sl := by
  intro p e s m args below meth c C ls H locs hl hP hS
  exact lv_icmp_gt C.1 C.2.1 hd ht (fun q => kt q p e s m args below meth c C ls H locs hl hP hS) (fun q => kf q p e s m args below meth c C ls H locs hl hP hS)
theorem J.if_gt (pc tgt : Nat) {o : Int} {a : Int32} (hd : decode cc pc = .ok (.ifCond .gt o, 3)) (ht : (pc : Int) + o = (tgt : Int)) (kt : 0 < a → J w y cc mL rt R X Qf tgt L S n h ca sl) (kf : ¬ 0 < a → J w y cc mL rt R X Qf (pc + 3) L S n h ca sl) : J w y cc mL rt R X Qf pc L (.int a :: S) n h ca sl := by
  intro p e s m args below meth c C ls H locs hl hP hS
  exact lv_if_gt C.1 C.2.1 hd ht (fun q => kt q p e s m args below meth c C ls H locs hl hP hS) (fun q => kf q p e s m args below meth c C ls H locs hl hP hS)
theorem J.icmp_le (pc tgt : Nat) {o : Int} {a b : Int32} (hd : decode cc pc = .ok (.if_icmp .le o, 3)) (ht : (pc : Int) + o = (tgt : Int)) (kt : a ≤ b → J w y cc mL rt R X Qf tgt L S n h ca sl) (kf : ¬ a ≤ b → J w y cc mL rt R X Qf (pc + 3) L S n h ca sl) : J w y cc mL rt R X Qf pc L (.int b :: .int a :: S) n h ca sl := by
  intro p e s m args below meth c C ls H locs hl hP hS
  exact lv_icmp_le C.1 C.2.1 hd ht (fun q => kt q p e s m args below meth c C ls H locs hl hP hS) (fun q => kf q p e s m args below meth c C ls H locs hl hP hS)
theorem J.if_le (pc tgt : Nat) {o : Int} {a : Int32} (hd : decode cc pc = .ok (.ifCond .le o, 3)) (ht : (pc : Int) + o = (tgt : Int)) (kt : a ≤ 0 → J w y cc mL rt R X Qf tgt L S n h ca sl) (kf : ¬ a ≤ 0 → J w y cc mL rt R X Qf (pc + 3) L S n h ca sl) : J w y cc mL rt R X Qf pc L (.int a :: S) n h ca sl := by
  intro p e s m args below meth c C ls H locs hl hP hS
  exact lv_if_le C.1 C.2.1 hd ht (fun q => kt q p e s m args below meth c C ls H locs hl hP hS) (fun q => kf q p e s m args below meth c C ls H locs hl hP hS)
theorem J.goto (pc tgt : Nat) {o : Int} (hd : decode cc pc = .ok (.goto o, 3)) (ht : (pc : Int) + o = (tgt : Int)) (k : J w y cc mL rt R X Qf tgt L S n h ca sl) : J w y cc mL rt R X Qf pc L S n h ca sl := by
  intro p e s m args below meth c C ls H locs hl hP hS
  exact lv_goto C.1 C.2.1 hd ht (k p e s m args below meth c C ls H locs hl hP hS)
theorem J.tableIn (pc tgt : Nat) {d lo hi o : Int} {os : Array Int} {ln : Nat} {a : Int32} (hd : decode cc pc = .ok (.tableswitch d lo hi os, ln)) (h1 : ¬ a.toInt < lo) (h2 : ¬ hi < a.toInt) (ho : os[(a.toInt - lo).toNat]? = some o) (ht : (pc : Int) + o = (tgt : Int)) (k : J w y cc mL rt R X Qf tgt L S n h ca sl) : J w y cc mL rt R X Qf pc L (.int a :: S) n h ca sl := by
  intro p e s m args below meth c C ls H locs hl hP hS
  exact lv_tableIn C.1 C.2.1 hd h1 h2 ho ht (k p e s m args below meth c C ls H locs hl hP hS)
theorem J.tableOut (pc tgt : Nat) {d lo hi : Int} {os : Array Int} {ln : Nat} {a : Int32} (hd : decode cc pc = .ok (.tableswitch d lo hi os, ln)) (h1 : a.toInt < lo ∨ hi < a.toInt) (ht : (pc : Int) + d = (tgt : Int)) (k : J w y cc mL rt R X Qf tgt L S n h ca sl) : J w y cc mL rt R X Qf pc L (.int a :: S) n h ca sl := by
  intro p e s m args below meth c C ls H locs hl hP hS
  exact lv_tableOut C.1 C.2.1 hd h1 ht (k p e s m args below meth c C ls H locs hl hP hS)
theorem J.lookup (pc tgt : Nat) {d o : Int} {ps : Array (Int × Int)} {ln : Nat} {a : Int32} (hd : decode cc pc = .ok (.lookupswitch d ps, ln)) (hp : (ps.toList.zip (ps.toList.drop 1)).all (fun (a, next) => a.1 < next.1) = true) (ho : Op.lookupswitch.offset ps.toList d a.toInt = o) (ht : (pc : Int) + o = (tgt : Int)) (k : J w y cc mL rt R X Qf tgt L S n h ca sl) : J w y cc mL rt R X Qf pc L (.int a :: S) n h ca sl := by
  intro p e s m args below meth c C ls H locs hl hP hS
  exact lv_lookup C.1 C.2.1 hd hp ho ht (k p e s m args below meth c C ls H locs hl hP hS)
theorem J.locals {L' : List (Nat × Value)} {pc : Nat} (hs : ∀ q ∈ L', q ∈ L) (k : J w y cc mL rt R X Qf pc L' S n h ca sl) : J w y cc mL rt R X Qf pc L S n h ca sl := by
  intro p e s m args below meth c C ls H locs hl hP hS
  exact k p e s m args below meth c C ls H locs ⟨hl.1, hl.2.1, fun q hq => hl.2.2 q (hs q hq)⟩ hP hS
theorem J.drop (i : Nat) {pc : Nat} (k : J w y cc mL rt R X Qf pc (ldrop L i) S n h ca sl) : J w y cc mL rt R X Qf pc L S n h ca sl := J.locals (fun q hq => (List.mem_filter.mp hq).1) k
theorem J.heap {h' : Nat → va_E} {pc : Nat} (he : h = h') (k : J w y cc mL rt R X Qf pc L S n h' ca sl) : J w y cc mL rt R X Qf pc L S n h ca sl := by
  subst he
  exact k
theorem J.top {pc : Nat} {a b : Int32} (he : a = b) (k : J w y cc mL rt R X Qf pc L (.int b :: S) n h ca sl) : J w y cc mL rt R X Qf pc L (.int a :: S) n h ca sl := by
  subst he
  exact k
theorem J.widen {pc k1 k2 : Nat} (h1 : ca ≤ k1) (h2 : sl ≤ k2) (k : J w y cc mL rt R X Qf pc L S n h k1 k2) : J w y cc mL rt R X Qf pc L S n h ca sl := by
  intro p e s m args below meth c C ls H locs hl hP hS
  exact W.widen h1 h2 (k p e s m args below meth c C ls H locs hl hP hS)
end JR
section JE
variable {w : Wd} {y : MethodName} {cc : ByteArray} {mL : Nat} {R : Room} {X : Array Value → State → Prop} {L : List (Nat × Value)} {n : Nat} {h : Nat → va_E} {mc ms : Nat} {post : Po}
theorem QJ.end {s t : State} {H : Heap} {locs : List Loc} {args : Array Value} {r : Option Value} (hP : PP w n h H) (hS : va_S (fun q : Nat => wN w ≤ q) s.heap H locs) (hN : wN w ≤ s.heap.size) (hp : post r h) (ht : t.heap = H) : QJ w n post args s (.returned r) t :=
  ⟨r, h, rfl, hp, by rw [ht]; exact hP, by rw [ht]; exact hS.1, fun q hq => by rw [ht]; exact hS.2.1 q (Nat.lt_of_lt_of_le hq hN) (Nat.not_le.mpr hq)⟩
theorem J.iret (pc : Nat) {v : Int32} (hd : decode cc pc = .ok (.ireturn, 1)) (hp : post (some (.int v)) h) : J w y cc mL (some .int) R X (ZJ w n mc ms post) pc L [.int v] n h mc ms := by
  intro p e s m args below meth c C ls H locs hl hP hS
  exact W.iret C.1 C.2.1 C.2.2.2.1 (fun t ht _ => QJ.end hP hS C.2.2.2.2.2.2.2.2.2.1 hp ht) hS.2.2 hd C.2.2.2.2.1
theorem J.zret (pc : Nat) {v : Int32} (hd : decode cc pc = .ok (.ireturn, 1)) (hb : v = 0 ∨ v = 1) (hp : post (some (.int v)) h) : J w y cc mL (some .boolean) R X (ZJ w n mc ms post) pc L [.int v] n h mc ms := by
  intro p e s m args below meth c C ls H locs hl hP hS
  exact W.zret C.1 C.2.1 C.2.2.2.1 (by rcases hb with rfl | rfl <;> rfl) (fun t ht _ => QJ.end hP hS C.2.2.2.2.2.2.2.2.2.1 hp ht) hS.2.2 hd C.2.2.2.2.1
theorem J.vret (pc : Nat) (hd : decode cc pc = .ok (.return_, 1)) (hp : post none h) : J w y cc mL none R X (ZJ w n mc ms post) pc L [] n h mc ms := by
  intro p e s m args below meth c C ls H locs hl hP hS
  exact W.vret C.1 C.2.1 C.2.2.2.1 (fun t ht _ => QJ.end hP hS C.2.2.2.2.2.2.2.2.2.1 hp ht) hS.2.2 hd C.2.2.2.2.1
end JE
end
section
/-! ===== rows of J that touch the heap ===== -/
theorem PP.set {w : Wd} {n : Nat} {h : Nat → va_E} {H H1 : Heap} {k : Nat} {e : va_E} (hP : PP w n h H) (hk : k < n) (he : va_at (wD w) vwCl (wN w + k, e) H1) (hz : H1.size = H.size) (oq : ∀ q : Nat, q ≠ wN w + k → H1[q]? = H[q]?) : PP w n (va_up h k e) H1 :=
  ⟨by rw [hz]; exact hP.1, by rw [← wsn_set]; exact hP.2.set (wsn_D w n h) (wsn_get w h hk) he oq⟩
theorem PP.push {w : Wd} {n : Nat} {h : Nat → va_E} {H H1 : Heap} {e : va_E} (hP : PP w n h H) (he : va_at (wD w) vwCl (wN w + n, e) H1) (hz : H1.size = H.size + 1) (oq : ∀ q : Nat, q < H.size → H1[q]? = H[q]?) : PP w (n + 1) (va_up h n e) H1 := by
  refine ⟨by rw [hz, hP.1]; omega, ?_⟩
  rw [← wsn_push]
  refine (hP.2.kept (fun k q hq => oq q.1 (hP.2 k q hq).lt)).app (fun k q hq => ?_)
  have hz : k < 1 := (List.getElem?_eq_some_iff.mp hq).1
  rw [show k = 0 by omega] at hq
  cases hq
  exact he
theorem PP.at {w : Wd} {n : Nat} {h : Nat → va_E} {H : Heap} {k : Nat} {e : va_E} (hP : PP w n h H) (hk : k < n) (he : h k = e) : va_at (wD w) vwCl (wN w + k, e) H := by
  rw [← he]
  exact hP.2 k _ (wsn_get w h hk)
theorem vaS_push {A : Nat → Prop} {H0 H H1 : Heap} {locs : List Loc} (hS : va_S A H0 H locs) (hz : H1.size = H.size + 1) (oq : ∀ q : Nat, q < H.size → H1[q]? = H[q]?) : va_S A H0 H1 locs :=
  ⟨Nat.le_trans hS.1 (by omega), fun x h1 h2 => (oq x (Nat.lt_of_lt_of_le h1 hS.1)).trans (hS.2.1 x h1 h2), hS.2.2⟩
/-- a field's link out of a class, and what the tables say of the field -/
def FL (own : String) (idx ci j : Nat) : Prop := ∃ (C : String) (T : u_T) (Nf : Nat), vwCl[ci]? = some (C, T, Nf) ∧ j < Nf ∧ (∀ x ∈ u_ws C T Nf, x ∈ AG) ∧ (T j).1 = C ∧
  (Cond.fieldLink own idx C (T j).2.1 (T j).2.2.1 ∈ AG ∨ ∃ host, Cond.fieldLinkNest own idx C (T j).2.1 (T j).2.2.1 host ∈ lw_tbl)
def FP (ci j : Nat) (ty : FieldType) (fin : Bool) : Prop := ∃ (C : String) (T : u_T) (Nf : Nat) (ty0 : Nat → FieldType), vwCl[ci]? = some (C, T, Nf) ∧ (∀ k, k < Nf → parseFieldDescriptor (T k).2.2.1 = some (ty0 k)) ∧ (∀ a, a < Nf → ∀ b, b < Nf → a ≠ b → (T a).2.1 ≠ (T b).2.1) ∧ (T j).2.2.2 = fin ∧ parseFieldDescriptor (T j).2.2.1 = some ty
section JH
variable {w : Wd} {y : MethodName} {cc : ByteArray} {mL : Nat} {rt : Option FieldType} {R : Room} {X : Array Value → State → Prop} {Qf : List Frame → Array Value → State → State → Prop} {L : List (Nat × Value)} {S : List Value} {n : Nat} {h : Nat → va_E} {ca sl : Nat}
theorem J.getf (pc : Nat) {idx k ci j : Nat} {fs : List Value} {v : Value} (hd : decode cc pc = .ok (.getfield idx, 3)) (hF : FL y.cls idx ci j) (hk : k < n) (he : h k = .inr (ci, fs)) (hf : fs[j]? = some v) (kk : J w y cc mL rt R X Qf (pc + 3) L (v :: S) n h ca sl) : J w y cc mL rt R X Qf pc L (.ref (wN w + k) :: S) n h ca sl := by
  intro p e s m args below meth c C ls H locs hl hP hS
  obtain ⟨hx, hb, hml, hr, hlk, hnm, hown, hts, hK, hN, hX⟩ := id C
  obtain ⟨D, T, Nf, hc, hj, hin, hsm, hlink⟩ := hF
  have hw : (wsn w n h)[k]? = some (wN w + k, .inr (ci, fs)) := by rw [wsn_get w h hk, he]
  rcases hlink with hlink | ⟨host, hlink⟩
  · exact va_get hx hb hts hin hown hK.1 hP.2 k hw hc j hj (hts _ hlink) (fun x hx => by rw [hsm] at hx; exact hx) hf hd (kk p e s m args below meth c C ls H locs hl hP hS)
  · exact va_getN hx hb hts hin hown hK.1 hP.2 k hw hc j hj (va_Nw.use rfl (hK.2.1 _ hlink rfl)) (fun x hx => by rw [hsm] at hx; exact hx) hf hd (kk p e s m args below meth c C ls H locs hl hP hS)
theorem J.putf (pc : Nat) {idx k ci j : Nat} {fs : List Value} {v : Value} {ty : FieldType} (hd : decode cc pc = .ok (.putfield idx, 3)) (hF : FL y.cls idx ci j) (hQ : FP ci j ty false) (hk : k < n) (he : h k = .inr (ci, fs)) (hj : j < fs.length) (hn : narrow ty v = v) (hfit : fits ty v = true) (kk : J w y cc mL rt R X Qf (pc + 3) L S n (va_up h k (.inr (ci, fs.set j v))) ca sl) : J w y cc mL rt R X Qf pc L (v :: .ref (wN w + k) :: S) n h ca sl := by
  intro p e s m args below meth c C ls H locs hl hP hS
  obtain ⟨hx, hb, hml, hr, hlk, hnm, hown, hts, hK, hN, hX⟩ := id C
  obtain ⟨D, T, Nf, hc, hj9, hin, hsm, hlink⟩ := hF
  obtain ⟨D', T', Nf', ty0, hc', hty, hne, hfin, hd2⟩ := hQ
  have heq := Option.some.inj (hc.symm.trans hc')
  cases heq
  have hap := va_apart (own := y.cls) hts hin ty0 hty hne hK.1 hc
  obtain ⟨r, h1, cell, q1, q2, q3, q4⟩ := hP.at hk he
  have hr9 : r = (D, T, Nf) := Option.some.inj (h1.symm.trans hc)
  subst hr9
  obtain ⟨hS9, hfc, kC, hkC, hkind⟩ := hK.1.1 ci _ hc
  obtain ⟨cf, kf, fi, f, hi, hsl⟩ := hS9 j hj9
  have hlay := hts _ (hin _ (u_in_lay hj9))
  unfold u_lay at hlay
  rw [if_neg (by rw [hfin]; decide)] at hlay
  have hst := (u_facts hfc hkC (u_lays hts hin hj9) hi).1
  have h6 := u_store hfc hkC hkind hlay hi hd2 hn hfit
  rcases hlink with hlink | ⟨host, hlink⟩
  · refine W.putK hx hb (f := f) ⟨hown, hts _ hlink, ⟨_, _, _, by rw [hsm] at hi; exact hi⟩, hst⟩ (by rw [q2]; exact h6) q1 q3 (by rw [hsl]; exact k2_hasslot (q4 j hj9)) rfl rfl hd fun H' e1 e2 e3 => ?_
    rw [hsl] at e1 ⊢
    exact kk p e s m args below meth c C ls H' _ hl (hP.set hk ⟨_, hc, t_OB.to (V := updV (vp_V fs) j v) ⟨_, e1, q2, q3, t_set q4 hap hj9 v⟩ (fun i _ => vp_updV_set hj v i)⟩ e2 e3) (hS.put e2 e3 (Nat.le_add_right _ _))
  · refine va_WputK hx hb (f := f) hown (va_Nw.use rfl (hK.2.1 _ hlink rfl)) (by rw [hsm] at hi; exact hi) hst (by rw [q2]; exact h6) q1 q3 (by rw [hsl]; exact k2_hasslot (q4 j hj9)) rfl rfl hd fun H' e1 e2 e3 => ?_
    rw [hsl] at e1 ⊢
    exact kk p e s m args below meth c C ls H' _ hl (hP.set hk ⟨_, hc, t_OB.to (V := updV (vp_V fs) j v) ⟨_, e1, q2, q3, t_set q4 hap hj9 v⟩ (fun i _ => vp_updV_set hj v i)⟩ e2 e3) (hS.put e2 e3 (Nat.le_add_right _ _))
theorem J.putF (pc : Nat) {idx k ci j : Nat} {fs : List Value} {v : Value} {ty : FieldType} (hd : decode cc pc = .ok (.putfield idx, 3)) (hF : ∃ (T : u_T) (Nf : Nat), vwCl[ci]? = some (y.cls, T, Nf) ∧ j < Nf ∧ (∀ x ∈ u_ws y.cls T Nf, x ∈ AG) ∧ (T j).1 = y.cls ∧ Cond.fieldLink y.cls idx y.cls (T j).2.1 (T j).2.2.1 ∈ AG) (hQ : FP ci j ty true) (hini : y.name = "<init>") (hk : k < n) (he : h k = .inr (ci, fs)) (hj : j < fs.length) (hn : narrow ty v = v) (hfit : fits ty v = true) (kk : J w y cc mL rt R X Qf (pc + 3) L S n (va_up h k (.inr (ci, fs.set j v))) ca sl) : J w y cc mL rt R X Qf pc L (v :: .ref (wN w + k) :: S) n h ca sl := by
  intro p e s m args below meth c C ls H locs hl hP hS
  obtain ⟨hx, hb, hml, hr, hlk, hnm, hown, hts, hK, hN, hX⟩ := id C
  obtain ⟨T, Nf, hc, hj9, hin, hsm, hlink⟩ := hF
  obtain ⟨D', T', Nf', ty0, hc', hty, hne, hfin, hd2⟩ := hQ
  have heq := Option.some.inj (hc.symm.trans hc')
  cases heq
  have hap := va_apart (own := y.cls) hts hin ty0 hty hne hK.1 hc
  obtain ⟨r, h1, cell, q1, q2, q3, q4⟩ := hP.at hk he
  have hr9 : r = (y.cls, T, Nf) := Option.some.inj (h1.symm.trans hc)
  subst hr9
  obtain ⟨hS9, hfc, kC, hkC, hkind⟩ := hK.1.1 ci _ hc
  obtain ⟨cf, kf, fi, f, hi, hsl⟩ := hS9 j hj9
  have hlay := hts _ (hin _ (u_in_lay hj9))
  unfold u_lay at hlay
  rw [if_pos hfin] at hlay
  have hst := (u_facts hfc hkC (u_lays hts hin hj9) hi).1
  have hcf : m.cls = cf := by
    obtain ⟨_, _, c', _, _, _, -, -, hf', -, -, -, hown2, -⟩ := Cond.laysFinal_spec hlay
    have e1 : c' = cf := by have := hi.symm.trans hf'; simp at this; exact this.1.symm
    rw [hsm] at hown2
    rw [← e1]; exact Option.some.inj (hown.symm.trans hown2)
  have h6 := u_fits hfc hkC hkind (Or.inr hlay) hi hd2 hn hfit
  refine W.putFinK hx hb hown (hts _ hlink) (by rw [hsm] at hi; exact hi) hst hcf (by rw [hnm]; exact hini) (by rw [q2]; exact h6) q1 q3 (by rw [hsl]; exact k2_hasslot (q4 j hj9)) rfl rfl hd fun H' e1 e2 e3 => ?_
  rw [hsl] at e1 ⊢
  exact kk p e s m args below meth c C ls H' _ hl (hP.set hk ⟨_, hc, t_OB.to (V := updV (vp_V fs) j v) ⟨_, e1, q2, q3, t_set q4 hap hj9 v⟩ (fun i _ => vp_updV_set hj v i)⟩ e2 e3) (hS.put e2 e3 (Nat.le_add_right _ _))
theorem J.iald (pc : Nat) {k N' : Nat} {f : Nat → Int32} {i : Int32} (hd : decode cc pc = .ok (.iaload, 1)) (hk : k < n) (he : h k = .inl (wI w, N', .inl f)) (hi : vp_in i N') (kk : J w y cc mL rt R X Qf (pc + 1) L (.int (f i.toNatClampNeg) :: S) n h ca sl) : J w y cc mL rt R X Qf pc L (.int i :: .ref (wN w + k) :: S) n h ca sl := by
  intro p e s m args below meth c C ls H locs hl hP hS
  obtain ⟨hx, hb, hml, hr, hlk, hnm, hown, hts, hK, hN, hX⟩ := id C
  exact va_iald hx hb hK.1 hP.2 k 0 (by rw [wsn_get w h hk, he]) rfl hi hd (kk p e s m args below meth c C ls H locs hl hP hS)
theorem J.zald (pc : Nat) {k N' : Nat} {f : Nat → Int32} {i : Int32} (hd : decode cc pc = .ok (.baload, 1)) (hk : k < n) (he : h k = .inl (wZ w, N', .inl f)) (hi : vp_in i N') (kk : J w y cc mL rt R X Qf (pc + 1) L (.int (f i.toNatClampNeg) :: S) n h ca sl) : J w y cc mL rt R X Qf pc L (.int i :: .ref (wN w + k) :: S) n h ca sl := by
  intro p e s m args below meth c C ls H locs hl hP hS
  obtain ⟨hx, hb, hml, hr, hlk, hnm, hown, hts, hK, hN, hX⟩ := id C
  exact va_zald hx hb hK.1 hP.2 k 1 (by rw [wsn_get w h hk, he]) rfl hi hd (kk p e s m args below meth c C ls H locs hl hP hS)
theorem J.aald (pc : Nat) {k N' : Nat} {f : Nat → Option Nat} {i : Int32} (hd : decode cc pc = .ok (.aaload, 1)) (hk : k < n) (he : h k = .inl (wS w, N', .inr (.inr (.inr (.inr f))))) (hi : vp_in i N') (v : Value) (hv : va_rf (f i.toNatClampNeg) = v) (kk : J w y cc mL rt R X Qf (pc + 1) L (v :: S) n h ca sl) : J w y cc mL rt R X Qf pc L (.int i :: .ref (wN w + k) :: S) n h ca sl := by
  intro p e s m args below meth c C ls H locs hl hP hS
  obtain ⟨hx, hb, hml, hr, hlk, hnm, hown, hts, hK, hN, hX⟩ := id C
  subst hv
  exact va_aldq hx hb hK.1 hP.2 k 2 (by rw [wsn_get w h hk, he]) rfl hi hd (kk p e s m args below meth c C ls H locs hl hP hS)
theorem J.alen (pc : Nat) {k N' : Nat} {f : Nat → Int32} (hd : decode cc pc = .ok (.arraylength, 1)) (hk : k < n) (he : h k = .inl (wI w, N', .inl f)) (kk : J w y cc mL rt R X Qf (pc + 1) L (.int (nI N') :: S) n h ca sl) : J w y cc mL rt R X Qf pc L (.ref (wN w + k) :: S) n h ca sl := by
  intro p e s m args below meth c C ls H locs hl hP hS
  obtain ⟨hx, hb, hml, hr, hlk, hnm, hown, hts, hK, hN, hX⟩ := id C
  exact va_alen hx hb hK.1 hP.2 k 0 (x := (N', .inl f)) (by rw [wsn_get w h hk, he]) rfl rfl hd (kk p e s m args below meth c C ls H locs hl hP hS)
theorem J.iast (pc : Nat) {k N' : Nat} {f : Nat → Int32} {i x : Int32} (hd : decode cc pc = .ok (.iastore, 1)) (hk : k < n) (he : h k = .inl (wI w, N', .inl f)) (hi : vp_in i N') (kk : J w y cc mL rt R X Qf (pc + 1) L S n (va_up h k (.inl (wI w, N', .inl (upd f i.toNatClampNeg x)))) ca sl) : J w y cc mL rt R X Qf pc L (.int x :: .int i :: .ref (wN w + k) :: S) n h ca sl := by
  intro p e s m args below meth c C ls H locs hl hP hS
  obtain ⟨hx, hb, hml, hr, hlk, hnm, hown, hts, hK, hN, hX⟩ := id C
  refine W.iast hx hb (hP.at hk he) ((hK.1.2 0 _ rfl).1 N' (fun j => .int (f j))) (fun q => by cases q) (by show ¬ (i < 0 ∨ (arrV _ _ _).slots.size ≤ _); rw [arrV_size]; exact hi) rfl rfl hd fun H1 e1 z oq => ?_
  refine kk p e s m args below meth c C ls H1 _ hl (hP.set hk ?_ z oq) (hS.put z oq (Nat.le_add_right _ _))
  show H1[_]? = some (vp_cell _ _)
  rw [e1, vp_cell_i, vp_cell_i, arrV_store]
  congr 2
  funext q
  by_cases hq : q = i.toNatClampNeg
  · subst hq
    simp [updV, upd]
  · simp [updV, upd, hq]
theorem J.zast (pc : Nat) {k N' : Nat} {f : Nat → Int32} {i x : Int32} (hd : decode cc pc = .ok (.bastore, 1)) (hk : k < n) (he : h k = .inl (wZ w, N', .inl f)) (hi : vp_in i N') (hb01 : x = 0 ∨ x = 1) (kk : J w y cc mL rt R X Qf (pc + 1) L S n (va_up h k (.inl (wZ w, N', .inl (upd f i.toNatClampNeg x)))) ca sl) : J w y cc mL rt R X Qf pc L (.int x :: .int i :: .ref (wN w + k) :: S) n h ca sl := by
  intro p e s m args below meth c C ls H locs hl hP hS
  obtain ⟨hx, hb, hml, hr, hlk, hnm, hown, hts, hK, hN, hX⟩ := id C
  refine W.zast hx hb (hP.at hk he) ((hK.1.2 1 _ rfl).1 N' (fun j => .int (f j))) (fun q => by cases q) (by show ¬ (i < 0 ∨ (arrV _ _ _).slots.size ≤ _); rw [arrV_size]; exact hi) rfl rfl hd fun H1 e1 z oq => ?_
  refine kk p e s m args below meth c C ls H1 _ hl (hP.set hk ?_ z oq) (hS.put z oq (Nat.le_add_right _ _))
  show H1[_]? = some (vp_cell _ _)
  have hnar : narrow .boolean (.int x) = .int x := by rcases hb01 with rfl | rfl <;> rfl
  rw [e1, hnar, vp_cell_i, vp_cell_i, arrV_store]
  congr 2
  funext q
  by_cases hq : q = i.toNatClampNeg
  · subst hq
    simp [updV, upd]
  · simp [updV, upd, hq]
theorem J.aast (pc : Nat) {k N' j ci : Nat} {vs : List Value} {r : vw_C} {f : Nat → Option Nat} {i : Int32} (hd : decode cc pc = .ok (.aastore, 1)) (hk : k < n) (he : h k = .inl (wS w, N', .inr (.inr (.inr (.inr f))))) (hj : j < n) (hv : h j = .inr (ci, vs)) (hc : vwCl[ci]? = some r) (hr1 : r.1 = "LiarClocks$State") (hi : vp_in i N') (kk : J w y cc mL rt R X Qf (pc + 1) L S n (va_up h k (.inl (wS w, N', .inr (.inr (.inr (.inr (va_up f i.toNatClampNeg (some (wN w + j)))))))) ) ca sl) : J w y cc mL rt R X Qf pc L (.ref (wN w + j) :: .int i :: .ref (wN w + k) :: S) n h ca sl := by
  intro p e s m args below meth c C ls H locs hl hP hS
  obtain ⟨hx, hb, hml, hr, hlk, hnm, hown, hts, hK, hN, hX⟩ := id C
  have hlt : i.toNatClampNeg < N' := Nat.not_le.mp fun q => hi (Or.inr q)
  have h0 : ¬ i < 0 := fun q => hi (Or.inl q)
  obtain ⟨r', hr', cellV, g1, g2, g3, -⟩ := hP.at hj hv
  have hcls := (hK.1.1 ci r hc).2
  obtain ⟨kA, comp, k1, k2, k3, -⟩ := (hK.1.2 2 _ rfl).2
  have hcomp : comp = (wD w).1 ci := Option.some.inj (k3.symm.trans (by rw [← hr1]; exact hcls.1))
  subst hcomp
  obtain ⟨kC, hkC, -⟩ := hcls.2
  refine W.aast hx hb (hP.at hk he) (fun q h => by cases h) (fun h => by cases h) k1 k2 rfl hkC ⟨h0, by show _ < (arrV _ _ _).slots.size; rw [arrV_size]; exact hlt⟩ g1 (fun q h => by rw [g3] at h; cases h) (by rw [g2]; exact hkC) (by rw [g2]; exact va_assign hcls) rfl rfl hd fun H1 e1 z oq => ?_
  refine kk p e s m args below meth c C ls H1 _ hl (hP.set hk ?_ z oq) (hS.put z oq (Nat.le_add_right _ _))
  show H1[_]? = some (vp_cell _ _)
  rw [e1, vp_cell_q, vp_cell_q, arrV_store]
  congr 2
  funext q
  by_cases hq : q = i.toNatClampNeg
  · subst hq
    simp [updV, va_up, va_rf]
  · simp [updV, va_up, hq]
theorem J.new (pc : Nat) {idx ci Nf : Nat} {Cn : String} {T : u_T} {ty : Nat → FieldType} (fs : List Value) (hd : decode cc pc = .ok (.new idx, 3)) (hc : vwCl[ci]? = some (Cn, T, Nf)) (hin : ∀ x ∈ u_ws Cn T Nf, x ∈ AG) (hty : ∀ k, k < Nf → parseFieldDescriptor (T k).2.2.1 = some (ty k)) (hcl : Cond.classLink y.cls idx Cn ∈ AG) (hinst : Cond.instantiable Cn Nf ∈ AG) (hini : Cond.initialized Cn ∈ AG) (hfs : ∀ j, j < Nf → defaultValue (ty j) = vp_V fs j) (hca : ca + 1 ≤ R.cells) (hsl : sl + Nf ≤ R.slots) (kk : J w y cc mL rt R X Qf (pc + 3) L (.ref (wN w + n) :: S) (n + 1) (va_up h n (.inr (ci, fs))) (ca + 1) (sl + Nf)) : J w y cc mL rt R X Qf pc L S n h ca sl := by
  intro p e s m args below meth c C ls H locs hl hP hS
  obtain ⟨hx, hb, hml, hr, hlk, hnm, hown, hts, hK, hN, hX⟩ := id C
  have hKn := hK.1.1 ci _ hc
  refine W.newcK hx hb hown (hts _ hcl) (hts _ hinst) (hts _ hini) rfl hd hca hsl hKn.2.1 hP.1 fun H1 kC hkC e1 z1 o1 => ?_
  have o2 : ∀ q : Nat, q < H.size → H1[q]? = H[q]? := fun q hq => o1 q (by rw [← hP.1]; exact hq)
  have z2 : H1.size = H.size + 1 := by rw [z1, hP.1]
  exact kk p e s m args below meth c C ls H1 locs hl (hP.push ⟨_, hc, (u_born ty hts hin hKn hkC e1 hty).to hfs⟩ z2 o2) (vaS_push hS z2 o2)
theorem J.newa (pc : Nat) {v : Int32} {N' : Nat} (hd : decode cc pc = .ok (.newarray .int, 2)) (harr : Cond.arrayClass .int ∈ AG) (hv : ¬ v < 0) (hN' : v.toNatClampNeg = N') (hby : N' * 4 ≤ 536870912) (hca : ca + 1 ≤ R.cells) (hsl : sl + N' ≤ R.slots) (kk : J w y cc mL rt R X Qf (pc + 2) L (.ref (wN w + n) :: S) (n + 1) (va_up h n (.inl (wI w, N', .inl (fun _ => 0)))) (ca + 1) (sl + N')) : J w y cc mL rt R X Qf pc L (.int v :: S) n h ca sl := by
  intro p e s m args below meth c C ls H locs hl hP hS
  obtain ⟨hx, hb, hml, hr, hlk, hnm, hown, hts, hK, hN, hX⟩ := id C
  refine va_newaK (atype := .int) hx hb (hts _ harr) rfl hd rfl hv hN' hby hca hsl hP.1 fun H1 cA e1 z1 o1 hAr hNm => ?_
  have o2 : ∀ q : Nat, q < H.size → H1[q]? = H[q]? := fun q hq => o1 q (by rw [← hP.1]; exact hq)
  have z2 : H1.size = H.size + 1 := by rw [z1, hP.1]
  have hcA : cA = wI w := Option.some.inj (hNm.symm.trans (hK.1.2 0 _ rfl).2)
  subst hcA
  exact kk p e s m args below meth c C ls H1 locs hl (hP.push e1 z2 o2) (vaS_push hS z2 o2)
theorem J.newz (pc : Nat) {v : Int32} {N' : Nat} (hd : decode cc pc = .ok (.newarray .boolean, 2)) (harr : Cond.arrayClass .boolean ∈ AG) (hv : ¬ v < 0) (hN' : v.toNatClampNeg = N') (hby : N' * 1 ≤ 536870912) (hca : ca + 1 ≤ R.cells) (hsl : sl + N' ≤ R.slots) (kk : J w y cc mL rt R X Qf (pc + 2) L (.ref (wN w + n) :: S) (n + 1) (va_up h n (.inl (wZ w, N', .inl (fun _ => 0)))) (ca + 1) (sl + N')) : J w y cc mL rt R X Qf pc L (.int v :: S) n h ca sl := by
  intro p e s m args below meth c C ls H locs hl hP hS
  obtain ⟨hx, hb, hml, hr, hlk, hnm, hown, hts, hK, hN, hX⟩ := id C
  refine va_newaK (atype := .boolean) hx hb (hts _ harr) rfl hd rfl hv hN' hby hca hsl hP.1 fun H1 cA e1 z1 o1 hAr hNm => ?_
  have o2 : ∀ q : Nat, q < H.size → H1[q]? = H[q]? := fun q hq => o1 q (by rw [← hP.1]; exact hq)
  have z2 : H1.size = H.size + 1 := by rw [z1, hP.1]
  have hcA : cA = wZ w := Option.some.inj (hNm.symm.trans (hK.1.2 1 _ rfl).2)
  subst hcA
  exact kk p e s m args below meth c C ls H1 locs hl (hP.push e1 z2 o2) (vaS_push hS z2 o2)
theorem J.anew (pc : Nat) {idx : Nat} {v : Int32} {N' : Nat} (hd : decode cc pc = .ok (.anewarray idx, 3)) (hcl : Cond.classLink y.cls idx "LiarClocks$State" ∈ AG) (hv : ¬ v < 0) (hN' : v.toNatClampNeg = N') (hby : N' * 4 ≤ 536870912) (hca : ca + 1 ≤ R.cells) (hsl : sl + N' ≤ R.slots) (kk : J w y cc mL rt R X Qf (pc + 3) L (.ref (wN w + n) :: S) (n + 1) (va_up h n (.inl (wS w, N', .inr (.inr (.inr (.inr (fun _ => none))))))) (ca + 1) (sl + N')) : J w y cc mL rt R X Qf pc L (.int v :: S) n h ca sl := by
  intro p e s m args below meth c C ls H locs hl hP hS
  obtain ⟨hx, hb, hml, hr, hlk, hnm, hown, hts, hK, hN, hX⟩ := id C
  subst hN'
  refine W.anew hx hb hown (hts _ hcl) (va_AO.use hK.2.2) rfl hd rfl hv hby hca hsl fun cA kA comp f1 f2 f3 f4 => ?_
  have hcA : cA = wS w := by
    obtain ⟨_, _, _, _, _, g⟩ := (hK.1.2 2 _ rfl).2
    exact Option.some.inj (f1.symm.trans g)
  subst hcA
  generalize hH1 : H.push ({ cls := wS w, slots := Array.replicate v.toNatClampNeg .null, vm := .none } : Cell) = H1
  have z1 : H1.size = H.size + 1 := by rw [← hH1, Array.size_push]
  have e1 : H1[H.size]? = some (arrV (wS w) v.toNatClampNeg (fun _ => .null)) := by rw [← hH1, Array.getElem?_push_size, ← arrV_new]
  have o1 : ∀ q : Nat, q < H.size → H1[q]? = H[q]? := fun q hq => by rw [← hH1, Array.getElem?_push, if_neg (Nat.ne_of_lt hq)]
  rw [hP.1] at e1 ⊢
  exact kk p e s m args below meth c C ls H1 locs hl (hP.push e1 z1 o1) (vaS_push hS z1 o1)
theorem J.objInit (pc : Nat) {idx a : Nat} (hd : decode cc pc = .ok (.invokespecial idx, 3)) (hl1 : Cond.methodLink y.cls idx objectInit ∈ AG) (hl2 : Cond.instanceMethod objectInit ∈ AG) (hl3 : Cond.code objectInit ⟨#[0xb1]⟩ 1 none ∈ AG) (hfr : 1 ≤ R.frames) (hlo : (S.map fun v => v.category).sum + 12 ≤ R.locals) (kk : J w y cc mL rt R X Qf (pc + 3) L S n h ca sl) : J w y cc mL rt R X Qf pc L (.ref a :: S) n h ca sl := by
  intro p e s m args below meth c C ls H locs hl hP hS
  obtain ⟨hx, hb, hml, hr, hlk, hnm, hown, hts, hK, hN, hX⟩ := id C
  refine W.objInit hx hb hown (hts _ hl1) (hts _ hl2) (hts _ hl3) rfl (by rw [hml]; exact hl.1) rfl hd hfr (by show 2 * 0 + _ + 12 ≤ _; omega) ?_
  exact kk p e s m args below meth c C ls H locs hl hP hS
/-- System.arraycopy from one int row of the world to another -/
theorem J.copy (pc : Nat) {idx k0 k1 n0 n1 : Nat} {f g : Nat → Int32} {sp dp nn : Int32} (hd : decode cc pc = .ok (.invokestatic idx, 3)) (hw1 : Cond.methodLink y.cls idx arraycopyName ∈ AG) (hw2 : Cond.native arraycopyName ∈ AG) (hw3 : Cond.static arraycopyName ∈ AG) (hw4 : Cond.initialized "java/lang/System" ∈ AG) (hk0 : k0 < n) (hk1 : k1 < n) (he0 : h k0 = .inl (wI w, n0, .inl f)) (he1 : h k1 = .inl (wI w, n1, .inl g))
    (h1 : ¬ sp < 0) (h2 : ¬ dp < 0) (h3 : ¬ nn < 0) (h4 : sp.toNatClampNeg + nn.toNatClampNeg ≤ n0) (h5 : dp.toNatClampNeg + nn.toNatClampNeg ≤ n1) (hfr : 1 ≤ R.frames) (hlo : (S.map fun v => v.category).sum + (nativeFrameWords "java/lang/System" "arraycopy" 5 + 11) ≤ R.locals)
    (kk : J w y cc mL rt R X Qf (pc + 3) L S n (va_up h k1 (.inl (wI w, n1, .inl (va_cpy f g sp.toNatClampNeg dp.toNatClampNeg nn.toNatClampNeg)))) ca sl) : J w y cc mL rt R X Qf pc L (.int nn :: .int dp :: .ref (wN w + k1) :: .int sp :: .ref (wN w + k0) :: S) n h ca sl := by
  intro p e s m args below meth c C ls H locs hl hP hS
  obtain ⟨hx, hb, hml, hr, hlk, hnm, hown, hts, hK, hN, hX⟩ := id C
  intro T hT X0
  have nni : ∀ z : Int32, ¬ z < 0 → z.toInt = (z.toNatClampNeg : Int) := by
    intro z hz
    have hz0 : (0 : Int) ≤ z.toInt := by
      have := Int32.not_lt.mp hz
      simpa using Int32.le_iff_toInt_le.mp this
    show z.toInt = ((z.toInt.toNat : Nat) : Int)
    omega
  have hc0 : H[wN w + k0]? = some (vp_cell (wI w) (n0, .inl f)) := hP.at hk0 he0
  have hc1 : H[wN w + k1]? = some (vp_cell (wI w) (n1, .inl g)) := hP.at hk1 he1
  obtain ⟨-, kc0, hkc0, cm0, hkk0⟩ := (hK.1.2 0 _ rfl).1 n0 (fun j => .int (f j))
  obtain ⟨-, kc1, hkc1, cm1, hkk1⟩ := (hK.1.2 0 _ rfl).1 n1 (fun j => .int (g j))
  obtain ⟨vm', X', step⟩ := X0.arraycopy hx hown (hts _ hw1) (hts _ hw2) (hts _ hw3) (hts _ hw4) (src := wN w + k0) (dst := wN w + k1) (cs := vp_cell (wI w) (n0, .inl f)) (cd := vp_cell (wI w) (n1, .inl g)) (srcPos := sp) (destPos := dp) (n := nn) (by rw [hT]; exact hc0) (by rw [hT]; exact hc1)
    (fun _ h => by cases h) (fun _ h => by cases h) (fun h => by cases h) (fun h => by cases h) hkc0 hkc1 hkk0 hkk1 (by simp [refKind]) h1 h2 h3
    (by rw [nni sp h1, nni nn h3]; show ¬ _ > ((arrV (wI w) n0 (fun j => .int (f j))).slots.size : Int); rw [arrV_size]; omega)
    (by rw [nni dp h2, nni nn h3]; show ¬ _ > ((arrV (wI w) n1 (fun j => .int (g j))).slots.size : Int); rw [arrV_size]; omega)
    (fun vm₁ _ i hi => by
      have e : (vp_cell (wI w) (n0, .inl f)).slots.getD (sp.toNatClampNeg + i) .null = .int (f (sp.toNatClampNeg + i)) := by
        show (arrV (wI w) n0 (fun j => .int (f j))).slots.getD _ _ = _
        rw [Array.getD_eq_getD_getElem?, arrV_read _ _ (by omega)]
        rfl
      refine ⟨?_, ?_⟩
      · rw [e]
        rfl
      · rw [e]
        exact trivial)
    (g := F0 m pc ls (.int nn :: .int dp :: .ref (wN w + k1) :: .int sp :: .ref (wN w + k0) :: S)) rfl (by rw [hml]; exact hl.1) (rest := S) rfl (by rw [hb]; exact hd) hfr (by show 2 * 0 + _ + _ ≤ _; omega)
  have e1 : copied (vp_cell (wI w) (n0, .inl f)) (vp_cell (wI w) (n1, .inl g)) sp dp nn = vp_cell (wI w) (n1, .inl (va_cpy f g sp.toNatClampNeg dp.toNatClampNeg nn.toNatClampNeg)) := va_copied (fun z => .int z) (wI w) (wI w) f g h4
  rw [e1] at X' step
  have hlt : wN w + k1 < H.size := (Array.getElem?_eq_some_iff.mp hc1).1
  generalize hgn : va_cpy f g sp.toNatClampNeg dp.toNatClampNeg nn.toNatClampNeg = gn at X' step kk
  have hheap : ((T.setVm vm').setCell (wN w + k1) (vp_cell (wI w) (n1, .inl gn))).heap = H.setIfInBounds (wN w + k1) (vp_cell (wI w) (n1, .inl gn)) := by rw [← hT]; rfl
  have oq : ∀ q : Nat, q ≠ wN w + k1 → (H.setIfInBounds (wN w + k1) (vp_cell (wI w) (n1, .inl gn)))[q]? = H[q]? := fun q hq => by simp [Array.getElem?_setIfInBounds, Ne.symm hq]
  obtain ⟨t, a1, b1⟩ := kk p e s m args below meth c C ls _ _ hl (hP.set hk1 (show (H.setIfInBounds (wN w + k1) _)[wN w + k1]? = some _ by simp [Array.getElem?_setIfInBounds, hlt]) (by simp) oq) ⟨by simp; exact hS.1, fun q g1 g2 => by
      rw [oq q (fun e => g2 (by rw [e]; exact Nat.le_add_right _ _))]
      exact hS.2.1 q g1 g2, fun q hq => by
      rcases List.mem_append.mp hq with h | h
      · exact hS.2.2 q h
      · obtain ⟨z, -, hz⟩ := List.mem_map.mp h
        rw [← hz]
        exact Nat.le_add_right _ _⟩ _ hheap X'
  exact ⟨t, step t a1, b1⟩
end JH
/-! calls -/
def MLk (own : String) (idx : Nat) (y' : MethodName) : Prop := Cond.methodLink own idx y' ∈ AG ∨ ∃ host, Cond.methodLinkNest own idx y' host ∈ lw_tbl
/-- what the tables say of a callee of np parameters -/
def MIn (y' : MethodName) (cc' : ByteArray) (mL' : Nat) (rt' : Option FieldType) (np : Nat) : Prop := Cond.code y' cc' mL' rt' ∈ AG ∧ Cond.initialized y'.cls ∈ AG ∧ (y'.cls ≠ "java/lang/invoke/MethodHandle" ∧ y'.cls ≠ "java/lang/invoke/VarHandle" ∧ (parseMethodDescriptor y'.desc).map (fun d => d.parameters.length) = some np)
def MIv (y' : MethodName) : Prop := Cond.instanceMethod y' ∈ AG ∧ Cond.selects y'.cls y' y' ∈ AG
def MIs (y' : MethodName) : Prop := Cond.static y' ∈ AG
theorem AG_GoodIn {y' : MethodName} {cc' : ByteArray} {mL' : Nat} {rt' : Option FieldType} (hc : Cond.code y' cc' mL' rt' ∈ AG) : GoodIn AG (.code y' cc' mL' rt' :: AG) := fun x hx => by
  have hm : x ∈ AG := (List.mem_cons.mp hx).elim (fun e => e ▸ hc) id
  exact ⟨hm, good_of_word (AG_good x hm)⟩
theorem PJ_blind {w : Wd} {n : Nat} {h : Nat → va_E} {av : List Value} : FrameBlind (PJ w n h av) := fun a U g mk q => ⟨q.1, q.2.1, KK.same (u := U) (U := U.calling g mk a) rfl q.2.2⟩
section JC
variable {w : Wd} {y : MethodName} {cc : ByteArray} {mL : Nat} {rt : Option FieldType} {R : Room} {X : Array Value → State → Prop} {Qf : List Frame → Array Value → State → State → Prop} {L : List (Nat × Value)} {S S0 : List Value} {n : Nat} {h : Nat → va_E} {ca sl : Nat}
variable {y' : MethodName} {cc' : ByteArray} {mL' : Nat} {rt' : Option FieldType} {R' : Room} {as : List Value} {n' : Nat} {post : Po}
theorem J.run {pc mc ms : Nat} {av : Array Value} (hr : ∀ (p : Program) (e : Env) (s : State) (m : MethodId) (args : Array Value) (below : List Frame) (meth : Method) (c : Code), Cx w y cc mL rt X p s m args meth c → ∀ (ls : Array Slot) (H : Heap) (locs : List Loc), lv_has ls mL L → PP w n h H → va_S (fun q : Nat => wN w ≤ q) s.heap H locs →
      va_Run p (wl w) e R s m args below meth c H locs ca sl mc ms (F0 m pc ls S0) S (QJ w n' post av) (fun q : Nat => wN w ≤ q))
    (kk : ∀ (r : Option Value) (h' : Nat → va_E), post r h' → J w y cc mL rt R X Qf (pc + 3) L (r.toList ++ S) n' h' (ca + mc) (sl + ms)) : J w y cc mL rt R X Qf pc L S0 n h ca sl := by
  intro p e s m args below meth c C ls H locs hl hP hS T hT X0
  obtain ⟨v, st₀, t, T', L9, h0, X', hL, e1, e2, ⟨r, h', hv, hp, hP', hz, hq⟩, st⟩ := hr p e s m args below meth c C ls H locs hl hP hS T hT X0
  cases hv
  rw [h0] at hz hq
  obtain ⟨t2, a1, b1⟩ := kk v h' hp p e s m args below meth c C ls T'.heap (locs ++ L9) hl (by rw [e1]; exact hP') ⟨Nat.le_trans hS.1 (by rw [e1]; exact hz), fun q g1 g2 => by
      rw [e1, hq q (Nat.not_le.mp g2)]
      exact hS.2.1 q g1 g2, fun q hq => by
      rcases List.mem_append.mp hq with g | g
      · exact hS.2.2 q g
      · exact hL q g⟩ T' rfl X'
  exact ⟨t2, st t2 a1, b1⟩
theorem J.callv (pc : Nat) {idx k ci np : Nat} {fs : List Value} {q : vw_C} (hd : decode cc pc = .ok (.invokevirtual idx, 3)) (hk9 : MLk y.cls idx y') (hi9 : MIn y' cc' mL' rt' np) (hv9 : MIv y') (hc9 : Ct w y' cc' mL' rt' R' (.ref (wN w + k) :: as) n h n' post) (hst : S0 = as.reverse ++ .ref (wN w + k) :: S) (hnp : as.length = np) (hW : (S.map fun v => v.category).sum ≤ 8) (hR : R'.frames + 1 ≤ R.frames ∧ 8 + (mL' + 11) + R'.locals ≤ R.locals) (hf : ca + R'.cells ≤ R.cells ∧ sl + R'.slots ≤ R.slots)
    (hk : k < n) (he : h k = .inr (ci, fs)) (hcl : vwCl[ci]? = some q) (hq1 : q.1 = y'.cls)
    (kk : ∀ (r : Option Value) (h' : Nat → va_E), post r h' → J w y cc mL rt R X Qf (pc + 3) L (r.toList ++ S) n' h' (ca + R'.cells) (sl + R'.slots)) : J w y cc mL rt R X Qf pc L S0 n h ca sl := by
  subst hst
  refine J.run (av := (.ref (wN w + k) :: as).toArray) ?_ kk
  intro p e s m args below meth c C ls H locs hl hP hS
  obtain ⟨hx, hb, hml, hr, hlk, hnm, hown, hts, hK, hN, hX⟩ := id C
  have hre := va_recv (q0 := k) hK.1 hP.2 hcl (by rw [wsn_get w h hk, he])
  rw [hq1] at hre
  have hpre : PreV s H y'.cls (wN w + k) (PJ w n h (.ref (wN w + k) :: as)) as := ⟨PJ_blind, hre, fun U hU hW => ⟨rfl, by rw [hU]; exact hP, hK.warm hW⟩⟩
  rcases hk9 with hk9 | ⟨host, hk9⟩
  · exact va_runV ⟨hx, hb, hml, hown, hts⟩ hc9 ⟨callB_of np hts (AG_GoodIn hi9.1) rfl rfl rfl (hts _ hi9.2.1) (hts _ hk9) hi9.2.2 hR, hts _ hv9.1, hts _ hv9.2⟩ hpre rfl hnp hl.1 rfl (lv_room hW) hd hf
  · exact va_runVN ⟨hx, hb, hml, hown, hts⟩ hc9 ⟨va_cnB np hts (AG_GoodIn hi9.1) rfl rfl rfl (hK.2.1 _ hk9 rfl) (hts _ hi9.2.1) hi9.2.2 hR, hts _ hv9.1, hts _ hv9.2⟩ hpre rfl hnp hl.1 rfl (lv_room hW) hd hf
theorem J.calls (pc : Nat) {idx np : Nat} (hd : decode cc pc = .ok (.invokestatic idx, 3)) (hk9 : MLk y.cls idx y') (hi9 : MIn y' cc' mL' rt' np) (hv9 : MIs y') (hc9 : Ct w y' cc' mL' rt' R' as n h n' post) (hst : S0 = as.reverse ++ S) (hnp : as.length = np) (hW : (S.map fun v => v.category).sum ≤ 8) (hR : R'.frames + 1 ≤ R.frames ∧ 8 + (mL' + 11) + R'.locals ≤ R.locals) (hf : ca + R'.cells ≤ R.cells ∧ sl + R'.slots ≤ R.slots)
    (kk : ∀ (r : Option Value) (h' : Nat → va_E), post r h' → J w y cc mL rt R X Qf (pc + 3) L (r.toList ++ S) n' h' (ca + R'.cells) (sl + R'.slots)) : J w y cc mL rt R X Qf pc L S0 n h ca sl := by
  subst hst
  refine J.run (av := as.toArray) ?_ kk
  intro p e s m args below meth c C ls H locs hl hP hS
  obtain ⟨hx, hb, hml, hr, hlk, hnm, hown, hts, hK, hN, hX⟩ := id C
  have hpre : PreS s H (PJ w n h as) as := ⟨PJ_blind, fun U hU hW => ⟨rfl, by rw [hU]; exact hP, hK.warm hW⟩⟩
  rcases hk9 with hk9 | ⟨host, hk9⟩
  · exact va_runS ⟨hx, hb, hml, hown, hts⟩ hc9 ⟨callB_of np hts (AG_GoodIn hi9.1) rfl rfl rfl (hts _ hi9.2.1) (hts _ hk9) hi9.2.2 hR, hts _ hv9⟩ hpre rfl hnp hl.1 rfl (lv_room hW) hd hf
  · exact va_runSN ⟨hx, hb, hml, hown, hts⟩ hc9 ⟨va_cnB np hts (AG_GoodIn hi9.1) rfl rfl rfl (hK.2.1 _ hk9 rfl) (hts _ hi9.2.1) hi9.2.2 hR, hts _ hv9, trivial⟩ hpre rfl hnp hl.1 rfl (lv_room hW) hd hf
theorem J.calli (pc : Nat) {idx k np : Nat} (hd : decode cc pc = .ok (.invokespecial idx, 3)) (hk9 : MLk y.cls idx y') (hi9 : MIn y' cc' mL' none np) (hv9 : Cond.instanceMethod y' ∈ AG) (hy9 : y'.name = "<init>") (hc9 : Ct w y' cc' mL' none R' (.ref (wN w + k) :: as) n h n' post) (hst : S0 = as.reverse ++ .ref (wN w + k) :: S) (hnp : as.length = np) (hW : (S.map fun v => v.category).sum ≤ 8) (hR : R'.frames + 1 ≤ R.frames ∧ 8 + (mL' + 11) + R'.locals ≤ R.locals) (hf : ca + R'.cells ≤ R.cells ∧ sl + R'.slots ≤ R.slots)
    (kk : ∀ (r : Option Value) (h' : Nat → va_E), post r h' → J w y cc mL rt R X Qf (pc + 3) L (r.toList ++ S) n' h' (ca + R'.cells) (sl + R'.slots)) : J w y cc mL rt R X Qf pc L S0 n h ca sl := by
  subst hst
  refine J.run (av := (.ref (wN w + k) :: as).toArray) ?_ kk
  intro p e s m args below meth c C ls H locs hl hP hS
  obtain ⟨hx, hb, hml, hr, hlk, hnm, hown, hts, hK, hN, hX⟩ := id C
  have hpre : PreS s H (PJ w n h (.ref (wN w + k) :: as)) (.ref (wN w + k) :: as) := ⟨PJ_blind, fun U hU hW => ⟨rfl, by rw [hU]; exact hP, hK.warm hW⟩⟩
  rcases hk9 with hk9 | ⟨host, hk9⟩
  · exact va_runI ⟨hx, hb, hml, hown, hts⟩ hc9 ⟨callB_of np hts (AG_GoodIn hi9.1) rfl rfl rfl (hts _ hi9.2.1) (hts _ hk9) hi9.2.2 hR, hy9, hts _ hv9⟩ hpre rfl hnp hl.1 rfl (lv_room hW) hd hf
  · exact va_runIN ⟨hx, hb, hml, hown, hts⟩ hc9 ⟨va_cnB np hts (AG_GoodIn hi9.1) rfl rfl rfl (hK.2.1 _ hk9 rfl) (hts _ hi9.2.1) hi9.2.2 hR, hy9, hts _ hv9⟩ hpre rfl hnp hl.1 rfl (lv_room hW) hd hf
end JC
end
section
theorem tb (i : Nat) {x : Cond} (h : tables_1[i]? = some x) (g : goodWord x = true) : x ∈ AG := AG_mem (List.mem_append_right _ (List.mem_of_getElem? h)) g
theorem tn (i : Nat) {x : Cond} (h : tables_1[i]? = some x) : x ∈ lw_tbl := List.mem_append_right _ (List.mem_of_getElem? h)
theorem sb (i : Nat) {x : Cond} (h : (k2_sels lw_privs)[i]? = some x) (g : goodWord x = true) : x ∈ AG := AG_mem (List.mem_append_left _ (List.mem_of_getElem? h)) g
theorem inG0 : ∀ x ∈ u_ws RX0 TX0 3, x ∈ AG := by
  intro x hx
  obtain ⟨k, hk, rfl⟩ := List.mem_map.mp hx
  have hk := List.mem_range.mp hk
  match k, hk with
  | 0, _ => exact tb 196 (by decide +kernel) (by rfl)
  | 1, _ => exact tb 198 (by decide +kernel) (by rfl)
  | 2, _ => exact tb 200 (by decide +kernel) (by rfl)
  | k + 3, hk => exact absurd hk (by omega)
theorem fp_0_0 : FP 0 0 (.array .int) true := ⟨RX0, TX0, 3, tyX0, rfl, tyX0_ok, nmX0, rfl, by decide +kernel⟩
theorem fp_0_1 : FP 0 1 (.array .int) true := ⟨RX0, TX0, 3, tyX0, rfl, tyX0_ok, nmX0, rfl, by decide +kernel⟩
theorem fp_0_2 : FP 0 2 .int false := ⟨RX0, TX0, 3, tyX0, rfl, tyX0_ok, nmX0, rfl, by decide +kernel⟩
theorem inG1 : ∀ x ∈ u_ws RX1 TX1 4, x ∈ AG := by
  intro x hx
  obtain ⟨k, hk, rfl⟩ := List.mem_map.mp hx
  have hk := List.mem_range.mp hk
  match k, hk with
  | 0, _ => exact tb 157 (by decide +kernel) (by rfl)
  | 1, _ => exact tb 159 (by decide +kernel) (by rfl)
  | 2, _ => exact tb 161 (by decide +kernel) (by rfl)
  | 3, _ => exact tb 163 (by decide +kernel) (by rfl)
  | k + 4, hk => exact absurd hk (by omega)
theorem fp_1_0 : FP 1 0 (.object "LiarClocks$Hearing") true := ⟨RX1, TX1, 4, tyX1, rfl, tyX1_ok, nmX1, rfl, by decide +kernel⟩
theorem fp_1_1 : FP 1 1 (.array .int) true := ⟨RX1, TX1, 4, tyX1, rfl, tyX1_ok, nmX1, rfl, by decide +kernel⟩
theorem fp_1_2 : FP 1 2 (.array .int) true := ⟨RX1, TX1, 4, tyX1, rfl, tyX1_ok, nmX1, rfl, by decide +kernel⟩
theorem fp_1_3 : FP 1 3 (.array .int) true := ⟨RX1, TX1, 4, tyX1, rfl, tyX1_ok, nmX1, rfl, by decide +kernel⟩
theorem inG2 : ∀ x ∈ u_ws RX2 TX2 1, x ∈ AG := by
  intro x hx
  obtain ⟨k, hk, rfl⟩ := List.mem_map.mp hx
  have hk := List.mem_range.mp hk
  match k, hk with
  | 0, _ => exact tb 211 (by decide +kernel) (by rfl)
  | k + 1, hk => exact absurd hk (by omega)
theorem fp_2_0 : FP 2 0 .int false := ⟨RX2, TX2, 1, tyX2, rfl, tyX2_ok, nmX2, rfl, by decide +kernel⟩
theorem inG3 : ∀ x ∈ u_ws RX3 TX3 2, x ∈ AG := by
  intro x hx
  obtain ⟨k, hk, rfl⟩ := List.mem_map.mp hx
  have hk := List.mem_range.mp hk
  match k, hk with
  | 0, _ => exact tb 148 (by decide +kernel) (by rfl)
  | 1, _ => exact tb 150 (by decide +kernel) (by rfl)
  | k + 2, hk => exact absurd hk (by omega)
theorem fp_3_0 : FP 3 0 (.array .int) true := ⟨RX3, TX3, 2, tyX3, rfl, tyX3_ok, nmX3, rfl, by decide +kernel⟩
theorem fp_3_1 : FP 3 1 .int false := ⟨RX3, TX3, 2, tyX3, rfl, tyX3_ok, nmX3, rfl, by decide +kernel⟩
theorem inG4 : ∀ x ∈ u_ws RX4 TX4 3, x ∈ AG := by
  intro x hx
  obtain ⟨k, hk, rfl⟩ := List.mem_map.mp hx
  have hk := List.mem_range.mp hk
  match k, hk with
  | 0, _ => exact tb 179 (by decide +kernel) (by rfl)
  | 1, _ => exact tb 181 (by decide +kernel) (by rfl)
  | 2, _ => exact tb 183 (by decide +kernel) (by rfl)
  | k + 3, hk => exact absurd hk (by omega)
theorem fp_4_0 : FP 4 0 (.array (.object "LiarClocks$State")) true := ⟨RX4, TX4, 3, tyX4, rfl, tyX4_ok, nmX4, rfl, by decide +kernel⟩
theorem fp_4_1 : FP 4 1 .int false := ⟨RX4, TX4, 3, tyX4, rfl, tyX4_ok, nmX4, rfl, by decide +kernel⟩
theorem fp_4_2 : FP 4 2 .int false := ⟨RX4, TX4, 3, tyX4, rfl, tyX4_ok, nmX4, rfl, by decide +kernel⟩
theorem inG5 : ∀ x ∈ u_ws RX5 TX5 15, x ∈ AG := by
  intro x hx
  obtain ⟨k, hk, rfl⟩ := List.mem_map.mp hx
  have hk := List.mem_range.mp hk
  match k, hk with
  | 0, _ => exact tb 68 (by decide +kernel) (by rfl)
  | 1, _ => exact tb 70 (by decide +kernel) (by rfl)
  | 2, _ => exact tb 72 (by decide +kernel) (by rfl)
  | 3, _ => exact tb 74 (by decide +kernel) (by rfl)
  | 4, _ => exact tb 76 (by decide +kernel) (by rfl)
  | 5, _ => exact tb 78 (by decide +kernel) (by rfl)
  | 6, _ => exact tb 80 (by decide +kernel) (by rfl)
  | 7, _ => exact tb 82 (by decide +kernel) (by rfl)
  | 8, _ => exact tb 84 (by decide +kernel) (by rfl)
  | 9, _ => exact tb 86 (by decide +kernel) (by rfl)
  | 10, _ => exact tb 88 (by decide +kernel) (by rfl)
  | 11, _ => exact tb 90 (by decide +kernel) (by rfl)
  | 12, _ => exact tb 92 (by decide +kernel) (by rfl)
  | 13, _ => exact tb 94 (by decide +kernel) (by rfl)
  | 14, _ => exact tb 96 (by decide +kernel) (by rfl)
  | k + 15, hk => exact absurd hk (by omega)
theorem fp_5_0 : FP 5 0 .int false := ⟨RX5, TX5, 15, tyX5, rfl, tyX5_ok, nmX5, rfl, by decide +kernel⟩
theorem fp_5_1 : FP 5 1 .int false := ⟨RX5, TX5, 15, tyX5, rfl, tyX5_ok, nmX5, rfl, by decide +kernel⟩
theorem fp_5_2 : FP 5 2 .int false := ⟨RX5, TX5, 15, tyX5, rfl, tyX5_ok, nmX5, rfl, by decide +kernel⟩
theorem fp_5_3 : FP 5 3 .int false := ⟨RX5, TX5, 15, tyX5, rfl, tyX5_ok, nmX5, rfl, by decide +kernel⟩
theorem fp_5_4 : FP 5 4 .int false := ⟨RX5, TX5, 15, tyX5, rfl, tyX5_ok, nmX5, rfl, by decide +kernel⟩
theorem fp_5_5 : FP 5 5 .int false := ⟨RX5, TX5, 15, tyX5, rfl, tyX5_ok, nmX5, rfl, by decide +kernel⟩
theorem fp_5_6 : FP 5 6 .int false := ⟨RX5, TX5, 15, tyX5, rfl, tyX5_ok, nmX5, rfl, by decide +kernel⟩
theorem fp_5_7 : FP 5 7 .int false := ⟨RX5, TX5, 15, tyX5, rfl, tyX5_ok, nmX5, rfl, by decide +kernel⟩
theorem fp_5_8 : FP 5 8 (.array .int) true := ⟨RX5, TX5, 15, tyX5, rfl, tyX5_ok, nmX5, rfl, by decide +kernel⟩
theorem fp_5_9 : FP 5 9 (.array .int) true := ⟨RX5, TX5, 15, tyX5, rfl, tyX5_ok, nmX5, rfl, by decide +kernel⟩
theorem fp_5_10 : FP 5 10 (.array .int) true := ⟨RX5, TX5, 15, tyX5, rfl, tyX5_ok, nmX5, rfl, by decide +kernel⟩
theorem fp_5_11 : FP 5 11 (.array .int) true := ⟨RX5, TX5, 15, tyX5, rfl, tyX5_ok, nmX5, rfl, by decide +kernel⟩
theorem fp_5_12 : FP 5 12 (.array .int) true := ⟨RX5, TX5, 15, tyX5, rfl, tyX5_ok, nmX5, rfl, by decide +kernel⟩
theorem fp_5_13 : FP 5 13 (.array .int) true := ⟨RX5, TX5, 15, tyX5, rfl, tyX5_ok, nmX5, rfl, by decide +kernel⟩
theorem fp_5_14 : FP 5 14 (.array .int) true := ⟨RX5, TX5, 15, tyX5, rfl, tyX5_ok, nmX5, rfl, by decide +kernel⟩
theorem inG6 : ∀ x ∈ u_ws RX6 TX6 8, x ∈ AG := by
  intro x hx
  obtain ⟨k, hk, rfl⟩ := List.mem_map.mp hx
  have hk := List.mem_range.mp hk
  match k, hk with
  | 0, _ => exact tb 116 (by decide +kernel) (by rfl)
  | 1, _ => exact tb 118 (by decide +kernel) (by rfl)
  | 2, _ => exact tb 120 (by decide +kernel) (by rfl)
  | 3, _ => exact tb 122 (by decide +kernel) (by rfl)
  | 4, _ => exact tb 124 (by decide +kernel) (by rfl)
  | 5, _ => exact tb 126 (by decide +kernel) (by rfl)
  | 6, _ => exact tb 128 (by decide +kernel) (by rfl)
  | 7, _ => exact tb 130 (by decide +kernel) (by rfl)
  | k + 8, hk => exact absurd hk (by omega)
theorem fp_6_0 : FP 6 0 (.array .int) true := ⟨RX6, TX6, 8, tyX6, rfl, tyX6_ok, nmX6, rfl, by decide +kernel⟩
theorem fp_6_1 : FP 6 1 .int false := ⟨RX6, TX6, 8, tyX6, rfl, tyX6_ok, nmX6, rfl, by decide +kernel⟩
theorem fp_6_2 : FP 6 2 .int false := ⟨RX6, TX6, 8, tyX6, rfl, tyX6_ok, nmX6, rfl, by decide +kernel⟩
theorem fp_6_3 : FP 6 3 .int false := ⟨RX6, TX6, 8, tyX6, rfl, tyX6_ok, nmX6, rfl, by decide +kernel⟩
theorem fp_6_4 : FP 6 4 .int false := ⟨RX6, TX6, 8, tyX6, rfl, tyX6_ok, nmX6, rfl, by decide +kernel⟩
theorem fp_6_5 : FP 6 5 .int false := ⟨RX6, TX6, 8, tyX6, rfl, tyX6_ok, nmX6, rfl, by decide +kernel⟩
theorem fp_6_6 : FP 6 6 .boolean false := ⟨RX6, TX6, 8, tyX6, rfl, tyX6_ok, nmX6, rfl, by decide +kernel⟩
theorem fp_6_7 : FP 6 7 .boolean false := ⟨RX6, TX6, 8, tyX6, rfl, tyX6_ok, nmX6, rfl, by decide +kernel⟩
theorem inG7 : ∀ x ∈ u_ws RX7 TX7 10, x ∈ AG := by
  intro x hx
  obtain ⟨k, hk, rfl⟩ := List.mem_map.mp hx
  have hk := List.mem_range.mp hk
  match k, hk with
  | 0, _ => exact tb 224 (by decide +kernel) (by rfl)
  | 1, _ => exact tb 226 (by decide +kernel) (by rfl)
  | 2, _ => exact tb 228 (by decide +kernel) (by rfl)
  | 3, _ => exact tb 230 (by decide +kernel) (by rfl)
  | 4, _ => exact tb 232 (by decide +kernel) (by rfl)
  | 5, _ => exact tb 234 (by decide +kernel) (by rfl)
  | 6, _ => exact tb 236 (by decide +kernel) (by rfl)
  | 7, _ => exact tb 238 (by decide +kernel) (by rfl)
  | 8, _ => exact tb 240 (by decide +kernel) (by rfl)
  | 9, _ => exact tb 242 (by decide +kernel) (by rfl)
  | k + 10, hk => exact absurd hk (by omega)
theorem fp_7_0 : FP 7 0 (.object "LiarClocks$State") true := ⟨RX7, TX7, 10, tyX7, rfl, tyX7_ok, nmX7, rfl, by decide +kernel⟩
theorem fp_7_1 : FP 7 1 (.object "LiarClocks$State") true := ⟨RX7, TX7, 10, tyX7, rfl, tyX7_ok, nmX7, rfl, by decide +kernel⟩
theorem fp_7_2 : FP 7 2 (.object "LiarClocks$Text") true := ⟨RX7, TX7, 10, tyX7, rfl, tyX7_ok, nmX7, rfl, by decide +kernel⟩
theorem fp_7_3 : FP 7 3 (.object "LiarClocks$Council") true := ⟨RX7, TX7, 10, tyX7, rfl, tyX7_ok, nmX7, rfl, by decide +kernel⟩
theorem fp_7_4 : FP 7 4 (.object "LiarClocks$History") true := ⟨RX7, TX7, 10, tyX7, rfl, tyX7_ok, nmX7, rfl, by decide +kernel⟩
theorem fp_7_5 : FP 7 5 (.object "LiarClocks$Book") true := ⟨RX7, TX7, 10, tyX7, rfl, tyX7_ok, nmX7, rfl, by decide +kernel⟩
theorem fp_7_6 : FP 7 6 (.object "LiarClocks$Draws") true := ⟨RX7, TX7, 10, tyX7, rfl, tyX7_ok, nmX7, rfl, by decide +kernel⟩
theorem fp_7_7 : FP 7 7 (.array (.object "LiarClocks$State")) true := ⟨RX7, TX7, 10, tyX7, rfl, tyX7_ok, nmX7, rfl, by decide +kernel⟩
theorem fp_7_8 : FP 7 8 (.array .int) true := ⟨RX7, TX7, 10, tyX7, rfl, tyX7_ok, nmX7, rfl, by decide +kernel⟩
theorem fp_7_9 : FP 7 9 (.array .boolean) true := ⟨RX7, TX7, 10, tyX7, rfl, tyX7_ok, nmX7, rfl, by decide +kernel⟩
theorem inG8 : ∀ x ∈ u_ws RX8 TX8 17, x ∈ AG := by
  intro x hx
  obtain ⟨k, hk, rfl⟩ := List.mem_map.mp hx
  have hk := List.mem_range.mp hk
  match k, hk with
  | 0, _ => exact tb 640 (by decide +kernel) (by rfl)
  | 1, _ => exact tb 642 (by decide +kernel) (by rfl)
  | 2, _ => exact tb 644 (by decide +kernel) (by rfl)
  | 3, _ => exact tb 646 (by decide +kernel) (by rfl)
  | 4, _ => exact tb 648 (by decide +kernel) (by rfl)
  | 5, _ => exact tb 650 (by decide +kernel) (by rfl)
  | 6, _ => exact tb 652 (by decide +kernel) (by rfl)
  | 7, _ => exact tb 654 (by decide +kernel) (by rfl)
  | 8, _ => exact tb 656 (by decide +kernel) (by rfl)
  | 9, _ => exact tb 658 (by decide +kernel) (by rfl)
  | 10, _ => exact tb 660 (by decide +kernel) (by rfl)
  | 11, _ => exact tb 662 (by decide +kernel) (by rfl)
  | 12, _ => exact tb 664 (by decide +kernel) (by rfl)
  | 13, _ => exact tb 666 (by decide +kernel) (by rfl)
  | 14, _ => exact tb 668 (by decide +kernel) (by rfl)
  | 15, _ => exact tb 670 (by decide +kernel) (by rfl)
  | 16, _ => exact tb 672 (by decide +kernel) (by rfl)
  | k + 17, hk => exact absurd hk (by omega)
theorem fp_8_0 : FP 8 0 (.array .int) true := ⟨RX8, TX8, 17, tyX8, rfl, tyX8_ok, nmX8, rfl, by decide +kernel⟩
theorem fp_8_1 : FP 8 1 .int false := ⟨RX8, TX8, 17, tyX8, rfl, tyX8_ok, nmX8, rfl, by decide +kernel⟩
theorem fp_8_2 : FP 8 2 .int false := ⟨RX8, TX8, 17, tyX8, rfl, tyX8_ok, nmX8, rfl, by decide +kernel⟩
theorem fp_8_3 : FP 8 3 (.array .int) true := ⟨RX8, TX8, 17, tyX8, rfl, tyX8_ok, nmX8, rfl, by decide +kernel⟩
theorem fp_8_4 : FP 8 4 .int false := ⟨RX8, TX8, 17, tyX8, rfl, tyX8_ok, nmX8, rfl, by decide +kernel⟩
theorem fp_8_5 : FP 8 5 .int false := ⟨RX8, TX8, 17, tyX8, rfl, tyX8_ok, nmX8, rfl, by decide +kernel⟩
theorem fp_8_6 : FP 8 6 (.array .int) true := ⟨RX8, TX8, 17, tyX8, rfl, tyX8_ok, nmX8, rfl, by decide +kernel⟩
theorem fp_8_7 : FP 8 7 (.array .int) true := ⟨RX8, TX8, 17, tyX8, rfl, tyX8_ok, nmX8, rfl, by decide +kernel⟩
theorem fp_8_8 : FP 8 8 .int false := ⟨RX8, TX8, 17, tyX8, rfl, tyX8_ok, nmX8, rfl, by decide +kernel⟩
theorem fp_8_9 : FP 8 9 (.array .int) true := ⟨RX8, TX8, 17, tyX8, rfl, tyX8_ok, nmX8, rfl, by decide +kernel⟩
theorem fp_8_10 : FP 8 10 (.array .int) true := ⟨RX8, TX8, 17, tyX8, rfl, tyX8_ok, nmX8, rfl, by decide +kernel⟩
theorem fp_8_11 : FP 8 11 .int false := ⟨RX8, TX8, 17, tyX8, rfl, tyX8_ok, nmX8, rfl, by decide +kernel⟩
theorem fp_8_12 : FP 8 12 .int false := ⟨RX8, TX8, 17, tyX8, rfl, tyX8_ok, nmX8, rfl, by decide +kernel⟩
theorem fp_8_13 : FP 8 13 .int false := ⟨RX8, TX8, 17, tyX8, rfl, tyX8_ok, nmX8, rfl, by decide +kernel⟩
theorem fp_8_14 : FP 8 14 .int false := ⟨RX8, TX8, 17, tyX8, rfl, tyX8_ok, nmX8, rfl, by decide +kernel⟩
theorem fp_8_15 : FP 8 15 .int false := ⟨RX8, TX8, 17, tyX8, rfl, tyX8_ok, nmX8, rfl, by decide +kernel⟩
theorem fp_8_16 : FP 8 16 .int false := ⟨RX8, TX8, 17, tyX8, rfl, tyX8_ok, nmX8, rfl, by decide +kernel⟩
theorem fl_RX1_32 : FL RX1 32 5 0 := ⟨RX5, TX5, 15, rfl, by decide, inG5, rfl, Or.inr ⟨"LiarClocks", tn 28 (by decide +kernel)⟩⟩
theorem fl_RX5_37 : FL RX5 37 5 0 := ⟨RX5, TX5, 15, rfl, by decide, inG5, rfl, Or.inl (tb 29 (by decide +kernel) (by rfl))⟩
theorem fl_RX7_94 : FL RX7 94 5 0 := ⟨RX5, TX5, 15, rfl, by decide, inG5, rfl, Or.inr ⟨"LiarClocks", tn 30 (by decide +kernel)⟩⟩
theorem fl_RX6_67 : FL RX6 67 5 0 := ⟨RX5, TX5, 15, rfl, by decide, inG5, rfl, Or.inr ⟨"LiarClocks", tn 31 (by decide +kernel)⟩⟩
theorem fl_RX1_45 : FL RX1 45 5 1 := ⟨RX5, TX5, 15, rfl, by decide, inG5, rfl, Or.inr ⟨"LiarClocks", tn 32 (by decide +kernel)⟩⟩
theorem fl_RX5_40 : FL RX5 40 5 1 := ⟨RX5, TX5, 15, rfl, by decide, inG5, rfl, Or.inl (tb 33 (by decide +kernel) (by rfl))⟩
theorem fl_RX7_100 : FL RX7 100 5 1 := ⟨RX5, TX5, 15, rfl, by decide, inG5, rfl, Or.inr ⟨"LiarClocks", tn 34 (by decide +kernel)⟩⟩
theorem fl_RX6_87 : FL RX6 87 5 1 := ⟨RX5, TX5, 15, rfl, by decide, inG5, rfl, Or.inr ⟨"LiarClocks", tn 35 (by decide +kernel)⟩⟩
theorem fl_RX5_9 : FL RX5 9 5 2 := ⟨RX5, TX5, 15, rfl, by decide, inG5, rfl, Or.inl (tb 36 (by decide +kernel) (by rfl))⟩
theorem fl_RX7_103 : FL RX7 103 5 2 := ⟨RX5, TX5, 15, rfl, by decide, inG5, rfl, Or.inr ⟨"LiarClocks", tn 37 (by decide +kernel)⟩⟩
theorem fl_RX6_90 : FL RX6 90 5 2 := ⟨RX5, TX5, 15, rfl, by decide, inG5, rfl, Or.inr ⟨"LiarClocks", tn 38 (by decide +kernel)⟩⟩
theorem fl_RX5_43 : FL RX5 43 5 3 := ⟨RX5, TX5, 15, rfl, by decide, inG5, rfl, Or.inl (tb 39 (by decide +kernel) (by rfl))⟩
theorem fl_RX7_106 : FL RX7 106 5 3 := ⟨RX5, TX5, 15, rfl, by decide, inG5, rfl, Or.inr ⟨"LiarClocks", tn 40 (by decide +kernel)⟩⟩
theorem fl_RX6_84 : FL RX6 84 5 3 := ⟨RX5, TX5, 15, rfl, by decide, inG5, rfl, Or.inr ⟨"LiarClocks", tn 41 (by decide +kernel)⟩⟩
theorem fl_RX1_110 : FL RX1 110 5 3 := ⟨RX5, TX5, 15, rfl, by decide, inG5, rfl, Or.inr ⟨"LiarClocks", tn 42 (by decide +kernel)⟩⟩
theorem fl_RX5_46 : FL RX5 46 5 4 := ⟨RX5, TX5, 15, rfl, by decide, inG5, rfl, Or.inl (tb 43 (by decide +kernel) (by rfl))⟩
theorem fl_RX1_77 : FL RX1 77 5 4 := ⟨RX5, TX5, 15, rfl, by decide, inG5, rfl, Or.inr ⟨"LiarClocks", tn 44 (by decide +kernel)⟩⟩
theorem fl_RX7_109 : FL RX7 109 5 4 := ⟨RX5, TX5, 15, rfl, by decide, inG5, rfl, Or.inr ⟨"LiarClocks", tn 45 (by decide +kernel)⟩⟩
theorem fl_RX5_49 : FL RX5 49 5 5 := ⟨RX5, TX5, 15, rfl, by decide, inG5, rfl, Or.inl (tb 46 (by decide +kernel) (by rfl))⟩
theorem fl_RX7_125 : FL RX7 125 5 5 := ⟨RX5, TX5, 15, rfl, by decide, inG5, rfl, Or.inr ⟨"LiarClocks", tn 47 (by decide +kernel)⟩⟩
theorem fl_RX5_52 : FL RX5 52 5 6 := ⟨RX5, TX5, 15, rfl, by decide, inG5, rfl, Or.inl (tb 48 (by decide +kernel) (by rfl))⟩
theorem fl_RX7_128 : FL RX7 128 5 6 := ⟨RX5, TX5, 15, rfl, by decide, inG5, rfl, Or.inr ⟨"LiarClocks", tn 49 (by decide +kernel)⟩⟩
theorem fl_RX5_55 : FL RX5 55 5 7 := ⟨RX5, TX5, 15, rfl, by decide, inG5, rfl, Or.inl (tb 50 (by decide +kernel) (by rfl))⟩
theorem fl_RX7_131 : FL RX7 131 5 7 := ⟨RX5, TX5, 15, rfl, by decide, inG5, rfl, Or.inr ⟨"LiarClocks", tn 51 (by decide +kernel)⟩⟩
theorem fl_RX5_15 : FL RX5 15 5 8 := ⟨RX5, TX5, 15, rfl, by decide, inG5, rfl, Or.inl (tb 52 (by decide +kernel) (by rfl))⟩
theorem ff_RX5_15 : ∃ (T : u_T) (Nf : Nat), vwCl[5]? = some (RX5, T, Nf) ∧ 8 < Nf ∧ (∀ x ∈ u_ws RX5 T Nf, x ∈ AG) ∧ (T 8).1 = RX5 ∧ Cond.fieldLink RX5 15 RX5 (T 8).2.1 (T 8).2.2.1 ∈ AG := ⟨TX5, 15, rfl, by decide, inG5, rfl, tb 52 (by decide +kernel) (by rfl)⟩
theorem fl_RX1_67 : FL RX1 67 5 8 := ⟨RX5, TX5, 15, rfl, by decide, inG5, rfl, Or.inr ⟨"LiarClocks", tn 53 (by decide +kernel)⟩⟩
theorem fl_RX7_143 : FL RX7 143 5 8 := ⟨RX5, TX5, 15, rfl, by decide, inG5, rfl, Or.inr ⟨"LiarClocks", tn 54 (by decide +kernel)⟩⟩
theorem fl_RX5_19 : FL RX5 19 5 9 := ⟨RX5, TX5, 15, rfl, by decide, inG5, rfl, Or.inl (tb 55 (by decide +kernel) (by rfl))⟩
theorem ff_RX5_19 : ∃ (T : u_T) (Nf : Nat), vwCl[5]? = some (RX5, T, Nf) ∧ 9 < Nf ∧ (∀ x ∈ u_ws RX5 T Nf, x ∈ AG) ∧ (T 9).1 = RX5 ∧ Cond.fieldLink RX5 19 RX5 (T 9).2.1 (T 9).2.2.1 ∈ AG := ⟨TX5, 15, rfl, by decide, inG5, rfl, tb 55 (by decide +kernel) (by rfl)⟩
theorem fl_RX7_146 : FL RX7 146 5 9 := ⟨RX5, TX5, 15, rfl, by decide, inG5, rfl, Or.inr ⟨"LiarClocks", tn 56 (by decide +kernel)⟩⟩
theorem fl_RX5_22 : FL RX5 22 5 10 := ⟨RX5, TX5, 15, rfl, by decide, inG5, rfl, Or.inl (tb 57 (by decide +kernel) (by rfl))⟩
theorem ff_RX5_22 : ∃ (T : u_T) (Nf : Nat), vwCl[5]? = some (RX5, T, Nf) ∧ 10 < Nf ∧ (∀ x ∈ u_ws RX5 T Nf, x ∈ AG) ∧ (T 10).1 = RX5 ∧ Cond.fieldLink RX5 22 RX5 (T 10).2.1 (T 10).2.2.1 ∈ AG := ⟨TX5, 15, rfl, by decide, inG5, rfl, tb 57 (by decide +kernel) (by rfl)⟩
theorem fl_RX1_64 : FL RX1 64 5 10 := ⟨RX5, TX5, 15, rfl, by decide, inG5, rfl, Or.inr ⟨"LiarClocks", tn 58 (by decide +kernel)⟩⟩
theorem fl_RX7_149 : FL RX7 149 5 10 := ⟨RX5, TX5, 15, rfl, by decide, inG5, rfl, Or.inr ⟨"LiarClocks", tn 59 (by decide +kernel)⟩⟩
theorem fl_RX5_25 : FL RX5 25 5 11 := ⟨RX5, TX5, 15, rfl, by decide, inG5, rfl, Or.inl (tb 60 (by decide +kernel) (by rfl))⟩
theorem ff_RX5_25 : ∃ (T : u_T) (Nf : Nat), vwCl[5]? = some (RX5, T, Nf) ∧ 11 < Nf ∧ (∀ x ∈ u_ws RX5 T Nf, x ∈ AG) ∧ (T 11).1 = RX5 ∧ Cond.fieldLink RX5 25 RX5 (T 11).2.1 (T 11).2.2.1 ∈ AG := ⟨TX5, 15, rfl, by decide, inG5, rfl, tb 60 (by decide +kernel) (by rfl)⟩
theorem fl_RX7_187 : FL RX7 187 5 11 := ⟨RX5, TX5, 15, rfl, by decide, inG5, rfl, Or.inr ⟨"LiarClocks", tn 61 (by decide +kernel)⟩⟩
theorem fl_RX5_28 : FL RX5 28 5 12 := ⟨RX5, TX5, 15, rfl, by decide, inG5, rfl, Or.inl (tb 62 (by decide +kernel) (by rfl))⟩
theorem ff_RX5_28 : ∃ (T : u_T) (Nf : Nat), vwCl[5]? = some (RX5, T, Nf) ∧ 12 < Nf ∧ (∀ x ∈ u_ws RX5 T Nf, x ∈ AG) ∧ (T 12).1 = RX5 ∧ Cond.fieldLink RX5 28 RX5 (T 12).2.1 (T 12).2.2.1 ∈ AG := ⟨TX5, 15, rfl, by decide, inG5, rfl, tb 62 (by decide +kernel) (by rfl)⟩
theorem fl_RX7_181 : FL RX7 181 5 12 := ⟨RX5, TX5, 15, rfl, by decide, inG5, rfl, Or.inr ⟨"LiarClocks", tn 63 (by decide +kernel)⟩⟩
theorem fl_RX5_31 : FL RX5 31 5 13 := ⟨RX5, TX5, 15, rfl, by decide, inG5, rfl, Or.inl (tb 64 (by decide +kernel) (by rfl))⟩
theorem ff_RX5_31 : ∃ (T : u_T) (Nf : Nat), vwCl[5]? = some (RX5, T, Nf) ∧ 13 < Nf ∧ (∀ x ∈ u_ws RX5 T Nf, x ∈ AG) ∧ (T 13).1 = RX5 ∧ Cond.fieldLink RX5 31 RX5 (T 13).2.1 (T 13).2.2.1 ∈ AG := ⟨TX5, 15, rfl, by decide, inG5, rfl, tb 64 (by decide +kernel) (by rfl)⟩
theorem fl_RX7_200 : FL RX7 200 5 13 := ⟨RX5, TX5, 15, rfl, by decide, inG5, rfl, Or.inr ⟨"LiarClocks", tn 65 (by decide +kernel)⟩⟩
theorem fl_RX5_34 : FL RX5 34 5 14 := ⟨RX5, TX5, 15, rfl, by decide, inG5, rfl, Or.inl (tb 66 (by decide +kernel) (by rfl))⟩
theorem ff_RX5_34 : ∃ (T : u_T) (Nf : Nat), vwCl[5]? = some (RX5, T, Nf) ∧ 14 < Nf ∧ (∀ x ∈ u_ws RX5 T Nf, x ∈ AG) ∧ (T 14).1 = RX5 ∧ Cond.fieldLink RX5 34 RX5 (T 14).2.1 (T 14).2.2.1 ∈ AG := ⟨TX5, 15, rfl, by decide, inG5, rfl, tb 66 (by decide +kernel) (by rfl)⟩
theorem fl_RX7_203 : FL RX7 203 5 14 := ⟨RX5, TX5, 15, rfl, by decide, inG5, rfl, Or.inr ⟨"LiarClocks", tn 67 (by decide +kernel)⟩⟩
theorem fl_RX6_9 : FL RX6 9 6 0 := ⟨RX6, TX6, 8, rfl, by decide, inG6, rfl, Or.inl (tb 106 (by decide +kernel) (by rfl))⟩
theorem ff_RX6_9 : ∃ (T : u_T) (Nf : Nat), vwCl[6]? = some (RX6, T, Nf) ∧ 0 < Nf ∧ (∀ x ∈ u_ws RX6 T Nf, x ∈ AG) ∧ (T 0).1 = RX6 ∧ Cond.fieldLink RX6 9 RX6 (T 0).2.1 (T 0).2.2.1 ∈ AG := ⟨TX6, 8, rfl, by decide, inG6, rfl, tb 106 (by decide +kernel) (by rfl)⟩
theorem fl_RX6_19 : FL RX6 19 6 1 := ⟨RX6, TX6, 8, rfl, by decide, inG6, rfl, Or.inl (tb 107 (by decide +kernel) (by rfl))⟩
theorem fl_RX7_71 : FL RX7 71 6 1 := ⟨RX6, TX6, 8, rfl, by decide, inG6, rfl, Or.inr ⟨"LiarClocks", tn 108 (by decide +kernel)⟩⟩
theorem fl_RX6_27 : FL RX6 27 6 2 := ⟨RX6, TX6, 8, rfl, by decide, inG6, rfl, Or.inl (tb 109 (by decide +kernel) (by rfl))⟩
theorem fl_RX6_81 : FL RX6 81 6 3 := ⟨RX6, TX6, 8, rfl, by decide, inG6, rfl, Or.inl (tb 110 (by decide +kernel) (by rfl))⟩
theorem fl_RX6_30 : FL RX6 30 6 4 := ⟨RX6, TX6, 8, rfl, by decide, inG6, rfl, Or.inl (tb 111 (by decide +kernel) (by rfl))⟩
theorem fl_RX6_15 : FL RX6 15 6 5 := ⟨RX6, TX6, 8, rfl, by decide, inG6, rfl, Or.inl (tb 112 (by decide +kernel) (by rfl))⟩
theorem fl_RX7_97 : FL RX7 97 6 5 := ⟨RX6, TX6, 8, rfl, by decide, inG6, rfl, Or.inr ⟨"LiarClocks", tn 113 (by decide +kernel)⟩⟩
theorem fl_RX6_33 : FL RX6 33 6 6 := ⟨RX6, TX6, 8, rfl, by decide, inG6, rfl, Or.inl (tb 114 (by decide +kernel) (by rfl))⟩
theorem fl_RX6_37 : FL RX6 37 6 7 := ⟨RX6, TX6, 8, rfl, by decide, inG6, rfl, Or.inl (tb 115 (by decide +kernel) (by rfl))⟩
theorem fl_RX3_9 : FL RX3 9 3 0 := ⟨RX3, TX3, 2, rfl, by decide, inG3, rfl, Or.inl (tb 145 (by decide +kernel) (by rfl))⟩
theorem ff_RX3_9 : ∃ (T : u_T) (Nf : Nat), vwCl[3]? = some (RX3, T, Nf) ∧ 0 < Nf ∧ (∀ x ∈ u_ws RX3 T Nf, x ∈ AG) ∧ (T 0).1 = RX3 ∧ Cond.fieldLink RX3 9 RX3 (T 0).2.1 (T 0).2.2.1 ∈ AG := ⟨TX3, 2, rfl, by decide, inG3, rfl, tb 145 (by decide +kernel) (by rfl)⟩
theorem fl_RX3_15 : FL RX3 15 3 1 := ⟨RX3, TX3, 2, rfl, by decide, inG3, rfl, Or.inl (tb 146 (by decide +kernel) (by rfl))⟩
theorem fl_RX1_28 : FL RX1 28 3 1 := ⟨RX3, TX3, 2, rfl, by decide, inG3, rfl, Or.inr ⟨"LiarClocks", tn 147 (by decide +kernel)⟩⟩
theorem fl_RX1_12 : FL RX1 12 1 0 := ⟨RX1, TX1, 4, rfl, by decide, inG1, rfl, Or.inl (tb 153 (by decide +kernel) (by rfl))⟩
theorem ff_RX1_12 : ∃ (T : u_T) (Nf : Nat), vwCl[1]? = some (RX1, T, Nf) ∧ 0 < Nf ∧ (∀ x ∈ u_ws RX1 T Nf, x ∈ AG) ∧ (T 0).1 = RX1 ∧ Cond.fieldLink RX1 12 RX1 (T 0).2.1 (T 0).2.2.1 ∈ AG := ⟨TX1, 4, rfl, by decide, inG1, rfl, tb 153 (by decide +kernel) (by rfl)⟩
theorem fl_RX1_18 : FL RX1 18 1 1 := ⟨RX1, TX1, 4, rfl, by decide, inG1, rfl, Or.inl (tb 154 (by decide +kernel) (by rfl))⟩
theorem ff_RX1_18 : ∃ (T : u_T) (Nf : Nat), vwCl[1]? = some (RX1, T, Nf) ∧ 1 < Nf ∧ (∀ x ∈ u_ws RX1 T Nf, x ∈ AG) ∧ (T 1).1 = RX1 ∧ Cond.fieldLink RX1 18 RX1 (T 1).2.1 (T 1).2.2.1 ∈ AG := ⟨TX1, 4, rfl, by decide, inG1, rfl, tb 154 (by decide +kernel) (by rfl)⟩
theorem fl_RX1_22 : FL RX1 22 1 2 := ⟨RX1, TX1, 4, rfl, by decide, inG1, rfl, Or.inl (tb 155 (by decide +kernel) (by rfl))⟩
theorem ff_RX1_22 : ∃ (T : u_T) (Nf : Nat), vwCl[1]? = some (RX1, T, Nf) ∧ 2 < Nf ∧ (∀ x ∈ u_ws RX1 T Nf, x ∈ AG) ∧ (T 2).1 = RX1 ∧ Cond.fieldLink RX1 22 RX1 (T 2).2.1 (T 2).2.2.1 ∈ AG := ⟨TX1, 4, rfl, by decide, inG1, rfl, tb 155 (by decide +kernel) (by rfl)⟩
theorem fl_RX1_25 : FL RX1 25 1 3 := ⟨RX1, TX1, 4, rfl, by decide, inG1, rfl, Or.inl (tb 156 (by decide +kernel) (by rfl))⟩
theorem ff_RX1_25 : ∃ (T : u_T) (Nf : Nat), vwCl[1]? = some (RX1, T, Nf) ∧ 3 < Nf ∧ (∀ x ∈ u_ws RX1 T Nf, x ∈ AG) ∧ (T 3).1 = RX1 ∧ Cond.fieldLink RX1 25 RX1 (T 3).2.1 (T 3).2.2.1 ∈ AG := ⟨TX1, 4, rfl, by decide, inG1, rfl, tb 156 (by decide +kernel) (by rfl)⟩
theorem fl_RX4_11 : FL RX4 11 4 0 := ⟨RX4, TX4, 3, rfl, by decide, inG4, rfl, Or.inl (tb 175 (by decide +kernel) (by rfl))⟩
theorem ff_RX4_11 : ∃ (T : u_T) (Nf : Nat), vwCl[4]? = some (RX4, T, Nf) ∧ 0 < Nf ∧ (∀ x ∈ u_ws RX4 T Nf, x ∈ AG) ∧ (T 0).1 = RX4 ∧ Cond.fieldLink RX4 11 RX4 (T 0).2.1 (T 0).2.2.1 ∈ AG := ⟨TX4, 3, rfl, by decide, inG4, rfl, tb 175 (by decide +kernel) (by rfl)⟩
theorem fl_RX4_18 : FL RX4 18 4 1 := ⟨RX4, TX4, 3, rfl, by decide, inG4, rfl, Or.inl (tb 176 (by decide +kernel) (by rfl))⟩
theorem fl_RX4_26 : FL RX4 26 4 2 := ⟨RX4, TX4, 3, rfl, by decide, inG4, rfl, Or.inl (tb 177 (by decide +kernel) (by rfl))⟩
theorem fl_RX7_137 : FL RX7 137 4 2 := ⟨RX4, TX4, 3, rfl, by decide, inG4, rfl, Or.inr ⟨"LiarClocks", tn 178 (by decide +kernel)⟩⟩
theorem fl_RX0_9 : FL RX0 9 0 0 := ⟨RX0, TX0, 3, rfl, by decide, inG0, rfl, Or.inl (tb 192 (by decide +kernel) (by rfl))⟩
theorem ff_RX0_9 : ∃ (T : u_T) (Nf : Nat), vwCl[0]? = some (RX0, T, Nf) ∧ 0 < Nf ∧ (∀ x ∈ u_ws RX0 T Nf, x ∈ AG) ∧ (T 0).1 = RX0 ∧ Cond.fieldLink RX0 9 RX0 (T 0).2.1 (T 0).2.2.1 ∈ AG := ⟨TX0, 3, rfl, by decide, inG0, rfl, tb 192 (by decide +kernel) (by rfl)⟩
theorem fl_RX0_15 : FL RX0 15 0 1 := ⟨RX0, TX0, 3, rfl, by decide, inG0, rfl, Or.inl (tb 193 (by decide +kernel) (by rfl))⟩
theorem ff_RX0_15 : ∃ (T : u_T) (Nf : Nat), vwCl[0]? = some (RX0, T, Nf) ∧ 1 < Nf ∧ (∀ x ∈ u_ws RX0 T Nf, x ∈ AG) ∧ (T 1).1 = RX0 ∧ Cond.fieldLink RX0 15 RX0 (T 1).2.1 (T 1).2.2.1 ∈ AG := ⟨TX0, 3, rfl, by decide, inG0, rfl, tb 193 (by decide +kernel) (by rfl)⟩
theorem fl_RX0_18 : FL RX0 18 0 2 := ⟨RX0, TX0, 3, rfl, by decide, inG0, rfl, Or.inl (tb 194 (by decide +kernel) (by rfl))⟩
theorem fl_RX7_91 : FL RX7 91 0 2 := ⟨RX0, TX0, 3, rfl, by decide, inG0, rfl, Or.inr ⟨"LiarClocks", tn 195 (by decide +kernel)⟩⟩
theorem fl_RX2_7 : FL RX2 7 2 0 := ⟨RX2, TX2, 1, rfl, by decide, inG2, rfl, Or.inl (tb 209 (by decide +kernel) (by rfl))⟩
theorem fl_RX7_242 : FL RX7 242 2 0 := ⟨RX2, TX2, 1, rfl, by decide, inG2, rfl, Or.inr ⟨"LiarClocks", tn 210 (by decide +kernel)⟩⟩
theorem fl_RX7_10 : FL RX7 10 7 0 := ⟨RX7, TX7, 10, rfl, by decide, inG7, rfl, Or.inl (tb 214 (by decide +kernel) (by rfl))⟩
theorem ff_RX7_10 : ∃ (T : u_T) (Nf : Nat), vwCl[7]? = some (RX7, T, Nf) ∧ 0 < Nf ∧ (∀ x ∈ u_ws RX7 T Nf, x ∈ AG) ∧ (T 0).1 = RX7 ∧ Cond.fieldLink RX7 10 RX7 (T 0).2.1 (T 0).2.2.1 ∈ AG := ⟨TX7, 10, rfl, by decide, inG7, rfl, tb 214 (by decide +kernel) (by rfl)⟩
theorem fl_RX7_16 : FL RX7 16 7 1 := ⟨RX7, TX7, 10, rfl, by decide, inG7, rfl, Or.inl (tb 215 (by decide +kernel) (by rfl))⟩
theorem ff_RX7_16 : ∃ (T : u_T) (Nf : Nat), vwCl[7]? = some (RX7, T, Nf) ∧ 1 < Nf ∧ (∀ x ∈ u_ws RX7 T Nf, x ∈ AG) ∧ (T 1).1 = RX7 ∧ Cond.fieldLink RX7 16 RX7 (T 1).2.1 (T 1).2.2.1 ∈ AG := ⟨TX7, 10, rfl, by decide, inG7, rfl, tb 215 (by decide +kernel) (by rfl)⟩
theorem fl_RX7_22 : FL RX7 22 7 2 := ⟨RX7, TX7, 10, rfl, by decide, inG7, rfl, Or.inl (tb 216 (by decide +kernel) (by rfl))⟩
theorem ff_RX7_22 : ∃ (T : u_T) (Nf : Nat), vwCl[7]? = some (RX7, T, Nf) ∧ 2 < Nf ∧ (∀ x ∈ u_ws RX7 T Nf, x ∈ AG) ∧ (T 2).1 = RX7 ∧ Cond.fieldLink RX7 22 RX7 (T 2).2.1 (T 2).2.2.1 ∈ AG := ⟨TX7, 10, rfl, by decide, inG7, rfl, tb 216 (by decide +kernel) (by rfl)⟩
theorem fl_RX7_29 : FL RX7 29 7 3 := ⟨RX7, TX7, 10, rfl, by decide, inG7, rfl, Or.inl (tb 217 (by decide +kernel) (by rfl))⟩
theorem ff_RX7_29 : ∃ (T : u_T) (Nf : Nat), vwCl[7]? = some (RX7, T, Nf) ∧ 3 < Nf ∧ (∀ x ∈ u_ws RX7 T Nf, x ∈ AG) ∧ (T 3).1 = RX7 ∧ Cond.fieldLink RX7 29 RX7 (T 3).2.1 (T 3).2.2.1 ∈ AG := ⟨TX7, 10, rfl, by decide, inG7, rfl, tb 217 (by decide +kernel) (by rfl)⟩
theorem fl_RX7_36 : FL RX7 36 7 4 := ⟨RX7, TX7, 10, rfl, by decide, inG7, rfl, Or.inl (tb 218 (by decide +kernel) (by rfl))⟩
theorem ff_RX7_36 : ∃ (T : u_T) (Nf : Nat), vwCl[7]? = some (RX7, T, Nf) ∧ 4 < Nf ∧ (∀ x ∈ u_ws RX7 T Nf, x ∈ AG) ∧ (T 4).1 = RX7 ∧ Cond.fieldLink RX7 36 RX7 (T 4).2.1 (T 4).2.2.1 ∈ AG := ⟨TX7, 10, rfl, by decide, inG7, rfl, tb 218 (by decide +kernel) (by rfl)⟩
theorem fl_RX7_43 : FL RX7 43 7 5 := ⟨RX7, TX7, 10, rfl, by decide, inG7, rfl, Or.inl (tb 219 (by decide +kernel) (by rfl))⟩
theorem ff_RX7_43 : ∃ (T : u_T) (Nf : Nat), vwCl[7]? = some (RX7, T, Nf) ∧ 5 < Nf ∧ (∀ x ∈ u_ws RX7 T Nf, x ∈ AG) ∧ (T 5).1 = RX7 ∧ Cond.fieldLink RX7 43 RX7 (T 5).2.1 (T 5).2.2.1 ∈ AG := ⟨TX7, 10, rfl, by decide, inG7, rfl, tb 219 (by decide +kernel) (by rfl)⟩
theorem fl_RX7_50 : FL RX7 50 7 6 := ⟨RX7, TX7, 10, rfl, by decide, inG7, rfl, Or.inl (tb 220 (by decide +kernel) (by rfl))⟩
theorem ff_RX7_50 : ∃ (T : u_T) (Nf : Nat), vwCl[7]? = some (RX7, T, Nf) ∧ 6 < Nf ∧ (∀ x ∈ u_ws RX7 T Nf, x ∈ AG) ∧ (T 6).1 = RX7 ∧ Cond.fieldLink RX7 50 RX7 (T 6).2.1 (T 6).2.2.1 ∈ AG := ⟨TX7, 10, rfl, by decide, inG7, rfl, tb 220 (by decide +kernel) (by rfl)⟩
theorem fl_RX7_54 : FL RX7 54 7 7 := ⟨RX7, TX7, 10, rfl, by decide, inG7, rfl, Or.inl (tb 221 (by decide +kernel) (by rfl))⟩
theorem ff_RX7_54 : ∃ (T : u_T) (Nf : Nat), vwCl[7]? = some (RX7, T, Nf) ∧ 7 < Nf ∧ (∀ x ∈ u_ws RX7 T Nf, x ∈ AG) ∧ (T 7).1 = RX7 ∧ Cond.fieldLink RX7 54 RX7 (T 7).2.1 (T 7).2.2.1 ∈ AG := ⟨TX7, 10, rfl, by decide, inG7, rfl, tb 221 (by decide +kernel) (by rfl)⟩
theorem fl_RX7_58 : FL RX7 58 7 8 := ⟨RX7, TX7, 10, rfl, by decide, inG7, rfl, Or.inl (tb 222 (by decide +kernel) (by rfl))⟩
theorem ff_RX7_58 : ∃ (T : u_T) (Nf : Nat), vwCl[7]? = some (RX7, T, Nf) ∧ 8 < Nf ∧ (∀ x ∈ u_ws RX7 T Nf, x ∈ AG) ∧ (T 8).1 = RX7 ∧ Cond.fieldLink RX7 58 RX7 (T 8).2.1 (T 8).2.2.1 ∈ AG := ⟨TX7, 10, rfl, by decide, inG7, rfl, tb 222 (by decide +kernel) (by rfl)⟩
theorem fl_RX7_62 : FL RX7 62 7 9 := ⟨RX7, TX7, 10, rfl, by decide, inG7, rfl, Or.inl (tb 223 (by decide +kernel) (by rfl))⟩
theorem ff_RX7_62 : ∃ (T : u_T) (Nf : Nat), vwCl[7]? = some (RX7, T, Nf) ∧ 9 < Nf ∧ (∀ x ∈ u_ws RX7 T Nf, x ∈ AG) ∧ (T 9).1 = RX7 ∧ Cond.fieldLink RX7 62 RX7 (T 9).2.1 (T 9).2.2.1 ∈ AG := ⟨TX7, 10, rfl, by decide, inG7, rfl, tb 223 (by decide +kernel) (by rfl)⟩
theorem fl_RX8_7 : FL RX8 7 8 0 := ⟨RX8, TX8, 17, rfl, by decide, inG8, rfl, Or.inl (tb 623 (by decide +kernel) (by rfl))⟩
theorem ff_RX8_7 : ∃ (T : u_T) (Nf : Nat), vwCl[8]? = some (RX8, T, Nf) ∧ 0 < Nf ∧ (∀ x ∈ u_ws RX8 T Nf, x ∈ AG) ∧ (T 0).1 = RX8 ∧ Cond.fieldLink RX8 7 RX8 (T 0).2.1 (T 0).2.2.1 ∈ AG := ⟨TX8, 17, rfl, by decide, inG8, rfl, tb 623 (by decide +kernel) (by rfl)⟩
theorem fl_RX8_88 : FL RX8 88 8 1 := ⟨RX8, TX8, 17, rfl, by decide, inG8, rfl, Or.inl (tb 624 (by decide +kernel) (by rfl))⟩
theorem fl_RX8_91 : FL RX8 91 8 2 := ⟨RX8, TX8, 17, rfl, by decide, inG8, rfl, Or.inl (tb 625 (by decide +kernel) (by rfl))⟩
theorem fl_RX8_13 : FL RX8 13 8 3 := ⟨RX8, TX8, 17, rfl, by decide, inG8, rfl, Or.inl (tb 626 (by decide +kernel) (by rfl))⟩
theorem ff_RX8_13 : ∃ (T : u_T) (Nf : Nat), vwCl[8]? = some (RX8, T, Nf) ∧ 3 < Nf ∧ (∀ x ∈ u_ws RX8 T Nf, x ∈ AG) ∧ (T 3).1 = RX8 ∧ Cond.fieldLink RX8 13 RX8 (T 3).2.1 (T 3).2.2.1 ∈ AG := ⟨TX8, 17, rfl, by decide, inG8, rfl, tb 626 (by decide +kernel) (by rfl)⟩
theorem fl_RX8_37 : FL RX8 37 8 4 := ⟨RX8, TX8, 17, rfl, by decide, inG8, rfl, Or.inl (tb 627 (by decide +kernel) (by rfl))⟩
theorem fl_RX8_16 : FL RX8 16 8 5 := ⟨RX8, TX8, 17, rfl, by decide, inG8, rfl, Or.inl (tb 628 (by decide +kernel) (by rfl))⟩
theorem fl_RX8_20 : FL RX8 20 8 6 := ⟨RX8, TX8, 17, rfl, by decide, inG8, rfl, Or.inl (tb 629 (by decide +kernel) (by rfl))⟩
theorem ff_RX8_20 : ∃ (T : u_T) (Nf : Nat), vwCl[8]? = some (RX8, T, Nf) ∧ 6 < Nf ∧ (∀ x ∈ u_ws RX8 T Nf, x ∈ AG) ∧ (T 6).1 = RX8 ∧ Cond.fieldLink RX8 20 RX8 (T 6).2.1 (T 6).2.2.1 ∈ AG := ⟨TX8, 17, rfl, by decide, inG8, rfl, tb 629 (by decide +kernel) (by rfl)⟩
theorem fl_RX8_23 : FL RX8 23 8 7 := ⟨RX8, TX8, 17, rfl, by decide, inG8, rfl, Or.inl (tb 630 (by decide +kernel) (by rfl))⟩
theorem ff_RX8_23 : ∃ (T : u_T) (Nf : Nat), vwCl[8]? = some (RX8, T, Nf) ∧ 7 < Nf ∧ (∀ x ∈ u_ws RX8 T Nf, x ∈ AG) ∧ (T 7).1 = RX8 ∧ Cond.fieldLink RX8 23 RX8 (T 7).2.1 (T 7).2.2.1 ∈ AG := ⟨TX8, 17, rfl, by decide, inG8, rfl, tb 630 (by decide +kernel) (by rfl)⟩
theorem fl_RX8_94 : FL RX8 94 8 8 := ⟨RX8, TX8, 17, rfl, by decide, inG8, rfl, Or.inl (tb 631 (by decide +kernel) (by rfl))⟩
theorem fl_RX8_26 : FL RX8 26 8 9 := ⟨RX8, TX8, 17, rfl, by decide, inG8, rfl, Or.inl (tb 632 (by decide +kernel) (by rfl))⟩
theorem ff_RX8_26 : ∃ (T : u_T) (Nf : Nat), vwCl[8]? = some (RX8, T, Nf) ∧ 9 < Nf ∧ (∀ x ∈ u_ws RX8 T Nf, x ∈ AG) ∧ (T 9).1 = RX8 ∧ Cond.fieldLink RX8 26 RX8 (T 9).2.1 (T 9).2.2.1 ∈ AG := ⟨TX8, 17, rfl, by decide, inG8, rfl, tb 632 (by decide +kernel) (by rfl)⟩
theorem fl_RX8_29 : FL RX8 29 8 10 := ⟨RX8, TX8, 17, rfl, by decide, inG8, rfl, Or.inl (tb 633 (by decide +kernel) (by rfl))⟩
theorem ff_RX8_29 : ∃ (T : u_T) (Nf : Nat), vwCl[8]? = some (RX8, T, Nf) ∧ 10 < Nf ∧ (∀ x ∈ u_ws RX8 T Nf, x ∈ AG) ∧ (T 10).1 = RX8 ∧ Cond.fieldLink RX8 29 RX8 (T 10).2.1 (T 10).2.2.1 ∈ AG := ⟨TX8, 17, rfl, by decide, inG8, rfl, tb 633 (by decide +kernel) (by rfl)⟩
theorem fl_RX8_51 : FL RX8 51 8 11 := ⟨RX8, TX8, 17, rfl, by decide, inG8, rfl, Or.inl (tb 634 (by decide +kernel) (by rfl))⟩
theorem fl_RX8_41 : FL RX8 41 8 12 := ⟨RX8, TX8, 17, rfl, by decide, inG8, rfl, Or.inl (tb 635 (by decide +kernel) (by rfl))⟩
theorem fl_RX8_48 : FL RX8 48 8 13 := ⟨RX8, TX8, 17, rfl, by decide, inG8, rfl, Or.inl (tb 636 (by decide +kernel) (by rfl))⟩
theorem fl_RX8_58 : FL RX8 58 8 14 := ⟨RX8, TX8, 17, rfl, by decide, inG8, rfl, Or.inl (tb 637 (by decide +kernel) (by rfl))⟩
theorem fl_RX8_69 : FL RX8 69 8 15 := ⟨RX8, TX8, 17, rfl, by decide, inG8, rfl, Or.inl (tb 638 (by decide +kernel) (by rfl))⟩
theorem fl_RX8_72 : FL RX8 72 8 16 := ⟨RX8, TX8, 17, rfl, by decide, inG8, rfl, Or.inl (tb 639 (by decide +kernel) (by rfl))⟩
theorem mi_yX0_init : MIn yX0_init cX0_init 1 none 0 := ⟨tb 190 (by decide +kernel) (by rfl), tb 7 (by decide +kernel) (by rfl), by decide +kernel⟩
theorem mn_yX0_init : Cond.instanceMethod yX0_init ∈ AG := tb 189 (by decide +kernel) (by rfl)
theorem mi_yX0_append : MIn yX0_append cX0_append 3 (some .int) 2 := ⟨tb 600 (by decide +kernel) (by rfl), tb 7 (by decide +kernel) (by rfl), by decide +kernel⟩
theorem mv_yX0_append : MIv yX0_append := ⟨tb 599 (by decide +kernel) (by rfl), sb 49 (by decide +kernel) (by rfl)⟩
theorem mi_yX0_firstWrong : MIn yX0_firstWrong cX0_firstWrong 3 (some .int) 1 := ⟨tb 430 (by decide +kernel) (by rfl), tb 7 (by decide +kernel) (by rfl), by decide +kernel⟩
theorem mv_yX0_firstWrong : MIv yX0_firstWrong := ⟨tb 429 (by decide +kernel) (by rfl), sb 31 (by decide +kernel) (by rfl)⟩
theorem mi_yX1_init : MIn yX1_init cX1_init 1 none 0 := ⟨tb 137 (by decide +kernel) (by rfl), tb 4 (by decide +kernel) (by rfl), by decide +kernel⟩
theorem mn_yX1_init : Cond.instanceMethod yX1_init ∈ AG := tb 136 (by decide +kernel) (by rfl)
theorem mi_yX1_middleFor : MIn yX1_middleFor cX1_middleFor 4 (some .int) 2 := ⟨tb 451 (by decide +kernel) (by rfl), tb 4 (by decide +kernel) (by rfl), by decide +kernel⟩
theorem mv_yX1_middleFor : MIv yX1_middleFor := ⟨tb 450 (by decide +kernel) (by rfl), sb 33 (by decide +kernel) (by rfl)⟩
theorem mi_yX1_meet : MIn yX1_meet cX1_meet 3 none 1 := ⟨tb 510 (by decide +kernel) (by rfl), tb 4 (by decide +kernel) (by rfl), by decide +kernel⟩
theorem mv_yX1_meet : MIv yX1_meet := ⟨tb 509 (by decide +kernel) (by rfl), sb 41 (by decide +kernel) (by rfl)⟩
theorem mi_yX1_canJoin : MIn yX1_canJoin cX1_canJoin 3 (some .boolean) 2 := ⟨tb 537 (by decide +kernel) (by rfl), tb 4 (by decide +kernel) (by rfl), by decide +kernel⟩
theorem mv_yX1_canJoin : MIv yX1_canJoin := ⟨tb 536 (by decide +kernel) (by rfl), sb 42 (by decide +kernel) (by rfl)⟩
theorem mi_yX1_letJoin : MIn yX1_letJoin cX1_letJoin 3 none 2 := ⟨tb 547 (by decide +kernel) (by rfl), tb 4 (by decide +kernel) (by rfl), by decide +kernel⟩
theorem mv_yX1_letJoin : MIv yX1_letJoin := ⟨tb 546 (by decide +kernel) (by rfl), sb 44 (by decide +kernel) (by rfl)⟩
theorem mi_yX1_hearToJoin : MIn yX1_hearToJoin cX1_hearToJoin 4 none 2 := ⟨tb 541 (by decide +kernel) (by rfl), tb 4 (by decide +kernel) (by rfl), by decide +kernel⟩
theorem mv_yX1_hearToJoin : MIv yX1_hearToJoin := ⟨tb 540 (by decide +kernel) (by rfl), sb 43 (by decide +kernel) (by rfl)⟩
theorem mi_yX1_middleByLie : MIn yX1_middleByLie cX1_middleByLie 6 (some .int) 4 := ⟨tb 476 (by decide +kernel) (by rfl), tb 4 (by decide +kernel) (by rfl), by decide +kernel⟩
theorem mv_yX1_middleByLie : MIv yX1_middleByLie := ⟨tb 475 (by decide +kernel) (by rfl), sb 37 (by decide +kernel) (by rfl)⟩
theorem mi_yX1_farthest : MIn yX1_farthest cX1_farthest 8 (some .int) 3 := ⟨tb 472 (by decide +kernel) (by rfl), tb 4 (by decide +kernel) (by rfl), by decide +kernel⟩
theorem mv_yX1_farthest : MIv yX1_farthest := ⟨tb 471 (by decide +kernel) (by rfl), sb 36 (by decide +kernel) (by rfl)⟩
theorem mi_yX1_worst : MIn yX1_worst cX1_worst 3 (some .int) 1 := ⟨tb 370 (by decide +kernel) (by rfl), tb 4 (by decide +kernel) (by rfl), by decide +kernel⟩
theorem mv_yX1_worst : MIv yX1_worst := ⟨tb 369 (by decide +kernel) (by rfl), sb 21 (by decide +kernel) (by rfl)⟩
theorem mi_yX1_middleWithLiarsAt : MIn yX1_middleWithLiarsAt cX1_middleWithLiarsAt 5 (some .int) 3 := ⟨tb 389 (by decide +kernel) (by rfl), tb 4 (by decide +kernel) (by rfl), by decide +kernel⟩
theorem mv_yX1_middleWithLiarsAt : MIv yX1_middleWithLiarsAt := ⟨tb 388 (by decide +kernel) (by rfl), sb 23 (by decide +kernel) (by rfl)⟩
theorem mi_yX1_widestPair : MIn yX1_widestPair cX1_widestPair 5 (some .int) 1 := ⟨tb 420 (by decide +kernel) (by rfl), tb 4 (by decide +kernel) (by rfl), by decide +kernel⟩
theorem mv_yX1_widestPair : MIv yX1_widestPair := ⟨tb 419 (by decide +kernel) (by rfl), sb 29 (by decide +kernel) (by rfl)⟩
theorem mi_yX2_init : MIn yX2_init cX2_init 1 none 0 := ⟨tb 207 (by decide +kernel) (by rfl), tb 8 (by decide +kernel) (by rfl), by decide +kernel⟩
theorem mn_yX2_init : Cond.instanceMethod yX2_init ∈ AG := tb 206 (by decide +kernel) (by rfl)
theorem mi_yX2_next : MIn yX2_next cX2_next 2 (some .int) 1 := ⟨tb 569 (by decide +kernel) (by rfl), tb 8 (by decide +kernel) (by rfl), by decide +kernel⟩
theorem mv_yX2_next : MIv yX2_next := ⟨tb 568 (by decide +kernel) (by rfl), sb 47 (by decide +kernel) (by rfl)⟩
theorem mi_yX3_init : MIn yX3_init cX3_init 1 none 0 := ⟨tb 143 (by decide +kernel) (by rfl), tb 5 (by decide +kernel) (by rfl), by decide +kernel⟩
theorem mn_yX3_init : Cond.instanceMethod yX3_init ∈ AG := tb 142 (by decide +kernel) (by rfl)
theorem mi_yX3_take : MIn yX3_take cX3_take 3 none 1 := ⟨tb 404 (by decide +kernel) (by rfl), tb 5 (by decide +kernel) (by rfl), by decide +kernel⟩
theorem mv_yX3_take : MIv yX3_take := ⟨tb 403 (by decide +kernel) (by rfl), sb 26 (by decide +kernel) (by rfl)⟩
theorem mi_yX3_leaves : MIn yX3_leaves cX3_leaves 2 (some .boolean) 1 := ⟨tb 412 (by decide +kernel) (by rfl), tb 5 (by decide +kernel) (by rfl), by decide +kernel⟩
theorem mv_yX3_leaves : MIv yX3_leaves := ⟨tb 411 (by decide +kernel) (by rfl), sb 28 (by decide +kernel) (by rfl)⟩
theorem mi_yX3_middle : MIn yX3_middle cX3_middle 2 (some .int) 1 := ⟨tb 408 (by decide +kernel) (by rfl), tb 5 (by decide +kernel) (by rfl), by decide +kernel⟩
theorem mv_yX3_middle : MIv yX3_middle := ⟨tb 407 (by decide +kernel) (by rfl), sb 27 (by decide +kernel) (by rfl)⟩
theorem mi_yX4_init : MIn yX4_init cX4_init 2 none 0 := ⟨tb 170 (by decide +kernel) (by rfl), tb 6 (by decide +kernel) (by rfl), by decide +kernel⟩
theorem mn_yX4_init : Cond.instanceMethod yX4_init ∈ AG := tb 169 (by decide +kernel) (by rfl)
theorem mi_yX4_remember : MIn yX4_remember cX4_remember 2 none 1 := ⟨tb 492 (by decide +kernel) (by rfl), tb 6 (by decide +kernel) (by rfl), by decide +kernel⟩
theorem mv_yX4_remember : MIv yX4_remember := ⟨tb 491 (by decide +kernel) (by rfl), sb 38 (by decide +kernel) (by rfl)⟩
theorem mi_yX4_takeBack : MIn yX4_takeBack cX4_takeBack 3 none 2 := ⟨tb 581 (by decide +kernel) (by rfl), tb 6 (by decide +kernel) (by rfl), by decide +kernel⟩
theorem mv_yX4_takeBack : MIv yX4_takeBack := ⟨tb 580 (by decide +kernel) (by rfl), sb 48 (by decide +kernel) (by rfl)⟩
theorem mi_yX4_forget : MIn yX4_forget cX4_forget 1 none 0 := ⟨tb 331 (by decide +kernel) (by rfl), tb 6 (by decide +kernel) (by rfl), by decide +kernel⟩
theorem mv_yX4_forget : MIv yX4_forget := ⟨tb 330 (by decide +kernel) (by rfl), sb 15 (by decide +kernel) (by rfl)⟩
theorem mi_yX5_init : MIn yX5_init cX5_init 1 none 0 := ⟨tb 26 (by decide +kernel) (by rfl), tb 2 (by decide +kernel) (by rfl), by decide +kernel⟩
theorem mn_yX5_init : Cond.instanceMethod yX5_init ∈ AG := tb 25 (by decide +kernel) (by rfl)
theorem mi_yX5_way : MIn yX5_way cX5_way 2 (some .int) 2 := ⟨tb 400 (by decide +kernel) (by rfl), tb 2 (by decide +kernel) (by rfl), by decide +kernel⟩
theorem ms_yX5_way : MIs yX5_way := tb 399 (by decide +kernel) (by rfl)
theorem mi_yX5_clear : MIn yX5_clear cX5_clear 1 none 0 := ⟨tb 270 (by decide +kernel) (by rfl), tb 2 (by decide +kernel) (by rfl), by decide +kernel⟩
theorem mv_yX5_clear : MIv yX5_clear := ⟨tb 269 (by decide +kernel) (by rfl), sb 2 (by decide +kernel) (by rfl)⟩
theorem mi_yX5_copyFrom : MIn yX5_copyFrom cX5_copyFrom 2 none 1 := ⟨tb 324 (by decide +kernel) (by rfl), tb 2 (by decide +kernel) (by rfl), by decide +kernel⟩
theorem mv_yX5_copyFrom : MIv yX5_copyFrom := ⟨tb 323 (by decide +kernel) (by rfl), sb 14 (by decide +kernel) (by rfl)⟩
theorem mi_yX5_addClock : MIn yX5_addClock cX5_addClock 3 none 2 := ⟨tb 304 (by decide +kernel) (by rfl), tb 2 (by decide +kernel) (by rfl), by decide +kernel⟩
theorem mv_yX5_addClock : MIv yX5_addClock := ⟨tb 303 (by decide +kernel) (by rfl), sb 9 (by decide +kernel) (by rfl)⟩
theorem mi_yX5_has : MIn yX5_has cX5_has 2 (some .boolean) 1 := ⟨tb 434 (by decide +kernel) (by rfl), tb 2 (by decide +kernel) (by rfl), by decide +kernel⟩
theorem mv_yX5_has : MIv yX5_has := ⟨tb 433 (by decide +kernel) (by rfl), sb 32 (by decide +kernel) (by rfl)⟩
theorem mi_yX5_hasBoth : MIn yX5_hasBoth cX5_hasBoth 3 (some .boolean) 2 := ⟨tb 459 (by decide +kernel) (by rfl), tb 2 (by decide +kernel) (by rfl), by decide +kernel⟩
theorem mv_yX5_hasBoth : MIv yX5_hasBoth := ⟨tb 458 (by decide +kernel) (by rfl), sb 34 (by decide +kernel) (by rfl)⟩
theorem mi_yX5_lies : MIn yX5_lies cX5_lies 2 (some .boolean) 1 := ⟨tb 312 (by decide +kernel) (by rfl), tb 2 (by decide +kernel) (by rfl), by decide +kernel⟩
theorem mv_yX5_lies : MIv yX5_lies := ⟨tb 311 (by decide +kernel) (by rfl), sb 11 (by decide +kernel) (by rfl)⟩
theorem mi_yX5_stands : MIn yX5_stands cX5_stands 2 (some .boolean) 1 := ⟨tb 356 (by decide +kernel) (by rfl), tb 2 (by decide +kernel) (by rfl), by decide +kernel⟩
theorem mv_yX5_stands : MIv yX5_stands := ⟨tb 355 (by decide +kernel) (by rfl), sb 19 (by decide +kernel) (by rfl)⟩
theorem mi_yX5_isTrue : MIn yX5_isTrue cX5_isTrue 2 (some .boolean) 1 := ⟨tb 351 (by decide +kernel) (by rfl), tb 2 (by decide +kernel) (by rfl), by decide +kernel⟩
theorem mv_yX5_isTrue : MIv yX5_isTrue := ⟨tb 350 (by decide +kernel) (by rfl), sb 18 (by decide +kernel) (by rfl)⟩
theorem mi_yX5_tellsLies : MIn yX5_tellsLies cX5_tellsLies 2 (some .boolean) 1 := ⟨tb 393 (by decide +kernel) (by rfl), tb 2 (by decide +kernel) (by rfl), by decide +kernel⟩
theorem mv_yX5_tellsLies : MIv yX5_tellsLies := ⟨tb 392 (by decide +kernel) (by rfl), sb 24 (by decide +kernel) (by rfl)⟩
theorem mi_yX5_trueSet : MIn yX5_trueSet cX5_trueSet 1 (some .int) 0 := ⟨tb 343 (by decide +kernel) (by rfl), tb 2 (by decide +kernel) (by rfl), by decide +kernel⟩
theorem mv_yX5_trueSet : MIv yX5_trueSet := ⟨tb 342 (by decide +kernel) (by rfl), sb 16 (by decide +kernel) (by rfl)⟩
theorem mi_yX5_aim : MIn yX5_aim cX5_aim 2 (some .int) 1 := ⟨tb 360 (by decide +kernel) (by rfl), tb 2 (by decide +kernel) (by rfl), by decide +kernel⟩
theorem mv_yX5_aim : MIv yX5_aim := ⟨tb 359 (by decide +kernel) (by rfl), sb 20 (by decide +kernel) (by rfl)⟩
theorem mi_yX5_heardOf : MIn yX5_heardOf cX5_heardOf 3 (some .int) 2 := ⟨tb 397 (by decide +kernel) (by rfl), tb 2 (by decide +kernel) (by rfl), by decide +kernel⟩
theorem mv_yX5_heardOf : MIv yX5_heardOf := ⟨tb 396 (by decide +kernel) (by rfl), sb 25 (by decide +kernel) (by rfl)⟩
theorem mi_yX5_allStruck : MIn yX5_allStruck cX5_allStruck 1 (some .boolean) 0 := ⟨tb 381 (by decide +kernel) (by rfl), tb 2 (by decide +kernel) (by rfl), by decide +kernel⟩
theorem mv_yX5_allStruck : MIv yX5_allStruck := ⟨tb 380 (by decide +kernel) (by rfl), sb 22 (by decide +kernel) (by rfl)⟩
theorem mi_yX5_rank : MIn yX5_rank cX5_rank 7 (some .int) 2 := ⟨tb 466 (by decide +kernel) (by rfl), tb 2 (by decide +kernel) (by rfl), by decide +kernel⟩
theorem mv_yX5_rank : MIv yX5_rank := ⟨tb 465 (by decide +kernel) (by rfl), sb 35 (by decide +kernel) (by rfl)⟩
theorem mi_yX5_apart : MIn yX5_apart cX5_apart 5 (some .int) 0 := ⟨tb 347 (by decide +kernel) (by rfl), tb 2 (by decide +kernel) (by rfl), by decide +kernel⟩
theorem mv_yX5_apart : MIv yX5_apart := ⟨tb 346 (by decide +kernel) (by rfl), sb 17 (by decide +kernel) (by rfl)⟩
theorem mi_yX5_mayLie : MIn yX5_mayLie cX5_mayLie 2 (some .int) 0 := ⟨tb 425 (by decide +kernel) (by rfl), tb 2 (by decide +kernel) (by rfl), by decide +kernel⟩
theorem mv_yX5_mayLie : MIv yX5_mayLie := ⟨tb 424 (by decide +kernel) (by rfl), sb 30 (by decide +kernel) (by rfl)⟩
theorem mi_yX5_goOn : MIn yX5_goOn cX5_goOn 3 (some .int) 0 := ⟨tb 498 (by decide +kernel) (by rfl), tb 2 (by decide +kernel) (by rfl), by decide +kernel⟩
theorem mv_yX5_goOn : MIv yX5_goOn := ⟨tb 497 (by decide +kernel) (by rfl), sb 39 (by decide +kernel) (by rfl)⟩
theorem mi_yX5_setAlarm : MIn yX5_setAlarm cX5_setAlarm 4 (some .int) 2 := ⟨tb 557 (by decide +kernel) (by rfl), tb 2 (by decide +kernel) (by rfl), by decide +kernel⟩
theorem mv_yX5_setAlarm : MIv yX5_setAlarm := ⟨tb 556 (by decide +kernel) (by rfl), sb 45 (by decide +kernel) (by rfl)⟩
theorem mi_yX5_ring : MIn yX5_ring cX5_ring 3 (some .int) 0 := ⟨tb 502 (by decide +kernel) (by rfl), tb 2 (by decide +kernel) (by rfl), by decide +kernel⟩
theorem mv_yX5_ring : MIv yX5_ring := ⟨tb 501 (by decide +kernel) (by rfl), sb 40 (by decide +kernel) (by rfl)⟩
theorem mi_yX6_init : MIn yX6_init cX6_init 1 none 0 := ⟨tb 104 (by decide +kernel) (by rfl), tb 3 (by decide +kernel) (by rfl), by decide +kernel⟩
theorem mn_yX6_init : Cond.instanceMethod yX6_init ∈ AG := tb 103 (by decide +kernel) (by rfl)
theorem mi_yX6_append : MIn yX6_append cX6_append 2 (some .int) 1 := ⟨tb 258 (by decide +kernel) (by rfl), tb 3 (by decide +kernel) (by rfl), by decide +kernel⟩
theorem mv_yX6_append : MIv yX6_append := ⟨tb 257 (by decide +kernel) (by rfl), sb 0 (by decide +kernel) (by rfl)⟩
theorem mi_yX6_readInto : MIn yX6_readInto cX6_readInto 3 (some .int) 1 := ⟨tb 266 (by decide +kernel) (by rfl), tb 3 (by decide +kernel) (by rfl), by decide +kernel⟩
theorem mv_yX6_readInto : MIv yX6_readInto := ⟨tb 265 (by decide +kernel) (by rfl), sb 1 (by decide +kernel) (by rfl)⟩
theorem mi_yX6_readClause : MIn yX6_readClause cX6_readClause 2 none 1 := ⟨tb 281 (by decide +kernel) (by rfl), tb 3 (by decide +kernel) (by rfl), by decide +kernel⟩
theorem mv_yX6_readClause : MIv yX6_readClause := ⟨tb 280 (by decide +kernel) (by rfl), sb 4 (by decide +kernel) (by rfl)⟩
theorem mi_yX6_readClock : MIn yX6_readClock cX6_readClock 4 none 1 := ⟨tb 289 (by decide +kernel) (by rfl), tb 3 (by decide +kernel) (by rfl), by decide +kernel⟩
theorem mv_yX6_readClock : MIv yX6_readClock := ⟨tb 288 (by decide +kernel) (by rfl), sb 6 (by decide +kernel) (by rfl)⟩
theorem mi_yX6_readLiar : MIn yX6_readLiar cX6_readLiar 3 none 1 := ⟨tb 308 (by decide +kernel) (by rfl), tb 3 (by decide +kernel) (by rfl), by decide +kernel⟩
theorem mv_yX6_readLiar : MIv yX6_readLiar := ⟨tb 307 (by decide +kernel) (by rfl), sb 10 (by decide +kernel) (by rfl)⟩
theorem mi_yX6_readStrike : MIn yX6_readStrike cX6_readStrike 2 none 1 := ⟨tb 316 (by decide +kernel) (by rfl), tb 3 (by decide +kernel) (by rfl), by decide +kernel⟩
theorem mv_yX6_readStrike : MIv yX6_readStrike := ⟨tb 315 (by decide +kernel) (by rfl), sb 12 (by decide +kernel) (by rfl)⟩
theorem mi_yX6_readStep : MIn yX6_readStep cX6_readStep 2 none 1 := ⟨tb 320 (by decide +kernel) (by rfl), tb 3 (by decide +kernel) (by rfl), by decide +kernel⟩
theorem mv_yX6_readStep : MIv yX6_readStep := ⟨tb 319 (by decide +kernel) (by rfl), sb 13 (by decide +kernel) (by rfl)⟩
theorem mi_yX6_readNumber : MIn yX6_readNumber cX6_readNumber 4 (some .int) 2 := ⟨tb 297 (by decide +kernel) (by rfl), tb 3 (by decide +kernel) (by rfl), by decide +kernel⟩
theorem mv_yX6_readNumber : MIv yX6_readNumber := ⟨tb 296 (by decide +kernel) (by rfl), sb 8 (by decide +kernel) (by rfl)⟩
theorem mi_yX6_note : MIn yX6_note cX6_note 3 none 2 := ⟨tb 293 (by decide +kernel) (by rfl), tb 3 (by decide +kernel) (by rfl), by decide +kernel⟩
theorem mv_yX6_note : MIv yX6_note := ⟨tb 292 (by decide +kernel) (by rfl), sb 7 (by decide +kernel) (by rfl)⟩
theorem mi_yX6_skipBlanks : MIn yX6_skipBlanks cX6_skipBlanks 1 none 0 := ⟨tb 277 (by decide +kernel) (by rfl), tb 3 (by decide +kernel) (by rfl), by decide +kernel⟩
theorem mv_yX6_skipBlanks : MIv yX6_skipBlanks := ⟨tb 276 (by decide +kernel) (by rfl), sb 3 (by decide +kernel) (by rfl)⟩
theorem mi_yX6_letter : MIn yX6_letter cX6_letter 1 (some .int) 0 := ⟨tb 285 (by decide +kernel) (by rfl), tb 3 (by decide +kernel) (by rfl), by decide +kernel⟩
theorem mv_yX6_letter : MIv yX6_letter := ⟨tb 284 (by decide +kernel) (by rfl), sb 5 (by decide +kernel) (by rfl)⟩
theorem mi_yX6_isFigure : MIn yX6_isFigure cX6_isFigure 1 (some .boolean) 1 := ⟨tb 300 (by decide +kernel) (by rfl), tb 3 (by decide +kernel) (by rfl), by decide +kernel⟩
theorem ms_yX6_isFigure : MIs yX6_isFigure := tb 299 (by decide +kernel) (by rfl)
theorem mi_yX7_init : MIn yX7_init cX7_init 2 none 0 := ⟨tb 18 (by decide +kernel) (by rfl), tb 1 (by decide +kernel) (by rfl), by decide +kernel⟩
theorem mn_yX7_init : Cond.instanceMethod yX7_init ∈ AG := tb 17 (by decide +kernel) (by rfl)
theorem mi_yX7_feed : MIn yX7_feed cX7_feed 2 (some .int) 1 := ⟨tb 249 (by decide +kernel) (by rfl), tb 1 (by decide +kernel) (by rfl), by decide +kernel⟩
theorem mv_yX7_feed : MIv yX7_feed := ⟨tb 247 (by decide +kernel) (by rfl), tb 248 (by decide +kernel) (by rfl)⟩
theorem mi_yX7_clocks : MIn yX7_clocks cX7_clocks 3 (some .int) 0 := ⟨tb 262 (by decide +kernel) (by rfl), tb 1 (by decide +kernel) (by rfl), by decide +kernel⟩
theorem mv_yX7_clocks : MIv yX7_clocks := ⟨tb 260 (by decide +kernel) (by rfl), tb 261 (by decide +kernel) (by rfl)⟩
theorem mi_yX7_fault : MIn yX7_fault cX7_fault 1 (some .int) 0 := ⟨tb 335 (by decide +kernel) (by rfl), tb 1 (by decide +kernel) (by rfl), by decide +kernel⟩
theorem mv_yX7_fault : MIv yX7_fault := ⟨tb 333 (by decide +kernel) (by rfl), tb 334 (by decide +kernel) (by rfl)⟩
theorem mi_yX7_told : MIn yX7_told cX7_told 2 (some .int) 1 := ⟨tb 339 (by decide +kernel) (by rfl), tb 1 (by decide +kernel) (by rfl), by decide +kernel⟩
theorem mv_yX7_told : MIv yX7_told := ⟨tb 337 (by decide +kernel) (by rfl), tb 338 (by decide +kernel) (by rfl)⟩
theorem mi_yX7_clock : MIn yX7_clock cX7_clock 3 (some .int) 2 := ⟨tb 439 (by decide +kernel) (by rfl), tb 1 (by decide +kernel) (by rfl), by decide +kernel⟩
theorem mv_yX7_clock : MIv yX7_clock := ⟨tb 437 (by decide +kernel) (by rfl), tb 438 (by decide +kernel) (by rfl)⟩
theorem mi_yX7_heard : MIn yX7_heard cX7_heard 4 (some .int) 3 := ⟨tb 455 (by decide +kernel) (by rfl), tb 1 (by decide +kernel) (by rfl), by decide +kernel⟩
theorem mv_yX7_heard : MIv yX7_heard := ⟨tb 453 (by decide +kernel) (by rfl), tb 454 (by decide +kernel) (by rfl)⟩
theorem mi_yX7_alarmAt : MIn yX7_alarmAt cX7_alarmAt 3 (some .int) 2 := ⟨tb 484 (by decide +kernel) (by rfl), tb 1 (by decide +kernel) (by rfl), by decide +kernel⟩
theorem mv_yX7_alarmAt : MIv yX7_alarmAt := ⟨tb 482 (by decide +kernel) (by rfl), tb 483 (by decide +kernel) (by rfl)⟩
theorem mi_yX7_tick : MIn yX7_tick cX7_tick 4 (some .int) 1 := ⟨tb 488 (by decide +kernel) (by rfl), tb 1 (by decide +kernel) (by rfl), by decide +kernel⟩
theorem mv_yX7_tick : MIv yX7_tick := ⟨tb 486 (by decide +kernel) (by rfl), tb 487 (by decide +kernel) (by rfl)⟩
theorem mi_yX7_round : MIn yX7_round cX7_round 1 (some .int) 0 := ⟨tb 506 (by decide +kernel) (by rfl), tb 1 (by decide +kernel) (by rfl), by decide +kernel⟩
theorem mv_yX7_round : MIv yX7_round := ⟨tb 504 (by decide +kernel) (by rfl), tb 505 (by decide +kernel) (by rfl)⟩
theorem mi_yX7_lie : MIn yX7_lie cX7_lie 5 (some .int) 3 := ⟨tb 515 (by decide +kernel) (by rfl), tb 1 (by decide +kernel) (by rfl), by decide +kernel⟩
theorem mv_yX7_lie : MIv yX7_lie := ⟨tb 513 (by decide +kernel) (by rfl), tb 514 (by decide +kernel) (by rfl)⟩
theorem mi_yX7_error : MIn yX7_error cX7_error 5 (some .int) 3 := ⟨tb 519 (by decide +kernel) (by rfl), tb 1 (by decide +kernel) (by rfl), by decide +kernel⟩
theorem mv_yX7_error : MIv yX7_error := ⟨tb 517 (by decide +kernel) (by rfl), tb 518 (by decide +kernel) (by rfl)⟩
theorem mi_yX7_liar : MIn yX7_liar cX7_liar 3 (some .int) 2 := ⟨tb 523 (by decide +kernel) (by rfl), tb 1 (by decide +kernel) (by rfl), by decide +kernel⟩
theorem mv_yX7_liar : MIv yX7_liar := ⟨tb 521 (by decide +kernel) (by rfl), tb 522 (by decide +kernel) (by rfl)⟩
theorem mi_yX7_stand : MIn yX7_stand cX7_stand 2 (some .int) 1 := ⟨tb 528 (by decide +kernel) (by rfl), tb 1 (by decide +kernel) (by rfl), by decide +kernel⟩
theorem mv_yX7_stand : MIv yX7_stand := ⟨tb 526 (by decide +kernel) (by rfl), tb 527 (by decide +kernel) (by rfl)⟩
theorem mi_yX7_join : MIn yX7_join cX7_join 2 (some .int) 1 := ⟨tb 533 (by decide +kernel) (by rfl), tb 1 (by decide +kernel) (by rfl), by decide +kernel⟩
theorem mv_yX7_join : MIv yX7_join := ⟨tb 531 (by decide +kernel) (by rfl), tb 532 (by decide +kernel) (by rfl)⟩
theorem mi_yX7_alarm : MIn yX7_alarm cX7_alarm 3 (some .int) 2 := ⟨tb 552 (by decide +kernel) (by rfl), tb 1 (by decide +kernel) (by rfl), by decide +kernel⟩
theorem mv_yX7_alarm : MIv yX7_alarm := ⟨tb 550 (by decide +kernel) (by rfl), tb 551 (by decide +kernel) (by rfl)⟩
theorem mi_yX7_drift : MIn yX7_drift cX7_drift 3 (some .int) 1 := ⟨tb 561 (by decide +kernel) (by rfl), tb 1 (by decide +kernel) (by rfl), by decide +kernel⟩
theorem mv_yX7_drift : MIv yX7_drift := ⟨tb 559 (by decide +kernel) (by rfl), tb 560 (by decide +kernel) (by rfl)⟩
theorem mi_yX7_undo : MIn yX7_undo cX7_undo 2 (some .int) 1 := ⟨tb 577 (by decide +kernel) (by rfl), tb 1 (by decide +kernel) (by rfl), by decide +kernel⟩
theorem mv_yX7_undo : MIv yX7_undo := ⟨tb 575 (by decide +kernel) (by rfl), tb 576 (by decide +kernel) (by rfl)⟩
theorem mi_yX7_behind : MIn yX7_behind cX7_behind 3 (some .int) 1 := ⟨tb 588 (by decide +kernel) (by rfl), tb 1 (by decide +kernel) (by rfl), by decide +kernel⟩
theorem mv_yX7_behind : MIv yX7_behind := ⟨tb 586 (by decide +kernel) (by rfl), tb 587 (by decide +kernel) (by rfl)⟩
theorem mi_yX7_within : MIn yX7_within cX7_within 3 (some .int) 1 := ⟨tb 592 (by decide +kernel) (by rfl), tb 1 (by decide +kernel) (by rfl), by decide +kernel⟩
theorem mv_yX7_within : MIv yX7_within := ⟨tb 590 (by decide +kernel) (by rfl), tb 591 (by decide +kernel) (by rfl)⟩
theorem mi_yX7_write : MIn yX7_write cX7_write 3 (some .int) 2 := ⟨tb 596 (by decide +kernel) (by rfl), tb 1 (by decide +kernel) (by rfl), by decide +kernel⟩
theorem mv_yX7_write : MIv yX7_write := ⟨tb 594 (by decide +kernel) (by rfl), tb 595 (by decide +kernel) (by rfl)⟩
theorem mi_yX7_tear : MIn yX7_tear cX7_tear 2 (some .int) 0 := ⟨tb 604 (by decide +kernel) (by rfl), tb 1 (by decide +kernel) (by rfl), by decide +kernel⟩
theorem mv_yX7_tear : MIv yX7_tear := ⟨tb 602 (by decide +kernel) (by rfl), tb 603 (by decide +kernel) (by rfl)⟩
theorem mi_yX7_seed : MIn yX7_seed cX7_seed 3 (some .int) 1 := ⟨tb 608 (by decide +kernel) (by rfl), tb 1 (by decide +kernel) (by rfl), by decide +kernel⟩
theorem mv_yX7_seed : MIv yX7_seed := ⟨tb 606 (by decide +kernel) (by rfl), tb 607 (by decide +kernel) (by rfl)⟩
theorem mi_yX7_keep : MIn yX7_keep cX7_keep 2 (some .int) 1 := ⟨tb 612 (by decide +kernel) (by rfl), tb 1 (by decide +kernel) (by rfl), by decide +kernel⟩
theorem mv_yX7_keep : MIv yX7_keep := ⟨tb 610 (by decide +kernel) (by rfl), tb 611 (by decide +kernel) (by rfl)⟩
theorem mi_yX7_goBack : MIn yX7_goBack cX7_goBack 2 (some .int) 1 := ⟨tb 616 (by decide +kernel) (by rfl), tb 1 (by decide +kernel) (by rfl), by decide +kernel⟩
theorem mv_yX7_goBack : MIv yX7_goBack := ⟨tb 614 (by decide +kernel) (by rfl), tb 615 (by decide +kernel) (by rfl)⟩
theorem mi_yX7_between : MIn yX7_between cX7_between 3 (some .boolean) 3 := ⟨tb 252 (by decide +kernel) (by rfl), tb 1 (by decide +kernel) (by rfl), by decide +kernel⟩
theorem ms_yX7_between : MIs yX7_between := tb 251 (by decide +kernel) (by rfl)
theorem mi_yX7_driftOnce : MIn yX7_driftOnce cX7_driftOnce 6 none 0 := ⟨tb 565 (by decide +kernel) (by rfl), tb 1 (by decide +kernel) (by rfl), by decide +kernel⟩
theorem mv_yX7_driftOnce : MIv yX7_driftOnce := ⟨tb 564 (by decide +kernel) (by rfl), sb 46 (by decide +kernel) (by rfl)⟩
theorem mi_yX8_init : MIn yX8_init cX8_init 1 none 0 := ⟨tb 621 (by decide +kernel) (by rfl), tb 9 (by decide +kernel) (by rfl), by decide +kernel⟩
theorem mn_yX8_init : Cond.instanceMethod yX8_init ∈ AG := tb 620 (by decide +kernel) (by rfl)
theorem mi_yX8_in : MIn yX8_in cX8_in 3 (some .boolean) 3 := ⟨tb 681 (by decide +kernel) (by rfl), tb 9 (by decide +kernel) (by rfl), by decide +kernel⟩
theorem ms_yX8_in : MIs yX8_in := tb 680 (by decide +kernel) (by rfl)
theorem mi_yX8_has : MIn yX8_has cX8_has 2 (some .boolean) 2 := ⟨tb 926 (by decide +kernel) (by rfl), tb 9 (by decide +kernel) (by rfl), by decide +kernel⟩
theorem ms_yX8_has : MIs yX8_has := tb 925 (by decide +kernel) (by rfl)
theorem mi_yX8_copyRow : MIn yX8_copyRow cX8_copyRow 4 none 2 := ⟨tb 719 (by decide +kernel) (by rfl), tb 9 (by decide +kernel) (by rfl), by decide +kernel⟩
theorem mv_yX8_copyRow : MIv yX8_copyRow := ⟨tb 718 (by decide +kernel) (by rfl), sb 57 (by decide +kernel) (by rfl)⟩
theorem mi_yX8_isClock : MIn yX8_isClock cX8_isClock 2 (some .boolean) 1 := ⟨tb 794 (by decide +kernel) (by rfl), tb 9 (by decide +kernel) (by rfl), by decide +kernel⟩
theorem mv_yX8_isClock : MIv yX8_isClock := ⟨tb 793 (by decide +kernel) (by rfl), sb 73 (by decide +kernel) (by rfl)⟩
theorem mi_yX8_aim : MIn yX8_aim cX8_aim 3 (some .int) 2 := ⟨tb 743 (by decide +kernel) (by rfl), tb 9 (by decide +kernel) (by rfl), by decide +kernel⟩
theorem mv_yX8_aim : MIv yX8_aim := ⟨tb 742 (by decide +kernel) (by rfl), sb 61 (by decide +kernel) (by rfl)⟩
theorem mi_yX8_isTrue : MIn yX8_isTrue cX8_isTrue 3 (some .boolean) 2 := ⟨tb 735 (by decide +kernel) (by rfl), tb 9 (by decide +kernel) (by rfl), by decide +kernel⟩
theorem mv_yX8_isTrue : MIv yX8_isTrue := ⟨tb 734 (by decide +kernel) (by rfl), sb 59 (by decide +kernel) (by rfl)⟩
theorem mi_yX8_isLiar : MIn yX8_isLiar cX8_isLiar 3 (some .boolean) 2 := ⟨tb 759 (by decide +kernel) (by rfl), tb 9 (by decide +kernel) (by rfl), by decide +kernel⟩
theorem mv_yX8_isLiar : MIv yX8_isLiar := ⟨tb 758 (by decide +kernel) (by rfl), sb 65 (by decide +kernel) (by rfl)⟩
theorem mi_yX8_feed : MIn yX8_feed cX8_feed 2 (some .int) 1 := ⟨tb 678 (by decide +kernel) (by rfl), tb 9 (by decide +kernel) (by rfl), by decide +kernel⟩
theorem mv_yX8_feed : MIv yX8_feed := ⟨tb 676 (by decide +kernel) (by rfl), tb 677 (by decide +kernel) (by rfl)⟩
theorem mi_yX8_fine : MIn yX8_fine cX8_fine 1 (some .boolean) 0 := ⟨tb 695 (by decide +kernel) (by rfl), tb 9 (by decide +kernel) (by rfl), by decide +kernel⟩
theorem mv_yX8_fine : MIv yX8_fine := ⟨tb 694 (by decide +kernel) (by rfl), sb 51 (by decide +kernel) (by rfl)⟩
theorem mi_yX8_fail : MIn yX8_fail cX8_fail 3 none 2 := ⟨tb 707 (by decide +kernel) (by rfl), tb 9 (by decide +kernel) (by rfl), by decide +kernel⟩
theorem mv_yX8_fail : MIv yX8_fail := ⟨tb 706 (by decide +kernel) (by rfl), sb 54 (by decide +kernel) (by rfl)⟩
theorem mi_yX8_here : MIn yX8_here cX8_here 1 (some .int) 0 := ⟨tb 691 (by decide +kernel) (by rfl), tb 9 (by decide +kernel) (by rfl), by decide +kernel⟩
theorem mv_yX8_here : MIv yX8_here := ⟨tb 690 (by decide +kernel) (by rfl), sb 50 (by decide +kernel) (by rfl)⟩
theorem mi_yX8_number : MIn yX8_number cX8_number 5 (some .int) 2 := ⟨tb 711 (by decide +kernel) (by rfl), tb 9 (by decide +kernel) (by rfl), by decide +kernel⟩
theorem mv_yX8_number : MIv yX8_number := ⟨tb 710 (by decide +kernel) (by rfl), sb 55 (by decide +kernel) (by rfl)⟩
theorem mi_yX8_readClock : MIn yX8_readClock cX8_readClock 3 none 1 := ⟨tb 703 (by decide +kernel) (by rfl), tb 9 (by decide +kernel) (by rfl), by decide +kernel⟩
theorem mv_yX8_readClock : MIv yX8_readClock := ⟨tb 702 (by decide +kernel) (by rfl), sb 53 (by decide +kernel) (by rfl)⟩
theorem mi_yX8_readOther : MIn yX8_readOther cX8_readOther 5 none 2 := ⟨tb 715 (by decide +kernel) (by rfl), tb 9 (by decide +kernel) (by rfl), by decide +kernel⟩
theorem mv_yX8_readOther : MIv yX8_readOther := ⟨tb 714 (by decide +kernel) (by rfl), sb 56 (by decide +kernel) (by rfl)⟩
theorem mi_yX8_readClause : MIn yX8_readClause cX8_readClause 3 none 0 := ⟨tb 699 (by decide +kernel) (by rfl), tb 9 (by decide +kernel) (by rfl), by decide +kernel⟩
theorem mv_yX8_readClause : MIv yX8_readClause := ⟨tb 698 (by decide +kernel) (by rfl), sb 52 (by decide +kernel) (by rfl)⟩
theorem mi_yX8_clocks : MIn yX8_clocks cX8_clocks 2 (some .int) 0 := ⟨tb 687 (by decide +kernel) (by rfl), tb 9 (by decide +kernel) (by rfl), by decide +kernel⟩
theorem mv_yX8_clocks : MIv yX8_clocks := ⟨tb 685 (by decide +kernel) (by rfl), tb 686 (by decide +kernel) (by rfl)⟩
theorem mi_yX8_fault : MIn yX8_fault cX8_fault 1 (some .int) 0 := ⟨tb 723 (by decide +kernel) (by rfl), tb 9 (by decide +kernel) (by rfl), by decide +kernel⟩
theorem mv_yX8_fault : MIv yX8_fault := ⟨tb 721 (by decide +kernel) (by rfl), tb 722 (by decide +kernel) (by rfl)⟩
theorem mi_yX8_heardOf : MIn yX8_heardOf cX8_heardOf 5 (some .int) 3 := ⟨tb 769 (by decide +kernel) (by rfl), tb 9 (by decide +kernel) (by rfl), by decide +kernel⟩
theorem mv_yX8_heardOf : MIv yX8_heardOf := ⟨tb 768 (by decide +kernel) (by rfl), sb 67 (by decide +kernel) (by rfl)⟩
theorem mi_yX8_put : MIn yX8_put cX8_put 4 none 2 := ⟨tb 773 (by decide +kernel) (by rfl), tb 9 (by decide +kernel) (by rfl), by decide +kernel⟩
theorem mv_yX8_put : MIv yX8_put := ⟨tb 772 (by decide +kernel) (by rfl), sb 68 (by decide +kernel) (by rfl)⟩
theorem mi_yX8_allStruck : MIn yX8_allStruck cX8_allStruck 3 (some .boolean) 2 := ⟨tb 751 (by decide +kernel) (by rfl), tb 9 (by decide +kernel) (by rfl), by decide +kernel⟩
theorem mv_yX8_allStruck : MIv yX8_allStruck := ⟨tb 750 (by decide +kernel) (by rfl), sb 63 (by decide +kernel) (by rfl)⟩
theorem mi_yX8_middle : MIn yX8_middle cX8_middle 4 (some .int) 2 := ⟨tb 777 (by decide +kernel) (by rfl), tb 9 (by decide +kernel) (by rfl), by decide +kernel⟩
theorem mv_yX8_middle : MIv yX8_middle := ⟨tb 776 (by decide +kernel) (by rfl), sb 69 (by decide +kernel) (by rfl)⟩
theorem mi_yX8_middleOf : MIn yX8_middleOf cX8_middleOf 4 (some .int) 2 := ⟨tb 804 (by decide +kernel) (by rfl), tb 9 (by decide +kernel) (by rfl), by decide +kernel⟩
theorem mv_yX8_middleOf : MIv yX8_middleOf := ⟨tb 803 (by decide +kernel) (by rfl), sb 74 (by decide +kernel) (by rfl)⟩
theorem mi_yX8_roundIn : MIn yX8_roundIn cX8_roundIn 3 none 1 := ⟨tb 844 (by decide +kernel) (by rfl), tb 9 (by decide +kernel) (by rfl), by decide +kernel⟩
theorem mv_yX8_roundIn : MIv yX8_roundIn := ⟨tb 843 (by decide +kernel) (by rfl), sb 80 (by decide +kernel) (by rfl)⟩
theorem mi_yX8_apart : MIn yX8_apart cX8_apart 5 (some .int) 1 := ⟨tb 739 (by decide +kernel) (by rfl), tb 9 (by decide +kernel) (by rfl), by decide +kernel⟩
theorem mv_yX8_apart : MIv yX8_apart := ⟨tb 738 (by decide +kernel) (by rfl), sb 60 (by decide +kernel) (by rfl)⟩
theorem mi_yX8_tickOne : MIn yX8_tickOne cX8_tickOne 3 none 0 := ⟨tb 836 (by decide +kernel) (by rfl), tb 9 (by decide +kernel) (by rfl), by decide +kernel⟩
theorem mv_yX8_tickOne : MIv yX8_tickOne := ⟨tb 835 (by decide +kernel) (by rfl), sb 79 (by decide +kernel) (by rfl)⟩
theorem mi_yX8_liars : MIn yX8_liars cX8_liars 3 (some .int) 0 := ⟨tb 755 (by decide +kernel) (by rfl), tb 9 (by decide +kernel) (by rfl), by decide +kernel⟩
theorem mv_yX8_liars : MIv yX8_liars := ⟨tb 754 (by decide +kernel) (by rfl), sb 64 (by decide +kernel) (by rfl)⟩
theorem mi_yX8_extreme : MIn yX8_extreme cX8_extreme 4 (some .int) 2 := ⟨tb 765 (by decide +kernel) (by rfl), tb 9 (by decide +kernel) (by rfl), by decide +kernel⟩
theorem mv_yX8_extreme : MIv yX8_extreme := ⟨tb 764 (by decide +kernel) (by rfl), sb 66 (by decide +kernel) (by rfl)⟩
theorem mi_yX8_worst : MIn yX8_worst cX8_worst 7 (some .int) 0 := ⟨tb 747 (by decide +kernel) (by rfl), tb 9 (by decide +kernel) (by rfl), by decide +kernel⟩
theorem mv_yX8_worst : MIv yX8_worst := ⟨tb 746 (by decide +kernel) (by rfl), sb 62 (by decide +kernel) (by rfl)⟩
theorem mi_yX8_mayLie : MIn yX8_mayLie cX8_mayLie 3 (some .int) 0 := ⟨tb 782 (by decide +kernel) (by rfl), tb 9 (by decide +kernel) (by rfl), by decide +kernel⟩
theorem mv_yX8_mayLie : MIv yX8_mayLie := ⟨tb 781 (by decide +kernel) (by rfl), sb 70 (by decide +kernel) (by rfl)⟩
theorem mi_yX8_rank : MIn yX8_rank cX8_rank 7 (some .int) 2 := ⟨tb 816 (by decide +kernel) (by rfl), tb 9 (by decide +kernel) (by rfl), by decide +kernel⟩
theorem mv_yX8_rank : MIv yX8_rank := ⟨tb 815 (by decide +kernel) (by rfl), sb 76 (by decide +kernel) (by rfl)⟩
theorem mi_yX8_farthest : MIn yX8_farthest cX8_farthest 9 (some .int) 2 := ⟨tb 820 (by decide +kernel) (by rfl), tb 9 (by decide +kernel) (by rfl), by decide +kernel⟩
theorem mv_yX8_farthest : MIv yX8_farthest := ⟨tb 819 (by decide +kernel) (by rfl), sb 77 (by decide +kernel) (by rfl)⟩
theorem mi_yX8_setOf : MIn yX8_setOf cX8_setOf 5 (some .int) 1 := ⟨tb 731 (by decide +kernel) (by rfl), tb 9 (by decide +kernel) (by rfl), by decide +kernel⟩
theorem mv_yX8_setOf : MIv yX8_setOf := ⟨tb 730 (by decide +kernel) (by rfl), sb 58 (by decide +kernel) (by rfl)⟩
theorem mi_yX8_rungSet : MIn yX8_rungSet cX8_rungSet 3 (some .int) 0 := ⟨tb 786 (by decide +kernel) (by rfl), tb 9 (by decide +kernel) (by rfl), by decide +kernel⟩
theorem mv_yX8_rungSet : MIv yX8_rungSet := ⟨tb 785 (by decide +kernel) (by rfl), sb 71 (by decide +kernel) (by rfl)⟩
theorem mi_yX8_wrongEntry : MIn yX8_wrongEntry cX8_wrongEntry 2 (some .int) 0 := ⟨tb 790 (by decide +kernel) (by rfl), tb 9 (by decide +kernel) (by rfl), by decide +kernel⟩
theorem mv_yX8_wrongEntry : MIv yX8_wrongEntry := ⟨tb 789 (by decide +kernel) (by rfl), sb 72 (by decide +kernel) (by rfl)⟩
theorem mi_yX8_told : MIn yX8_told cX8_told 2 (some .int) 1 := ⟨tb 727 (by decide +kernel) (by rfl), tb 9 (by decide +kernel) (by rfl), by decide +kernel⟩
theorem mv_yX8_told : MIv yX8_told := ⟨tb 725 (by decide +kernel) (by rfl), tb 726 (by decide +kernel) (by rfl)⟩
theorem mi_yX8_clock : MIn yX8_clock cX8_clock 3 (some .int) 2 := ⟨tb 798 (by decide +kernel) (by rfl), tb 9 (by decide +kernel) (by rfl), by decide +kernel⟩
theorem mv_yX8_clock : MIv yX8_clock := ⟨tb 796 (by decide +kernel) (by rfl), tb 797 (by decide +kernel) (by rfl)⟩
theorem mi_yX8_arePair : MIn yX8_arePair cX8_arePair 3 (some .boolean) 2 := ⟨tb 812 (by decide +kernel) (by rfl), tb 9 (by decide +kernel) (by rfl), by decide +kernel⟩
theorem mv_yX8_arePair : MIv yX8_arePair := ⟨tb 811 (by decide +kernel) (by rfl), sb 75 (by decide +kernel) (by rfl)⟩
theorem mi_yX8_heard : MIn yX8_heard cX8_heard 4 (some .int) 3 := ⟨tb 808 (by decide +kernel) (by rfl), tb 9 (by decide +kernel) (by rfl), by decide +kernel⟩
theorem mv_yX8_heard : MIv yX8_heard := ⟨tb 806 (by decide +kernel) (by rfl), tb 807 (by decide +kernel) (by rfl)⟩
theorem mi_yX8_alarmAt : MIn yX8_alarmAt cX8_alarmAt 3 (some .int) 2 := ⟨tb 824 (by decide +kernel) (by rfl), tb 9 (by decide +kernel) (by rfl), by decide +kernel⟩
theorem mv_yX8_alarmAt : MIv yX8_alarmAt := ⟨tb 822 (by decide +kernel) (by rfl), tb 823 (by decide +kernel) (by rfl)⟩
theorem mi_yX8_remember : MIn yX8_remember cX8_remember 2 none 0 := ⟨tb 832 (by decide +kernel) (by rfl), tb 9 (by decide +kernel) (by rfl), by decide +kernel⟩
theorem mv_yX8_remember : MIv yX8_remember := ⟨tb 831 (by decide +kernel) (by rfl), sb 78 (by decide +kernel) (by rfl)⟩
theorem mi_yX8_tick : MIn yX8_tick cX8_tick 4 (some .int) 1 := ⟨tb 828 (by decide +kernel) (by rfl), tb 9 (by decide +kernel) (by rfl), by decide +kernel⟩
theorem mv_yX8_tick : MIv yX8_tick := ⟨tb 826 (by decide +kernel) (by rfl), tb 827 (by decide +kernel) (by rfl)⟩
theorem mi_yX8_round : MIn yX8_round cX8_round 1 (some .int) 0 := ⟨tb 840 (by decide +kernel) (by rfl), tb 9 (by decide +kernel) (by rfl), by decide +kernel⟩
theorem mv_yX8_round : MIv yX8_round := ⟨tb 838 (by decide +kernel) (by rfl), tb 839 (by decide +kernel) (by rfl)⟩
theorem mi_yX8_lie : MIn yX8_lie cX8_lie 5 (some .int) 3 := ⟨tb 848 (by decide +kernel) (by rfl), tb 9 (by decide +kernel) (by rfl), by decide +kernel⟩
theorem mv_yX8_lie : MIv yX8_lie := ⟨tb 846 (by decide +kernel) (by rfl), tb 847 (by decide +kernel) (by rfl)⟩
theorem mi_yX8_error : MIn yX8_error cX8_error 5 (some .int) 3 := ⟨tb 852 (by decide +kernel) (by rfl), tb 9 (by decide +kernel) (by rfl), by decide +kernel⟩
theorem mv_yX8_error : MIv yX8_error := ⟨tb 850 (by decide +kernel) (by rfl), tb 851 (by decide +kernel) (by rfl)⟩
theorem mi_yX8_manyOf : MIn yX8_manyOf cX8_manyOf 4 (some .int) 1 := ⟨tb 860 (by decide +kernel) (by rfl), tb 9 (by decide +kernel) (by rfl), by decide +kernel⟩
theorem mv_yX8_manyOf : MIv yX8_manyOf := ⟨tb 859 (by decide +kernel) (by rfl), sb 81 (by decide +kernel) (by rfl)⟩
theorem mi_yX8_liar : MIn yX8_liar cX8_liar 3 (some .int) 2 := ⟨tb 856 (by decide +kernel) (by rfl), tb 9 (by decide +kernel) (by rfl), by decide +kernel⟩
theorem mv_yX8_liar : MIv yX8_liar := ⟨tb 854 (by decide +kernel) (by rfl), tb 855 (by decide +kernel) (by rfl)⟩
theorem mi_yX8_stand : MIn yX8_stand cX8_stand 2 (some .int) 1 := ⟨tb 864 (by decide +kernel) (by rfl), tb 9 (by decide +kernel) (by rfl), by decide +kernel⟩
theorem mv_yX8_stand : MIv yX8_stand := ⟨tb 862 (by decide +kernel) (by rfl), tb 863 (by decide +kernel) (by rfl)⟩
theorem mi_yX8_join : MIn yX8_join cX8_join 5 (some .int) 1 := ⟨tb 869 (by decide +kernel) (by rfl), tb 9 (by decide +kernel) (by rfl), by decide +kernel⟩
theorem mv_yX8_join : MIv yX8_join := ⟨tb 867 (by decide +kernel) (by rfl), tb 868 (by decide +kernel) (by rfl)⟩
theorem mi_yX8_alarm : MIn yX8_alarm cX8_alarm 4 (some .int) 2 := ⟨tb 873 (by decide +kernel) (by rfl), tb 9 (by decide +kernel) (by rfl), by decide +kernel⟩
theorem mv_yX8_alarm : MIv yX8_alarm := ⟨tb 871 (by decide +kernel) (by rfl), tb 872 (by decide +kernel) (by rfl)⟩
theorem mi_yX8_draw : MIn yX8_draw cX8_draw 4 (some .int) 1 := ⟨tb 886 (by decide +kernel) (by rfl), tb 9 (by decide +kernel) (by rfl), by decide +kernel⟩
theorem mv_yX8_draw : MIv yX8_draw := ⟨tb 885 (by decide +kernel) (by rfl), sb 83 (by decide +kernel) (by rfl)⟩
theorem mi_yX8_time : MIn yX8_time cX8_time 6 none 0 := ⟨tb 882 (by decide +kernel) (by rfl), tb 9 (by decide +kernel) (by rfl), by decide +kernel⟩
theorem mv_yX8_time : MIv yX8_time := ⟨tb 881 (by decide +kernel) (by rfl), sb 82 (by decide +kernel) (by rfl)⟩
theorem mi_yX8_drift : MIn yX8_drift cX8_drift 3 (some .int) 1 := ⟨tb 878 (by decide +kernel) (by rfl), tb 9 (by decide +kernel) (by rfl), by decide +kernel⟩
theorem mv_yX8_drift : MIv yX8_drift := ⟨tb 876 (by decide +kernel) (by rfl), tb 877 (by decide +kernel) (by rfl)⟩
theorem mi_yX8_undo : MIn yX8_undo cX8_undo 3 (some .int) 1 := ⟨tb 894 (by decide +kernel) (by rfl), tb 9 (by decide +kernel) (by rfl), by decide +kernel⟩
theorem mv_yX8_undo : MIv yX8_undo := ⟨tb 892 (by decide +kernel) (by rfl), tb 893 (by decide +kernel) (by rfl)⟩
theorem mi_yX8_behind : MIn yX8_behind cX8_behind 3 (some .int) 1 := ⟨tb 898 (by decide +kernel) (by rfl), tb 9 (by decide +kernel) (by rfl), by decide +kernel⟩
theorem mv_yX8_behind : MIv yX8_behind := ⟨tb 896 (by decide +kernel) (by rfl), tb 897 (by decide +kernel) (by rfl)⟩
theorem mi_yX8_within : MIn yX8_within cX8_within 4 (some .int) 1 := ⟨tb 902 (by decide +kernel) (by rfl), tb 9 (by decide +kernel) (by rfl), by decide +kernel⟩
theorem mv_yX8_within : MIv yX8_within := ⟨tb 900 (by decide +kernel) (by rfl), tb 901 (by decide +kernel) (by rfl)⟩
theorem mi_yX8_write : MIn yX8_write cX8_write 3 (some .int) 2 := ⟨tb 907 (by decide +kernel) (by rfl), tb 9 (by decide +kernel) (by rfl), by decide +kernel⟩
theorem mv_yX8_write : MIv yX8_write := ⟨tb 905 (by decide +kernel) (by rfl), tb 906 (by decide +kernel) (by rfl)⟩
theorem mi_yX8_tear : MIn yX8_tear cX8_tear 2 (some .int) 0 := ⟨tb 911 (by decide +kernel) (by rfl), tb 9 (by decide +kernel) (by rfl), by decide +kernel⟩
theorem mv_yX8_tear : MIv yX8_tear := ⟨tb 909 (by decide +kernel) (by rfl), tb 910 (by decide +kernel) (by rfl)⟩
theorem mi_yX8_seed : MIn yX8_seed cX8_seed 3 (some .int) 1 := ⟨tb 915 (by decide +kernel) (by rfl), tb 9 (by decide +kernel) (by rfl), by decide +kernel⟩
theorem mv_yX8_seed : MIv yX8_seed := ⟨tb 913 (by decide +kernel) (by rfl), tb 914 (by decide +kernel) (by rfl)⟩
theorem mi_yX8_keep : MIn yX8_keep cX8_keep 2 (some .int) 1 := ⟨tb 919 (by decide +kernel) (by rfl), tb 9 (by decide +kernel) (by rfl), by decide +kernel⟩
theorem mv_yX8_keep : MIv yX8_keep := ⟨tb 917 (by decide +kernel) (by rfl), tb 918 (by decide +kernel) (by rfl)⟩
theorem mi_yX8_goBack : MIn yX8_goBack cX8_goBack 2 (some .int) 1 := ⟨tb 923 (by decide +kernel) (by rfl), tb 9 (by decide +kernel) (by rfl), by decide +kernel⟩
theorem mv_yX8_goBack : MIv yX8_goBack := ⟨tb 921 (by decide +kernel) (by rfl), tb 922 (by decide +kernel) (by rfl)⟩
theorem mi_yJ6_bitCount_0f7a4 : MIn yJ6_bitCount_0f7a4 cJ6_bitCount_0f7a4 1 (some .int) 1 := ⟨tb 374 (by decide +kernel) (by rfl), tb 13 (by decide +kernel) (by rfl), by decide +kernel⟩
theorem ms_yJ6_bitCount_0f7a4 : MIs yJ6_bitCount_0f7a4 := tb 373 (by decide +kernel) (by rfl)
theorem mi_yJ9_floorDiv_7cf53 : MIn yJ9_floorDiv_7cf53 cJ9_floorDiv_7cf53 3 (some .int) 2 := ⟨tb 415 (by decide +kernel) (by rfl), tb 12 (by decide +kernel) (by rfl), by decide +kernel⟩
theorem ms_yJ9_floorDiv_7cf53 : MIs yJ9_floorDiv_7cf53 := tb 414 (by decide +kernel) (by rfl)
theorem mi_yJ9_floorMod_7cf53 : MIn yJ9_floorMod_7cf53 cJ9_floorMod_7cf53 3 (some .int) 2 := ⟨tb 584 (by decide +kernel) (by rfl), tb 12 (by decide +kernel) (by rfl), by decide +kernel⟩
theorem ms_yJ9_floorMod_7cf53 : MIs yJ9_floorMod_7cf53 := tb 583 (by decide +kernel) (by rfl)
theorem mi_yJ9_abs_0f7a4 : MIn yJ9_abs_0f7a4 cJ9_abs_0f7a4 1 (some .int) 1 := ⟨tb 480 (by decide +kernel) (by rfl), tb 12 (by decide +kernel) (by rfl), by decide +kernel⟩
theorem ms_yJ9_abs_0f7a4 : MIs yJ9_abs_0f7a4 := tb 479 (by decide +kernel) (by rfl)
theorem mi_yJ9_max_7cf53 : MIn yJ9_max_7cf53 cJ9_max_7cf53 2 (some .int) 2 := ⟨tb 366 (by decide +kernel) (by rfl), tb 12 (by decide +kernel) (by rfl), by decide +kernel⟩
theorem ms_yJ9_max_7cf53 : MIs yJ9_max_7cf53 := tb 365 (by decide +kernel) (by rfl)
theorem mi_yJ9_min_7cf53 : MIn yJ9_min_7cf53 cJ9_min_7cf53 2 (some .int) 2 := ⟨tb 363 (by decide +kernel) (by rfl), tb 12 (by decide +kernel) (by rfl), by decide +kernel⟩
theorem ms_yJ9_min_7cf53 : MIs yJ9_min_7cf53 := tb 362 (by decide +kernel) (by rfl)
theorem mi_yJ7_fill_53178 : MIn yJ7_fill_53178 cJ7_fill_53178 4 none 2 := ⟨tb 273 (by decide +kernel) (by rfl), tb 10 (by decide +kernel) (by rfl), by decide +kernel⟩
theorem ms_yJ7_fill_53178 : MIs yJ7_fill_53178 := tb 272 (by decide +kernel) (by rfl)
theorem iz_RL : Cond.initialized RL ∈ AG := tb 0 (by decide +kernel) (by rfl)
theorem iz_RX7 : Cond.initialized RX7 ∈ AG := tb 1 (by decide +kernel) (by rfl)
theorem iz_RX5 : Cond.initialized RX5 ∈ AG := tb 2 (by decide +kernel) (by rfl)
theorem iz_RX6 : Cond.initialized RX6 ∈ AG := tb 3 (by decide +kernel) (by rfl)
theorem iz_RX1 : Cond.initialized RX1 ∈ AG := tb 4 (by decide +kernel) (by rfl)
theorem iz_RX3 : Cond.initialized RX3 ∈ AG := tb 5 (by decide +kernel) (by rfl)
theorem iz_RX4 : Cond.initialized RX4 ∈ AG := tb 6 (by decide +kernel) (by rfl)
theorem iz_RX0 : Cond.initialized RX0 ∈ AG := tb 7 (by decide +kernel) (by rfl)
theorem iz_RX2 : Cond.initialized RX2 ∈ AG := tb 8 (by decide +kernel) (by rfl)
theorem iz_RX8 : Cond.initialized RX8 ∈ AG := tb 9 (by decide +kernel) (by rfl)
theorem iz_RJ7 : Cond.initialized RJ7 ∈ AG := tb 10 (by decide +kernel) (by rfl)
theorem iz_RJ10 : Cond.initialized RJ10 ∈ AG := tb 11 (by decide +kernel) (by rfl)
theorem iz_RJ9 : Cond.initialized RJ9 ∈ AG := tb 12 (by decide +kernel) (by rfl)
theorem iz_RJ6 : Cond.initialized RJ6 ∈ AG := tb 13 (by decide +kernel) (by rfl)
theorem cl_RL_7 : Cond.classLink RL 7 RX7 ∈ AG := tb 14 (by decide +kernel) (by rfl)
theorem it_RX7 : Cond.instantiable RX7 10 ∈ AG := tb 15 (by decide +kernel) (by rfl)
theorem ml_RL_9 : MLk RL 9 yX7_init := Or.inl (tb 16 (by decide +kernel) (by rfl))
theorem ml_RX7_1 : Cond.methodLink RX7 1 objectInit ∈ AG := tb 19 (by decide +kernel) (by rfl)
theorem im_obj : Cond.instanceMethod objectInit ∈ AG := tb 20 (by decide +kernel) (by rfl)
theorem co_obj : Cond.code objectInit ⟨#[0xb1]⟩ 1 none ∈ AG := tb 21 (by decide +kernel) (by rfl)
theorem cl_RX7_7 : Cond.classLink RX7 7 RX5 ∈ AG := tb 22 (by decide +kernel) (by rfl)
theorem it_RX5 : Cond.instantiable RX5 15 ∈ AG := tb 23 (by decide +kernel) (by rfl)
theorem ml_RX7_9 : MLk RX7 9 yX5_init := Or.inr ⟨"LiarClocks", tn 24 (by decide +kernel)⟩
theorem ml_RX5_3 : Cond.methodLink RX5 3 objectInit ∈ AG := tb 27 (by decide +kernel) (by rfl)
theorem ac_int : Cond.arrayClass .int ∈ AG := tb 99 (by decide +kernel) (by rfl)
theorem cl_RX7_19 : Cond.classLink RX7 19 RX6 ∈ AG := tb 100 (by decide +kernel) (by rfl)
theorem it_RX6 : Cond.instantiable RX6 8 ∈ AG := tb 101 (by decide +kernel) (by rfl)
theorem ml_RX7_21 : MLk RX7 21 yX6_init := Or.inr ⟨"LiarClocks", tn 102 (by decide +kernel)⟩
theorem ml_RX6_3 : Cond.methodLink RX6 3 objectInit ∈ AG := tb 105 (by decide +kernel) (by rfl)
theorem cl_RX7_26 : Cond.classLink RX7 26 RX1 ∈ AG := tb 133 (by decide +kernel) (by rfl)
theorem it_RX1 : Cond.instantiable RX1 4 ∈ AG := tb 134 (by decide +kernel) (by rfl)
theorem ml_RX7_28 : MLk RX7 28 yX1_init := Or.inr ⟨"LiarClocks", tn 135 (by decide +kernel)⟩
theorem ml_RX1_3 : Cond.methodLink RX1 3 objectInit ∈ AG := tb 138 (by decide +kernel) (by rfl)
theorem cl_RX1_9 : Cond.classLink RX1 9 RX3 ∈ AG := tb 139 (by decide +kernel) (by rfl)
theorem it_RX3 : Cond.instantiable RX3 2 ∈ AG := tb 140 (by decide +kernel) (by rfl)
theorem ml_RX1_11 : MLk RX1 11 yX3_init := Or.inr ⟨"LiarClocks", tn 141 (by decide +kernel)⟩
theorem ml_RX3_3 : Cond.methodLink RX3 3 objectInit ∈ AG := tb 144 (by decide +kernel) (by rfl)
theorem cl_RX7_33 : Cond.classLink RX7 33 RX4 ∈ AG := tb 166 (by decide +kernel) (by rfl)
theorem it_RX4 : Cond.instantiable RX4 3 ∈ AG := tb 167 (by decide +kernel) (by rfl)
theorem ml_RX7_35 : MLk RX7 35 yX4_init := Or.inr ⟨"LiarClocks", tn 168 (by decide +kernel)⟩
theorem ml_RX4_3 : Cond.methodLink RX4 3 objectInit ∈ AG := tb 171 (by decide +kernel) (by rfl)
theorem cl_RX4_9 : Cond.classLink RX4 9 RX5 ∈ AG := tb 172 (by decide +kernel) (by rfl)
theorem ml_RX4_17 : MLk RX4 17 yX5_init := Or.inr ⟨"LiarClocks", tn 174 (by decide +kernel)⟩
theorem cl_RX7_40 : Cond.classLink RX7 40 RX0 ∈ AG := tb 186 (by decide +kernel) (by rfl)
theorem it_RX0 : Cond.instantiable RX0 3 ∈ AG := tb 187 (by decide +kernel) (by rfl)
theorem ml_RX7_42 : MLk RX7 42 yX0_init := Or.inr ⟨"LiarClocks", tn 188 (by decide +kernel)⟩
theorem ml_RX0_3 : Cond.methodLink RX0 3 objectInit ∈ AG := tb 191 (by decide +kernel) (by rfl)
theorem cl_RX7_47 : Cond.classLink RX7 47 RX2 ∈ AG := tb 203 (by decide +kernel) (by rfl)
theorem it_RX2 : Cond.instantiable RX2 1 ∈ AG := tb 204 (by decide +kernel) (by rfl)
theorem ml_RX7_49 : MLk RX7 49 yX2_init := Or.inr ⟨"LiarClocks", tn 205 (by decide +kernel)⟩
theorem ml_RX2_1 : Cond.methodLink RX2 1 objectInit ∈ AG := tb 208 (by decide +kernel) (by rfl)
theorem ac_boolean : Cond.arrayClass .boolean ∈ AG := tb 245 (by decide +kernel) (by rfl)
theorem ml_RL_13 : MLk RL 13 yX7_feed := Or.inl (tb 246 (by decide +kernel) (by rfl))
theorem ml_RX7_66 : MLk RX7 66 yX7_between := Or.inl (tb 250 (by decide +kernel) (by rfl))
theorem kc_RX7_70 : Cond.constant RX7 70 (-1000000002) ∈ AG := tb 253 (by decide +kernel) (by rfl)
theorem kc_RX7_75 : Cond.constant RX7 75 (-1000000004) ∈ AG := tb 254 (by decide +kernel) (by rfl)
theorem ml_RX7_76 : MLk RX7 76 yX6_append := Or.inr ⟨"LiarClocks", tn 255 (by decide +kernel)⟩
theorem ml_RL_18 : MLk RL 18 yX7_clocks := Or.inl (tb 259 (by decide +kernel) (by rfl))
theorem ml_RX7_80 : MLk RX7 80 yX6_readInto := Or.inr ⟨"LiarClocks", tn 263 (by decide +kernel)⟩
theorem ml_RX6_22 : MLk RX6 22 yX5_clear := Or.inr ⟨"LiarClocks", tn 267 (by decide +kernel)⟩
theorem ml_RX5_58 : MLk RX5 58 yJ7_fill_53178 := Or.inl (tb 271 (by decide +kernel) (by rfl))
theorem ml_RX6_40 : MLk RX6 40 yX6_skipBlanks := Or.inl (tb 274 (by decide +kernel) (by rfl))
theorem ml_RX6_43 : MLk RX6 43 yX6_readClause := Or.inl (tb 278 (by decide +kernel) (by rfl))
theorem ml_RX6_47 : MLk RX6 47 yX6_letter := Or.inl (tb 282 (by decide +kernel) (by rfl))
theorem ml_RX6_51 : MLk RX6 51 yX6_readClock := Or.inl (tb 286 (by decide +kernel) (by rfl))
theorem ml_RX6_63 : MLk RX6 63 yX6_note := Or.inl (tb 290 (by decide +kernel) (by rfl))
theorem ml_RX6_70 : MLk RX6 70 yX6_readNumber := Or.inl (tb 294 (by decide +kernel) (by rfl))
theorem ml_RX6_93 : MLk RX6 93 yX6_isFigure := Or.inl (tb 298 (by decide +kernel) (by rfl))
theorem ml_RX6_74 : MLk RX6 74 yX5_addClock := Or.inr ⟨"LiarClocks", tn 301 (by decide +kernel)⟩
theorem ml_RX6_54 : MLk RX6 54 yX6_readLiar := Or.inl (tb 305 (by decide +kernel) (by rfl))
theorem ml_RX6_77 : MLk RX6 77 yX5_lies := Or.inr ⟨"LiarClocks", tn 309 (by decide +kernel)⟩
theorem ml_RX6_57 : MLk RX6 57 yX6_readStrike := Or.inl (tb 313 (by decide +kernel) (by rfl))
theorem ml_RX6_60 : MLk RX6 60 yX6_readStep := Or.inl (tb 317 (by decide +kernel) (by rfl))
theorem ml_RX7_84 : MLk RX7 84 yX5_copyFrom := Or.inr ⟨"LiarClocks", tn 321 (by decide +kernel)⟩
theorem ml_RX5_64 : Cond.methodLink RX5 64 arraycopyName ∈ AG := tb 325 (by decide +kernel) (by rfl)
theorem st_copy : Cond.static arraycopyName ∈ AG := tb 326 (by decide +kernel) (by rfl)
theorem nat_copy : Cond.native arraycopyName ∈ AG := tb 327 (by decide +kernel) (by rfl)
theorem ml_RX7_88 : MLk RX7 88 yX4_forget := Or.inr ⟨"LiarClocks", tn 328 (by decide +kernel)⟩
theorem ml_RL_23 : MLk RL 23 yX7_fault := Or.inl (tb 332 (by decide +kernel) (by rfl))
theorem ml_RL_27 : MLk RL 27 yX7_told := Or.inl (tb 336 (by decide +kernel) (by rfl))
theorem ml_RX7_112 : MLk RX7 112 yX5_trueSet := Or.inr ⟨"LiarClocks", tn 340 (by decide +kernel)⟩
theorem ml_RX7_116 : MLk RX7 116 yX5_apart := Or.inr ⟨"LiarClocks", tn 344 (by decide +kernel)⟩
theorem ml_RX5_91 : MLk RX5 91 yX5_isTrue := Or.inl (tb 348 (by decide +kernel) (by rfl))
theorem ml_RX5_74 : MLk RX5 74 yX5_lies := Or.inl (tb 352 (by decide +kernel) (by rfl))
theorem ml_RX5_77 : MLk RX5 77 yX5_stands := Or.inl (tb 353 (by decide +kernel) (by rfl))
theorem ml_RX5_80 : MLk RX5 80 yX5_aim := Or.inl (tb 357 (by decide +kernel) (by rfl))
theorem ml_RX5_94 : MLk RX5 94 yJ9_min_7cf53 := Or.inl (tb 361 (by decide +kernel) (by rfl))
theorem ml_RX5_99 : MLk RX5 99 yJ9_max_7cf53 := Or.inl (tb 364 (by decide +kernel) (by rfl))
theorem ml_RX7_119 : MLk RX7 119 yX1_worst := Or.inr ⟨"LiarClocks", tn 367 (by decide +kernel)⟩
theorem ml_RX1_99 : MLk RX1 99 yX5_trueSet := Or.inr ⟨"LiarClocks", tn 371 (by decide +kernel)⟩
theorem ml_RX1_102 : MLk RX1 102 yJ6_bitCount_0f7a4 := Or.inl (tb 372 (by decide +kernel) (by rfl))
theorem kc_RJ6_265 : Cond.constant RJ6 265 (1431655765) ∈ AG := tb 375 (by decide +kernel) (by rfl)
theorem kc_RJ6_266 : Cond.constant RJ6 266 (858993459) ∈ AG := tb 376 (by decide +kernel) (by rfl)
theorem kc_RJ6_267 : Cond.constant RJ6 267 (252645135) ∈ AG := tb 377 (by decide +kernel) (by rfl)
theorem ml_RX1_52 : MLk RX1 52 yX5_allStruck := Or.inr ⟨"LiarClocks", tn 378 (by decide +kernel)⟩
theorem ml_RX1_107 : MLk RX1 107 yX5_apart := Or.inr ⟨"LiarClocks", tn 382 (by decide +kernel)⟩
theorem kc_RX1_113 : Cond.constant RX1 113 (1000000) ∈ AG := tb 383 (by decide +kernel) (by rfl)
theorem ml_RX1_56 : MLk RX1 56 yX5_isTrue := Or.inr ⟨"LiarClocks", tn 384 (by decide +kernel)⟩
theorem kc_RX1_114 : Cond.constant RX1 114 (-1000000000) ∈ AG := tb 385 (by decide +kernel) (by rfl)
theorem ml_RX1_115 : MLk RX1 115 yX1_middleWithLiarsAt := Or.inl (tb 386 (by decide +kernel) (by rfl))
theorem ml_RX1_124 : MLk RX1 124 yX5_tellsLies := Or.inr ⟨"LiarClocks", tn 390 (by decide +kernel)⟩
theorem ml_RX1_37 : MLk RX1 37 yX5_heardOf := Or.inr ⟨"LiarClocks", tn 394 (by decide +kernel)⟩
theorem ml_RX5_84 : MLk RX5 84 yX5_way := Or.inl (tb 398 (by decide +kernel) (by rfl))
theorem ml_RX1_41 : MLk RX1 41 yX3_take := Or.inr ⟨"LiarClocks", tn 401 (by decide +kernel)⟩
theorem ml_RX1_48 : MLk RX1 48 yX3_middle := Or.inr ⟨"LiarClocks", tn 405 (by decide +kernel)⟩
theorem ml_RX3_19 : MLk RX3 19 yX3_leaves := Or.inl (tb 409 (by decide +kernel) (by rfl))
theorem ml_RX3_23 : MLk RX3 23 yJ9_floorDiv_7cf53 := Or.inl (tb 413 (by decide +kernel) (by rfl))
theorem kc_RX1_119 : Cond.constant RX1 119 (1000000000) ∈ AG := tb 416 (by decide +kernel) (by rfl)
theorem ml_RX1_120 : MLk RX1 120 yX1_widestPair := Or.inl (tb 417 (by decide +kernel) (by rfl))
theorem ml_RX1_127 : MLk RX1 127 yJ9_max_7cf53 := Or.inl (tb 421 (by decide +kernel) (by rfl))
theorem ml_RX7_122 : MLk RX7 122 yX5_mayLie := Or.inr ⟨"LiarClocks", tn 422 (by decide +kernel)⟩
theorem ml_RX5_102 : MLk RX5 102 yJ6_bitCount_0f7a4 := Or.inl (tb 426 (by decide +kernel) (by rfl))
theorem ml_RX7_134 : MLk RX7 134 yX0_firstWrong := Or.inr ⟨"LiarClocks", tn 427 (by decide +kernel)⟩
theorem ml_RX0_22 : MLk RX0 22 yX5_has := Or.inr ⟨"LiarClocks", tn 431 (by decide +kernel)⟩
theorem ml_RX0_28 : MLk RX0 28 yX5_aim := Or.inr ⟨"LiarClocks", tn 435 (by decide +kernel)⟩
theorem ml_RL_31 : MLk RL 31 yX7_clock := Or.inl (tb 436 (by decide +kernel) (by rfl))
theorem ml_RX7_138 : MLk RX7 138 yX5_has := Or.inr ⟨"LiarClocks", tn 440 (by decide +kernel)⟩
theorem kc_RX7_142 : Cond.constant RX7 142 (-1000000001) ∈ AG := tb 441 (by decide +kernel) (by rfl)
theorem kc_RX7_152 : Cond.constant RX7 152 (100000) ∈ AG := tb 442 (by decide +kernel) (by rfl)
theorem ml_RX7_153 : MLk RX7 153 yX5_aim := Or.inr ⟨"LiarClocks", tn 443 (by decide +kernel)⟩
theorem ml_RX7_156 : MLk RX7 156 yX5_lies := Or.inr ⟨"LiarClocks", tn 444 (by decide +kernel)⟩
theorem ml_RX7_159 : MLk RX7 159 yX5_stands := Or.inr ⟨"LiarClocks", tn 445 (by decide +kernel)⟩
theorem ml_RX7_162 : MLk RX7 162 yX5_isTrue := Or.inr ⟨"LiarClocks", tn 446 (by decide +kernel)⟩
theorem ml_RX7_165 : MLk RX7 165 yX5_allStruck := Or.inr ⟨"LiarClocks", tn 447 (by decide +kernel)⟩
theorem ml_RX7_169 : MLk RX7 169 yX1_middleFor := Or.inr ⟨"LiarClocks", tn 448 (by decide +kernel)⟩
theorem ml_RL_36 : MLk RL 36 yX7_heard := Or.inl (tb 452 (by decide +kernel) (by rfl))
theorem ml_RX7_173 : MLk RX7 173 yX5_hasBoth := Or.inr ⟨"LiarClocks", tn 456 (by decide +kernel)⟩
theorem ml_RX5_70 : MLk RX5 70 yX5_has := Or.inl (tb 460 (by decide +kernel) (by rfl))
theorem ml_RX7_177 : MLk RX7 177 yX5_heardOf := Or.inr ⟨"LiarClocks", tn 461 (by decide +kernel)⟩
theorem ml_RX7_184 : MLk RX7 184 yX5_way := Or.inr ⟨"LiarClocks", tn 462 (by decide +kernel)⟩
theorem ml_RX7_190 : MLk RX7 190 yX5_rank := Or.inr ⟨"LiarClocks", tn 463 (by decide +kernel)⟩
theorem ml_RX5_88 : MLk RX5 88 yX5_heardOf := Or.inl (tb 467 (by decide +kernel) (by rfl))
theorem ml_RX7_193 : MLk RX7 193 yX5_tellsLies := Or.inr ⟨"LiarClocks", tn 468 (by decide +kernel)⟩
theorem ml_RX7_196 : MLk RX7 196 yX1_farthest := Or.inr ⟨"LiarClocks", tn 469 (by decide +kernel)⟩
theorem ml_RX1_90 : MLk RX1 90 yX1_middleByLie := Or.inl (tb 473 (by decide +kernel) (by rfl))
theorem ml_RX1_87 : MLk RX1 87 yX5_aim := Or.inr ⟨"LiarClocks", tn 477 (by decide +kernel)⟩
theorem ml_RX1_94 : MLk RX1 94 yJ9_abs_0f7a4 := Or.inl (tb 478 (by decide +kernel) (by rfl))
theorem ml_RL_41 : MLk RL 41 yX7_alarmAt := Or.inl (tb 481 (by decide +kernel) (by rfl))
theorem ml_RL_45 : MLk RL 45 yX7_tick := Or.inl (tb 485 (by decide +kernel) (by rfl))
theorem ml_RX7_206 : MLk RX7 206 yX4_remember := Or.inr ⟨"LiarClocks", tn 489 (by decide +kernel)⟩
theorem ml_RX4_22 : MLk RX4 22 yX5_copyFrom := Or.inr ⟨"LiarClocks", tn 493 (by decide +kernel)⟩
theorem ml_RX4_29 : MLk RX4 29 yJ9_min_7cf53 := Or.inl (tb 494 (by decide +kernel) (by rfl))
theorem ml_RX7_209 : MLk RX7 209 yX5_goOn := Or.inr ⟨"LiarClocks", tn 495 (by decide +kernel)⟩
theorem ml_RX5_107 : MLk RX5 107 yX5_ring := Or.inl (tb 499 (by decide +kernel) (by rfl))
theorem ml_RL_49 : MLk RL 49 yX7_round := Or.inl (tb 503 (by decide +kernel) (by rfl))
theorem ml_RX7_212 : MLk RX7 212 yX1_meet := Or.inr ⟨"LiarClocks", tn 507 (by decide +kernel)⟩
theorem ml_RX1_60 : MLk RX1 60 yX1_middleFor := Or.inl (tb 511 (by decide +kernel) (by rfl))
theorem ml_RL_53 : MLk RL 53 yX7_lie := Or.inl (tb 512 (by decide +kernel) (by rfl))
theorem ml_RL_57 : MLk RL 57 yX7_error := Or.inl (tb 516 (by decide +kernel) (by rfl))
theorem ml_RL_61 : MLk RL 61 yX7_liar := Or.inl (tb 520 (by decide +kernel) (by rfl))
theorem ml_RX7_215 : MLk RX7 215 yJ6_bitCount_0f7a4 := Or.inl (tb 524 (by decide +kernel) (by rfl))
theorem ml_RL_66 : MLk RL 66 yX7_stand := Or.inl (tb 525 (by decide +kernel) (by rfl))
theorem kc_RX7_220 : Cond.constant RX7 220 (-1000000003) ∈ AG := tb 529 (by decide +kernel) (by rfl)
theorem ml_RL_70 : MLk RL 70 yX7_join := Or.inl (tb 530 (by decide +kernel) (by rfl))
theorem ml_RX7_221 : MLk RX7 221 yX1_canJoin := Or.inr ⟨"LiarClocks", tn 534 (by decide +kernel)⟩
theorem ml_RX1_70 : MLk RX1 70 yX1_hearToJoin := Or.inl (tb 538 (by decide +kernel) (by rfl))
theorem ml_RX1_84 : MLk RX1 84 yX5_stands := Or.inr ⟨"LiarClocks", tn 542 (by decide +kernel)⟩
theorem ml_RX1_74 : MLk RX1 74 yX3_leaves := Or.inr ⟨"LiarClocks", tn 543 (by decide +kernel)⟩
theorem ml_RX7_225 : MLk RX7 225 yX1_letJoin := Or.inr ⟨"LiarClocks", tn 544 (by decide +kernel)⟩
theorem ml_RX1_80 : MLk RX1 80 yX5_ring := Or.inr ⟨"LiarClocks", tn 548 (by decide +kernel)⟩
theorem ml_RL_74 : MLk RL 74 yX7_alarm := Or.inl (tb 549 (by decide +kernel) (by rfl))
theorem kc_RX7_229 : Cond.constant RX7 229 (999999) ∈ AG := tb 553 (by decide +kernel) (by rfl)
theorem ml_RX7_230 : MLk RX7 230 yX5_setAlarm := Or.inr ⟨"LiarClocks", tn 554 (by decide +kernel)⟩
theorem ml_RL_78 : MLk RL 78 yX7_drift := Or.inl (tb 558 (by decide +kernel) (by rfl))
theorem ml_RX7_233 : MLk RX7 233 yX7_driftOnce := Or.inl (tb 562 (by decide +kernel) (by rfl))
theorem ml_RX7_245 : MLk RX7 245 yX2_next := Or.inr ⟨"LiarClocks", tn 566 (by decide +kernel)⟩
theorem kl_RX2_13 : Cond.constantLong RX2 13 (1103515245) ∈ AG := tb 570 (by decide +kernel) (by rfl)
theorem kl_RX2_15 : Cond.constantLong RX2 15 (12345) ∈ AG := tb 571 (by decide +kernel) (by rfl)
theorem kl_RX2_17 : Cond.constantLong RX2 17 (2147483648) ∈ AG := tb 572 (by decide +kernel) (by rfl)
theorem kc_RX2_19 : Cond.constant RX2 19 (65536) ∈ AG := tb 573 (by decide +kernel) (by rfl)
theorem ml_RL_82 : MLk RL 82 yX7_undo := Or.inl (tb 574 (by decide +kernel) (by rfl))
theorem ml_RX7_236 : MLk RX7 236 yX4_takeBack := Or.inr ⟨"LiarClocks", tn 578 (by decide +kernel)⟩
theorem ml_RX4_35 : MLk RX4 35 yJ9_floorMod_7cf53 := Or.inl (tb 582 (by decide +kernel) (by rfl))
theorem ml_RL_86 : MLk RL 86 yX7_behind := Or.inl (tb 585 (by decide +kernel) (by rfl))
theorem ml_RL_90 : MLk RL 90 yX7_within := Or.inl (tb 589 (by decide +kernel) (by rfl))
theorem ml_RL_94 : MLk RL 94 yX7_write := Or.inl (tb 593 (by decide +kernel) (by rfl))
theorem ml_RX7_240 : MLk RX7 240 yX0_append := Or.inr ⟨"LiarClocks", tn 597 (by decide +kernel)⟩
theorem ml_RL_98 : MLk RL 98 yX7_tear := Or.inl (tb 601 (by decide +kernel) (by rfl))
theorem ml_RL_102 : MLk RL 102 yX7_seed := Or.inl (tb 605 (by decide +kernel) (by rfl))
theorem ml_RL_106 : MLk RL 106 yX7_keep := Or.inl (tb 609 (by decide +kernel) (by rfl))
theorem ml_RL_110 : MLk RL 110 yX7_goBack := Or.inl (tb 613 (by decide +kernel) (by rfl))
theorem cl_RL_10 : Cond.classLink RL 10 RX8 ∈ AG := tb 617 (by decide +kernel) (by rfl)
theorem it_RX8 : Cond.instantiable RX8 17 ∈ AG := tb 618 (by decide +kernel) (by rfl)
theorem ml_RL_12 : MLk RL 12 yX8_init := Or.inl (tb 619 (by decide +kernel) (by rfl))
theorem ml_RX8_1 : Cond.methodLink RX8 1 objectInit ∈ AG := tb 622 (by decide +kernel) (by rfl)
theorem ml_RL_17 : MLk RL 17 yX8_feed := Or.inl (tb 675 (by decide +kernel) (by rfl))
theorem ml_RX8_32 : MLk RX8 32 yX8_in := Or.inl (tb 679 (by decide +kernel) (by rfl))
theorem kc_RX8_36 : Cond.constant RX8 36 (-1000000002) ∈ AG := tb 682 (by decide +kernel) (by rfl)
theorem kc_RX8_40 : Cond.constant RX8 40 (-1000000004) ∈ AG := tb 683 (by decide +kernel) (by rfl)
theorem ml_RL_22 : MLk RL 22 yX8_clocks := Or.inl (tb 684 (by decide +kernel) (by rfl))
theorem ml_RX8_54 : MLk RX8 54 yX8_here := Or.inl (tb 688 (by decide +kernel) (by rfl))
theorem ml_RX8_44 : MLk RX8 44 yX8_fine := Or.inl (tb 692 (by decide +kernel) (by rfl))
theorem ml_RX8_82 : MLk RX8 82 yX8_readClause := Or.inl (tb 696 (by decide +kernel) (by rfl))
theorem ml_RX8_75 : MLk RX8 75 yX8_readClock := Or.inl (tb 700 (by decide +kernel) (by rfl))
theorem ml_RX8_61 : MLk RX8 61 yX8_fail := Or.inl (tb 704 (by decide +kernel) (by rfl))
theorem ml_RX8_65 : MLk RX8 65 yX8_number := Or.inl (tb 708 (by decide +kernel) (by rfl))
theorem ml_RX8_79 : MLk RX8 79 yX8_readOther := Or.inl (tb 712 (by decide +kernel) (by rfl))
theorem ml_RX8_85 : MLk RX8 85 yX8_copyRow := Or.inl (tb 716 (by decide +kernel) (by rfl))
theorem ml_RL_26 : MLk RL 26 yX8_fault := Or.inl (tb 720 (by decide +kernel) (by rfl))
theorem ml_RL_30 : MLk RL 30 yX8_told := Or.inl (tb 724 (by decide +kernel) (by rfl))
theorem ml_RX8_140 : MLk RX8 140 yX8_setOf := Or.inl (tb 728 (by decide +kernel) (by rfl))
theorem ml_RX8_114 : MLk RX8 114 yX8_isTrue := Or.inl (tb 732 (by decide +kernel) (by rfl))
theorem ml_RX8_123 : MLk RX8 123 yX8_apart := Or.inl (tb 736 (by decide +kernel) (by rfl))
theorem ml_RX8_97 : MLk RX8 97 yX8_aim := Or.inl (tb 740 (by decide +kernel) (by rfl))
theorem ml_RX8_143 : MLk RX8 143 yX8_worst := Or.inl (tb 744 (by decide +kernel) (by rfl))
theorem ml_RX8_100 : MLk RX8 100 yX8_allStruck := Or.inl (tb 748 (by decide +kernel) (by rfl))
theorem ml_RX8_127 : MLk RX8 127 yX8_liars := Or.inl (tb 752 (by decide +kernel) (by rfl))
theorem ml_RX8_120 : MLk RX8 120 yX8_isLiar := Or.inl (tb 756 (by decide +kernel) (by rfl))
theorem kc_RX8_130 : Cond.constant RX8 130 (1000000) ∈ AG := tb 760 (by decide +kernel) (by rfl)
theorem kc_RX8_131 : Cond.constant RX8 131 (500000000) ∈ AG := tb 761 (by decide +kernel) (by rfl)
theorem ml_RX8_132 : MLk RX8 132 yX8_extreme := Or.inl (tb 762 (by decide +kernel) (by rfl))
theorem ml_RX8_104 : MLk RX8 104 yX8_heardOf := Or.inl (tb 766 (by decide +kernel) (by rfl))
theorem ml_RX8_108 : MLk RX8 108 yX8_put := Or.inl (tb 770 (by decide +kernel) (by rfl))
theorem ml_RX8_111 : MLk RX8 111 yX8_middle := Or.inl (tb 774 (by decide +kernel) (by rfl))
theorem kc_RX8_135 : Cond.constant RX8 135 (-500000000) ∈ AG := tb 778 (by decide +kernel) (by rfl)
theorem ml_RX8_146 : MLk RX8 146 yX8_mayLie := Or.inl (tb 779 (by decide +kernel) (by rfl))
theorem ml_RX8_149 : MLk RX8 149 yX8_rungSet := Or.inl (tb 783 (by decide +kernel) (by rfl))
theorem ml_RX8_152 : MLk RX8 152 yX8_wrongEntry := Or.inl (tb 787 (by decide +kernel) (by rfl))
theorem ml_RX8_136 : MLk RX8 136 yX8_isClock := Or.inl (tb 791 (by decide +kernel) (by rfl))
theorem ml_RL_35 : MLk RL 35 yX8_clock := Or.inl (tb 795 (by decide +kernel) (by rfl))
theorem kc_RX8_155 : Cond.constant RX8 155 (-1000000001) ∈ AG := tb 799 (by decide +kernel) (by rfl)
theorem kc_RX8_156 : Cond.constant RX8 156 (100000) ∈ AG := tb 800 (by decide +kernel) (by rfl)
theorem ml_RX8_117 : MLk RX8 117 yX8_middleOf := Or.inl (tb 801 (by decide +kernel) (by rfl))
theorem ml_RL_40 : MLk RL 40 yX8_heard := Or.inl (tb 805 (by decide +kernel) (by rfl))
theorem ml_RX8_157 : MLk RX8 157 yX8_arePair := Or.inl (tb 809 (by decide +kernel) (by rfl))
theorem ml_RX8_160 : MLk RX8 160 yX8_rank := Or.inl (tb 813 (by decide +kernel) (by rfl))
theorem ml_RX8_163 : MLk RX8 163 yX8_farthest := Or.inl (tb 817 (by decide +kernel) (by rfl))
theorem ml_RL_44 : MLk RL 44 yX8_alarmAt := Or.inl (tb 821 (by decide +kernel) (by rfl))
theorem ml_RL_48 : MLk RL 48 yX8_tick := Or.inl (tb 825 (by decide +kernel) (by rfl))
theorem ml_RX8_166 : MLk RX8 166 yX8_remember := Or.inl (tb 829 (by decide +kernel) (by rfl))
theorem ml_RX8_169 : MLk RX8 169 yX8_tickOne := Or.inl (tb 833 (by decide +kernel) (by rfl))
theorem ml_RL_52 : MLk RL 52 yX8_round := Or.inl (tb 837 (by decide +kernel) (by rfl))
theorem ml_RX8_172 : MLk RX8 172 yX8_roundIn := Or.inl (tb 841 (by decide +kernel) (by rfl))
theorem ml_RL_56 : MLk RL 56 yX8_lie := Or.inl (tb 845 (by decide +kernel) (by rfl))
theorem ml_RL_60 : MLk RL 60 yX8_error := Or.inl (tb 849 (by decide +kernel) (by rfl))
theorem ml_RL_65 : MLk RL 65 yX8_liar := Or.inl (tb 853 (by decide +kernel) (by rfl))
theorem ml_RX8_175 : MLk RX8 175 yX8_manyOf := Or.inl (tb 857 (by decide +kernel) (by rfl))
theorem ml_RL_69 : MLk RL 69 yX8_stand := Or.inl (tb 861 (by decide +kernel) (by rfl))
theorem kc_RX8_178 : Cond.constant RX8 178 (-1000000003) ∈ AG := tb 865 (by decide +kernel) (by rfl)
theorem ml_RL_73 : MLk RL 73 yX8_join := Or.inl (tb 866 (by decide +kernel) (by rfl))
theorem ml_RL_77 : MLk RL 77 yX8_alarm := Or.inl (tb 870 (by decide +kernel) (by rfl))
theorem kc_RX8_179 : Cond.constant RX8 179 (999999) ∈ AG := tb 874 (by decide +kernel) (by rfl)
theorem ml_RL_81 : MLk RL 81 yX8_drift := Or.inl (tb 875 (by decide +kernel) (by rfl))
theorem ml_RX8_190 : MLk RX8 190 yX8_time := Or.inl (tb 879 (by decide +kernel) (by rfl))
theorem ml_RX8_187 : MLk RX8 187 yX8_draw := Or.inl (tb 883 (by decide +kernel) (by rfl))
theorem kl_RX8_180 : Cond.constantLong RX8 180 (1103515245) ∈ AG := tb 887 (by decide +kernel) (by rfl)
theorem kl_RX8_182 : Cond.constantLong RX8 182 (12345) ∈ AG := tb 888 (by decide +kernel) (by rfl)
theorem kl_RX8_184 : Cond.constantLong RX8 184 (2147483648) ∈ AG := tb 889 (by decide +kernel) (by rfl)
theorem kc_RX8_186 : Cond.constant RX8 186 (65536) ∈ AG := tb 890 (by decide +kernel) (by rfl)
theorem ml_RL_85 : MLk RL 85 yX8_undo := Or.inl (tb 891 (by decide +kernel) (by rfl))
theorem ml_RL_89 : MLk RL 89 yX8_behind := Or.inl (tb 895 (by decide +kernel) (by rfl))
theorem ml_RL_93 : MLk RL 93 yX8_within := Or.inl (tb 899 (by decide +kernel) (by rfl))
theorem ml_RX8_193 : MLk RX8 193 yX8_behind := Or.inl (tb 903 (by decide +kernel) (by rfl))
theorem ml_RL_97 : MLk RL 97 yX8_write := Or.inl (tb 904 (by decide +kernel) (by rfl))
theorem ml_RL_101 : MLk RL 101 yX8_tear := Or.inl (tb 908 (by decide +kernel) (by rfl))
theorem ml_RL_105 : MLk RL 105 yX8_seed := Or.inl (tb 912 (by decide +kernel) (by rfl))
theorem ml_RL_109 : MLk RL 109 yX8_keep := Or.inl (tb 916 (by decide +kernel) (by rfl))
theorem ml_RL_113 : MLk RL 113 yX8_goBack := Or.inl (tb 920 (by decide +kernel) (by rfl))
theorem ml_RX8_196 : MLk RX8 196 yX8_has := Or.inl (tb 924 (by decide +kernel) (by rfl))
end
section
/-! ===== the world behind the constructors: its shape is fixed, its ints are v : cell → place → Int32 ===== -/
abbrev Shp : Type := (Nat × List (Option Nat)) ⊕ (Nat ⊕ (Nat ⊕ List Nat))
def stF (q : Nat) : List (Option Nat) := [none, none, none, none, none, none, none, none, some (q + 1), some (q + 2), some (q + 3), some (q + 4), some (q + 5), some (q + 6), some (q + 7)]
def stB (q : Nat) : List Shp := [.inl (5, stF q), .inr (.inl 8), .inr (.inl 8), .inr (.inl 8), .inr (.inl 64), .inr (.inl 64), .inr (.inl 6), .inr (.inl 6)]
def layL : List Shp := [.inl (7, [some 1, some 9, some 17, some 19, some 25, some 155, some 158, some 159, some 176, some 177])] ++ stB 1 ++ stB 9
  ++ [.inl (6, [some 18, none, none, none, none, none, none, none]), .inr (.inl 200), .inl (1, [some 20, some 22, some 23, some 24]), .inl (3, [some 21, none]), .inr (.inl 8), .inr (.inl 8), .inr (.inl 8), .inr (.inl 8), .inl (4, [some 26, none, none]), .inr (.inr (.inr ((List.range 16).map (fun i => 27 + 8 * i))))]
  ++ (List.range 16).flatMap (fun i => stB (27 + 8 * i))
  ++ [.inl (0, [some 156, some 157, none]), .inr (.inl 20), .inr (.inl 20), .inl (2, [none]), .inr (.inr (.inr [160, 168]))] ++ stB 160 ++ stB 168 ++ [.inr (.inl 2), .inr (.inr (.inl 2))]
  ++ [.inl (8, [some 179, none, none, some 180, none, none, some 181, some 182, none, some 183, some 184, none, none, none, none, none, none]), .inr (.inl 3840), .inr (.inl 200), .inr (.inl 20), .inr (.inl 20), .inr (.inl 8), .inr (.inl 8)]
def lay (k : Nat) : Shp := layL.getD k (.inr (.inl 0))
def cvt (N : Nat) (f : Nat → Int32) (j : Nat) (o : Option Nat) : Value := match o with
  | none => .int (f j)
  | some t => .ref (N + t)
def mkf (N : Nat) (f : Nat → Int32) : Nat → List (Option Nat) → List Value
  | _, [] => []
  | j, o :: r => cvt N f j o :: mkf N f (j + 1) r
def mkc (w : Wd) (s : Shp) (f : Nat → Int32) : va_E := match s with
  | .inl (c, fs) => .inr (c, mkf (wN w) f 0 fs)
  | .inr (.inl n) => .inl (wI w, n, .inl f)
  | .inr (.inr (.inl n)) => .inl (wZ w, n, .inl f)
  | .inr (.inr (.inr ts)) => .inl (wS w, ts.length, .inr (.inr (.inr (.inr (fun k => (ts[k]?).map (wN w + ·))))))
abbrev Vm2 : Type := Nat → Nat → Int32
def hv (w : Wd) (v : Vm2) : Nat → va_E := fun k => mkc w (lay k) (v k)
def up2 (v : Vm2) (k i : Nat) (x : Int32) : Vm2 := fun a b => if a = k ∧ b = i then x else v a b
def upR (v : Vm2) (k : Nat) (f : Nat → Int32) : Vm2 := fun a => if a = k then f else v a
theorem up2_row (v : Vm2) (k i : Nat) (x : Int32) : up2 v k i x k = upd (v k) i x := by
  funext b
  simp [up2, upd]
theorem up2_ne (v : Vm2) {k a : Nat} (i : Nat) (x : Int32) (h : a ≠ k) : up2 v k i x a = v a := by
  funext b
  simp [up2, h]
theorem mkf_len (N : Nat) (f : Nat → Int32) : ∀ (fs : List (Option Nat)) (j : Nat), (mkf N f j fs).length = fs.length
  | [], _ => rfl
  | _ :: r, j => by simp [mkf, mkf_len N f r (j + 1)]
theorem mkf_get (N : Nat) (f : Nat → Int32) : ∀ (fs : List (Option Nat)) (j i : Nat), (mkf N f j fs)[i]? = (fs[i]?).map (cvt N f (j + i))
  | [], _, _ => by simp [mkf]
  | o :: r, j, 0 => by simp [mkf]
  | o :: r, j, i + 1 => by
    simp only [mkf, List.getElem?_cons_succ]
    rw [mkf_get N f r (j + 1) i, show j + 1 + i = j + (i + 1) by omega]
theorem mkf_out (N : Nat) (f : Nat → Int32) (a : Nat) (x : Int32) : ∀ (fs : List (Option Nat)) (j : Nat), a < j → mkf N (upd f a x) j fs = mkf N f j fs
  | [], _, _ => rfl
  | o :: r, j, h => by
    simp only [mkf]
    rw [mkf_out N f a x r (j + 1) (by omega)]
    congr 1
    cases o with
    | none => simp [cvt, upd, show ¬ j = a by omega]
    | some t => rfl
theorem mkf_set (N : Nat) (f : Nat → Int32) (x : Int32) : ∀ (fs : List (Option Nat)) (j i : Nat), fs[i]? = some none → (mkf N f j fs).set i (.int x) = mkf N (upd f (j + i) x) j fs
  | [], _, _, h => by simp at h
  | o :: r, j, 0, h => by
    simp only [List.getElem?_cons_zero] at h
    cases h
    simp only [mkf, List.set_cons_zero, Nat.add_zero]
    rw [mkf_out N f j x r (j + 1) (by omega)]
    simp [cvt, upd]
  | o :: r, j, i + 1, h => by
    simp only [List.getElem?_cons_succ] at h
    simp only [mkf, List.set_cons_succ]
    rw [mkf_set N f x r (j + 1) i h, show j + 1 + i = j + (i + 1) by omega]
    congr 1
    cases o with
    | none => simp [cvt, upd, show ¬ j = j + (i + 1) by omega]
    | some t => rfl
def fldS (s : Shp) (c j : Nat) : Option (Option Nat) := match s with
  | .inl (c', fs) => if c' = c then fs[j]? else none
  | _ => none
def objS (s : Shp) : Option Nat := match s with
  | .inl (c', _) => some c'
  | _ => none
def isO (k c : Nat) : Prop := k < 185 ∧ objS (lay k) = some c
def isIF (k c j : Nat) : Prop := k < 185 ∧ fldS (lay k) c j = some none
def isRF (k c j t : Nat) : Prop := k < 185 ∧ fldS (lay k) c j = some (some t)
def isIA (k n : Nat) : Prop := k < 185 ∧ lay k = .inr (.inl n) ∧ n < 2 ^ 31
def isZA (k n : Nat) : Prop := k < 185 ∧ lay k = .inr (.inr (.inl n)) ∧ n < 2 ^ 31
def isQA (k : Nat) (ts : List Nat) : Prop := k < 185 ∧ lay k = .inr (.inr (.inr ts)) ∧ ts.length < 2 ^ 31
theorem isO.ex {k c : Nat} (h : isO k c) : ∃ fs, lay k = .inl (c, fs) := by
  obtain ⟨-, h⟩ := h
  cases hl : lay k with
  | inl p =>
    obtain ⟨c', fs⟩ := p
    rw [hl] at h
    simp only [objS, Option.some.injEq] at h
    exact ⟨fs, by rw [h]⟩
  | inr p => rw [hl] at h; cases h
theorem fldS_ex {k c j : Nat} {o : Option Nat} (h : fldS (lay k) c j = some o) : ∃ fs, lay k = .inl (c, fs) ∧ fs[j]? = some o := by
  cases hl : lay k with
  | inl p =>
    obtain ⟨c', fs⟩ := p
    rw [hl] at h
    simp only [fldS] at h
    split at h
    · rename_i e
      exact ⟨fs, by rw [e], h⟩
    · cases h
  | inr p => rw [hl] at h; cases h
theorem hv_obj {w : Wd} {v : Vm2} {k c : Nat} {fs : List (Option Nat)} (h : lay k = .inl (c, fs)) : hv w v k = .inr (c, mkf (wN w) (v k) 0 fs) := by simp [hv, mkc, h]
theorem hv_ia {w : Wd} {v : Vm2} {k n : Nat} (h : isIA k n) : hv w v k = .inl (wI w, n, .inl (v k)) := by simp [hv, mkc, h.2.1]
theorem hv_za {w : Wd} {v : Vm2} {k n : Nat} (h : isZA k n) : hv w v k = .inl (wZ w, n, .inl (v k)) := by simp [hv, mkc, h.2.1]
theorem hv_qa {w : Wd} {v : Vm2} {k : Nat} {ts : List Nat} (h : isQA k ts) : hv w v k = .inl (wS w, ts.length, .inr (.inr (.inr (.inr (fun i => (ts[i]?).map (wN w + ·)))))) := by simp [hv, mkc, h.2.1]
theorem hv_up {w : Wd} {v : Vm2} {k : Nat} {f : Nat → Int32} {e : va_E} (he : e = mkc w (lay k) f) : va_up (hv w v) k e = hv w (upR v k f) := by
  funext a
  by_cases ha : a = k
  · subst ha
    rw [va_up_self, he]
    simp [hv, upR]
  · rw [va_up_ne _ _ ha]
    simp [hv, upR, ha]
theorem upR_upd (v : Vm2) (k i : Nat) (x : Int32) : upR v k (upd (v k) i x) = up2 v k i x := by
  funext a b
  by_cases ha : a = k
  · subst ha
    simp [upR, up2, upd]
  · simp [upR, up2, ha]
theorem nI_cl {c n : Nat} (hc : c < n) (hn : n < 2 ^ 31) : (nI c).toNatClampNeg = c := nI_clamp (by omega)
abbrev rm (f l : Nat) : Room := { frames := f, cells := 0, slots := 0, locals := l }
def PI (w : Wd) (P : Int32 → Vm2 → Prop) : Po := fun r h' => ∃ (x : Int32) (v' : Vm2), r = some (.int x) ∧ h' = hv w v' ∧ P x v'
def PU (w : Wd) (P : Vm2 → Prop) : Po := fun r h' => ∃ v' : Vm2, r = none ∧ h' = hv w v' ∧ P v'
/-- contracts: an int comes back, or nothing -/
def CI (w : Wd) (y : MethodName) (cc : ByteArray) (mL : Nat) (rt : Option FieldType) (R : Room) (av : List Value) (v : Vm2) (P : Int32 → Vm2 → Prop) : Prop := Ct w y cc mL rt R av 185 (hv w v) 185 (PI w P)
def CU (w : Wd) (y : MethodName) (cc : ByteArray) (mL : Nat) (R : Room) (av : List Value) (v : Vm2) (P : Vm2 → Prop) : Prop := Ct w y cc mL none R av 185 (hv w v) 185 (PU w P)
/-- a method that changes nothing and answers e -/
abbrev CP (w : Wd) (y : MethodName) (cc : ByteArray) (mL : Nat) (rt : Option FieldType) (R : Room) (av : List Value) (v : Vm2) (e : Int32) : Prop := CI w y cc mL rt R av v (fun x v' => x = e ∧ v' = v)
section VR
variable {w : Wd} {y : MethodName} {cc : ByteArray} {mL : Nat} {rt : Option FieldType} {R : Room} {X : Array Value → State → Prop} {Qf : List Frame → Array Value → State → State → Prop} {L : List (Nat × Value)} {S : List Value} {v : Vm2} {ca sl : Nat}
theorem V.getI (pc : Nat) {idx k c j : Nat} (hd : decode cc pc = .ok (.getfield idx, 3)) (hF : FL y.cls idx c j) (hs : isIF k c j) (kk : J w y cc mL rt R X Qf (pc + 3) L (.int (v k j) :: S) 185 (hv w v) ca sl) : J w y cc mL rt R X Qf pc L (.ref (wN w + k) :: S) 185 (hv w v) ca sl := by
  obtain ⟨fs, h1, h2⟩ := fldS_ex hs.2
  refine J.getf pc hd hF hs.1 (hv_obj h1) (v := .int (v k j)) ?_ kk
  rw [mkf_get, h2]
  simp [cvt]
theorem V.getR (pc : Nat) {idx k c j t : Nat} (hd : decode cc pc = .ok (.getfield idx, 3)) (hF : FL y.cls idx c j) (hs : isRF k c j t) (kk : J w y cc mL rt R X Qf (pc + 3) L (.ref (wN w + t) :: S) 185 (hv w v) ca sl) : J w y cc mL rt R X Qf pc L (.ref (wN w + k) :: S) 185 (hv w v) ca sl := by
  obtain ⟨fs, h1, h2⟩ := fldS_ex hs.2
  refine J.getf pc hd hF hs.1 (hv_obj h1) (v := .ref (wN w + t)) ?_ kk
  rw [mkf_get, h2]
  simp [cvt]
theorem V.putI (pc : Nat) {idx k c j : Nat} {x : Int32} (hd : decode cc pc = .ok (.putfield idx, 3)) (hF : FL y.cls idx c j) (hQ : FP c j .int false) (hs : isIF k c j) (kk : J w y cc mL rt R X Qf (pc + 3) L S 185 (hv w (up2 v k j x)) ca sl) : J w y cc mL rt R X Qf pc L (.int x :: .ref (wN w + k) :: S) 185 (hv w v) ca sl := by
  obtain ⟨fs, h1, h2⟩ := fldS_ex hs.2
  refine J.putf pc hd hF hQ hs.1 (hv_obj h1) (by rw [mkf_len]; exact (List.getElem?_eq_some_iff.mp h2).1) rfl rfl ?_
  refine J.heap ?_ kk
  rw [mkf_set _ _ _ _ _ _ h2, Nat.zero_add, hv_up (f := upd (v k) j x) (by simp [mkc, h1]), upR_upd]
theorem V.putZ (pc : Nat) {idx k c j : Nat} {x : Int32} (hd : decode cc pc = .ok (.putfield idx, 3)) (hF : FL y.cls idx c j) (hQ : FP c j .boolean false) (hs : isIF k c j) (hx : x = 0 ∨ x = 1) (kk : J w y cc mL rt R X Qf (pc + 3) L S 185 (hv w (up2 v k j x)) ca sl) : J w y cc mL rt R X Qf pc L (.int x :: .ref (wN w + k) :: S) 185 (hv w v) ca sl := by
  obtain ⟨fs, h1, h2⟩ := fldS_ex hs.2
  refine J.putf pc hd hF hQ hs.1 (hv_obj h1) (by rw [mkf_len]; exact (List.getElem?_eq_some_iff.mp h2).1) (by rcases hx with rfl | rfl <;> rfl) (by rcases hx with rfl | rfl <;> rfl) ?_
  refine J.heap ?_ kk
  rw [mkf_set _ _ _ _ _ _ h2, Nat.zero_add, hv_up (f := upd (v k) j x) (by simp [mkc, h1]), upR_upd]
theorem V.iald (pc : Nat) {k n c : Nat} (hd : decode cc pc = .ok (.iaload, 1)) (hs : isIA k n) (hc : c < n) (kk : J w y cc mL rt R X Qf (pc + 1) L (.int (v k c) :: S) 185 (hv w v) ca sl) : J w y cc mL rt R X Qf pc L (.int (nI c) :: .ref (wN w + k) :: S) 185 (hv w v) ca sl := by
  refine J.iald pc hd hs.1 (hv_ia hs) (vp_in_nI hc hs.2.2) ?_
  rw [nI_cl hc hs.2.2]
  exact kk
theorem V.zald (pc : Nat) {k n c : Nat} (hd : decode cc pc = .ok (.baload, 1)) (hs : isZA k n) (hc : c < n) (kk : J w y cc mL rt R X Qf (pc + 1) L (.int (v k c) :: S) 185 (hv w v) ca sl) : J w y cc mL rt R X Qf pc L (.int (nI c) :: .ref (wN w + k) :: S) 185 (hv w v) ca sl := by
  refine J.zald pc hd hs.1 (hv_za hs) (vp_in_nI hc hs.2.2) ?_
  rw [nI_cl hc hs.2.2]
  exact kk
theorem V.aald (pc : Nat) {k c t : Nat} {ts : List Nat} (hd : decode cc pc = .ok (.aaload, 1)) (hs : isQA k ts) (hc : c < ts.length) (ht : ts[c]? = some t) (kk : J w y cc mL rt R X Qf (pc + 1) L (.ref (wN w + t) :: S) 185 (hv w v) ca sl) : J w y cc mL rt R X Qf pc L (.int (nI c) :: .ref (wN w + k) :: S) 185 (hv w v) ca sl := by
  refine J.aald pc hd hs.1 (hv_qa hs) (vp_in_nI hc hs.2.2) (.ref (wN w + t)) ?_ kk
  rw [nI_cl hc hs.2.2]
  simp [ht, va_rf]
theorem V.alen (pc : Nat) {k n : Nat} (hd : decode cc pc = .ok (.arraylength, 1)) (hs : isIA k n) (kk : J w y cc mL rt R X Qf (pc + 1) L (.int (nI n) :: S) 185 (hv w v) ca sl) : J w y cc mL rt R X Qf pc L (.ref (wN w + k) :: S) 185 (hv w v) ca sl :=
  J.alen pc hd hs.1 (hv_ia hs) kk
theorem V.iast (pc : Nat) {k n c : Nat} {x : Int32} (hd : decode cc pc = .ok (.iastore, 1)) (hs : isIA k n) (hc : c < n) (kk : J w y cc mL rt R X Qf (pc + 1) L S 185 (hv w (up2 v k c x)) ca sl) : J w y cc mL rt R X Qf pc L (.int x :: .int (nI c) :: .ref (wN w + k) :: S) 185 (hv w v) ca sl := by
  refine J.iast pc hd hs.1 (hv_ia hs) (vp_in_nI hc hs.2.2) ?_
  refine J.heap ?_ kk
  rw [nI_cl hc hs.2.2, hv_up (f := upd (v k) c x) (by simp [mkc, hs.2.1]), upR_upd]
theorem V.zast (pc : Nat) {k n c : Nat} {x : Int32} (hd : decode cc pc = .ok (.bastore, 1)) (hs : isZA k n) (hc : c < n) (hx : x = 0 ∨ x = 1) (kk : J w y cc mL rt R X Qf (pc + 1) L S 185 (hv w (up2 v k c x)) ca sl) : J w y cc mL rt R X Qf pc L (.int x :: .int (nI c) :: .ref (wN w + k) :: S) 185 (hv w v) ca sl := by
  refine J.zast pc hd hs.1 (hv_za hs) (vp_in_nI hc hs.2.2) hx ?_
  refine J.heap ?_ kk
  rw [nI_cl hc hs.2.2, hv_up (f := upd (v k) c x) (by simp [mkc, hs.2.1]), upR_upd]
theorem V.copy (pc : Nat) {idx k0 k1 n0 n1 sp dp m : Nat} (hd : decode cc pc = .ok (.invokestatic idx, 3)) (hw1 : Cond.methodLink y.cls idx arraycopyName ∈ AG) (hs0 : isIA k0 n0) (hs1 : isIA k1 n1) (h4 : sp + m ≤ n0) (h5 : dp + m ≤ n1) (hfr : 1 ≤ R.frames) (hlo : (S.map fun v => v.category).sum + (nativeFrameWords "java/lang/System" "arraycopy" 5 + 11) ≤ R.locals)
    (kk : J w y cc mL rt R X Qf (pc + 3) L S 185 (hv w (upR v k1 (va_cpy (v k0) (v k1) sp dp m))) ca sl) : J w y cc mL rt R X Qf pc L (.int (nI m) :: .int (nI dp) :: .ref (wN w + k1) :: .int (nI sp) :: .ref (wN w + k0) :: S) 185 (hv w v) ca sl := by
  have b0 := hs0.2.2
  have b1 := hs1.2.2
  have e1 : (nI sp).toNatClampNeg = sp := nI_clamp (by omega)
  have e2 : (nI dp).toNatClampNeg = dp := nI_clamp (by omega)
  have e3 : (nI m).toNatClampNeg = m := nI_clamp (by omega)
  refine J.copy pc hd hw1 nat_copy st_copy iz_RJ10 hs0.1 hs1.1 (hv_ia hs0) (hv_ia hs1) (nI_pos (by omega)) (nI_pos (by omega)) (nI_pos (by omega)) (by rw [e1, e3]; exact h4) (by rw [e2, e3]; exact h5) hfr hlo ?_
  refine J.heap ?_ kk
  rw [e1, e2, e3, hv_up (f := va_cpy (v k0) (v k1) sp dp m) (by simp [mkc, hs1.2.1])]
/-! numbers that are small -/
theorem V.iadd (pc : Nat) {a b : Nat} {n : Nat} {h : Nat → va_E} (hd : decode cc pc = .ok (.iadd, 1)) (k : J w y cc mL rt R X Qf (pc + 1) L (.int (nI (a + b)) :: S) n h ca sl) : J w y cc mL rt R X Qf pc L (.int (nI b) :: .int (nI a) :: S) n h ca sl :=
  J.iadd pc hd (J.top (nI_add a b) k)
theorem V.imul (pc : Nat) {a b : Nat} {n : Nat} {h : Nat → va_E} (hd : decode cc pc = .ok (.imul, 1)) (k : J w y cc mL rt R X Qf (pc + 1) L (.int (nI (a * b)) :: S) n h ca sl) : J w y cc mL rt R X Qf pc L (.int (nI b) :: .int (nI a) :: S) n h ca sl :=
  J.imul pc hd (J.top (pk_mul a b) k)
theorem V.isub (pc : Nat) {a b : Nat} {n : Nat} {h : Nat → va_E} (hd : decode cc pc = .ok (.isub, 1)) (hb : b ≤ a) (k : J w y cc mL rt R X Qf (pc + 1) L (.int (nI (a - b)) :: S) n h ca sl) : J w y cc mL rt R X Qf pc L (.int (nI b) :: .int (nI a) :: S) n h ca sl :=
  J.isub pc hd (J.top (pk_sub hb) k)
theorem V.iinc (pc : Nat) {i a : Nat} {n : Nat} {h : Nat → va_E} (hd : decode cc pc = .ok (.iinc i 1, 3)) (hx : lget L i = some (.int (nI a))) (hn : i < mL) (k : J w y cc mL rt R X Qf (pc + 3) (lset L i (.int (nI (a + 1)))) S n h ca sl) : J w y cc mL rt R X Qf pc L S n h ca sl :=
  J.iinc pc hd (nI (a + 1)) hx (nI_1 a) hn k
end VR
section VC
variable {w : Wd} {y : MethodName} {cc : ByteArray} {mL : Nat} {rt : Option FieldType} {R : Room} {X : Array Value → State → Prop} {Qf : List Frame → Array Value → State → State → Prop} {L : List (Nat × Value)} {S S0 : List Value} {v : Vm2} {ca sl : Nat}
variable {y' : MethodName} {cc' : ByteArray} {mL' : Nat} {rt' : Option FieldType} {f' l' : Nat} {as : List Value}
theorem V.callv (pc : Nat) {idx k ci np : Nat} {q : vw_C} {P : Int32 → Vm2 → Prop} (hd : decode cc pc = .ok (.invokevirtual idx, 3)) (hk9 : MLk y.cls idx y') (hi9 : MIn y' cc' mL' rt' np) (hv9 : MIv y') (hc9 : CI w y' cc' mL' rt' (rm f' l') (.ref (wN w + k) :: as) v P) (hst : S0 = as.reverse ++ .ref (wN w + k) :: S) (hnp : as.length = np) (hW : (S.map fun v => v.category).sum ≤ 8) (hR : f' + 1 ≤ R.frames ∧ 8 + (mL' + 11) + l' ≤ R.locals) (hf : ca ≤ R.cells ∧ sl ≤ R.slots)
    (hk : isO k ci) (hcl : vwCl[ci]? = some q) (hq1 : q.1 = y'.cls)
    (kk : ∀ (x : Int32) (v' : Vm2), P x v' → J w y cc mL rt R X Qf (pc + 3) L (.int x :: S) 185 (hv w v') ca sl) : J w y cc mL rt R X Qf pc L S0 185 (hv w v) ca sl := by
  obtain ⟨fs, hfs⟩ := hk.ex
  refine J.callv pc hd hk9 hi9 hv9 hc9 hst hnp hW hR hf hk.1 (hv_obj hfs) hcl hq1 ?_
  intro r h' hp
  obtain ⟨x, v', rfl, rfl, hp⟩ := hp
  exact kk x v' hp
theorem V.callvP (pc : Nat) {idx k ci np : Nat} {q : vw_C} {e : Int32} (hd : decode cc pc = .ok (.invokevirtual idx, 3)) (hk9 : MLk y.cls idx y') (hi9 : MIn y' cc' mL' rt' np) (hv9 : MIv y') (hc9 : CP w y' cc' mL' rt' (rm f' l') (.ref (wN w + k) :: as) v e) (hst : S0 = as.reverse ++ .ref (wN w + k) :: S) (hnp : as.length = np) (hW : (S.map fun v => v.category).sum ≤ 8) (hR : f' + 1 ≤ R.frames ∧ 8 + (mL' + 11) + l' ≤ R.locals) (hf : ca ≤ R.cells ∧ sl ≤ R.slots)
    (hk : isO k ci) (hcl : vwCl[ci]? = some q) (hq1 : q.1 = y'.cls)
    (kk : J w y cc mL rt R X Qf (pc + 3) L (.int e :: S) 185 (hv w v) ca sl) : J w y cc mL rt R X Qf pc L S0 185 (hv w v) ca sl := by
  refine V.callv pc hd hk9 hi9 hv9 hc9 hst hnp hW hR hf hk hcl hq1 ?_
  rintro x v' ⟨rfl, rfl⟩
  exact kk
theorem V.callvU (pc : Nat) {idx k ci np : Nat} {q : vw_C} {P : Vm2 → Prop} (hd : decode cc pc = .ok (.invokevirtual idx, 3)) (hk9 : MLk y.cls idx y') (hi9 : MIn y' cc' mL' none np) (hv9 : MIv y') (hc9 : CU w y' cc' mL' (rm f' l') (.ref (wN w + k) :: as) v P) (hst : S0 = as.reverse ++ .ref (wN w + k) :: S) (hnp : as.length = np) (hW : (S.map fun v => v.category).sum ≤ 8) (hR : f' + 1 ≤ R.frames ∧ 8 + (mL' + 11) + l' ≤ R.locals) (hf : ca ≤ R.cells ∧ sl ≤ R.slots)
    (hk : isO k ci) (hcl : vwCl[ci]? = some q) (hq1 : q.1 = y'.cls)
    (kk : ∀ (v' : Vm2), P v' → J w y cc mL rt R X Qf (pc + 3) L S 185 (hv w v') ca sl) : J w y cc mL rt R X Qf pc L S0 185 (hv w v) ca sl := by
  obtain ⟨fs, hfs⟩ := hk.ex
  refine J.callv pc hd hk9 hi9 hv9 hc9 hst hnp hW hR hf hk.1 (hv_obj hfs) hcl hq1 ?_
  intro r h' hp
  obtain ⟨v', rfl, rfl, hp⟩ := hp
  exact kk v' hp
theorem V.calls (pc : Nat) {idx np : Nat} {P : Int32 → Vm2 → Prop} (hd : decode cc pc = .ok (.invokestatic idx, 3)) (hk9 : MLk y.cls idx y') (hi9 : MIn y' cc' mL' rt' np) (hv9 : MIs y') (hc9 : CI w y' cc' mL' rt' (rm f' l') as v P) (hst : S0 = as.reverse ++ S) (hnp : as.length = np) (hW : (S.map fun v => v.category).sum ≤ 8) (hR : f' + 1 ≤ R.frames ∧ 8 + (mL' + 11) + l' ≤ R.locals) (hf : ca ≤ R.cells ∧ sl ≤ R.slots)
    (kk : ∀ (x : Int32) (v' : Vm2), P x v' → J w y cc mL rt R X Qf (pc + 3) L (.int x :: S) 185 (hv w v') ca sl) : J w y cc mL rt R X Qf pc L S0 185 (hv w v) ca sl := by
  refine J.calls pc hd hk9 hi9 hv9 hc9 hst hnp hW hR hf ?_
  intro r h' hp
  obtain ⟨x, v', rfl, rfl, hp⟩ := hp
  exact kk x v' hp
theorem V.callsP (pc : Nat) {idx np : Nat} {e : Int32} (hd : decode cc pc = .ok (.invokestatic idx, 3)) (hk9 : MLk y.cls idx y') (hi9 : MIn y' cc' mL' rt' np) (hv9 : MIs y') (hc9 : CP w y' cc' mL' rt' (rm f' l') as v e) (hst : S0 = as.reverse ++ S) (hnp : as.length = np) (hW : (S.map fun v => v.category).sum ≤ 8) (hR : f' + 1 ≤ R.frames ∧ 8 + (mL' + 11) + l' ≤ R.locals) (hf : ca ≤ R.cells ∧ sl ≤ R.slots)
    (kk : J w y cc mL rt R X Qf (pc + 3) L (.int e :: S) 185 (hv w v) ca sl) : J w y cc mL rt R X Qf pc L S0 185 (hv w v) ca sl := by
  refine V.calls pc hd hk9 hi9 hv9 hc9 hst hnp hW hR hf ?_
  rintro x v' ⟨rfl, rfl⟩
  exact kk
theorem V.callsU (pc : Nat) {idx np : Nat} {P : Vm2 → Prop} (hd : decode cc pc = .ok (.invokestatic idx, 3)) (hk9 : MLk y.cls idx y') (hi9 : MIn y' cc' mL' none np) (hv9 : MIs y') (hc9 : CU w y' cc' mL' (rm f' l') as v P) (hst : S0 = as.reverse ++ S) (hnp : as.length = np) (hW : (S.map fun v => v.category).sum ≤ 8) (hR : f' + 1 ≤ R.frames ∧ 8 + (mL' + 11) + l' ≤ R.locals) (hf : ca ≤ R.cells ∧ sl ≤ R.slots)
    (kk : ∀ (v' : Vm2), P v' → J w y cc mL rt R X Qf (pc + 3) L S 185 (hv w v') ca sl) : J w y cc mL rt R X Qf pc L S0 185 (hv w v) ca sl := by
  refine J.calls pc hd hk9 hi9 hv9 hc9 hst hnp hW hR hf ?_
  intro r h' hp
  obtain ⟨v', rfl, rfl, hp⟩ := hp
  exact kk v' hp
end VC
section VE
variable {w : Wd} {y : MethodName} {cc : ByteArray} {mL : Nat} {R : Room} {X : Array Value → State → Prop} {L : List (Nat × Value)} {v : Vm2}
theorem V.iret (pc : Nat) {x : Int32} {P : Int32 → Vm2 → Prop} (hd : decode cc pc = .ok (.ireturn, 1)) (hp : P x v) : J w y cc mL (some .int) R X (ZJ w 185 0 0 (PI w P)) pc L [.int x] 185 (hv w v) 0 0 := J.iret pc hd ⟨x, v, rfl, rfl, hp⟩
theorem V.zret (pc : Nat) {x : Int32} {P : Int32 → Vm2 → Prop} (hd : decode cc pc = .ok (.ireturn, 1)) (hx : x = 0 ∨ x = 1) (hp : P x v) : J w y cc mL (some .boolean) R X (ZJ w 185 0 0 (PI w P)) pc L [.int x] 185 (hv w v) 0 0 := J.zret pc hd hx ⟨x, v, rfl, rfl, hp⟩
theorem V.vret (pc : Nat) {P : Vm2 → Prop} (hd : decode cc pc = .ok (.return_, 1)) (hp : P v) : J w y cc mL none R X (ZJ w 185 0 0 (PU w P)) pc L [] 185 (hv w v) 0 0 := J.vret pc hd ⟨v, rfl, rfl, hp⟩
theorem CI.of {rt : Option FieldType} {f l : Nat} {av : List Value} {P : Int32 → Vm2 → Prop} (hy : plainName y.cls = true) (hle : (lg_sl av).length ≤ mL) (k : J w y cc mL rt (rm f l) XT (ZJ w 185 0 0 (PI w P)) 0 (lv_args 0 av) [] 185 (hv w v) 0 0) : CI w y cc mL rt (rm f l) av v P := Ct.of hy hle rfl k
theorem CU.of {f l : Nat} {av : List Value} {P : Vm2 → Prop} (hy : plainName y.cls = true) (hle : (lg_sl av).length ≤ mL) (k : J w y cc mL none (rm f l) XT (ZJ w 185 0 0 (PU w P)) 0 (lv_args 0 av) [] 185 (hv w v) 0 0) : CU w y cc mL (rm f l) av v P := Ct.of hy hle rfl k
end VE
end
section
theorem o_0 : isO 0 7 := ⟨by decide +kernel, by decide +kernel⟩
theorem r_0_0 : isRF 0 7 0 1 := ⟨by decide +kernel, by decide +kernel⟩
theorem r_0_1 : isRF 0 7 1 9 := ⟨by decide +kernel, by decide +kernel⟩
theorem r_0_2 : isRF 0 7 2 17 := ⟨by decide +kernel, by decide +kernel⟩
theorem r_0_3 : isRF 0 7 3 19 := ⟨by decide +kernel, by decide +kernel⟩
theorem r_0_4 : isRF 0 7 4 25 := ⟨by decide +kernel, by decide +kernel⟩
theorem r_0_5 : isRF 0 7 5 155 := ⟨by decide +kernel, by decide +kernel⟩
theorem r_0_6 : isRF 0 7 6 158 := ⟨by decide +kernel, by decide +kernel⟩
theorem r_0_7 : isRF 0 7 7 159 := ⟨by decide +kernel, by decide +kernel⟩
theorem r_0_8 : isRF 0 7 8 176 := ⟨by decide +kernel, by decide +kernel⟩
theorem r_0_9 : isRF 0 7 9 177 := ⟨by decide +kernel, by decide +kernel⟩
theorem o_17 : isO 17 6 := ⟨by decide +kernel, by decide +kernel⟩
theorem r_17_0 : isRF 17 6 0 18 := ⟨by decide +kernel, by decide +kernel⟩
theorem i_17_1 : isIF 17 6 1 := ⟨by decide +kernel, by decide +kernel⟩
theorem i_17_2 : isIF 17 6 2 := ⟨by decide +kernel, by decide +kernel⟩
theorem i_17_3 : isIF 17 6 3 := ⟨by decide +kernel, by decide +kernel⟩
theorem i_17_4 : isIF 17 6 4 := ⟨by decide +kernel, by decide +kernel⟩
theorem i_17_5 : isIF 17 6 5 := ⟨by decide +kernel, by decide +kernel⟩
theorem i_17_6 : isIF 17 6 6 := ⟨by decide +kernel, by decide +kernel⟩
theorem i_17_7 : isIF 17 6 7 := ⟨by decide +kernel, by decide +kernel⟩
theorem a_18 : isIA 18 200 := ⟨by decide +kernel, by decide +kernel, by decide +kernel⟩
theorem o_19 : isO 19 1 := ⟨by decide +kernel, by decide +kernel⟩
theorem r_19_0 : isRF 19 1 0 20 := ⟨by decide +kernel, by decide +kernel⟩
theorem r_19_1 : isRF 19 1 1 22 := ⟨by decide +kernel, by decide +kernel⟩
theorem r_19_2 : isRF 19 1 2 23 := ⟨by decide +kernel, by decide +kernel⟩
theorem r_19_3 : isRF 19 1 3 24 := ⟨by decide +kernel, by decide +kernel⟩
theorem o_20 : isO 20 3 := ⟨by decide +kernel, by decide +kernel⟩
theorem r_20_0 : isRF 20 3 0 21 := ⟨by decide +kernel, by decide +kernel⟩
theorem i_20_1 : isIF 20 3 1 := ⟨by decide +kernel, by decide +kernel⟩
theorem a_21 : isIA 21 8 := ⟨by decide +kernel, by decide +kernel, by decide +kernel⟩
theorem a_22 : isIA 22 8 := ⟨by decide +kernel, by decide +kernel, by decide +kernel⟩
theorem a_23 : isIA 23 8 := ⟨by decide +kernel, by decide +kernel, by decide +kernel⟩
theorem a_24 : isIA 24 8 := ⟨by decide +kernel, by decide +kernel, by decide +kernel⟩
theorem o_25 : isO 25 4 := ⟨by decide +kernel, by decide +kernel⟩
theorem r_25_0 : isRF 25 4 0 26 := ⟨by decide +kernel, by decide +kernel⟩
theorem i_25_1 : isIF 25 4 1 := ⟨by decide +kernel, by decide +kernel⟩
theorem i_25_2 : isIF 25 4 2 := ⟨by decide +kernel, by decide +kernel⟩
theorem a_26 : isQA 26 [27, 35, 43, 51, 59, 67, 75, 83, 91, 99, 107, 115, 123, 131, 139, 147] := ⟨by decide +kernel, by decide +kernel, by decide +kernel⟩
theorem o_155 : isO 155 0 := ⟨by decide +kernel, by decide +kernel⟩
theorem r_155_0 : isRF 155 0 0 156 := ⟨by decide +kernel, by decide +kernel⟩
theorem r_155_1 : isRF 155 0 1 157 := ⟨by decide +kernel, by decide +kernel⟩
theorem i_155_2 : isIF 155 0 2 := ⟨by decide +kernel, by decide +kernel⟩
theorem a_156 : isIA 156 20 := ⟨by decide +kernel, by decide +kernel, by decide +kernel⟩
theorem a_157 : isIA 157 20 := ⟨by decide +kernel, by decide +kernel, by decide +kernel⟩
theorem o_158 : isO 158 2 := ⟨by decide +kernel, by decide +kernel⟩
theorem i_158_0 : isIF 158 2 0 := ⟨by decide +kernel, by decide +kernel⟩
theorem a_159 : isQA 159 [160, 168] := ⟨by decide +kernel, by decide +kernel, by decide +kernel⟩
theorem a_176 : isIA 176 2 := ⟨by decide +kernel, by decide +kernel, by decide +kernel⟩
theorem a_177 : isZA 177 2 := ⟨by decide +kernel, by decide +kernel, by decide +kernel⟩
theorem o_178 : isO 178 8 := ⟨by decide +kernel, by decide +kernel⟩
theorem r_178_0 : isRF 178 8 0 179 := ⟨by decide +kernel, by decide +kernel⟩
theorem i_178_1 : isIF 178 8 1 := ⟨by decide +kernel, by decide +kernel⟩
theorem i_178_2 : isIF 178 8 2 := ⟨by decide +kernel, by decide +kernel⟩
theorem r_178_3 : isRF 178 8 3 180 := ⟨by decide +kernel, by decide +kernel⟩
theorem i_178_4 : isIF 178 8 4 := ⟨by decide +kernel, by decide +kernel⟩
theorem i_178_5 : isIF 178 8 5 := ⟨by decide +kernel, by decide +kernel⟩
theorem r_178_6 : isRF 178 8 6 181 := ⟨by decide +kernel, by decide +kernel⟩
theorem r_178_7 : isRF 178 8 7 182 := ⟨by decide +kernel, by decide +kernel⟩
theorem i_178_8 : isIF 178 8 8 := ⟨by decide +kernel, by decide +kernel⟩
theorem r_178_9 : isRF 178 8 9 183 := ⟨by decide +kernel, by decide +kernel⟩
theorem r_178_10 : isRF 178 8 10 184 := ⟨by decide +kernel, by decide +kernel⟩
theorem i_178_11 : isIF 178 8 11 := ⟨by decide +kernel, by decide +kernel⟩
theorem i_178_12 : isIF 178 8 12 := ⟨by decide +kernel, by decide +kernel⟩
theorem i_178_13 : isIF 178 8 13 := ⟨by decide +kernel, by decide +kernel⟩
theorem i_178_14 : isIF 178 8 14 := ⟨by decide +kernel, by decide +kernel⟩
theorem i_178_15 : isIF 178 8 15 := ⟨by decide +kernel, by decide +kernel⟩
theorem i_178_16 : isIF 178 8 16 := ⟨by decide +kernel, by decide +kernel⟩
theorem a_179 : isIA 179 3840 := ⟨by decide +kernel, by decide +kernel, by decide +kernel⟩
theorem a_180 : isIA 180 200 := ⟨by decide +kernel, by decide +kernel, by decide +kernel⟩
theorem a_181 : isIA 181 20 := ⟨by decide +kernel, by decide +kernel, by decide +kernel⟩
theorem a_182 : isIA 182 20 := ⟨by decide +kernel, by decide +kernel, by decide +kernel⟩
theorem a_183 : isIA 183 8 := ⟨by decide +kernel, by decide +kernel, by decide +kernel⟩
theorem a_184 : isIA 184 8 := ⟨by decide +kernel, by decide +kernel, by decide +kernel⟩
/-- a State stands at q, its rows behind it -/
def IsS (q : Nat) : Prop := q + 8 ≤ 178 ∧ lay q = .inl (5, stF q) ∧ lay (q + 1) = .inr (.inl 8) ∧ lay (q + 2) = .inr (.inl 8) ∧ lay (q + 3) = .inr (.inl 8) ∧ lay (q + 4) = .inr (.inl 64) ∧ lay (q + 5) = .inr (.inl 64) ∧ lay (q + 6) = .inr (.inl 6) ∧ lay (q + 7) = .inr (.inl 6)
section ISS
theorem IsS.le {q : Nat} (h : IsS q) : q + 8 ≤ 178 := h.1
theorem IsS.o {q : Nat} (h : IsS q) : isO q 5 := ⟨by have := h.1; omega, by rw [h.2.1]; rfl⟩
theorem IsS.i0 {q : Nat} (h : IsS q) : isIF q 5 0 := ⟨by have := h.1; omega, by rw [h.2.1]; rfl⟩
theorem IsS.i1 {q : Nat} (h : IsS q) : isIF q 5 1 := ⟨by have := h.1; omega, by rw [h.2.1]; rfl⟩
theorem IsS.i2 {q : Nat} (h : IsS q) : isIF q 5 2 := ⟨by have := h.1; omega, by rw [h.2.1]; rfl⟩
theorem IsS.i3 {q : Nat} (h : IsS q) : isIF q 5 3 := ⟨by have := h.1; omega, by rw [h.2.1]; rfl⟩
theorem IsS.i4 {q : Nat} (h : IsS q) : isIF q 5 4 := ⟨by have := h.1; omega, by rw [h.2.1]; rfl⟩
theorem IsS.i5 {q : Nat} (h : IsS q) : isIF q 5 5 := ⟨by have := h.1; omega, by rw [h.2.1]; rfl⟩
theorem IsS.i6 {q : Nat} (h : IsS q) : isIF q 5 6 := ⟨by have := h.1; omega, by rw [h.2.1]; rfl⟩
theorem IsS.i7 {q : Nat} (h : IsS q) : isIF q 5 7 := ⟨by have := h.1; omega, by rw [h.2.1]; rfl⟩
theorem IsS.r8 {q : Nat} (h : IsS q) : isRF q 5 8 (q + 1) := ⟨by have := h.1; omega, by rw [h.2.1]; rfl⟩
theorem IsS.r9 {q : Nat} (h : IsS q) : isRF q 5 9 (q + 2) := ⟨by have := h.1; omega, by rw [h.2.1]; rfl⟩
theorem IsS.r10 {q : Nat} (h : IsS q) : isRF q 5 10 (q + 3) := ⟨by have := h.1; omega, by rw [h.2.1]; rfl⟩
theorem IsS.r11 {q : Nat} (h : IsS q) : isRF q 5 11 (q + 4) := ⟨by have := h.1; omega, by rw [h.2.1]; rfl⟩
theorem IsS.r12 {q : Nat} (h : IsS q) : isRF q 5 12 (q + 5) := ⟨by have := h.1; omega, by rw [h.2.1]; rfl⟩
theorem IsS.r13 {q : Nat} (h : IsS q) : isRF q 5 13 (q + 6) := ⟨by have := h.1; omega, by rw [h.2.1]; rfl⟩
theorem IsS.r14 {q : Nat} (h : IsS q) : isRF q 5 14 (q + 7) := ⟨by have := h.1; omega, by rw [h.2.1]; rfl⟩
theorem IsS.a8 {q : Nat} (h : IsS q) : isIA (q + 1) 8 := ⟨by have := h.1; omega, h.2.2.1, by decide⟩
theorem IsS.a9 {q : Nat} (h : IsS q) : isIA (q + 2) 8 := ⟨by have := h.1; omega, h.2.2.2.1, by decide⟩
theorem IsS.a10 {q : Nat} (h : IsS q) : isIA (q + 3) 8 := ⟨by have := h.1; omega, h.2.2.2.2.1, by decide⟩
theorem IsS.a11 {q : Nat} (h : IsS q) : isIA (q + 4) 64 := ⟨by have := h.1; omega, h.2.2.2.2.2.1, by decide⟩
theorem IsS.a12 {q : Nat} (h : IsS q) : isIA (q + 5) 64 := ⟨by have := h.1; omega, h.2.2.2.2.2.2.1, by decide⟩
theorem IsS.a13 {q : Nat} (h : IsS q) : isIA (q + 6) 6 := ⟨by have := h.1; omega, h.2.2.2.2.2.2.2.1, by decide⟩
theorem IsS.a14 {q : Nat} (h : IsS q) : isIA (q + 7) 6 := ⟨by have := h.1; omega, h.2.2.2.2.2.2.2.2, by decide⟩
end ISS
theorem isS_1 : IsS 1 := ⟨by decide +kernel, by decide +kernel, by decide +kernel, by decide +kernel, by decide +kernel, by decide +kernel, by decide +kernel, by decide +kernel, by decide +kernel⟩
theorem isS_9 : IsS 9 := ⟨by decide +kernel, by decide +kernel, by decide +kernel, by decide +kernel, by decide +kernel, by decide +kernel, by decide +kernel, by decide +kernel, by decide +kernel⟩
theorem isS_160 : IsS 160 := ⟨by decide +kernel, by decide +kernel, by decide +kernel, by decide +kernel, by decide +kernel, by decide +kernel, by decide +kernel, by decide +kernel, by decide +kernel⟩
theorem isS_168 : IsS 168 := ⟨by decide +kernel, by decide +kernel, by decide +kernel, by decide +kernel, by decide +kernel, by decide +kernel, by decide +kernel, by decide +kernel, by decide +kernel⟩
theorem isS_h : ∀ i, i < 16 → IsS (27 + 8 * i) := by
  intro i hi
  have h0 : ∀ i : Fin 16, lay (27 + 8 * i.val) = .inl (5, stF (27 + 8 * i.val)) := by decide +kernel
  have h1 : ∀ i : Fin 16, lay (27 + 8 * i.val + 1) = .inr (.inl 8) := by decide +kernel
  have h2 : ∀ i : Fin 16, lay (27 + 8 * i.val + 2) = .inr (.inl 8) := by decide +kernel
  have h3 : ∀ i : Fin 16, lay (27 + 8 * i.val + 3) = .inr (.inl 8) := by decide +kernel
  have h4 : ∀ i : Fin 16, lay (27 + 8 * i.val + 4) = .inr (.inl 64) := by decide +kernel
  have h5 : ∀ i : Fin 16, lay (27 + 8 * i.val + 5) = .inr (.inl 64) := by decide +kernel
  have h6 : ∀ i : Fin 16, lay (27 + 8 * i.val + 6) = .inr (.inl 6) := by decide +kernel
  have h7 : ∀ i : Fin 16, lay (27 + 8 * i.val + 7) = .inr (.inl 6) := by decide +kernel
  exact ⟨by omega, h0 ⟨i, hi⟩, h1 ⟨i, hi⟩, h2 ⟨i, hi⟩, h3 ⟨i, hi⟩, h4 ⟨i, hi⟩, h5 ⟨i, hi⟩, h6 ⟨i, hi⟩, h7 ⟨i, hi⟩⟩
/-! truth as an int -/
def bI (p : Prop) [Decidable p] : Int32 := if p then nI 1 else nI 0
theorem bI_t {p : Prop} [Decidable p] (h : p) : nI 1 = bI p := by simp [bI, h]
theorem bI_f {p : Prop} [Decidable p] (h : ¬ p) : nI 0 = bI p := by simp [bI, h]
theorem bI_0 {p : Prop} [Decidable p] (h : bI p = 0) : ¬ p := fun hp => by rw [← bI_t hp] at h; exact absurd h (by decide)
theorem bI_n {p : Prop} [Decidable p] (h : ¬ bI p = 0) : p := by
  rcases Decidable.em p with hp | hp
  · exact hp
  · exact absurd (bI_f hp).symm h
theorem bI_01 (p : Prop) [Decidable p] : bI p = 0 ∨ bI p = 1 := by
  unfold bI
  split
  · exact Or.inr rfl
  · exact Or.inl rfl
section VB
variable {w : Wd} {y : MethodName} {cc : ByteArray} {mL : Nat} {rt : Option FieldType} {R : Room} {X : Array Value → State → Prop} {Qf : List Frame → Array Value → State → State → Prop} {L : List (Nat × Value)} {S : List Value} {n : Nat} {h : Nat → va_E} {ca sl : Nat}
theorem V.if_eqB (pc tgt : Nat) {o : Int} {p : Prop} [Decidable p] (hd : decode cc pc = .ok (.ifCond .eq o, 3)) (ht : (pc : Int) + o = (tgt : Int)) (kt : ¬ p → J w y cc mL rt R X Qf tgt L S n h ca sl) (kf : p → J w y cc mL rt R X Qf (pc + 3) L S n h ca sl) : J w y cc mL rt R X Qf pc L (.int (bI p) :: S) n h ca sl := J.if_eq pc tgt hd ht (fun c => kt (bI_0 c)) (fun c => kf (bI_n c))
theorem V.if_neB (pc tgt : Nat) {o : Int} {p : Prop} [Decidable p] (hd : decode cc pc = .ok (.ifCond .ne o, 3)) (ht : (pc : Int) + o = (tgt : Int)) (kt : p → J w y cc mL rt R X Qf tgt L S n h ca sl) (kf : ¬ p → J w y cc mL rt R X Qf (pc + 3) L S n h ca sl) : J w y cc mL rt R X Qf pc L (.int (bI p) :: S) n h ca sl := J.if_ne pc tgt hd ht (fun c => kt (bI_n c)) (fun c => kf (bI_0 c))
theorem V.icmp_eq (pc tgt : Nat) {o : Int} {a b : Nat} (hd : decode cc pc = .ok (.if_icmp .eq o, 3)) (ht : (pc : Int) + o = (tgt : Int)) (ha : a < 2 ^ 31) (hb : b < 2 ^ 31) (kt : a = b → J w y cc mL rt R X Qf tgt L S n h ca sl) (kf : a ≠ b → J w y cc mL rt R X Qf (pc + 3) L S n h ca sl) : J w y cc mL rt R X Qf pc L (.int (nI b) :: .int (nI a) :: S) n h ca sl := J.icmp_eq pc tgt hd ht (fun c => kt ((nI_eq ha hb).mp c)) (fun c => kf (fun e => c ((nI_eq ha hb).mpr e)))
theorem V.if_eq (pc tgt : Nat) {o : Int} {a : Nat} (hd : decode cc pc = .ok (.ifCond .eq o, 3)) (ht : (pc : Int) + o = (tgt : Int)) (ha : a < 2 ^ 31) (kt : a = 0 → J w y cc mL rt R X Qf tgt L S n h ca sl) (kf : a ≠ 0 → J w y cc mL rt R X Qf (pc + 3) L S n h ca sl) : J w y cc mL rt R X Qf pc L (.int (nI a) :: S) n h ca sl := J.if_eq pc tgt hd ht (fun c => kt ((nI_eq ha (by decide : 0 < 2 ^ 31)).mp c)) (fun c => kf (fun e => c ((nI_eq ha (by decide : 0 < 2 ^ 31)).mpr e)))
theorem V.icmp_ne (pc tgt : Nat) {o : Int} {a b : Nat} (hd : decode cc pc = .ok (.if_icmp .ne o, 3)) (ht : (pc : Int) + o = (tgt : Int)) (ha : a < 2 ^ 31) (hb : b < 2 ^ 31) (kt : a ≠ b → J w y cc mL rt R X Qf tgt L S n h ca sl) (kf : a = b → J w y cc mL rt R X Qf (pc + 3) L S n h ca sl) : J w y cc mL rt R X Qf pc L (.int (nI b) :: .int (nI a) :: S) n h ca sl := J.icmp_ne pc tgt hd ht (fun c => kt (fun e => c ((nI_eq ha hb).mpr e))) (fun c => kf ((nI_eq ha hb).mp c))
theorem V.if_ne (pc tgt : Nat) {o : Int} {a : Nat} (hd : decode cc pc = .ok (.ifCond .ne o, 3)) (ht : (pc : Int) + o = (tgt : Int)) (ha : a < 2 ^ 31) (kt : a ≠ 0 → J w y cc mL rt R X Qf tgt L S n h ca sl) (kf : a = 0 → J w y cc mL rt R X Qf (pc + 3) L S n h ca sl) : J w y cc mL rt R X Qf pc L (.int (nI a) :: S) n h ca sl := J.if_ne pc tgt hd ht (fun c => kt (fun e => c ((nI_eq ha (by decide : 0 < 2 ^ 31)).mpr e))) (fun c => kf ((nI_eq ha (by decide : 0 < 2 ^ 31)).mp c))
theorem V.icmp_lt (pc tgt : Nat) {o : Int} {a b : Nat} (hd : decode cc pc = .ok (.if_icmp .lt o, 3)) (ht : (pc : Int) + o = (tgt : Int)) (ha : a < 2 ^ 31) (hb : b < 2 ^ 31) (kt : a < b → J w y cc mL rt R X Qf tgt L S n h ca sl) (kf : b ≤ a → J w y cc mL rt R X Qf (pc + 3) L S n h ca sl) : J w y cc mL rt R X Qf pc L (.int (nI b) :: .int (nI a) :: S) n h ca sl := J.icmp_lt pc tgt hd ht (fun c => kt ((nI_ltI ha hb).mp c)) (fun c => kf (Nat.not_lt.mp (fun e => c ((nI_ltI ha hb).mpr e))))
theorem V.if_lt (pc tgt : Nat) {o : Int} {a : Nat} (hd : decode cc pc = .ok (.ifCond .lt o, 3)) (ht : (pc : Int) + o = (tgt : Int)) (ha : a < 2 ^ 31) (kt : a < 0 → J w y cc mL rt R X Qf tgt L S n h ca sl) (kf : 0 ≤ a → J w y cc mL rt R X Qf (pc + 3) L S n h ca sl) : J w y cc mL rt R X Qf pc L (.int (nI a) :: S) n h ca sl := J.if_lt pc tgt hd ht (fun c => kt ((nI_ltI ha (by decide : 0 < 2 ^ 31)).mp c)) (fun c => kf (Nat.not_lt.mp (fun e => c ((nI_ltI ha (by decide : 0 < 2 ^ 31)).mpr e))))
theorem V.icmp_ge (pc tgt : Nat) {o : Int} {a b : Nat} (hd : decode cc pc = .ok (.if_icmp .ge o, 3)) (ht : (pc : Int) + o = (tgt : Int)) (ha : a < 2 ^ 31) (hb : b < 2 ^ 31) (kt : b ≤ a → J w y cc mL rt R X Qf tgt L S n h ca sl) (kf : a < b → J w y cc mL rt R X Qf (pc + 3) L S n h ca sl) : J w y cc mL rt R X Qf pc L (.int (nI b) :: .int (nI a) :: S) n h ca sl := J.icmp_ge pc tgt hd ht (fun c => kt ((nI_leI hb ha).mp c)) (fun c => kf (Nat.not_le.mp (fun e => c ((nI_leI hb ha).mpr e))))
theorem V.if_ge (pc tgt : Nat) {o : Int} {a : Nat} (hd : decode cc pc = .ok (.ifCond .ge o, 3)) (ht : (pc : Int) + o = (tgt : Int)) (ha : a < 2 ^ 31) (kt : 0 ≤ a → J w y cc mL rt R X Qf tgt L S n h ca sl) (kf : a < 0 → J w y cc mL rt R X Qf (pc + 3) L S n h ca sl) : J w y cc mL rt R X Qf pc L (.int (nI a) :: S) n h ca sl := J.if_ge pc tgt hd ht (fun c => kt ((nI_leI (by decide : 0 < 2 ^ 31) ha).mp c)) (fun c => kf (Nat.not_le.mp (fun e => c ((nI_leI (by decide : 0 < 2 ^ 31) ha).mpr e))))
theorem V.icmp_gt (pc tgt : Nat) {o : Int} {a b : Nat} (hd : decode cc pc = .ok (.if_icmp .gt o, 3)) (ht : (pc : Int) + o = (tgt : Int)) (ha : a < 2 ^ 31) (hb : b < 2 ^ 31) (kt : b < a → J w y cc mL rt R X Qf tgt L S n h ca sl) (kf : a ≤ b → J w y cc mL rt R X Qf (pc + 3) L S n h ca sl) : J w y cc mL rt R X Qf pc L (.int (nI b) :: .int (nI a) :: S) n h ca sl := J.icmp_gt pc tgt hd ht (fun c => kt ((nI_ltI hb ha).mp c)) (fun c => kf (Nat.not_lt.mp (fun e => c ((nI_ltI hb ha).mpr e))))
theorem V.if_gt (pc tgt : Nat) {o : Int} {a : Nat} (hd : decode cc pc = .ok (.ifCond .gt o, 3)) (ht : (pc : Int) + o = (tgt : Int)) (ha : a < 2 ^ 31) (kt : 0 < a → J w y cc mL rt R X Qf tgt L S n h ca sl) (kf : a ≤ 0 → J w y cc mL rt R X Qf (pc + 3) L S n h ca sl) : J w y cc mL rt R X Qf pc L (.int (nI a) :: S) n h ca sl := J.if_gt pc tgt hd ht (fun c => kt ((nI_ltI (by decide : 0 < 2 ^ 31) ha).mp c)) (fun c => kf (Nat.not_lt.mp (fun e => c ((nI_ltI (by decide : 0 < 2 ^ 31) ha).mpr e))))
theorem V.icmp_le (pc tgt : Nat) {o : Int} {a b : Nat} (hd : decode cc pc = .ok (.if_icmp .le o, 3)) (ht : (pc : Int) + o = (tgt : Int)) (ha : a < 2 ^ 31) (hb : b < 2 ^ 31) (kt : a ≤ b → J w y cc mL rt R X Qf tgt L S n h ca sl) (kf : b < a → J w y cc mL rt R X Qf (pc + 3) L S n h ca sl) : J w y cc mL rt R X Qf pc L (.int (nI b) :: .int (nI a) :: S) n h ca sl := J.icmp_le pc tgt hd ht (fun c => kt ((nI_leI ha hb).mp c)) (fun c => kf (Nat.not_le.mp (fun e => c ((nI_leI ha hb).mpr e))))
theorem V.if_le (pc tgt : Nat) {o : Int} {a : Nat} (hd : decode cc pc = .ok (.ifCond .le o, 3)) (ht : (pc : Int) + o = (tgt : Int)) (ha : a < 2 ^ 31) (kt : a ≤ 0 → J w y cc mL rt R X Qf tgt L S n h ca sl) (kf : 0 < a → J w y cc mL rt R X Qf (pc + 3) L S n h ca sl) : J w y cc mL rt R X Qf pc L (.int (nI a) :: S) n h ca sl := J.if_le pc tgt hd ht (fun c => kt ((nI_leI ha (by decide : 0 < 2 ^ 31)).mp c)) (fun c => kf (Nat.not_le.mp (fun e => c ((nI_leI ha (by decide : 0 < 2 ^ 31)).mpr e))))
end VB
end
section
/-! ===== part 10: the reference's leaves ===== -/
theorem V.heapv {w : Wd} {y : MethodName} {cc : ByteArray} {mL : Nat} {rt : Option FieldType} {R : Room} {X : Array Value → State → Prop} {Qf : List Frame → Array Value → State → State → Prop} {L : List (Nat × Value)} {S : List Value} {v v' : Vm2} {ca sl pc : Nat} (he : v = v') (k : J w y cc mL rt R X Qf pc L S 185 (hv w v') ca sl) : J w y cc mL rt R X Qf pc L S 185 (hv w v) ca sl := by
  subst he
  exact k
def ro (v : Vm2) (x : Nat) : Nat → Int32 := fun k => v 179 (x + k)
theorem ro_at (v : Vm2) (x a b : Nat) : v 179 (x + a + b) = ro v x (a + b) := by simp [ro, Nat.add_assoc]
theorem ro_a1 (v : Vm2) (x a : Nat) : v 179 (x + a) = ro v x a := rfl
def aimF (ρ : Nat → Int32) (c : Nat) : Int32 := ρ (3 + c) + ρ (19 + c)
abbrev trF (ρ : Nat → Int32) (c : Nat) : Prop := ρ (27 + c) = 0 ∧ ρ (35 + c) = 0
abbrev liF (ρ : Nat → Int32) (c : Nat) : Prop := ρ (27 + c) = nI 1 ∧ ρ (35 + c) = 0
abbrev inF (x a b : Int32) : Prop := a ≤ x ∧ x ≤ b
def hasF (s k : Int32) : Prop := (s >>> (k &&& 31)) &&& nI 1 = nI 1
def cpK (v : Vm2) (x y n : Nat) : Vm2 := fun a b => if a = 179 ∧ y ≤ b ∧ b < y + n then v 179 (x + (b - y)) else v a b
abbrev cpR (v : Vm2) (x y : Nat) : Vm2 := cpK v x y 192
theorem cpK_0 (v : Vm2) (x y : Nat) : v = cpK v x y 0 := by
  funext a b
  simp only [cpK]
  rw [if_neg (by omega)]
theorem cpK_s (v : Vm2) (x y n : Nat) (hd : x + 192 ≤ y ∨ y + 192 ≤ x) (hn : n < 192) : up2 (cpK v x y n) 179 (y + n) (cpK v x y n 179 (x + n)) = cpK v x y (n + 1) := by
  funext a b
  simp only [up2, cpK]
  by_cases h1 : a = 179 ∧ b = y + n
  · obtain ⟨rfl, rfl⟩ := h1
    rw [if_pos ⟨rfl, rfl⟩, if_neg (by omega), if_pos (by omega)]
    congr 2
    omega
  · rw [if_neg h1]
    by_cases h2 : a = 179 ∧ y ≤ b ∧ b < y + n
    · rw [if_pos h2, if_pos (by omega)]
    · rw [if_neg h2, if_neg (by omega)]

set_option maxHeartbeats 4000000 in
set_option maxRecDepth 100000 in
theorem c_X8_in (w : Wd) (v : Vm2) (a b c : Int32) : CP w yX8_in cX8_in 3 (some .boolean) (rm 0 0) [.int a, .int b, .int c] v (bI (inF a b c)) := by
  refine CI.of (by decide) (Nat.le_of_ble_eq_true rfl) ?_
  refine J.iload_n 0 dX8_in_0 rfl rfl ?_
  refine J.iload_n 1 dX8_in_1 rfl rfl ?_
  refine J.icmp_lt 2 14 dX8_in_2 (by decide) (fun c2 => ?_) (fun c2 => ?_)
  · refine J.iconst 14 (nI 0) dX8_in_14 (by decide +kernel) ?_
    exact V.zret 15 dX8_in_15 (Or.inl rfl) (⟨bI_f (fun q => by first | exact absurd c2 (Int32.not_lt.mpr q.1) | exact absurd c7 (Int32.not_lt.mpr q.2)), rfl⟩)
  · refine J.iload_n 5 dX8_in_5 rfl rfl ?_
    refine J.iload_n 6 dX8_in_6 rfl rfl ?_
    refine J.icmp_gt 7 14 dX8_in_7 (by decide) (fun c7 => ?_) (fun c7 => ?_)
    · refine J.iconst 14 (nI 0) dX8_in_14 (by decide +kernel) ?_
      exact V.zret 15 dX8_in_15 (Or.inl rfl) (⟨bI_f (fun q => by first | exact absurd c2 (Int32.not_lt.mpr q.1) | exact absurd c7 (Int32.not_lt.mpr q.2)), rfl⟩)
    · refine J.iconst 10 (nI 1) dX8_in_10 (by decide +kernel) ?_
      refine J.goto 11 15 dX8_in_11 (by decide) ?_
      exact V.zret 15 dX8_in_15 (Or.inr rfl) (⟨bI_t ⟨Int32.not_lt.mp c2, Int32.not_lt.mp c7⟩, rfl⟩)
set_option maxHeartbeats 4000000 in
set_option maxRecDepth 100000 in
theorem c_X8_has (w : Wd) (v : Vm2) (a b : Int32) : CP w yX8_has cX8_has 2 (some .boolean) (rm 0 0) [.int a, .int b] v (bI ((a >>> (b &&& 31)) &&& nI 1 = nI 1)) := by
  refine CI.of (by decide) (Nat.le_of_ble_eq_true rfl) ?_
  refine J.iload_n 0 dX8_has_0 rfl rfl ?_
  refine J.iload_n 1 dX8_has_1 rfl rfl ?_
  refine J.ishr 2 dX8_has_2 ?_
  refine J.iconst 3 (nI 1) dX8_has_3 (by decide +kernel) ?_
  refine J.iand 4 dX8_has_4 ?_
  refine J.iconst 5 (nI 1) dX8_has_5 (by decide +kernel) ?_
  refine J.icmp_ne 6 13 dX8_has_6 (by decide) (fun c6 => ?_) (fun c6 => ?_)
  · refine J.iconst 13 (nI 0) dX8_has_13 (by decide +kernel) ?_
    exact V.zret 14 dX8_has_14 (Or.inl rfl) (⟨bI_f c6, rfl⟩)
  · refine J.iconst 9 (nI 1) dX8_has_9 (by decide +kernel) ?_
    refine J.goto 10 14 dX8_has_10 (by decide) ?_
    exact V.zret 14 dX8_has_14 (Or.inr rfl) (⟨bI_t c6, rfl⟩)
set_option maxHeartbeats 4000000 in
set_option maxRecDepth 100000 in
theorem c_X8_aim (w : Wd) (v : Vm2) {x c : Nat} (hc : x + 19 + c < 3840) : CP w yX8_aim cX8_aim 3 (some .int) (rm 0 0) [.ref (wN w + 178), .int (nI x), .int (nI c)] v (aimF (ro v x) c) := by
  refine CI.of (by decide) (Nat.le_of_ble_eq_true rfl) ?_
  refine J.aload_n 0 dX8_aim_0 rfl rfl ?_
  refine V.getR 1 dX8_aim_1 fl_RX8_7 r_178_0 ?_
  refine J.iload_n 4 dX8_aim_4 rfl rfl ?_
  refine J.iconst 5 (nI 3) dX8_aim_5 (by decide +kernel) ?_
  refine V.iadd 6 dX8_aim_6 ?_
  refine J.iload_n 7 dX8_aim_7 rfl rfl ?_
  refine V.iadd 8 dX8_aim_8 ?_
  refine V.iald 9 dX8_aim_9 a_179 (by omega) ?_
  refine J.aload_n 10 dX8_aim_10 rfl rfl ?_
  refine V.getR 11 dX8_aim_11 fl_RX8_7 r_178_0 ?_
  refine J.iload_n 14 dX8_aim_14 rfl rfl ?_
  refine J.bipush 15 (nI 19) dX8_aim_15 (by decide +kernel) ?_
  refine V.iadd 17 dX8_aim_17 ?_
  refine J.iload_n 18 dX8_aim_18 rfl rfl ?_
  refine V.iadd 19 dX8_aim_19 ?_
  refine V.iald 20 dX8_aim_20 a_179 (by omega) ?_
  refine J.iadd 21 dX8_aim_21 ?_
  exact V.iret 22 dX8_aim_22 (⟨by simp only [aimF, ro, Nat.add_assoc], rfl⟩)
set_option maxHeartbeats 4000000 in
set_option maxRecDepth 100000 in
theorem c_X8_isClock (w : Wd) (v : Vm2) (c : Int32) : CP w yX8_isClock cX8_isClock 2 (some .boolean) (rm 1 22) [.ref (wN w + 178), .int c] v (bI (inF c 0 (v 179 0 - 1))) := by
  refine CI.of (by decide) (Nat.le_of_ble_eq_true rfl) ?_
  refine J.iload_n 0 dX8_isClock_0 rfl rfl ?_
  refine J.iconst 1 (nI 0) dX8_isClock_1 (by decide +kernel) ?_
  refine J.aload_n 2 dX8_isClock_2 rfl rfl ?_
  refine V.getR 3 dX8_isClock_3 fl_RX8_7 r_178_0 ?_
  refine J.iconst 6 (nI 0) dX8_isClock_6 (by decide +kernel) ?_
  refine V.iald 7 dX8_isClock_7 a_179 (by omega) ?_
  refine J.iconst 8 (nI 1) dX8_isClock_8 (by decide +kernel) ?_
  refine J.isub 9 dX8_isClock_9 ?_
  refine V.callsP 10 dX8_isClock_10 ml_RX8_32 mi_yX8_in ms_yX8_in (c_X8_in w _ _ _ _) rfl rfl (Nat.le_of_ble_eq_true rfl) (by decide) (by decide) ?_
  exact V.zret 13 dX8_isClock_13 (bI_01 _) (⟨rfl, rfl⟩)
set_option maxHeartbeats 4000000 in
set_option maxRecDepth 100000 in
theorem c_X8_isTrue (w : Wd) (v : Vm2) {x c : Nat} (hc : x + 35 + c < 3840) : CP w yX8_isTrue cX8_isTrue 3 (some .boolean) (rm 0 0) [.ref (wN w + 178), .int (nI x), .int (nI c)] v (bI (trF (ro v x) c)) := by
  refine CI.of (by decide) (Nat.le_of_ble_eq_true rfl) ?_
  refine J.aload_n 0 dX8_isTrue_0 rfl rfl ?_
  refine V.getR 1 dX8_isTrue_1 fl_RX8_7 r_178_0 ?_
  refine J.iload_n 4 dX8_isTrue_4 rfl rfl ?_
  refine J.bipush 5 (nI 27) dX8_isTrue_5 (by decide +kernel) ?_
  refine V.iadd 7 dX8_isTrue_7 ?_
  refine J.iload_n 8 dX8_isTrue_8 rfl rfl ?_
  refine V.iadd 9 dX8_isTrue_9 ?_
  refine V.iald 10 dX8_isTrue_10 a_179 (by omega) ?_
  refine J.if_ne 11 32 dX8_isTrue_11 (by decide) (fun c11 => ?_) (fun c11 => ?_)
  · refine J.iconst 32 (nI 0) dX8_isTrue_32 (by decide +kernel) ?_
    exact V.zret 33 dX8_isTrue_33 (Or.inl rfl) (⟨bI_f (fun q => by first | exact c11 ((ro_at v x 27 c).trans q.1) | exact c25 ((ro_at v x 35 c).trans q.2)), rfl⟩)
  · refine J.aload_n 14 dX8_isTrue_14 rfl rfl ?_
    refine V.getR 15 dX8_isTrue_15 fl_RX8_7 r_178_0 ?_
    refine J.iload_n 18 dX8_isTrue_18 rfl rfl ?_
    refine J.bipush 19 (nI 35) dX8_isTrue_19 (by decide +kernel) ?_
    refine V.iadd 21 dX8_isTrue_21 ?_
    refine J.iload_n 22 dX8_isTrue_22 rfl rfl ?_
    refine V.iadd 23 dX8_isTrue_23 ?_
    refine V.iald 24 dX8_isTrue_24 a_179 (by omega) ?_
    refine J.if_ne 25 32 dX8_isTrue_25 (by decide) (fun c25 => ?_) (fun c25 => ?_)
    · refine J.iconst 32 (nI 0) dX8_isTrue_32 (by decide +kernel) ?_
      exact V.zret 33 dX8_isTrue_33 (Or.inl rfl) (⟨bI_f (fun q => by first | exact c11 ((ro_at v x 27 c).trans q.1) | exact c25 ((ro_at v x 35 c).trans q.2)), rfl⟩)
    · refine J.iconst 28 (nI 1) dX8_isTrue_28 (by decide +kernel) ?_
      refine J.goto 29 33 dX8_isTrue_29 (by decide) ?_
      exact V.zret 33 dX8_isTrue_33 (Or.inr rfl) (⟨bI_t ⟨(ro_at v x 27 c).symm.trans c11, (ro_at v x 35 c).symm.trans c25⟩, rfl⟩)
set_option maxHeartbeats 4000000 in
set_option maxRecDepth 100000 in
theorem c_X8_isLiar (w : Wd) (v : Vm2) {x c : Nat} (hc : x + 35 + c < 3840) : CP w yX8_isLiar cX8_isLiar 3 (some .boolean) (rm 0 0) [.ref (wN w + 178), .int (nI x), .int (nI c)] v (bI (liF (ro v x) c)) := by
  refine CI.of (by decide) (Nat.le_of_ble_eq_true rfl) ?_
  refine J.aload_n 0 dX8_isLiar_0 rfl rfl ?_
  refine V.getR 1 dX8_isLiar_1 fl_RX8_7 r_178_0 ?_
  refine J.iload_n 4 dX8_isLiar_4 rfl rfl ?_
  refine J.bipush 5 (nI 27) dX8_isLiar_5 (by decide +kernel) ?_
  refine V.iadd 7 dX8_isLiar_7 ?_
  refine J.iload_n 8 dX8_isLiar_8 rfl rfl ?_
  refine V.iadd 9 dX8_isLiar_9 ?_
  refine V.iald 10 dX8_isLiar_10 a_179 (by omega) ?_
  refine J.iconst 11 (nI 1) dX8_isLiar_11 (by decide +kernel) ?_
  refine J.icmp_ne 12 33 dX8_isLiar_12 (by decide) (fun c12 => ?_) (fun c12 => ?_)
  · refine J.iconst 33 (nI 0) dX8_isLiar_33 (by decide +kernel) ?_
    exact V.zret 34 dX8_isLiar_34 (Or.inl rfl) (⟨bI_f (fun q => by first | exact c12 ((ro_at v x 27 c).trans q.1) | exact c26 ((ro_at v x 35 c).trans q.2)), rfl⟩)
  · refine J.aload_n 15 dX8_isLiar_15 rfl rfl ?_
    refine V.getR 16 dX8_isLiar_16 fl_RX8_7 r_178_0 ?_
    refine J.iload_n 19 dX8_isLiar_19 rfl rfl ?_
    refine J.bipush 20 (nI 35) dX8_isLiar_20 (by decide +kernel) ?_
    refine V.iadd 22 dX8_isLiar_22 ?_
    refine J.iload_n 23 dX8_isLiar_23 rfl rfl ?_
    refine V.iadd 24 dX8_isLiar_24 ?_
    refine V.iald 25 dX8_isLiar_25 a_179 (by omega) ?_
    refine J.if_ne 26 33 dX8_isLiar_26 (by decide) (fun c26 => ?_) (fun c26 => ?_)
    · refine J.iconst 33 (nI 0) dX8_isLiar_33 (by decide +kernel) ?_
      exact V.zret 34 dX8_isLiar_34 (Or.inl rfl) (⟨bI_f (fun q => by first | exact c12 ((ro_at v x 27 c).trans q.1) | exact c26 ((ro_at v x 35 c).trans q.2)), rfl⟩)
    · refine J.iconst 29 (nI 1) dX8_isLiar_29 (by decide +kernel) ?_
      refine J.goto 30 34 dX8_isLiar_30 (by decide) ?_
      exact V.zret 34 dX8_isLiar_34 (Or.inr rfl) (⟨bI_t ⟨(ro_at v x 27 c).symm.trans c12, (ro_at v x 35 c).symm.trans c26⟩, rfl⟩)
set_option maxHeartbeats 4000000 in
set_option maxRecDepth 100000 in
theorem c_X8_fine (w : Wd) (v : Vm2)  : CP w yX8_fine cX8_fine 1 (some .boolean) (rm 0 0) [.ref (wN w + 178)] v (bI (v 178 12 = 0)) := by
  refine CI.of (by decide) (Nat.le_of_ble_eq_true rfl) ?_
  refine J.aload_n 0 dX8_fine_0 rfl rfl ?_
  refine V.getI 1 dX8_fine_1 fl_RX8_41 i_178_12 ?_
  refine J.if_ne 4 11 dX8_fine_4 (by decide) (fun c4 => ?_) (fun c4 => ?_)
  · refine J.iconst 11 (nI 0) dX8_fine_11 (by decide +kernel) ?_
    exact V.zret 12 dX8_fine_12 (Or.inl rfl) (⟨bI_f c4, rfl⟩)
  · refine J.iconst 7 (nI 1) dX8_fine_7 (by decide +kernel) ?_
    refine J.goto 8 12 dX8_fine_8 (by decide) ?_
    exact V.zret 12 dX8_fine_12 (Or.inr rfl) (⟨bI_t c4, rfl⟩)
set_option maxHeartbeats 4000000 in
set_option maxRecDepth 100000 in
theorem c_X8_copyRow (w : Wd) (v : Vm2) {x y : Nat} (hx : x + 192 ≤ 3840) (hy : y + 192 ≤ 3840) (hd : x + 192 ≤ y ∨ y + 192 ≤ x) : CU w yX8_copyRow cX8_copyRow 4 (rm 0 0) [.ref (wN w + 178), .int (nI x), .int (nI y)] v (fun v' => v' = cpR v x y) := by
  refine CU.of (by decide) (Nat.le_of_ble_eq_true rfl) ?_
  have lp : ∀ (m : Nat) (k : Nat), (k ≤ 192) → 192 - k < m → J w yX8_copyRow cX8_copyRow 4 none (rm 0 0) XT (ZJ w 185 0 0 (PU w (fun v' => v' = cpR v x y))) 2 [(0, .ref (wN w + 178)), (1, .int (nI x)), (2, .int (nI y)), (3, .int (nI k))] [] 185 (hv w (cpK v x y k)) 0 0 := by
    intro m
    induction m with
    | zero =>
      intro k hi0 hm
      exact absurd hm (by omega)
    | succ m ih =>
      intro k hi0 hm
      refine J.iload_n 2 dX8_copyRow_2 rfl rfl ?_
      refine J.sipush 3 (nI 192) dX8_copyRow_3 (by decide +kernel) ?_
      refine V.icmp_ge 6 31 dX8_copyRow_6 (by decide) (by omega) (by omega) (fun c6 => ?_) (fun c6 => ?_)
      · exact V.vret 31 dX8_copyRow_31 (by rw [show k = 192 by omega])
      · refine J.aload_n 9 dX8_copyRow_9 rfl rfl ?_
        refine V.getR 10 dX8_copyRow_10 fl_RX8_7 r_178_0 ?_
        refine J.iload_n 13 dX8_copyRow_13 rfl rfl ?_
        refine J.iload_n 14 dX8_copyRow_14 rfl rfl ?_
        refine V.iadd 15 dX8_copyRow_15 ?_
        refine J.aload_n 16 dX8_copyRow_16 rfl rfl ?_
        refine V.getR 17 dX8_copyRow_17 fl_RX8_7 r_178_0 ?_
        refine J.iload_n 20 dX8_copyRow_20 rfl rfl ?_
        refine J.iload_n 21 dX8_copyRow_21 rfl rfl ?_
        refine V.iadd 22 dX8_copyRow_22 ?_
        refine V.iald 23 dX8_copyRow_23 a_179 (by omega) ?_
        refine V.iast 24 dX8_copyRow_24 a_179 (by omega) ?_
        refine V.iinc 25 dX8_copyRow_25 rfl (by decide) ?_
        refine J.goto 28 2 dX8_copyRow_28 (by decide) ?_
        refine V.heapv (cpK_s v x y k hd (by omega)) ?_
        exact ih (k + 1) (by omega) (by omega)
  refine J.iconst 0 (nI 0) dX8_copyRow_0 (by decide +kernel) ?_
  refine J.istore_n 1 dX8_copyRow_1 rfl (by decide) ?_
  refine V.heapv (cpK_0 v x y) ?_
  exact lp 193 0 (by omega) (by omega)
end
section
/-! ===== part 11: the reference: heard, order, middle, round, apart ===== -/
theorem nI_m1 {l : Nat} (h : l < 2 ^ 31) : ¬ nI l = -1 := by
  intro e
  have h1 := nI_toInt h
  rw [e] at h1
  have h2 : (-1 : Int32).toInt = -1 := by decide
  omega
def heF (ρ : Nat → Int32) (j i : Nat) : Int32 := if j = i ∨ ρ (35 + j) = nI 1 then aimF ρ i else if ρ (27 + j) = nI 1 then aimF ρ i + ρ (107 + (8 * j + i)) else aimF ρ j + ρ (43 + (8 * j + i))
def putF : (Nat → Int32) → Nat → Int32 → (Nat → Int32)
  | o, 0, x => upd o 0 x
  | o, k + 1, x => if x < o k then putF (upd o (k + 1) (o k)) k x else upd o (k + 1) x
def ordF (h : Nat → Int32) : Nat → (Nat → Int32)
  | 0 => fun _ => 0
  | j + 1 => putF (ordF h j) j (h j)
def fl2 (s : Int32) : Int32 := if s < 0 then -((nI 1 - s) / nI 2) else s / nI 2
def mdF (ρ : Nat → Int32) (n f i : Nat) : Int32 := if n ≤ 2 * f then aimF ρ i else fl2 (ordF (fun j => heF ρ j i) n f + ordF (fun j => heF ρ j i) n (n - 1 - f))
def rdF (ρ : Nat → Int32) (n f i : Nat) : Int32 := if trF ρ i then mdF ρ n f i - ρ (3 + i) else ρ (19 + i)
def rnF (ρ : Nat → Int32) (n f k : Nat) : Int32 := if 19 ≤ k ∧ k < 19 + n then rdF ρ n f (k - 19) else ρ k
def loI (ρ : Nat → Int32) : Nat → Option Nat
  | 0 => none
  | c + 1 => if trF ρ c then (match loI ρ c with
    | none => some c
    | some l => if aimF ρ c < aimF ρ l then some c else some l) else loI ρ c
def hiI (ρ : Nat → Int32) : Nat → Option Nat
  | 0 => none
  | c + 1 => if trF ρ c then (match hiI ρ c with
    | none => some c
    | some l => if aimF ρ l < aimF ρ c then some c else some l) else hiI ρ c
def oI : Option Nat → Int32
  | none => -1
  | some l => nI l
def apF (ρ : Nat → Int32) (n : Nat) : Int32 := match loI ρ n, hiI ρ n with
  | some l, some h => aimF ρ h - aimF ρ l
  | _, _ => -1
theorem loI_lt (ρ : Nat → Int32) : ∀ (n l : Nat), loI ρ n = some l → l < n
  | 0, l, h => by cases h
  | c + 1, l, h => by
    unfold loI at h
    have ih := loI_lt ρ c
    split at h
    · split at h
      · cases h; omega
      · rename_i l' hl'
        have := ih l' hl'
        split at h <;> cases h <;> omega
    · have := ih l h; omega
theorem hiI_lt (ρ : Nat → Int32) : ∀ (n l : Nat), hiI ρ n = some l → l < n
  | 0, l, h => by cases h
  | c + 1, l, h => by
    unfold hiI at h
    have ih := hiI_lt ρ c
    split at h
    · split at h
      · cases h; omega
      · rename_i l' hl'
        have := ih l' hl'
        split at h <;> cases h <;> omega
    · have := ih l h; omega
theorem lohi (ρ : Nat → Int32) : ∀ n : Nat, (loI ρ n = none ∧ hiI ρ n = none) ∨ (∃ l h, loI ρ n = some l ∧ hiI ρ n = some h)
  | 0 => Or.inl ⟨rfl, rfl⟩
  | c + 1 => by
    unfold loI hiI
    rcases lohi ρ c with ⟨h1, h2⟩ | ⟨l, h, h1, h2⟩
    · rw [h1, h2]
      by_cases ht : trF ρ c
      · simp only [if_pos ht]; exact Or.inr ⟨c, c, rfl, rfl⟩
      · exact Or.inl (by simp [ht])
    · rw [h1, h2]
      by_cases ht : trF ρ c
      · simp only [if_pos ht]
        refine Or.inr ?_
        split <;> split <;> exact ⟨_, _, rfl, rfl⟩
      · simp only [if_neg ht]; exact Or.inr ⟨l, h, rfl, rfl⟩
theorem upR_self (v : Vm2) (k : Nat) (f : Nat → Int32) : upR v k f k = f := by simp [upR]
theorem upR_ne (v : Vm2) {k a : Nat} (f : Nat → Int32) (h : a ≠ k) : upR v k f a = v a := by simp [upR, h]
theorem upR_id (v : Vm2) (k : Nat) : v = upR v k (v k) := by
  funext a
  by_cases h : a = k
  · subst h; simp [upR]
  · simp [upR, h]
theorem upR_upR (v : Vm2) (k : Nat) (f g : Nat → Int32) : upR (upR v k f) k g = upR v k g := by
  funext a
  by_cases h : a = k
  · subst h; simp [upR]
  · simp [upR, h]
theorem up2_upR (v : Vm2) (k i : Nat) (f : Nat → Int32) (x : Int32) : up2 (upR v k f) k i x = upR v k (upd f i x) := by
  rw [← upR_upd, upR_self, upR_upR]
theorem ro_upR (v : Vm2) (k : Nat) (f : Nat → Int32) (x : Nat) (h : 179 ≠ k) : ro (upR v k f) x = ro v x := by
  funext a
  simp [ro, upR, h]
theorem putF_in (o : Nat → Int32) (x : Int32) : ∀ (m k : Nat), m < k → putF o m x k = o k
  | 0, k, h => by simp [putF, upd, show ¬ k = 0 by omega]
  | m + 1, k, h => by
    unfold putF
    split
    · rw [putF_in _ x m k (by omega)]
      simp [upd, show ¬ k = m + 1 by omega]
    · simp [upd, show ¬ k = m + 1 by omega]
theorem putF_congr (x : Int32) : ∀ (m : Nat) (o o' : Nat → Int32), (∀ k, k < m → o k = o' k) → ∀ k, k < m + 1 → putF o m x k = putF o' m x k
  | 0, o, o', _, k, hk => by
    have : k = 0 := by omega
    subst this
    simp [putF, upd]
  | m + 1, o, o', h, k, hk => by
    unfold putF
    rw [h m (by omega)]
    split
    · by_cases hkm : k < m + 1
      · refine putF_congr x m _ _ (fun j hj => ?_) k hkm
        simp only [upd, show ¬ j = m + 1 by omega, if_false]
        exact h j (by omega)
      · have : k = m + 1 := by omega
        subst this
        rw [putF_in _ x m _ (by omega), putF_in _ x m _ (by omega)]
        simp [upd]
    · by_cases hkm : k = m + 1
      · simp [upd, hkm]
      · simp only [upd, hkm, if_false]
        exact h k (by omega)

set_option maxHeartbeats 4000000 in
set_option maxRecDepth 100000 in
theorem c_X8_heardOf (w : Wd) (v : Vm2) {x j i : Nat} (hx : x + 192 ≤ 3840) (hj : j < 8) (hi : i < 8) : CP w yX8_heardOf cX8_heardOf 5 (some .int) (rm 1 22) [.ref (wN w + 178), .int (nI x), .int (nI j), .int (nI i)] v (heF (ro v x) j i) := by
  refine CI.of (by decide) (Nat.le_of_ble_eq_true rfl) ?_
  refine J.iload_n 0 dX8_heardOf_0 rfl rfl ?_
  refine J.iload_n 1 dX8_heardOf_1 rfl rfl ?_
  refine V.icmp_eq 2 20 dX8_heardOf_2 (by decide) (by omega) (by omega) (fun c2 => ?_) (fun c2 => ?_)
  · refine J.aload_n 20 dX8_heardOf_20 rfl rfl ?_
    refine J.iload_n 21 dX8_heardOf_21 rfl rfl ?_
    refine J.iload_n 22 dX8_heardOf_22 rfl rfl ?_
    refine V.callvP 23 dX8_heardOf_23 ml_RX8_97 mi_yX8_aim mv_yX8_aim (c_X8_aim w _ (by omega)) rfl rfl (Nat.le_of_ble_eq_true rfl) (by decide) (by decide) o_178 rfl rfl ?_
    exact V.iret 26 dX8_heardOf_26 (⟨by unfold heF; rw [if_pos (by first | exact Or.inl c2 | exact Or.inr ((ro_at v x 35 j).symm.trans c17))], rfl⟩)
  · refine J.aload_n 5 dX8_heardOf_5 rfl rfl ?_
    refine V.getR 6 dX8_heardOf_6 fl_RX8_7 r_178_0 ?_
    refine J.iload_n 9 dX8_heardOf_9 rfl rfl ?_
    refine J.bipush 10 (nI 35) dX8_heardOf_10 (by decide +kernel) ?_
    refine V.iadd 12 dX8_heardOf_12 ?_
    refine J.iload_n 13 dX8_heardOf_13 rfl rfl ?_
    refine V.iadd 14 dX8_heardOf_14 ?_
    refine V.iald 15 dX8_heardOf_15 a_179 (by omega) ?_
    refine J.iconst 16 (nI 1) dX8_heardOf_16 (by decide +kernel) ?_
    refine J.icmp_ne 17 27 dX8_heardOf_17 (by decide) (fun c17 => ?_) (fun c17 => ?_)
    · refine J.bipush 27 (nI 8) dX8_heardOf_27 (by decide +kernel) ?_
      refine J.iload_n 29 dX8_heardOf_29 rfl rfl ?_
      refine V.imul 30 dX8_heardOf_30 ?_
      refine J.iload_n 31 dX8_heardOf_31 rfl rfl ?_
      refine V.iadd 32 dX8_heardOf_32 ?_
      refine J.istore 33 dX8_heardOf_33 (by decide) ?_
      refine J.aload_n 35 dX8_heardOf_35 rfl rfl ?_
      refine V.getR 36 dX8_heardOf_36 fl_RX8_7 r_178_0 ?_
      refine J.iload_n 39 dX8_heardOf_39 rfl rfl ?_
      refine J.bipush 40 (nI 27) dX8_heardOf_40 (by decide +kernel) ?_
      refine V.iadd 42 dX8_heardOf_42 ?_
      refine J.iload_n 43 dX8_heardOf_43 rfl rfl ?_
      refine V.iadd 44 dX8_heardOf_44 ?_
      refine V.iald 45 dX8_heardOf_45 a_179 (by omega) ?_
      refine J.iconst 46 (nI 1) dX8_heardOf_46 (by decide +kernel) ?_
      refine J.icmp_ne 47 72 dX8_heardOf_47 (by decide) (fun c47 => ?_) (fun c47 => ?_)
      · refine J.aload_n 72 dX8_heardOf_72 rfl rfl ?_
        refine J.iload_n 73 dX8_heardOf_73 rfl rfl ?_
        refine J.iload_n 74 dX8_heardOf_74 rfl rfl ?_
        refine V.callvP 75 dX8_heardOf_75 ml_RX8_97 mi_yX8_aim mv_yX8_aim (c_X8_aim w _ (by omega)) rfl rfl (Nat.le_of_ble_eq_true rfl) (by decide) (by decide) o_178 rfl rfl ?_
        refine J.aload_n 78 dX8_heardOf_78 rfl rfl ?_
        refine V.getR 79 dX8_heardOf_79 fl_RX8_7 r_178_0 ?_
        refine J.iload_n 82 dX8_heardOf_82 rfl rfl ?_
        refine J.bipush 83 (nI 43) dX8_heardOf_83 (by decide +kernel) ?_
        refine V.iadd 85 dX8_heardOf_85 ?_
        refine J.iload 86 dX8_heardOf_86 rfl ?_
        refine V.iadd 88 dX8_heardOf_88 ?_
        refine V.iald 89 dX8_heardOf_89 a_179 (by omega) ?_
        refine J.iadd 90 dX8_heardOf_90 ?_
        refine J.top (b := aimF (ro v x) j + ro v x (43 + (8 * j + i))) (by rw [← ro_at]) ?_
        exact V.iret 91 dX8_heardOf_91 (⟨by unfold heF; rw [if_neg (fun q => q.elim c2 (fun q => c17 ((ro_at v x 35 j).trans q)))]; first | exact (if_pos ((ro_at v x 27 j).symm.trans c47)).symm | exact (if_neg (fun q => c47 ((ro_at v x 27 j).trans q))).symm, rfl⟩)
      · refine J.aload_n 50 dX8_heardOf_50 rfl rfl ?_
        refine J.iload_n 51 dX8_heardOf_51 rfl rfl ?_
        refine J.iload_n 52 dX8_heardOf_52 rfl rfl ?_
        refine V.callvP 53 dX8_heardOf_53 ml_RX8_97 mi_yX8_aim mv_yX8_aim (c_X8_aim w _ (by omega)) rfl rfl (Nat.le_of_ble_eq_true rfl) (by decide) (by decide) o_178 rfl rfl ?_
        refine J.aload_n 56 dX8_heardOf_56 rfl rfl ?_
        refine V.getR 57 dX8_heardOf_57 fl_RX8_7 r_178_0 ?_
        refine J.iload_n 60 dX8_heardOf_60 rfl rfl ?_
        refine J.bipush 61 (nI 107) dX8_heardOf_61 (by decide +kernel) ?_
        refine V.iadd 63 dX8_heardOf_63 ?_
        refine J.iload 64 dX8_heardOf_64 rfl ?_
        refine V.iadd 66 dX8_heardOf_66 ?_
        refine V.iald 67 dX8_heardOf_67 a_179 (by omega) ?_
        refine J.iadd 68 dX8_heardOf_68 ?_
        refine J.top (b := aimF (ro v x) i + ro v x (107 + (8 * j + i))) (by rw [← ro_at]) ?_
        refine J.goto 69 91 dX8_heardOf_69 (by decide) ?_
        exact V.iret 91 dX8_heardOf_91 (⟨by unfold heF; rw [if_neg (fun q => q.elim c2 (fun q => c17 ((ro_at v x 35 j).trans q)))]; first | exact (if_pos ((ro_at v x 27 j).symm.trans c47)).symm | exact (if_neg (fun q => c47 ((ro_at v x 27 j).trans q))).symm, rfl⟩)
    · refine J.aload_n 20 dX8_heardOf_20 rfl rfl ?_
      refine J.iload_n 21 dX8_heardOf_21 rfl rfl ?_
      refine J.iload_n 22 dX8_heardOf_22 rfl rfl ?_
      refine V.callvP 23 dX8_heardOf_23 ml_RX8_97 mi_yX8_aim mv_yX8_aim (c_X8_aim w _ (by omega)) rfl rfl (Nat.le_of_ble_eq_true rfl) (by decide) (by decide) o_178 rfl rfl ?_
      exact V.iret 26 dX8_heardOf_26 (⟨by unfold heF; rw [if_pos (by first | exact Or.inl c2 | exact Or.inr ((ro_at v x 35 j).symm.trans c17))], rfl⟩)
set_option maxHeartbeats 4000000 in
set_option maxRecDepth 100000 in
theorem c_X8_put (w : Wd) (v : Vm2) {n : Nat} {x : Int32} (hn : n < 8) : CU w yX8_put cX8_put 4 (rm 0 0) [.ref (wN w + 178), .int (nI n), .int x] v (fun v' => v' = upR v 183 (putF (v 183) n x)) := by
  refine CU.of (by decide) (Nat.le_of_ble_eq_true rfl) ?_
  have lp : ∀ (m : Nat) (k : Nat) (o : Nat → Int32), (k < 8) → (putF o k x = putF (v 183) n x) → k < m → J w yX8_put cX8_put 4 none (rm 0 0) XT (ZJ w 185 0 0 (PU w (fun v' => v' = upR v 183 (putF (v 183) n x)))) 2 [(0, .ref (wN w + 178)), (1, .int (nI n)), (2, .int x), (3, .int (nI k))] [] 185 (hv w (upR v 183 o)) 0 0 := by
    intro m
    induction m with
    | zero =>
      intro k o hi0 hi1 hm
      exact absurd hm (by omega)
    | succ m ih =>
      intro k o hi0 hi1 hm
      rcases Nat.eq_zero_or_pos k with hk0 | hk0
      · subst hk0
        refine J.iload_n 2 dX8_put_2 rfl rfl ?_
        refine V.if_le 3 38 dX8_put_3 (by decide) (by omega) (fun c3 => ?_) (fun c3 => absurd c3 (Nat.not_lt.mpr (Nat.le_refl 0)))
        refine J.aload_n 38 dX8_put_38 rfl rfl ?_
        refine V.getR 39 dX8_put_39 fl_RX8_26 r_178_9 ?_
        refine J.iload_n 42 dX8_put_42 rfl rfl ?_
        refine J.iload_n 43 dX8_put_43 rfl rfl ?_
        refine V.iast 44 dX8_put_44 a_183 (by omega) ?_
        exact V.vret 45 dX8_put_45 (by rw [up2_upR, ← hi1]; rfl)
      · obtain ⟨k, rfl⟩ : ∃ k', k = k' + 1 := ⟨k - 1, by omega⟩
        refine J.iload_n 2 dX8_put_2 rfl rfl ?_
        refine V.if_le 3 38 dX8_put_3 (by decide) (by omega) (fun c3 => absurd c3 (by omega)) (fun c3 => ?_)
        refine J.aload_n 6 dX8_put_6 rfl rfl ?_
        refine V.getR 7 dX8_put_7 fl_RX8_26 r_178_9 ?_
        refine J.iload_n 10 dX8_put_10 rfl rfl ?_
        refine J.iconst 11 (nI 1) dX8_put_11 (by decide +kernel) ?_
        refine V.isub 12 dX8_put_12 (by omega) ?_
        refine V.iald 13 dX8_put_13 a_183 (by omega) ?_
        refine J.top (b := o k) (by rw [upR_self]; rfl) ?_
        refine J.iload_n 14 dX8_put_14 rfl rfl ?_
        refine J.icmp_le 15 38 dX8_put_15 (by decide) (fun c15 => ?_) (fun c15 => ?_)
        · refine J.aload_n 38 dX8_put_38 rfl rfl ?_
          refine V.getR 39 dX8_put_39 fl_RX8_26 r_178_9 ?_
          refine J.iload_n 42 dX8_put_42 rfl rfl ?_
          refine J.iload_n 43 dX8_put_43 rfl rfl ?_
          refine V.iast 44 dX8_put_44 a_183 (by omega) ?_
          exact V.vret 45 dX8_put_45 (by rw [up2_upR, ← hi1]; conv => rhs; unfold putF; rw [if_neg (Int32.not_lt.mpr c15)])
        · refine J.aload_n 18 dX8_put_18 rfl rfl ?_
          refine V.getR 19 dX8_put_19 fl_RX8_26 r_178_9 ?_
          refine J.iload_n 22 dX8_put_22 rfl rfl ?_
          refine J.aload_n 23 dX8_put_23 rfl rfl ?_
          refine V.getR 24 dX8_put_24 fl_RX8_26 r_178_9 ?_
          refine J.iload_n 27 dX8_put_27 rfl rfl ?_
          refine J.iconst 28 (nI 1) dX8_put_28 (by decide +kernel) ?_
          refine V.isub 29 dX8_put_29 (by omega) ?_
          refine V.iald 30 dX8_put_30 a_183 (by omega) ?_
          refine J.top (b := o k) (by rw [upR_self]; rfl) ?_
          refine V.iast 31 dX8_put_31 a_183 (by omega) ?_
          refine J.iinc 32 dX8_put_32 (nI k) rfl (pk_m1 k) (by decide) ?_
          refine J.goto 35 2 dX8_put_35 (by decide) ?_
          refine V.heapv (up2_upR _ _ _ _ _) ?_
          exact ih k _ (by omega) (by rw [← hi1]; conv => rhs; unfold putF; rw [if_pos (Int32.not_le.mp c15)]) (by omega)
  refine J.iload_n 0 dX8_put_0 rfl rfl ?_
  refine J.istore_n 1 dX8_put_1 rfl (by decide) ?_
  refine V.heapv (upR_id v 183) ?_
  exact lp (n + 1) n _ hn rfl (by omega)
set_option maxHeartbeats 4000000 in
set_option maxRecDepth 100000 in
theorem c_X8_allStruck (w : Wd) (v : Vm2) {x n f : Nat} (hx : x + 192 ≤ 3840) (hf : ro v x 1 = nI f) (hf3 : f < 8) (hn : n < 100) : CP w yX8_allStruck cX8_allStruck 3 (some .boolean) (rm 0 0) [.ref (wN w + 178), .int (nI x), .int (nI n)] v (bI (n ≤ 2 * f)) := by
  refine CI.of (by decide) (Nat.le_of_ble_eq_true rfl) ?_
  refine J.iconst 0 (nI 2) dX8_allStruck_0 (by decide +kernel) ?_
  refine J.aload_n 1 dX8_allStruck_1 rfl rfl ?_
  refine V.getR 2 dX8_allStruck_2 fl_RX8_7 r_178_0 ?_
  refine J.iload_n 5 dX8_allStruck_5 rfl rfl ?_
  refine J.iconst 6 (nI 1) dX8_allStruck_6 (by decide +kernel) ?_
  refine V.iadd 7 dX8_allStruck_7 ?_
  refine V.iald 8 dX8_allStruck_8 a_179 (by omega) ?_
  refine J.top hf ?_
  refine V.imul 9 dX8_allStruck_9 ?_
  refine J.iload_n 10 dX8_allStruck_10 rfl rfl ?_
  refine V.icmp_lt 11 18 dX8_allStruck_11 (by decide) (by omega) (by omega) (fun c11 => ?_) (fun c11 => ?_)
  · refine J.iconst 18 (nI 0) dX8_allStruck_18 (by decide +kernel) ?_
    exact V.zret 19 dX8_allStruck_19 (Or.inl rfl) (⟨bI_f (Nat.not_le.mpr c11), rfl⟩)
  · refine J.iconst 14 (nI 1) dX8_allStruck_14 (by decide +kernel) ?_
    refine J.goto 15 19 dX8_allStruck_15 (by decide) ?_
    exact V.zret 19 dX8_allStruck_19 (Or.inr rfl) (⟨bI_t c11, rfl⟩)
set_option maxHeartbeats 4000000 in
set_option maxRecDepth 100000 in
theorem c_X8_middle (w : Wd) (v : Vm2) {x n f : Nat} (hx : x + 192 ≤ 3840) (hf : ro v x 1 = nI f) (hfn : f < n) (hn : n ≤ 8) : CP w yX8_middle cX8_middle 4 (some .int) (rm 0 0) [.ref (wN w + 178), .int (nI x), .int (nI n)] v (fl2 (v 183 f + v 183 (n - 1 - f))) := by
  refine CI.of (by decide) (Nat.le_of_ble_eq_true rfl) ?_
  refine J.aload_n 0 dX8_middle_0 rfl rfl ?_
  refine V.getR 1 dX8_middle_1 fl_RX8_26 r_178_9 ?_
  refine J.aload_n 4 dX8_middle_4 rfl rfl ?_
  refine V.getR 5 dX8_middle_5 fl_RX8_7 r_178_0 ?_
  refine J.iload_n 8 dX8_middle_8 rfl rfl ?_
  refine J.iconst 9 (nI 1) dX8_middle_9 (by decide +kernel) ?_
  refine V.iadd 10 dX8_middle_10 ?_
  refine V.iald 11 dX8_middle_11 a_179 (by omega) ?_
  refine J.top hf ?_
  refine V.iald 12 dX8_middle_12 a_183 (by omega) ?_
  refine J.aload_n 13 dX8_middle_13 rfl rfl ?_
  refine V.getR 14 dX8_middle_14 fl_RX8_26 r_178_9 ?_
  refine J.iload_n 17 dX8_middle_17 rfl rfl ?_
  refine J.iconst 18 (nI 1) dX8_middle_18 (by decide +kernel) ?_
  refine V.isub 19 dX8_middle_19 (by omega) ?_
  refine J.aload_n 20 dX8_middle_20 rfl rfl ?_
  refine V.getR 21 dX8_middle_21 fl_RX8_7 r_178_0 ?_
  refine J.iload_n 24 dX8_middle_24 rfl rfl ?_
  refine J.iconst 25 (nI 1) dX8_middle_25 (by decide +kernel) ?_
  refine V.iadd 26 dX8_middle_26 ?_
  refine V.iald 27 dX8_middle_27 a_179 (by omega) ?_
  refine J.top hf ?_
  refine V.isub 28 dX8_middle_28 (by omega) ?_
  refine V.iald 29 dX8_middle_29 a_183 (by omega) ?_
  refine J.iadd 30 dX8_middle_30 ?_
  refine J.istore_n 31 dX8_middle_31 rfl (by decide) ?_
  refine J.iload_n 32 dX8_middle_32 rfl rfl ?_
  refine J.if_lt 33 42 dX8_middle_33 (by decide) (fun c33 => ?_) (fun c33 => ?_)
  · refine J.iconst 42 (nI 1) dX8_middle_42 (by decide +kernel) ?_
    refine J.iload_n 43 dX8_middle_43 rfl rfl ?_
    refine J.isub 44 dX8_middle_44 ?_
    refine J.iconst 45 (nI 2) dX8_middle_45 (by decide +kernel) ?_
    refine J.idiv 46 dX8_middle_46 (by decide) ?_
    refine J.ineg 47 dX8_middle_47 ?_
    exact V.iret 48 dX8_middle_48 (⟨by unfold fl2; first | rw [if_pos c33] | rw [if_neg c33], rfl⟩)
  · refine J.iload_n 36 dX8_middle_36 rfl rfl ?_
    refine J.iconst 37 (nI 2) dX8_middle_37 (by decide +kernel) ?_
    refine J.idiv 38 dX8_middle_38 (by decide) ?_
    refine J.goto 39 48 dX8_middle_39 (by decide) ?_
    exact V.iret 48 dX8_middle_48 (⟨by unfold fl2; first | rw [if_pos c33] | rw [if_neg c33], rfl⟩)
set_option maxHeartbeats 4000000 in
set_option maxRecDepth 100000 in
theorem c_X8_middleOf (w : Wd) (v : Vm2) {x n f i : Nat} (hx : x + 192 ≤ 3840) (hn0 : v 179 x = nI n) (hf : ro v x 1 = nI f) (hn : n ≤ 8) (hf3 : f < 8) (hi : i < n) : CI w yX8_middleOf cX8_middleOf 4 (some .int) (rm 2 46) [.ref (wN w + 178), .int (nI x), .int (nI i)] v (fun r v' => r = mdF (ro v x) n f i ∧ ∃ o, v' = upR v 183 o) := by
  refine CI.of (by decide) (Nat.le_of_ble_eq_true rfl) ?_
  refine J.aload_n 0 dX8_middleOf_0 rfl rfl ?_
  refine J.iload_n 1 dX8_middleOf_1 rfl rfl ?_
  refine J.aload_n 2 dX8_middleOf_2 rfl rfl ?_
  refine V.getR 3 dX8_middleOf_3 fl_RX8_7 r_178_0 ?_
  refine J.iload_n 6 dX8_middleOf_6 rfl rfl ?_
  refine V.iald 7 dX8_middleOf_7 a_179 (by omega) ?_
  refine J.top hn0 ?_
  refine V.callvP 8 dX8_middleOf_8 ml_RX8_100 mi_yX8_allStruck mv_yX8_allStruck (c_X8_allStruck w _ (by omega) hf (by omega) (by omega)) rfl rfl (Nat.le_of_ble_eq_true rfl) (by decide) (by decide) o_178 rfl rfl ?_
  refine V.if_eqB 11 21 dX8_middleOf_11 (by decide) (fun c11 => ?_) (fun c11 => ?_)
  · have lp : ∀ (m : Nat) (j : Nat) (o : Nat → Int32), (j ≤ n) → (∀ k, k < j → o k = ordF (fun j => heF (ro v x) j i) j k) → n - j < m → J w yX8_middleOf cX8_middleOf 4 (some .int) (rm 2 46) XT (ZJ w 185 0 0 (PI w (fun r v' => r = mdF (ro v x) n f i ∧ ∃ o, v' = upR v 183 o))) 23 [(0, .ref (wN w + 178)), (1, .int (nI x)), (2, .int (nI i)), (3, .int (nI j))] [] 185 (hv w (upR v 183 o)) 0 0 := by
      intro m
      induction m with
      | zero =>
        intro j o hi0 hi1 hm
        exact absurd hm (by omega)
      | succ m ih =>
        intro j o hi0 hi1 hm
        refine J.iload_n 23 dX8_middleOf_23 rfl rfl ?_
        refine J.aload_n 24 dX8_middleOf_24 rfl rfl ?_
        refine V.getR 25 dX8_middleOf_25 fl_RX8_7 r_178_0 ?_
        refine J.iload_n 28 dX8_middleOf_28 rfl rfl ?_
        refine V.iald 29 dX8_middleOf_29 a_179 (by omega) ?_
        refine J.top (b := nI n) (by rw [upR_ne _ _ (by decide)]; exact hn0) ?_
        refine V.icmp_ge 30 51 dX8_middleOf_30 (by decide) (by omega) (by omega) (fun c30 => ?_) (fun c30 => ?_)
        · refine J.aload_n 51 dX8_middleOf_51 rfl rfl ?_
          refine J.iload_n 52 dX8_middleOf_52 rfl rfl ?_
          refine J.aload_n 53 dX8_middleOf_53 rfl rfl ?_
          refine V.getR 54 dX8_middleOf_54 fl_RX8_7 r_178_0 ?_
          refine J.iload_n 57 dX8_middleOf_57 rfl rfl ?_
          refine V.iald 58 dX8_middleOf_58 a_179 (by omega) ?_
          refine J.top (b := nI n) (by rw [upR_ne _ _ (by decide)]; exact hn0) ?_
          refine V.callvP 59 dX8_middleOf_59 ml_RX8_111 mi_yX8_middle mv_yX8_middle (c_X8_middle w _ (by omega) (by rw [ro_upR _ _ _ _ (by decide)]; exact hf) (by omega) (by omega)) rfl rfl (Nat.le_of_ble_eq_true rfl) (by decide) (by decide) o_178 rfl rfl ?_
          obtain rfl : j = n := by omega
          exact V.iret 62 dX8_middleOf_62 (⟨by rw [upR_self]; unfold mdF; rw [if_neg c11, hi1 _ (by omega), hi1 _ (by omega)], _, rfl⟩)
        · refine J.aload_n 33 dX8_middleOf_33 rfl rfl ?_
          refine J.iload_n 34 dX8_middleOf_34 rfl rfl ?_
          refine J.aload_n 35 dX8_middleOf_35 rfl rfl ?_
          refine J.iload_n 36 dX8_middleOf_36 rfl rfl ?_
          refine J.iload_n 37 dX8_middleOf_37 rfl rfl ?_
          refine J.iload_n 38 dX8_middleOf_38 rfl rfl ?_
          refine V.callvP 39 dX8_middleOf_39 ml_RX8_104 mi_yX8_heardOf mv_yX8_heardOf (c_X8_heardOf w _ (by omega) (by omega) (by omega)) rfl rfl (Nat.le_of_ble_eq_true rfl) (by decide) (by decide) o_178 rfl rfl ?_
          refine J.top (b := heF (ro v x) j i) (by rw [ro_upR _ _ _ _ (by decide)]) ?_
          refine V.callvU 42 dX8_middleOf_42 ml_RX8_108 mi_yX8_put mv_yX8_put (c_X8_put w _ (by omega)) rfl rfl (Nat.le_of_ble_eq_true rfl) (by decide) (by decide) o_178 rfl rfl (fun v42 h42 => ?_)
          subst h42
          refine V.iinc 45 dX8_middleOf_45 rfl (by decide) ?_
          refine J.goto 48 23 dX8_middleOf_48 (by decide) ?_
          refine V.heapv (upR_upR _ _ _ _) ?_
          exact ih (j + 1) _ (by omega) (fun k hk => by rw [upR_self]; exact putF_congr _ j _ _ hi1 k hk) (by omega)
    refine J.iconst 21 (nI 0) dX8_middleOf_21 (by decide +kernel) ?_
    refine J.istore_n 22 dX8_middleOf_22 rfl (by decide) ?_
    refine V.heapv (upR_id v 183) ?_
    exact lp (n + 1) 0 _ (by omega) (fun k hk => absurd hk (by omega)) (by omega)
  · refine J.aload_n 14 dX8_middleOf_14 rfl rfl ?_
    refine J.iload_n 15 dX8_middleOf_15 rfl rfl ?_
    refine J.iload_n 16 dX8_middleOf_16 rfl rfl ?_
    refine V.callvP 17 dX8_middleOf_17 ml_RX8_97 mi_yX8_aim mv_yX8_aim (c_X8_aim w _ (by omega)) rfl rfl (Nat.le_of_ble_eq_true rfl) (by decide) (by decide) o_178 rfl rfl ?_
    exact V.iret 20 dX8_middleOf_20 (⟨by unfold mdF; rw [if_pos c11], _, upR_id v 183⟩)
end
section
/-! ===== part 12: the reference: apart, round, tick, sets ===== -/
theorem ro_zero (v : Vm2) : ro v 0 = v 179 := by
  funext k
  simp [ro]
def clk (n : Nat) (x : Int32) : Prop := 0 ≤ x.toInt ∧ x.toInt < (n : Int)
theorem clk_dec (n : Nat) (x : Int32) : (clk n x) = (0 ≤ x.toInt ∧ x.toInt < (n : Int)) := rfl
theorem clk_nI {n : Nat} {x : Int32} (hn : n < 2 ^ 30) : clk n x ↔ ∃ c, c < n ∧ x = nI c := by
  constructor
  · intro h
    obtain ⟨j, hj, e⟩ := nI_of (x := x) (fun q => by
      have := Int32.lt_iff_toInt_lt.mp q
      have h0 : (0 : Int32).toInt = 0 := by decide
      have := h.1
      omega)
    refine ⟨j, ?_, e⟩
    have h1 := nI_toInt hj
    rw [← e] at h1
    have := h.2
    omega
  · rintro ⟨c, hc, rfl⟩
    have h1 := nI_toInt (n := c) (by omega)
    exact ⟨by omega, by omega⟩
theorem inF_clk {n : Nat} {x : Int32} (hn : n < 2 ^ 30) : inF x 0 (nI n - nI 1) ↔ (0 ≤ x.toInt ∧ x.toInt < (n : Int)) := by
  have h0 : (0 : Int32).toInt = 0 := by decide
  have h1 := pk_sub_toInt (a := n) (b := 1) hn (by decide)
  unfold inF
  rw [Int32.le_iff_toInt_le, Int32.le_iff_toInt_le, h0, h1]
  omega
def stF9 (f : Nat → Int32) (c : Nat) : Int32 := if f (19 + c) ≤ f 2 then (if -(f 2) ≤ f (19 + c) then f (19 + c) else -(f 2)) else f 2
def tkC (f : Nat → Int32) (c : Nat) : Nat → Int32 := if f (35 + c) = 0 then upd (upd f (3 + c) (f (3 + c) + (f (11 + c) + stF9 f c))) (19 + c) (upd f (3 + c) (f (3 + c) + (f (11 + c) + stF9 f c)) (19 + c) - stF9 f c) else f
def tkA (f : Nat → Int32) : Nat → (Nat → Int32)
  | 0 => f
  | c + 1 => tkC (tkA f c) c
def rgC (f : Nat → Int32) (a : Nat) : Nat → Int32 := upd f (184 + a) (if f (35 + (f (172 + a)).toNatClampNeg) = 0 ∧ f (178 + a) ≤ f (3 + (f (172 + a)).toNatClampNeg) then nI 1 else f (184 + a))
def rgA (f : Nat → Int32) : Nat → (Nat → Int32)
  | 0 => f
  | a + 1 => rgC (rgA f a) a
def tkF (f : Nat → Int32) (n m : Nat) : Nat → Int32 := rgA (upd (tkA f n) 190 (tkA f n 190 + nI 1)) m
theorem tkC_at (f : Nat → Int32) (c k : Nat) (h : k ≠ 3 + c) (h2 : k ≠ 19 + c) : tkC f c k = f k := by
  unfold tkC
  split
  · simp [upd, h, h2]
  · rfl
theorem tkA_at (f : Nat → Int32) : ∀ (n k : Nat), (k < 3 ∨ 3 + n ≤ k) → (k < 19 ∨ 19 + n ≤ k) → tkA f n k = f k
  | 0, _, _, _ => rfl
  | n + 1, k, h1, h2 => by
    unfold tkA
    rw [tkC_at _ _ _ (by omega) (by omega)]
    exact tkA_at f n k (by omega) (by omega)
theorem rgA_at (f : Nat → Int32) : ∀ (m k : Nat), (k < 184 ∨ 184 + m ≤ k) → rgA f m k = f k
  | 0, _, _ => rfl
  | m + 1, k, h => by
    unfold rgA rgC
    simp only [upd, show ¬ k = 184 + m by omega, if_false]
    exact rgA_at f m k (by omega)
def cntL (ρ : Nat → Int32) : Nat → Nat
  | 0 => 0
  | c + 1 => cntL ρ c + (if liF ρ c then 1 else 0)
def cntT (ρ : Nat → Int32) : Nat → Nat
  | 0 => 0
  | c + 1 => cntT ρ c + (if trF ρ c then 1 else 0)
def cntS (ρ : Nat → Int32) : Nat → Nat
  | 0 => 0
  | c + 1 => cntS ρ c + (if ρ (35 + c) = 0 then 1 else 0)
theorem cntL_le (ρ : Nat → Int32) : ∀ n, cntL ρ n ≤ n
  | 0 => Nat.le_refl 0
  | n + 1 => by unfold cntL; have := cntL_le ρ n; split <;> omega
theorem cntT_le (ρ : Nat → Int32) : ∀ n, cntT ρ n ≤ n
  | 0 => Nat.le_refl 0
  | n + 1 => by unfold cntT; have := cntT_le ρ n; split <;> omega
theorem cntS_le (ρ : Nat → Int32) : ∀ n, cntS ρ n ≤ n
  | 0 => Nat.le_refl 0
  | n + 1 => by unfold cntS; have := cntS_le ρ n; split <;> omega

abbrev clkB (n : Nat) (x : Int32) : Prop := 0 ≤ x.toInt ∧ x.toInt < (n : Int)
theorem clkB_nI {n : Nat} {x : Int32} (hn : n < 2 ^ 30) : clkB n x ↔ ∃ c, c < n ∧ x = nI c := clk_nI hn
theorem bI_congr {p q : Prop} [Decidable p] [Decidable q] (h : p ↔ q) : bI p = bI q := by
  unfold bI
  by_cases hp : p
  · rw [if_pos hp, if_pos (h.mp hp)]
  · rw [if_neg hp, if_neg (fun x => hp (h.mpr x))]
theorem k_isClock (w : Wd) (v : Vm2) (c : Int32) {n : Nat} (hn0 : v 179 0 = nI n) (hn : n ≤ 8) : CP w yX8_isClock cX8_isClock 2 (some .boolean) (rm 1 22) [.ref (wN w + 178), .int c] v (bI (clkB n c)) := by
  have h := c_X8_isClock w v c
  rw [hn0] at h
  have e : bI (clkB n c) = bI (inF c 0 (nI n - 1)) := bI_congr (p := clkB n c) (q := inF c 0 (nI n - 1)) (inF_clk (x := c) (by omega : n < 2 ^ 30)).symm
  rw [e]
  exact h
set_option maxHeartbeats 4000000 in
set_option maxRecDepth 100000 in
theorem c_X8_apart (w : Wd) (v : Vm2) {x n : Nat} (hx : x + 192 ≤ 3840) (hn0 : v 179 x = nI n) (hn : n ≤ 8) : CP w yX8_apart cX8_apart 5 (some .int) (rm 1 22) [.ref (wN w + 178), .int (nI x)] v (apF (ro v x) n) := by
  refine CI.of (by decide) (Nat.le_of_ble_eq_true rfl) ?_
  have lp : ∀ (m : Nat) (c : Nat), (c ≤ n) → n - c < m → J w yX8_apart cX8_apart 5 (some .int) (rm 1 22) XT (ZJ w 185 0 0 (PI w (fun r v' => r = apF (ro v x) n ∧ v' = v))) 7 [(0, .ref (wN w + 178)), (1, .int (nI x)), (2, .int (oI (loI (ro v x) c))), (3, .int (oI (hiI (ro v x) c))), (4, .int (nI c))] [] 185 (hv w (v)) 0 0 := by
    intro m
    induction m with
    | zero =>
      intro c hi0 hm
      exact absurd hm (by omega)
    | succ m ih =>
      intro c hi0 hm
      rcases lohi (ro v x) c with ⟨h1, h2⟩ | ⟨l, h, h1, h2⟩
      · rw [h1, h2]
        refine J.iload 7 dX8_apart_7 rfl ?_
        refine J.aload_n 9 dX8_apart_9 rfl rfl ?_
        refine V.getR 10 dX8_apart_10 fl_RX8_7 r_178_0 ?_
        refine J.iload_n 13 dX8_apart_13 rfl rfl ?_
        refine V.iald 14 dX8_apart_14 a_179 (by omega) ?_
        refine J.top hn0 ?_
        refine V.icmp_ge 15 90 dX8_apart_15 (by decide) (by omega) (by omega) (fun c15 => ?_) (fun c15 => ?_)
        · refine J.iload_n 90 dX8_apart_90 rfl rfl ?_
          refine J.iconst 91 (-1) dX8_apart_91 (by decide +kernel) ?_
          refine J.icmp_ne 92 99 dX8_apart_92 (by decide) (fun q => absurd q (by decide)) (fun _ => ?_)
          refine J.iconst 95 (-1) dX8_apart_95 (by decide +kernel) ?_
          refine J.goto 96 112 dX8_apart_96 (by decide) ?_
          obtain rfl : c = n := by omega
          exact V.iret 112 dX8_apart_112 (⟨by unfold apF; rw [h1, h2], rfl⟩)
        · refine J.aload_n 18 dX8_apart_18 rfl rfl ?_
          refine J.iload_n 19 dX8_apart_19 rfl rfl ?_
          refine J.iload 20 dX8_apart_20 rfl ?_
          refine V.callvP 22 dX8_apart_22 ml_RX8_114 mi_yX8_isTrue mv_yX8_isTrue (c_X8_isTrue w _ (by omega)) rfl rfl (Nat.le_of_ble_eq_true rfl) (by decide) (by decide) o_178 rfl rfl ?_
          refine V.if_eqB 25 84 dX8_apart_25 (by decide) (fun c25 => ?_) (fun c25 => ?_)
          · have e2 : loI (ro v x) (c + 1) = none := by unfold loI; rw [if_neg c25, h1]
            have e3 : hiI (ro v x) (c + 1) = none := by unfold hiI; rw [if_neg c25, h2]
            refine V.iinc 84 dX8_apart_84 rfl (by decide) ?_
            refine J.goto 87 7 dX8_apart_87 (by decide) ?_
            have q := ih (c + 1) (by omega) (by omega)
            rw [e2, e3] at q
            exact q
          · have e2 : loI (ro v x) (c + 1) = some c := by unfold loI; rw [if_pos c25, h1]
            have e3 : hiI (ro v x) (c + 1) = some c := by unfold hiI; rw [if_pos c25, h2]
            refine J.iload_n 28 dX8_apart_28 rfl rfl ?_
            refine J.iconst 29 (-1) dX8_apart_29 (by decide +kernel) ?_
            refine J.icmp_eq 30 49 dX8_apart_30 (by decide) (fun _ => ?_) (fun q => absurd q (by decide))
            refine J.iload 49 dX8_apart_49 rfl ?_
            refine J.goto 51 55 dX8_apart_51 (by decide) ?_
            refine J.istore_n 55 dX8_apart_55 rfl (by decide) ?_
            refine J.iload_n 56 dX8_apart_56 rfl rfl ?_
            refine J.iconst 57 (-1) dX8_apart_57 (by decide +kernel) ?_
            refine J.icmp_eq 58 77 dX8_apart_58 (by decide) (fun _ => ?_) (fun q => absurd q (by decide))
            refine J.iload 77 dX8_apart_77 rfl ?_
            refine J.goto 79 83 dX8_apart_79 (by decide) ?_
            refine J.istore_n 83 dX8_apart_83 rfl (by decide) ?_
            refine V.iinc 84 dX8_apart_84 rfl (by decide) ?_
            refine J.goto 87 7 dX8_apart_87 (by decide) ?_
            have q := ih (c + 1) (by omega) (by omega)
            rw [e2, e3] at q
            exact q
      · have hl := loI_lt _ _ _ h1
        have hh := hiI_lt _ _ _ h2
        rw [h1, h2]
        refine J.iload 7 dX8_apart_7 rfl ?_
        refine J.aload_n 9 dX8_apart_9 rfl rfl ?_
        refine V.getR 10 dX8_apart_10 fl_RX8_7 r_178_0 ?_
        refine J.iload_n 13 dX8_apart_13 rfl rfl ?_
        refine V.iald 14 dX8_apart_14 a_179 (by omega) ?_
        refine J.top hn0 ?_
        refine V.icmp_ge 15 90 dX8_apart_15 (by decide) (by omega) (by omega) (fun c15 => ?_) (fun c15 => ?_)
        · refine J.iload_n 90 dX8_apart_90 rfl rfl ?_
          refine J.iconst 91 (-1) dX8_apart_91 (by decide +kernel) ?_
          refine J.icmp_ne 92 99 dX8_apart_92 (by decide) (fun _ => ?_) (fun q => absurd q (nI_m1 (by omega)))
          refine J.aload_n 99 dX8_apart_99 rfl rfl ?_
          refine J.iload_n 100 dX8_apart_100 rfl rfl ?_
          refine J.iload_n 101 dX8_apart_101 rfl rfl ?_
          refine V.callvP 102 dX8_apart_102 ml_RX8_97 mi_yX8_aim mv_yX8_aim (c_X8_aim w _ (by omega)) rfl rfl (Nat.le_of_ble_eq_true rfl) (by decide) (by decide) o_178 rfl rfl ?_
          refine J.aload_n 105 dX8_apart_105 rfl rfl ?_
          refine J.iload_n 106 dX8_apart_106 rfl rfl ?_
          refine J.iload_n 107 dX8_apart_107 rfl rfl ?_
          refine V.callvP 108 dX8_apart_108 ml_RX8_97 mi_yX8_aim mv_yX8_aim (c_X8_aim w _ (by omega)) rfl rfl (Nat.le_of_ble_eq_true rfl) (by decide) (by decide) o_178 rfl rfl ?_
          refine J.isub 111 dX8_apart_111 ?_
          obtain rfl : c = n := by omega
          exact V.iret 112 dX8_apart_112 (⟨by unfold apF; rw [h1, h2], rfl⟩)
        · refine J.aload_n 18 dX8_apart_18 rfl rfl ?_
          refine J.iload_n 19 dX8_apart_19 rfl rfl ?_
          refine J.iload 20 dX8_apart_20 rfl ?_
          refine V.callvP 22 dX8_apart_22 ml_RX8_114 mi_yX8_isTrue mv_yX8_isTrue (c_X8_isTrue w _ (by omega)) rfl rfl (Nat.le_of_ble_eq_true rfl) (by decide) (by decide) o_178 rfl rfl ?_
          refine V.if_eqB 25 84 dX8_apart_25 (by decide) (fun c25 => ?_) (fun c25 => ?_)
          · have e2 : loI (ro v x) (c + 1) = some l := by unfold loI; rw [if_neg c25, h1]
            have e3 : hiI (ro v x) (c + 1) = some h := by unfold hiI; rw [if_neg c25, h2]
            refine V.iinc 84 dX8_apart_84 rfl (by decide) ?_
            refine J.goto 87 7 dX8_apart_87 (by decide) ?_
            have q := ih (c + 1) (by omega) (by omega)
            rw [e2, e3] at q
            exact q
          · refine J.iload_n 28 dX8_apart_28 rfl rfl ?_
            refine J.iconst 29 (-1) dX8_apart_29 (by decide +kernel) ?_
            refine J.icmp_eq 30 49 dX8_apart_30 (by decide) (fun q => absurd q (nI_m1 (by omega))) (fun _ => ?_)
            refine J.aload_n 33 dX8_apart_33 rfl rfl ?_
            refine J.iload_n 34 dX8_apart_34 rfl rfl ?_
            refine J.iload 35 dX8_apart_35 rfl ?_
            refine V.callvP 37 dX8_apart_37 ml_RX8_97 mi_yX8_aim mv_yX8_aim (c_X8_aim w _ (by omega)) rfl rfl (Nat.le_of_ble_eq_true rfl) (by decide) (by decide) o_178 rfl rfl ?_
            refine J.aload_n 40 dX8_apart_40 rfl rfl ?_
            refine J.iload_n 41 dX8_apart_41 rfl rfl ?_
            refine J.iload_n 42 dX8_apart_42 rfl rfl ?_
            refine V.callvP 43 dX8_apart_43 ml_RX8_97 mi_yX8_aim mv_yX8_aim (c_X8_aim w _ (by omega)) rfl rfl (Nat.le_of_ble_eq_true rfl) (by decide) (by decide) o_178 rfl rfl ?_
            refine J.icmp_ge 46 54 dX8_apart_46 (by decide) (fun c46 => ?_) (fun c46 => ?_)
            · have e2 : loI (ro v x) (c + 1) = some l := by unfold loI; rw [if_pos c25, h1]; exact if_neg (Int32.not_lt.mpr c46)
              refine J.iload_n 54 dX8_apart_54 rfl rfl ?_
              refine J.istore_n 55 dX8_apart_55 rfl (by decide) ?_
              refine J.iload_n 56 dX8_apart_56 rfl rfl ?_
              refine J.iconst 57 (-1) dX8_apart_57 (by decide +kernel) ?_
              refine J.icmp_eq 58 77 dX8_apart_58 (by decide) (fun q => absurd q (nI_m1 (by omega))) (fun _ => ?_)
              refine J.aload_n 61 dX8_apart_61 rfl rfl ?_
              refine J.iload_n 62 dX8_apart_62 rfl rfl ?_
              refine J.iload 63 dX8_apart_63 rfl ?_
              refine V.callvP 65 dX8_apart_65 ml_RX8_97 mi_yX8_aim mv_yX8_aim (c_X8_aim w _ (by omega)) rfl rfl (Nat.le_of_ble_eq_true rfl) (by decide) (by decide) o_178 rfl rfl ?_
              refine J.aload_n 68 dX8_apart_68 rfl rfl ?_
              refine J.iload_n 69 dX8_apart_69 rfl rfl ?_
              refine J.iload_n 70 dX8_apart_70 rfl rfl ?_
              refine V.callvP 71 dX8_apart_71 ml_RX8_97 mi_yX8_aim mv_yX8_aim (c_X8_aim w _ (by omega)) rfl rfl (Nat.le_of_ble_eq_true rfl) (by decide) (by decide) o_178 rfl rfl ?_
              refine J.icmp_le 74 82 dX8_apart_74 (by decide) (fun c74 => ?_) (fun c74 => ?_)
              · have e3 : hiI (ro v x) (c + 1) = some h := by unfold hiI; rw [if_pos c25, h2]; exact if_neg (Int32.not_lt.mpr c74)
                refine J.iload_n 82 dX8_apart_82 rfl rfl ?_
                refine J.istore_n 83 dX8_apart_83 rfl (by decide) ?_
                refine V.iinc 84 dX8_apart_84 rfl (by decide) ?_
                refine J.goto 87 7 dX8_apart_87 (by decide) ?_
                have q := ih (c + 1) (by omega) (by omega)
                rw [e2, e3] at q
                exact q
              · have e3 : hiI (ro v x) (c + 1) = some c := by unfold hiI; rw [if_pos c25, h2]; exact if_pos (Int32.not_le.mp c74)
                refine J.iload 77 dX8_apart_77 rfl ?_
                refine J.goto 79 83 dX8_apart_79 (by decide) ?_
                refine J.istore_n 83 dX8_apart_83 rfl (by decide) ?_
                refine V.iinc 84 dX8_apart_84 rfl (by decide) ?_
                refine J.goto 87 7 dX8_apart_87 (by decide) ?_
                have q := ih (c + 1) (by omega) (by omega)
                rw [e2, e3] at q
                exact q
            · have e2 : loI (ro v x) (c + 1) = some c := by unfold loI; rw [if_pos c25, h1]; exact if_pos (Int32.not_le.mp c46)
              refine J.iload 49 dX8_apart_49 rfl ?_
              refine J.goto 51 55 dX8_apart_51 (by decide) ?_
              refine J.istore_n 55 dX8_apart_55 rfl (by decide) ?_
              refine J.iload_n 56 dX8_apart_56 rfl rfl ?_
              refine J.iconst 57 (-1) dX8_apart_57 (by decide +kernel) ?_
              refine J.icmp_eq 58 77 dX8_apart_58 (by decide) (fun q => absurd q (nI_m1 (by omega))) (fun _ => ?_)
              refine J.aload_n 61 dX8_apart_61 rfl rfl ?_
              refine J.iload_n 62 dX8_apart_62 rfl rfl ?_
              refine J.iload 63 dX8_apart_63 rfl ?_
              refine V.callvP 65 dX8_apart_65 ml_RX8_97 mi_yX8_aim mv_yX8_aim (c_X8_aim w _ (by omega)) rfl rfl (Nat.le_of_ble_eq_true rfl) (by decide) (by decide) o_178 rfl rfl ?_
              refine J.aload_n 68 dX8_apart_68 rfl rfl ?_
              refine J.iload_n 69 dX8_apart_69 rfl rfl ?_
              refine J.iload_n 70 dX8_apart_70 rfl rfl ?_
              refine V.callvP 71 dX8_apart_71 ml_RX8_97 mi_yX8_aim mv_yX8_aim (c_X8_aim w _ (by omega)) rfl rfl (Nat.le_of_ble_eq_true rfl) (by decide) (by decide) o_178 rfl rfl ?_
              refine J.icmp_le 74 82 dX8_apart_74 (by decide) (fun c74 => ?_) (fun c74 => ?_)
              · have e3 : hiI (ro v x) (c + 1) = some h := by unfold hiI; rw [if_pos c25, h2]; exact if_neg (Int32.not_lt.mpr c74)
                refine J.iload_n 82 dX8_apart_82 rfl rfl ?_
                refine J.istore_n 83 dX8_apart_83 rfl (by decide) ?_
                refine V.iinc 84 dX8_apart_84 rfl (by decide) ?_
                refine J.goto 87 7 dX8_apart_87 (by decide) ?_
                have q := ih (c + 1) (by omega) (by omega)
                rw [e2, e3] at q
                exact q
              · have e3 : hiI (ro v x) (c + 1) = some c := by unfold hiI; rw [if_pos c25, h2]; exact if_pos (Int32.not_le.mp c74)
                refine J.iload 77 dX8_apart_77 rfl ?_
                refine J.goto 79 83 dX8_apart_79 (by decide) ?_
                refine J.istore_n 83 dX8_apart_83 rfl (by decide) ?_
                refine V.iinc 84 dX8_apart_84 rfl (by decide) ?_
                refine J.goto 87 7 dX8_apart_87 (by decide) ?_
                have q := ih (c + 1) (by omega) (by omega)
                rw [e2, e3] at q
                exact q
  refine J.iconst 0 (-1) dX8_apart_0 (by decide +kernel) ?_
  refine J.istore_n 1 dX8_apart_1 rfl (by decide) ?_
  refine J.iconst 2 (-1) dX8_apart_2 (by decide +kernel) ?_
  refine J.istore_n 3 dX8_apart_3 rfl (by decide) ?_
  refine J.iconst 4 (nI 0) dX8_apart_4 (by decide +kernel) ?_
  refine J.istore 5 dX8_apart_5 (by decide) ?_
  exact lp (n + 1) 0 (by omega) (by omega)
theorem g0_at (f : Nat → Int32) (n m k : Nat) (hn : n ≤ 8) (h1 : k ≠ 190) (h2 : k < 3 ∨ 27 ≤ k) (h3 : k < 184 ∨ 184 + m ≤ k) : rgA (upd (tkA f n) 190 (tkA f n 190 + nI 1)) m k = f k := by
  rw [rgA_at _ _ _ h3]
  simp only [upd, h1, if_false]
  exact tkA_at f n k (by omega) (by omega)
set_option maxHeartbeats 4000000 in
set_option maxRecDepth 100000 in
theorem c_X8_tickOne (w : Wd) (v : Vm2) {n ma : Nat} (hn0 : v 179 0 = nI n) (hn : n ≤ 8) (hm0 : v 179 171 = nI ma) (hma : ma ≤ 6) (hal : ∀ a, a < ma → ∃ cl, cl < 8 ∧ v 179 (172 + a) = nI cl) : CU w yX8_tickOne cX8_tickOne 3 (rm 0 0) [.ref (wN w + 178)] v (fun v' => v' = upR v 179 (tkF (v 179) n ma)) := by
  refine CU.of (by decide) (Nat.le_of_ble_eq_true rfl) ?_
  have lq : ∀ (m : Nat) (a : Nat), (a ≤ ma) → ma - a < m → J w yX8_tickOne cX8_tickOne 3 none (rm 0 0) XT (ZJ w 185 0 0 (PU w (fun v' => v' = upR v 179 (tkF (v 179) n ma)))) 145 [(0, .ref (wN w + 178)), (1, .int (nI a))] [] 185 (hv w (upR v 179 (rgA (upd (tkA (v 179) n) 190 (tkA (v 179) n 190 + nI 1)) a))) 0 0 := by
    intro m
    induction m with
    | zero =>
      intro a hi0 hm
      exact absurd hm (by omega)
    | succ m ih =>
      intro a hi0 hm
      refine J.iload_n 145 dX8_tickOne_145 rfl rfl ?_
      refine J.aload_n 146 dX8_tickOne_146 rfl rfl ?_
      refine V.getR 147 dX8_tickOne_147 fl_RX8_7 r_178_0 ?_
      refine J.sipush 150 (nI 171) dX8_tickOne_150 (by decide +kernel) ?_
      refine V.iald 153 dX8_tickOne_153 a_179 (by omega) ?_
      refine J.top (congrFun (upR_self _ _ _) _) ?_
      refine J.top ((g0_at (v 179) n a 171 hn (by omega) (by omega) (by omega)).trans hm0) ?_
      refine V.icmp_ge 154 248 dX8_tickOne_154 (by decide) (by omega) (by omega) (fun c154 => ?_) (fun c154 => ?_)
      · exact V.vret 248 dX8_tickOne_248 (by unfold tkF; rw [show a = ma by omega])
      · obtain ⟨cl, hcl8, hcl⟩ := hal a c154
        have ecl : (rgA (upd (tkA (v 179) n) 190 (tkA (v 179) n 190 + nI 1)) a (172 + a)).toNatClampNeg = cl := by rw [(g0_at (v 179) n a (172 + a) hn (by omega) (by omega) (by omega)).trans hcl]; exact nI_clamp (by omega)
        refine J.aload_n 157 dX8_tickOne_157 rfl rfl ?_
        refine V.getR 158 dX8_tickOne_158 fl_RX8_7 r_178_0 ?_
        refine J.bipush 161 (nI 35) dX8_tickOne_161 (by decide +kernel) ?_
        refine J.aload_n 163 dX8_tickOne_163 rfl rfl ?_
        refine V.getR 164 dX8_tickOne_164 fl_RX8_7 r_178_0 ?_
        refine J.sipush 167 (nI 172) dX8_tickOne_167 (by decide +kernel) ?_
        refine J.iload_n 170 dX8_tickOne_170 rfl rfl ?_
        refine V.iadd 171 dX8_tickOne_171 ?_
        refine V.iald 172 dX8_tickOne_172 a_179 (by omega) ?_
        refine J.top (congrFun (upR_self _ _ _) _) ?_
        refine J.top ((g0_at (v 179) n a (172 + a) hn (by omega) (by omega) (by omega)).trans hcl) ?_
        refine V.iadd 173 dX8_tickOne_173 ?_
        refine V.iald 174 dX8_tickOne_174 a_179 (by omega) ?_
        refine J.top (congrFun (upR_self _ _ _) _) ?_
        refine J.if_ne 175 212 dX8_tickOne_175 (by decide) (fun c175 => ?_) (fun c175 => ?_)
        · refine J.iconst 212 (nI 0) dX8_tickOne_212 (by decide +kernel) ?_
          refine J.istore_n 213 dX8_tickOne_213 rfl (by decide) ?_
          refine J.aload_n 214 dX8_tickOne_214 rfl rfl ?_
          refine V.getR 215 dX8_tickOne_215 fl_RX8_7 r_178_0 ?_
          refine J.sipush 218 (nI 184) dX8_tickOne_218 (by decide +kernel) ?_
          refine J.iload_n 221 dX8_tickOne_221 rfl rfl ?_
          refine V.iadd 222 dX8_tickOne_222 ?_
          refine J.iload_n 223 dX8_tickOne_223 rfl rfl ?_
          refine J.if_eq 224 231 dX8_tickOne_224 (by decide) (fun _ => ?_) (fun q => absurd q (by decide))
          refine J.aload_n 231 dX8_tickOne_231 rfl rfl ?_
          refine V.getR 232 dX8_tickOne_232 fl_RX8_7 r_178_0 ?_
          refine J.sipush 235 (nI 184) dX8_tickOne_235 (by decide +kernel) ?_
          refine J.iload_n 238 dX8_tickOne_238 rfl rfl ?_
          refine V.iadd 239 dX8_tickOne_239 ?_
          refine V.iald 240 dX8_tickOne_240 a_179 (by omega) ?_
          refine J.top (congrFun (upR_self _ _ _) _) ?_
          refine V.iast 241 dX8_tickOne_241 a_179 (by omega) ?_
          refine V.heapv (up2_upR _ _ _ _ _) ?_
          refine V.iinc 242 dX8_tickOne_242 rfl (by decide) ?_
          refine J.goto 245 145 dX8_tickOne_245 (by decide) ?_
          refine J.drop 2 ?_
          have q := ih (a + 1) (by omega) (by omega)
          have e1 : rgA (upd (tkA (v 179) n) 190 (tkA (v 179) n 190 + nI 1)) (a + 1) = rgC (rgA (upd (tkA (v 179) n) 190 (tkA (v 179) n 190 + nI 1)) a) a := rfl
          rw [e1] at q
          unfold rgC at q
          rw [ecl] at q
          first | (rw [if_pos ⟨c175, Int32.not_lt.mp c205⟩] at q; exact q) | (rw [if_neg (fun z => absurd c205 (Int32.not_lt.mpr z.2))] at q; exact q) | (rw [if_neg (fun z => c175 z.1)] at q; exact q)
        · refine J.aload_n 178 dX8_tickOne_178 rfl rfl ?_
          refine V.getR 179 dX8_tickOne_179 fl_RX8_7 r_178_0 ?_
          refine J.iconst 182 (nI 3) dX8_tickOne_182 (by decide +kernel) ?_
          refine J.aload_n 183 dX8_tickOne_183 rfl rfl ?_
          refine V.getR 184 dX8_tickOne_184 fl_RX8_7 r_178_0 ?_
          refine J.sipush 187 (nI 172) dX8_tickOne_187 (by decide +kernel) ?_
          refine J.iload_n 190 dX8_tickOne_190 rfl rfl ?_
          refine V.iadd 191 dX8_tickOne_191 ?_
          refine V.iald 192 dX8_tickOne_192 a_179 (by omega) ?_
          refine J.top (congrFun (upR_self _ _ _) _) ?_
          refine J.top ((g0_at (v 179) n a (172 + a) hn (by omega) (by omega) (by omega)).trans hcl) ?_
          refine V.iadd 193 dX8_tickOne_193 ?_
          refine V.iald 194 dX8_tickOne_194 a_179 (by omega) ?_
          refine J.top (congrFun (upR_self _ _ _) _) ?_
          refine J.aload_n 195 dX8_tickOne_195 rfl rfl ?_
          refine V.getR 196 dX8_tickOne_196 fl_RX8_7 r_178_0 ?_
          refine J.sipush 199 (nI 178) dX8_tickOne_199 (by decide +kernel) ?_
          refine J.iload_n 202 dX8_tickOne_202 rfl rfl ?_
          refine V.iadd 203 dX8_tickOne_203 ?_
          refine V.iald 204 dX8_tickOne_204 a_179 (by omega) ?_
          refine J.top (congrFun (upR_self _ _ _) _) ?_
          refine J.icmp_lt 205 212 dX8_tickOne_205 (by decide) (fun c205 => ?_) (fun c205 => ?_)
          · refine J.iconst 212 (nI 0) dX8_tickOne_212 (by decide +kernel) ?_
            refine J.istore_n 213 dX8_tickOne_213 rfl (by decide) ?_
            refine J.aload_n 214 dX8_tickOne_214 rfl rfl ?_
            refine V.getR 215 dX8_tickOne_215 fl_RX8_7 r_178_0 ?_
            refine J.sipush 218 (nI 184) dX8_tickOne_218 (by decide +kernel) ?_
            refine J.iload_n 221 dX8_tickOne_221 rfl rfl ?_
            refine V.iadd 222 dX8_tickOne_222 ?_
            refine J.iload_n 223 dX8_tickOne_223 rfl rfl ?_
            refine J.if_eq 224 231 dX8_tickOne_224 (by decide) (fun _ => ?_) (fun q => absurd q (by decide))
            refine J.aload_n 231 dX8_tickOne_231 rfl rfl ?_
            refine V.getR 232 dX8_tickOne_232 fl_RX8_7 r_178_0 ?_
            refine J.sipush 235 (nI 184) dX8_tickOne_235 (by decide +kernel) ?_
            refine J.iload_n 238 dX8_tickOne_238 rfl rfl ?_
            refine V.iadd 239 dX8_tickOne_239 ?_
            refine V.iald 240 dX8_tickOne_240 a_179 (by omega) ?_
            refine J.top (congrFun (upR_self _ _ _) _) ?_
            refine V.iast 241 dX8_tickOne_241 a_179 (by omega) ?_
            refine V.heapv (up2_upR _ _ _ _ _) ?_
            refine V.iinc 242 dX8_tickOne_242 rfl (by decide) ?_
            refine J.goto 245 145 dX8_tickOne_245 (by decide) ?_
            refine J.drop 2 ?_
            have q := ih (a + 1) (by omega) (by omega)
            have e1 : rgA (upd (tkA (v 179) n) 190 (tkA (v 179) n 190 + nI 1)) (a + 1) = rgC (rgA (upd (tkA (v 179) n) 190 (tkA (v 179) n 190 + nI 1)) a) a := rfl
            rw [e1] at q
            unfold rgC at q
            rw [ecl] at q
            first | (rw [if_pos ⟨c175, Int32.not_lt.mp c205⟩] at q; exact q) | (rw [if_neg (fun z => absurd c205 (Int32.not_lt.mpr z.2))] at q; exact q) | (rw [if_neg (fun z => c175 z.1)] at q; exact q)
          · refine J.iconst 208 (nI 1) dX8_tickOne_208 (by decide +kernel) ?_
            refine J.goto 209 213 dX8_tickOne_209 (by decide) ?_
            refine J.istore_n 213 dX8_tickOne_213 rfl (by decide) ?_
            refine J.aload_n 214 dX8_tickOne_214 rfl rfl ?_
            refine V.getR 215 dX8_tickOne_215 fl_RX8_7 r_178_0 ?_
            refine J.sipush 218 (nI 184) dX8_tickOne_218 (by decide +kernel) ?_
            refine J.iload_n 221 dX8_tickOne_221 rfl rfl ?_
            refine V.iadd 222 dX8_tickOne_222 ?_
            refine J.iload_n 223 dX8_tickOne_223 rfl rfl ?_
            refine J.if_eq 224 231 dX8_tickOne_224 (by decide) (fun q => absurd q (by decide)) (fun _ => ?_)
            refine J.iconst 227 (nI 1) dX8_tickOne_227 (by decide +kernel) ?_
            refine J.goto 228 241 dX8_tickOne_228 (by decide) ?_
            refine V.iast 241 dX8_tickOne_241 a_179 (by omega) ?_
            refine V.heapv (up2_upR _ _ _ _ _) ?_
            refine V.iinc 242 dX8_tickOne_242 rfl (by decide) ?_
            refine J.goto 245 145 dX8_tickOne_245 (by decide) ?_
            refine J.drop 2 ?_
            have q := ih (a + 1) (by omega) (by omega)
            have e1 : rgA (upd (tkA (v 179) n) 190 (tkA (v 179) n 190 + nI 1)) (a + 1) = rgC (rgA (upd (tkA (v 179) n) 190 (tkA (v 179) n 190 + nI 1)) a) a := rfl
            rw [e1] at q
            unfold rgC at q
            rw [ecl] at q
            first | (rw [if_pos ⟨c175, Int32.not_lt.mp c205⟩] at q; exact q) | (rw [if_neg (fun z => absurd c205 (Int32.not_lt.mpr z.2))] at q; exact q) | (rw [if_neg (fun z => c175 z.1)] at q; exact q)
  have K : J w yX8_tickOne cX8_tickOne 3 none (rm 0 0) XT (ZJ w 185 0 0 (PU w (fun v' => v' = upR v 179 (tkF (v 179) n ma)))) 131 [(0, .ref (wN w + 178)), (1, .int (nI n))] [] 185 (hv w (upR v 179 (tkA (v 179) n))) 0 0 := by
    refine J.aload_n 131 dX8_tickOne_131 rfl rfl ?_
    refine V.getR 132 dX8_tickOne_132 fl_RX8_7 r_178_0 ?_
    refine J.sipush 135 (nI 190) dX8_tickOne_135 (by decide +kernel) ?_
    refine J.dup2 138 dX8_tickOne_138 rfl rfl ?_
    refine V.iald 139 dX8_tickOne_139 a_179 (by omega) ?_
    refine J.top (congrFun (upR_self _ _ _) _) ?_
    refine J.iconst 140 (nI 1) dX8_tickOne_140 (by decide +kernel) ?_
    refine J.iadd 141 dX8_tickOne_141 ?_
    refine V.iast 142 dX8_tickOne_142 a_179 (by omega) ?_
    refine V.heapv (up2_upR _ _ _ _ _) ?_
    refine J.iconst 143 (nI 0) dX8_tickOne_143 (by decide +kernel) ?_
    refine J.istore_n 144 dX8_tickOne_144 rfl (by decide) ?_
    exact lq (ma + 1) 0 (by omega) (by omega)
  have lp : ∀ (m : Nat) (c : Nat), (c ≤ n) → n - c < m → J w yX8_tickOne cX8_tickOne 3 none (rm 0 0) XT (ZJ w 185 0 0 (PU w (fun v' => v' = upR v 179 (tkF (v 179) n ma)))) 2 [(0, .ref (wN w + 178)), (1, .int (nI c))] [] 185 (hv w (upR v 179 (tkA (v 179) c))) 0 0 := by
    intro m
    induction m with
    | zero =>
      intro c hi0 hm
      exact absurd hm (by omega)
    | succ m ih =>
      intro c hi0 hm
      refine J.iload_n 2 dX8_tickOne_2 rfl rfl ?_
      refine J.aload_n 3 dX8_tickOne_3 rfl rfl ?_
      refine V.getR 4 dX8_tickOne_4 fl_RX8_7 r_178_0 ?_
      refine J.iconst 7 (nI 0) dX8_tickOne_7 (by decide +kernel) ?_
      refine V.iald 8 dX8_tickOne_8 a_179 (by omega) ?_
      refine J.top (congrFun (upR_self _ _ _) _) ?_
      refine J.top ((tkA_at (v 179) c 0 (by omega) (by omega)).trans hn0) ?_
      refine V.icmp_ge 9 131 dX8_tickOne_9 (by decide) (by omega) (by omega) (fun c9 => ?_) (fun c9 => ?_)
      · obtain rfl : c = n := by omega
        exact K
      · refine J.aload_n 12 dX8_tickOne_12 rfl rfl ?_
        refine V.getR 13 dX8_tickOne_13 fl_RX8_7 r_178_0 ?_
        refine J.bipush 16 (nI 35) dX8_tickOne_16 (by decide +kernel) ?_
        refine J.iload_n 18 dX8_tickOne_18 rfl rfl ?_
        refine V.iadd 19 dX8_tickOne_19 ?_
        refine V.iald 20 dX8_tickOne_20 a_179 (by omega) ?_
        refine J.top (congrFun (upR_self _ _ _) _) ?_
        refine J.if_ne 21 125 dX8_tickOne_21 (by decide) (fun c21 => ?_) (fun c21 => ?_)
        · have e1 : tkA (v 179) (c + 1) = tkA (v 179) c := by unfold tkA tkC; rw [if_neg c21]; cases c <;> rfl
          refine V.iinc 125 dX8_tickOne_125 rfl (by decide) ?_
          refine J.goto 128 2 dX8_tickOne_128 (by decide) ?_
          have q := ih (c + 1) (by omega) (by omega)
          rw [e1] at q
          exact q
        · refine J.aload_n 24 dX8_tickOne_24 rfl rfl ?_
          refine V.getR 25 dX8_tickOne_25 fl_RX8_7 r_178_0 ?_
          refine J.bipush 28 (nI 19) dX8_tickOne_28 (by decide +kernel) ?_
          refine J.iload_n 30 dX8_tickOne_30 rfl rfl ?_
          refine V.iadd 31 dX8_tickOne_31 ?_
          refine V.iald 32 dX8_tickOne_32 a_179 (by omega) ?_
          refine J.top (congrFun (upR_self _ _ _) _) ?_
          refine J.aload_n 33 dX8_tickOne_33 rfl rfl ?_
          refine V.getR 34 dX8_tickOne_34 fl_RX8_7 r_178_0 ?_
          refine J.iconst 37 (nI 2) dX8_tickOne_37 (by decide +kernel) ?_
          refine V.iald 38 dX8_tickOne_38 a_179 (by omega) ?_
          refine J.top (congrFun (upR_self _ _ _) _) ?_
          refine J.icmp_le 39 51 dX8_tickOne_39 (by decide) (fun c39 => ?_) (fun c39 => ?_)
          · refine J.aload_n 51 dX8_tickOne_51 rfl rfl ?_
            refine V.getR 52 dX8_tickOne_52 fl_RX8_7 r_178_0 ?_
            refine J.bipush 55 (nI 19) dX8_tickOne_55 (by decide +kernel) ?_
            refine J.iload_n 57 dX8_tickOne_57 rfl rfl ?_
            refine V.iadd 58 dX8_tickOne_58 ?_
            refine V.iald 59 dX8_tickOne_59 a_179 (by omega) ?_
            refine J.top (congrFun (upR_self _ _ _) _) ?_
            refine J.aload_n 60 dX8_tickOne_60 rfl rfl ?_
            refine V.getR 61 dX8_tickOne_61 fl_RX8_7 r_178_0 ?_
            refine J.iconst 64 (nI 2) dX8_tickOne_64 (by decide +kernel) ?_
            refine V.iald 65 dX8_tickOne_65 a_179 (by omega) ?_
            refine J.top (congrFun (upR_self _ _ _) _) ?_
            refine J.ineg 66 dX8_tickOne_66 ?_
            refine J.icmp_ge 67 80 dX8_tickOne_67 (by decide) (fun c67 => ?_) (fun c67 => ?_)
            · have es : stF9 (tkA (v 179) c) c = tkA (v 179) c (19 + c) := by unfold stF9; rw [if_pos c39, if_pos c67]
              refine J.aload_n 80 dX8_tickOne_80 rfl rfl ?_
              refine V.getR 81 dX8_tickOne_81 fl_RX8_7 r_178_0 ?_
              refine J.bipush 84 (nI 19) dX8_tickOne_84 (by decide +kernel) ?_
              refine J.iload_n 86 dX8_tickOne_86 rfl rfl ?_
              refine V.iadd 87 dX8_tickOne_87 ?_
              refine V.iald 88 dX8_tickOne_88 a_179 (by omega) ?_
              refine J.top (congrFun (upR_self _ _ _) _) ?_
              refine J.istore_n 89 dX8_tickOne_89 rfl (by decide) ?_
              refine J.aload_n 90 dX8_tickOne_90 rfl rfl ?_
              refine V.getR 91 dX8_tickOne_91 fl_RX8_7 r_178_0 ?_
              refine J.iconst 94 (nI 3) dX8_tickOne_94 (by decide +kernel) ?_
              refine J.iload_n 95 dX8_tickOne_95 rfl rfl ?_
              refine V.iadd 96 dX8_tickOne_96 ?_
              refine J.dup2 97 dX8_tickOne_97 rfl rfl ?_
              refine V.iald 98 dX8_tickOne_98 a_179 (by omega) ?_
              refine J.top (congrFun (upR_self _ _ _) _) ?_
              refine J.aload_n 99 dX8_tickOne_99 rfl rfl ?_
              refine V.getR 100 dX8_tickOne_100 fl_RX8_7 r_178_0 ?_
              refine J.bipush 103 (nI 11) dX8_tickOne_103 (by decide +kernel) ?_
              refine J.iload_n 105 dX8_tickOne_105 rfl rfl ?_
              refine V.iadd 106 dX8_tickOne_106 ?_
              refine V.iald 107 dX8_tickOne_107 a_179 (by omega) ?_
              refine J.top (congrFun (upR_self _ _ _) _) ?_
              refine J.iload_n 108 dX8_tickOne_108 rfl rfl ?_
              refine J.iadd 109 dX8_tickOne_109 ?_
              refine J.iadd 110 dX8_tickOne_110 ?_
              refine V.iast 111 dX8_tickOne_111 a_179 (by omega) ?_
              refine V.heapv (up2_upR _ _ _ _ _) ?_
              refine J.aload_n 112 dX8_tickOne_112 rfl rfl ?_
              refine V.getR 113 dX8_tickOne_113 fl_RX8_7 r_178_0 ?_
              refine J.bipush 116 (nI 19) dX8_tickOne_116 (by decide +kernel) ?_
              refine J.iload_n 118 dX8_tickOne_118 rfl rfl ?_
              refine V.iadd 119 dX8_tickOne_119 ?_
              refine J.dup2 120 dX8_tickOne_120 rfl rfl ?_
              refine V.iald 121 dX8_tickOne_121 a_179 (by omega) ?_
              refine J.top (congrFun (upR_self _ _ _) _) ?_
              refine J.iload_n 122 dX8_tickOne_122 rfl rfl ?_
              refine J.isub 123 dX8_tickOne_123 ?_
              refine V.iast 124 dX8_tickOne_124 a_179 (by omega) ?_
              refine V.heapv (up2_upR _ _ _ _ _) ?_
              refine V.iinc 125 dX8_tickOne_125 rfl (by decide) ?_
              refine J.goto 128 2 dX8_tickOne_128 (by decide) ?_
              refine J.drop 2 ?_
              have e1 : tkA (v 179) (c + 1) = tkC (tkA (v 179) c) c := rfl
              have q := ih (c + 1) (by omega) (by omega)
              rw [e1] at q
              unfold tkC at q
              rw [if_pos c21, es] at q
              exact q
            · have es : stF9 (tkA (v 179) c) c = -(tkA (v 179) c 2) := by unfold stF9; rw [if_pos c39, if_neg c67]
              refine J.aload_n 70 dX8_tickOne_70 rfl rfl ?_
              refine V.getR 71 dX8_tickOne_71 fl_RX8_7 r_178_0 ?_
              refine J.iconst 74 (nI 2) dX8_tickOne_74 (by decide +kernel) ?_
              refine V.iald 75 dX8_tickOne_75 a_179 (by omega) ?_
              refine J.top (congrFun (upR_self _ _ _) _) ?_
              refine J.ineg 76 dX8_tickOne_76 ?_
              refine J.goto 77 89 dX8_tickOne_77 (by decide) ?_
              refine J.istore_n 89 dX8_tickOne_89 rfl (by decide) ?_
              refine J.aload_n 90 dX8_tickOne_90 rfl rfl ?_
              refine V.getR 91 dX8_tickOne_91 fl_RX8_7 r_178_0 ?_
              refine J.iconst 94 (nI 3) dX8_tickOne_94 (by decide +kernel) ?_
              refine J.iload_n 95 dX8_tickOne_95 rfl rfl ?_
              refine V.iadd 96 dX8_tickOne_96 ?_
              refine J.dup2 97 dX8_tickOne_97 rfl rfl ?_
              refine V.iald 98 dX8_tickOne_98 a_179 (by omega) ?_
              refine J.top (congrFun (upR_self _ _ _) _) ?_
              refine J.aload_n 99 dX8_tickOne_99 rfl rfl ?_
              refine V.getR 100 dX8_tickOne_100 fl_RX8_7 r_178_0 ?_
              refine J.bipush 103 (nI 11) dX8_tickOne_103 (by decide +kernel) ?_
              refine J.iload_n 105 dX8_tickOne_105 rfl rfl ?_
              refine V.iadd 106 dX8_tickOne_106 ?_
              refine V.iald 107 dX8_tickOne_107 a_179 (by omega) ?_
              refine J.top (congrFun (upR_self _ _ _) _) ?_
              refine J.iload_n 108 dX8_tickOne_108 rfl rfl ?_
              refine J.iadd 109 dX8_tickOne_109 ?_
              refine J.iadd 110 dX8_tickOne_110 ?_
              refine V.iast 111 dX8_tickOne_111 a_179 (by omega) ?_
              refine V.heapv (up2_upR _ _ _ _ _) ?_
              refine J.aload_n 112 dX8_tickOne_112 rfl rfl ?_
              refine V.getR 113 dX8_tickOne_113 fl_RX8_7 r_178_0 ?_
              refine J.bipush 116 (nI 19) dX8_tickOne_116 (by decide +kernel) ?_
              refine J.iload_n 118 dX8_tickOne_118 rfl rfl ?_
              refine V.iadd 119 dX8_tickOne_119 ?_
              refine J.dup2 120 dX8_tickOne_120 rfl rfl ?_
              refine V.iald 121 dX8_tickOne_121 a_179 (by omega) ?_
              refine J.top (congrFun (upR_self _ _ _) _) ?_
              refine J.iload_n 122 dX8_tickOne_122 rfl rfl ?_
              refine J.isub 123 dX8_tickOne_123 ?_
              refine V.iast 124 dX8_tickOne_124 a_179 (by omega) ?_
              refine V.heapv (up2_upR _ _ _ _ _) ?_
              refine V.iinc 125 dX8_tickOne_125 rfl (by decide) ?_
              refine J.goto 128 2 dX8_tickOne_128 (by decide) ?_
              refine J.drop 2 ?_
              have e1 : tkA (v 179) (c + 1) = tkC (tkA (v 179) c) c := rfl
              have q := ih (c + 1) (by omega) (by omega)
              rw [e1] at q
              unfold tkC at q
              rw [if_pos c21, es] at q
              exact q
          · have es : stF9 (tkA (v 179) c) c = tkA (v 179) c 2 := by unfold stF9; rw [if_neg c39]
            refine J.aload_n 42 dX8_tickOne_42 rfl rfl ?_
            refine V.getR 43 dX8_tickOne_43 fl_RX8_7 r_178_0 ?_
            refine J.iconst 46 (nI 2) dX8_tickOne_46 (by decide +kernel) ?_
            refine V.iald 47 dX8_tickOne_47 a_179 (by omega) ?_
            refine J.top (congrFun (upR_self _ _ _) _) ?_
            refine J.goto 48 89 dX8_tickOne_48 (by decide) ?_
            refine J.istore_n 89 dX8_tickOne_89 rfl (by decide) ?_
            refine J.aload_n 90 dX8_tickOne_90 rfl rfl ?_
            refine V.getR 91 dX8_tickOne_91 fl_RX8_7 r_178_0 ?_
            refine J.iconst 94 (nI 3) dX8_tickOne_94 (by decide +kernel) ?_
            refine J.iload_n 95 dX8_tickOne_95 rfl rfl ?_
            refine V.iadd 96 dX8_tickOne_96 ?_
            refine J.dup2 97 dX8_tickOne_97 rfl rfl ?_
            refine V.iald 98 dX8_tickOne_98 a_179 (by omega) ?_
            refine J.top (congrFun (upR_self _ _ _) _) ?_
            refine J.aload_n 99 dX8_tickOne_99 rfl rfl ?_
            refine V.getR 100 dX8_tickOne_100 fl_RX8_7 r_178_0 ?_
            refine J.bipush 103 (nI 11) dX8_tickOne_103 (by decide +kernel) ?_
            refine J.iload_n 105 dX8_tickOne_105 rfl rfl ?_
            refine V.iadd 106 dX8_tickOne_106 ?_
            refine V.iald 107 dX8_tickOne_107 a_179 (by omega) ?_
            refine J.top (congrFun (upR_self _ _ _) _) ?_
            refine J.iload_n 108 dX8_tickOne_108 rfl rfl ?_
            refine J.iadd 109 dX8_tickOne_109 ?_
            refine J.iadd 110 dX8_tickOne_110 ?_
            refine V.iast 111 dX8_tickOne_111 a_179 (by omega) ?_
            refine V.heapv (up2_upR _ _ _ _ _) ?_
            refine J.aload_n 112 dX8_tickOne_112 rfl rfl ?_
            refine V.getR 113 dX8_tickOne_113 fl_RX8_7 r_178_0 ?_
            refine J.bipush 116 (nI 19) dX8_tickOne_116 (by decide +kernel) ?_
            refine J.iload_n 118 dX8_tickOne_118 rfl rfl ?_
            refine V.iadd 119 dX8_tickOne_119 ?_
            refine J.dup2 120 dX8_tickOne_120 rfl rfl ?_
            refine V.iald 121 dX8_tickOne_121 a_179 (by omega) ?_
            refine J.top (congrFun (upR_self _ _ _) _) ?_
            refine J.iload_n 122 dX8_tickOne_122 rfl rfl ?_
            refine J.isub 123 dX8_tickOne_123 ?_
            refine V.iast 124 dX8_tickOne_124 a_179 (by omega) ?_
            refine V.heapv (up2_upR _ _ _ _ _) ?_
            refine V.iinc 125 dX8_tickOne_125 rfl (by decide) ?_
            refine J.goto 128 2 dX8_tickOne_128 (by decide) ?_
            refine J.drop 2 ?_
            have e1 : tkA (v 179) (c + 1) = tkC (tkA (v 179) c) c := rfl
            have q := ih (c + 1) (by omega) (by omega)
            rw [e1] at q
            unfold tkC at q
            rw [if_pos c21, es] at q
            exact q
  refine J.iconst 0 (nI 0) dX8_tickOne_0 (by decide +kernel) ?_
  refine J.istore_n 1 dX8_tickOne_1 rfl (by decide) ?_
  refine V.heapv (upR_id v 179) ?_
  exact lp (n + 1) 0 (by omega) (by omega)
set_option maxHeartbeats 4000000 in
set_option maxRecDepth 100000 in
theorem c_X8_liars (w : Wd) (v : Vm2) {n : Nat} (hn0 : v 179 0 = nI n) (hn : n ≤ 8) : CP w yX8_liars cX8_liars 3 (some .int) (rm 1 22) [.ref (wN w + 178)] v (nI (cntL (v 179) n)) := by
  refine CI.of (by decide) (Nat.le_of_ble_eq_true rfl) ?_
  have lp : ∀ (m : Nat) (c : Nat), (c ≤ n) → n - c < m → J w yX8_liars cX8_liars 3 (some .int) (rm 1 22) XT (ZJ w 185 0 0 (PI w (fun r v' => r = nI (cntL (v 179) n) ∧ v' = v))) 4 [(0, .ref (wN w + 178)), (1, .int (nI (cntL (v 179) c))), (2, .int (nI c))] [] 185 (hv w (v)) 0 0 := by
    intro m
    induction m with
    | zero =>
      intro c hi0 hm
      exact absurd hm (by omega)
    | succ m ih =>
      intro c hi0 hm
      refine J.iload_n 4 dX8_liars_4 rfl rfl ?_
      refine J.aload_n 5 dX8_liars_5 rfl rfl ?_
      refine V.getR 6 dX8_liars_6 fl_RX8_7 r_178_0 ?_
      refine J.iconst 9 (nI 0) dX8_liars_9 (by decide +kernel) ?_
      refine V.iald 10 dX8_liars_10 a_179 (by omega) ?_
      refine J.top hn0 ?_
      refine V.icmp_ge 11 37 dX8_liars_11 (by decide) (by omega) (by omega) (fun c11 => ?_) (fun c11 => ?_)
      · refine J.iload_n 37 dX8_liars_37 rfl rfl ?_
        obtain rfl : c = n := by omega
        exact V.iret 38 dX8_liars_38 (⟨rfl, rfl⟩)
      · refine J.iload_n 14 dX8_liars_14 rfl rfl ?_
        refine J.aload_n 15 dX8_liars_15 rfl rfl ?_
        refine J.iconst 16 (nI 0) dX8_liars_16 (by decide +kernel) ?_
        refine J.iload_n 17 dX8_liars_17 rfl rfl ?_
        refine V.callvP 18 dX8_liars_18 ml_RX8_120 mi_yX8_isLiar mv_yX8_isLiar (c_X8_isLiar w _ (by omega)) rfl rfl (Nat.le_of_ble_eq_true rfl) (by decide) (by decide) o_178 rfl rfl ?_
        rw [ro_zero]
        refine V.if_eqB 21 28 dX8_liars_21 (by decide) (fun c21 => ?_) (fun c21 => ?_)
        · have e1 : cntL (v 179) (c + 1) = cntL (v 179) c + 0 := by simp [cntL, c21]
          refine J.iconst 28 (nI 0) dX8_liars_28 (by decide +kernel) ?_
          refine V.iadd 29 dX8_liars_29 ?_
          refine J.istore_n 30 dX8_liars_30 rfl (by decide) ?_
          refine V.iinc 31 dX8_liars_31 rfl (by decide) ?_
          refine J.goto 34 4 dX8_liars_34 (by decide) ?_
          have q := ih (c + 1) (by omega) (by omega)
          rw [e1] at q
          exact q
        · have e1 : cntL (v 179) (c + 1) = cntL (v 179) c + 1 := by simp [cntL, c21]
          refine J.iconst 24 (nI 1) dX8_liars_24 (by decide +kernel) ?_
          refine J.goto 25 29 dX8_liars_25 (by decide) ?_
          refine V.iadd 29 dX8_liars_29 ?_
          refine J.istore_n 30 dX8_liars_30 rfl (by decide) ?_
          refine V.iinc 31 dX8_liars_31 rfl (by decide) ?_
          refine J.goto 34 4 dX8_liars_34 (by decide) ?_
          have q := ih (c + 1) (by omega) (by omega)
          rw [e1] at q
          exact q
  refine J.iconst 0 (nI 0) dX8_liars_0 (by decide +kernel) ?_
  refine J.istore_n 1 dX8_liars_1 rfl (by decide) ?_
  refine J.iconst 2 (nI 0) dX8_liars_2 (by decide +kernel) ?_
  refine J.istore_n 3 dX8_liars_3 rfl (by decide) ?_
  exact lp (n + 1) 0 (by omega) (by omega)
end
section
/-! ===== part 13: the reference: round, extreme, worst, rank, farthest, sets ===== -/
theorem upR_comm (v : Vm2) {a b : Nat} (f g : Nat → Int32) (h : a ≠ b) : upR (upR v a f) b g = upR (upR v b g) a f := by
  funext c
  by_cases h1 : c = a
  · subst h1
    simp [upR, h]
  · by_cases h2 : c = b
    · subst h2
      simp [upR, h1]
    · simp [upR, h1, h2]
theorem fill_s {u : Vm2} {c i : Nat} {g : Nat → Int32} {x : Int32} (h : ∀ k, k < i → u c k = g k) (hx : x = g i) : ∀ k, k < i + 1 → up2 u c i x c k = g k := by
  intro k hk
  by_cases hki : k = i
  · subst hki
    simp [up2, hx]
  · simp only [up2, hki, and_false, if_false]
    exact h k (by omega)
def rnW (f : Nat → Int32) (x n s : Nat) (g : Nat → Int32) : Nat → Int32 := fun b => if x + 19 ≤ b ∧ b < x + 19 + s then g (b - (x + 19)) else f b
theorem rnW_s (f : Nat → Int32) (x n s : Nat) (g : Nat → Int32) : upd (rnW f x n s g) (x + 19 + s) (g s) = rnW f x n (s + 1) g := by
  funext b
  simp only [upd, rnW]
  by_cases h : b = x + 19 + s
  · rw [if_pos h, if_pos (by omega)]
    congr 1
    omega
  · rw [if_neg h]
    by_cases h2 : x + 19 ≤ b ∧ b < x + 19 + s
    · rw [if_pos h2, if_pos (by omega)]
    · rw [if_neg h2, if_neg (by omega)]
theorem rnW_0 (f : Nat → Int32) (x n : Nat) (g : Nat → Int32) : f = rnW f x n 0 g := by
  funext b
  simp only [rnW]
  rw [if_neg (by omega)]
theorem two_c {u v : Vm2} (h : ∀ a, a ≠ 183 → a ≠ 184 → u a = v a) : u = upR (upR v 183 (u 183)) 184 (u 184) := by
  funext a
  by_cases e1 : a = 184
  · subst e1
    rw [upR_self]
  · rw [upR_ne _ _ e1]
    by_cases e2 : a = 183
    · subst e2
      rw [upR_self]
    · rw [upR_ne _ _ e2]
      exact h a e2 e1
def exG (ρ : Nat → Int32) (i : Nat) (t : Int32) (j : Nat) : Int32 := if liF ρ j then t else heF ρ j i
def exF (ρ : Nat → Int32) (n f i : Nat) (t : Int32) : Int32 := fl2 (ordF (exG ρ i t) n f + ordF (exG ρ i t) n (n - 1 - f))
def wfar (ρ : Nat → Int32) (n f i k : Nat) : Int32 := if i ≠ k ∧ trF ρ i ∧ trF ρ k then exF ρ n f i (nI 500000000) - exF ρ n f k (-500000000) else nI 0
def wIn (ρ : Nat → Int32) (n f i : Nat) : Nat → Int32 → Int32
  | 0, a => a
  | k + 1, a => if wfar ρ n f i k ≤ wIn ρ n f i k a then wIn ρ n f i k a else wfar ρ n f i k
def wOut (ρ : Nat → Int32) (n f : Nat) : Nat → Int32
  | 0 => nI 0
  | i + 1 => wIn ρ n f i n (wOut ρ n f i)
def wrF (ρ : Nat → Int32) (n f : Nat) : Int32 := if cntT ρ n < 2 then (if cntT ρ n = 0 then -1 else nI 0) else if n ≤ 2 * f then apF ρ n else if f < cntL ρ n then nI 1000000 else wOut ρ n f n
def mlF (ρ : Nat → Int32) (n : Nat) : Int32 := if cntS ρ n = 0 then -1 else if ρ 1 ≤ (nI (cntS ρ n) - nI 1) / nI 3 then ρ 1 else (nI (cntS ρ n) - nI 1) / nI 3
abbrev rkP (ρ : Nat → Int32) (j i k : Nat) : Prop := heF ρ k i < heF ρ j i ∨ (heF ρ k i = heF ρ j i ∧ k < j)
def rkF (ρ : Nat → Int32) (j i : Nat) : Nat → Nat
  | 0 => 0
  | k + 1 => rkF ρ j i k + (if rkP ρ j i k then 1 else 0)
theorem rkF_s (ρ : Nat → Int32) (j i k : Nat) : rkF ρ j i (k + 1) = rkF ρ j i k + (if rkP ρ j i k then 1 else 0) := rfl
theorem rkF_le (ρ : Nat → Int32) (j i : Nat) : ∀ n, rkF ρ j i n ≤ n
  | 0 => Nat.le_refl 0
  | n + 1 => by unfold rkF; have := rkF_le ρ j i n; split <;> omega
def bsI (p : Nat → Prop) [DecidablePred p] : Nat → Int32
  | 0 => nI 0
  | c + 1 => bsI p c ||| (if p c then nI 1 <<< (nI c &&& 31) else nI 0)
def rsI (ρ : Nat → Int32) : Nat → Int32
  | 0 => nI 0
  | a + 1 => rsI ρ a ||| (ρ (184 + a) <<< (nI a &&& 31))
def smI (g : Nat → Int32) : Nat → Int32
  | 0 => nI 0
  | c + 1 => smI g c + g c

set_option maxHeartbeats 4000000 in
set_option maxRecDepth 100000 in
theorem c_X8_roundIn (w : Wd) (v : Vm2) {x n f : Nat} (hx : x + 192 ≤ 3840) (hn0 : v 179 x = nI n) (hf : ro v x 1 = nI f) (hn : n ≤ 8) (hf3 : f < 8) : CU w yX8_roundIn cX8_roundIn 3 (rm 3 69) [.ref (wN w + 178), .int (nI x)] v (fun v' => ∃ o g, v' = upR (upR (upR v 183 o) 184 g) 179 (rnW (v 179) x n n (rdF (ro v x) n f))) := by
  refine CU.of (by decide) (Nat.le_of_ble_eq_true rfl) ?_
  have K : ∀ u : Vm2, (∀ a, a ≠ 183 → a ≠ 184 → u a = v a) → (∀ k, k < n → u 184 k = rdF (ro v x) n f k) → J w yX8_roundIn cX8_roundIn 3 none (rm 3 69) XT (ZJ w 185 0 0 (PU w (fun v' => ∃ o g, v' = upR (upR (upR v 183 o) 184 g) 179 (rnW (v 179) x n n (rdF (ro v x) n f))))) 64 [(0, .ref (wN w + 178)), (1, .int (nI x)), (2, .int (nI n))] [] 185 (hv w (u)) 0 0 := by
    intro u h1 h2
    have lq : ∀ (m : Nat) (s : Nat), (s ≤ n) → n - s < m → J w yX8_roundIn cX8_roundIn 3 none (rm 3 69) XT (ZJ w 185 0 0 (PU w (fun v' => ∃ o g, v' = upR (upR (upR v 183 o) 184 g) 179 (rnW (v 179) x n n (rdF (ro v x) n f))))) 66 [(0, .ref (wN w + 178)), (1, .int (nI x)), (2, .int (nI s))] [] 185 (hv w (upR u 179 (rnW (v 179) x n s (rdF (ro v x) n f)))) 0 0 := by
      intro m
      induction m with
      | zero =>
        intro s hi0 hm
        exact absurd hm (by omega)
      | succ m ih =>
        intro s hi0 hm
        refine J.iload_n 66 dX8_roundIn_66 rfl rfl ?_
        refine J.aload_n 67 dX8_roundIn_67 rfl rfl ?_
        refine V.getR 68 dX8_roundIn_68 fl_RX8_7 r_178_0 ?_
        refine J.iload_n 71 dX8_roundIn_71 rfl rfl ?_
        refine V.iald 72 dX8_roundIn_72 a_179 (by omega) ?_
        refine J.top (congrFun (upR_self _ _ _) _) ?_
        refine J.top (b := nI n) (by unfold rnW; rw [if_neg (by omega)]; exact hn0) ?_
        refine V.icmp_ge 73 99 dX8_roundIn_73 (by decide) (by omega) (by omega) (fun c73 => ?_) (fun c73 => ?_)
        · obtain rfl : s = n := by omega
          exact V.vret 99 dX8_roundIn_99 (⟨u 183, u 184, by rw [← two_c h1]⟩)
        · refine J.aload_n 76 dX8_roundIn_76 rfl rfl ?_
          refine V.getR 77 dX8_roundIn_77 fl_RX8_7 r_178_0 ?_
          refine J.iload_n 80 dX8_roundIn_80 rfl rfl ?_
          refine J.bipush 81 (nI 19) dX8_roundIn_81 (by decide +kernel) ?_
          refine V.iadd 83 dX8_roundIn_83 ?_
          refine J.iload_n 84 dX8_roundIn_84 rfl rfl ?_
          refine V.iadd 85 dX8_roundIn_85 ?_
          refine J.aload_n 86 dX8_roundIn_86 rfl rfl ?_
          refine V.getR 87 dX8_roundIn_87 fl_RX8_29 r_178_10 ?_
          refine J.iload_n 90 dX8_roundIn_90 rfl rfl ?_
          refine V.iald 91 dX8_roundIn_91 a_184 (by omega) ?_
          refine J.top (b := rdF (ro v x) n f s) (by rw [upR_ne _ _ (by decide)]; exact h2 s (by omega)) ?_
          refine V.iast 92 dX8_roundIn_92 a_179 (by omega) ?_
          refine V.heapv (up2_upR _ _ _ _ _) ?_
          rw [rnW_s]
          refine V.iinc 93 dX8_roundIn_93 rfl (by decide) ?_
          refine J.goto 96 66 dX8_roundIn_96 (by decide) ?_
          exact ih (s + 1) (by omega) (by omega)
    refine J.iconst 64 (nI 0) dX8_roundIn_64 (by decide +kernel) ?_
    refine J.istore_n 65 dX8_roundIn_65 rfl (by decide) ?_
    refine V.heapv (v' := upR u 179 (rnW (v 179) x n 0 (rdF (ro v x) n f))) (by rw [← rnW_0, ← h1 179 (by decide) (by decide)]; exact upR_id u 179) ?_
    exact lq (n + 1) 0 (by omega) (by omega)
  have lp : ∀ (m : Nat) (i : Nat) (u : Vm2), (i ≤ n) → (∀ a, a ≠ 183 → a ≠ 184 → u a = v a) → (∀ k, k < i → u 184 k = rdF (ro v x) n f k) → n - i < m → J w yX8_roundIn cX8_roundIn 3 none (rm 3 69) XT (ZJ w 185 0 0 (PU w (fun v' => ∃ o g, v' = upR (upR (upR v 183 o) 184 g) 179 (rnW (v 179) x n n (rdF (ro v x) n f))))) 2 [(0, .ref (wN w + 178)), (1, .int (nI x)), (2, .int (nI i))] [] 185 (hv w (u)) 0 0 := by
    intro m
    induction m with
    | zero =>
      intro i u hi0 hi1 hi2 hm
      exact absurd hm (by omega)
    | succ m ih =>
      intro i u hi0 hi1 hi2 hm
      have hro : ro u x = ro v x := by funext k; simp only [ro]; rw [hi1 179 (by decide) (by decide)]
      refine J.iload_n 2 dX8_roundIn_2 rfl rfl ?_
      refine J.aload_n 3 dX8_roundIn_3 rfl rfl ?_
      refine V.getR 4 dX8_roundIn_4 fl_RX8_7 r_178_0 ?_
      refine J.iload_n 7 dX8_roundIn_7 rfl rfl ?_
      refine V.iald 8 dX8_roundIn_8 a_179 (by omega) ?_
      refine J.top (b := nI n) (by rw [hi1 179 (by decide) (by decide)]; exact hn0) ?_
      refine V.icmp_ge 9 64 dX8_roundIn_9 (by decide) (by omega) (by omega) (fun c9 => ?_) (fun c9 => ?_)
      · obtain rfl : i = n := by omega
        exact K u hi1 hi2
      · refine J.aload_n 12 dX8_roundIn_12 rfl rfl ?_
        refine V.getR 13 dX8_roundIn_13 fl_RX8_29 r_178_10 ?_
        refine J.iload_n 16 dX8_roundIn_16 rfl rfl ?_
        refine J.aload_n 17 dX8_roundIn_17 rfl rfl ?_
        refine J.iload_n 18 dX8_roundIn_18 rfl rfl ?_
        refine J.iload_n 19 dX8_roundIn_19 rfl rfl ?_
        refine V.callvP 20 dX8_roundIn_20 ml_RX8_114 mi_yX8_isTrue mv_yX8_isTrue (c_X8_isTrue w _ (by omega)) rfl rfl (Nat.le_of_ble_eq_true rfl) (by decide) (by decide) o_178 rfl rfl ?_
        rw [hro]
        refine V.if_eqB 23 46 dX8_roundIn_23 (by decide) (fun c23 => ?_) (fun c23 => ?_)
        · refine J.aload_n 46 dX8_roundIn_46 rfl rfl ?_
          refine V.getR 47 dX8_roundIn_47 fl_RX8_7 r_178_0 ?_
          refine J.iload_n 50 dX8_roundIn_50 rfl rfl ?_
          refine J.bipush 51 (nI 19) dX8_roundIn_51 (by decide +kernel) ?_
          refine V.iadd 53 dX8_roundIn_53 ?_
          refine J.iload_n 54 dX8_roundIn_54 rfl rfl ?_
          refine V.iadd 55 dX8_roundIn_55 ?_
          refine V.iald 56 dX8_roundIn_56 a_179 (by omega) ?_
          refine V.iast 57 dX8_roundIn_57 a_184 (by omega) ?_
          refine V.iinc 58 dX8_roundIn_58 rfl (by decide) ?_
          refine J.goto 61 2 dX8_roundIn_61 (by decide) ?_
          first | exact ih (i + 1) _ (by omega) (fun a h1 h2 => by rw [up2_ne _ _ _ h2]; exact hu9 a h1 h2) (fill_s hf9 (by rw [hu9 179 (by decide) (by decide)]; unfold rdF; rw [if_pos c23, ← ro_at])) (by omega) | exact ih (i + 1) _ (by omega) (fun a h1 h2 => by rw [up2_ne _ _ _ h2]; exact hi1 a h1 h2) (fill_s hi2 (by rw [hi1 179 (by decide) (by decide)]; unfold rdF; rw [if_neg c23, ← ro_at])) (by omega)
        · refine J.aload_n 26 dX8_roundIn_26 rfl rfl ?_
          refine J.iload_n 27 dX8_roundIn_27 rfl rfl ?_
          refine J.iload_n 28 dX8_roundIn_28 rfl rfl ?_
          refine V.callv 29 dX8_roundIn_29 ml_RX8_117 mi_yX8_middleOf mv_yX8_middleOf (c_X8_middleOf w _ (by omega) (by rw [hi1 179 (by decide) (by decide)]; exact hn0) (by rw [hro]; exact hf) (by omega) (by omega) (by omega)) rfl rfl (Nat.le_of_ble_eq_true rfl) (by decide) (by decide) o_178 rfl rfl (fun r29 v29 h29 => ?_)
          obtain ⟨rfl, o29, rfl⟩ := h29
          rw [hro]
          have hu9 : ∀ a, a ≠ 183 → a ≠ 184 → upR u 183 o29 a = v a := fun a h1 h2 => by rw [upR_ne _ _ h1]; exact hi1 a h1 h2
          have hf9 : ∀ k, k < i → upR u 183 o29 184 k = rdF (ro v x) n f k := fun k hk => by rw [upR_ne _ _ (by decide)]; exact hi2 k hk
          refine J.aload_n 32 dX8_roundIn_32 rfl rfl ?_
          refine V.getR 33 dX8_roundIn_33 fl_RX8_7 r_178_0 ?_
          refine J.iload_n 36 dX8_roundIn_36 rfl rfl ?_
          refine J.iconst 37 (nI 3) dX8_roundIn_37 (by decide +kernel) ?_
          refine V.iadd 38 dX8_roundIn_38 ?_
          refine J.iload_n 39 dX8_roundIn_39 rfl rfl ?_
          refine V.iadd 40 dX8_roundIn_40 ?_
          refine V.iald 41 dX8_roundIn_41 a_179 (by omega) ?_
          refine J.isub 42 dX8_roundIn_42 ?_
          refine J.goto 43 57 dX8_roundIn_43 (by decide) ?_
          refine V.iast 57 dX8_roundIn_57 a_184 (by omega) ?_
          refine V.iinc 58 dX8_roundIn_58 rfl (by decide) ?_
          refine J.goto 61 2 dX8_roundIn_61 (by decide) ?_
          first | exact ih (i + 1) _ (by omega) (fun a h1 h2 => by rw [up2_ne _ _ _ h2]; exact hu9 a h1 h2) (fill_s hf9 (by rw [hu9 179 (by decide) (by decide)]; unfold rdF; rw [if_pos c23, ← ro_at])) (by omega) | exact ih (i + 1) _ (by omega) (fun a h1 h2 => by rw [up2_ne _ _ _ h2]; exact hi1 a h1 h2) (fill_s hi2 (by rw [hi1 179 (by decide) (by decide)]; unfold rdF; rw [if_neg c23, ← ro_at])) (by omega)
  refine J.iconst 0 (nI 0) dX8_roundIn_0 (by decide +kernel) ?_
  refine J.istore_n 1 dX8_roundIn_1 rfl (by decide) ?_
  exact lp (n + 1) 0 v (by omega) (fun _ _ _ => rfl) (fun k hk => absurd hk (by omega)) (by omega)
set_option maxHeartbeats 4000000 in
set_option maxRecDepth 100000 in
theorem c_X8_extreme (w : Wd) (v : Vm2) {n f i : Nat} {t : Int32} (hn0 : v 179 0 = nI n) (hf : v 179 1 = nI f) (hn : n ≤ 8) (hfn : f < n) (hi : i < 8) : CI w yX8_extreme cX8_extreme 4 (some .int) (rm 2 46) [.ref (wN w + 178), .int (nI i), .int t] v (fun r v' => r = exF (v 179) n f i t ∧ ∃ o, v' = upR v 183 o) := by
  refine CI.of (by decide) (Nat.le_of_ble_eq_true rfl) ?_
  have hu9 : ∀ o, upR v 183 o 179 = v 179 := fun o => upR_ne v o (by decide)
  have lp : ∀ (m : Nat) (j : Nat) (o : Nat → Int32), (j ≤ n) → (∀ k, k < j → o k = ordF (exG (v 179) i t) j k) → n - j < m → J w yX8_extreme cX8_extreme 4 (some .int) (rm 2 46) XT (ZJ w 185 0 0 (PI w (fun r v' => r = exF (v 179) n f i t ∧ ∃ o, v' = upR v 183 o))) 2 [(0, .ref (wN w + 178)), (1, .int (nI i)), (2, .int t), (3, .int (nI j))] [] 185 (hv w (upR v 183 o)) 0 0 := by
    intro m
    induction m with
    | zero =>
      intro j o hi0 hi1 hm
      exact absurd hm (by omega)
    | succ m ih =>
      intro j o hi0 hi1 hm
      refine J.iload_n 2 dX8_extreme_2 rfl rfl ?_
      refine J.aload_n 3 dX8_extreme_3 rfl rfl ?_
      refine V.getR 4 dX8_extreme_4 fl_RX8_7 r_178_0 ?_
      refine J.iconst 7 (nI 0) dX8_extreme_7 (by decide +kernel) ?_
      refine V.iald 8 dX8_extreme_8 a_179 (by omega) ?_
      refine J.top (b := nI n) (by rw [hu9]; exact hn0) ?_
      refine V.icmp_ge 9 43 dX8_extreme_9 (by decide) (by omega) (by omega) (fun c9 => ?_) (fun c9 => ?_)
      · refine J.aload_n 43 dX8_extreme_43 rfl rfl ?_
        refine J.iconst 44 (nI 0) dX8_extreme_44 (by decide +kernel) ?_
        refine J.aload_n 45 dX8_extreme_45 rfl rfl ?_
        refine V.getR 46 dX8_extreme_46 fl_RX8_7 r_178_0 ?_
        refine J.iconst 49 (nI 0) dX8_extreme_49 (by decide +kernel) ?_
        refine V.iald 50 dX8_extreme_50 a_179 (by omega) ?_
        refine J.top (b := nI n) (by rw [hu9]; exact hn0) ?_
        refine V.callvP 51 dX8_extreme_51 ml_RX8_111 mi_yX8_middle mv_yX8_middle (c_X8_middle w _ (by omega) (by rw [ro_zero, hu9]; exact hf) (by omega) (by omega)) rfl rfl (Nat.le_of_ble_eq_true rfl) (by decide) (by decide) o_178 rfl rfl ?_
        obtain rfl : j = n := by omega
        exact V.iret 54 dX8_extreme_54 (⟨by rw [upR_self]; unfold exF; rw [hi1 _ (by omega), hi1 _ (by omega)], _, rfl⟩)
      · refine J.aload_n 12 dX8_extreme_12 rfl rfl ?_
        refine J.iload_n 13 dX8_extreme_13 rfl rfl ?_
        refine J.aload_n 14 dX8_extreme_14 rfl rfl ?_
        refine J.iconst 15 (nI 0) dX8_extreme_15 (by decide +kernel) ?_
        refine J.iload_n 16 dX8_extreme_16 rfl rfl ?_
        refine V.callvP 17 dX8_extreme_17 ml_RX8_120 mi_yX8_isLiar mv_yX8_isLiar (c_X8_isLiar w _ (by omega)) rfl rfl (Nat.le_of_ble_eq_true rfl) (by decide) (by decide) o_178 rfl rfl ?_
        rw [ro_zero, hu9]
        refine V.if_eqB 20 27 dX8_extreme_20 (by decide) (fun c20 => ?_) (fun c20 => ?_)
        · have eg : exG (v 179) i t j = heF (v 179) j i := by unfold exG; rw [if_neg c20]
          refine J.aload_n 27 dX8_extreme_27 rfl rfl ?_
          refine J.iconst 28 (nI 0) dX8_extreme_28 (by decide +kernel) ?_
          refine J.iload_n 29 dX8_extreme_29 rfl rfl ?_
          refine J.iload_n 30 dX8_extreme_30 rfl rfl ?_
          refine V.callvP 31 dX8_extreme_31 ml_RX8_104 mi_yX8_heardOf mv_yX8_heardOf (c_X8_heardOf w _ (by omega) (by omega) (by omega)) rfl rfl (Nat.le_of_ble_eq_true rfl) (by decide) (by decide) o_178 rfl rfl ?_
          rw [ro_zero, hu9]
          refine V.callvU 34 dX8_extreme_34 ml_RX8_108 mi_yX8_put mv_yX8_put (c_X8_put w _ (by omega)) rfl rfl (Nat.le_of_ble_eq_true rfl) (by decide) (by decide) o_178 rfl rfl (fun v34 h34 => ?_)
          subst h34
          refine V.iinc 37 dX8_extreme_37 rfl (by decide) ?_
          refine J.goto 40 2 dX8_extreme_40 (by decide) ?_
          refine V.heapv (upR_upR _ _ _ _) ?_
          exact ih (j + 1) _ (by omega) (fun k hk => by rw [upR_self]; unfold ordF; rw [eg]; exact putF_congr _ j _ _ hi1 k hk) (by omega)
        · have eg : exG (v 179) i t j = t := by unfold exG; rw [if_pos c20]
          refine J.iload_n 23 dX8_extreme_23 rfl rfl ?_
          refine J.goto 24 34 dX8_extreme_24 (by decide) ?_
          refine V.callvU 34 dX8_extreme_34 ml_RX8_108 mi_yX8_put mv_yX8_put (c_X8_put w _ (by omega)) rfl rfl (Nat.le_of_ble_eq_true rfl) (by decide) (by decide) o_178 rfl rfl (fun v34 h34 => ?_)
          subst h34
          refine V.iinc 37 dX8_extreme_37 rfl (by decide) ?_
          refine J.goto 40 2 dX8_extreme_40 (by decide) ?_
          refine V.heapv (upR_upR _ _ _ _) ?_
          exact ih (j + 1) _ (by omega) (fun k hk => by rw [upR_self]; unfold ordF; rw [eg]; exact putF_congr _ j _ _ hi1 k hk) (by omega)
  refine J.iconst 0 (nI 0) dX8_extreme_0 (by decide +kernel) ?_
  refine J.istore_n 1 dX8_extreme_1 rfl (by decide) ?_
  refine V.heapv (upR_id v 183) ?_
  exact lp (n + 1) 0 _ (by omega) (fun k hk => absurd hk (by omega)) (by omega)
set_option maxHeartbeats 4000000 in
set_option maxRecDepth 100000 in
theorem c_X8_rank (w : Wd) (v : Vm2) {n j i : Nat} (hn0 : v 179 0 = nI n) (hn : n ≤ 8) (hj : j < 8) (hi : i < 8) : CP w yX8_rank cX8_rank 7 (some .int) (rm 2 46) [.ref (wN w + 178), .int (nI j), .int (nI i)] v (nI (rkF (v 179) j i n)) := by
  refine CI.of (by decide) (Nat.le_of_ble_eq_true rfl) ?_
  have lp : ∀ (m : Nat) (k : Nat), (k ≤ n) → n - k < m → J w yX8_rank cX8_rank 7 (some .int) (rm 2 46) XT (ZJ w 185 0 0 (PI w (fun r v' => r = nI (rkF (v 179) j i n) ∧ v' = v))) 14 [(0, .ref (wN w + 178)), (1, .int (nI j)), (2, .int (nI i)), (3, .int (heF (v 179) j i)), (4, .int (nI (rkF (v 179) j i k))), (5, .int (nI k))] [] 185 (hv w (v)) 0 0 := by
    intro m
    induction m with
    | zero =>
      intro k hi0 hm
      exact absurd hm (by omega)
    | succ m ih =>
      intro k hi0 hm
      refine J.iload 14 dX8_rank_14 rfl ?_
      refine J.aload_n 16 dX8_rank_16 rfl rfl ?_
      refine V.getR 17 dX8_rank_17 fl_RX8_7 r_178_0 ?_
      refine J.iconst 20 (nI 0) dX8_rank_20 (by decide +kernel) ?_
      refine V.iald 21 dX8_rank_21 a_179 (by omega) ?_
      refine J.top hn0 ?_
      refine V.icmp_ge 22 69 dX8_rank_22 (by decide) (by omega) (by omega) (fun c22 => ?_) (fun c22 => ?_)
      · refine J.iload 69 dX8_rank_69 rfl ?_
        obtain rfl : k = n := by omega
        exact V.iret 71 dX8_rank_71 (⟨rfl, rfl⟩)
      · refine J.aload_n 25 dX8_rank_25 rfl rfl ?_
        refine J.iconst 26 (nI 0) dX8_rank_26 (by decide +kernel) ?_
        refine J.iload 27 dX8_rank_27 rfl ?_
        refine J.iload_n 29 dX8_rank_29 rfl rfl ?_
        refine V.callvP 30 dX8_rank_30 ml_RX8_104 mi_yX8_heardOf mv_yX8_heardOf (c_X8_heardOf w _ (by omega) (by omega) (by omega)) rfl rfl (Nat.le_of_ble_eq_true rfl) (by decide) (by decide) o_178 rfl rfl ?_
        rw [ro_zero]
        refine J.istore 33 dX8_rank_33 (by decide) ?_
        refine J.iload 35 dX8_rank_35 rfl ?_
        refine J.iload 37 dX8_rank_37 rfl ?_
        refine J.iload_n 39 dX8_rank_39 rfl rfl ?_
        refine J.icmp_lt 40 55 dX8_rank_40 (by decide) (fun c40 => ?_) (fun c40 => ?_)
        · have e1 : rkF (v 179) j i (k + 1) = rkF (v 179) j i k + 1 := by rw [rkF_s, if_pos (Or.inl c40)]
          refine J.iconst 55 (nI 1) dX8_rank_55 (by decide +kernel) ?_
          refine J.goto 56 60 dX8_rank_56 (by decide) ?_
          refine V.iadd 60 dX8_rank_60 ?_
          refine J.istore 61 dX8_rank_61 (by decide) ?_
          refine V.iinc 63 dX8_rank_63 rfl (by decide) ?_
          refine J.goto 66 14 dX8_rank_66 (by decide) ?_
          refine J.drop 6 ?_
          have q := ih (k + 1) (by omega) (by omega)
          rw [e1] at q
          exact q
        · refine J.iload 43 dX8_rank_43 rfl ?_
          refine J.iload_n 45 dX8_rank_45 rfl rfl ?_
          refine J.icmp_ne 46 59 dX8_rank_46 (by decide) (fun c46 => ?_) (fun c46 => ?_)
          · have e1 : rkF (v 179) j i (k + 1) = rkF (v 179) j i k + 0 := by rw [rkF_s, if_neg (fun z => z.elim c40 (fun z => c46 z.1))]
            refine J.iconst 59 (nI 0) dX8_rank_59 (by decide +kernel) ?_
            refine V.iadd 60 dX8_rank_60 ?_
            refine J.istore 61 dX8_rank_61 (by decide) ?_
            refine V.iinc 63 dX8_rank_63 rfl (by decide) ?_
            refine J.goto 66 14 dX8_rank_66 (by decide) ?_
            refine J.drop 6 ?_
            have q := ih (k + 1) (by omega) (by omega)
            rw [e1] at q
            exact q
          · refine J.iload 49 dX8_rank_49 rfl ?_
            refine J.iload_n 51 dX8_rank_51 rfl rfl ?_
            refine V.icmp_ge 52 59 dX8_rank_52 (by decide) (by omega) (by omega) (fun c52 => ?_) (fun c52 => ?_)
            · have e1 : rkF (v 179) j i (k + 1) = rkF (v 179) j i k + 0 := by rw [rkF_s, if_neg (fun z => z.elim c40 (fun z => absurd z.2 (Nat.not_lt.mpr c52)))]
              refine J.iconst 59 (nI 0) dX8_rank_59 (by decide +kernel) ?_
              refine V.iadd 60 dX8_rank_60 ?_
              refine J.istore 61 dX8_rank_61 (by decide) ?_
              refine V.iinc 63 dX8_rank_63 rfl (by decide) ?_
              refine J.goto 66 14 dX8_rank_66 (by decide) ?_
              refine J.drop 6 ?_
              have q := ih (k + 1) (by omega) (by omega)
              rw [e1] at q
              exact q
            · have e1 : rkF (v 179) j i (k + 1) = rkF (v 179) j i k + 1 := by rw [rkF_s, if_pos (Or.inr ⟨c46, c52⟩)]
              refine J.iconst 55 (nI 1) dX8_rank_55 (by decide +kernel) ?_
              refine J.goto 56 60 dX8_rank_56 (by decide) ?_
              refine V.iadd 60 dX8_rank_60 ?_
              refine J.istore 61 dX8_rank_61 (by decide) ?_
              refine V.iinc 63 dX8_rank_63 rfl (by decide) ?_
              refine J.goto 66 14 dX8_rank_66 (by decide) ?_
              refine J.drop 6 ?_
              have q := ih (k + 1) (by omega) (by omega)
              rw [e1] at q
              exact q
  refine J.aload_n 0 dX8_rank_0 rfl rfl ?_
  refine J.iconst 1 (nI 0) dX8_rank_1 (by decide +kernel) ?_
  refine J.iload_n 2 dX8_rank_2 rfl rfl ?_
  refine J.iload_n 3 dX8_rank_3 rfl rfl ?_
  refine V.callvP 4 dX8_rank_4 ml_RX8_104 mi_yX8_heardOf mv_yX8_heardOf (c_X8_heardOf w _ (by omega) (by omega) (by omega)) rfl rfl (Nat.le_of_ble_eq_true rfl) (by decide) (by decide) o_178 rfl rfl ?_
  rw [ro_zero]
  refine J.istore_n 7 dX8_rank_7 rfl (by decide) ?_
  refine J.iconst 8 (nI 0) dX8_rank_8 (by decide +kernel) ?_
  refine J.istore 9 dX8_rank_9 (by decide) ?_
  refine J.iconst 11 (nI 0) dX8_rank_11 (by decide +kernel) ?_
  refine J.istore 12 dX8_rank_12 (by decide) ?_
  exact lp (n + 1) 0 (by omega) (by omega)
set_option maxHeartbeats 4000000 in
set_option maxRecDepth 100000 in
theorem c_X8_mayLie (w : Wd) (v : Vm2) {n : Nat} (hn0 : v 179 0 = nI n) (hn : n ≤ 8) : CP w yX8_mayLie cX8_mayLie 3 (some .int) (rm 0 0) [.ref (wN w + 178)] v (mlF (v 179) n) := by
  refine CI.of (by decide) (Nat.le_of_ble_eq_true rfl) ?_
  have hcs := cntS_le (v 179) n
  have K : J w yX8_mayLie cX8_mayLie 3 (some .int) (rm 0 0) XT (ZJ w 185 0 0 (PI w (fun r v' => r = mlF (v 179) n ∧ v' = v))) 40 [(0, .ref (wN w + 178)), (1, .int (nI (cntS (v 179) n))), (2, .int (nI n))] [] 185 (hv w (v)) 0 0 := by
    refine J.iload_n 40 dX8_mayLie_40 rfl rfl ?_
    refine J.iconst 41 (nI 1) dX8_mayLie_41 (by decide +kernel) ?_
    refine J.isub 42 dX8_mayLie_42 ?_
    refine J.iconst 43 (nI 3) dX8_mayLie_43 (by decide +kernel) ?_
    refine J.idiv 44 dX8_mayLie_44 (by decide) ?_
    refine J.istore_n 45 dX8_mayLie_45 rfl (by decide) ?_
    refine J.iload_n 46 dX8_mayLie_46 rfl rfl ?_
    refine V.if_ne 47 54 dX8_mayLie_47 (by decide) (by omega) (fun c47 => ?_) (fun c47 => ?_)
    · refine J.iload_n 54 dX8_mayLie_54 rfl rfl ?_
      refine J.aload_n 55 dX8_mayLie_55 rfl rfl ?_
      refine V.getR 56 dX8_mayLie_56 fl_RX8_7 r_178_0 ?_
      refine J.iconst 59 (nI 1) dX8_mayLie_59 (by decide +kernel) ?_
      refine V.iald 60 dX8_mayLie_60 a_179 (by omega) ?_
      refine J.icmp_ge 61 68 dX8_mayLie_61 (by decide) (fun c61 => ?_) (fun c61 => ?_)
      · refine J.aload_n 68 dX8_mayLie_68 rfl rfl ?_
        refine V.getR 69 dX8_mayLie_69 fl_RX8_7 r_178_0 ?_
        refine J.iconst 72 (nI 1) dX8_mayLie_72 (by decide +kernel) ?_
        refine V.iald 73 dX8_mayLie_73 a_179 (by omega) ?_
        exact V.iret 74 dX8_mayLie_74 (⟨by unfold mlF; rw [if_neg c47]; first | exact (if_pos c61).symm | exact (if_neg c61).symm, rfl⟩)
      · refine J.iload_n 64 dX8_mayLie_64 rfl rfl ?_
        refine J.goto 65 74 dX8_mayLie_65 (by decide) ?_
        exact V.iret 74 dX8_mayLie_74 (⟨by unfold mlF; rw [if_neg c47]; first | exact (if_pos c61).symm | exact (if_neg c61).symm, rfl⟩)
    · refine J.iconst 50 (-1) dX8_mayLie_50 (by decide +kernel) ?_
      refine J.goto 51 74 dX8_mayLie_51 (by decide) ?_
      exact V.iret 74 dX8_mayLie_74 (⟨by unfold mlF; rw [if_pos c47], rfl⟩)
  have lp : ∀ (m : Nat) (c : Nat), (c ≤ n) → n - c < m → J w yX8_mayLie cX8_mayLie 3 (some .int) (rm 0 0) XT (ZJ w 185 0 0 (PI w (fun r v' => r = mlF (v 179) n ∧ v' = v))) 4 [(0, .ref (wN w + 178)), (1, .int (nI (cntS (v 179) c))), (2, .int (nI c))] [] 185 (hv w (v)) 0 0 := by
    intro m
    induction m with
    | zero =>
      intro c hi0 hm
      exact absurd hm (by omega)
    | succ m ih =>
      intro c hi0 hm
      refine J.iload_n 4 dX8_mayLie_4 rfl rfl ?_
      refine J.aload_n 5 dX8_mayLie_5 rfl rfl ?_
      refine V.getR 6 dX8_mayLie_6 fl_RX8_7 r_178_0 ?_
      refine J.iconst 9 (nI 0) dX8_mayLie_9 (by decide +kernel) ?_
      refine V.iald 10 dX8_mayLie_10 a_179 (by omega) ?_
      refine J.top hn0 ?_
      refine V.icmp_ge 11 40 dX8_mayLie_11 (by decide) (by omega) (by omega) (fun c11 => ?_) (fun c11 => ?_)
      · obtain rfl : c = n := by omega
        exact K
      · refine J.iload_n 14 dX8_mayLie_14 rfl rfl ?_
        refine J.aload_n 15 dX8_mayLie_15 rfl rfl ?_
        refine V.getR 16 dX8_mayLie_16 fl_RX8_7 r_178_0 ?_
        refine J.bipush 19 (nI 35) dX8_mayLie_19 (by decide +kernel) ?_
        refine J.iload_n 21 dX8_mayLie_21 rfl rfl ?_
        refine V.iadd 22 dX8_mayLie_22 ?_
        refine V.iald 23 dX8_mayLie_23 a_179 (by omega) ?_
        refine J.if_ne 24 31 dX8_mayLie_24 (by decide) (fun c24 => ?_) (fun c24 => ?_)
        · have e1 : cntS (v 179) (c + 1) = cntS (v 179) c + 0 := by simp [cntS, c24]
          refine J.iconst 31 (nI 0) dX8_mayLie_31 (by decide +kernel) ?_
          refine V.iadd 32 dX8_mayLie_32 ?_
          refine J.istore_n 33 dX8_mayLie_33 rfl (by decide) ?_
          refine V.iinc 34 dX8_mayLie_34 rfl (by decide) ?_
          refine J.goto 37 4 dX8_mayLie_37 (by decide) ?_
          have q := ih (c + 1) (by omega) (by omega)
          rw [e1] at q
          exact q
        · have e1 : cntS (v 179) (c + 1) = cntS (v 179) c + 1 := by simp [cntS, c24]
          refine J.iconst 27 (nI 1) dX8_mayLie_27 (by decide +kernel) ?_
          refine J.goto 28 32 dX8_mayLie_28 (by decide) ?_
          refine V.iadd 32 dX8_mayLie_32 ?_
          refine J.istore_n 33 dX8_mayLie_33 rfl (by decide) ?_
          refine V.iinc 34 dX8_mayLie_34 rfl (by decide) ?_
          refine J.goto 37 4 dX8_mayLie_37 (by decide) ?_
          have q := ih (c + 1) (by omega) (by omega)
          rw [e1] at q
          exact q
  refine J.iconst 0 (nI 0) dX8_mayLie_0 (by decide +kernel) ?_
  refine J.istore_n 1 dX8_mayLie_1 rfl (by decide) ?_
  refine J.iconst 2 (nI 0) dX8_mayLie_2 (by decide +kernel) ?_
  refine J.istore_n 3 dX8_mayLie_3 rfl (by decide) ?_
  exact lp (n + 1) 0 (by omega) (by omega)
set_option maxHeartbeats 4000000 in
set_option maxRecDepth 100000 in
theorem c_X8_rungSet (w : Wd) (v : Vm2) {ma : Nat} (hm0 : v 179 171 = nI ma) (hma : ma ≤ 6) : CP w yX8_rungSet cX8_rungSet 3 (some .int) (rm 0 0) [.ref (wN w + 178)] v (rsI (v 179) ma) := by
  refine CI.of (by decide) (Nat.le_of_ble_eq_true rfl) ?_
  have lp : ∀ (m : Nat) (a : Nat), (a ≤ ma) → ma - a < m → J w yX8_rungSet cX8_rungSet 3 (some .int) (rm 0 0) XT (ZJ w 185 0 0 (PI w (fun r v' => r = rsI (v 179) ma ∧ v' = v))) 4 [(0, .ref (wN w + 178)), (1, .int (rsI (v 179) a)), (2, .int (nI a))] [] 185 (hv w (v)) 0 0 := by
    intro m
    induction m with
    | zero =>
      intro a hi0 hm
      exact absurd hm (by omega)
    | succ m ih =>
      intro a hi0 hm
      refine J.iload_n 4 dX8_rungSet_4 rfl rfl ?_
      refine J.aload_n 5 dX8_rungSet_5 rfl rfl ?_
      refine V.getR 6 dX8_rungSet_6 fl_RX8_7 r_178_0 ?_
      refine J.sipush 9 (nI 171) dX8_rungSet_9 (by decide +kernel) ?_
      refine V.iald 12 dX8_rungSet_12 a_179 (by omega) ?_
      refine J.top hm0 ?_
      refine V.icmp_ge 13 37 dX8_rungSet_13 (by decide) (by omega) (by omega) (fun c13 => ?_) (fun c13 => ?_)
      · refine J.iload_n 37 dX8_rungSet_37 rfl rfl ?_
        obtain rfl : a = ma := by omega
        exact V.iret 38 dX8_rungSet_38 (⟨rfl, rfl⟩)
      · refine J.iload_n 16 dX8_rungSet_16 rfl rfl ?_
        refine J.aload_n 17 dX8_rungSet_17 rfl rfl ?_
        refine V.getR 18 dX8_rungSet_18 fl_RX8_7 r_178_0 ?_
        refine J.sipush 21 (nI 184) dX8_rungSet_21 (by decide +kernel) ?_
        refine J.iload_n 24 dX8_rungSet_24 rfl rfl ?_
        refine V.iadd 25 dX8_rungSet_25 ?_
        refine V.iald 26 dX8_rungSet_26 a_179 (by omega) ?_
        refine J.iload_n 27 dX8_rungSet_27 rfl rfl ?_
        refine J.ishl 28 dX8_rungSet_28 ?_
        refine J.ior 29 dX8_rungSet_29 ?_
        refine J.istore_n 30 dX8_rungSet_30 rfl (by decide) ?_
        refine V.iinc 31 dX8_rungSet_31 rfl (by decide) ?_
        refine J.goto 34 4 dX8_rungSet_34 (by decide) ?_
        exact ih (a + 1) (by omega) (by omega)
  refine J.iconst 0 (nI 0) dX8_rungSet_0 (by decide +kernel) ?_
  refine J.istore_n 1 dX8_rungSet_1 rfl (by decide) ?_
  refine J.iconst 2 (nI 0) dX8_rungSet_2 (by decide +kernel) ?_
  refine J.istore_n 3 dX8_rungSet_3 rfl (by decide) ?_
  exact lp (ma + 1) 0 (by omega) (by omega)
end
section
/-! ===== part 14: the reference: worst, farthest, sets, remember, draws ===== -/
def lkF (k : Nat) : Int32 := nI 9999 * (nI k - nI 1)
def frD (ρ : Nat → Int32) (n f j i : Nat) (x : Int32) : Int32 := mdF (upd ρ (107 + 8 * j + i) x) n f i - aimF (upd ρ (107 + 8 * j + i) x) i
def abF (d : Int32) : Int32 := if 0 ≤ d then d else -d
def frS (ρ : Nat → Int32) (n f j i : Nat) : Nat → Int32 × Int32
  | 0 => (nI 0, -1)
  | k + 1 => (if abF (frD ρ n f j i (lkF k)) ≤ (frS ρ n f j i k).2 then (frS ρ n f j i k).1 else lkF k + nI 9999, if abF (frD ρ n f j i (lkF k)) ≤ (frS ρ n f j i k).2 then (frS ρ n f j i k).2 else abF (frD ρ n f j i (lkF k)))
def frF (ρ : Nat → Int32) (n f j i : Nat) : Int32 := if trF ρ i ∧ liF ρ j then (frS ρ n f j i 3).1 else -1
theorem upd_upd (f : Nat → Int32) (k : Nat) (a b : Int32) : upd (upd f k a) k b = upd f k b := by
  funext j
  by_cases h : j = k
  · simp [upd, h]
  · simp [upd, h]
theorem upd_id (f : Nat → Int32) (k : Nat) : upd f k (f k) = f := by
  funext j
  by_cases h : j = k
  · simp [upd, h]
  · simp [upd, h]
theorem upd_self (f : Nat → Int32) (k : Nat) (x : Int32) : upd f k x k = x := by simp [upd]
theorem upd_ne (f : Nat → Int32) {k j : Nat} (x : Int32) (h : j ≠ k) : upd f k x j = f j := by simp [upd, h]
abbrev boW (ρ bo ba : Nat → Int32) (n k : Nat) : Prop := ¬ (clkB n (bo k) ∧ aimF ρ (bo k).toNatClampNeg = ba k)
def weF (ρ bo ba : Nat → Int32) (n : Nat) : Nat → Nat → Int32
  | 0, _ => -1
  | m + 1, k => if boW ρ bo ba n k then nI k else weF ρ bo ba n m (k + 1)
/-- the rows ahead are moved down by one, up to row k -/
def shK (v : Vm2) (k : Nat) : Vm2 := fun a b => if a = 179 ∧ 192 ≤ b ∧ b < 192 * k then v 179 (b + 192) else v a b
theorem shK_1 (v : Vm2) : v = shK v 1 := by
  funext a b
  simp only [shK]
  rw [if_neg (by omega)]
theorem shK_s (v : Vm2) (k : Nat) (hk : 1 ≤ k) (h16 : k < 16) : cpR (shK v k) (192 * (k + 1)) (192 * k) = shK v (k + 1) := by
  funext a b
  simp only [cpK, shK]
  by_cases h : a = 179 ∧ 192 * k ≤ b ∧ b < 192 * k + 192
  · rw [if_pos h, if_neg (by omega), if_pos (by omega)]
    congr 1
    omega
  · rw [if_neg h]
    by_cases h2 : a = 179 ∧ 192 ≤ b ∧ b < 192 * k
    · rw [if_pos h2, if_pos (by omega)]
    · rw [if_neg h2, if_neg (by omega)]
def rmF (v : Vm2) (K : Nat) : Vm2 := if K = 16 then up2 (cpR (up2 (shK v 16) 178 1 (nI 15)) 0 (192 * (15 + 1))) 178 1 (nI 16) else up2 (cpR v 0 (192 * (K + 1))) 178 1 (nI (K + 1))
def sdF (s : Int32) : Int32 := (s.toInt64 * 1103515245 + 12345 - (s.toInt64 * 1103515245 + 12345) / 2147483648 * 2147483648).toInt32
def drF (s n : Int32) : Int32 := sdF s / nI 65536 - sdF s / nI 65536 / n * n

set_option maxHeartbeats 4000000 in
set_option maxRecDepth 100000 in
theorem c_X8_worst (w : Wd) (v : Vm2) {n f : Nat} (hn0 : v 179 0 = nI n) (hf : v 179 1 = nI f) (hn : n ≤ 8) (hf3 : f < 4) : CI w yX8_worst cX8_worst 7 (some .int) (rm 3 69) [.ref (wN w + 178)] v (fun r v' => r = wrF (v 179) n f ∧ ∃ o, v' = upR v 183 o) := by
  refine CI.of (by decide) (Nat.le_of_ble_eq_true rfl) ?_
  have hu9 : ∀ o, upR v 183 o 179 = v 179 := fun o => upR_ne v o (by decide)
  have lo : ¬ cntT (v 179) n < 2 → ¬ n ≤ 2 * f → ¬ f < cntL (v 179) n → ∀ (m i : Nat) (o : Nat → Int32), i ≤ n → n - i < m → J w yX8_worst cX8_worst 7 (some .int) (rm 3 69) XT (ZJ w 185 0 0 (PI w (fun r v' => r = wrF (v 179) n f ∧ ∃ o, v' = upR v 183 o))) 92 [(0, .ref (wN w + 178)), (1, .int (nI (cntT (v 179) n))), (2, .int (wOut (v 179) n f i)), (3, .int (nI i))] [] 185 (hv w (upR v 183 o)) 0 0 := by
    intro q1 q2 q3 m
    induction m with
    | zero =>
      intro i o hi0 hm
      exact absurd hm (by omega)
    | succ m ih =>
      intro i o hi0 hm
      refine J.iload_n 92 dX8_worst_92 rfl rfl ?_
      refine J.aload_n 93 dX8_worst_93 rfl rfl ?_
      refine V.getR 94 dX8_worst_94 fl_RX8_7 r_178_0 ?_
      refine J.iconst 97 (nI 0) dX8_worst_97 (by decide +kernel) ?_
      refine V.iald 98 dX8_worst_98 a_179 (by omega) ?_
      refine J.top (b := nI n) (by rw [hu9]; exact hn0) ?_
      refine V.icmp_ge 99 200 dX8_worst_99 (by decide) (by omega) (by omega) (fun c99 => ?_) (fun c99 => ?_)
      · refine J.iload_n 200 dX8_worst_200 rfl rfl ?_
        obtain rfl : i = n := by omega
        exact V.iret 201 dX8_worst_201 (⟨by unfold wrF; rw [if_neg q1, if_neg q2, if_neg q3], _, rfl⟩)
      · have C : ∀ o, J w yX8_worst cX8_worst 7 (some .int) (rm 3 69) XT (ZJ w 185 0 0 (PI w (fun r v' => r = wrF (v 179) n f ∧ ∃ o, v' = upR v 183 o))) 194 [(0, .ref (wN w + 178)), (1, .int (nI (cntT (v 179) n))), (2, .int (wOut (v 179) n f (i + 1))), (3, .int (nI i)), (4, .int (nI n))] [] 185 (hv w (upR v 183 o)) 0 0 := by
          intro o
          refine V.iinc 194 dX8_worst_194 rfl (by decide) ?_
          refine J.goto 197 92 dX8_worst_197 (by decide) ?_
          refine J.drop 4 ?_
          exact ih (i + 1) _ (by omega) (by omega)
        have lk : ∀ (m : Nat) (k : Nat) (o : Nat → Int32), (k ≤ n) → n - k < m → J w yX8_worst cX8_worst 7 (some .int) (rm 3 69) XT (ZJ w 185 0 0 (PI w (fun r v' => r = wrF (v 179) n f ∧ ∃ o, v' = upR v 183 o))) 105 [(0, .ref (wN w + 178)), (1, .int (nI (cntT (v 179) n))), (2, .int (wIn (v 179) n f i k (wOut (v 179) n f i))), (3, .int (nI i)), (4, .int (nI k))] [] 185 (hv w (upR v 183 o)) 0 0 := by
          intro m
          induction m with
          | zero =>
            intro k o hi0 hm
            exact absurd hm (by omega)
          | succ m ihk =>
            intro k o hi0 hm
            refine J.iload 105 dX8_worst_105 rfl ?_
            refine J.aload_n 107 dX8_worst_107 rfl rfl ?_
            refine V.getR 108 dX8_worst_108 fl_RX8_7 r_178_0 ?_
            refine J.iconst 111 (nI 0) dX8_worst_111 (by decide +kernel) ?_
            refine V.iald 112 dX8_worst_112 a_179 (by omega) ?_
            refine J.top (b := nI n) (by rw [hu9]; exact hn0) ?_
            refine V.icmp_ge 113 194 dX8_worst_113 (by decide) (by omega) (by omega) (fun c113 => ?_) (fun c113 => ?_)
            · obtain rfl : k = n := by omega
              exact C o
            · refine J.iload_n 116 dX8_worst_116 rfl rfl ?_
              refine J.iload 117 dX8_worst_117 rfl ?_
              refine V.icmp_eq 119 145 dX8_worst_119 (by decide) (by omega) (by omega) (fun c119 => ?_) (fun c119 => ?_)
              · have ef : wfar (v 179) n f i k = nI 0 := by unfold wfar; rw [if_neg (fun z => z.1 c119)]
                refine J.iconst 145 (nI 0) dX8_worst_145 (by decide +kernel) ?_
                refine J.istore 146 dX8_worst_146 (by decide) ?_
                refine J.iload 148 dX8_worst_148 rfl ?_
                refine J.if_eq 150 172 dX8_worst_150 (by decide) (fun _ => ?_) (fun q => absurd q (by decide))
                refine J.iconst 172 (nI 0) dX8_worst_172 (by decide +kernel) ?_
                refine J.istore 173 dX8_worst_173 (by decide) ?_
                refine J.iload 175 dX8_worst_175 rfl ?_
                refine J.iload_n 177 dX8_worst_177 rfl rfl ?_
                refine J.icmp_le 178 186 dX8_worst_178 (by decide) (fun c178 => ?_) (fun c178 => ?_)
                · have e4 : wIn (v 179) n f i (k + 1) (wOut (v 179) n f i) = wIn (v 179) n f i k (wOut (v 179) n f i) := by show (if _ ≤ _ then _ else _) = _; rw [ef]; rw [if_pos c178]
                  refine J.iload_n 186 dX8_worst_186 rfl rfl ?_
                  refine J.istore_n 187 dX8_worst_187 rfl (by decide) ?_
                  refine V.iinc 188 dX8_worst_188 rfl (by decide) ?_
                  refine J.goto 191 105 dX8_worst_191 (by decide) ?_
                  refine J.drop 5 ?_
                  refine J.drop 6 ?_
                  have q := fun o => ihk (k + 1) o (by omega) (by omega)
                  simp only [e4] at q
                  exact q _
                · have e4 : wIn (v 179) n f i (k + 1) (wOut (v 179) n f i) = wfar (v 179) n f i k := by show (if _ ≤ _ then _ else _) = _; rw [ef]; rw [if_neg c178]
                  rw [ef] at e4
                  refine J.iload 181 dX8_worst_181 rfl ?_
                  refine J.goto 183 187 dX8_worst_183 (by decide) ?_
                  refine J.istore_n 187 dX8_worst_187 rfl (by decide) ?_
                  refine V.iinc 188 dX8_worst_188 rfl (by decide) ?_
                  refine J.goto 191 105 dX8_worst_191 (by decide) ?_
                  refine J.drop 5 ?_
                  refine J.drop 6 ?_
                  have q := fun o => ihk (k + 1) o (by omega) (by omega)
                  simp only [e4] at q
                  exact q _
              · refine J.aload_n 122 dX8_worst_122 rfl rfl ?_
                refine J.iconst 123 (nI 0) dX8_worst_123 (by decide +kernel) ?_
                refine J.iload_n 124 dX8_worst_124 rfl rfl ?_
                refine V.callvP 125 dX8_worst_125 ml_RX8_114 mi_yX8_isTrue mv_yX8_isTrue (c_X8_isTrue w _ (by omega)) rfl rfl (Nat.le_of_ble_eq_true rfl) (by decide) (by decide) o_178 rfl rfl ?_
                rw [ro_zero, hu9]
                refine V.if_eqB 128 145 dX8_worst_128 (by decide) (fun c128 => ?_) (fun c128 => ?_)
                · have ef : wfar (v 179) n f i k = nI 0 := by unfold wfar; rw [if_neg (fun z => c128 z.2.1)]
                  refine J.iconst 145 (nI 0) dX8_worst_145 (by decide +kernel) ?_
                  refine J.istore 146 dX8_worst_146 (by decide) ?_
                  refine J.iload 148 dX8_worst_148 rfl ?_
                  refine J.if_eq 150 172 dX8_worst_150 (by decide) (fun _ => ?_) (fun q => absurd q (by decide))
                  refine J.iconst 172 (nI 0) dX8_worst_172 (by decide +kernel) ?_
                  refine J.istore 173 dX8_worst_173 (by decide) ?_
                  refine J.iload 175 dX8_worst_175 rfl ?_
                  refine J.iload_n 177 dX8_worst_177 rfl rfl ?_
                  refine J.icmp_le 178 186 dX8_worst_178 (by decide) (fun c178 => ?_) (fun c178 => ?_)
                  · have e4 : wIn (v 179) n f i (k + 1) (wOut (v 179) n f i) = wIn (v 179) n f i k (wOut (v 179) n f i) := by show (if _ ≤ _ then _ else _) = _; rw [ef]; rw [if_pos c178]
                    refine J.iload_n 186 dX8_worst_186 rfl rfl ?_
                    refine J.istore_n 187 dX8_worst_187 rfl (by decide) ?_
                    refine V.iinc 188 dX8_worst_188 rfl (by decide) ?_
                    refine J.goto 191 105 dX8_worst_191 (by decide) ?_
                    refine J.drop 5 ?_
                    refine J.drop 6 ?_
                    have q := fun o => ihk (k + 1) o (by omega) (by omega)
                    simp only [e4] at q
                    exact q _
                  · have e4 : wIn (v 179) n f i (k + 1) (wOut (v 179) n f i) = wfar (v 179) n f i k := by show (if _ ≤ _ then _ else _) = _; rw [ef]; rw [if_neg c178]
                    rw [ef] at e4
                    refine J.iload 181 dX8_worst_181 rfl ?_
                    refine J.goto 183 187 dX8_worst_183 (by decide) ?_
                    refine J.istore_n 187 dX8_worst_187 rfl (by decide) ?_
                    refine V.iinc 188 dX8_worst_188 rfl (by decide) ?_
                    refine J.goto 191 105 dX8_worst_191 (by decide) ?_
                    refine J.drop 5 ?_
                    refine J.drop 6 ?_
                    have q := fun o => ihk (k + 1) o (by omega) (by omega)
                    simp only [e4] at q
                    exact q _
                · refine J.aload_n 131 dX8_worst_131 rfl rfl ?_
                  refine J.iconst 132 (nI 0) dX8_worst_132 (by decide +kernel) ?_
                  refine J.iload 133 dX8_worst_133 rfl ?_
                  refine V.callvP 135 dX8_worst_135 ml_RX8_114 mi_yX8_isTrue mv_yX8_isTrue (c_X8_isTrue w _ (by omega)) rfl rfl (Nat.le_of_ble_eq_true rfl) (by decide) (by decide) o_178 rfl rfl ?_
                  rw [ro_zero, hu9]
                  refine V.if_eqB 138 145 dX8_worst_138 (by decide) (fun c138 => ?_) (fun c138 => ?_)
                  · have ef : wfar (v 179) n f i k = nI 0 := by unfold wfar; rw [if_neg (fun z => c138 z.2.2)]
                    refine J.iconst 145 (nI 0) dX8_worst_145 (by decide +kernel) ?_
                    refine J.istore 146 dX8_worst_146 (by decide) ?_
                    refine J.iload 148 dX8_worst_148 rfl ?_
                    refine J.if_eq 150 172 dX8_worst_150 (by decide) (fun _ => ?_) (fun q => absurd q (by decide))
                    refine J.iconst 172 (nI 0) dX8_worst_172 (by decide +kernel) ?_
                    refine J.istore 173 dX8_worst_173 (by decide) ?_
                    refine J.iload 175 dX8_worst_175 rfl ?_
                    refine J.iload_n 177 dX8_worst_177 rfl rfl ?_
                    refine J.icmp_le 178 186 dX8_worst_178 (by decide) (fun c178 => ?_) (fun c178 => ?_)
                    · have e4 : wIn (v 179) n f i (k + 1) (wOut (v 179) n f i) = wIn (v 179) n f i k (wOut (v 179) n f i) := by show (if _ ≤ _ then _ else _) = _; rw [ef]; rw [if_pos c178]
                      refine J.iload_n 186 dX8_worst_186 rfl rfl ?_
                      refine J.istore_n 187 dX8_worst_187 rfl (by decide) ?_
                      refine V.iinc 188 dX8_worst_188 rfl (by decide) ?_
                      refine J.goto 191 105 dX8_worst_191 (by decide) ?_
                      refine J.drop 5 ?_
                      refine J.drop 6 ?_
                      have q := fun o => ihk (k + 1) o (by omega) (by omega)
                      simp only [e4] at q
                      exact q _
                    · have e4 : wIn (v 179) n f i (k + 1) (wOut (v 179) n f i) = wfar (v 179) n f i k := by show (if _ ≤ _ then _ else _) = _; rw [ef]; rw [if_neg c178]
                      rw [ef] at e4
                      refine J.iload 181 dX8_worst_181 rfl ?_
                      refine J.goto 183 187 dX8_worst_183 (by decide) ?_
                      refine J.istore_n 187 dX8_worst_187 rfl (by decide) ?_
                      refine V.iinc 188 dX8_worst_188 rfl (by decide) ?_
                      refine J.goto 191 105 dX8_worst_191 (by decide) ?_
                      refine J.drop 5 ?_
                      refine J.drop 6 ?_
                      have q := fun o => ihk (k + 1) o (by omega) (by omega)
                      simp only [e4] at q
                      exact q _
                  · have ef : wfar (v 179) n f i k = exF (v 179) n f i (nI 500000000) - exF (v 179) n f k (-500000000) := by unfold wfar; rw [if_pos ⟨c119, c128, c138⟩]
                    refine J.iconst 141 (nI 1) dX8_worst_141 (by decide +kernel) ?_
                    refine J.goto 142 146 dX8_worst_142 (by decide) ?_
                    refine J.istore 146 dX8_worst_146 (by decide) ?_
                    refine J.iload 148 dX8_worst_148 rfl ?_
                    refine J.if_eq 150 172 dX8_worst_150 (by decide) (fun q => absurd q (by decide)) (fun _ => ?_)
                    refine J.aload_n 153 dX8_worst_153 rfl rfl ?_
                    refine J.iload_n 154 dX8_worst_154 rfl rfl ?_
                    refine J.ldc 155 (500000000) dX8_worst_155 kc_RX8_131 (J.top (b := nI 500000000) (by decide +kernel) ?_)
                    refine V.callv 157 dX8_worst_157 ml_RX8_132 mi_yX8_extreme mv_yX8_extreme (c_X8_extreme w _ (by rw [hu9]; exact hn0) (by rw [hu9]; exact hf) (by omega) (by omega) (by omega)) rfl rfl (Nat.le_of_ble_eq_true rfl) (by decide) (by decide) o_178 rfl rfl (fun r157 v157 h157 => ?_)
                    obtain ⟨rfl, o157, rfl⟩ := h157
                    rw [hu9]
                    refine V.heapv (upR_upR _ _ _ _) ?_
                    refine J.aload_n 160 dX8_worst_160 rfl rfl ?_
                    refine J.iload 161 dX8_worst_161 rfl ?_
                    refine J.ldc 163 (-500000000) dX8_worst_163 kc_RX8_135 ?_
                    refine V.callv 165 dX8_worst_165 ml_RX8_132 mi_yX8_extreme mv_yX8_extreme (c_X8_extreme w _ (by rw [hu9]; exact hn0) (by rw [hu9]; exact hf) (by omega) (by omega) (by omega)) rfl rfl (Nat.le_of_ble_eq_true rfl) (by decide) (by decide) o_178 rfl rfl (fun r165 v165 h165 => ?_)
                    obtain ⟨rfl, o165, rfl⟩ := h165
                    rw [hu9]
                    refine V.heapv (upR_upR _ _ _ _) ?_
                    refine J.isub 168 dX8_worst_168 ?_
                    refine J.goto 169 173 dX8_worst_169 (by decide) ?_
                    refine J.istore 173 dX8_worst_173 (by decide) ?_
                    refine J.iload 175 dX8_worst_175 rfl ?_
                    refine J.iload_n 177 dX8_worst_177 rfl rfl ?_
                    refine J.icmp_le 178 186 dX8_worst_178 (by decide) (fun c178 => ?_) (fun c178 => ?_)
                    · have e4 : wIn (v 179) n f i (k + 1) (wOut (v 179) n f i) = wIn (v 179) n f i k (wOut (v 179) n f i) := by show (if _ ≤ _ then _ else _) = _; rw [ef]; rw [if_pos c178]
                      refine J.iload_n 186 dX8_worst_186 rfl rfl ?_
                      refine J.istore_n 187 dX8_worst_187 rfl (by decide) ?_
                      refine V.iinc 188 dX8_worst_188 rfl (by decide) ?_
                      refine J.goto 191 105 dX8_worst_191 (by decide) ?_
                      refine J.drop 5 ?_
                      refine J.drop 6 ?_
                      have q := fun o => ihk (k + 1) o (by omega) (by omega)
                      simp only [e4] at q
                      exact q _
                    · have e4 : wIn (v 179) n f i (k + 1) (wOut (v 179) n f i) = wfar (v 179) n f i k := by show (if _ ≤ _ then _ else _) = _; rw [ef]; rw [if_neg c178]
                      rw [ef] at e4
                      refine J.iload 181 dX8_worst_181 rfl ?_
                      refine J.goto 183 187 dX8_worst_183 (by decide) ?_
                      refine J.istore_n 187 dX8_worst_187 rfl (by decide) ?_
                      refine V.iinc 188 dX8_worst_188 rfl (by decide) ?_
                      refine J.goto 191 105 dX8_worst_191 (by decide) ?_
                      refine J.drop 5 ?_
                      refine J.drop 6 ?_
                      have q := fun o => ihk (k + 1) o (by omega) (by omega)
                      simp only [e4] at q
                      exact q _
        refine J.iconst 102 (nI 0) dX8_worst_102 (by decide +kernel) ?_
        refine J.istore 103 dX8_worst_103 (by decide) ?_
        exact lk (n + 1) 0 o (by omega) (by omega)
  have hct := cntT_le (v 179) n
  have hcl := cntL_le (v 179) n
  have K : J w yX8_worst cX8_worst 7 (some .int) (rm 3 69) XT (ZJ w 185 0 0 (PI w (fun r v' => r = wrF (v 179) n f ∧ ∃ o, v' = upR v 183 o))) 39 [(0, .ref (wN w + 178)), (1, .int (nI (cntT (v 179) n))), (2, .int (nI 0)), (3, .int (nI n))] [] 185 (hv w (v)) 0 0 := by
    refine J.iload_n 39 dX8_worst_39 rfl rfl ?_
    refine J.iconst 40 (nI 2) dX8_worst_40 (by decide +kernel) ?_
    refine V.icmp_ge 41 54 dX8_worst_41 (by decide) (by omega) (by omega) (fun c41 => ?_) (fun c41 => ?_)
    · refine J.aload_n 54 dX8_worst_54 rfl rfl ?_
      refine J.iconst 55 (nI 0) dX8_worst_55 (by decide +kernel) ?_
      refine J.aload_n 56 dX8_worst_56 rfl rfl ?_
      refine V.getR 57 dX8_worst_57 fl_RX8_7 r_178_0 ?_
      refine J.iconst 60 (nI 0) dX8_worst_60 (by decide +kernel) ?_
      refine V.iald 61 dX8_worst_61 a_179 (by omega) ?_
      refine J.top hn0 ?_
      refine V.callvP 62 dX8_worst_62 ml_RX8_100 mi_yX8_allStruck mv_yX8_allStruck (c_X8_allStruck w _ (by omega) (by rw [ro_zero]; exact hf) (by omega) (by omega)) rfl rfl (Nat.le_of_ble_eq_true rfl) (by decide) (by decide) o_178 rfl rfl ?_
      refine V.if_eqB 65 74 dX8_worst_65 (by decide) (fun c65 => ?_) (fun c65 => ?_)
      · refine J.aload_n 74 dX8_worst_74 rfl rfl ?_
        refine V.callvP 75 dX8_worst_75 ml_RX8_127 mi_yX8_liars mv_yX8_liars (c_X8_liars w _ hn0 (by omega)) rfl rfl (Nat.le_of_ble_eq_true rfl) (by decide) (by decide) o_178 rfl rfl ?_
        refine J.aload_n 78 dX8_worst_78 rfl rfl ?_
        refine V.getR 79 dX8_worst_79 fl_RX8_7 r_178_0 ?_
        refine J.iconst 82 (nI 1) dX8_worst_82 (by decide +kernel) ?_
        refine V.iald 83 dX8_worst_83 a_179 (by omega) ?_
        refine J.top hf ?_
        refine V.icmp_le 84 90 dX8_worst_84 (by decide) (by omega) (by omega) (fun c84 => ?_) (fun c84 => ?_)
        · refine J.iconst 90 (nI 0) dX8_worst_90 (by decide +kernel) ?_
          refine J.istore_n 91 dX8_worst_91 rfl (by decide) ?_
          refine V.heapv (upR_id v 183) ?_
          exact lo (by omega) c65 (by omega) (n + 1) 0 _ (by omega) (by omega)
        · refine J.ldc 87 (1000000) dX8_worst_87 kc_RX8_130 (J.top (b := nI 1000000) (by decide +kernel) ?_)
          exact V.iret 89 dX8_worst_89 (⟨by unfold wrF; rw [if_neg (by omega), if_neg c65, if_pos (by omega)], _, upR_id v 183⟩)
      · refine J.aload_n 68 dX8_worst_68 rfl rfl ?_
        refine J.iconst 69 (nI 0) dX8_worst_69 (by decide +kernel) ?_
        refine V.callvP 70 dX8_worst_70 ml_RX8_123 mi_yX8_apart mv_yX8_apart (c_X8_apart w _ (by omega) hn0 (by omega)) rfl rfl (Nat.le_of_ble_eq_true rfl) (by decide) (by decide) o_178 rfl rfl ?_
        rw [ro_zero]
        exact V.iret 73 dX8_worst_73 (⟨by unfold wrF; rw [if_neg (by omega), if_pos c65], _, upR_id v 183⟩)
    · refine J.iload_n 44 dX8_worst_44 rfl rfl ?_
      refine V.if_ne 45 52 dX8_worst_45 (by decide) (by omega) (fun c45 => ?_) (fun c45 => ?_)
      · refine J.iconst 52 (nI 0) dX8_worst_52 (by decide +kernel) ?_
        exact V.iret 53 dX8_worst_53 (⟨by unfold wrF; rw [if_pos c41]; first | exact (if_pos c45).symm | exact (if_neg c45).symm, _, upR_id v 183⟩)
      · refine J.iconst 48 (-1) dX8_worst_48 (by decide +kernel) ?_
        refine J.goto 49 53 dX8_worst_49 (by decide) ?_
        exact V.iret 53 dX8_worst_53 (⟨by unfold wrF; rw [if_pos c41]; first | exact (if_pos c45).symm | exact (if_neg c45).symm, _, upR_id v 183⟩)
  have lp : ∀ (m : Nat) (c : Nat), (c ≤ n) → n - c < m → J w yX8_worst cX8_worst 7 (some .int) (rm 3 69) XT (ZJ w 185 0 0 (PI w (fun r v' => r = wrF (v 179) n f ∧ ∃ o, v' = upR v 183 o))) 6 [(0, .ref (wN w + 178)), (1, .int (nI (cntT (v 179) c))), (2, .int (nI 0)), (3, .int (nI c))] [] 185 (hv w (v)) 0 0 := by
    intro m
    induction m with
    | zero =>
      intro c hi0 hm
      exact absurd hm (by omega)
    | succ m ih =>
      intro c hi0 hm
      refine J.iload_n 6 dX8_worst_6 rfl rfl ?_
      refine J.aload_n 7 dX8_worst_7 rfl rfl ?_
      refine V.getR 8 dX8_worst_8 fl_RX8_7 r_178_0 ?_
      refine J.iconst 11 (nI 0) dX8_worst_11 (by decide +kernel) ?_
      refine V.iald 12 dX8_worst_12 a_179 (by omega) ?_
      refine J.top hn0 ?_
      refine V.icmp_ge 13 39 dX8_worst_13 (by decide) (by omega) (by omega) (fun c13 => ?_) (fun c13 => ?_)
      · obtain rfl : c = n := by omega
        exact K
      · refine J.iload_n 16 dX8_worst_16 rfl rfl ?_
        refine J.aload_n 17 dX8_worst_17 rfl rfl ?_
        refine J.iconst 18 (nI 0) dX8_worst_18 (by decide +kernel) ?_
        refine J.iload_n 19 dX8_worst_19 rfl rfl ?_
        refine V.callvP 20 dX8_worst_20 ml_RX8_114 mi_yX8_isTrue mv_yX8_isTrue (c_X8_isTrue w _ (by omega)) rfl rfl (Nat.le_of_ble_eq_true rfl) (by decide) (by decide) o_178 rfl rfl ?_
        rw [ro_zero]
        refine V.if_eqB 23 30 dX8_worst_23 (by decide) (fun c23 => ?_) (fun c23 => ?_)
        · have e1 : cntT (v 179) (c + 1) = cntT (v 179) c + 0 := by simp [cntT, c23]
          refine J.iconst 30 (nI 0) dX8_worst_30 (by decide +kernel) ?_
          refine V.iadd 31 dX8_worst_31 ?_
          refine J.istore_n 32 dX8_worst_32 rfl (by decide) ?_
          refine V.iinc 33 dX8_worst_33 rfl (by decide) ?_
          refine J.goto 36 6 dX8_worst_36 (by decide) ?_
          have q := ih (c + 1) (by omega) (by omega)
          rw [e1] at q
          exact q
        · have e1 : cntT (v 179) (c + 1) = cntT (v 179) c + 1 := by simp [cntT, c23]
          refine J.iconst 26 (nI 1) dX8_worst_26 (by decide +kernel) ?_
          refine J.goto 27 31 dX8_worst_27 (by decide) ?_
          refine V.iadd 31 dX8_worst_31 ?_
          refine J.istore_n 32 dX8_worst_32 rfl (by decide) ?_
          refine V.iinc 33 dX8_worst_33 rfl (by decide) ?_
          refine J.goto 36 6 dX8_worst_36 (by decide) ?_
          have q := ih (c + 1) (by omega) (by omega)
          rw [e1] at q
          exact q
  refine J.iconst 0 (nI 0) dX8_worst_0 (by decide +kernel) ?_
  refine J.istore_n 1 dX8_worst_1 rfl (by decide) ?_
  refine J.iconst 2 (nI 0) dX8_worst_2 (by decide +kernel) ?_
  refine J.istore_n 3 dX8_worst_3 rfl (by decide) ?_
  refine J.iconst 4 (nI 0) dX8_worst_4 (by decide +kernel) ?_
  refine J.istore_n 5 dX8_worst_5 rfl (by decide) ?_
  exact lp (n + 1) 0 (by omega) (by omega)
end
section
set_option maxHeartbeats 4000000 in
set_option maxRecDepth 100000 in
theorem c_X8_farthest (w : Wd) (v : Vm2) {n f j i : Nat} (hn0 : v 179 0 = nI n) (hf : v 179 1 = nI f) (hn : n ≤ 8) (hf3 : f < 4) (hj : j < n) (hi : i < n) : CI w yX8_farthest cX8_farthest 9 (some .int) (rm 3 69) [.ref (wN w + 178), .int (nI j), .int (nI i)] v (fun r v' => r = frF (v 179) n f j i ∧ ∃ o, v' = upR v 183 o) := by
  refine CI.of (by decide) (Nat.le_of_ble_eq_true rfl) ?_
  have lp : trF (v 179) i → liF (v 179) j → ∀ (m k : Nat) (o g : Nat → Int32), k ≤ 3 → (∀ y, upd g (107 + 8 * j + i) y = upd (v 179) (107 + 8 * j + i) y) → 3 - k < m → J w yX8_farthest cX8_farthest 9 (some .int) (rm 3 69) XT (ZJ w 185 0 0 (PI w (fun r v' => r = frF (v 179) n f j i ∧ ∃ o, v' = upR v 183 o))) 47 [(0, .ref (wN w + 178)), (1, .int (nI j)), (2, .int (nI i)), (3, .int (nI (107 + 8 * j + i))), (4, .int (v 179 (107 + 8 * j + i))), (5, .int (frS (v 179) n f j i k).1), (6, .int (frS (v 179) n f j i k).2), (7, .int (nI k))] [] 185 (hv w (upR (upR v 183 o) 179 g)) 0 0 := by
    intro q1 q2 m
    induction m with
    | zero =>
      intro k o g hi0 hi1 hm
      exact absurd hm (by omega)
    | succ m ih =>
      intro k o g hi0 hi1 hm
      refine J.iload 47 dX8_farthest_47 rfl ?_
      refine J.iconst 49 (nI 3) dX8_farthest_49 (by decide +kernel) ?_
      refine V.icmp_ge 50 143 dX8_farthest_50 (by decide) (by omega) (by omega) (fun c50 => ?_) (fun c50 => ?_)
      · refine J.aload_n 143 dX8_farthest_143 rfl rfl ?_
        refine V.getR 144 dX8_farthest_144 fl_RX8_7 r_178_0 ?_
        refine J.iload_n 147 dX8_farthest_147 rfl rfl ?_
        refine J.iload 148 dX8_farthest_148 rfl ?_
        refine V.iast 150 dX8_farthest_150 a_179 (by omega) ?_
        refine V.heapv (up2_upR _ _ _ _ _) ?_
        refine J.iload 151 dX8_farthest_151 rfl ?_
        obtain rfl : k = 3 := by omega
        exact V.iret 153 dX8_farthest_153 (⟨by unfold frF; rw [if_pos ⟨q1, q2⟩], o, by rw [hi1, upd_id, ← upR_ne v o (by decide : (179 : Nat) ≠ 183)]; exact (upR_id _ _).symm⟩)
      · refine J.aload_n 53 dX8_farthest_53 rfl rfl ?_
        refine V.getR 54 dX8_farthest_54 fl_RX8_7 r_178_0 ?_
        refine J.iload_n 57 dX8_farthest_57 rfl rfl ?_
        refine J.sipush 58 (nI 9999) dX8_farthest_58 (by decide +kernel) ?_
        refine J.iload 61 dX8_farthest_61 rfl ?_
        refine J.iconst 63 (nI 1) dX8_farthest_63 (by decide +kernel) ?_
        refine J.isub 64 dX8_farthest_64 ?_
        refine J.imul 65 dX8_farthest_65 ?_
        refine V.iast 66 dX8_farthest_66 a_179 (by omega) ?_
        refine V.heapv (up2_upR _ _ _ _ _) ?_
        rw [show upd g (107 + 8 * j + i) (nI 9999 * (nI k - nI 1)) = upd (v 179) (107 + 8 * j + i) (lkF k) from hi1 _]
        refine J.aload_n 67 dX8_farthest_67 rfl rfl ?_
        refine J.iconst 68 (nI 0) dX8_farthest_68 (by decide +kernel) ?_
        refine J.iload_n 69 dX8_farthest_69 rfl rfl ?_
        refine V.callv 70 dX8_farthest_70 ml_RX8_117 mi_yX8_middleOf mv_yX8_middleOf (c_X8_middleOf w _ (by omega) (by rw [upR_self, upd_ne _ _ (by omega)]; exact hn0) (by rw [ro_zero, upR_self, upd_ne _ _ (by omega)]; exact hf) (by omega) (by omega) (by omega)) rfl rfl (Nat.le_of_ble_eq_true rfl) (by decide) (by decide) o_178 rfl rfl (fun r70 v70 h70 => ?_)
        obtain ⟨rfl, o70, rfl⟩ := h70
        rw [ro_zero, upR_self]
        refine V.heapv (v' := upR (upR v 183 o70) 179 (upd (v 179) (107 + 8 * j + i) (lkF k))) (by rw [upR_comm _ _ _ (by decide : (179 : Nat) ≠ 183), upR_upR]) ?_
        refine J.aload_n 73 dX8_farthest_73 rfl rfl ?_
        refine J.iconst 74 (nI 0) dX8_farthest_74 (by decide +kernel) ?_
        refine J.iload_n 75 dX8_farthest_75 rfl rfl ?_
        refine V.callvP 76 dX8_farthest_76 ml_RX8_97 mi_yX8_aim mv_yX8_aim (c_X8_aim w _ (by omega)) rfl rfl (Nat.le_of_ble_eq_true rfl) (by decide) (by decide) o_178 rfl rfl ?_
        rw [ro_zero, upR_self]
        refine J.isub 79 dX8_farthest_79 ?_
        refine J.istore 80 dX8_farthest_80 (by decide) ?_
        refine J.iload 82 dX8_farthest_82 rfl ?_
        refine J.if_ge 84 93 dX8_farthest_84 (by decide) (fun c84 => ?_) (fun c84 => ?_)
        · have ea : abF (frD (v 179) n f j i (lkF k)) = _ := if_pos c84
          refine J.iload 93 dX8_farthest_93 rfl ?_
          refine J.istore 95 dX8_farthest_95 (by decide) ?_
          refine J.iload 97 dX8_farthest_97 rfl ?_
          refine J.iload 99 dX8_farthest_99 rfl ?_
          refine J.icmp_le 101 117 dX8_farthest_101 (by decide) (fun c101 => ?_) (fun c101 => ?_)
          · have e5 : (frS (v 179) n f j i (k + 1)).1 = (frS (v 179) n f j i k).1 := by show (if _ ≤ _ then _ else _) = _; rw [ea]; exact if_pos c101
            refine J.iload 117 dX8_farthest_117 rfl ?_
            refine J.istore 119 dX8_farthest_119 (by decide) ?_
            refine J.iload 121 dX8_farthest_121 rfl ?_
            refine J.iload 123 dX8_farthest_123 rfl ?_
            refine J.icmp_le 125 133 dX8_farthest_125 (by decide) (fun c125 => ?_) (fun c125 => ?_)
            · have e6 : (frS (v 179) n f j i (k + 1)).2 = (frS (v 179) n f j i k).2 := by show (if _ ≤ _ then _ else _) = _; rw [ea]; exact if_pos c125
              refine J.iload 133 dX8_farthest_133 rfl ?_
              refine J.istore 135 dX8_farthest_135 (by decide) ?_
              refine V.iinc 137 dX8_farthest_137 rfl (by decide) ?_
              refine J.goto 140 47 dX8_farthest_140 (by decide) ?_
              refine J.drop 8 ?_
              have q := ih (k + 1) o70 (upd (v 179) (107 + 8 * j + i) (lkF k)) (by omega) (fun y => by rw [upd_upd]) (by omega)
              rw [e5, e6] at q
              exact q
            · have e6 : (frS (v 179) n f j i (k + 1)).2 = abF (frD (v 179) n f j i (lkF k)) := by show (if _ ≤ _ then _ else _) = _; rw [ea]; exact if_neg c125
              rw [ea] at e6
              refine J.iload 128 dX8_farthest_128 rfl ?_
              refine J.goto 130 135 dX8_farthest_130 (by decide) ?_
              refine J.istore 135 dX8_farthest_135 (by decide) ?_
              refine V.iinc 137 dX8_farthest_137 rfl (by decide) ?_
              refine J.goto 140 47 dX8_farthest_140 (by decide) ?_
              refine J.drop 8 ?_
              have q := ih (k + 1) o70 (upd (v 179) (107 + 8 * j + i) (lkF k)) (by omega) (fun y => by rw [upd_upd]) (by omega)
              rw [e5, e6] at q
              exact q
          · have e5 : (frS (v 179) n f j i (k + 1)).1 = lkF k + nI 9999 := by show (if _ ≤ _ then _ else _) = _; rw [ea]; exact if_neg c101
            refine J.aload_n 104 dX8_farthest_104 rfl rfl ?_
            refine V.getR 105 dX8_farthest_105 fl_RX8_7 r_178_0 ?_
            refine J.iload_n 108 dX8_farthest_108 rfl rfl ?_
            refine V.iald 109 dX8_farthest_109 a_179 (by omega) ?_
            refine J.top (congrFun (upR_self _ _ _) _) ?_
            refine J.top (upd_self _ _ _) ?_
            refine J.sipush 110 (nI 9999) dX8_farthest_110 (by decide +kernel) ?_
            refine J.iadd 113 dX8_farthest_113 ?_
            refine J.goto 114 119 dX8_farthest_114 (by decide) ?_
            refine J.istore 119 dX8_farthest_119 (by decide) ?_
            refine J.iload 121 dX8_farthest_121 rfl ?_
            refine J.iload 123 dX8_farthest_123 rfl ?_
            refine J.icmp_le 125 133 dX8_farthest_125 (by decide) (fun c125 => ?_) (fun c125 => ?_)
            · have e6 : (frS (v 179) n f j i (k + 1)).2 = (frS (v 179) n f j i k).2 := by show (if _ ≤ _ then _ else _) = _; rw [ea]; exact if_pos c125
              refine J.iload 133 dX8_farthest_133 rfl ?_
              refine J.istore 135 dX8_farthest_135 (by decide) ?_
              refine V.iinc 137 dX8_farthest_137 rfl (by decide) ?_
              refine J.goto 140 47 dX8_farthest_140 (by decide) ?_
              refine J.drop 8 ?_
              have q := ih (k + 1) o70 (upd (v 179) (107 + 8 * j + i) (lkF k)) (by omega) (fun y => by rw [upd_upd]) (by omega)
              rw [e5, e6] at q
              exact q
            · have e6 : (frS (v 179) n f j i (k + 1)).2 = abF (frD (v 179) n f j i (lkF k)) := by show (if _ ≤ _ then _ else _) = _; rw [ea]; exact if_neg c125
              rw [ea] at e6
              refine J.iload 128 dX8_farthest_128 rfl ?_
              refine J.goto 130 135 dX8_farthest_130 (by decide) ?_
              refine J.istore 135 dX8_farthest_135 (by decide) ?_
              refine V.iinc 137 dX8_farthest_137 rfl (by decide) ?_
              refine J.goto 140 47 dX8_farthest_140 (by decide) ?_
              refine J.drop 8 ?_
              have q := ih (k + 1) o70 (upd (v 179) (107 + 8 * j + i) (lkF k)) (by omega) (fun y => by rw [upd_upd]) (by omega)
              rw [e5, e6] at q
              exact q
        · have ea : abF (frD (v 179) n f j i (lkF k)) = _ := if_neg c84
          refine J.iload 87 dX8_farthest_87 rfl ?_
          refine J.ineg 89 dX8_farthest_89 ?_
          refine J.goto 90 95 dX8_farthest_90 (by decide) ?_
          refine J.istore 95 dX8_farthest_95 (by decide) ?_
          refine J.iload 97 dX8_farthest_97 rfl ?_
          refine J.iload 99 dX8_farthest_99 rfl ?_
          refine J.icmp_le 101 117 dX8_farthest_101 (by decide) (fun c101 => ?_) (fun c101 => ?_)
          · have e5 : (frS (v 179) n f j i (k + 1)).1 = (frS (v 179) n f j i k).1 := by show (if _ ≤ _ then _ else _) = _; rw [ea]; exact if_pos c101
            refine J.iload 117 dX8_farthest_117 rfl ?_
            refine J.istore 119 dX8_farthest_119 (by decide) ?_
            refine J.iload 121 dX8_farthest_121 rfl ?_
            refine J.iload 123 dX8_farthest_123 rfl ?_
            refine J.icmp_le 125 133 dX8_farthest_125 (by decide) (fun c125 => ?_) (fun c125 => ?_)
            · have e6 : (frS (v 179) n f j i (k + 1)).2 = (frS (v 179) n f j i k).2 := by show (if _ ≤ _ then _ else _) = _; rw [ea]; exact if_pos c125
              refine J.iload 133 dX8_farthest_133 rfl ?_
              refine J.istore 135 dX8_farthest_135 (by decide) ?_
              refine V.iinc 137 dX8_farthest_137 rfl (by decide) ?_
              refine J.goto 140 47 dX8_farthest_140 (by decide) ?_
              refine J.drop 8 ?_
              have q := ih (k + 1) o70 (upd (v 179) (107 + 8 * j + i) (lkF k)) (by omega) (fun y => by rw [upd_upd]) (by omega)
              rw [e5, e6] at q
              exact q
            · have e6 : (frS (v 179) n f j i (k + 1)).2 = abF (frD (v 179) n f j i (lkF k)) := by show (if _ ≤ _ then _ else _) = _; rw [ea]; exact if_neg c125
              rw [ea] at e6
              refine J.iload 128 dX8_farthest_128 rfl ?_
              refine J.goto 130 135 dX8_farthest_130 (by decide) ?_
              refine J.istore 135 dX8_farthest_135 (by decide) ?_
              refine V.iinc 137 dX8_farthest_137 rfl (by decide) ?_
              refine J.goto 140 47 dX8_farthest_140 (by decide) ?_
              refine J.drop 8 ?_
              have q := ih (k + 1) o70 (upd (v 179) (107 + 8 * j + i) (lkF k)) (by omega) (fun y => by rw [upd_upd]) (by omega)
              rw [e5, e6] at q
              exact q
          · have e5 : (frS (v 179) n f j i (k + 1)).1 = lkF k + nI 9999 := by show (if _ ≤ _ then _ else _) = _; rw [ea]; exact if_neg c101
            refine J.aload_n 104 dX8_farthest_104 rfl rfl ?_
            refine V.getR 105 dX8_farthest_105 fl_RX8_7 r_178_0 ?_
            refine J.iload_n 108 dX8_farthest_108 rfl rfl ?_
            refine V.iald 109 dX8_farthest_109 a_179 (by omega) ?_
            refine J.top (congrFun (upR_self _ _ _) _) ?_
            refine J.top (upd_self _ _ _) ?_
            refine J.sipush 110 (nI 9999) dX8_farthest_110 (by decide +kernel) ?_
            refine J.iadd 113 dX8_farthest_113 ?_
            refine J.goto 114 119 dX8_farthest_114 (by decide) ?_
            refine J.istore 119 dX8_farthest_119 (by decide) ?_
            refine J.iload 121 dX8_farthest_121 rfl ?_
            refine J.iload 123 dX8_farthest_123 rfl ?_
            refine J.icmp_le 125 133 dX8_farthest_125 (by decide) (fun c125 => ?_) (fun c125 => ?_)
            · have e6 : (frS (v 179) n f j i (k + 1)).2 = (frS (v 179) n f j i k).2 := by show (if _ ≤ _ then _ else _) = _; rw [ea]; exact if_pos c125
              refine J.iload 133 dX8_farthest_133 rfl ?_
              refine J.istore 135 dX8_farthest_135 (by decide) ?_
              refine V.iinc 137 dX8_farthest_137 rfl (by decide) ?_
              refine J.goto 140 47 dX8_farthest_140 (by decide) ?_
              refine J.drop 8 ?_
              have q := ih (k + 1) o70 (upd (v 179) (107 + 8 * j + i) (lkF k)) (by omega) (fun y => by rw [upd_upd]) (by omega)
              rw [e5, e6] at q
              exact q
            · have e6 : (frS (v 179) n f j i (k + 1)).2 = abF (frD (v 179) n f j i (lkF k)) := by show (if _ ≤ _ then _ else _) = _; rw [ea]; exact if_neg c125
              rw [ea] at e6
              refine J.iload 128 dX8_farthest_128 rfl ?_
              refine J.goto 130 135 dX8_farthest_130 (by decide) ?_
              refine J.istore 135 dX8_farthest_135 (by decide) ?_
              refine V.iinc 137 dX8_farthest_137 rfl (by decide) ?_
              refine J.goto 140 47 dX8_farthest_140 (by decide) ?_
              refine J.drop 8 ?_
              have q := ih (k + 1) o70 (upd (v 179) (107 + 8 * j + i) (lkF k)) (by omega) (fun y => by rw [upd_upd]) (by omega)
              rw [e5, e6] at q
              exact q
  refine J.aload_n 0 dX8_farthest_0 rfl rfl ?_
  refine J.iconst 1 (nI 0) dX8_farthest_1 (by decide +kernel) ?_
  refine J.iload_n 2 dX8_farthest_2 rfl rfl ?_
  refine V.callvP 3 dX8_farthest_3 ml_RX8_114 mi_yX8_isTrue mv_yX8_isTrue (c_X8_isTrue w _ (by omega)) rfl rfl (Nat.le_of_ble_eq_true rfl) (by decide) (by decide) o_178 rfl rfl ?_
  rw [ro_zero]
  refine V.if_eqB 6 18 dX8_farthest_6 (by decide) (fun c6 => ?_) (fun c6 => ?_)
  · refine J.iconst 18 (-1) dX8_farthest_18 (by decide +kernel) ?_
    exact V.iret 19 dX8_farthest_19 (⟨by unfold frF; rw [if_neg (fun z => by first | exact c6 z.1 | exact c15 z.2)], _, upR_id v 183⟩)
  · refine J.aload_n 9 dX8_farthest_9 rfl rfl ?_
    refine J.iconst 10 (nI 0) dX8_farthest_10 (by decide +kernel) ?_
    refine J.iload_n 11 dX8_farthest_11 rfl rfl ?_
    refine V.callvP 12 dX8_farthest_12 ml_RX8_120 mi_yX8_isLiar mv_yX8_isLiar (c_X8_isLiar w _ (by omega)) rfl rfl (Nat.le_of_ble_eq_true rfl) (by decide) (by decide) o_178 rfl rfl ?_
    rw [ro_zero]
    refine V.if_neB 15 20 dX8_farthest_15 (by decide) (fun c15 => ?_) (fun c15 => ?_)
    · refine J.bipush 20 (nI 107) dX8_farthest_20 (by decide +kernel) ?_
      refine J.bipush 22 (nI 8) dX8_farthest_22 (by decide +kernel) ?_
      refine J.iload_n 24 dX8_farthest_24 rfl rfl ?_
      refine V.imul 25 dX8_farthest_25 ?_
      refine V.iadd 26 dX8_farthest_26 ?_
      refine J.iload_n 27 dX8_farthest_27 rfl rfl ?_
      refine V.iadd 28 dX8_farthest_28 ?_
      refine J.istore_n 29 dX8_farthest_29 rfl (by decide) ?_
      refine J.aload_n 30 dX8_farthest_30 rfl rfl ?_
      refine V.getR 31 dX8_farthest_31 fl_RX8_7 r_178_0 ?_
      refine J.iload_n 34 dX8_farthest_34 rfl rfl ?_
      refine V.iald 35 dX8_farthest_35 a_179 (by omega) ?_
      refine J.istore 36 dX8_farthest_36 (by decide) ?_
      refine J.iconst 38 (nI 0) dX8_farthest_38 (by decide +kernel) ?_
      refine J.istore 39 dX8_farthest_39 (by decide) ?_
      refine J.iconst 41 (-1) dX8_farthest_41 (by decide +kernel) ?_
      refine J.istore 42 dX8_farthest_42 (by decide) ?_
      refine J.iconst 44 (nI 0) dX8_farthest_44 (by decide +kernel) ?_
      refine J.istore 45 dX8_farthest_45 (by decide) ?_
      refine V.heapv (v' := upR (upR v 183 (v 183)) 179 (v 179)) (by rw [← upR_id v 183, ← upR_id v 179]) ?_
      exact lp c6 c15 4 0 _ _ (by omega) (fun _ => rfl) (by omega)
    · refine J.iconst 18 (-1) dX8_farthest_18 (by decide +kernel) ?_
      exact V.iret 19 dX8_farthest_19 (⟨by unfold frF; rw [if_neg (fun z => by first | exact c6 z.1 | exact c15 z.2)], _, upR_id v 183⟩)
end
section
set_option maxHeartbeats 4000000 in
set_option maxRecDepth 100000 in
theorem c_X8_manyOf (w : Wd) (v : Vm2) {n x : Nat} (hn0 : v 179 0 = nI n) (hn : n ≤ 8) (hx : x < 100) : CP w yX8_manyOf cX8_manyOf 4 (some .int) (rm 0 0) [.ref (wN w + 178), .int (nI x)] v (smI (fun c => v 179 (x + c)) n) := by
  refine CI.of (by decide) (Nat.le_of_ble_eq_true rfl) ?_
  have lp : ∀ (m : Nat) (c : Nat), (c ≤ n) → n - c < m → J w yX8_manyOf cX8_manyOf 4 (some .int) (rm 0 0) XT (ZJ w 185 0 0 (PI w (fun r v' => r = smI (fun c => v 179 (x + c)) n ∧ v' = v))) 4 [(0, .ref (wN w + 178)), (1, .int (nI x)), (2, .int (smI (fun c => v 179 (x + c)) c)), (3, .int (nI c))] [] 185 (hv w (v)) 0 0 := by
    intro m
    induction m with
    | zero =>
      intro c hi0 hm
      exact absurd hm (by omega)
    | succ m ih =>
      intro c hi0 hm
      refine J.iload_n 4 dX8_manyOf_4 rfl rfl ?_
      refine J.aload_n 5 dX8_manyOf_5 rfl rfl ?_
      refine V.getR 6 dX8_manyOf_6 fl_RX8_7 r_178_0 ?_
      refine J.iconst 9 (nI 0) dX8_manyOf_9 (by decide +kernel) ?_
      refine V.iald 10 dX8_manyOf_10 a_179 (by omega) ?_
      refine J.top hn0 ?_
      refine V.icmp_ge 11 31 dX8_manyOf_11 (by decide) (by omega) (by omega) (fun c11 => ?_) (fun c11 => ?_)
      · refine J.iload_n 31 dX8_manyOf_31 rfl rfl ?_
        obtain rfl : c = n := by omega
        exact V.iret 32 dX8_manyOf_32 (⟨rfl, rfl⟩)
      · refine J.iload_n 14 dX8_manyOf_14 rfl rfl ?_
        refine J.aload_n 15 dX8_manyOf_15 rfl rfl ?_
        refine V.getR 16 dX8_manyOf_16 fl_RX8_7 r_178_0 ?_
        refine J.iload_n 19 dX8_manyOf_19 rfl rfl ?_
        refine J.iload_n 20 dX8_manyOf_20 rfl rfl ?_
        refine V.iadd 21 dX8_manyOf_21 ?_
        refine V.iald 22 dX8_manyOf_22 a_179 (by omega) ?_
        refine J.iadd 23 dX8_manyOf_23 ?_
        refine J.istore_n 24 dX8_manyOf_24 rfl (by decide) ?_
        refine V.iinc 25 dX8_manyOf_25 rfl (by decide) ?_
        refine J.goto 28 4 dX8_manyOf_28 (by decide) ?_
        exact ih (c + 1) (by omega) (by omega)
  refine J.iconst 0 (nI 0) dX8_manyOf_0 (by decide +kernel) ?_
  refine J.istore_n 1 dX8_manyOf_1 rfl (by decide) ?_
  refine J.iconst 2 (nI 0) dX8_manyOf_2 (by decide +kernel) ?_
  refine J.istore_n 3 dX8_manyOf_3 rfl (by decide) ?_
  exact lp (n + 1) 0 (by omega) (by omega)
set_option maxHeartbeats 4000000 in
set_option maxRecDepth 100000 in
theorem c_X8_setOf4 (w : Wd) (v : Vm2) {n : Nat} (hn0 : v 179 0 = nI n) (hn : n ≤ 8) : CP w yX8_setOf cX8_setOf 5 (some .int) (rm 1 22) [.ref (wN w + 178), .int (nI 4)] v (bsI (fun c => v 179 (27 + c) = nI 1) n) := by
  refine CI.of (by decide) (Nat.le_of_ble_eq_true rfl) ?_
  have lp : ∀ (m : Nat) (c : Nat), (c ≤ n) → n - c < m → J w yX8_setOf cX8_setOf 5 (some .int) (rm 1 22) XT (ZJ w 185 0 0 (PI w (fun r v' => r = bsI (fun c => v 179 (27 + c) = nI 1) n ∧ v' = v))) 4 [(0, .ref (wN w + 178)), (1, .int (nI 4)), (2, .int (bsI (fun c => v 179 (27 + c) = nI 1) c)), (3, .int (nI c))] [] 185 (hv w (v)) 0 0 := by
    intro m
    induction m with
    | zero =>
      intro c hi0 hm
      exact absurd hm (by omega)
    | succ m ih =>
      intro c hi0 hm
      refine J.iload_n 4 dX8_setOf_4 rfl rfl ?_
      refine J.aload_n 5 dX8_setOf_5 rfl rfl ?_
      refine V.getR 6 dX8_setOf_6 fl_RX8_7 r_178_0 ?_
      refine J.iconst 9 (nI 0) dX8_setOf_9 (by decide +kernel) ?_
      refine V.iald 10 dX8_setOf_10 a_179 (by omega) ?_
      refine J.top hn0 ?_
      refine V.icmp_ge 11 95 dX8_setOf_11 (by decide) (by omega) (by omega) (fun c11 => ?_) (fun c11 => ?_)
      · refine J.iload_n 95 dX8_setOf_95 rfl rfl ?_
        obtain rfl : c = n := by omega
        exact V.iret 96 dX8_setOf_96 (⟨rfl, rfl⟩)
      · refine J.iload_n 14 dX8_setOf_14 rfl rfl ?_
        refine J.iconst 15 (nI 4) dX8_setOf_15 (by decide +kernel) ?_
        refine J.icmp_ne 16 40 dX8_setOf_16 (by decide) (fun q => absurd q (by decide)) (fun _ => ?_)
        refine J.aload_n 19 dX8_setOf_19 rfl rfl ?_
        refine V.getR 20 dX8_setOf_20 fl_RX8_7 r_178_0 ?_
        refine J.bipush 23 (nI 27) dX8_setOf_23 (by decide +kernel) ?_
        refine J.iload_n 25 dX8_setOf_25 rfl rfl ?_
        refine V.iadd 26 dX8_setOf_26 ?_
        refine V.iald 27 dX8_setOf_27 a_179 (by omega) ?_
        refine J.iconst 28 (nI 1) dX8_setOf_28 (by decide +kernel) ?_
        refine J.icmp_ne 29 36 dX8_setOf_29 (by decide) (fun c29 => ?_) (fun c29 => ?_)
        · have e1 : bsI (fun c => v 179 (27 + c) = nI 1) (c + 1) = bsI (fun c => v 179 (27 + c) = nI 1) c ||| nI 0 := by show _ ||| (if _ then _ else _) = _; rw [if_neg c29]
          refine J.iconst 36 (nI 0) dX8_setOf_36 (by decide +kernel) ?_
          refine J.goto 37 72 dX8_setOf_37 (by decide) ?_
          refine J.istore 72 dX8_setOf_72 (by decide) ?_
          refine J.iload_n 74 dX8_setOf_74 rfl rfl ?_
          refine J.iload 75 dX8_setOf_75 rfl ?_
          refine J.if_eq 77 86 dX8_setOf_77 (by decide) (fun _ => ?_) (fun q => absurd q (by decide))
          refine J.iconst 86 (nI 0) dX8_setOf_86 (by decide +kernel) ?_
          refine J.ior 87 dX8_setOf_87 ?_
          refine J.istore_n 88 dX8_setOf_88 rfl (by decide) ?_
          refine V.iinc 89 dX8_setOf_89 rfl (by decide) ?_
          refine J.goto 92 4 dX8_setOf_92 (by decide) ?_
          refine J.drop 4 ?_
          have q := ih (c + 1) (by omega) (by omega)
          rw [e1] at q
          exact q
        · have e1 : bsI (fun c => v 179 (27 + c) = nI 1) (c + 1) = bsI (fun c => v 179 (27 + c) = nI 1) c ||| (nI 1 <<< (nI c &&& 31)) := by show _ ||| (if _ then _ else _) = _; rw [if_pos c29]
          refine J.iconst 32 (nI 1) dX8_setOf_32 (by decide +kernel) ?_
          refine J.goto 33 72 dX8_setOf_33 (by decide) ?_
          refine J.istore 72 dX8_setOf_72 (by decide) ?_
          refine J.iload_n 74 dX8_setOf_74 rfl rfl ?_
          refine J.iload 75 dX8_setOf_75 rfl ?_
          refine J.if_eq 77 86 dX8_setOf_77 (by decide) (fun q => absurd q (by decide)) (fun _ => ?_)
          refine J.iconst 80 (nI 1) dX8_setOf_80 (by decide +kernel) ?_
          refine J.iload_n 81 dX8_setOf_81 rfl rfl ?_
          refine J.ishl 82 dX8_setOf_82 ?_
          refine J.goto 83 87 dX8_setOf_83 (by decide) ?_
          refine J.ior 87 dX8_setOf_87 ?_
          refine J.istore_n 88 dX8_setOf_88 rfl (by decide) ?_
          refine V.iinc 89 dX8_setOf_89 rfl (by decide) ?_
          refine J.goto 92 4 dX8_setOf_92 (by decide) ?_
          refine J.drop 4 ?_
          have q := ih (c + 1) (by omega) (by omega)
          rw [e1] at q
          exact q
  refine J.iconst 0 (nI 0) dX8_setOf_0 (by decide +kernel) ?_
  refine J.istore_n 1 dX8_setOf_1 rfl (by decide) ?_
  refine J.iconst 2 (nI 0) dX8_setOf_2 (by decide +kernel) ?_
  refine J.istore_n 3 dX8_setOf_3 rfl (by decide) ?_
  exact lp (n + 1) 0 (by omega) (by omega)
set_option maxHeartbeats 4000000 in
set_option maxRecDepth 100000 in
theorem c_X8_setOf5 (w : Wd) (v : Vm2) {n : Nat} (hn0 : v 179 0 = nI n) (hn : n ≤ 8) : CP w yX8_setOf cX8_setOf 5 (some .int) (rm 1 22) [.ref (wN w + 178), .int (nI 5)] v (bsI (fun c => v 179 (35 + c) = nI 1) n) := by
  refine CI.of (by decide) (Nat.le_of_ble_eq_true rfl) ?_
  have lp : ∀ (m : Nat) (c : Nat), (c ≤ n) → n - c < m → J w yX8_setOf cX8_setOf 5 (some .int) (rm 1 22) XT (ZJ w 185 0 0 (PI w (fun r v' => r = bsI (fun c => v 179 (35 + c) = nI 1) n ∧ v' = v))) 4 [(0, .ref (wN w + 178)), (1, .int (nI 5)), (2, .int (bsI (fun c => v 179 (35 + c) = nI 1) c)), (3, .int (nI c))] [] 185 (hv w (v)) 0 0 := by
    intro m
    induction m with
    | zero =>
      intro c hi0 hm
      exact absurd hm (by omega)
    | succ m ih =>
      intro c hi0 hm
      refine J.iload_n 4 dX8_setOf_4 rfl rfl ?_
      refine J.aload_n 5 dX8_setOf_5 rfl rfl ?_
      refine V.getR 6 dX8_setOf_6 fl_RX8_7 r_178_0 ?_
      refine J.iconst 9 (nI 0) dX8_setOf_9 (by decide +kernel) ?_
      refine V.iald 10 dX8_setOf_10 a_179 (by omega) ?_
      refine J.top hn0 ?_
      refine V.icmp_ge 11 95 dX8_setOf_11 (by decide) (by omega) (by omega) (fun c11 => ?_) (fun c11 => ?_)
      · refine J.iload_n 95 dX8_setOf_95 rfl rfl ?_
        obtain rfl : c = n := by omega
        exact V.iret 96 dX8_setOf_96 (⟨rfl, rfl⟩)
      · refine J.iload_n 14 dX8_setOf_14 rfl rfl ?_
        refine J.iconst 15 (nI 4) dX8_setOf_15 (by decide +kernel) ?_
        refine J.icmp_ne 16 40 dX8_setOf_16 (by decide) (fun _ => ?_) (fun q => absurd q (by decide))
        refine J.iload_n 40 dX8_setOf_40 rfl rfl ?_
        refine J.iconst 41 (nI 5) dX8_setOf_41 (by decide +kernel) ?_
        refine J.icmp_ne 42 66 dX8_setOf_42 (by decide) (fun q => absurd q (by decide)) (fun _ => ?_)
        refine J.aload_n 45 dX8_setOf_45 rfl rfl ?_
        refine V.getR 46 dX8_setOf_46 fl_RX8_7 r_178_0 ?_
        refine J.bipush 49 (nI 35) dX8_setOf_49 (by decide +kernel) ?_
        refine J.iload_n 51 dX8_setOf_51 rfl rfl ?_
        refine V.iadd 52 dX8_setOf_52 ?_
        refine V.iald 53 dX8_setOf_53 a_179 (by omega) ?_
        refine J.iconst 54 (nI 1) dX8_setOf_54 (by decide +kernel) ?_
        refine J.icmp_ne 55 62 dX8_setOf_55 (by decide) (fun c55 => ?_) (fun c55 => ?_)
        · have e1 : bsI (fun c => v 179 (35 + c) = nI 1) (c + 1) = bsI (fun c => v 179 (35 + c) = nI 1) c ||| nI 0 := by show _ ||| (if _ then _ else _) = _; rw [if_neg c55]
          refine J.iconst 62 (nI 0) dX8_setOf_62 (by decide +kernel) ?_
          refine J.goto 63 72 dX8_setOf_63 (by decide) ?_
          refine J.istore 72 dX8_setOf_72 (by decide) ?_
          refine J.iload_n 74 dX8_setOf_74 rfl rfl ?_
          refine J.iload 75 dX8_setOf_75 rfl ?_
          refine J.if_eq 77 86 dX8_setOf_77 (by decide) (fun _ => ?_) (fun q => absurd q (by decide))
          refine J.iconst 86 (nI 0) dX8_setOf_86 (by decide +kernel) ?_
          refine J.ior 87 dX8_setOf_87 ?_
          refine J.istore_n 88 dX8_setOf_88 rfl (by decide) ?_
          refine V.iinc 89 dX8_setOf_89 rfl (by decide) ?_
          refine J.goto 92 4 dX8_setOf_92 (by decide) ?_
          refine J.drop 4 ?_
          have q := ih (c + 1) (by omega) (by omega)
          rw [e1] at q
          exact q
        · have e1 : bsI (fun c => v 179 (35 + c) = nI 1) (c + 1) = bsI (fun c => v 179 (35 + c) = nI 1) c ||| (nI 1 <<< (nI c &&& 31)) := by show _ ||| (if _ then _ else _) = _; rw [if_pos c55]
          refine J.iconst 58 (nI 1) dX8_setOf_58 (by decide +kernel) ?_
          refine J.goto 59 72 dX8_setOf_59 (by decide) ?_
          refine J.istore 72 dX8_setOf_72 (by decide) ?_
          refine J.iload_n 74 dX8_setOf_74 rfl rfl ?_
          refine J.iload 75 dX8_setOf_75 rfl ?_
          refine J.if_eq 77 86 dX8_setOf_77 (by decide) (fun q => absurd q (by decide)) (fun _ => ?_)
          refine J.iconst 80 (nI 1) dX8_setOf_80 (by decide +kernel) ?_
          refine J.iload_n 81 dX8_setOf_81 rfl rfl ?_
          refine J.ishl 82 dX8_setOf_82 ?_
          refine J.goto 83 87 dX8_setOf_83 (by decide) ?_
          refine J.ior 87 dX8_setOf_87 ?_
          refine J.istore_n 88 dX8_setOf_88 rfl (by decide) ?_
          refine V.iinc 89 dX8_setOf_89 rfl (by decide) ?_
          refine J.goto 92 4 dX8_setOf_92 (by decide) ?_
          refine J.drop 4 ?_
          have q := ih (c + 1) (by omega) (by omega)
          rw [e1] at q
          exact q
  refine J.iconst 0 (nI 0) dX8_setOf_0 (by decide +kernel) ?_
  refine J.istore_n 1 dX8_setOf_1 rfl (by decide) ?_
  refine J.iconst 2 (nI 0) dX8_setOf_2 (by decide +kernel) ?_
  refine J.istore_n 3 dX8_setOf_3 rfl (by decide) ?_
  exact lp (n + 1) 0 (by omega) (by omega)
set_option maxHeartbeats 4000000 in
set_option maxRecDepth 100000 in
theorem c_X8_setOf6 (w : Wd) (v : Vm2) {n : Nat} (hn0 : v 179 0 = nI n) (hn : n ≤ 8) : CP w yX8_setOf cX8_setOf 5 (some .int) (rm 1 22) [.ref (wN w + 178), .int (nI 6)] v (bsI (fun c => trF (v 179) c) n) := by
  refine CI.of (by decide) (Nat.le_of_ble_eq_true rfl) ?_
  have lp : ∀ (m : Nat) (c : Nat), (c ≤ n) → n - c < m → J w yX8_setOf cX8_setOf 5 (some .int) (rm 1 22) XT (ZJ w 185 0 0 (PI w (fun r v' => r = bsI (fun c => trF (v 179) c) n ∧ v' = v))) 4 [(0, .ref (wN w + 178)), (1, .int (nI 6)), (2, .int (bsI (fun c => trF (v 179) c) c)), (3, .int (nI c))] [] 185 (hv w (v)) 0 0 := by
    intro m
    induction m with
    | zero =>
      intro c hi0 hm
      exact absurd hm (by omega)
    | succ m ih =>
      intro c hi0 hm
      refine J.iload_n 4 dX8_setOf_4 rfl rfl ?_
      refine J.aload_n 5 dX8_setOf_5 rfl rfl ?_
      refine V.getR 6 dX8_setOf_6 fl_RX8_7 r_178_0 ?_
      refine J.iconst 9 (nI 0) dX8_setOf_9 (by decide +kernel) ?_
      refine V.iald 10 dX8_setOf_10 a_179 (by omega) ?_
      refine J.top hn0 ?_
      refine V.icmp_ge 11 95 dX8_setOf_11 (by decide) (by omega) (by omega) (fun c11 => ?_) (fun c11 => ?_)
      · refine J.iload_n 95 dX8_setOf_95 rfl rfl ?_
        obtain rfl : c = n := by omega
        exact V.iret 96 dX8_setOf_96 (⟨rfl, rfl⟩)
      · refine J.iload_n 14 dX8_setOf_14 rfl rfl ?_
        refine J.iconst 15 (nI 4) dX8_setOf_15 (by decide +kernel) ?_
        refine J.icmp_ne 16 40 dX8_setOf_16 (by decide) (fun _ => ?_) (fun q => absurd q (by decide))
        refine J.iload_n 40 dX8_setOf_40 rfl rfl ?_
        refine J.iconst 41 (nI 5) dX8_setOf_41 (by decide +kernel) ?_
        refine J.icmp_ne 42 66 dX8_setOf_42 (by decide) (fun _ => ?_) (fun q => absurd q (by decide))
        refine J.aload_n 66 dX8_setOf_66 rfl rfl ?_
        refine J.iconst 67 (nI 0) dX8_setOf_67 (by decide +kernel) ?_
        refine J.iload_n 68 dX8_setOf_68 rfl rfl ?_
        refine V.callvP 69 dX8_setOf_69 ml_RX8_114 mi_yX8_isTrue mv_yX8_isTrue (c_X8_isTrue w _ (by omega)) rfl rfl (Nat.le_of_ble_eq_true rfl) (by decide) (by decide) o_178 rfl rfl ?_
        rw [ro_zero]
        refine J.istore 72 dX8_setOf_72 (by decide) ?_
        refine J.iload_n 74 dX8_setOf_74 rfl rfl ?_
        refine J.iload 75 dX8_setOf_75 rfl ?_
        refine V.if_eqB 77 86 dX8_setOf_77 (by decide) (fun c77 => ?_) (fun c77 => ?_)
        · have e1 : bsI (fun c => trF (v 179) c) (c + 1) = bsI (fun c => trF (v 179) c) c ||| nI 0 := by show _ ||| (if _ then _ else _) = _; rw [if_neg c77]
          refine J.iconst 86 (nI 0) dX8_setOf_86 (by decide +kernel) ?_
          refine J.ior 87 dX8_setOf_87 ?_
          refine J.istore_n 88 dX8_setOf_88 rfl (by decide) ?_
          refine V.iinc 89 dX8_setOf_89 rfl (by decide) ?_
          refine J.goto 92 4 dX8_setOf_92 (by decide) ?_
          refine J.drop 4 ?_
          have q := ih (c + 1) (by omega) (by omega)
          rw [e1] at q
          exact q
        · have e1 : bsI (fun c => trF (v 179) c) (c + 1) = bsI (fun c => trF (v 179) c) c ||| (nI 1 <<< (nI c &&& 31)) := by show _ ||| (if _ then _ else _) = _; rw [if_pos c77]
          refine J.iconst 80 (nI 1) dX8_setOf_80 (by decide +kernel) ?_
          refine J.iload_n 81 dX8_setOf_81 rfl rfl ?_
          refine J.ishl 82 dX8_setOf_82 ?_
          refine J.goto 83 87 dX8_setOf_83 (by decide) ?_
          refine J.ior 87 dX8_setOf_87 ?_
          refine J.istore_n 88 dX8_setOf_88 rfl (by decide) ?_
          refine V.iinc 89 dX8_setOf_89 rfl (by decide) ?_
          refine J.goto 92 4 dX8_setOf_92 (by decide) ?_
          refine J.drop 4 ?_
          have q := ih (c + 1) (by omega) (by omega)
          rw [e1] at q
          exact q
  refine J.iconst 0 (nI 0) dX8_setOf_0 (by decide +kernel) ?_
  refine J.istore_n 1 dX8_setOf_1 rfl (by decide) ?_
  refine J.iconst 2 (nI 0) dX8_setOf_2 (by decide +kernel) ?_
  refine J.istore_n 3 dX8_setOf_3 rfl (by decide) ?_
  exact lp (n + 1) 0 (by omega) (by omega)
set_option maxHeartbeats 4000000 in
set_option maxRecDepth 100000 in
theorem c_X8_wrongEntry (w : Wd) (v : Vm2) {n wr : Nat} (hn0 : v 179 0 = nI n) (hn : n ≤ 8) (hw0 : v 178 8 = nI wr) (hwr : wr ≤ 20) : CP w yX8_wrongEntry cX8_wrongEntry 2 (some .int) (rm 2 43) [.ref (wN w + 178)] v (weF (v 179) (v 181) (v 182) n wr 0) := by
  refine CI.of (by decide) (Nat.le_of_ble_eq_true rfl) ?_
  have lp : ∀ (m : Nat) (k : Nat), (k ≤ wr) → (weF (v 179) (v 181) (v 182) n (wr - k) k = weF (v 179) (v 181) (v 182) n wr 0) → wr - k < m → J w yX8_wrongEntry cX8_wrongEntry 2 (some .int) (rm 2 43) XT (ZJ w 185 0 0 (PI w (fun r v' => r = weF (v 179) (v 181) (v 182) n wr 0 ∧ v' = v))) 2 [(0, .ref (wN w + 178)), (1, .int (nI k))] [] 185 (hv w (v)) 0 0 := by
    intro m
    induction m with
    | zero =>
      intro k hi0 hi1 hm
      exact absurd hm (by omega)
    | succ m ih =>
      intro k hi0 hi1 hm
      refine J.iload_n 2 dX8_wrongEntry_2 rfl rfl ?_
      refine J.aload_n 3 dX8_wrongEntry_3 rfl rfl ?_
      refine V.getI 4 dX8_wrongEntry_4 fl_RX8_94 i_178_8 ?_
      refine J.top hw0 ?_
      refine V.icmp_ge 7 51 dX8_wrongEntry_7 (by decide) (by omega) (by omega) (fun c7 => ?_) (fun c7 => ?_)
      · refine J.iconst 51 (-1) dX8_wrongEntry_51 (by decide +kernel) ?_
        exact V.iret 52 dX8_wrongEntry_52 (⟨by rw [← hi1, show wr - k = 0 by omega]; rfl, rfl⟩)
      · refine J.aload_n 10 dX8_wrongEntry_10 rfl rfl ?_
        refine J.aload_n 11 dX8_wrongEntry_11 rfl rfl ?_
        refine V.getR 12 dX8_wrongEntry_12 fl_RX8_20 r_178_6 ?_
        refine J.iload_n 15 dX8_wrongEntry_15 rfl rfl ?_
        refine V.iald 16 dX8_wrongEntry_16 a_181 (by omega) ?_
        refine V.callvP 17 dX8_wrongEntry_17 ml_RX8_136 mi_yX8_isClock mv_yX8_isClock (k_isClock w _ _ hn0 (by omega)) rfl rfl (Nat.le_of_ble_eq_true rfl) (by decide) (by decide) o_178 rfl rfl ?_
        refine V.if_eqB 20 43 dX8_wrongEntry_20 (by decide) (fun c20 => ?_) (fun c20 => ?_)
        · refine J.iload_n 43 dX8_wrongEntry_43 rfl rfl ?_
          exact V.iret 44 dX8_wrongEntry_44 (⟨by rw [← hi1]; obtain ⟨r, hr⟩ : ∃ r, wr - k = r + 1 := ⟨wr - k - 1, by omega⟩; rw [hr]; refine (if_pos ?_).symm; first | exact fun z => c20 z.1 | (intro z; apply c40; have z2 := z.2; rw [ecl, nI_clamp (by omega)] at z2; exact z2), rfl⟩)
        · obtain ⟨cl, hcl, ecl⟩ := (clkB_nI (by omega)).mp c20
          refine J.aload_n 23 dX8_wrongEntry_23 rfl rfl ?_
          refine J.iconst 24 (nI 0) dX8_wrongEntry_24 (by decide +kernel) ?_
          refine J.aload_n 25 dX8_wrongEntry_25 rfl rfl ?_
          refine V.getR 26 dX8_wrongEntry_26 fl_RX8_20 r_178_6 ?_
          refine J.iload_n 29 dX8_wrongEntry_29 rfl rfl ?_
          refine V.iald 30 dX8_wrongEntry_30 a_181 (by omega) ?_
          refine J.top ecl ?_
          refine V.callvP 31 dX8_wrongEntry_31 ml_RX8_97 mi_yX8_aim mv_yX8_aim (c_X8_aim w _ (by omega)) rfl rfl (Nat.le_of_ble_eq_true rfl) (by decide) (by decide) o_178 rfl rfl ?_
          rw [ro_zero]
          refine J.aload_n 34 dX8_wrongEntry_34 rfl rfl ?_
          refine V.getR 35 dX8_wrongEntry_35 fl_RX8_23 r_178_7 ?_
          refine J.iload_n 38 dX8_wrongEntry_38 rfl rfl ?_
          refine V.iald 39 dX8_wrongEntry_39 a_182 (by omega) ?_
          refine J.icmp_eq 40 45 dX8_wrongEntry_40 (by decide) (fun c40 => ?_) (fun c40 => ?_)
          · refine V.iinc 45 dX8_wrongEntry_45 rfl (by decide) ?_
            refine J.goto 48 2 dX8_wrongEntry_48 (by decide) ?_
            exact ih (k + 1) (by omega) (by rw [← hi1]; obtain ⟨r, hr⟩ : ∃ r, wr - k = r + 1 := ⟨wr - k - 1, by omega⟩; rw [show wr - (k + 1) = r by omega, hr]; refine (if_neg (fun z => z ⟨c20, ?_⟩)).symm; rw [ecl, nI_clamp (by omega)]; exact c40) (by omega)
          · refine J.iload_n 43 dX8_wrongEntry_43 rfl rfl ?_
            exact V.iret 44 dX8_wrongEntry_44 (⟨by rw [← hi1]; obtain ⟨r, hr⟩ : ∃ r, wr - k = r + 1 := ⟨wr - k - 1, by omega⟩; rw [hr]; refine (if_pos ?_).symm; first | exact fun z => c20 z.1 | (intro z; apply c40; have z2 := z.2; rw [ecl, nI_clamp (by omega)] at z2; exact z2), rfl⟩)
  refine J.iconst 0 (nI 0) dX8_wrongEntry_0 (by decide +kernel) ?_
  refine J.istore_n 1 dX8_wrongEntry_1 rfl (by decide) ?_
  exact lp (wr + 1) 0 (by omega) (by rfl) (by omega)
set_option maxHeartbeats 4000000 in
set_option maxRecDepth 100000 in
theorem c_X8_rememberA (w : Wd) (v : Vm2) (hk0 : v 178 1 = nI 16) : CU w yX8_remember cX8_remember 2 (rm 1 23) [.ref (wN w + 178)] v (fun v' => v' = rmF v 16) := by
  refine CU.of (by decide) (Nat.le_of_ble_eq_true rfl) ?_
  have K1 : J w yX8_remember cX8_remember 2 none (rm 1 23) XT (ZJ w 185 0 0 (PU w (fun v' => v' = rmF v 16))) 39 [(0, .ref (wN w + 178)), (1, .int (nI 16))] [] 185 (hv w (shK v 16)) 0 0 := by
    refine J.aload_n 39 dX8_remember_39 rfl rfl ?_
    refine J.dup 40 dX8_remember_40 rfl ?_
    refine V.getI 41 dX8_remember_41 fl_RX8_88 i_178_1 ?_
    refine J.top (b := nI 16) (by rw [show shK v 16 178 = v 178 from by funext b; simp [shK]]; exact hk0) ?_
    refine J.iconst 44 (nI 1) dX8_remember_44 (by decide +kernel) ?_
    refine V.isub 45 dX8_remember_45 (by omega) ?_
    refine V.putI 46 dX8_remember_46 fl_RX8_88 fp_8_1 i_178_1 ?_
    refine J.aload_n 49 dX8_remember_49 rfl rfl ?_
    refine J.iconst 50 (nI 0) dX8_remember_50 (by decide +kernel) ?_
    refine J.sipush 51 (nI 192) dX8_remember_51 (by decide +kernel) ?_
    refine J.aload_n 54 dX8_remember_54 rfl rfl ?_
    refine V.getI 55 dX8_remember_55 fl_RX8_88 i_178_1 ?_
    refine J.top (b := nI 15) (by simp [up2]) ?_
    refine J.iconst 58 (nI 1) dX8_remember_58 (by decide +kernel) ?_
    refine V.iadd 59 dX8_remember_59 ?_
    refine V.imul 60 dX8_remember_60 ?_
    refine V.callvU 61 dX8_remember_61 ml_RX8_85 mi_yX8_copyRow mv_yX8_copyRow (c_X8_copyRow w _ (by omega) (by omega) (by omega)) rfl rfl (Nat.le_of_ble_eq_true rfl) (by decide) (by decide) o_178 rfl rfl (fun v61 h61 => ?_)
    subst h61
    refine J.aload_n 64 dX8_remember_64 rfl rfl ?_
    refine J.dup 65 dX8_remember_65 rfl ?_
    refine V.getI 66 dX8_remember_66 fl_RX8_88 i_178_1 ?_
    refine J.top (b := nI 15) (by simp [up2, cpK]) ?_
    refine J.iconst 69 (nI 1) dX8_remember_69 (by decide +kernel) ?_
    refine V.iadd 70 dX8_remember_70 ?_
    refine V.putI 71 dX8_remember_71 fl_RX8_88 fp_8_1 i_178_1 ?_
    exact V.vret 74 dX8_remember_74 (by unfold rmF; rw [if_pos rfl])
  have lp : ∀ (m : Nat) (k : Nat), (1 ≤ k) → (k ≤ 16) → 16 - k < m → J w yX8_remember cX8_remember 2 none (rm 1 23) XT (ZJ w 185 0 0 (PU w (fun v' => v' = rmF v 16))) 11 [(0, .ref (wN w + 178)), (1, .int (nI k))] [] 185 (hv w (shK v k)) 0 0 := by
    intro m
    induction m with
    | zero =>
      intro k hi0 hi1 hm
      exact absurd hm (by omega)
    | succ m ih =>
      intro k hi0 hi1 hm
      refine J.iload_n 11 dX8_remember_11 rfl rfl ?_
      refine J.bipush 12 (nI 16) dX8_remember_12 (by decide +kernel) ?_
      refine V.icmp_ge 14 39 dX8_remember_14 (by decide) (by omega) (by omega) (fun c14 => ?_) (fun c14 => ?_)
      · obtain rfl : k = 16 := by omega
        exact K1
      · refine J.aload_n 17 dX8_remember_17 rfl rfl ?_
        refine J.sipush 18 (nI 192) dX8_remember_18 (by decide +kernel) ?_
        refine J.iload_n 21 dX8_remember_21 rfl rfl ?_
        refine J.iconst 22 (nI 1) dX8_remember_22 (by decide +kernel) ?_
        refine V.iadd 23 dX8_remember_23 ?_
        refine V.imul 24 dX8_remember_24 ?_
        refine J.sipush 25 (nI 192) dX8_remember_25 (by decide +kernel) ?_
        refine J.iload_n 28 dX8_remember_28 rfl rfl ?_
        refine V.imul 29 dX8_remember_29 ?_
        refine V.callvU 30 dX8_remember_30 ml_RX8_85 mi_yX8_copyRow mv_yX8_copyRow (c_X8_copyRow w _ (by omega) (by omega) (by omega)) rfl rfl (Nat.le_of_ble_eq_true rfl) (by decide) (by decide) o_178 rfl rfl (fun v30 h30 => ?_)
        subst h30
        refine V.iinc 33 dX8_remember_33 rfl (by decide) ?_
        refine J.goto 36 11 dX8_remember_36 (by decide) ?_
        rw [shK_s v k hi0 (by omega)]
        exact ih (k + 1) (by omega) (by omega) (by omega)
  refine J.aload_n 0 dX8_remember_0 rfl rfl ?_
  refine V.getI 1 dX8_remember_1 fl_RX8_88 i_178_1 ?_
  refine J.top hk0 ?_
  refine J.bipush 4 (nI 16) dX8_remember_4 (by decide +kernel) ?_
  refine V.icmp_ne 6 49 dX8_remember_6 (by decide) (by omega) (by omega) (fun c6 => absurd rfl c6) (fun c6 => ?_)
  refine J.iconst 9 (nI 1) dX8_remember_9 (by decide +kernel) ?_
  refine J.istore_n 10 dX8_remember_10 rfl (by decide) ?_
  refine V.heapv (shK_1 v) ?_
  exact lp 16 1 (by omega) (by omega) (by omega)
set_option maxHeartbeats 4000000 in
set_option maxRecDepth 100000 in
theorem c_X8_rememberB (w : Wd) (v : Vm2) {K : Nat} (hk0 : v 178 1 = nI K) (hk : K < 16) : CU w yX8_remember cX8_remember 2 (rm 1 23) [.ref (wN w + 178)] v (fun v' => v' = rmF v K) := by
  refine CU.of (by decide) (Nat.le_of_ble_eq_true rfl) ?_
  refine J.aload_n 0 dX8_remember_0 rfl rfl ?_
  refine V.getI 1 dX8_remember_1 fl_RX8_88 i_178_1 ?_
  refine J.top hk0 ?_
  refine J.bipush 4 (nI 16) dX8_remember_4 (by decide +kernel) ?_
  refine V.icmp_ne 6 49 dX8_remember_6 (by decide) (by omega) (by omega) (fun c6 => ?_) (fun c6 => absurd c6 (by omega))
  refine J.aload_n 49 dX8_remember_49 rfl rfl ?_
  refine J.iconst 50 (nI 0) dX8_remember_50 (by decide +kernel) ?_
  refine J.sipush 51 (nI 192) dX8_remember_51 (by decide +kernel) ?_
  refine J.aload_n 54 dX8_remember_54 rfl rfl ?_
  refine V.getI 55 dX8_remember_55 fl_RX8_88 i_178_1 ?_
  refine J.top hk0 ?_
  refine J.iconst 58 (nI 1) dX8_remember_58 (by decide +kernel) ?_
  refine V.iadd 59 dX8_remember_59 ?_
  refine V.imul 60 dX8_remember_60 ?_
  refine V.callvU 61 dX8_remember_61 ml_RX8_85 mi_yX8_copyRow mv_yX8_copyRow (c_X8_copyRow w _ (by omega) (by omega) (by omega)) rfl rfl (Nat.le_of_ble_eq_true rfl) (by decide) (by decide) o_178 rfl rfl (fun v61 h61 => ?_)
  subst h61
  refine J.aload_n 64 dX8_remember_64 rfl rfl ?_
  refine J.dup 65 dX8_remember_65 rfl ?_
  refine V.getI 66 dX8_remember_66 fl_RX8_88 i_178_1 ?_
  refine J.top (b := nI K) (by simp [cpK]; exact hk0) ?_
  refine J.iconst 69 (nI 1) dX8_remember_69 (by decide +kernel) ?_
  refine V.iadd 70 dX8_remember_70 ?_
  refine V.putI 71 dX8_remember_71 fl_RX8_88 fp_8_1 i_178_1 ?_
  exact V.vret 74 dX8_remember_74 (by unfold rmF; rw [if_neg (by omega)])
theorem k_remember (w : Wd) (v : Vm2) {K : Nat} (hk0 : v 178 1 = nI K) (hk : K ≤ 16) : CU w yX8_remember cX8_remember 2 (rm 1 23) [.ref (wN w + 178)] v (fun v' => v' = rmF v K) := by
  rcases Nat.lt_or_ge K 16 with h | h
  · exact c_X8_rememberB w v hk0 h
  · obtain rfl : K = 16 := by omega
    exact c_X8_rememberA w v hk0
theorem up2_self (v : Vm2) (k i : Nat) (x : Int32) : up2 v k i x k i = x := by simp [up2]
set_option maxHeartbeats 4000000 in
set_option maxRecDepth 100000 in
theorem c_X8_draw (w : Wd) (v : Vm2) {n : Int32} (hn : ¬ n = 0) : CI w yX8_draw cX8_draw 4 (some .int) (rm 0 0) [.ref (wN w + 178), .int n] v (fun r v' => r = drF (v 179 191) n ∧ v' = up2 v 179 191 (sdF (v 179 191))) := by
  refine CI.of (by decide) (Nat.le_of_ble_eq_true rfl) ?_
  refine J.aload_n 0 dX8_draw_0 rfl rfl ?_
  refine V.getR 1 dX8_draw_1 fl_RX8_7 r_178_0 ?_
  refine J.sipush 4 (nI 191) dX8_draw_4 (by decide +kernel) ?_
  refine V.iald 7 dX8_draw_7 a_179 (by omega) ?_
  refine J.i2l 8 dX8_draw_8 ?_
  refine J.ldc2 9 (1103515245) dX8_draw_9 kl_RX8_180 ?_
  refine J.lmul 12 dX8_draw_12 ?_
  refine J.ldc2 13 (12345) dX8_draw_13 kl_RX8_182 ?_
  refine J.ladd 16 dX8_draw_16 ?_
  refine J.ldc2 17 (2147483648) dX8_draw_17 kl_RX8_184 ?_
  refine J.lrem 20 dX8_draw_20 (by decide) ?_
  refine J.lstore_n 21 dX8_draw_21 rfl (by decide) ?_
  refine J.aload_n 22 dX8_draw_22 rfl rfl ?_
  refine V.getR 23 dX8_draw_23 fl_RX8_7 r_178_0 ?_
  refine J.sipush 26 (nI 191) dX8_draw_26 (by decide +kernel) ?_
  refine J.lload_n 29 dX8_draw_29 rfl rfl ?_
  refine J.l2i 30 dX8_draw_30 ?_
  refine V.iast 31 dX8_draw_31 a_179 (by omega) ?_
  refine J.aload_n 32 dX8_draw_32 rfl rfl ?_
  refine V.getR 33 dX8_draw_33 fl_RX8_7 r_178_0 ?_
  refine J.sipush 36 (nI 191) dX8_draw_36 (by decide +kernel) ?_
  refine V.iald 39 dX8_draw_39 a_179 (by omega) ?_
  refine J.top (b := sdF (v 179 191)) (by rw [up2_self]; rfl) ?_
  refine J.ldc 40 (65536) dX8_draw_40 kc_RX8_186 (J.top (b := nI 65536) (by decide +kernel) ?_)
  refine J.idiv 42 dX8_draw_42 (by decide) ?_
  refine J.iload_n 43 dX8_draw_43 rfl rfl ?_
  refine J.irem 44 dX8_draw_44 (hn) ?_
  exact V.iret 45 dX8_draw_45 (⟨rfl, rfl⟩)
end
section
/-! ===== part 17: the reference: draws ===== -/
def sdN (a : Nat) : Nat := (a * 1103515245 + 12345) % 2147483648
theorem sdN_lt (a : Nat) : sdN a < 2 ^ 31 := Nat.mod_lt _ (by decide)
theorem sdF_N {a : Nat} (h : a < 2 ^ 31) : sdF (nI a) = nI (sdN a) := by
  unfold sdF sdN
  rw [nI_l h]
  have e1 : (1103515245 : Int64) = lN 1103515245 := by decide +kernel
  have e2 : (12345 : Int64) = lN 12345 := by decide +kernel
  have e3 : (2147483648 : Int64) = lN 2147483648 := by decide +kernel
  rw [e1, e2, e3, lN_mul, lN_add, pk_lRem (by omega) (by decide) (by decide), lN_i]
def drN (a n : Nat) : Nat := sdN a / 65536 % n
theorem drF_N {a n : Nat} (h : a < 2 ^ 31) (h0 : 0 < n) (hn : n < 2 ^ 31) : drF (nI a) (nI n) = nI (drN a n) := by
  unfold drF drN
  have hs := sdN_lt a
  rw [sdF_N h, pk_div hs (by decide) (by decide), pk_rem (by omega) h0 hn]
theorem drN_lt {a n : Nat} (h : 0 < n) : drN a n < n := Nat.mod_lt _ h
theorem nI_n0 {n : Nat} (h0 : 0 < n) (h : n < 2 ^ 31) : ¬ nI n = 0 := nI_ne0 h0 h
theorem k_draw (w : Wd) (v : Vm2) {n a : Nat} (hs : v 179 191 = nI a) (ha : a < 2 ^ 31) (h0 : 0 < n) (hn : n < 2 ^ 31) : CI w yX8_draw cX8_draw 4 (some .int) (rm 0 0) [.ref (wN w + 178), .int (nI n)] v (fun r v' => r = nI (drN a n) ∧ v' = up2 v 179 191 (nI (sdN a))) := by
  have h := c_X8_draw w v (n := nI n) (nI_ne0 h0 hn)
  rw [hs, drF_N ha h0 hn, sdF_N ha] at h
  exact h
def EqS (u v : Vm2) : Prop := ∀ a, a ≠ 183 → a ≠ 184 → u a = v a
def sd5 (a : Nat) : Nat := sdN (sdN (sdN (sdN (sdN a))))
def tmW (f : Nat → Int32) (n a : Nat) : Nat → Int32 := if drN a n = drN (sdN a) n then upd f 191 (nI (sd5 a)) else upd (upd (upd f 191 (nI (sd5 a))) (107 + 8 * drN a n + drN (sdN a) n) (nI (drN (sdN (sdN a)) 2001) - nI 1000)) (43 + 8 * drN a n + drN (sdN a) n) (nI (drN (sdN (sdN (sdN a))) 41) - nI 20)
def tmF (f : Nat → Int32) (n fs ma a : Nat) : Nat → Int32 := if drN (sdN (sdN (sdN (sdN a)))) 3 = 0 then rnW (tmW f n a) 0 n n (rdF (tmW f n a) n fs) else tkF (tmW f n a) n ma
theorem tmW_at (f : Nat → Int32) {n a k : Nat} (h0 : 0 < n) (hn : n ≤ 8) (hk : k < 43 ∨ (171 ≤ k ∧ k ≠ 191)) : tmW f n a k = f k := by
  have h1 := drN_lt (a := a) h0
  have h2 := drN_lt (a := sdN a) h0
  unfold tmW
  split
  · rw [upd_ne _ _ (by omega)]
  · rw [upd_ne _ _ (by omega), upd_ne _ _ (by omega), upd_ne _ _ (by omega)]

theorem upR_upR_ne {v : Vm2} {f o g r : Nat → Int32} {b : Nat} (h1 : b ≠ 183) (h2 : b ≠ 184) : upR (upR (upR (upR v 179 f) 183 o) 184 g) 179 r b = upR v 179 r b := by
  by_cases h : b = 179
  · subst h
    rw [upR_self, upR_self]
  · rw [upR_ne _ _ h, upR_ne _ _ h2, upR_ne _ _ h1, upR_ne _ _ h, upR_ne _ _ h]
set_option maxHeartbeats 4000000 in
set_option maxRecDepth 100000 in
theorem c_X8_time (w : Wd) (v : Vm2) {n f ma a : Nat} (hn0 : v 179 0 = nI n) (hf : v 179 1 = nI f) (h0 : 0 < n) (hn : n ≤ 8) (hf3 : f < 8) (hm0 : v 179 171 = nI ma) (hma : ma ≤ 6) (hal : ∀ b, b < ma → ∃ cl, cl < 8 ∧ v 179 (172 + b) = nI cl) (hs0 : v 179 191 = nI a) (ha0 : a < 2 ^ 31) : CU w yX8_time cX8_time 6 (rm 4 91) [.ref (wN w + 178)] v (fun v' => EqS v' (upR v 179 (tmF (v 179) n f ma a))) := by
  have j1 := drN_lt (a := a) h0
  have j2 := drN_lt (a := sdN a) h0
  have j3 := drN_lt (a := sdN (sdN (sdN (sdN a)))) (by decide : 0 < 3)
  refine CU.of (by decide) (Nat.le_of_ble_eq_true rfl) ?_
  refine J.aload_n 0 dX8_time_0 rfl rfl ?_
  refine J.aload_n 1 dX8_time_1 rfl rfl ?_
  refine V.getR 2 dX8_time_2 fl_RX8_7 r_178_0 ?_
  refine J.iconst 5 (nI 0) dX8_time_5 (by decide +kernel) ?_
  refine V.iald 6 dX8_time_6 a_179 (by omega) ?_
  refine J.top hn0 ?_
  refine V.callv 7 dX8_time_7 ml_RX8_187 mi_yX8_draw mv_yX8_draw (k_draw w _ hs0 ha0 (by first | exact h0 | decide) (by first | omega | decide)) rfl rfl (Nat.le_of_ble_eq_true rfl) (by decide) (by decide) o_178 rfl rfl (fun r7 v7 h7 => ?_)
  obtain ⟨rfl, rfl⟩ := h7
  refine V.heapv (upR_upd _ _ _ _).symm ?_
  refine J.istore_n 10 dX8_time_10 rfl (by decide) ?_
  refine J.aload_n 11 dX8_time_11 rfl rfl ?_
  refine J.aload_n 12 dX8_time_12 rfl rfl ?_
  refine V.getR 13 dX8_time_13 fl_RX8_7 r_178_0 ?_
  refine J.iconst 16 (nI 0) dX8_time_16 (by decide +kernel) ?_
  refine V.iald 17 dX8_time_17 a_179 (by omega) ?_
  refine J.top (b := nI n) (by rw [upR_self, upd_ne _ _ (by decide)]; exact hn0) ?_
  refine V.callv 18 dX8_time_18 ml_RX8_187 mi_yX8_draw mv_yX8_draw (k_draw w _ (by rw [upR_self, upd_self]) (sdN_lt _) (by first | exact h0 | decide) (by first | omega | decide)) rfl rfl (Nat.le_of_ble_eq_true rfl) (by decide) (by decide) o_178 rfl rfl (fun r18 v18 h18 => ?_)
  obtain ⟨rfl, rfl⟩ := h18
  refine V.heapv (up2_upR _ _ _ _ _) ?_
  rw [upd_upd]
  refine J.istore_n 21 dX8_time_21 rfl (by decide) ?_
  refine J.aload_n 22 dX8_time_22 rfl rfl ?_
  refine J.sipush 23 (nI 2001) dX8_time_23 (by decide +kernel) ?_
  refine V.callv 26 dX8_time_26 ml_RX8_187 mi_yX8_draw mv_yX8_draw (k_draw w _ (by rw [upR_self, upd_self]) (sdN_lt _) (by first | exact h0 | decide) (by first | omega | decide)) rfl rfl (Nat.le_of_ble_eq_true rfl) (by decide) (by decide) o_178 rfl rfl (fun r26 v26 h26 => ?_)
  obtain ⟨rfl, rfl⟩ := h26
  refine V.heapv (up2_upR _ _ _ _ _) ?_
  rw [upd_upd]
  refine J.sipush 29 (nI 1000) dX8_time_29 (by decide +kernel) ?_
  refine J.isub 32 dX8_time_32 ?_
  refine J.istore_n 33 dX8_time_33 rfl (by decide) ?_
  refine J.aload_n 34 dX8_time_34 rfl rfl ?_
  refine J.bipush 35 (nI 41) dX8_time_35 (by decide +kernel) ?_
  refine V.callv 37 dX8_time_37 ml_RX8_187 mi_yX8_draw mv_yX8_draw (k_draw w _ (by rw [upR_self, upd_self]) (sdN_lt _) (by first | exact h0 | decide) (by first | omega | decide)) rfl rfl (Nat.le_of_ble_eq_true rfl) (by decide) (by decide) o_178 rfl rfl (fun r37 v37 h37 => ?_)
  obtain ⟨rfl, rfl⟩ := h37
  refine V.heapv (up2_upR _ _ _ _ _) ?_
  rw [upd_upd]
  refine J.bipush 40 (nI 20) dX8_time_40 (by decide +kernel) ?_
  refine J.isub 42 dX8_time_42 ?_
  refine J.istore 43 dX8_time_43 (by decide) ?_
  refine J.aload_n 45 dX8_time_45 rfl rfl ?_
  refine J.iconst 46 (nI 3) dX8_time_46 (by decide +kernel) ?_
  refine V.callv 47 dX8_time_47 ml_RX8_187 mi_yX8_draw mv_yX8_draw (k_draw w _ (by rw [upR_self, upd_self]) (sdN_lt _) (by first | exact h0 | decide) (by first | omega | decide)) rfl rfl (Nat.le_of_ble_eq_true rfl) (by decide) (by decide) o_178 rfl rfl (fun r47 v47 h47 => ?_)
  obtain ⟨rfl, rfl⟩ := h47
  refine V.heapv (up2_upR _ _ _ _ _) ?_
  rw [upd_upd]
  refine J.istore 50 dX8_time_50 (by decide) ?_
  refine J.iload_n 52 dX8_time_52 rfl rfl ?_
  refine J.iload_n 53 dX8_time_53 rfl rfl ?_
  refine V.icmp_eq 54 88 dX8_time_54 (by decide) (by omega) (by omega) (fun c54 => ?_) (fun c54 => ?_)
  · have et : tmW (v 179) n a = upd (v 179) 191 (nI (sd5 a)) := by unfold tmW; rw [if_pos c54]
    refine V.heapv (v' := upR v 179 (tmW (v 179) n a)) (by rw [et]; rfl) ?_
    refine J.iload 88 dX8_time_88 rfl ?_
    refine V.if_ne 90 101 dX8_time_90 (by decide) (by omega) (fun c90 => ?_) (fun c90 => ?_)
    · refine J.aload_n 101 dX8_time_101 rfl rfl ?_
      refine V.callvU 102 dX8_time_102 ml_RX8_169 mi_yX8_tickOne mv_yX8_tickOne (c_X8_tickOne w _ (n := n) (ma := ma) (by rw [upR_self, tmW_at _ h0 hn (by omega)]; exact hn0) hn (by rw [upR_self, tmW_at _ h0 hn (by omega)]; exact hm0) hma (fun b hb => by rw [upR_self, tmW_at _ h0 hn (by omega)]; exact hal b hb)) rfl rfl (Nat.le_of_ble_eq_true rfl) (by decide) (by decide) o_178 rfl rfl (fun v102 h102 => ?_)
      subst h102
      rw [upR_self, upR_upR]
      exact V.vret 105 dX8_time_105 (fun b h1 h2 => by unfold tmF; first | (rw [if_pos c90, upR_upR_ne h1 h2]) | (rw [if_neg c90]))
    · refine J.aload_n 93 dX8_time_93 rfl rfl ?_
      refine J.iconst 94 (nI 0) dX8_time_94 (by decide +kernel) ?_
      refine V.callvU 95 dX8_time_95 ml_RX8_172 mi_yX8_roundIn mv_yX8_roundIn (c_X8_roundIn w _ (by decide) (by rw [upR_self, tmW_at _ h0 hn (by omega)]; exact hn0) (by rw [ro_zero, upR_self, tmW_at _ h0 hn (by omega)]; exact hf) (by omega) (by omega)) rfl rfl (Nat.le_of_ble_eq_true rfl) (by decide) (by decide) o_178 rfl rfl (fun v95 h95 => ?_)
      obtain ⟨o95, g95, rfl⟩ := h95
      rw [ro_zero, upR_self]
      refine J.goto 98 105 dX8_time_98 (by decide) ?_
      exact V.vret 105 dX8_time_105 (fun b h1 h2 => by unfold tmF; first | (rw [if_pos c90, upR_upR_ne h1 h2]) | (rw [if_neg c90]))
  · have et : tmW (v 179) n a = _ := if_neg c54
    refine J.aload_n 57 dX8_time_57 rfl rfl ?_
    refine V.getR 58 dX8_time_58 fl_RX8_7 r_178_0 ?_
    refine J.bipush 61 (nI 107) dX8_time_61 (by decide +kernel) ?_
    refine J.bipush 63 (nI 8) dX8_time_63 (by decide +kernel) ?_
    refine J.iload_n 65 dX8_time_65 rfl rfl ?_
    refine V.imul 66 dX8_time_66 ?_
    refine V.iadd 67 dX8_time_67 ?_
    refine J.iload_n 68 dX8_time_68 rfl rfl ?_
    refine V.iadd 69 dX8_time_69 ?_
    refine J.iload_n 70 dX8_time_70 rfl rfl ?_
    refine V.iast 71 dX8_time_71 a_179 (by omega) ?_
    refine V.heapv (up2_upR _ _ _ _ _) ?_
    refine J.aload_n 72 dX8_time_72 rfl rfl ?_
    refine V.getR 73 dX8_time_73 fl_RX8_7 r_178_0 ?_
    refine J.bipush 76 (nI 43) dX8_time_76 (by decide +kernel) ?_
    refine J.bipush 78 (nI 8) dX8_time_78 (by decide +kernel) ?_
    refine J.iload_n 80 dX8_time_80 rfl rfl ?_
    refine V.imul 81 dX8_time_81 ?_
    refine V.iadd 82 dX8_time_82 ?_
    refine J.iload_n 83 dX8_time_83 rfl rfl ?_
    refine V.iadd 84 dX8_time_84 ?_
    refine J.iload 85 dX8_time_85 rfl ?_
    refine V.iast 87 dX8_time_87 a_179 (by omega) ?_
    refine V.heapv (up2_upR _ _ _ _ _) ?_
    refine V.heapv (v' := upR v 179 (tmW (v 179) n a)) (by rw [et]; rfl) ?_
    refine J.iload 88 dX8_time_88 rfl ?_
    refine V.if_ne 90 101 dX8_time_90 (by decide) (by omega) (fun c90 => ?_) (fun c90 => ?_)
    · refine J.aload_n 101 dX8_time_101 rfl rfl ?_
      refine V.callvU 102 dX8_time_102 ml_RX8_169 mi_yX8_tickOne mv_yX8_tickOne (c_X8_tickOne w _ (n := n) (ma := ma) (by rw [upR_self, tmW_at _ h0 hn (by omega)]; exact hn0) hn (by rw [upR_self, tmW_at _ h0 hn (by omega)]; exact hm0) hma (fun b hb => by rw [upR_self, tmW_at _ h0 hn (by omega)]; exact hal b hb)) rfl rfl (Nat.le_of_ble_eq_true rfl) (by decide) (by decide) o_178 rfl rfl (fun v102 h102 => ?_)
      subst h102
      rw [upR_self, upR_upR]
      exact V.vret 105 dX8_time_105 (fun b h1 h2 => by unfold tmF; first | (rw [if_pos c90, upR_upR_ne h1 h2]) | (rw [if_neg c90]))
    · refine J.aload_n 93 dX8_time_93 rfl rfl ?_
      refine J.iconst 94 (nI 0) dX8_time_94 (by decide +kernel) ?_
      refine V.callvU 95 dX8_time_95 ml_RX8_172 mi_yX8_roundIn mv_yX8_roundIn (c_X8_roundIn w _ (by decide) (by rw [upR_self, tmW_at _ h0 hn (by omega)]; exact hn0) (by rw [ro_zero, upR_self, tmW_at _ h0 hn (by omega)]; exact hf) (by omega) (by omega)) rfl rfl (Nat.le_of_ble_eq_true rfl) (by decide) (by decide) o_178 rfl rfl (fun v95 h95 => ?_)
      obtain ⟨o95, g95, rfl⟩ := h95
      rw [ro_zero, upR_self]
      refine J.goto 98 105 dX8_time_98 (by decide) ?_
      exact V.vret 105 dX8_time_105 (fun b h1 h2 => by unfold tmF; first | (rw [if_pos c90, upR_upR_ne h1 h2]) | (rw [if_neg c90]))
end
section
/-! ===== part 18: the text: a model of its reading, and the reference's reading ===== -/
def skF (t : Nat → Int32) (s : Nat) : Nat → Nat → Nat
  | 0, a => a
  | m + 1, a => if a < s ∧ t a = nI 32 then skF t s m (a + 1) else a
def skp (t : Nat → Int32) (s a : Nat) : Nat := skF t s (s - a) a
theorem skp_y {t : Nat → Int32} {s a : Nat} (h : a < s) (h2 : t a = nI 32) : skp t s a = skp t s (a + 1) := by
  unfold skp
  obtain ⟨r, hr⟩ : ∃ r, s - a = r + 1 := ⟨s - a - 1, by omega⟩
  rw [hr, show s - (a + 1) = r by omega]
  exact if_pos ⟨h, h2⟩
theorem skp_n {t : Nat → Int32} {s a : Nat} (h : ¬ (a < s ∧ t a = nI 32)) : skp t s a = a := by
  unfold skp
  cases hr : s - a with
  | zero => rfl
  | succ r => exact if_neg h
theorem skp_le (t : Nat → Int32) (s : Nat) : ∀ (m a : Nat), s - a < m → a ≤ s → a ≤ skp t s a ∧ skp t s a ≤ s
  | 0, a, h, _ => absurd h (by omega)
  | m + 1, a, h, ha => by
    by_cases hc : a < s ∧ t a = nI 32
    · rw [skp_y hc.1 hc.2]
      have := skp_le t s m (a + 1) (by omega) (by omega)
      omega
    · rw [skp_n hc]
      omega
theorem skp_in {t : Nat → Int32} {s a : Nat} (h : a ≤ s) : a ≤ skp t s a ∧ skp t s a ≤ s := skp_le t s (s - a + 1) a (by omega) h
theorem skp_st (t : Nat → Int32) (s : Nat) : ∀ (m a : Nat), s - a < m → ¬ (skp t s a < s ∧ t (skp t s a) = nI 32)
  | 0, a, h => absurd h (by omega)
  | m + 1, a, h => by
    by_cases hc : a < s ∧ t a = nI 32
    · rw [skp_y hc.1 hc.2]
      exact skp_st t s m (a + 1) (by omega)
    · rw [skp_n hc]
      exact hc
theorem skp_skp (t : Nat → Int32) (s a : Nat) : skp t s (skp t s a) = skp t s a := skp_n (skp_st t s (s - a + 1) a (by omega))
def ltr (t : Nat → Int32) (s a : Nat) : Int32 := if a < s then t a else nI 0
abbrev isD (x : Int32) : Prop := inF x (nI 48) (nI 57)
def dgF (t : Nat → Int32) (s fr : Nat) : Nat → Nat → Int32 → Nat × Int32
  | 0, a, x => (a, x)
  | m + 1, a, x => if a < s ∧ isD (t a) then dgF t s fr m (a + 1) (if a - fr < 4 then nI 10 * x + t a - nI 48 else x) else (a, x)
def dg (t : Nat → Int32) (s fr a : Nat) (x : Int32) : Nat × Int32 := dgF t s fr (s - a) a x
theorem dg_y {t : Nat → Int32} {s fr a : Nat} {x : Int32} (h : a < s) (h2 : isD (t a)) : dg t s fr a x = dg t s fr (a + 1) (if a - fr < 4 then nI 10 * x + t a - nI 48 else x) := by
  unfold dg
  obtain ⟨r, hr⟩ : ∃ r, s - a = r + 1 := ⟨s - a - 1, by omega⟩
  rw [hr, show s - (a + 1) = r by omega]
  exact if_pos ⟨h, h2⟩
theorem dg_n {t : Nat → Int32} {s fr a : Nat} {x : Int32} (h : ¬ (a < s ∧ isD (t a))) : dg t s fr a x = (a, x) := by
  unfold dg
  cases hr : s - a with
  | zero => rfl
  | succ r => exact if_neg h
theorem dg_le (t : Nat → Int32) (s fr : Nat) : ∀ (m a : Nat) (x : Int32), s - a < m → a ≤ s → a ≤ (dg t s fr a x).1 ∧ (dg t s fr a x).1 ≤ s
  | 0, a, x, h, _ => absurd h (by omega)
  | m + 1, a, x, h, ha => by
    by_cases hc : a < s ∧ isD (t a)
    · rw [dg_y hc.1 hc.2]
      have := dg_le t s fr m (a + 1) (if a - fr < 4 then nI 10 * x + t a - nI 48 else x) (by omega) (by omega)
      omega
    · rw [dg_n hc]
      exact ⟨Nat.le_refl a, ha⟩
theorem dg_in {t : Nat → Int32} {s fr a : Nat} {x : Int32} (h : a ≤ s) : a ≤ (dg t s fr a x).1 ∧ (dg t s fr a x).1 ≤ s := dg_le t s fr (s - a + 1) a x (by omega) h
/-- a number that begins at fr: where it ends, its value, its fault -/
def nuE (t : Nat → Int32) (s fr : Nat) : Nat := (dg t s fr fr (nI 0)).1
def nuV (t : Nat → Int32) (s fr : Nat) : Int32 := (dg t s fr fr (nI 0)).2
def nuK (t : Nat → Int32) (s fr : Nat) (lo hi : Int32) : Nat := if ¬ isD (ltr t s fr) then 1 else if 4 < nuE t s fr - fr ∨ ¬ inF (nuV t s fr) lo hi then 2 else 0
/-- the reference's fields behind a number: at, wrong, place, from -/
def nuU (v : Vm2) (t : Nat → Int32) (s fr : Nat) (lo hi : Int32) : Vm2 := if nuK t s fr lo hi = 0 then up2 (up2 v 178 11 (nI (nuE t s fr))) 178 14 (nI fr) else up2 (up2 (up2 (up2 v 178 11 (nI (nuE t s fr))) 178 14 (nI fr)) 178 12 (nI (nuK t s fr lo hi))) 178 13 (nI fr)
theorem up2_up2 (v : Vm2) (k i : Nat) (x y : Int32) : up2 (up2 v k i x) k i y = up2 v k i y := by
  funext a b
  by_cases h : a = k ∧ b = i
  · simp [up2, h]
  · simp only [up2, if_neg h]
theorem up2_cm (v : Vm2) {k i j : Nat} (x y : Int32) (h : i ≠ j) : up2 (up2 v k i x) k j y = up2 (up2 v k j y) k i x := by
  funext a b
  simp only [up2]
  by_cases h1 : a = k ∧ b = j
  · rw [if_pos h1, if_neg (by omega)]
    exact (if_pos h1).symm
  · rw [if_neg h1]
    by_cases h2 : a = k ∧ b = i
    · rw [if_pos h2, if_pos h2]
    · rw [if_neg h2, if_neg h2, if_neg h1]
theorem up2_id (v : Vm2) {k i : Nat} {x : Int32} (h : v k i = x) : v = up2 v k i x := by
  funext a b
  by_cases h1 : a = k ∧ b = i
  · simp only [up2, if_pos h1]
    rw [h1.1, h1.2]
    exact h
  · simp only [up2, if_neg h1]
theorem up2_o (v : Vm2) {k i a b : Nat} (x : Int32) (h : ¬ (a = k ∧ b = i)) : up2 v k i x a b = v a b := by simp only [up2, if_neg h]

set_option maxHeartbeats 4000000 in
set_option maxRecDepth 100000 in
theorem c_X8_here (w : Wd) (v : Vm2) {s a : Nat} (ha0 : v 178 11 = nI a) (hs0 : v 178 4 = nI s) (ha : a ≤ s + 1) (hs : s ≤ 200) : CI w yX8_here cX8_here 1 (some .int) (rm 0 0) [.ref (wN w + 178)] v (fun r v' => r = ltr (v 180) s (skp (v 180) s a) ∧ v' = up2 v 178 11 (nI (skp (v 180) s a))) := by
  refine CI.of (by decide) (Nat.le_of_ble_eq_true rfl) ?_
  have lp : ∀ (m : Nat) (p : Nat), (p ≤ s + 1) → (skp (v 180) s p = skp (v 180) s a) → s - p < m → J w yX8_here cX8_here 1 (some .int) (rm 0 0) XT (ZJ w 185 0 0 (PI w (fun r v' => r = ltr (v 180) s (skp (v 180) s a) ∧ v' = up2 v 178 11 (nI (skp (v 180) s a))))) 0 [(0, .ref (wN w + 178))] [] 185 (hv w (up2 v 178 11 (nI p))) 0 0 := by
    intro m
    induction m with
    | zero =>
      intro p hi0 hi1 hm
      exact absurd hm (by omega)
    | succ m ih =>
      intro p hi0 hi1 hm
      refine J.aload_n 0 dX8_here_0 rfl rfl ?_
      refine V.getI 1 dX8_here_1 fl_RX8_51 i_178_11 ?_
      refine J.top (b := nI p) (up2_self _ _ _ _) ?_
      refine J.aload_n 4 dX8_here_4 rfl rfl ?_
      refine V.getI 5 dX8_here_5 fl_RX8_37 i_178_4 ?_
      refine J.top (b := nI s) ((up2_o _ _ (by omega)).trans hs0) ?_
      refine V.icmp_ge 8 38 dX8_here_8 (by decide) (by omega) (by omega) (fun c8 => ?_) (fun c8 => ?_)
      · have ep : skp (v 180) s p = p := skp_n (by omega)
        refine J.aload_n 38 dX8_here_38 rfl rfl ?_
        refine V.getI 39 dX8_here_39 fl_RX8_51 i_178_11 ?_
        refine J.top (b := nI p) (up2_self _ _ _ _) ?_
        refine J.aload_n 42 dX8_here_42 rfl rfl ?_
        refine V.getI 43 dX8_here_43 fl_RX8_37 i_178_4 ?_
        refine J.top (b := nI s) ((up2_o _ _ (by omega)).trans hs0) ?_
        refine V.icmp_ge 46 61 dX8_here_46 (by decide) (by omega) (by omega) (fun c46 => ?_) (fun c46 => ?_)
        · refine J.iconst 61 (nI 0) dX8_here_61 (by decide +kernel) ?_
          exact V.iret 62 dX8_here_62 (⟨by rw [← hi1, ep]; unfold ltr; first | exact (if_pos c46).symm | exact (if_neg (by omega)).symm, by rw [← hi1, ep]⟩)
        · refine J.aload_n 49 dX8_here_49 rfl rfl ?_
          refine V.getR 50 dX8_here_50 fl_RX8_13 r_178_3 ?_
          refine J.aload_n 53 dX8_here_53 rfl rfl ?_
          refine V.getI 54 dX8_here_54 fl_RX8_51 i_178_11 ?_
          refine J.top (b := nI p) (up2_self _ _ _ _) ?_
          refine V.iald 57 dX8_here_57 a_180 (by omega) ?_
          refine J.top (b := v 180 p) (up2_o _ _ (by omega)) ?_
          refine J.goto 58 62 dX8_here_58 (by decide) ?_
          exact V.iret 62 dX8_here_62 (⟨by rw [← hi1, ep]; unfold ltr; first | exact (if_pos c46).symm | exact (if_neg (by omega)).symm, by rw [← hi1, ep]⟩)
      · refine J.aload_n 11 dX8_here_11 rfl rfl ?_
        refine V.getR 12 dX8_here_12 fl_RX8_13 r_178_3 ?_
        refine J.aload_n 15 dX8_here_15 rfl rfl ?_
        refine V.getI 16 dX8_here_16 fl_RX8_51 i_178_11 ?_
        refine J.top (b := nI p) (up2_self _ _ _ _) ?_
        refine V.iald 19 dX8_here_19 a_180 (by omega) ?_
        refine J.top (b := v 180 p) (up2_o _ _ (by omega)) ?_
        refine J.bipush 20 (nI 32) dX8_here_20 (by decide +kernel) ?_
        refine J.icmp_ne 22 38 dX8_here_22 (by decide) (fun c22 => ?_) (fun c22 => ?_)
        · have ep : skp (v 180) s p = p := skp_n (fun z => c22 z.2)
          refine J.aload_n 38 dX8_here_38 rfl rfl ?_
          refine V.getI 39 dX8_here_39 fl_RX8_51 i_178_11 ?_
          refine J.top (b := nI p) (up2_self _ _ _ _) ?_
          refine J.aload_n 42 dX8_here_42 rfl rfl ?_
          refine V.getI 43 dX8_here_43 fl_RX8_37 i_178_4 ?_
          refine J.top (b := nI s) ((up2_o _ _ (by omega)).trans hs0) ?_
          refine V.icmp_ge 46 61 dX8_here_46 (by decide) (by omega) (by omega) (fun c46 => ?_) (fun c46 => ?_)
          · refine J.iconst 61 (nI 0) dX8_here_61 (by decide +kernel) ?_
            exact V.iret 62 dX8_here_62 (⟨by rw [← hi1, ep]; unfold ltr; first | exact (if_pos c46).symm | exact (if_neg (by omega)).symm, by rw [← hi1, ep]⟩)
          · refine J.aload_n 49 dX8_here_49 rfl rfl ?_
            refine V.getR 50 dX8_here_50 fl_RX8_13 r_178_3 ?_
            refine J.aload_n 53 dX8_here_53 rfl rfl ?_
            refine V.getI 54 dX8_here_54 fl_RX8_51 i_178_11 ?_
            refine J.top (b := nI p) (up2_self _ _ _ _) ?_
            refine V.iald 57 dX8_here_57 a_180 (by omega) ?_
            refine J.top (b := v 180 p) (up2_o _ _ (by omega)) ?_
            refine J.goto 58 62 dX8_here_58 (by decide) ?_
            exact V.iret 62 dX8_here_62 (⟨by rw [← hi1, ep]; unfold ltr; first | exact (if_pos c46).symm | exact (if_neg (by omega)).symm, by rw [← hi1, ep]⟩)
        · refine J.aload_n 25 dX8_here_25 rfl rfl ?_
          refine J.dup 26 dX8_here_26 rfl ?_
          refine V.getI 27 dX8_here_27 fl_RX8_51 i_178_11 ?_
          refine J.top (b := nI p) (up2_self _ _ _ _) ?_
          refine J.iconst 30 (nI 1) dX8_here_30 (by decide +kernel) ?_
          refine V.iadd 31 dX8_here_31 ?_
          refine V.putI 32 dX8_here_32 fl_RX8_51 fp_8_11 i_178_11 ?_
          refine V.heapv (up2_up2 _ _ _ _ _) ?_
          refine J.goto 35 0 dX8_here_35 (by decide) ?_
          exact ih (p + 1) (by omega) (by rw [← hi1]; exact (skp_y c8 c22).symm) (by omega)
  refine V.heapv (up2_id v ha0) ?_
  exact lp (s + 1) a ha rfl (by omega)
set_option maxHeartbeats 4000000 in
set_option maxRecDepth 100000 in
theorem c_X8_fail (w : Wd) (v : Vm2) {k p : Int32} : CU w yX8_fail cX8_fail 3 (rm 1 20) [.ref (wN w + 178), .int k, .int p] v (fun v' => v' = if v 178 12 = 0 then up2 (up2 v 178 12 k) 178 13 p else v) := by
  refine CU.of (by decide) (Nat.le_of_ble_eq_true rfl) ?_
  refine J.aload_n 0 dX8_fail_0 rfl rfl ?_
  refine V.callvP 1 dX8_fail_1 ml_RX8_44 mi_yX8_fine mv_yX8_fine (c_X8_fine w _) rfl rfl (Nat.le_of_ble_eq_true rfl) (by decide) (by decide) o_178 rfl rfl ?_
  refine V.if_eqB 4 17 dX8_fail_4 (by decide) (fun c4 => ?_) (fun c4 => ?_)
  · exact V.vret 17 dX8_fail_17 (by first | rw [if_pos c4] | rw [if_neg c4])
  · refine J.aload_n 7 dX8_fail_7 rfl rfl ?_
    refine J.iload_n 8 dX8_fail_8 rfl rfl ?_
    refine V.putI 9 dX8_fail_9 fl_RX8_41 fp_8_12 i_178_12 ?_
    refine J.aload_n 12 dX8_fail_12 rfl rfl ?_
    refine J.iload_n 13 dX8_fail_13 rfl rfl ?_
    refine V.putI 14 dX8_fail_14 fl_RX8_48 fp_8_13 i_178_13 ?_
    exact V.vret 17 dX8_fail_17 (by first | rw [if_pos c4] | rw [if_neg c4])
theorem k_fail (w : Wd) (v : Vm2) {k p : Int32} (h : v 178 12 = 0) : CU w yX8_fail cX8_fail 3 (rm 1 20) [.ref (wN w + 178), .int k, .int p] v (fun v' => v' = up2 (up2 v 178 12 k) 178 13 p) := by
  have h1 := c_X8_fail w v (k := k) (p := p)
  rw [if_pos h] at h1
  exact h1
set_option maxHeartbeats 4000000 in
set_option maxRecDepth 100000 in
theorem c_X8_number (w : Wd) (v : Vm2) {s a : Nat} {lo hi : Int32} (ha0 : v 178 11 = nI a) (hs0 : v 178 4 = nI s) (hw0 : v 178 12 = 0) (ha : a ≤ s) (hs : s ≤ 200) : CI w yX8_number cX8_number 5 (some .int) (rm 2 42) [.ref (wN w + 178), .int lo, .int hi] v (fun r v' => r = nuV (v 180) s (skp (v 180) s a) ∧ v' = nuU v (v 180) s (skp (v 180) s a) lo hi) := by
  refine CI.of (by decide) (Nat.le_of_ble_eq_true rfl) ?_
  have hsk := skp_in (t := v 180) ha
  obtain ⟨fr, hfr⟩ : ∃ fr, fr = skp (v 180) s a := ⟨_, rfl⟩
  have lp : ∀ (m : Nat) (p : Nat) (x : Int32), (fr ≤ p) → (p ≤ s) → (dg (v 180) s fr p x = dg (v 180) s fr fr (nI 0)) → s - p < m → J w yX8_number cX8_number 5 (some .int) (rm 2 42) XT (ZJ w 185 0 0 (PI w (fun r v' => r = nuV (v 180) s (skp (v 180) s a) ∧ v' = nuU v (v 180) s (skp (v 180) s a) lo hi))) 25 [(0, .ref (wN w + 178)), (1, .int lo), (2, .int hi), (3, .int (ltr (v 180) s fr)), (4, .int x)] [] 185 (hv w (up2 (up2 v 178 11 (nI p)) 178 14 (nI fr))) 0 0 := by
    intro m
    induction m with
    | zero =>
      intro p x hi0 hi1 hi2 hm
      exact absurd hm (by omega)
    | succ m ih =>
      intro p x hi0 hi1 hi2 hm
      refine J.aload_n 25 dX8_number_25 rfl rfl ?_
      refine V.getI 26 dX8_number_26 fl_RX8_51 i_178_11 ?_
      refine J.top (b := nI p) (by rw [up2_o _ _ (by omega), up2_self]) ?_
      refine J.aload_n 29 dX8_number_29 rfl rfl ?_
      refine V.getI 30 dX8_number_30 fl_RX8_37 i_178_4 ?_
      refine J.top (b := nI s) (by rw [up2_o _ _ (by omega), up2_o _ _ (by omega)]; exact hs0) ?_
      refine V.icmp_ge 33 106 dX8_number_33 (by decide) (by omega) (by omega) (fun c33 => ?_) (fun c33 => ?_)
      · have ed : dg (v 180) s fr p x = (p, x) := dg_n (by omega)
        have eE : nuE (v 180) s fr = p := by unfold nuE; rw [← hi2, ed]
        have eV : nuV (v 180) s fr = x := by unfold nuV; rw [← hi2, ed]
        refine J.iload_n 106 dX8_number_106 rfl rfl ?_
        refine J.bipush 107 (nI 48) dX8_number_107 (by decide +kernel) ?_
        refine J.bipush 109 (nI 57) dX8_number_109 (by decide +kernel) ?_
        refine V.callsP 111 dX8_number_111 ml_RX8_32 mi_yX8_in ms_yX8_in (c_X8_in w _ _ _ _) rfl rfl (Nat.le_of_ble_eq_true rfl) (by decide) (by decide) ?_
        refine V.if_neB 114 129 dX8_number_114 (by decide) (fun c114 => ?_) (fun c114 => ?_)
        · refine J.aload_n 129 dX8_number_129 rfl rfl ?_
          refine V.getI 130 dX8_number_130 fl_RX8_51 i_178_11 ?_
          refine J.top (b := nI p) (by rw [up2_o _ _ (by omega), up2_self]) ?_
          refine J.aload_n 133 dX8_number_133 rfl rfl ?_
          refine V.getI 134 dX8_number_134 fl_RX8_58 i_178_14 ?_
          refine J.top (b := nI fr) (up2_self _ _ _ _) ?_
          refine V.isub 137 dX8_number_137 (by omega) ?_
          refine J.iconst 138 (nI 4) dX8_number_138 (by decide +kernel) ?_
          refine V.icmp_gt 139 152 dX8_number_139 (by decide) (by omega) (by omega) (fun c139 => ?_) (fun c139 => ?_)
          · have eK : nuK (v 180) s fr lo hi = 2 := by unfold nuK; rw [if_neg (fun z => z c114), if_pos (Or.inl (by rw [eE]; exact c139))]
            refine J.aload_n 152 dX8_number_152 rfl rfl ?_
            refine J.iconst 153 (nI 2) dX8_number_153 (by decide +kernel) ?_
            refine J.aload_n 154 dX8_number_154 rfl rfl ?_
            refine V.getI 155 dX8_number_155 fl_RX8_58 i_178_14 ?_
            refine J.top (b := nI fr) (up2_self _ _ _ _) ?_
            refine V.callvU 158 dX8_number_158 ml_RX8_61 mi_yX8_fail mv_yX8_fail (k_fail w _ (by rw [up2_o _ _ (by omega), up2_o _ _ (by omega)]; exact hw0)) rfl rfl (Nat.le_of_ble_eq_true rfl) (by decide) (by decide) o_178 rfl rfl (fun v158 h158 => ?_)
            subst h158
            refine J.iload 161 dX8_number_161 rfl ?_
            exact V.iret 163 dX8_number_163 (⟨by rw [← hfr, eV], by unfold nuU; rw [← hfr, eE, eK]; rfl⟩)
          · refine J.iload 142 dX8_number_142 rfl ?_
            refine J.iload_n 144 dX8_number_144 rfl rfl ?_
            refine J.iload_n 145 dX8_number_145 rfl rfl ?_
            refine V.callsP 146 dX8_number_146 ml_RX8_32 mi_yX8_in ms_yX8_in (c_X8_in w _ _ _ _) rfl rfl (Nat.le_of_ble_eq_true rfl) (by decide) (by decide) ?_
            refine V.if_neB 149 161 dX8_number_149 (by decide) (fun c149 => ?_) (fun c149 => ?_)
            · have eK : nuK (v 180) s fr lo hi = 0 := by unfold nuK; rw [if_neg (fun z => z c114), if_neg (fun z => z.elim (fun z => by rw [eE] at z; omega) (fun z => z (by rw [eV]; exact c149)))]
              refine J.iload 161 dX8_number_161 rfl ?_
              exact V.iret 163 dX8_number_163 (⟨by rw [← hfr, eV], by unfold nuU; rw [← hfr, eE, eK]; rfl⟩)
            · have eK : nuK (v 180) s fr lo hi = 2 := by unfold nuK; rw [if_neg (fun z => z c114), if_pos (Or.inr (fun z => c149 (by rw [eV] at z; exact z)))]
              refine J.aload_n 152 dX8_number_152 rfl rfl ?_
              refine J.iconst 153 (nI 2) dX8_number_153 (by decide +kernel) ?_
              refine J.aload_n 154 dX8_number_154 rfl rfl ?_
              refine V.getI 155 dX8_number_155 fl_RX8_58 i_178_14 ?_
              refine J.top (b := nI fr) (up2_self _ _ _ _) ?_
              refine V.callvU 158 dX8_number_158 ml_RX8_61 mi_yX8_fail mv_yX8_fail (k_fail w _ (by rw [up2_o _ _ (by omega), up2_o _ _ (by omega)]; exact hw0)) rfl rfl (Nat.le_of_ble_eq_true rfl) (by decide) (by decide) o_178 rfl rfl (fun v158 h158 => ?_)
              subst h158
              refine J.iload 161 dX8_number_161 rfl ?_
              exact V.iret 163 dX8_number_163 (⟨by rw [← hfr, eV], by unfold nuU; rw [← hfr, eE, eK]; rfl⟩)
        · refine J.aload_n 117 dX8_number_117 rfl rfl ?_
          refine J.iconst 118 (nI 1) dX8_number_118 (by decide +kernel) ?_
          refine J.aload_n 119 dX8_number_119 rfl rfl ?_
          refine V.getI 120 dX8_number_120 fl_RX8_58 i_178_14 ?_
          refine J.top (b := nI fr) (up2_self _ _ _ _) ?_
          refine V.callvU 123 dX8_number_123 ml_RX8_61 mi_yX8_fail mv_yX8_fail (k_fail w _ (by rw [up2_o _ _ (by omega), up2_o _ _ (by omega)]; exact hw0)) rfl rfl (Nat.le_of_ble_eq_true rfl) (by decide) (by decide) o_178 rfl rfl (fun v123 h123 => ?_)
          subst h123
          have eK : nuK (v 180) s fr lo hi = 1 := if_pos c114
          refine J.goto 126 161 dX8_number_126 (by decide) ?_
          refine J.iload 161 dX8_number_161 rfl ?_
          exact V.iret 163 dX8_number_163 (⟨by rw [← hfr, eV], by unfold nuU; rw [← hfr, eE, eK]; rfl⟩)
      · refine J.aload_n 36 dX8_number_36 rfl rfl ?_
        refine V.getR 37 dX8_number_37 fl_RX8_13 r_178_3 ?_
        refine J.aload_n 40 dX8_number_40 rfl rfl ?_
        refine V.getI 41 dX8_number_41 fl_RX8_51 i_178_11 ?_
        refine J.top (b := nI p) (by rw [up2_o _ _ (by omega), up2_self]) ?_
        refine V.iald 44 dX8_number_44 a_180 (by omega) ?_
        refine J.top (b := v 180 p) (by rw [up2_o _ _ (by omega), up2_o _ _ (by omega)]) ?_
        refine J.bipush 45 (nI 48) dX8_number_45 (by decide +kernel) ?_
        refine J.bipush 47 (nI 57) dX8_number_47 (by decide +kernel) ?_
        refine V.callsP 49 dX8_number_49 ml_RX8_32 mi_yX8_in ms_yX8_in (c_X8_in w _ _ _ _) rfl rfl (Nat.le_of_ble_eq_true rfl) (by decide) (by decide) ?_
        refine V.if_eqB 52 106 dX8_number_52 (by decide) (fun c52 => ?_) (fun c52 => ?_)
        · have ed : dg (v 180) s fr p x = (p, x) := dg_n (fun z => c52 z.2)
          have eE : nuE (v 180) s fr = p := by unfold nuE; rw [← hi2, ed]
          have eV : nuV (v 180) s fr = x := by unfold nuV; rw [← hi2, ed]
          refine J.iload_n 106 dX8_number_106 rfl rfl ?_
          refine J.bipush 107 (nI 48) dX8_number_107 (by decide +kernel) ?_
          refine J.bipush 109 (nI 57) dX8_number_109 (by decide +kernel) ?_
          refine V.callsP 111 dX8_number_111 ml_RX8_32 mi_yX8_in ms_yX8_in (c_X8_in w _ _ _ _) rfl rfl (Nat.le_of_ble_eq_true rfl) (by decide) (by decide) ?_
          refine V.if_neB 114 129 dX8_number_114 (by decide) (fun c114 => ?_) (fun c114 => ?_)
          · refine J.aload_n 129 dX8_number_129 rfl rfl ?_
            refine V.getI 130 dX8_number_130 fl_RX8_51 i_178_11 ?_
            refine J.top (b := nI p) (by rw [up2_o _ _ (by omega), up2_self]) ?_
            refine J.aload_n 133 dX8_number_133 rfl rfl ?_
            refine V.getI 134 dX8_number_134 fl_RX8_58 i_178_14 ?_
            refine J.top (b := nI fr) (up2_self _ _ _ _) ?_
            refine V.isub 137 dX8_number_137 (by omega) ?_
            refine J.iconst 138 (nI 4) dX8_number_138 (by decide +kernel) ?_
            refine V.icmp_gt 139 152 dX8_number_139 (by decide) (by omega) (by omega) (fun c139 => ?_) (fun c139 => ?_)
            · have eK : nuK (v 180) s fr lo hi = 2 := by unfold nuK; rw [if_neg (fun z => z c114), if_pos (Or.inl (by rw [eE]; exact c139))]
              refine J.aload_n 152 dX8_number_152 rfl rfl ?_
              refine J.iconst 153 (nI 2) dX8_number_153 (by decide +kernel) ?_
              refine J.aload_n 154 dX8_number_154 rfl rfl ?_
              refine V.getI 155 dX8_number_155 fl_RX8_58 i_178_14 ?_
              refine J.top (b := nI fr) (up2_self _ _ _ _) ?_
              refine V.callvU 158 dX8_number_158 ml_RX8_61 mi_yX8_fail mv_yX8_fail (k_fail w _ (by rw [up2_o _ _ (by omega), up2_o _ _ (by omega)]; exact hw0)) rfl rfl (Nat.le_of_ble_eq_true rfl) (by decide) (by decide) o_178 rfl rfl (fun v158 h158 => ?_)
              subst h158
              refine J.iload 161 dX8_number_161 rfl ?_
              exact V.iret 163 dX8_number_163 (⟨by rw [← hfr, eV], by unfold nuU; rw [← hfr, eE, eK]; rfl⟩)
            · refine J.iload 142 dX8_number_142 rfl ?_
              refine J.iload_n 144 dX8_number_144 rfl rfl ?_
              refine J.iload_n 145 dX8_number_145 rfl rfl ?_
              refine V.callsP 146 dX8_number_146 ml_RX8_32 mi_yX8_in ms_yX8_in (c_X8_in w _ _ _ _) rfl rfl (Nat.le_of_ble_eq_true rfl) (by decide) (by decide) ?_
              refine V.if_neB 149 161 dX8_number_149 (by decide) (fun c149 => ?_) (fun c149 => ?_)
              · have eK : nuK (v 180) s fr lo hi = 0 := by unfold nuK; rw [if_neg (fun z => z c114), if_neg (fun z => z.elim (fun z => by rw [eE] at z; omega) (fun z => z (by rw [eV]; exact c149)))]
                refine J.iload 161 dX8_number_161 rfl ?_
                exact V.iret 163 dX8_number_163 (⟨by rw [← hfr, eV], by unfold nuU; rw [← hfr, eE, eK]; rfl⟩)
              · have eK : nuK (v 180) s fr lo hi = 2 := by unfold nuK; rw [if_neg (fun z => z c114), if_pos (Or.inr (fun z => c149 (by rw [eV] at z; exact z)))]
                refine J.aload_n 152 dX8_number_152 rfl rfl ?_
                refine J.iconst 153 (nI 2) dX8_number_153 (by decide +kernel) ?_
                refine J.aload_n 154 dX8_number_154 rfl rfl ?_
                refine V.getI 155 dX8_number_155 fl_RX8_58 i_178_14 ?_
                refine J.top (b := nI fr) (up2_self _ _ _ _) ?_
                refine V.callvU 158 dX8_number_158 ml_RX8_61 mi_yX8_fail mv_yX8_fail (k_fail w _ (by rw [up2_o _ _ (by omega), up2_o _ _ (by omega)]; exact hw0)) rfl rfl (Nat.le_of_ble_eq_true rfl) (by decide) (by decide) o_178 rfl rfl (fun v158 h158 => ?_)
                subst h158
                refine J.iload 161 dX8_number_161 rfl ?_
                exact V.iret 163 dX8_number_163 (⟨by rw [← hfr, eV], by unfold nuU; rw [← hfr, eE, eK]; rfl⟩)
          · refine J.aload_n 117 dX8_number_117 rfl rfl ?_
            refine J.iconst 118 (nI 1) dX8_number_118 (by decide +kernel) ?_
            refine J.aload_n 119 dX8_number_119 rfl rfl ?_
            refine V.getI 120 dX8_number_120 fl_RX8_58 i_178_14 ?_
            refine J.top (b := nI fr) (up2_self _ _ _ _) ?_
            refine V.callvU 123 dX8_number_123 ml_RX8_61 mi_yX8_fail mv_yX8_fail (k_fail w _ (by rw [up2_o _ _ (by omega), up2_o _ _ (by omega)]; exact hw0)) rfl rfl (Nat.le_of_ble_eq_true rfl) (by decide) (by decide) o_178 rfl rfl (fun v123 h123 => ?_)
            subst h123
            have eK : nuK (v 180) s fr lo hi = 1 := if_pos c114
            refine J.goto 126 161 dX8_number_126 (by decide) ?_
            refine J.iload 161 dX8_number_161 rfl ?_
            exact V.iret 163 dX8_number_163 (⟨by rw [← hfr, eV], by unfold nuU; rw [← hfr, eE, eK]; rfl⟩)
        · refine J.aload_n 55 dX8_number_55 rfl rfl ?_
          refine V.getI 56 dX8_number_56 fl_RX8_51 i_178_11 ?_
          refine J.top (b := nI p) (by rw [up2_o _ _ (by omega), up2_self]) ?_
          refine J.aload_n 59 dX8_number_59 rfl rfl ?_
          refine V.getI 60 dX8_number_60 fl_RX8_58 i_178_14 ?_
          refine J.top (b := nI fr) (up2_self _ _ _ _) ?_
          refine V.isub 63 dX8_number_63 (by omega) ?_
          refine J.iconst 64 (nI 4) dX8_number_64 (by decide +kernel) ?_
          refine V.icmp_ge 65 89 dX8_number_65 (by decide) (by omega) (by omega) (fun c65 => ?_) (fun c65 => ?_)
          · have ex : (if p - fr < 4 then nI 10 * x + v 180 p - nI 48 else x) = x := if_neg (by omega)
            refine J.iload 89 dX8_number_89 rfl ?_
            refine J.istore 91 dX8_number_91 (by decide) ?_
            refine J.aload_n 93 dX8_number_93 rfl rfl ?_
            refine J.dup 94 dX8_number_94 rfl ?_
            refine V.getI 95 dX8_number_95 fl_RX8_51 i_178_11 ?_
            refine J.top (b := nI p) (by rw [up2_o _ _ (by omega), up2_self]) ?_
            refine J.iconst 98 (nI 1) dX8_number_98 (by decide +kernel) ?_
            refine V.iadd 99 dX8_number_99 ?_
            refine V.putI 100 dX8_number_100 fl_RX8_51 fp_8_11 i_178_11 ?_
            refine V.heapv (v' := up2 (up2 v 178 11 (nI (p + 1))) 178 14 (nI fr)) (by rw [up2_cm _ _ _ (by decide), up2_up2]) ?_
            refine J.goto 103 25 dX8_number_103 (by decide) ?_
            exact ih (p + 1) _ (by omega) (by omega) (by rw [← hi2, dg_y c33 c52, ex]) (by omega)
          · have ex : (if p - fr < 4 then nI 10 * x + v 180 p - nI 48 else x) = nI 10 * x + v 180 p - nI 48 := if_pos c65
            refine J.bipush 68 (nI 10) dX8_number_68 (by decide +kernel) ?_
            refine J.iload 70 dX8_number_70 rfl ?_
            refine J.imul 72 dX8_number_72 ?_
            refine J.aload_n 73 dX8_number_73 rfl rfl ?_
            refine V.getR 74 dX8_number_74 fl_RX8_13 r_178_3 ?_
            refine J.aload_n 77 dX8_number_77 rfl rfl ?_
            refine V.getI 78 dX8_number_78 fl_RX8_51 i_178_11 ?_
            refine J.top (b := nI p) (by rw [up2_o _ _ (by omega), up2_self]) ?_
            refine V.iald 81 dX8_number_81 a_180 (by omega) ?_
            refine J.top (b := v 180 p) (by rw [up2_o _ _ (by omega), up2_o _ _ (by omega)]) ?_
            refine J.iadd 82 dX8_number_82 ?_
            refine J.bipush 83 (nI 48) dX8_number_83 (by decide +kernel) ?_
            refine J.isub 85 dX8_number_85 ?_
            refine J.goto 86 91 dX8_number_86 (by decide) ?_
            refine J.istore 91 dX8_number_91 (by decide) ?_
            refine J.aload_n 93 dX8_number_93 rfl rfl ?_
            refine J.dup 94 dX8_number_94 rfl ?_
            refine V.getI 95 dX8_number_95 fl_RX8_51 i_178_11 ?_
            refine J.top (b := nI p) (by rw [up2_o _ _ (by omega), up2_self]) ?_
            refine J.iconst 98 (nI 1) dX8_number_98 (by decide +kernel) ?_
            refine V.iadd 99 dX8_number_99 ?_
            refine V.putI 100 dX8_number_100 fl_RX8_51 fp_8_11 i_178_11 ?_
            refine V.heapv (v' := up2 (up2 v 178 11 (nI (p + 1))) 178 14 (nI fr)) (by rw [up2_cm _ _ _ (by decide), up2_up2]) ?_
            refine J.goto 103 25 dX8_number_103 (by decide) ?_
            exact ih (p + 1) _ (by omega) (by omega) (by rw [← hi2, dg_y c33 c52, ex]) (by omega)
  refine J.aload_n 0 dX8_number_0 rfl rfl ?_
  refine V.callvP 1 dX8_number_1 ml_RX8_44 mi_yX8_fine mv_yX8_fine (c_X8_fine w _) rfl rfl (Nat.le_of_ble_eq_true rfl) (by decide) (by decide) o_178 rfl rfl ?_
  refine V.if_neB 4 9 dX8_number_4 (by decide) (fun c4 => ?_) (fun c4 => absurd hw0 c4)
  refine J.aload_n 9 dX8_number_9 rfl rfl ?_
  refine V.callv 10 dX8_number_10 ml_RX8_54 mi_yX8_here mv_yX8_here (c_X8_here w _ ha0 hs0 (by omega) hs) rfl rfl (Nat.le_of_ble_eq_true rfl) (by decide) (by decide) o_178 rfl rfl (fun r10 v10 h10 => ?_)
  obtain ⟨rfl, rfl⟩ := h10
  rw [← hfr]
  refine J.istore_n 13 dX8_number_13 rfl (by decide) ?_
  refine J.aload_n 14 dX8_number_14 rfl rfl ?_
  refine J.aload_n 15 dX8_number_15 rfl rfl ?_
  refine V.getI 16 dX8_number_16 fl_RX8_51 i_178_11 ?_
  refine J.top (b := nI fr) (up2_self _ _ _ _) ?_
  refine V.putI 19 dX8_number_19 fl_RX8_58 fp_8_14 i_178_14 ?_
  refine J.iconst 22 (nI 0) dX8_number_22 (by decide +kernel) ?_
  refine J.istore 23 dX8_number_23 (by decide) ?_
  have q := lp (s + 1) fr (nI 0) (by omega) (by omega) rfl (by omega)
  rw [← hfr] at q
  exact q
end
section
theorem QJ.weak {w : Wd} {n' : Nat} {post post' : Po} (hp : ∀ r h', post r h' → post' r h') {a : Array Value} {s t : State} {o : Outcome} (h : QJ w n' post a s o t) : QJ w n' post' a s o t := by
  obtain ⟨r, h', h1, h2, h3⟩ := h
  exact ⟨r, h', h1, hp r h' h2, h3⟩
theorem Ct.weak {w : Wd} {y : MethodName} {cc : ByteArray} {mL : Nat} {rt : Option FieldType} {R : Room} {av : List Value} {n : Nat} {h : Nat → va_E} {n' : Nat} {post post' : Po} (hc : Ct w y cc mL rt R av n h n' post) (hp : ∀ r h', post r h' → post' r h') : Ct w y cc mL rt R av n h n' post' := by
  intro p e ha hk hx s m args below hf hpre hP hK
  obtain ⟨t, o, h1, h2, h3, hq, hF⟩ := hc p e ha hk hx s m args below hf hpre hP hK
  exact ⟨t, o, h1, h2, h3, QJ.weak hp hq, hF⟩
/-! ===== part 19: the text's clauses ===== -/
abbrev PR : Type := (Nat × Nat) ⊕ (Nat × (Nat → Int32) × Nat × Nat)
def semi (t : Nat → Int32) (s a : Nat) (ρ : Nat → Int32) (tf ts : Nat) : PR := if ltr t s (skp t s a) = nI 59 then .inr (skp t s a + 1, ρ, tf, ts) else .inl (1, skp t s a)
def numS (t : Nat → Int32) (s a : Nat) (lo hi : Int32) (k : Int32 → Nat → PR) : PR := if nuK t s (skp t s a) lo hi = 0 then k (nuV t s (skp t s a)) (nuE t s (skp t s a)) else .inl (nuK t s (skp t s a) lo hi, skp t s a)
/-- a clause ahead of its semicolon -/
def clK (t : Nat → Int32) (s a b : Nat) (ρ : Nat → Int32) (n tf ts : Nat) : PR := if n = 8 then .inl (3, b) else numS t s a (nI 0) (nI 9999) (fun x1 a1 => numS t s a1 (nI 90) (nI 110) (fun x2 a2 => .inr (a2, upd (upd (upd ρ (3 + n) x1) (11 + n) x2) 0 (nI (n + 1)), tf, ts)))
def clO (t : Nat → Int32) (s a b : Nat) (wd : Int32) (ρ : Nat → Int32) (n tf ts : Nat) : PR :=
  if (wd = nI 102 ∧ tf = 1) ∨ (wd = nI 115 ∧ ts = 1) then .inl (4, b)
  else if wd = nI 102 then numS t s a (nI 0) (nI 3) (fun x a1 => .inr (a1, upd ρ 1 x, 1, ts))
  else if wd = nI 115 then numS t s a (nI 0) (nI 80) (fun x a1 => .inr (a1, upd ρ 2 x, tf, 1))
  else if wd = nI 108 then numS t s a (nI 0) (nI n - nI 1) (fun x a1 => if ρ (27 + x.toNatClampNeg) = nI 1 then .inl (4, skp t s a) else .inr (a1, upd ρ (27 + x.toNatClampNeg) (nI 1), tf, ts))
  else .inl (1, b)
def clM (t : Nat → Int32) (s a : Nat) (ρ : Nat → Int32) (n tf ts : Nat) : PR := if t a = nI 107 then clK t s (a + 1) a ρ n tf ts else clO t s (a + 1) a (t a) ρ n tf ts
def clR (t : Nat → Int32) (s a : Nat) (ρ : Nat → Int32) (n tf ts : Nat) : PR := match clM t s a ρ n tf ts with
  | .inl e => .inl e
  | .inr (a1, ρ1, tf1, ts1) => semi t s a1 ρ1 tf1 ts1
/-- the reference's memory while it reads, v at the start, u now: no fault yet -/
def Gd (v u : Vm2) (a : Nat) (ρ : Nat → Int32) (tf ts : Nat) : Prop := (∀ c, c ≠ 178 → c ≠ 179 → u c = v c) ∧ (∀ b, b < 3648 → u 179 b = v 179 b) ∧ (∀ i, i < 11 → u 178 i = v 178 i) ∧ (∀ k, k < 192 → u 179 (3648 + k) = ρ k) ∧ u 178 11 = nI a ∧ u 178 12 = 0 ∧ u 178 15 = nI tf ∧ u 178 16 = nI ts
/-- a fault has been found -/
def Bd (v u : Vm2) (s k p : Nat) : Prop := (∀ c, c ≠ 178 → c ≠ 179 → u c = v c) ∧ (∀ b, b < 3648 → u 179 b = v 179 b) ∧ (∀ i, i < 11 → u 178 i = v 178 i) ∧ u 178 12 = nI k ∧ u 178 13 = nI p ∧ (∃ a, a ≤ s + 1 ∧ u 178 11 = nI a) ∧ 0 < k ∧ k < 5
theorem Gd.at {v u : Vm2} {a a' tf ts : Nat} {ρ : Nat → Int32} (h : Gd v u a ρ tf ts) : Gd v (up2 u 178 11 (nI a')) a' ρ tf ts := by
  obtain ⟨h1, h2, h3, h4, h5, h6, h7, h8⟩ := h
  exact ⟨fun c c1 c2 => by rw [up2_ne _ _ _ c1]; exact h1 c c1 c2, fun b hb => by rw [up2_o _ _ (by omega)]; exact h2 b hb, fun i hi => by rw [up2_o _ _ (by omega)]; exact h3 i hi, fun k hk => by rw [up2_o _ _ (by omega)]; exact h4 k hk, up2_self _ _ _ _, by rw [up2_o _ _ (by omega)]; exact h6, by rw [up2_o _ _ (by omega)]; exact h7, by rw [up2_o _ _ (by omega)]; exact h8⟩
theorem Gd.from {v u : Vm2} {a tf ts : Nat} {ρ : Nat → Int32} {x : Int32} (h : Gd v u a ρ tf ts) : Gd v (up2 u 178 14 x) a ρ tf ts := by
  obtain ⟨h1, h2, h3, h4, h5, h6, h7, h8⟩ := h
  exact ⟨fun c c1 c2 => by rw [up2_ne _ _ _ c1]; exact h1 c c1 c2, fun b hb => by rw [up2_o _ _ (by omega)]; exact h2 b hb, fun i hi => by rw [up2_o _ _ (by omega)]; exact h3 i hi, fun k hk => by rw [up2_o _ _ (by omega)]; exact h4 k hk, by rw [up2_o _ _ (by omega)]; exact h5, by rw [up2_o _ _ (by omega)]; exact h6, by rw [up2_o _ _ (by omega)]; exact h7, by rw [up2_o _ _ (by omega)]; exact h8⟩
theorem Gd.tf {v u : Vm2} {a tf ts tf' : Nat} {ρ : Nat → Int32} (h : Gd v u a ρ tf ts) : Gd v (up2 u 178 15 (nI tf')) a ρ tf' ts := by
  obtain ⟨h1, h2, h3, h4, h5, h6, h7, h8⟩ := h
  exact ⟨fun c c1 c2 => by rw [up2_ne _ _ _ c1]; exact h1 c c1 c2, fun b hb => by rw [up2_o _ _ (by omega)]; exact h2 b hb, fun i hi => by rw [up2_o _ _ (by omega)]; exact h3 i hi, fun k hk => by rw [up2_o _ _ (by omega)]; exact h4 k hk, by rw [up2_o _ _ (by omega)]; exact h5, by rw [up2_o _ _ (by omega)]; exact h6, up2_self _ _ _ _, by rw [up2_o _ _ (by omega)]; exact h8⟩
theorem Gd.ts {v u : Vm2} {a tf ts ts' : Nat} {ρ : Nat → Int32} (h : Gd v u a ρ tf ts) : Gd v (up2 u 178 16 (nI ts')) a ρ tf ts' := by
  obtain ⟨h1, h2, h3, h4, h5, h6, h7, h8⟩ := h
  exact ⟨fun c c1 c2 => by rw [up2_ne _ _ _ c1]; exact h1 c c1 c2, fun b hb => by rw [up2_o _ _ (by omega)]; exact h2 b hb, fun i hi => by rw [up2_o _ _ (by omega)]; exact h3 i hi, fun k hk => by rw [up2_o _ _ (by omega)]; exact h4 k hk, by rw [up2_o _ _ (by omega)]; exact h5, by rw [up2_o _ _ (by omega)]; exact h6, by rw [up2_o _ _ (by omega)]; exact h7, up2_self _ _ _ _⟩
theorem Gd.row {v u : Vm2} {a tf ts j q : Nat} {ρ : Nat → Int32} {x : Int32} (h : Gd v u a ρ tf ts) (hq : q = 3648 + j) (hj : j < 192) : Gd v (up2 u 179 q x) a (upd ρ j x) tf ts := by
  subst hq
  obtain ⟨h1, h2, h3, h4, h5, h6, h7, h8⟩ := h
  refine ⟨fun c c1 c2 => by rw [up2_ne _ _ _ c2]; exact h1 c c1 c2, fun b hb => by rw [up2_o _ _ (by omega)]; exact h2 b hb, fun i hi => by rw [up2_o _ _ (by omega)]; exact h3 i hi, fun k hk => ?_, by rw [up2_o _ _ (by omega)]; exact h5, by rw [up2_o _ _ (by omega)]; exact h6, by rw [up2_o _ _ (by omega)]; exact h7, by rw [up2_o _ _ (by omega)]; exact h8⟩
  by_cases hkj : k = j
  · subst hkj
    rw [up2_self, upd_self]
  · rw [up2_o _ _ (by omega), upd_ne _ _ hkj]
    exact h4 k hk
theorem Gd.bad {v u : Vm2} {a tf ts s k p : Nat} {ρ : Nat → Int32} (h : Gd v u a ρ tf ts) (ha : a ≤ s + 1) (hk : 0 < k) (hk5 : k < 5) : Bd v (up2 (up2 u 178 12 (nI k)) 178 13 (nI p)) s k p := by
  obtain ⟨h1, h2, h3, h4, h5, h6, h7, h8⟩ := h
  exact ⟨fun c c1 c2 => by rw [up2_ne _ _ _ c1, up2_ne _ _ _ c1]; exact h1 c c1 c2, fun b hb => by rw [up2_o _ _ (by omega), up2_o _ _ (by omega)]; exact h2 b hb, fun i hi => by rw [up2_o _ _ (by omega), up2_o _ _ (by omega)]; exact h3 i hi, by rw [up2_o _ _ (by omega), up2_self], up2_self _ _ _ _, ⟨a, ha, by rw [up2_o _ _ (by omega), up2_o _ _ (by omega)]; exact h5⟩, hk, hk5⟩
theorem Bd.row {v u : Vm2} {s k p q : Nat} {x : Int32} (h : Bd v u s k p) (hq : 3648 ≤ q) : Bd v (up2 u 179 q x) s k p := by
  obtain ⟨h1, h2, h3, h4, h5, ⟨a, ha, h6⟩, h7, h8⟩ := h
  exact ⟨fun c c1 c2 => by rw [up2_ne _ _ _ c2]; exact h1 c c1 c2, fun b hb => by rw [up2_o _ _ (by omega)]; exact h2 b hb, fun i hi => by rw [up2_o _ _ (by omega)]; exact h3 i hi, by rw [up2_o _ _ (by omega)]; exact h4, by rw [up2_o _ _ (by omega)]; exact h5, ⟨a, ha, by rw [up2_o _ _ (by omega)]; exact h6⟩, h7, h8⟩
theorem Bd.at {v u : Vm2} {s k p a' : Nat} (h : Bd v u s k p) (ha : a' ≤ s + 1) : Bd v (up2 u 178 11 (nI a')) s k p := by
  obtain ⟨h1, h2, h3, h4, h5, -, h7, h8⟩ := h
  exact ⟨fun c c1 c2 => by rw [up2_ne _ _ _ c1]; exact h1 c c1 c2, fun b hb => by rw [up2_o _ _ (by omega)]; exact h2 b hb, fun i hi => by rw [up2_o _ _ (by omega)]; exact h3 i hi, by rw [up2_o _ _ (by omega)]; exact h4, by rw [up2_o _ _ (by omega)]; exact h5, ⟨a', ha, up2_self _ _ _ _⟩, h7, h8⟩
theorem Bd.w0 {v u : Vm2} {s k p : Nat} (h : Bd v u s k p) : ¬ u 178 12 = 0 := by
  rw [h.2.2.2.1]
  exact nI_ne0 h.2.2.2.2.2.2.1 (by have := h.2.2.2.2.2.2.2; omega)
theorem nuK_lt (t : Nat → Int32) (s fr : Nat) (lo hi : Int32) : nuK t s fr lo hi < 5 := by
  unfold nuK
  split
  · decide
  · split <;> decide
theorem k_number (w : Wd) (v u : Vm2) {s a tf ts : Nat} {ρ : Nat → Int32} {lo hi : Int32} (hG : Gd v u a ρ tf ts) (hs0 : v 178 4 = nI s) (ha : a ≤ s) (hs : s ≤ 200) : CI w yX8_number cX8_number 5 (some .int) (rm 2 42) [.ref (wN w + 178), .int lo, .int hi] u (fun r u' => r = nuV (v 180) s (skp (v 180) s a) ∧ (nuK (v 180) s (skp (v 180) s a) lo hi = 0 → Gd v u' (nuE (v 180) s (skp (v 180) s a)) ρ tf ts ∧ u' 178 14 = nI (skp (v 180) s a)) ∧ (nuK (v 180) s (skp (v 180) s a) lo hi ≠ 0 → Bd v u' s (nuK (v 180) s (skp (v 180) s a) lo hi) (skp (v 180) s a))) := by
  have h := c_X8_number w u (lo := lo) (hi := hi) hG.2.2.2.2.1 ((hG.2.2.1 4 (by decide)).trans hs0) hG.2.2.2.2.2.1 ha hs
  rw [hG.1 180 (by decide) (by decide)] at h
  have hk := skp_in (t := v 180) ha
  have hd := dg_in (t := v 180) (fr := skp (v 180) s a) (x := nI 0) hk.2
  refine Ct.weak h ?_
  rintro r h' ⟨x, v', rfl, rfl, rfl, rfl⟩
  refine ⟨_, _, rfl, rfl, rfl, fun e => ?_, fun e => ?_⟩
  · unfold nuU
    rw [if_pos e]
    exact ⟨hG.at.from, up2_self _ _ _ _⟩
  · unfold nuU
    rw [if_neg e]
    exact hG.at.from.bad (s := s) (by unfold nuE; omega) (Nat.pos_of_ne_zero e) (nuK_lt _ _ _ _ _)
end
section
theorem zz_dummy : True := trivial
end
