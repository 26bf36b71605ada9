section
-- ===== PART A: goes FIRST, ahead of the names: the tables' words, and 'selects' of the private methods out of them =====
/-- a private method of a class that the tables say can be made, by its rows of tables_1 -/
def lw_okq (q : MethodName × Nat) : Prop := (q.1.cls ≠ "java/lang/invoke/MethodHandle" ∧ q.1.cls ≠ "java/lang/invoke/VarHandle") ∧ Cond.instantiable q.1.cls q.2 ∈ tables_1 ∧ Cond.privateMethod q.1 ∈ tables_1 ∧ Cond.instanceMethod q.1 ∈ tables_1
theorem lw_p0 : lw_okq (⟨"TurnsMultiples", "refuse", "(I)I"⟩, 9) := ⟨⟨by decide +kernel, by decide +kernel⟩, List.mem_of_getElem? (i := 10) (by decide +kernel), List.mem_of_getElem? (i := 189) (by decide +kernel), List.mem_of_getElem? (i := 190) (by decide +kernel)⟩
theorem lw_p1 : lw_okq (⟨"TurnsMultiples$Letters", "append", "(I)I"⟩, 9) := ⟨⟨by decide +kernel, by decide +kernel⟩, List.mem_of_getElem? (i := 18) (by decide +kernel), List.mem_of_getElem? (i := 193) (by decide +kernel), List.mem_of_getElem? (i := 194) (by decide +kernel)⟩
theorem lw_p2 : lw_okq (⟨"TurnsMultiples", "readHouse", "()I"⟩, 9) := ⟨⟨by decide +kernel, by decide +kernel⟩, List.mem_of_getElem? (i := 10) (by decide +kernel), List.mem_of_getElem? (i := 201) (by decide +kernel), List.mem_of_getElem? (i := 202) (by decide +kernel)⟩
theorem lw_p3 : lw_okq (⟨"TurnsMultiples$Letters", "misplaced", "()I"⟩, 9) := ⟨⟨by decide +kernel, by decide +kernel⟩, List.mem_of_getElem? (i := 18) (by decide +kernel), List.mem_of_getElem? (i := 205) (by decide +kernel), List.mem_of_getElem? (i := 206) (by decide +kernel)⟩
theorem lw_p4 : lw_okq (⟨"TurnsMultiples$Letters", "rewind", "()V"⟩, 9) := ⟨⟨by decide +kernel, by decide +kernel⟩, List.mem_of_getElem? (i := 18) (by decide +kernel), List.mem_of_getElem? (i := 209) (by decide +kernel), List.mem_of_getElem? (i := 210) (by decide +kernel)⟩
theorem lw_p5 : lw_okq (⟨"TurnsMultiples$Letters", "readStatement", "()Z"⟩, 9) := ⟨⟨by decide +kernel, by decide +kernel⟩, List.mem_of_getElem? (i := 18) (by decide +kernel), List.mem_of_getElem? (i := 213) (by decide +kernel), List.mem_of_getElem? (i := 214) (by decide +kernel)⟩
theorem lw_p6 : lw_okq (⟨"TurnsMultiples$Letters", "signHere", "()I"⟩, 9) := ⟨⟨by decide +kernel, by decide +kernel⟩, List.mem_of_getElem? (i := 18) (by decide +kernel), List.mem_of_getElem? (i := 217) (by decide +kernel), List.mem_of_getElem? (i := 218) (by decide +kernel)⟩
theorem lw_p7 : lw_okq (⟨"TurnsMultiples$Letters", "takes", "(C)Z"⟩, 9) := ⟨⟨by decide +kernel, by decide +kernel⟩, List.mem_of_getElem? (i := 18) (by decide +kernel), List.mem_of_getElem? (i := 221) (by decide +kernel), List.mem_of_getElem? (i := 222) (by decide +kernel)⟩
theorem lw_p8 : lw_okq (⟨"TurnsMultiples$Letters", "readDigits", "(I)Z"⟩, 9) := ⟨⟨by decide +kernel, by decide +kernel⟩, List.mem_of_getElem? (i := 18) (by decide +kernel), List.mem_of_getElem? (i := 225) (by decide +kernel), List.mem_of_getElem? (i := 226) (by decide +kernel)⟩
theorem lw_p9 : lw_okq (⟨"TurnsMultiples$Letters", "isDigitHere", "()Z"⟩, 9) := ⟨⟨by decide +kernel, by decide +kernel⟩, List.mem_of_getElem? (i := 18) (by decide +kernel), List.mem_of_getElem? (i := 229) (by decide +kernel), List.mem_of_getElem? (i := 230) (by decide +kernel)⟩
theorem lw_p10 : lw_okq (⟨"TurnsMultiples$Letters", "readKind", "()Z"⟩, 9) := ⟨⟨by decide +kernel, by decide +kernel⟩, List.mem_of_getElem? (i := 18) (by decide +kernel), List.mem_of_getElem? (i := 233) (by decide +kernel), List.mem_of_getElem? (i := 234) (by decide +kernel)⟩
theorem lw_p11 : lw_okq (⟨"TurnsMultiples$Corridor", "become", "(LTurnsMultiples$Corridor;)V"⟩, 11) := ⟨⟨by decide +kernel, by decide +kernel⟩, List.mem_of_getElem? (i := 58) (by decide +kernel), List.mem_of_getElem? (i := 239) (by decide +kernel), List.mem_of_getElem? (i := 240) (by decide +kernel)⟩
theorem lw_p12 : lw_okq (⟨"TurnsMultiples$Corridor", "obeys", "(LTurnsMultiples$Letters;)Z"⟩, 11) := ⟨⟨by decide +kernel, by decide +kernel⟩, List.mem_of_getElem? (i := 58) (by decide +kernel), List.mem_of_getElem? (i := 245) (by decide +kernel), List.mem_of_getElem? (i := 246) (by decide +kernel)⟩
theorem lw_p13 : lw_okq (⟨"TurnsMultiples$Letters", "numberAt", "(I)I"⟩, 9) := ⟨⟨by decide +kernel, by decide +kernel⟩, List.mem_of_getElem? (i := 18) (by decide +kernel), List.mem_of_getElem? (i := 249) (by decide +kernel), List.mem_of_getElem? (i := 250) (by decide +kernel)⟩
theorem lw_p14 : lw_okq (⟨"TurnsMultiples$Corridor", "obeysDoors", "(I)Z"⟩, 11) := ⟨⟨by decide +kernel, by decide +kernel⟩, List.mem_of_getElem? (i := 58) (by decide +kernel), List.mem_of_getElem? (i := 253) (by decide +kernel), List.mem_of_getElem? (i := 254) (by decide +kernel)⟩
theorem lw_p15 : lw_okq (⟨"TurnsMultiples$Corridor", "empty", "()V"⟩, 11) := ⟨⟨by decide +kernel, by decide +kernel⟩, List.mem_of_getElem? (i := 58) (by decide +kernel), List.mem_of_getElem? (i := 257) (by decide +kernel), List.mem_of_getElem? (i := 258) (by decide +kernel)⟩
def lw_privs_1 : List (MethodName × Nat) := [(⟨"TurnsMultiples", "refuse", "(I)I"⟩, 9), (⟨"TurnsMultiples$Letters", "append", "(I)I"⟩, 9), (⟨"TurnsMultiples", "readHouse", "()I"⟩, 9), (⟨"TurnsMultiples$Letters", "misplaced", "()I"⟩, 9), (⟨"TurnsMultiples$Letters", "rewind", "()V"⟩, 9), (⟨"TurnsMultiples$Letters", "readStatement", "()Z"⟩, 9), (⟨"TurnsMultiples$Letters", "signHere", "()I"⟩, 9), (⟨"TurnsMultiples$Letters", "takes", "(C)Z"⟩, 9), (⟨"TurnsMultiples$Letters", "readDigits", "(I)Z"⟩, 9), (⟨"TurnsMultiples$Letters", "isDigitHere", "()Z"⟩, 9), (⟨"TurnsMultiples$Letters", "readKind", "()Z"⟩, 9), (⟨"TurnsMultiples$Corridor", "become", "(LTurnsMultiples$Corridor;)V"⟩, 11), (⟨"TurnsMultiples$Corridor", "obeys", "(LTurnsMultiples$Letters;)Z"⟩, 11), (⟨"TurnsMultiples$Letters", "numberAt", "(I)I"⟩, 9), (⟨"TurnsMultiples$Corridor", "obeysDoors", "(I)Z"⟩, 11), (⟨"TurnsMultiples$Corridor", "empty", "()V"⟩, 11)]
theorem lw_r1 : ∀ q ∈ lw_privs_1, lw_okq q := List.forall_mem_cons.mpr ⟨lw_p0, List.forall_mem_cons.mpr ⟨lw_p1, List.forall_mem_cons.mpr ⟨lw_p2, List.forall_mem_cons.mpr ⟨lw_p3, List.forall_mem_cons.mpr ⟨lw_p4, List.forall_mem_cons.mpr ⟨lw_p5, List.forall_mem_cons.mpr ⟨lw_p6, List.forall_mem_cons.mpr ⟨lw_p7, List.forall_mem_cons.mpr ⟨lw_p8, List.forall_mem_cons.mpr ⟨lw_p9, List.forall_mem_cons.mpr ⟨lw_p10, List.forall_mem_cons.mpr ⟨lw_p11, List.forall_mem_cons.mpr ⟨lw_p12, List.forall_mem_cons.mpr ⟨lw_p13, List.forall_mem_cons.mpr ⟨lw_p14, List.forall_mem_cons.mpr ⟨lw_p15, fun _ h => absurd h List.not_mem_nil⟩⟩⟩⟩⟩⟩⟩⟩⟩⟩⟩⟩⟩⟩⟩⟩
theorem lw_p16 : lw_okq (⟨"TurnsMultiples$Corridor", "obeysColours", "(I)Z"⟩, 11) := ⟨⟨by decide +kernel, by decide +kernel⟩, List.mem_of_getElem? (i := 58) (by decide +kernel), List.mem_of_getElem? (i := 261) (by decide +kernel), List.mem_of_getElem? (i := 262) (by decide +kernel)⟩
theorem lw_p17 : lw_okq (⟨"TurnsMultiples$Corridor", "obeysPerson", "(LTurnsMultiples$Letters;)Z"⟩, 11) := ⟨⟨by decide +kernel, by decide +kernel⟩, List.mem_of_getElem? (i := 58) (by decide +kernel), List.mem_of_getElem? (i := 265) (by decide +kernel), List.mem_of_getElem? (i := 266) (by decide +kernel)⟩
theorem lw_p18 : lw_okq (⟨"TurnsMultiples$Corridor", "obeysStuck", "(I)Z"⟩, 11) := ⟨⟨by decide +kernel, by decide +kernel⟩, List.mem_of_getElem? (i := 58) (by decide +kernel), List.mem_of_getElem? (i := 295) (by decide +kernel), List.mem_of_getElem? (i := 296) (by decide +kernel)⟩
theorem lw_p19 : lw_okq (⟨"TurnsMultiples$Corridor", "hasDoor", "(I)Z"⟩, 11) := ⟨⟨by decide +kernel, by decide +kernel⟩, List.mem_of_getElem? (i := 58) (by decide +kernel), List.mem_of_getElem? (i := 299) (by decide +kernel), List.mem_of_getElem? (i := 300) (by decide +kernel)⟩
theorem lw_p20 : lw_okq (⟨"TurnsMultiples$Corridor", "obeysWish", "(LTurnsMultiples$Letters;)Z"⟩, 11) := ⟨⟨by decide +kernel, by decide +kernel⟩, List.mem_of_getElem? (i := 58) (by decide +kernel), List.mem_of_getElem? (i := 306) (by decide +kernel), List.mem_of_getElem? (i := 307) (by decide +kernel)⟩
theorem lw_p21 : lw_okq (⟨"TurnsMultiples$Letters", "digitAt", "(I)I"⟩, 9) := ⟨⟨by decide +kernel, by decide +kernel⟩, List.mem_of_getElem? (i := 18) (by decide +kernel), List.mem_of_getElem? (i := 310) (by decide +kernel), List.mem_of_getElem? (i := 311) (by decide +kernel)⟩
theorem lw_p22 : lw_okq (⟨"TurnsMultiples$Corridor", "obeysStand", "(LTurnsMultiples$Letters;)Z"⟩, 11) := ⟨⟨by decide +kernel, by decide +kernel⟩, List.mem_of_getElem? (i := 58) (by decide +kernel), List.mem_of_getElem? (i := 318) (by decide +kernel), List.mem_of_getElem? (i := 319) (by decide +kernel)⟩
theorem lw_p23 : lw_okq (⟨"TurnsMultiples$Letters", "wipe", "()V"⟩, 9) := ⟨⟨by decide +kernel, by decide +kernel⟩, List.mem_of_getElem? (i := 18) (by decide +kernel), List.mem_of_getElem? (i := 322) (by decide +kernel), List.mem_of_getElem? (i := 323) (by decide +kernel)⟩
theorem lw_p24 : lw_okq (⟨"TurnsMultiples$Corridor", "wishFor", "(I)I"⟩, 11) := ⟨⟨by decide +kernel, by decide +kernel⟩, List.mem_of_getElem? (i := 58) (by decide +kernel), List.mem_of_getElem? (i := 335) (by decide +kernel), List.mem_of_getElem? (i := 336) (by decide +kernel)⟩
theorem lw_p25 : lw_okq (⟨"TurnsMultiples$Corridor", "isStuck", "(I)Z"⟩, 11) := ⟨⟨by decide +kernel, by decide +kernel⟩, List.mem_of_getElem? (i := 58) (by decide +kernel), List.mem_of_getElem? (i := 340) (by decide +kernel), List.mem_of_getElem? (i := 341) (by decide +kernel)⟩
theorem lw_p26 : lw_okq (⟨"TurnsMultiples$Corridor", "goerOf", "(I)LTurnsMultiples$Goer;"⟩, 11) := ⟨⟨by decide +kernel, by decide +kernel⟩, List.mem_of_getElem? (i := 58) (by decide +kernel), List.mem_of_getElem? (i := 348) (by decide +kernel), List.mem_of_getElem? (i := 349) (by decide +kernel)⟩
theorem lw_p27 : lw_okq (⟨"TurnsMultiples$Corridor", "turnsOf", "(I)I"⟩, 11) := ⟨⟨by decide +kernel, by decide +kernel⟩, List.mem_of_getElem? (i := 58) (by decide +kernel), List.mem_of_getElem? (i := 352) (by decide +kernel), List.mem_of_getElem? (i := 353) (by decide +kernel)⟩
theorem lw_p28 : lw_okq (⟨"TurnsMultiples$Goer", "isGoerTo", "(I)Z"⟩, 4) := ⟨⟨by decide +kernel, by decide +kernel⟩, List.mem_of_getElem? (i := 271) (by decide +kernel), List.mem_of_getElem? (i := 357) (by decide +kernel), List.mem_of_getElem? (i := 358) (by decide +kernel)⟩
theorem lw_p29 : lw_okq (⟨"TurnsMultiples$Corridor", "goAlong", "(I)I"⟩, 11) := ⟨⟨by decide +kernel, by decide +kernel⟩, List.mem_of_getElem? (i := 58) (by decide +kernel), List.mem_of_getElem? (i := 368) (by decide +kernel), List.mem_of_getElem? (i := 369) (by decide +kernel)⟩
theorem lw_p30 : lw_okq (⟨"TurnsMultiples$Corridor", "stateOf", "(I)I"⟩, 11) := ⟨⟨by decide +kernel, by decide +kernel⟩, List.mem_of_getElem? (i := 58) (by decide +kernel), List.mem_of_getElem? (i := 391) (by decide +kernel), List.mem_of_getElem? (i := 392) (by decide +kernel)⟩
theorem lw_p31 : lw_okq (⟨"TurnsMultiples$Corridor", "isWish", "(I)Z"⟩, 11) := ⟨⟨by decide +kernel, by decide +kernel⟩, List.mem_of_getElem? (i := 58) (by decide +kernel), List.mem_of_getElem? (i := 399) (by decide +kernel), List.mem_of_getElem? (i := 400) (by decide +kernel)⟩
def lw_privs_2 : List (MethodName × Nat) := [(⟨"TurnsMultiples$Corridor", "obeysColours", "(I)Z"⟩, 11), (⟨"TurnsMultiples$Corridor", "obeysPerson", "(LTurnsMultiples$Letters;)Z"⟩, 11), (⟨"TurnsMultiples$Corridor", "obeysStuck", "(I)Z"⟩, 11), (⟨"TurnsMultiples$Corridor", "hasDoor", "(I)Z"⟩, 11), (⟨"TurnsMultiples$Corridor", "obeysWish", "(LTurnsMultiples$Letters;)Z"⟩, 11), (⟨"TurnsMultiples$Letters", "digitAt", "(I)I"⟩, 9), (⟨"TurnsMultiples$Corridor", "obeysStand", "(LTurnsMultiples$Letters;)Z"⟩, 11), (⟨"TurnsMultiples$Letters", "wipe", "()V"⟩, 9), (⟨"TurnsMultiples$Corridor", "wishFor", "(I)I"⟩, 11), (⟨"TurnsMultiples$Corridor", "isStuck", "(I)Z"⟩, 11), (⟨"TurnsMultiples$Corridor", "goerOf", "(I)LTurnsMultiples$Goer;"⟩, 11), (⟨"TurnsMultiples$Corridor", "turnsOf", "(I)I"⟩, 11), (⟨"TurnsMultiples$Goer", "isGoerTo", "(I)Z"⟩, 4), (⟨"TurnsMultiples$Corridor", "goAlong", "(I)I"⟩, 11), (⟨"TurnsMultiples$Corridor", "stateOf", "(I)I"⟩, 11), (⟨"TurnsMultiples$Corridor", "isWish", "(I)Z"⟩, 11)]
theorem lw_r2 : ∀ q ∈ lw_privs_2, lw_okq q := List.forall_mem_cons.mpr ⟨lw_p16, List.forall_mem_cons.mpr ⟨lw_p17, List.forall_mem_cons.mpr ⟨lw_p18, List.forall_mem_cons.mpr ⟨lw_p19, List.forall_mem_cons.mpr ⟨lw_p20, List.forall_mem_cons.mpr ⟨lw_p21, List.forall_mem_cons.mpr ⟨lw_p22, List.forall_mem_cons.mpr ⟨lw_p23, List.forall_mem_cons.mpr ⟨lw_p24, List.forall_mem_cons.mpr ⟨lw_p25, List.forall_mem_cons.mpr ⟨lw_p26, List.forall_mem_cons.mpr ⟨lw_p27, List.forall_mem_cons.mpr ⟨lw_p28, List.forall_mem_cons.mpr ⟨lw_p29, List.forall_mem_cons.mpr ⟨lw_p30, List.forall_mem_cons.mpr ⟨lw_p31, fun _ h => absurd h List.not_mem_nil⟩⟩⟩⟩⟩⟩⟩⟩⟩⟩⟩⟩⟩⟩⟩⟩
theorem lw_p32 : lw_okq (⟨"TurnsMultiples", "spread", "(I)V"⟩, 9) := ⟨⟨by decide +kernel, by decide +kernel⟩, List.mem_of_getElem? (i := 10) (by decide +kernel), List.mem_of_getElem? (i := 410) (by decide +kernel), List.mem_of_getElem? (i := 411) (by decide +kernel)⟩
theorem lw_p33 : lw_okq (⟨"TurnsMultiples", "solveByMultiples", "()V"⟩, 9) := ⟨⟨by decide +kernel, by decide +kernel⟩, List.mem_of_getElem? (i := 10) (by decide +kernel), List.mem_of_getElem? (i := 420) (by decide +kernel), List.mem_of_getElem? (i := 421) (by decide +kernel)⟩
theorem lw_p34 : lw_okq (⟨"TurnsMultiples", "takeBack", "(II)V"⟩, 9) := ⟨⟨by decide +kernel, by decide +kernel⟩, List.mem_of_getElem? (i := 10) (by decide +kernel), List.mem_of_getElem? (i := 424) (by decide +kernel), List.mem_of_getElem? (i := 425) (by decide +kernel)⟩
theorem lw_p35 : lw_okq (⟨"TurnsMultiples", "solveByDivisors", "()V"⟩, 9) := ⟨⟨by decide +kernel, by decide +kernel⟩, List.mem_of_getElem? (i := 10) (by decide +kernel), List.mem_of_getElem? (i := 428) (by decide +kernel), List.mem_of_getElem? (i := 429) (by decide +kernel)⟩
theorem lw_p36 : lw_okq (⟨"TurnsMultiples$Rows", "lead", "(LTurnsMultiples$Corridor;I)V"⟩, 6) := ⟨⟨by decide +kernel, by decide +kernel⟩, List.mem_of_getElem? (i := 111) (by decide +kernel), List.mem_of_getElem? (i := 437) (by decide +kernel), List.mem_of_getElem? (i := 438) (by decide +kernel)⟩
theorem lw_p37 : lw_okq (⟨"TurnsMultiples$Rows", "goOnceMore", "(I)V"⟩, 6) := ⟨⟨by decide +kernel, by decide +kernel⟩, List.mem_of_getElem? (i := 111) (by decide +kernel), List.mem_of_getElem? (i := 442) (by decide +kernel), List.mem_of_getElem? (i := 443) (by decide +kernel)⟩
theorem lw_p38 : lw_okq (⟨"TurnsMultiples$Rows", "endOf", "(I)I"⟩, 6) := ⟨⟨by decide +kernel, by decide +kernel⟩, List.mem_of_getElem? (i := 111) (by decide +kernel), List.mem_of_getElem? (i := 447) (by decide +kernel), List.mem_of_getElem? (i := 448) (by decide +kernel)⟩
theorem lw_p39 : lw_okq (⟨"TurnsMultiples", "fewestRow", "()I"⟩, 9) := ⟨⟨by decide +kernel, by decide +kernel⟩, List.mem_of_getElem? (i := 10) (by decide +kernel), List.mem_of_getElem? (i := 455) (by decide +kernel), List.mem_of_getElem? (i := 456) (by decide +kernel)⟩
theorem lw_p40 : lw_okq (⟨"TurnsMultiples$Rows", "goingsIn", "(I)I"⟩, 6) := ⟨⟨by decide +kernel, by decide +kernel⟩, List.mem_of_getElem? (i := 111) (by decide +kernel), List.mem_of_getElem? (i := 459) (by decide +kernel), List.mem_of_getElem? (i := 460) (by decide +kernel)⟩
theorem lw_p41 : lw_okq (⟨"TurnsMultiples$Rows", "timesIn", "(II)I"⟩, 6) := ⟨⟨by decide +kernel, by decide +kernel⟩, List.mem_of_getElem? (i := 111) (by decide +kernel), List.mem_of_getElem? (i := 463) (by decide +kernel), List.mem_of_getElem? (i := 464) (by decide +kernel)⟩
theorem lw_p42 : lw_okq (⟨"TurnsMultiples$Rows", "weightOf", "(I)I"⟩, 6) := ⟨⟨by decide +kernel, by decide +kernel⟩, List.mem_of_getElem? (i := 111) (by decide +kernel), List.mem_of_getElem? (i := 467) (by decide +kernel), List.mem_of_getElem? (i := 468) (by decide +kernel)⟩
theorem lw_p43 : lw_okq (⟨"TurnsMultiples$Rows", "costOf", "(ILTurnsMultiples$Corridor;)I"⟩, 6) := ⟨⟨by decide +kernel, by decide +kernel⟩, List.mem_of_getElem? (i := 111) (by decide +kernel), List.mem_of_getElem? (i := 477) (by decide +kernel), List.mem_of_getElem? (i := 478) (by decide +kernel)⟩
theorem lw_p44 : lw_okq (⟨"TurnsMultiples$Rows", "endingAt", "(I)I"⟩, 6) := ⟨⟨by decide +kernel, by decide +kernel⟩, List.mem_of_getElem? (i := 111) (by decide +kernel), List.mem_of_getElem? (i := 491) (by decide +kernel), List.mem_of_getElem? (i := 492) (by decide +kernel)⟩
theorem lw_p45 : lw_okq (⟨"TurnsMultiples$Rows", "bringAll", "(LTurnsMultiples$Corridor;I)Z"⟩, 6) := ⟨⟨by decide +kernel, by decide +kernel⟩, List.mem_of_getElem? (i := 111) (by decide +kernel), List.mem_of_getElem? (i := 505) (by decide +kernel), List.mem_of_getElem? (i := 506) (by decide +kernel)⟩
theorem lw_p46 : lw_okq (⟨"TurnsMultiples$Rows", "findPivot", "(LTurnsMultiples$Corridor;I)Z"⟩, 6) := ⟨⟨by decide +kernel, by decide +kernel⟩, List.mem_of_getElem? (i := 111) (by decide +kernel), List.mem_of_getElem? (i := 509) (by decide +kernel), List.mem_of_getElem? (i := 510) (by decide +kernel)⟩
theorem lw_p47 : lw_okq (⟨"TurnsMultiples$Rows", "goersIn", "(I)I"⟩, 6) := ⟨⟨by decide +kernel, by decide +kernel⟩, List.mem_of_getElem? (i := 111) (by decide +kernel), List.mem_of_getElem? (i := 525) (by decide +kernel), List.mem_of_getElem? (i := 526) (by decide +kernel)⟩
def lw_privs_3 : List (MethodName × Nat) := [(⟨"TurnsMultiples", "spread", "(I)V"⟩, 9), (⟨"TurnsMultiples", "solveByMultiples", "()V"⟩, 9), (⟨"TurnsMultiples", "takeBack", "(II)V"⟩, 9), (⟨"TurnsMultiples", "solveByDivisors", "()V"⟩, 9), (⟨"TurnsMultiples$Rows", "lead", "(LTurnsMultiples$Corridor;I)V"⟩, 6), (⟨"TurnsMultiples$Rows", "goOnceMore", "(I)V"⟩, 6), (⟨"TurnsMultiples$Rows", "endOf", "(I)I"⟩, 6), (⟨"TurnsMultiples", "fewestRow", "()I"⟩, 9), (⟨"TurnsMultiples$Rows", "goingsIn", "(I)I"⟩, 6), (⟨"TurnsMultiples$Rows", "timesIn", "(II)I"⟩, 6), (⟨"TurnsMultiples$Rows", "weightOf", "(I)I"⟩, 6), (⟨"TurnsMultiples$Rows", "costOf", "(ILTurnsMultiples$Corridor;)I"⟩, 6), (⟨"TurnsMultiples$Rows", "endingAt", "(I)I"⟩, 6), (⟨"TurnsMultiples$Rows", "bringAll", "(LTurnsMultiples$Corridor;I)Z"⟩, 6), (⟨"TurnsMultiples$Rows", "findPivot", "(LTurnsMultiples$Corridor;I)Z"⟩, 6), (⟨"TurnsMultiples$Rows", "goersIn", "(I)I"⟩, 6)]
theorem lw_r3 : ∀ q ∈ lw_privs_3, lw_okq q := List.forall_mem_cons.mpr ⟨lw_p32, List.forall_mem_cons.mpr ⟨lw_p33, List.forall_mem_cons.mpr ⟨lw_p34, List.forall_mem_cons.mpr ⟨lw_p35, List.forall_mem_cons.mpr ⟨lw_p36, List.forall_mem_cons.mpr ⟨lw_p37, List.forall_mem_cons.mpr ⟨lw_p38, List.forall_mem_cons.mpr ⟨lw_p39, List.forall_mem_cons.mpr ⟨lw_p40, List.forall_mem_cons.mpr ⟨lw_p41, List.forall_mem_cons.mpr ⟨lw_p42, List.forall_mem_cons.mpr ⟨lw_p43, List.forall_mem_cons.mpr ⟨lw_p44, List.forall_mem_cons.mpr ⟨lw_p45, List.forall_mem_cons.mpr ⟨lw_p46, List.forall_mem_cons.mpr ⟨lw_p47, fun _ h => absurd h List.not_mem_nil⟩⟩⟩⟩⟩⟩⟩⟩⟩⟩⟩⟩⟩⟩⟩⟩
theorem lw_p48 : lw_okq (⟨"TurnsMultiples", "farWay", "(I)I"⟩, 9) := ⟨⟨by decide +kernel, by decide +kernel⟩, List.mem_of_getElem? (i := 10) (by decide +kernel), List.mem_of_getElem? (i := 534) (by decide +kernel), List.mem_of_getElem? (i := 535) (by decide +kernel)⟩
theorem lw_p49 : lw_okq (⟨"TurnsMultiples$Corridor", "note", "(I)I"⟩, 11) := ⟨⟨by decide +kernel, by decide +kernel⟩, List.mem_of_getElem? (i := 58) (by decide +kernel), List.mem_of_getElem? (i := 553) (by decide +kernel), List.mem_of_getElem? (i := 554) (by decide +kernel)⟩
theorem lw_p50 : lw_okq (⟨"TurnsMultiples$Corridor", "loggedAt", "(I)I"⟩, 11) := ⟨⟨by decide +kernel, by decide +kernel⟩, List.mem_of_getElem? (i := 58) (by decide +kernel), List.mem_of_getElem? (i := 561) (by decide +kernel), List.mem_of_getElem? (i := 562) (by decide +kernel)⟩
theorem lw_p51 : lw_okq (⟨"TurnsMultiples$Corridor", "unknown", "()I"⟩, 11) := ⟨⟨by decide +kernel, by decide +kernel⟩, List.mem_of_getElem? (i := 58) (by decide +kernel), List.mem_of_getElem? (i := 569) (by decide +kernel), List.mem_of_getElem? (i := 570) (by decide +kernel)⟩
theorem lw_p52 : lw_okq (⟨"TurnsMultiples$Corridor", "behindLog", "(I)I"⟩, 11) := ⟨⟨by decide +kernel, by decide +kernel⟩, List.mem_of_getElem? (i := 58) (by decide +kernel), List.mem_of_getElem? (i := 574) (by decide +kernel), List.mem_of_getElem? (i := 575) (by decide +kernel)⟩
theorem lw_p53 : lw_okq (⟨"TurnsMultiples", "filled", "(III)I"⟩, 9) := ⟨⟨by decide +kernel, by decide +kernel⟩, List.mem_of_getElem? (i := 10) (by decide +kernel), List.mem_of_getElem? (i := 578) (by decide +kernel), List.mem_of_getElem? (i := 579) (by decide +kernel)⟩
theorem lw_p54 : lw_okq (⟨"TurnsMultiples$Game", "judged", "(LTurnsMultiples$Corridor;LTurnsMultiples$Rows;)I"⟩, 4) := ⟨⟨by decide +kernel, by decide +kernel⟩, List.mem_of_getElem? (i := 138) (by decide +kernel), List.mem_of_getElem? (i := 601) (by decide +kernel), List.mem_of_getElem? (i := 602) (by decide +kernel)⟩
theorem lw_p55 : lw_okq (⟨"TurnsMultiples$Game", "begin", "(LTurnsMultiples$Corridor;LTurnsMultiples$Rows;)V"⟩, 4) := ⟨⟨by decide +kernel, by decide +kernel⟩, List.mem_of_getElem? (i := 138) (by decide +kernel), List.mem_of_getElem? (i := 605) (by decide +kernel), List.mem_of_getElem? (i := 606) (by decide +kernel)⟩
theorem lw_p56 : lw_okq (⟨"TurnsMultiples$Game", "settle", "(II)V"⟩, 4) := ⟨⟨by decide +kernel, by decide +kernel⟩, List.mem_of_getElem? (i := 138) (by decide +kernel), List.mem_of_getElem? (i := 611) (by decide +kernel), List.mem_of_getElem? (i := 612) (by decide +kernel)⟩
theorem lw_p57 : lw_okq (⟨"TurnsMultiples$Rows", "before", "(II)I"⟩, 6) := ⟨⟨by decide +kernel, by decide +kernel⟩, List.mem_of_getElem? (i := 111) (by decide +kernel), List.mem_of_getElem? (i := 615) (by decide +kernel), List.mem_of_getElem? (i := 616) (by decide +kernel)⟩
theorem lw_p58 : lw_okq (⟨"TurnsMultiples$Game", "verdictOf", "(I)I"⟩, 4) := ⟨⟨by decide +kernel, by decide +kernel⟩, List.mem_of_getElem? (i := 138) (by decide +kernel), List.mem_of_getElem? (i := 619) (by decide +kernel), List.mem_of_getElem? (i := 620) (by decide +kernel)⟩
theorem lw_p59 : lw_okq (⟨"TurnsMultiples$Game", "tellBack", "(IILTurnsMultiples$Rows;)V"⟩, 4) := ⟨⟨by decide +kernel, by decide +kernel⟩, List.mem_of_getElem? (i := 138) (by decide +kernel), List.mem_of_getElem? (i := 623) (by decide +kernel), List.mem_of_getElem? (i := 624) (by decide +kernel)⟩
theorem lw_p60 : lw_okq (⟨"TurnsMultiples", "refusalsTold", "(I)I"⟩, 9) := ⟨⟨by decide +kernel, by decide +kernel⟩, List.mem_of_getElem? (i := 10) (by decide +kernel), List.mem_of_getElem? (i := 646) (by decide +kernel), List.mem_of_getElem? (i := 647) (by decide +kernel)⟩
theorem lw_p61 : lw_okq (⟨"TurnsMultiplesModel", "refuse", "(I)I"⟩, 16) := ⟨⟨by decide +kernel, by decide +kernel⟩, List.mem_of_getElem? (i := 650) (by decide +kernel), List.mem_of_getElem? (i := 712) (by decide +kernel), List.mem_of_getElem? (i := 713) (by decide +kernel)⟩
theorem lw_p62 : lw_okq (⟨"TurnsMultiplesModel", "reads", "()I"⟩, 16) := ⟨⟨by decide +kernel, by decide +kernel⟩, List.mem_of_getElem? (i := 650) (by decide +kernel), List.mem_of_getElem? (i := 720) (by decide +kernel), List.mem_of_getElem? (i := 721) (by decide +kernel)⟩
theorem lw_p63 : lw_okq (⟨"TurnsMultiplesModel", "readsStatement", "()Z"⟩, 16) := ⟨⟨by decide +kernel, by decide +kernel⟩, List.mem_of_getElem? (i := 650) (by decide +kernel), List.mem_of_getElem? (i := 724) (by decide +kernel), List.mem_of_getElem? (i := 725) (by decide +kernel)⟩
def lw_privs_4 : List (MethodName × Nat) := [(⟨"TurnsMultiples", "farWay", "(I)I"⟩, 9), (⟨"TurnsMultiples$Corridor", "note", "(I)I"⟩, 11), (⟨"TurnsMultiples$Corridor", "loggedAt", "(I)I"⟩, 11), (⟨"TurnsMultiples$Corridor", "unknown", "()I"⟩, 11), (⟨"TurnsMultiples$Corridor", "behindLog", "(I)I"⟩, 11), (⟨"TurnsMultiples", "filled", "(III)I"⟩, 9), (⟨"TurnsMultiples$Game", "judged", "(LTurnsMultiples$Corridor;LTurnsMultiples$Rows;)I"⟩, 4), (⟨"TurnsMultiples$Game", "begin", "(LTurnsMultiples$Corridor;LTurnsMultiples$Rows;)V"⟩, 4), (⟨"TurnsMultiples$Game", "settle", "(II)V"⟩, 4), (⟨"TurnsMultiples$Rows", "before", "(II)I"⟩, 6), (⟨"TurnsMultiples$Game", "verdictOf", "(I)I"⟩, 4), (⟨"TurnsMultiples$Game", "tellBack", "(IILTurnsMultiples$Rows;)V"⟩, 4), (⟨"TurnsMultiples", "refusalsTold", "(I)I"⟩, 9), (⟨"TurnsMultiplesModel", "refuse", "(I)I"⟩, 16), (⟨"TurnsMultiplesModel", "reads", "()I"⟩, 16), (⟨"TurnsMultiplesModel", "readsStatement", "()Z"⟩, 16)]
theorem lw_r4 : ∀ q ∈ lw_privs_4, lw_okq q := List.forall_mem_cons.mpr ⟨lw_p48, List.forall_mem_cons.mpr ⟨lw_p49, List.forall_mem_cons.mpr ⟨lw_p50, List.forall_mem_cons.mpr ⟨lw_p51, List.forall_mem_cons.mpr ⟨lw_p52, List.forall_mem_cons.mpr ⟨lw_p53, List.forall_mem_cons.mpr ⟨lw_p54, List.forall_mem_cons.mpr ⟨lw_p55, List.forall_mem_cons.mpr ⟨lw_p56, List.forall_mem_cons.mpr ⟨lw_p57, List.forall_mem_cons.mpr ⟨lw_p58, List.forall_mem_cons.mpr ⟨lw_p59, List.forall_mem_cons.mpr ⟨lw_p60, List.forall_mem_cons.mpr ⟨lw_p61, List.forall_mem_cons.mpr ⟨lw_p62, List.forall_mem_cons.mpr ⟨lw_p63, fun _ h => absurd h List.not_mem_nil⟩⟩⟩⟩⟩⟩⟩⟩⟩⟩⟩⟩⟩⟩⟩⟩
theorem lw_p64 : lw_okq (⟨"TurnsMultiplesModel", "sign", "()I"⟩, 16) := ⟨⟨by decide +kernel, by decide +kernel⟩, List.mem_of_getElem? (i := 650) (by decide +kernel), List.mem_of_getElem? (i := 728) (by decide +kernel), List.mem_of_getElem? (i := 729) (by decide +kernel)⟩
theorem lw_p65 : lw_okq (⟨"TurnsMultiplesModel", "readsNumber", "(II)Z"⟩, 16) := ⟨⟨by decide +kernel, by decide +kernel⟩, List.mem_of_getElem? (i := 650) (by decide +kernel), List.mem_of_getElem? (i := 732) (by decide +kernel), List.mem_of_getElem? (i := 733) (by decide +kernel)⟩
theorem lw_p66 : lw_okq (⟨"TurnsMultiplesModel", "isDigit", "()Z"⟩, 16) := ⟨⟨by decide +kernel, by decide +kernel⟩, List.mem_of_getElem? (i := 650) (by decide +kernel), List.mem_of_getElem? (i := 736) (by decide +kernel), List.mem_of_getElem? (i := 737) (by decide +kernel)⟩
theorem lw_p67 : lw_okq (⟨"TurnsMultiplesModel", "readsKind", "()Z"⟩, 16) := ⟨⟨by decide +kernel, by decide +kernel⟩, List.mem_of_getElem? (i := 650) (by decide +kernel), List.mem_of_getElem? (i := 740) (by decide +kernel), List.mem_of_getElem? (i := 741) (by decide +kernel)⟩
theorem lw_p68 : lw_okq (⟨"TurnsMultiplesModel", "takes", "(I)Z"⟩, 16) := ⟨⟨by decide +kernel, by decide +kernel⟩, List.mem_of_getElem? (i := 650) (by decide +kernel), List.mem_of_getElem? (i := 747) (by decide +kernel), List.mem_of_getElem? (i := 748) (by decide +kernel)⟩
theorem lw_p69 : lw_okq (⟨"TurnsMultiplesModel", "readsRow", "()Z"⟩, 16) := ⟨⟨by decide +kernel, by decide +kernel⟩, List.mem_of_getElem? (i := 650) (by decide +kernel), List.mem_of_getElem? (i := 751) (by decide +kernel), List.mem_of_getElem? (i := 752) (by decide +kernel)⟩
theorem lw_p70 : lw_okq (⟨"TurnsMultiplesModel", "comes", "(I)Z"⟩, 16) := ⟨⟨by decide +kernel, by decide +kernel⟩, List.mem_of_getElem? (i := 650) (by decide +kernel), List.mem_of_getElem? (i := 758) (by decide +kernel), List.mem_of_getElem? (i := 759) (by decide +kernel)⟩
theorem lw_p71 : lw_okq (⟨"TurnsMultiplesModel", "clearsRead", "()V"⟩, 16) := ⟨⟨by decide +kernel, by decide +kernel⟩, List.mem_of_getElem? (i := 650) (by decide +kernel), List.mem_of_getElem? (i := 762) (by decide +kernel), List.mem_of_getElem? (i := 763) (by decide +kernel)⟩
theorem lw_p72 : lw_okq (⟨"TurnsMultiplesModel", "comesRow", "(I)Z"⟩, 16) := ⟨⟨by decide +kernel, by decide +kernel⟩, List.mem_of_getElem? (i := 650) (by decide +kernel), List.mem_of_getElem? (i := 766) (by decide +kernel), List.mem_of_getElem? (i := 767) (by decide +kernel)⟩
theorem lw_p73 : lw_okq (⟨"TurnsMultiplesModel", "isDoor", "(I)Z"⟩, 16) := ⟨⟨by decide +kernel, by decide +kernel⟩, List.mem_of_getElem? (i := 650) (by decide +kernel), List.mem_of_getElem? (i := 774) (by decide +kernel), List.mem_of_getElem? (i := 775) (by decide +kernel)⟩
theorem lw_p74 : lw_okq (⟨"TurnsMultiplesModel", "isPerson", "(I)Z"⟩, 16) := ⟨⟨by decide +kernel, by decide +kernel⟩, List.mem_of_getElem? (i := 650) (by decide +kernel), List.mem_of_getElem? (i := 785) (by decide +kernel), List.mem_of_getElem? (i := 786) (by decide +kernel)⟩
theorem lw_p75 : lw_okq (⟨"TurnsMultiplesModel", "get", "(II)I"⟩, 16) := ⟨⟨by decide +kernel, by decide +kernel⟩, List.mem_of_getElem? (i := 650) (by decide +kernel), List.mem_of_getElem? (i := 789) (by decide +kernel), List.mem_of_getElem? (i := 790) (by decide +kernel)⟩
theorem lw_p76 : lw_okq (⟨"TurnsMultiplesModel", "turned", "(I)I"⟩, 16) := ⟨⟨by decide +kernel, by decide +kernel⟩, List.mem_of_getElem? (i := 650) (by decide +kernel), List.mem_of_getElem? (i := 793) (by decide +kernel), List.mem_of_getElem? (i := 794) (by decide +kernel)⟩
theorem lw_p77 : lw_okq (⟨"TurnsMultiplesModel", "turns", "(II)Z"⟩, 16) := ⟨⟨by decide +kernel, by decide +kernel⟩, List.mem_of_getElem? (i := 650) (by decide +kernel), List.mem_of_getElem? (i := 797) (by decide +kernel), List.mem_of_getElem? (i := 798) (by decide +kernel)⟩
theorem lw_p78 : lw_okq (⟨"TurnsMultiplesModel", "goes", "(I)I"⟩, 16) := ⟨⟨by decide +kernel, by decide +kernel⟩, List.mem_of_getElem? (i := 650) (by decide +kernel), List.mem_of_getElem? (i := 808) (by decide +kernel), List.mem_of_getElem? (i := 809) (by decide +kernel)⟩
theorem lw_p79 : lw_okq (⟨"TurnsMultiplesModel", "turnsDoor", "(I)V"⟩, 16) := ⟨⟨by decide +kernel, by decide +kernel⟩, List.mem_of_getElem? (i := 650) (by decide +kernel), List.mem_of_getElem? (i := 812) (by decide +kernel), List.mem_of_getElem? (i := 813) (by decide +kernel)⟩
def lw_privs_5 : List (MethodName × Nat) := [(⟨"TurnsMultiplesModel", "sign", "()I"⟩, 16), (⟨"TurnsMultiplesModel", "readsNumber", "(II)Z"⟩, 16), (⟨"TurnsMultiplesModel", "isDigit", "()Z"⟩, 16), (⟨"TurnsMultiplesModel", "readsKind", "()Z"⟩, 16), (⟨"TurnsMultiplesModel", "takes", "(I)Z"⟩, 16), (⟨"TurnsMultiplesModel", "readsRow", "()Z"⟩, 16), (⟨"TurnsMultiplesModel", "comes", "(I)Z"⟩, 16), (⟨"TurnsMultiplesModel", "clearsRead", "()V"⟩, 16), (⟨"TurnsMultiplesModel", "comesRow", "(I)Z"⟩, 16), (⟨"TurnsMultiplesModel", "isDoor", "(I)Z"⟩, 16), (⟨"TurnsMultiplesModel", "isPerson", "(I)Z"⟩, 16), (⟨"TurnsMultiplesModel", "get", "(II)I"⟩, 16), (⟨"TurnsMultiplesModel", "turned", "(I)I"⟩, 16), (⟨"TurnsMultiplesModel", "turns", "(II)Z"⟩, 16), (⟨"TurnsMultiplesModel", "goes", "(I)I"⟩, 16), (⟨"TurnsMultiplesModel", "turnsDoor", "(I)V"⟩, 16)]
theorem lw_r5 : ∀ q ∈ lw_privs_5, lw_okq q := List.forall_mem_cons.mpr ⟨lw_p64, List.forall_mem_cons.mpr ⟨lw_p65, List.forall_mem_cons.mpr ⟨lw_p66, List.forall_mem_cons.mpr ⟨lw_p67, List.forall_mem_cons.mpr ⟨lw_p68, List.forall_mem_cons.mpr ⟨lw_p69, List.forall_mem_cons.mpr ⟨lw_p70, List.forall_mem_cons.mpr ⟨lw_p71, List.forall_mem_cons.mpr ⟨lw_p72, List.forall_mem_cons.mpr ⟨lw_p73, List.forall_mem_cons.mpr ⟨lw_p74, List.forall_mem_cons.mpr ⟨lw_p75, List.forall_mem_cons.mpr ⟨lw_p76, List.forall_mem_cons.mpr ⟨lw_p77, List.forall_mem_cons.mpr ⟨lw_p78, List.forall_mem_cons.mpr ⟨lw_p79, fun _ h => absurd h List.not_mem_nil⟩⟩⟩⟩⟩⟩⟩⟩⟩⟩⟩⟩⟩⟩⟩⟩
theorem lw_p80 : lw_okq (⟨"TurnsMultiplesModel", "stateNow", "()I"⟩, 16) := ⟨⟨by decide +kernel, by decide +kernel⟩, List.mem_of_getElem? (i := 650) (by decide +kernel), List.mem_of_getElem? (i := 824) (by decide +kernel), List.mem_of_getElem? (i := 825) (by decide +kernel)⟩
theorem lw_p81 : lw_okq (⟨"TurnsMultiplesModel", "isWished", "()Z"⟩, 16) := ⟨⟨by decide +kernel, by decide +kernel⟩, List.mem_of_getElem? (i := 650) (by decide +kernel), List.mem_of_getElem? (i := 832) (by decide +kernel), List.mem_of_getElem? (i := 833) (by decide +kernel)⟩
theorem lw_p82 : lw_okq (⟨"TurnsMultiplesModel", "power", "(I)I"⟩, 16) := ⟨⟨by decide +kernel, by decide +kernel⟩, List.mem_of_getElem? (i := 650) (by decide +kernel), List.mem_of_getElem? (i := 840) (by decide +kernel), List.mem_of_getElem? (i := 841) (by decide +kernel)⟩
theorem lw_p83 : lw_okq (⟨"TurnsMultiplesModel", "findsWay", "(IZ)V"⟩, 16) := ⟨⟨by decide +kernel, by decide +kernel⟩, List.mem_of_getElem? (i := 650) (by decide +kernel), List.mem_of_getElem? (i := 844) (by decide +kernel), List.mem_of_getElem? (i := 845) (by decide +kernel)⟩
theorem lw_p84 : lw_okq (⟨"TurnsMultiplesModel", "rows", "()I"⟩, 16) := ⟨⟨by decide +kernel, by decide +kernel⟩, List.mem_of_getElem? (i := 650) (by decide +kernel), List.mem_of_getElem? (i := 852) (by decide +kernel), List.mem_of_getElem? (i := 853) (by decide +kernel)⟩
theorem lw_p85 : lw_okq (⟨"TurnsMultiplesModel", "brings", "(I)Z"⟩, 16) := ⟨⟨by decide +kernel, by decide +kernel⟩, List.mem_of_getElem? (i := 650) (by decide +kernel), List.mem_of_getElem? (i := 856) (by decide +kernel), List.mem_of_getElem? (i := 857) (by decide +kernel)⟩
theorem lw_p86 : lw_okq (⟨"TurnsMultiplesModel", "keeps", "()V"⟩, 16) := ⟨⟨by decide +kernel, by decide +kernel⟩, List.mem_of_getElem? (i := 650) (by decide +kernel), List.mem_of_getElem? (i := 860) (by decide +kernel), List.mem_of_getElem? (i := 861) (by decide +kernel)⟩
theorem lw_p87 : lw_okq (⟨"TurnsMultiplesModel", "goesRow", "(I)V"⟩, 16) := ⟨⟨by decide +kernel, by decide +kernel⟩, List.mem_of_getElem? (i := 650) (by decide +kernel), List.mem_of_getElem? (i := 864) (by decide +kernel), List.mem_of_getElem? (i := 865) (by decide +kernel)⟩
theorem lw_p88 : lw_okq (⟨"TurnsMultiplesModel", "timesOf", "(II)I"⟩, 16) := ⟨⟨by decide +kernel, by decide +kernel⟩, List.mem_of_getElem? (i := 650) (by decide +kernel), List.mem_of_getElem? (i := 868) (by decide +kernel), List.mem_of_getElem? (i := 869) (by decide +kernel)⟩
theorem lw_p89 : lw_okq (⟨"TurnsMultiplesModel", "putsBack", "()V"⟩, 16) := ⟨⟨by decide +kernel, by decide +kernel⟩, List.mem_of_getElem? (i := 650) (by decide +kernel), List.mem_of_getElem? (i := 872) (by decide +kernel), List.mem_of_getElem? (i := 873) (by decide +kernel)⟩
theorem lw_p90 : lw_okq (⟨"TurnsMultiplesModel", "firstRow", "()I"⟩, 16) := ⟨⟨by decide +kernel, by decide +kernel⟩, List.mem_of_getElem? (i := 650) (by decide +kernel), List.mem_of_getElem? (i := 880) (by decide +kernel), List.mem_of_getElem? (i := 881) (by decide +kernel)⟩
theorem lw_p91 : lw_okq (⟨"TurnsMultiplesModel", "goingsOf", "(I)I"⟩, 16) := ⟨⟨by decide +kernel, by decide +kernel⟩, List.mem_of_getElem? (i := 650) (by decide +kernel), List.mem_of_getElem? (i := 884) (by decide +kernel), List.mem_of_getElem? (i := 885) (by decide +kernel)⟩
theorem lw_p92 : lw_okq (⟨"TurnsMultiplesModel", "isAhead", "(II)Z"⟩, 16) := ⟨⟨by decide +kernel, by decide +kernel⟩, List.mem_of_getElem? (i := 650) (by decide +kernel), List.mem_of_getElem? (i := 888) (by decide +kernel), List.mem_of_getElem? (i := 889) (by decide +kernel)⟩
theorem lw_p93 : lw_okq (⟨"TurnsMultiplesModel", "costOf", "(I)I"⟩, 16) := ⟨⟨by decide +kernel, by decide +kernel⟩, List.mem_of_getElem? (i := 650) (by decide +kernel), List.mem_of_getElem? (i := 896) (by decide +kernel), List.mem_of_getElem? (i := 897) (by decide +kernel)⟩
theorem lw_p94 : lw_okq (⟨"TurnsMultiplesModel", "allPeople", "()I"⟩, 16) := ⟨⟨by decide +kernel, by decide +kernel⟩, List.mem_of_getElem? (i := 650) (by decide +kernel), List.mem_of_getElem? (i := 908) (by decide +kernel), List.mem_of_getElem? (i := 909) (by decide +kernel)⟩
theorem lw_p95 : lw_okq (⟨"TurnsMultiplesModel", "nothingBy", "(I)I"⟩, 16) := ⟨⟨by decide +kernel, by decide +kernel⟩, List.mem_of_getElem? (i := 650) (by decide +kernel), List.mem_of_getElem? (i := 912) (by decide +kernel), List.mem_of_getElem? (i := 913) (by decide +kernel)⟩
def lw_privs_6 : List (MethodName × Nat) := [(⟨"TurnsMultiplesModel", "stateNow", "()I"⟩, 16), (⟨"TurnsMultiplesModel", "isWished", "()Z"⟩, 16), (⟨"TurnsMultiplesModel", "power", "(I)I"⟩, 16), (⟨"TurnsMultiplesModel", "findsWay", "(IZ)V"⟩, 16), (⟨"TurnsMultiplesModel", "rows", "()I"⟩, 16), (⟨"TurnsMultiplesModel", "brings", "(I)Z"⟩, 16), (⟨"TurnsMultiplesModel", "keeps", "()V"⟩, 16), (⟨"TurnsMultiplesModel", "goesRow", "(I)V"⟩, 16), (⟨"TurnsMultiplesModel", "timesOf", "(II)I"⟩, 16), (⟨"TurnsMultiplesModel", "putsBack", "()V"⟩, 16), (⟨"TurnsMultiplesModel", "firstRow", "()I"⟩, 16), (⟨"TurnsMultiplesModel", "goingsOf", "(I)I"⟩, 16), (⟨"TurnsMultiplesModel", "isAhead", "(II)Z"⟩, 16), (⟨"TurnsMultiplesModel", "costOf", "(I)I"⟩, 16), (⟨"TurnsMultiplesModel", "allPeople", "()I"⟩, 16), (⟨"TurnsMultiplesModel", "nothingBy", "(I)I"⟩, 16)]
theorem lw_r6 : ∀ q ∈ lw_privs_6, lw_okq q := List.forall_mem_cons.mpr ⟨lw_p80, List.forall_mem_cons.mpr ⟨lw_p81, List.forall_mem_cons.mpr ⟨lw_p82, List.forall_mem_cons.mpr ⟨lw_p83, List.forall_mem_cons.mpr ⟨lw_p84, List.forall_mem_cons.mpr ⟨lw_p85, List.forall_mem_cons.mpr ⟨lw_p86, List.forall_mem_cons.mpr ⟨lw_p87, List.forall_mem_cons.mpr ⟨lw_p88, List.forall_mem_cons.mpr ⟨lw_p89, List.forall_mem_cons.mpr ⟨lw_p90, List.forall_mem_cons.mpr ⟨lw_p91, List.forall_mem_cons.mpr ⟨lw_p92, List.forall_mem_cons.mpr ⟨lw_p93, List.forall_mem_cons.mpr ⟨lw_p94, List.forall_mem_cons.mpr ⟨lw_p95, fun _ h => absurd h List.not_mem_nil⟩⟩⟩⟩⟩⟩⟩⟩⟩⟩⟩⟩⟩⟩⟩⟩
theorem lw_p96 : lw_okq (⟨"TurnsMultiplesModel", "zeroes", "()V"⟩, 16) := ⟨⟨by decide +kernel, by decide +kernel⟩, List.mem_of_getElem? (i := 650) (by decide +kernel), List.mem_of_getElem? (i := 916) (by decide +kernel), List.mem_of_getElem? (i := 917) (by decide +kernel)⟩
theorem lw_p97 : lw_okq (⟨"TurnsMultiplesModel", "keySet", "()I"⟩, 16) := ⟨⟨by decide +kernel, by decide +kernel⟩, List.mem_of_getElem? (i := 650) (by decide +kernel), List.mem_of_getElem? (i := 928) (by decide +kernel), List.mem_of_getElem? (i := 929) (by decide +kernel)⟩
theorem lw_p98 : lw_okq (⟨"TurnsMultiplesModel", "stuck", "()I"⟩, 16) := ⟨⟨by decide +kernel, by decide +kernel⟩, List.mem_of_getElem? (i := 650) (by decide +kernel), List.mem_of_getElem? (i := 932) (by decide +kernel), List.mem_of_getElem? (i := 933) (by decide +kernel)⟩
theorem lw_p99 : lw_okq (⟨"TurnsMultiplesModel", "findsBeen", "()V"⟩, 16) := ⟨⟨by decide +kernel, by decide +kernel⟩, List.mem_of_getElem? (i := 650) (by decide +kernel), List.mem_of_getElem? (i := 943) (by decide +kernel), List.mem_of_getElem? (i := 944) (by decide +kernel)⟩
theorem lw_p100 : lw_okq (⟨"TurnsMultiplesModel", "forEverOf", "(I)I"⟩, 16) := ⟨⟨by decide +kernel, by decide +kernel⟩, List.mem_of_getElem? (i := 650) (by decide +kernel), List.mem_of_getElem? (i := 956) (by decide +kernel), List.mem_of_getElem? (i := 957) (by decide +kernel)⟩
theorem lw_p101 : lw_okq (⟨"TurnsMultiplesModel", "logAt", "(I)I"⟩, 16) := ⟨⟨by decide +kernel, by decide +kernel⟩, List.mem_of_getElem? (i := 650) (by decide +kernel), List.mem_of_getElem? (i := 979) (by decide +kernel), List.mem_of_getElem? (i := 980) (by decide +kernel)⟩
theorem lw_p102 : lw_okq (⟨"TurnsMultiplesModel", "unknown", "()I"⟩, 16) := ⟨⟨by decide +kernel, by decide +kernel⟩, List.mem_of_getElem? (i := 650) (by decide +kernel), List.mem_of_getElem? (i := 987) (by decide +kernel), List.mem_of_getElem? (i := 988) (by decide +kernel)⟩
theorem lw_p103 : lw_okq (⟨"TurnsMultiplesModel", "shuts", "(I)Z"⟩, 16) := ⟨⟨by decide +kernel, by decide +kernel⟩, List.mem_of_getElem? (i := 650) (by decide +kernel), List.mem_of_getElem? (i := 999) (by decide +kernel), List.mem_of_getElem? (i := 1000) (by decide +kernel)⟩
theorem lw_p104 : lw_okq (⟨"TurnsMultiplesModel", "worthOf", "(I)I"⟩, 16) := ⟨⟨by decide +kernel, by decide +kernel⟩, List.mem_of_getElem? (i := 650) (by decide +kernel), List.mem_of_getElem? (i := 1011) (by decide +kernel), List.mem_of_getElem? (i := 1012) (by decide +kernel)⟩
theorem lw_p105 : lw_okq (⟨"TurnsMultiplesModel", "then", "(II)I"⟩, 16) := ⟨⟨by decide +kernel, by decide +kernel⟩, List.mem_of_getElem? (i := 650) (by decide +kernel), List.mem_of_getElem? (i := 1015) (by decide +kernel), List.mem_of_getElem? (i := 1016) (by decide +kernel)⟩
def lw_privs_7 : List (MethodName × Nat) := [(⟨"TurnsMultiplesModel", "zeroes", "()V"⟩, 16), (⟨"TurnsMultiplesModel", "keySet", "()I"⟩, 16), (⟨"TurnsMultiplesModel", "stuck", "()I"⟩, 16), (⟨"TurnsMultiplesModel", "findsBeen", "()V"⟩, 16), (⟨"TurnsMultiplesModel", "forEverOf", "(I)I"⟩, 16), (⟨"TurnsMultiplesModel", "logAt", "(I)I"⟩, 16), (⟨"TurnsMultiplesModel", "unknown", "()I"⟩, 16), (⟨"TurnsMultiplesModel", "shuts", "(I)Z"⟩, 16), (⟨"TurnsMultiplesModel", "worthOf", "(I)I"⟩, 16), (⟨"TurnsMultiplesModel", "then", "(II)I"⟩, 16)]
theorem lw_r7 : ∀ q ∈ lw_privs_7, lw_okq q := List.forall_mem_cons.mpr ⟨lw_p96, List.forall_mem_cons.mpr ⟨lw_p97, List.forall_mem_cons.mpr ⟨lw_p98, List.forall_mem_cons.mpr ⟨lw_p99, List.forall_mem_cons.mpr ⟨lw_p100, List.forall_mem_cons.mpr ⟨lw_p101, List.forall_mem_cons.mpr ⟨lw_p102, List.forall_mem_cons.mpr ⟨lw_p103, List.forall_mem_cons.mpr ⟨lw_p104, List.forall_mem_cons.mpr ⟨lw_p105, fun _ h => absurd h List.not_mem_nil⟩⟩⟩⟩⟩⟩⟩⟩⟩⟩
def lw_privs : List (MethodName × Nat) := lw_privs_1 ++ (lw_privs_2 ++ (lw_privs_3 ++ (lw_privs_4 ++ (lw_privs_5 ++ (lw_privs_6 ++ (lw_privs_7))))))
def lw_tbl : List Cond := k2_sels lw_privs ++ tables_1
theorem lw_privs_ok : ∀ q ∈ lw_privs, lw_okq q := by
  show ∀ q ∈ lw_privs_1 ++ (lw_privs_2 ++ (lw_privs_3 ++ (lw_privs_4 ++ (lw_privs_5 ++ (lw_privs_6 ++ (lw_privs_7)))))), lw_okq q
  exact List.forall_mem_append.mpr ⟨lw_r1, List.forall_mem_append.mpr ⟨lw_r2, List.forall_mem_append.mpr ⟨lw_r3, List.forall_mem_append.mpr ⟨lw_r4, List.forall_mem_append.mpr ⟨lw_r5, List.forall_mem_append.mpr ⟨lw_r6, lw_r7⟩⟩⟩⟩⟩⟩
end
section
def RX0 : String := "TurnsMultiples$Corridor"
def TX0 : u_T := fun k => match k with
  | 0 => ("TurnsMultiples$Corridor", "doors", "I", false)
  | 1 => ("TurnsMultiples$Corridor", "colours", "I", false)
  | 2 => ("TurnsMultiples$Corridor", "people", "I", false)
  | 3 => ("TurnsMultiples$Corridor", "goers", "[LTurnsMultiples$Goer;", true)
  | 4 => ("TurnsMultiples$Corridor", "stuck", "I", false)
  | 5 => ("TurnsMultiples$Corridor", "minded", "I", false)
  | 6 => ("TurnsMultiples$Corridor", "wanted", "I", false)
  | 7 => ("TurnsMultiples$Corridor", "stand", "I", false)
  | 8 => ("TurnsMultiples$Corridor", "goings", "I", false)
  | 9 => ("TurnsMultiples$Corridor", "notes", "[I", true)
  | _ => ("TurnsMultiples$Corridor", "logged", "I", false)
def tyX0 : Nat → FieldType := fun k => match k with
  | 0 => .int
  | 1 => .int
  | 2 => .int
  | 3 => .array (.object "TurnsMultiples$Goer")
  | 4 => .int
  | 5 => .int
  | 6 => .int
  | 7 => .int
  | 8 => .int
  | 9 => .array .int
  | _ => .int
abbrev wsX00 : List Cond := u_ws RX0 TX0 11
theorem nmX0 : ∀ a, a < 11 → ∀ b, b < 11 → a ≠ b → (TX0 a).2.1 ≠ (TX0 b).2.1 := by decide +kernel
theorem tyX0_ok : ∀ k, k < 11 → parseFieldDescriptor (TX0 k).2.2.1 = some (tyX0 k) := by decide +kernel
abbrev cX0_init : ByteArray := prog_2_method_1_code
def yX0_init : MethodName := ⟨RX0, "<init>", "()V"⟩
abbrev cX0_become : ByteArray := prog_2_method_2_code
def yX0_become : MethodName := ⟨RX0, "become", "(LTurnsMultiples$Corridor;)V"⟩
abbrev cX0_hasDoor : ByteArray := prog_2_method_3_code
def yX0_hasDoor : MethodName := ⟨RX0, "hasDoor", "(I)Z"⟩
abbrev cX0_isStuck : ByteArray := prog_2_method_4_code
def yX0_isStuck : MethodName := ⟨RX0, "isStuck", "(I)Z"⟩
abbrev cX0_wishFor : ByteArray := prog_2_method_5_code
def yX0_wishFor : MethodName := ⟨RX0, "wishFor", "(I)I"⟩
abbrev cX0_isWish : ByteArray := prog_2_method_6_code
def yX0_isWish : MethodName := ⟨RX0, "isWish", "(I)Z"⟩
abbrev cX0_stateOf : ByteArray := prog_2_method_7_code
def yX0_stateOf : MethodName := ⟨RX0, "stateOf", "(I)I"⟩
abbrev cX0_goerOf : ByteArray := prog_2_method_8_code
def yX0_goerOf : MethodName := ⟨RX0, "goerOf", "(I)LTurnsMultiples$Goer;"⟩
abbrev cX0_turnsOf : ByteArray := prog_2_method_9_code
def yX0_turnsOf : MethodName := ⟨RX0, "turnsOf", "(I)I"⟩
abbrev cX0_goAlong : ByteArray := prog_2_method_10_code
def yX0_goAlong : MethodName := ⟨RX0, "goAlong", "(I)I"⟩
abbrev cX0_note : ByteArray := prog_2_method_11_code
def yX0_note : MethodName := ⟨RX0, "note", "(I)I"⟩
abbrev cX0_loggedAt : ByteArray := prog_2_method_12_code
def yX0_loggedAt : MethodName := ⟨RX0, "loggedAt", "(I)I"⟩
abbrev cX0_unknown : ByteArray := prog_2_method_13_code
def yX0_unknown : MethodName := ⟨RX0, "unknown", "()I"⟩
abbrev cX0_behindLog : ByteArray := prog_2_method_14_code
def yX0_behindLog : MethodName := ⟨RX0, "behindLog", "(I)I"⟩
abbrev cX0_obeys : ByteArray := prog_2_method_15_code
def yX0_obeys : MethodName := ⟨RX0, "obeys", "(LTurnsMultiples$Letters;)Z"⟩
abbrev cX0_obeysDoors : ByteArray := prog_2_method_16_code
def yX0_obeysDoors : MethodName := ⟨RX0, "obeysDoors", "(I)Z"⟩
abbrev cX0_obeysColours : ByteArray := prog_2_method_17_code
def yX0_obeysColours : MethodName := ⟨RX0, "obeysColours", "(I)Z"⟩
abbrev cX0_empty : ByteArray := prog_2_method_18_code
def yX0_empty : MethodName := ⟨RX0, "empty", "()V"⟩
abbrev cX0_obeysPerson : ByteArray := prog_2_method_19_code
def yX0_obeysPerson : MethodName := ⟨RX0, "obeysPerson", "(LTurnsMultiples$Letters;)Z"⟩
abbrev cX0_isGoerNumber : ByteArray := prog_2_method_20_code
def yX0_isGoerNumber : MethodName := ⟨RX0, "isGoerNumber", "(I)Z"⟩
abbrev cX0_obeysStuck : ByteArray := prog_2_method_21_code
def yX0_obeysStuck : MethodName := ⟨RX0, "obeysStuck", "(I)Z"⟩
abbrev cX0_obeysWish : ByteArray := prog_2_method_22_code
def yX0_obeysWish : MethodName := ⟨RX0, "obeysWish", "(LTurnsMultiples$Letters;)Z"⟩
abbrev cX0_obeysStand : ByteArray := prog_2_method_23_code
def yX0_obeysStand : MethodName := ⟨RX0, "obeysStand", "(LTurnsMultiples$Letters;)Z"⟩
def RX1 : String := "TurnsMultiples$Game"
def TX1 : u_T := fun k => match k with
  | 0 => ("TurnsMultiples$Game", "verdicts", "[I", true)
  | 1 => ("TurnsMultiples$Game", "hopes", "[I", true)
  | 2 => ("TurnsMultiples$Game", "judgedRows", "[I", true)
  | _ => ("TurnsMultiples$Game", "judgedCount", "I", false)
def tyX1 : Nat → FieldType := fun k => match k with
  | 0 => .array .int
  | 1 => .array .int
  | 2 => .array .int
  | _ => .int
abbrev wsX10 : List Cond := u_ws RX1 TX1 4
theorem nmX1 : ∀ a, a < 4 → ∀ b, b < 4 → a ≠ b → (TX1 a).2.1 ≠ (TX1 b).2.1 := by decide +kernel
theorem tyX1_ok : ∀ k, k < 4 → parseFieldDescriptor (TX1 k).2.2.1 = some (tyX1 k) := by decide +kernel
abbrev cX1_init : ByteArray := prog_3_method_1_code
def yX1_init : MethodName := ⟨RX1, "<init>", "()V"⟩
abbrev cX1_judged : ByteArray := prog_3_method_2_code
def yX1_judged : MethodName := ⟨RX1, "judged", "(LTurnsMultiples$Corridor;LTurnsMultiples$Rows;)I"⟩
abbrev cX1_begin : ByteArray := prog_3_method_3_code
def yX1_begin : MethodName := ⟨RX1, "begin", "(LTurnsMultiples$Corridor;LTurnsMultiples$Rows;)V"⟩
abbrev cX1_tellBack : ByteArray := prog_3_method_4_code
def yX1_tellBack : MethodName := ⟨RX1, "tellBack", "(IILTurnsMultiples$Rows;)V"⟩
abbrev cX1_verdictOf : ByteArray := prog_3_method_5_code
def yX1_verdictOf : MethodName := ⟨RX1, "verdictOf", "(I)I"⟩
abbrev cX1_settle : ByteArray := prog_3_method_6_code
def yX1_settle : MethodName := ⟨RX1, "settle", "(II)V"⟩
def RX2 : String := "TurnsMultiples$Goer"
def TX2 : u_T := fun k => match k with
  | 0 => ("TurnsMultiples$Goer", "kind", "I", true)
  | 1 => ("TurnsMultiples$Goer", "first", "I", true)
  | 2 => ("TurnsMultiples$Goer", "second", "I", true)
  | _ => ("TurnsMultiples$Goer", "cost", "I", true)
def tyX2 : Nat → FieldType := fun k => match k with
  | 0 => .int
  | 1 => .int
  | 2 => .int
  | _ => .int
abbrev wsX20 : List Cond := u_ws RX2 TX2 4
theorem nmX2 : ∀ a, a < 4 → ∀ b, b < 4 → a ≠ b → (TX2 a).2.1 ≠ (TX2 b).2.1 := by decide +kernel
theorem tyX2_ok : ∀ k, k < 4 → parseFieldDescriptor (TX2 k).2.2.1 = some (tyX2 k) := by decide +kernel
abbrev cX2_init : ByteArray := prog_4_method_1_code
def yX2_init : MethodName := ⟨RX2, "<init>", "(IIII)V"⟩
abbrev cX2_isGoerTo : ByteArray := prog_4_method_2_code
def yX2_isGoerTo : MethodName := ⟨RX2, "isGoerTo", "(I)Z"⟩
def RX3 : String := "TurnsMultiples$Letters"
def TX3 : u_T := fun k => match k with
  | 0 => ("TurnsMultiples$Letters", "signs", "[I", true)
  | 1 => ("TurnsMultiples$Letters", "length", "I", false)
  | 2 => ("TurnsMultiples$Letters", "at", "I", false)
  | 3 => ("TurnsMultiples$Letters", "head", "I", false)
  | 4 => ("TurnsMultiples$Letters", "kind", "I", false)
  | 5 => ("TurnsMultiples$Letters", "numbers", "[I", true)
  | 6 => ("TurnsMultiples$Letters", "numberCount", "I", false)
  | 7 => ("TurnsMultiples$Letters", "digits", "[I", true)
  | _ => ("TurnsMultiples$Letters", "digitCount", "I", false)
def tyX3 : Nat → FieldType := fun k => match k with
  | 0 => .array .int
  | 1 => .int
  | 2 => .int
  | 3 => .int
  | 4 => .int
  | 5 => .array .int
  | 6 => .int
  | 7 => .array .int
  | _ => .int
abbrev wsX30 : List Cond := u_ws RX3 TX3 9
theorem nmX3 : ∀ a, a < 9 → ∀ b, b < 9 → a ≠ b → (TX3 a).2.1 ≠ (TX3 b).2.1 := by decide +kernel
theorem tyX3_ok : ∀ k, k < 9 → parseFieldDescriptor (TX3 k).2.2.1 = some (tyX3 k) := by decide +kernel
abbrev cX3_init : ByteArray := prog_5_method_1_code
def yX3_init : MethodName := ⟨RX3, "<init>", "()V"⟩
abbrev cX3_append : ByteArray := prog_5_method_2_code
def yX3_append : MethodName := ⟨RX3, "append", "(I)I"⟩
abbrev cX3_wipe : ByteArray := prog_5_method_3_code
def yX3_wipe : MethodName := ⟨RX3, "wipe", "()V"⟩
abbrev cX3_rewind : ByteArray := prog_5_method_4_code
def yX3_rewind : MethodName := ⟨RX3, "rewind", "()V"⟩
abbrev cX3_numberAt : ByteArray := prog_5_method_5_code
def yX3_numberAt : MethodName := ⟨RX3, "numberAt", "(I)I"⟩
abbrev cX3_digitAt : ByteArray := prog_5_method_6_code
def yX3_digitAt : MethodName := ⟨RX3, "digitAt", "(I)I"⟩
abbrev cX3_misplaced : ByteArray := prog_5_method_7_code
def yX3_misplaced : MethodName := ⟨RX3, "misplaced", "()I"⟩
abbrev cX3_readStatement : ByteArray := prog_5_method_8_code
def yX3_readStatement : MethodName := ⟨RX3, "readStatement", "()Z"⟩
abbrev cX3_signHere : ByteArray := prog_5_method_9_code
def yX3_signHere : MethodName := ⟨RX3, "signHere", "()I"⟩
abbrev cX3_takes : ByteArray := prog_5_method_10_code
def yX3_takes : MethodName := ⟨RX3, "takes", "(C)Z"⟩
abbrev cX3_readKind : ByteArray := prog_5_method_11_code
def yX3_readKind : MethodName := ⟨RX3, "readKind", "()Z"⟩
abbrev cX3_readDigits : ByteArray := prog_5_method_12_code
def yX3_readDigits : MethodName := ⟨RX3, "readDigits", "(I)Z"⟩
abbrev cX3_isDigitHere : ByteArray := prog_5_method_13_code
def yX3_isDigitHere : MethodName := ⟨RX3, "isDigitHere", "()Z"⟩
def RX4 : String := "TurnsMultiples$Rows"
def TX4 : u_T := fun k => match k with
  | 0 => ("TurnsMultiples$Rows", "ends", "[I", true)
  | 1 => ("TurnsMultiples$Rows", "weights", "[I", true)
  | 2 => ("TurnsMultiples$Rows", "pivots", "[I", true)
  | 3 => ("TurnsMultiples$Rows", "size", "I", false)
  | 4 => ("TurnsMultiples$Rows", "people", "I", false)
  | _ => ("TurnsMultiples$Rows", "colours", "I", false)
def tyX4 : Nat → FieldType := fun k => match k with
  | 0 => .array .int
  | 1 => .array .int
  | 2 => .array .int
  | 3 => .int
  | 4 => .int
  | _ => .int
abbrev wsX40 : List Cond := u_ws RX4 TX4 6
theorem nmX4 : ∀ a, a < 6 → ∀ b, b < 6 → a ≠ b → (TX4 a).2.1 ≠ (TX4 b).2.1 := by decide +kernel
theorem tyX4_ok : ∀ k, k < 6 → parseFieldDescriptor (TX4 k).2.2.1 = some (tyX4 k) := by decide +kernel
abbrev cX4_init : ByteArray := prog_6_method_1_code
def yX4_init : MethodName := ⟨RX4, "<init>", "()V"⟩
abbrev cX4_lead : ByteArray := prog_6_method_2_code
def yX4_lead : MethodName := ⟨RX4, "lead", "(LTurnsMultiples$Corridor;I)V"⟩
abbrev cX4_goOnceMore : ByteArray := prog_6_method_3_code
def yX4_goOnceMore : MethodName := ⟨RX4, "goOnceMore", "(I)V"⟩
abbrev cX4_endOf : ByteArray := prog_6_method_4_code
def yX4_endOf : MethodName := ⟨RX4, "endOf", "(I)I"⟩
abbrev cX4_endingAt : ByteArray := prog_6_method_5_code
def yX4_endingAt : MethodName := ⟨RX4, "endingAt", "(I)I"⟩
abbrev cX4_weightOf : ByteArray := prog_6_method_6_code
def yX4_weightOf : MethodName := ⟨RX4, "weightOf", "(I)I"⟩
abbrev cX4_timesIn : ByteArray := prog_6_method_7_code
def yX4_timesIn : MethodName := ⟨RX4, "timesIn", "(II)I"⟩
abbrev cX4_goingsIn : ByteArray := prog_6_method_8_code
def yX4_goingsIn : MethodName := ⟨RX4, "goingsIn", "(I)I"⟩
abbrev cX4_costOf : ByteArray := prog_6_method_9_code
def yX4_costOf : MethodName := ⟨RX4, "costOf", "(ILTurnsMultiples$Corridor;)I"⟩
abbrev cX4_goersIn : ByteArray := prog_6_method_10_code
def yX4_goersIn : MethodName := ⟨RX4, "goersIn", "(I)I"⟩
abbrev cX4_before : ByteArray := prog_6_method_11_code
def yX4_before : MethodName := ⟨RX4, "before", "(II)I"⟩
abbrev cX4_bringAll : ByteArray := prog_6_method_12_code
def yX4_bringAll : MethodName := ⟨RX4, "bringAll", "(LTurnsMultiples$Corridor;I)Z"⟩
abbrev cX4_findPivot : ByteArray := prog_6_method_13_code
def yX4_findPivot : MethodName := ⟨RX4, "findPivot", "(LTurnsMultiples$Corridor;I)Z"⟩
abbrev cX4_added : ByteArray := prog_6_method_14_code
def yX4_added : MethodName := ⟨RX4, "added", "(IIII)I"⟩
def RX5 : String := "TurnsMultiples"
def TX5 : u_T := fun k => match k with
  | 0 => ("TurnsMultiples", "letters", "LTurnsMultiples$Letters;", true)
  | 1 => ("TurnsMultiples", "now", "LTurnsMultiples$Corridor;", true)
  | 2 => ("TurnsMultiples", "trial", "LTurnsMultiples$Corridor;", true)
  | 3 => ("TurnsMultiples", "kept", "LTurnsMultiples$Corridor;", true)
  | 4 => ("TurnsMultiples", "rows", "LTurnsMultiples$Rows;", true)
  | 5 => ("TurnsMultiples", "game", "LTurnsMultiples$Game;", true)
  | 6 => ("TurnsMultiples", "wayRow", "[I", true)
  | 7 => ("TurnsMultiples", "refusals", "[I", true)
  | _ => ("TurnsMultiples", "hasImage", "Z", false)
def tyX5 : Nat → FieldType := fun k => match k with
  | 0 => .object "TurnsMultiples$Letters"
  | 1 => .object "TurnsMultiples$Corridor"
  | 2 => .object "TurnsMultiples$Corridor"
  | 3 => .object "TurnsMultiples$Corridor"
  | 4 => .object "TurnsMultiples$Rows"
  | 5 => .object "TurnsMultiples$Game"
  | 6 => .array .int
  | 7 => .array .int
  | _ => .boolean
abbrev wsX50 : List Cond := u_ws RX5 TX5 9
theorem nmX5 : ∀ a, a < 9 → ∀ b, b < 9 → a ≠ b → (TX5 a).2.1 ≠ (TX5 b).2.1 := by decide +kernel
theorem tyX5_ok : ∀ k, k < 9 → parseFieldDescriptor (TX5 k).2.2.1 = some (tyX5 k) := by decide +kernel
abbrev cX5_init : ByteArray := prog_1_method_1_code
def yX5_init : MethodName := ⟨RX5, "<init>", "()V"⟩
abbrev cX5_letter : ByteArray := prog_1_method_2_code
def yX5_letter : MethodName := ⟨RX5, "letter", "(I)I"⟩
abbrev cX5_house : ByteArray := prog_1_method_3_code
def yX5_house : MethodName := ⟨RX5, "house", "()I"⟩
abbrev cX5_readHouse : ByteArray := prog_1_method_4_code
def yX5_readHouse : MethodName := ⟨RX5, "readHouse", "()I"⟩
abbrev cX5_door : ByteArray := prog_1_method_5_code
def yX5_door : MethodName := ⟨RX5, "door", "(II)I"⟩
abbrev cX5_person : ByteArray := prog_1_method_6_code
def yX5_person : MethodName := ⟨RX5, "person", "(II)I"⟩
abbrev cX5_go : ByteArray := prog_1_method_7_code
def yX5_go : MethodName := ⟨RX5, "go", "(I)I"⟩
abbrev cX5_turn : ByteArray := prog_1_method_8_code
def yX5_turn : MethodName := ⟨RX5, "turn", "(I)I"⟩
abbrev cX5_state : ByteArray := prog_1_method_9_code
def yX5_state : MethodName := ⟨RX5, "state", "()I"⟩
abbrev cX5_wished : ByteArray := prog_1_method_10_code
def yX5_wished : MethodName := ⟨RX5, "wished", "()I"⟩
abbrev cX5_way : ByteArray := prog_1_method_11_code
def yX5_way : MethodName := ⟨RX5, "way", "(III)I"⟩
abbrev cX5_spread : ByteArray := prog_1_method_12_code
def yX5_spread : MethodName := ⟨RX5, "spread", "(I)V"⟩
abbrev cX5_solveByMultiples : ByteArray := prog_1_method_13_code
def yX5_solveByMultiples : MethodName := ⟨RX5, "solveByMultiples", "()V"⟩
abbrev cX5_solveByDivisors : ByteArray := prog_1_method_14_code
def yX5_solveByDivisors : MethodName := ⟨RX5, "solveByDivisors", "()V"⟩
abbrev cX5_takeBack : ByteArray := prog_1_method_15_code
def yX5_takeBack : MethodName := ⟨RX5, "takeBack", "(II)V"⟩
abbrev cX5_can : ByteArray := prog_1_method_16_code
def yX5_can : MethodName := ⟨RX5, "can", "()I"⟩
abbrev cX5_fewest : ByteArray := prog_1_method_17_code
def yX5_fewest : MethodName := ⟨RX5, "fewest", "()I"⟩
abbrev cX5_cheapest : ByteArray := prog_1_method_18_code
def yX5_cheapest : MethodName := ⟨RX5, "cheapest", "()I"⟩
abbrev cX5_how : ByteArray := prog_1_method_19_code
def yX5_how : MethodName := ⟨RX5, "how", "(I)I"⟩
abbrev cX5_fewestRow : ByteArray := prog_1_method_20_code
def yX5_fewestRow : MethodName := ⟨RX5, "fewestRow", "()I"⟩
abbrev cX5_nothing : ByteArray := prog_1_method_21_code
def yX5_nothing : MethodName := ⟨RX5, "nothing", "()I"⟩
abbrev cX5_states : ByteArray := prog_1_method_22_code
def yX5_states : MethodName := ⟨RX5, "states", "()I"⟩
abbrev cX5_keys : ByteArray := prog_1_method_23_code
def yX5_keys : MethodName := ⟨RX5, "keys", "(I)I"⟩
abbrev cX5_been : ByteArray := prog_1_method_24_code
def yX5_been : MethodName := ⟨RX5, "been", "()I"⟩
abbrev cX5_sure : ByteArray := prog_1_method_25_code
def yX5_sure : MethodName := ⟨RX5, "sure", "()I"⟩
abbrev cX5_forEver : ByteArray := prog_1_method_26_code
def yX5_forEver : MethodName := ⟨RX5, "forEver", "(I)I"⟩
abbrev cX5_nth : ByteArray := prog_1_method_27_code
def yX5_nth : MethodName := ⟨RX5, "nth", "(I)I"⟩
abbrev cX5_open : ByteArray := prog_1_method_28_code
def yX5_open : MethodName := ⟨RX5, "open", "(I)I"⟩
abbrev cX5_farWay : ByteArray := prog_1_method_29_code
def yX5_farWay : MethodName := ⟨RX5, "farWay", "(I)I"⟩
abbrev cX5_log : ByteArray := prog_1_method_30_code
def yX5_log : MethodName := ⟨RX5, "log", "(I)I"⟩
abbrev cX5_order : ByteArray := prog_1_method_31_code
def yX5_order : MethodName := ⟨RX5, "order", "(I)I"⟩
abbrev cX5_fills : ByteArray := prog_1_method_32_code
def yX5_fills : MethodName := ⟨RX5, "fills", "()I"⟩
abbrev cX5_filled : ByteArray := prog_1_method_33_code
def yX5_filled : MethodName := ⟨RX5, "filled", "(III)I"⟩
abbrev cX5_run : ByteArray := prog_1_method_34_code
def yX5_run : MethodName := ⟨RX5, "run", "(I)I"⟩
abbrev cX5_judge : ByteArray := prog_1_method_35_code
def yX5_judge : MethodName := ⟨RX5, "judge", "()I"⟩
abbrev cX5_clear : ByteArray := prog_1_method_36_code
def yX5_clear : MethodName := ⟨RX5, "clear", "()I"⟩
abbrev cX5_match : ByteArray := prog_1_method_37_code
def yX5_match : MethodName := ⟨RX5, "match", "()I"⟩
abbrev cX5_seeds : ByteArray := prog_1_method_38_code
def yX5_seeds : MethodName := ⟨RX5, "seeds", "(II)I"⟩
abbrev cX5_image : ByteArray := prog_1_method_39_code
def yX5_image : MethodName := ⟨RX5, "image", "()I"⟩
abbrev cX5_on : ByteArray := prog_1_method_40_code
def yX5_on : MethodName := ⟨RX5, "on", "()I"⟩
abbrev cX5_count : ByteArray := prog_1_method_41_code
def yX5_count : MethodName := ⟨RX5, "count", "(I)I"⟩
abbrev cX5_refusalsTold : ByteArray := prog_1_method_42_code
def yX5_refusalsTold : MethodName := ⟨RX5, "refusalsTold", "(I)I"⟩
abbrev cX5_refuse : ByteArray := prog_1_method_43_code
def yX5_refuse : MethodName := ⟨RX5, "refuse", "(I)I"⟩
abbrev cX5_bitOf : ByteArray := prog_1_method_44_code
def yX5_bitOf : MethodName := ⟨RX5, "bitOf", "(I)I"⟩
abbrev cX5_bitAt : ByteArray := prog_1_method_45_code
def yX5_bitAt : MethodName := ⟨RX5, "bitAt", "(II)I"⟩
abbrev cX5_wayOf : ByteArray := prog_1_method_46_code
def yX5_wayOf : MethodName := ⟨RX5, "wayOf", "(II)I"⟩
abbrev cX5_notAtZero : ByteArray := prog_1_method_47_code
def yX5_notAtZero : MethodName := ⟨RX5, "notAtZero", "(I)I"⟩
abbrev cX5_turned : ByteArray := prog_1_method_48_code
def yX5_turned : MethodName := ⟨RX5, "turned", "(III)I"⟩
abbrev cX5_goesInto : ByteArray := prog_1_method_49_code
def yX5_goesInto : MethodName := ⟨RX5, "goesInto", "(II)Z"⟩
abbrev cX5_remainder : ByteArray := prog_1_method_50_code
def yX5_remainder : MethodName := ⟨RX5, "remainder", "(II)I"⟩
abbrev cX5_quotient : ByteArray := prog_1_method_51_code
def yX5_quotient : MethodName := ⟨RX5, "quotient", "(II)I"⟩
abbrev cX5_power : ByteArray := prog_1_method_52_code
def yX5_power : MethodName := ⟨RX5, "power", "(II)I"⟩
abbrev cX5_divisorsOf : ByteArray := prog_1_method_53_code
def yX5_divisorsOf : MethodName := ⟨RX5, "divisorsOf", "(I)I"⟩
def RX6 : String := "TurnsMultiplesModel"
def TX6 : u_T := fun k => match k with
  | 0 => ("TurnsMultiplesModel", "refusals", "[I", true)
  | 1 => ("TurnsMultiplesModel", "s", "[I", true)
  | 2 => ("TurnsMultiplesModel", "image", "[I", true)
  | 3 => ("TurnsMultiplesModel", "read", "[I", true)
  | 4 => ("TurnsMultiplesModel", "isImage", "Z", false)
  | 5 => ("TurnsMultiplesModel", "tape", "[I", true)
  | 6 => ("TurnsMultiplesModel", "told", "[I", true)
  | 7 => ("TurnsMultiplesModel", "taped", "I", false)
  | 8 => ("TurnsMultiplesModel", "at", "I", false)
  | 9 => ("TurnsMultiplesModel", "digits", "I", false)
  | 10 => ("TurnsMultiplesModel", "times", "[I", true)
  | 11 => ("TurnsMultiplesModel", "wayState", "[I", true)
  | 12 => ("TurnsMultiplesModel", "stood", "[I", true)
  | 13 => ("TurnsMultiplesModel", "been", "I", false)
  | 14 => ("TurnsMultiplesModel", "sure", "I", false)
  | _ => ("TurnsMultiplesModel", "worth", "[I", true)
def tyX6 : Nat → FieldType := fun k => match k with
  | 0 => .array .int
  | 1 => .array .int
  | 2 => .array .int
  | 3 => .array .int
  | 4 => .boolean
  | 5 => .array .int
  | 6 => .array .int
  | 7 => .int
  | 8 => .int
  | 9 => .int
  | 10 => .array .int
  | 11 => .array .int
  | 12 => .array .int
  | 13 => .int
  | 14 => .int
  | _ => .array .int
abbrev wsX60 : List Cond := u_ws RX6 TX6 16
theorem nmX6 : ∀ a, a < 16 → ∀ b, b < 16 → a ≠ b → (TX6 a).2.1 ≠ (TX6 b).2.1 := by decide +kernel
theorem tyX6_ok : ∀ k, k < 16 → parseFieldDescriptor (TX6 k).2.2.1 = some (tyX6 k) := by decide +kernel
abbrev cX6_init : ByteArray := prog_8_method_1_code
def yX6_init : MethodName := ⟨RX6, "<init>", "()V"⟩
abbrev cX6_refuse : ByteArray := prog_8_method_2_code
def yX6_refuse : MethodName := ⟨RX6, "refuse", "(I)I"⟩
abbrev cX6_isIn : ByteArray := prog_8_method_3_code
def yX6_isIn : MethodName := ⟨RX6, "isIn", "(II)Z"⟩
abbrev cX6_within : ByteArray := prog_8_method_4_code
def yX6_within : MethodName := ⟨RX6, "within", "(III)I"⟩
abbrev cX6_copies : ByteArray := prog_8_method_5_code
def yX6_copies : MethodName := ⟨RX6, "copies", "([I[I)V"⟩
abbrev cX6_isDoor : ByteArray := prog_8_method_6_code
def yX6_isDoor : MethodName := ⟨RX6, "isDoor", "(I)Z"⟩
abbrev cX6_isPerson : ByteArray := prog_8_method_7_code
def yX6_isPerson : MethodName := ⟨RX6, "isPerson", "(I)Z"⟩
abbrev cX6_get : ByteArray := prog_8_method_8_code
def yX6_get : MethodName := ⟨RX6, "get", "(II)I"⟩
abbrev cX6_letter : ByteArray := prog_8_method_9_code
def yX6_letter : MethodName := ⟨RX6, "letter", "(I)I"⟩
abbrev cX6_sign : ByteArray := prog_8_method_10_code
def yX6_sign : MethodName := ⟨RX6, "sign", "()I"⟩
abbrev cX6_takes : ByteArray := prog_8_method_11_code
def yX6_takes : MethodName := ⟨RX6, "takes", "(I)Z"⟩
abbrev cX6_isDigit : ByteArray := prog_8_method_12_code
def yX6_isDigit : MethodName := ⟨RX6, "isDigit", "()Z"⟩
abbrev cX6_readsNumber : ByteArray := prog_8_method_13_code
def yX6_readsNumber : MethodName := ⟨RX6, "readsNumber", "(II)Z"⟩
abbrev cX6_readsRow : ByteArray := prog_8_method_14_code
def yX6_readsRow : MethodName := ⟨RX6, "readsRow", "()Z"⟩
abbrev cX6_kindOf : ByteArray := prog_8_method_15_code
def yX6_kindOf : MethodName := ⟨RX6, "kindOf", "(I)I"⟩
abbrev cX6_readsKind : ByteArray := prog_8_method_16_code
def yX6_readsKind : MethodName := ⟨RX6, "readsKind", "()Z"⟩
abbrev cX6_readsStatement : ByteArray := prog_8_method_17_code
def yX6_readsStatement : MethodName := ⟨RX6, "readsStatement", "()Z"⟩
abbrev cX6_clearsRead : ByteArray := prog_8_method_18_code
def yX6_clearsRead : MethodName := ⟨RX6, "clearsRead", "()V"⟩
abbrev cX6_comesRow : ByteArray := prog_8_method_19_code
def yX6_comesRow : MethodName := ⟨RX6, "comesRow", "(I)Z"⟩
abbrev cX6_comes : ByteArray := prog_8_method_20_code
def yX6_comes : MethodName := ⟨RX6, "comes", "(I)Z"⟩
abbrev cX6_reads : ByteArray := prog_8_method_21_code
def yX6_reads : MethodName := ⟨RX6, "reads", "()I"⟩
abbrev cX6_house : ByteArray := prog_8_method_22_code
def yX6_house : MethodName := ⟨RX6, "house", "()I"⟩
abbrev cX6_goesInto : ByteArray := prog_8_method_23_code
def yX6_goesInto : MethodName := ⟨RX6, "goesInto", "(II)Z"⟩
abbrev cX6_turns : ByteArray := prog_8_method_24_code
def yX6_turns : MethodName := ⟨RX6, "turns", "(II)Z"⟩
abbrev cX6_turned : ByteArray := prog_8_method_25_code
def yX6_turned : MethodName := ⟨RX6, "turned", "(I)I"⟩
abbrev cX6_door : ByteArray := prog_8_method_26_code
def yX6_door : MethodName := ⟨RX6, "door", "(II)I"⟩
abbrev cX6_person : ByteArray := prog_8_method_27_code
def yX6_person : MethodName := ⟨RX6, "person", "(II)I"⟩
abbrev cX6_turnsDoor : ByteArray := prog_8_method_28_code
def yX6_turnsDoor : MethodName := ⟨RX6, "turnsDoor", "(I)V"⟩
abbrev cX6_goes : ByteArray := prog_8_method_29_code
def yX6_goes : MethodName := ⟨RX6, "goes", "(I)I"⟩
abbrev cX6_go : ByteArray := prog_8_method_30_code
def yX6_go : MethodName := ⟨RX6, "go", "(I)I"⟩
abbrev cX6_turn : ByteArray := prog_8_method_31_code
def yX6_turn : MethodName := ⟨RX6, "turn", "(I)I"⟩
abbrev cX6_power : ByteArray := prog_8_method_32_code
def yX6_power : MethodName := ⟨RX6, "power", "(I)I"⟩
abbrev cX6_stateNow : ByteArray := prog_8_method_33_code
def yX6_stateNow : MethodName := ⟨RX6, "stateNow", "()I"⟩
abbrev cX6_state : ByteArray := prog_8_method_34_code
def yX6_state : MethodName := ⟨RX6, "state", "()I"⟩
abbrev cX6_isWished : ByteArray := prog_8_method_35_code
def yX6_isWished : MethodName := ⟨RX6, "isWished", "()Z"⟩
abbrev cX6_wished : ByteArray := prog_8_method_36_code
def yX6_wished : MethodName := ⟨RX6, "wished", "()I"⟩
abbrev cX6_findsWay : ByteArray := prog_8_method_37_code
def yX6_findsWay : MethodName := ⟨RX6, "findsWay", "(IZ)V"⟩
abbrev cX6_way : ByteArray := prog_8_method_38_code
def yX6_way : MethodName := ⟨RX6, "way", "(III)I"⟩
abbrev cX6_keeps : ByteArray := prog_8_method_39_code
def yX6_keeps : MethodName := ⟨RX6, "keeps", "()V"⟩
abbrev cX6_putsBack : ByteArray := prog_8_method_40_code
def yX6_putsBack : MethodName := ⟨RX6, "putsBack", "()V"⟩
abbrev cX6_zeroes : ByteArray := prog_8_method_41_code
def yX6_zeroes : MethodName := ⟨RX6, "zeroes", "()V"⟩
abbrev cX6_timesOf : ByteArray := prog_8_method_42_code
def yX6_timesOf : MethodName := ⟨RX6, "timesOf", "(II)I"⟩
abbrev cX6_goesRow : ByteArray := prog_8_method_43_code
def yX6_goesRow : MethodName := ⟨RX6, "goesRow", "(I)V"⟩
abbrev cX6_rows : ByteArray := prog_8_method_44_code
def yX6_rows : MethodName := ⟨RX6, "rows", "()I"⟩
abbrev cX6_brings : ByteArray := prog_8_method_45_code
def yX6_brings : MethodName := ⟨RX6, "brings", "(I)Z"⟩
abbrev cX6_goingsOf : ByteArray := prog_8_method_46_code
def yX6_goingsOf : MethodName := ⟨RX6, "goingsOf", "(I)I"⟩
abbrev cX6_costOf : ByteArray := prog_8_method_47_code
def yX6_costOf : MethodName := ⟨RX6, "costOf", "(I)I"⟩
abbrev cX6_can : ByteArray := prog_8_method_48_code
def yX6_can : MethodName := ⟨RX6, "can", "()I"⟩
abbrev cX6_isAhead : ByteArray := prog_8_method_49_code
def yX6_isAhead : MethodName := ⟨RX6, "isAhead", "(II)Z"⟩
abbrev cX6_firstRow : ByteArray := prog_8_method_50_code
def yX6_firstRow : MethodName := ⟨RX6, "firstRow", "()I"⟩
abbrev cX6_fewest : ByteArray := prog_8_method_51_code
def yX6_fewest : MethodName := ⟨RX6, "fewest", "()I"⟩
abbrev cX6_cheapest : ByteArray := prog_8_method_52_code
def yX6_cheapest : MethodName := ⟨RX6, "cheapest", "()I"⟩
abbrev cX6_how : ByteArray := prog_8_method_53_code
def yX6_how : MethodName := ⟨RX6, "how", "(I)I"⟩
abbrev cX6_nothingBy : ByteArray := prog_8_method_54_code
def yX6_nothingBy : MethodName := ⟨RX6, "nothingBy", "(I)I"⟩
abbrev cX6_allPeople : ByteArray := prog_8_method_55_code
def yX6_allPeople : MethodName := ⟨RX6, "allPeople", "()I"⟩
abbrev cX6_nothing : ByteArray := prog_8_method_56_code
def yX6_nothing : MethodName := ⟨RX6, "nothing", "()I"⟩
abbrev cX6_bits : ByteArray := prog_8_method_57_code
def yX6_bits : MethodName := ⟨RX6, "bits", "(I)I"⟩
abbrev cX6_states : ByteArray := prog_8_method_58_code
def yX6_states : MethodName := ⟨RX6, "states", "()I"⟩
abbrev cX6_stuck : ByteArray := prog_8_method_59_code
def yX6_stuck : MethodName := ⟨RX6, "stuck", "()I"⟩
abbrev cX6_keySet : ByteArray := prog_8_method_60_code
def yX6_keySet : MethodName := ⟨RX6, "keySet", "()I"⟩
abbrev cX6_keys : ByteArray := prog_8_method_61_code
def yX6_keys : MethodName := ⟨RX6, "keys", "(I)I"⟩
abbrev cX6_findsBeen : ByteArray := prog_8_method_62_code
def yX6_findsBeen : MethodName := ⟨RX6, "findsBeen", "()V"⟩
abbrev cX6_been : ByteArray := prog_8_method_63_code
def yX6_been : MethodName := ⟨RX6, "been", "()I"⟩
abbrev cX6_sure : ByteArray := prog_8_method_64_code
def yX6_sure : MethodName := ⟨RX6, "sure", "()I"⟩
abbrev cX6_divisorsOf : ByteArray := prog_8_method_65_code
def yX6_divisorsOf : MethodName := ⟨RX6, "divisorsOf", "(I)I"⟩
abbrev cX6_forEverOf : ByteArray := prog_8_method_66_code
def yX6_forEverOf : MethodName := ⟨RX6, "forEverOf", "(I)I"⟩
abbrev cX6_forEver : ByteArray := prog_8_method_67_code
def yX6_forEver : MethodName := ⟨RX6, "forEver", "(I)I"⟩
abbrev cX6_nth : ByteArray := prog_8_method_68_code
def yX6_nth : MethodName := ⟨RX6, "nth", "(I)I"⟩
abbrev cX6_open : ByteArray := prog_8_method_69_code
def yX6_open : MethodName := ⟨RX6, "open", "(I)I"⟩
abbrev cX6_logAt : ByteArray := prog_8_method_70_code
def yX6_logAt : MethodName := ⟨RX6, "logAt", "(I)I"⟩
abbrev cX6_unknown : ByteArray := prog_8_method_71_code
def yX6_unknown : MethodName := ⟨RX6, "unknown", "()I"⟩
abbrev cX6_log : ByteArray := prog_8_method_72_code
def yX6_log : MethodName := ⟨RX6, "log", "(I)I"⟩
abbrev cX6_order : ByteArray := prog_8_method_73_code
def yX6_order : MethodName := ⟨RX6, "order", "(I)I"⟩
abbrev cX6_fills : ByteArray := prog_8_method_74_code
def yX6_fills : MethodName := ⟨RX6, "fills", "()I"⟩
abbrev cX6_run : ByteArray := prog_8_method_75_code
def yX6_run : MethodName := ⟨RX6, "run", "(I)I"⟩
abbrev cX6_shuts : ByteArray := prog_8_method_76_code
def yX6_shuts : MethodName := ⟨RX6, "shuts", "(I)Z"⟩
abbrev cX6_judge : ByteArray := prog_8_method_77_code
def yX6_judge : MethodName := ⟨RX6, "judge", "()I"⟩
abbrev cX6_clear : ByteArray := prog_8_method_78_code
def yX6_clear : MethodName := ⟨RX6, "clear", "()I"⟩
abbrev cX6_then : ByteArray := prog_8_method_79_code
def yX6_then : MethodName := ⟨RX6, "then", "(II)I"⟩
abbrev cX6_worthOf : ByteArray := prog_8_method_80_code
def yX6_worthOf : MethodName := ⟨RX6, "worthOf", "(I)I"⟩
abbrev cX6_match : ByteArray := prog_8_method_81_code
def yX6_match : MethodName := ⟨RX6, "match", "()I"⟩
abbrev cX6_seeds : ByteArray := prog_8_method_82_code
def yX6_seeds : MethodName := ⟨RX6, "seeds", "(II)I"⟩
abbrev cX6_image : ByteArray := prog_8_method_83_code
def yX6_image : MethodName := ⟨RX6, "image", "()I"⟩
abbrev cX6_on : ByteArray := prog_8_method_84_code
def yX6_on : MethodName := ⟨RX6, "on", "()I"⟩
abbrev cX6_count : ByteArray := prog_8_method_85_code
def yX6_count : MethodName := ⟨RX6, "count", "(I)I"⟩
def RJ6 : String := "java/lang/Integer"
def TJ6 : u_T := fun k => match k with
  | _ => ("", "", "", false)
def tyJ6 : Nat → FieldType := fun k => match k with
  | _ => .int
abbrev wsJ60 : List Cond := u_ws RJ6 TJ6 0
theorem nmJ6 : ∀ a, a < 0 → ∀ b, b < 0 → a ≠ b → (TJ6 a).2.1 ≠ (TJ6 b).2.1 := by decide +kernel
theorem tyJ6_ok : ∀ k, k < 0 → parseFieldDescriptor (TJ6 k).2.2.1 = some (tyJ6 k) := by decide +kernel
abbrev cJ6_bitCount_0f7a4 : ByteArray := prog_9_method_49_code
def yJ6_bitCount_0f7a4 : MethodName := ⟨RJ6, "bitCount", "(I)I"⟩
def RL : String := "TurnsMultiplesLaw"
abbrev cL_law : ByteArray := code
def yL_law : MethodName := ⟨RL, "law", "([I)Z"⟩
end
section
theorem dX0_init_0 : decode cX0_init 0 = .ok (.aload_n 0, 1) := by decide +kernel
theorem dX0_init_1 : decode cX0_init 1 = .ok (.invokespecial 3, 3) := by decide +kernel
theorem dX0_init_4 : decode cX0_init 4 = .ok (.aload_n 0, 1) := by decide +kernel
theorem dX0_init_5 : decode cX0_init 5 = .ok (.bipush 6, 2) := by decide +kernel
theorem dX0_init_7 : decode cX0_init 7 = .ok (.putfield 9, 3) := by decide +kernel
theorem dX0_init_10 : decode cX0_init 10 = .ok (.aload_n 0, 1) := by decide +kernel
theorem dX0_init_11 : decode cX0_init 11 = .ok (.iconst 2, 1) := by decide +kernel
theorem dX0_init_12 : decode cX0_init 12 = .ok (.putfield 15, 3) := by decide +kernel
theorem dX0_init_15 : decode cX0_init 15 = .ok (.aload_n 0, 1) := by decide +kernel
theorem dX0_init_16 : decode cX0_init 16 = .ok (.bipush 7, 2) := by decide +kernel
theorem dX0_init_18 : decode cX0_init 18 = .ok (.anewarray 18, 3) := by decide +kernel
theorem dX0_init_21 : decode cX0_init 21 = .ok (.putfield 20, 3) := by decide +kernel
theorem dX0_init_24 : decode cX0_init 24 = .ok (.aload_n 0, 1) := by decide +kernel
theorem dX0_init_25 : decode cX0_init 25 = .ok (.bipush 10, 2) := by decide +kernel
theorem dX0_init_27 : decode cX0_init 27 = .ok (.newarray .int, 2) := by decide +kernel
theorem dX0_init_29 : decode cX0_init 29 = .ok (.putfield 24, 3) := by decide +kernel
theorem dX0_init_32 : decode cX0_init 32 = .ok (.return_, 1) := by decide +kernel
theorem dX0_become_0 : decode cX0_become 0 = .ok (.aload_n 0, 1) := by decide +kernel
theorem dX0_become_1 : decode cX0_become 1 = .ok (.aload_n 1, 1) := by decide +kernel
theorem dX0_become_2 : decode cX0_become 2 = .ok (.getfield 9, 3) := by decide +kernel
theorem dX0_become_5 : decode cX0_become 5 = .ok (.putfield 9, 3) := by decide +kernel
theorem dX0_become_8 : decode cX0_become 8 = .ok (.aload_n 0, 1) := by decide +kernel
theorem dX0_become_9 : decode cX0_become 9 = .ok (.aload_n 1, 1) := by decide +kernel
theorem dX0_become_10 : decode cX0_become 10 = .ok (.getfield 15, 3) := by decide +kernel
theorem dX0_become_13 : decode cX0_become 13 = .ok (.putfield 15, 3) := by decide +kernel
theorem dX0_become_16 : decode cX0_become 16 = .ok (.aload_n 0, 1) := by decide +kernel
theorem dX0_become_17 : decode cX0_become 17 = .ok (.aload_n 1, 1) := by decide +kernel
theorem dX0_become_18 : decode cX0_become 18 = .ok (.getfield 28, 3) := by decide +kernel
theorem dX0_become_21 : decode cX0_become 21 = .ok (.putfield 28, 3) := by decide +kernel
theorem dX0_become_24 : decode cX0_become 24 = .ok (.iconst 0, 1) := by decide +kernel
theorem dX0_become_25 : decode cX0_become 25 = .ok (.istore_n 2, 1) := by decide +kernel
theorem dX0_become_26 : decode cX0_become 26 = .ok (.iload_n 2, 1) := by decide +kernel
theorem dX0_become_27 : decode cX0_become 27 = .ok (.aload_n 0, 1) := by decide +kernel
theorem dX0_become_28 : decode cX0_become 28 = .ok (.getfield 20, 3) := by decide +kernel
theorem dX0_become_31 : decode cX0_become 31 = .ok (.arraylength, 1) := by decide +kernel
theorem dX0_become_32 : decode cX0_become 32 = .ok (.if_icmp .ge 30, 3) := by decide +kernel
theorem dX0_become_35 : decode cX0_become 35 = .ok (.iload_n 2, 1) := by decide +kernel
theorem dX0_become_36 : decode cX0_become 36 = .ok (.aload_n 1, 1) := by decide +kernel
theorem dX0_become_37 : decode cX0_become 37 = .ok (.getfield 20, 3) := by decide +kernel
theorem dX0_become_40 : decode cX0_become 40 = .ok (.arraylength, 1) := by decide +kernel
theorem dX0_become_41 : decode cX0_become 41 = .ok (.if_icmp .ge 21, 3) := by decide +kernel
theorem dX0_become_44 : decode cX0_become 44 = .ok (.aload_n 0, 1) := by decide +kernel
theorem dX0_become_45 : decode cX0_become 45 = .ok (.getfield 20, 3) := by decide +kernel
theorem dX0_become_48 : decode cX0_become 48 = .ok (.iload_n 2, 1) := by decide +kernel
theorem dX0_become_49 : decode cX0_become 49 = .ok (.aload_n 1, 1) := by decide +kernel
theorem dX0_become_50 : decode cX0_become 50 = .ok (.getfield 20, 3) := by decide +kernel
theorem dX0_become_53 : decode cX0_become 53 = .ok (.iload_n 2, 1) := by decide +kernel
theorem dX0_become_54 : decode cX0_become 54 = .ok (.aaload, 1) := by decide +kernel
theorem dX0_become_55 : decode cX0_become 55 = .ok (.aastore, 1) := by decide +kernel
theorem dX0_become_56 : decode cX0_become 56 = .ok (.iinc 2 1, 3) := by decide +kernel
theorem dX0_become_59 : decode cX0_become 59 = .ok (.goto (-33), 3) := by decide +kernel
theorem dX0_become_62 : decode cX0_become 62 = .ok (.aload_n 0, 1) := by decide +kernel
theorem dX0_become_63 : decode cX0_become 63 = .ok (.aload_n 1, 1) := by decide +kernel
theorem dX0_become_64 : decode cX0_become 64 = .ok (.getfield 31, 3) := by decide +kernel
theorem dX0_become_67 : decode cX0_become 67 = .ok (.putfield 31, 3) := by decide +kernel
theorem dX0_become_70 : decode cX0_become 70 = .ok (.aload_n 0, 1) := by decide +kernel
theorem dX0_become_71 : decode cX0_become 71 = .ok (.aload_n 1, 1) := by decide +kernel
theorem dX0_become_72 : decode cX0_become 72 = .ok (.getfield 34, 3) := by decide +kernel
theorem dX0_become_75 : decode cX0_become 75 = .ok (.putfield 34, 3) := by decide +kernel
theorem dX0_become_78 : decode cX0_become 78 = .ok (.aload_n 0, 1) := by decide +kernel
theorem dX0_become_79 : decode cX0_become 79 = .ok (.aload_n 1, 1) := by decide +kernel
theorem dX0_become_80 : decode cX0_become 80 = .ok (.getfield 37, 3) := by decide +kernel
theorem dX0_become_83 : decode cX0_become 83 = .ok (.putfield 37, 3) := by decide +kernel
theorem dX0_become_86 : decode cX0_become 86 = .ok (.aload_n 0, 1) := by decide +kernel
theorem dX0_become_87 : decode cX0_become 87 = .ok (.aload_n 1, 1) := by decide +kernel
theorem dX0_become_88 : decode cX0_become 88 = .ok (.getfield 40, 3) := by decide +kernel
theorem dX0_become_91 : decode cX0_become 91 = .ok (.putfield 40, 3) := by decide +kernel
theorem dX0_become_94 : decode cX0_become 94 = .ok (.aload_n 0, 1) := by decide +kernel
theorem dX0_become_95 : decode cX0_become 95 = .ok (.aload_n 1, 1) := by decide +kernel
theorem dX0_become_96 : decode cX0_become 96 = .ok (.getfield 43, 3) := by decide +kernel
theorem dX0_become_99 : decode cX0_become 99 = .ok (.putfield 43, 3) := by decide +kernel
theorem dX0_become_102 : decode cX0_become 102 = .ok (.iconst 0, 1) := by decide +kernel
theorem dX0_become_103 : decode cX0_become 103 = .ok (.istore_n 2, 1) := by decide +kernel
theorem dX0_become_104 : decode cX0_become 104 = .ok (.iload_n 2, 1) := by decide +kernel
theorem dX0_become_105 : decode cX0_become 105 = .ok (.aload_n 0, 1) := by decide +kernel
theorem dX0_become_106 : decode cX0_become 106 = .ok (.getfield 24, 3) := by decide +kernel
theorem dX0_become_109 : decode cX0_become 109 = .ok (.arraylength, 1) := by decide +kernel
theorem dX0_become_110 : decode cX0_become 110 = .ok (.if_icmp .ge 30, 3) := by decide +kernel
theorem dX0_become_113 : decode cX0_become 113 = .ok (.iload_n 2, 1) := by decide +kernel
theorem dX0_become_114 : decode cX0_become 114 = .ok (.aload_n 1, 1) := by decide +kernel
theorem dX0_become_115 : decode cX0_become 115 = .ok (.getfield 24, 3) := by decide +kernel
theorem dX0_become_118 : decode cX0_become 118 = .ok (.arraylength, 1) := by decide +kernel
theorem dX0_become_119 : decode cX0_become 119 = .ok (.if_icmp .ge 21, 3) := by decide +kernel
theorem dX0_become_122 : decode cX0_become 122 = .ok (.aload_n 0, 1) := by decide +kernel
theorem dX0_become_123 : decode cX0_become 123 = .ok (.getfield 24, 3) := by decide +kernel
theorem dX0_become_126 : decode cX0_become 126 = .ok (.iload_n 2, 1) := by decide +kernel
theorem dX0_become_127 : decode cX0_become 127 = .ok (.aload_n 1, 1) := by decide +kernel
theorem dX0_become_128 : decode cX0_become 128 = .ok (.getfield 24, 3) := by decide +kernel
theorem dX0_become_131 : decode cX0_become 131 = .ok (.iload_n 2, 1) := by decide +kernel
theorem dX0_become_132 : decode cX0_become 132 = .ok (.iaload, 1) := by decide +kernel
theorem dX0_become_133 : decode cX0_become 133 = .ok (.iastore, 1) := by decide +kernel
theorem dX0_become_134 : decode cX0_become 134 = .ok (.iinc 2 1, 3) := by decide +kernel
theorem dX0_become_137 : decode cX0_become 137 = .ok (.goto (-33), 3) := by decide +kernel
theorem dX0_become_140 : decode cX0_become 140 = .ok (.aload_n 0, 1) := by decide +kernel
theorem dX0_become_141 : decode cX0_become 141 = .ok (.aload_n 1, 1) := by decide +kernel
theorem dX0_become_142 : decode cX0_become 142 = .ok (.getfield 46, 3) := by decide +kernel
theorem dX0_become_145 : decode cX0_become 145 = .ok (.putfield 46, 3) := by decide +kernel
theorem dX0_become_148 : decode cX0_become 148 = .ok (.return_, 1) := by decide +kernel
theorem dX0_hasDoor_0 : decode cX0_hasDoor 0 = .ok (.iload_n 1, 1) := by decide +kernel
theorem dX0_hasDoor_1 : decode cX0_hasDoor 1 = .ok (.iconst 1, 1) := by decide +kernel
theorem dX0_hasDoor_2 : decode cX0_hasDoor 2 = .ok (.if_icmp .lt 15, 3) := by decide +kernel
theorem dX0_hasDoor_5 : decode cX0_hasDoor 5 = .ok (.iload_n 1, 1) := by decide +kernel
theorem dX0_hasDoor_6 : decode cX0_hasDoor 6 = .ok (.aload_n 0, 1) := by decide +kernel
theorem dX0_hasDoor_7 : decode cX0_hasDoor 7 = .ok (.getfield 9, 3) := by decide +kernel
theorem dX0_hasDoor_10 : decode cX0_hasDoor 10 = .ok (.if_icmp .gt 7, 3) := by decide +kernel
theorem dX0_hasDoor_13 : decode cX0_hasDoor 13 = .ok (.iconst 1, 1) := by decide +kernel
theorem dX0_hasDoor_14 : decode cX0_hasDoor 14 = .ok (.goto 4, 3) := by decide +kernel
theorem dX0_hasDoor_17 : decode cX0_hasDoor 17 = .ok (.iconst 0, 1) := by decide +kernel
theorem dX0_hasDoor_18 : decode cX0_hasDoor 18 = .ok (.ireturn, 1) := by decide +kernel
theorem dX0_isStuck_0 : decode cX0_isStuck 0 = .ok (.aload_n 0, 1) := by decide +kernel
theorem dX0_isStuck_1 : decode cX0_isStuck 1 = .ok (.getfield 31, 3) := by decide +kernel
theorem dX0_isStuck_4 : decode cX0_isStuck 4 = .ok (.iload_n 1, 1) := by decide +kernel
theorem dX0_isStuck_5 : decode cX0_isStuck 5 = .ok (.invokestatic 49, 3) := by decide +kernel
theorem dX0_isStuck_8 : decode cX0_isStuck 8 = .ok (.iand, 1) := by decide +kernel
theorem dX0_isStuck_9 : decode cX0_isStuck 9 = .ok (.ifCond .eq 7, 3) := by decide +kernel
theorem dX0_isStuck_12 : decode cX0_isStuck 12 = .ok (.iconst 1, 1) := by decide +kernel
theorem dX0_isStuck_13 : decode cX0_isStuck 13 = .ok (.goto 4, 3) := by decide +kernel
theorem dX0_isStuck_16 : decode cX0_isStuck 16 = .ok (.iconst 0, 1) := by decide +kernel
theorem dX0_isStuck_17 : decode cX0_isStuck 17 = .ok (.ireturn, 1) := by decide +kernel
theorem dX0_wishFor_0 : decode cX0_wishFor 0 = .ok (.aload_n 0, 1) := by decide +kernel
theorem dX0_wishFor_1 : decode cX0_wishFor 1 = .ok (.getfield 34, 3) := by decide +kernel
theorem dX0_wishFor_4 : decode cX0_wishFor 4 = .ok (.iload_n 1, 1) := by decide +kernel
theorem dX0_wishFor_5 : decode cX0_wishFor 5 = .ok (.invokestatic 49, 3) := by decide +kernel
theorem dX0_wishFor_8 : decode cX0_wishFor 8 = .ok (.iand, 1) := by decide +kernel
theorem dX0_wishFor_9 : decode cX0_wishFor 9 = .ok (.ifCond .ne 8, 3) := by decide +kernel
theorem dX0_wishFor_12 : decode cX0_wishFor 12 = .ok (.bipush 9, 2) := by decide +kernel
theorem dX0_wishFor_14 : decode cX0_wishFor 14 = .ok (.goto 11, 3) := by decide +kernel
theorem dX0_wishFor_17 : decode cX0_wishFor 17 = .ok (.aload_n 0, 1) := by decide +kernel
theorem dX0_wishFor_18 : decode cX0_wishFor 18 = .ok (.getfield 37, 3) := by decide +kernel
theorem dX0_wishFor_21 : decode cX0_wishFor 21 = .ok (.iload_n 1, 1) := by decide +kernel
theorem dX0_wishFor_22 : decode cX0_wishFor 22 = .ok (.invokestatic 53, 3) := by decide +kernel
theorem dX0_wishFor_25 : decode cX0_wishFor 25 = .ok (.ireturn, 1) := by decide +kernel
theorem dX0_isWish_0 : decode cX0_isWish 0 = .ok (.iload_n 1, 1) := by decide +kernel
theorem dX0_isWish_1 : decode cX0_isWish 1 = .ok (.aload_n 0, 1) := by decide +kernel
theorem dX0_isWish_2 : decode cX0_isWish 2 = .ok (.getfield 34, 3) := by decide +kernel
theorem dX0_isWish_5 : decode cX0_isWish 5 = .ok (.iand, 1) := by decide +kernel
theorem dX0_isWish_6 : decode cX0_isWish 6 = .ok (.aload_n 0, 1) := by decide +kernel
theorem dX0_isWish_7 : decode cX0_isWish 7 = .ok (.getfield 37, 3) := by decide +kernel
theorem dX0_isWish_10 : decode cX0_isWish 10 = .ok (.if_icmp .ne 7, 3) := by decide +kernel
theorem dX0_isWish_13 : decode cX0_isWish 13 = .ok (.iconst 1, 1) := by decide +kernel
theorem dX0_isWish_14 : decode cX0_isWish 14 = .ok (.goto 4, 3) := by decide +kernel
theorem dX0_isWish_17 : decode cX0_isWish 17 = .ok (.iconst 0, 1) := by decide +kernel
theorem dX0_isWish_18 : decode cX0_isWish 18 = .ok (.ireturn, 1) := by decide +kernel
theorem dX0_stateOf_0 : decode cX0_stateOf 0 = .ok (.iconst 0, 1) := by decide +kernel
theorem dX0_stateOf_1 : decode cX0_stateOf 1 = .ok (.istore_n 2, 1) := by decide +kernel
theorem dX0_stateOf_2 : decode cX0_stateOf 2 = .ok (.aload_n 0, 1) := by decide +kernel
theorem dX0_stateOf_3 : decode cX0_stateOf 3 = .ok (.getfield 9, 3) := by decide +kernel
theorem dX0_stateOf_6 : decode cX0_stateOf 6 = .ok (.istore_n 3, 1) := by decide +kernel
theorem dX0_stateOf_7 : decode cX0_stateOf 7 = .ok (.iload_n 3, 1) := by decide +kernel
theorem dX0_stateOf_8 : decode cX0_stateOf 8 = .ok (.iconst 1, 1) := by decide +kernel
theorem dX0_stateOf_9 : decode cX0_stateOf 9 = .ok (.if_icmp .lt 22, 3) := by decide +kernel
theorem dX0_stateOf_12 : decode cX0_stateOf 12 = .ok (.iload_n 2, 1) := by decide +kernel
theorem dX0_stateOf_13 : decode cX0_stateOf 13 = .ok (.aload_n 0, 1) := by decide +kernel
theorem dX0_stateOf_14 : decode cX0_stateOf 14 = .ok (.getfield 15, 3) := by decide +kernel
theorem dX0_stateOf_17 : decode cX0_stateOf 17 = .ok (.imul, 1) := by decide +kernel
theorem dX0_stateOf_18 : decode cX0_stateOf 18 = .ok (.iload_n 1, 1) := by decide +kernel
theorem dX0_stateOf_19 : decode cX0_stateOf 19 = .ok (.iload_n 3, 1) := by decide +kernel
theorem dX0_stateOf_20 : decode cX0_stateOf 20 = .ok (.invokestatic 53, 3) := by decide +kernel
theorem dX0_stateOf_23 : decode cX0_stateOf 23 = .ok (.iadd, 1) := by decide +kernel
theorem dX0_stateOf_24 : decode cX0_stateOf 24 = .ok (.istore_n 2, 1) := by decide +kernel
theorem dX0_stateOf_25 : decode cX0_stateOf 25 = .ok (.iinc 3 (-1), 3) := by decide +kernel
theorem dX0_stateOf_28 : decode cX0_stateOf 28 = .ok (.goto (-21), 3) := by decide +kernel
theorem dX0_stateOf_31 : decode cX0_stateOf 31 = .ok (.iload_n 2, 1) := by decide +kernel
theorem dX0_stateOf_32 : decode cX0_stateOf 32 = .ok (.ireturn, 1) := by decide +kernel
theorem dX0_goerOf_0 : decode cX0_goerOf 0 = .ok (.iload_n 1, 1) := by decide +kernel
theorem dX0_goerOf_1 : decode cX0_goerOf 1 = .ok (.ifCond .lt 29, 3) := by decide +kernel
theorem dX0_goerOf_4 : decode cX0_goerOf 4 = .ok (.iload_n 1, 1) := by decide +kernel
theorem dX0_goerOf_5 : decode cX0_goerOf 5 = .ok (.aload_n 0, 1) := by decide +kernel
theorem dX0_goerOf_6 : decode cX0_goerOf 6 = .ok (.getfield 28, 3) := by decide +kernel
theorem dX0_goerOf_9 : decode cX0_goerOf 9 = .ok (.if_icmp .ge 21, 3) := by decide +kernel
theorem dX0_goerOf_12 : decode cX0_goerOf 12 = .ok (.iload_n 1, 1) := by decide +kernel
theorem dX0_goerOf_13 : decode cX0_goerOf 13 = .ok (.aload_n 0, 1) := by decide +kernel
theorem dX0_goerOf_14 : decode cX0_goerOf 14 = .ok (.getfield 20, 3) := by decide +kernel
theorem dX0_goerOf_17 : decode cX0_goerOf 17 = .ok (.arraylength, 1) := by decide +kernel
theorem dX0_goerOf_18 : decode cX0_goerOf 18 = .ok (.if_icmp .ge 12, 3) := by decide +kernel
theorem dX0_goerOf_21 : decode cX0_goerOf 21 = .ok (.aload_n 0, 1) := by decide +kernel
theorem dX0_goerOf_22 : decode cX0_goerOf 22 = .ok (.getfield 20, 3) := by decide +kernel
theorem dX0_goerOf_25 : decode cX0_goerOf 25 = .ok (.iload_n 1, 1) := by decide +kernel
theorem dX0_goerOf_26 : decode cX0_goerOf 26 = .ok (.aaload, 1) := by decide +kernel
theorem dX0_goerOf_27 : decode cX0_goerOf 27 = .ok (.goto 4, 3) := by decide +kernel
theorem dX0_goerOf_30 : decode cX0_goerOf 30 = .ok (.aconst_null, 1) := by decide +kernel
theorem dX0_goerOf_31 : decode cX0_goerOf 31 = .ok (.areturn, 1) := by decide +kernel
theorem dX0_turnsOf_0 : decode cX0_turnsOf 0 = .ok (.aload_n 0, 1) := by decide +kernel
theorem dX0_turnsOf_1 : decode cX0_turnsOf 1 = .ok (.iload_n 1, 1) := by decide +kernel
theorem dX0_turnsOf_2 : decode cX0_turnsOf 2 = .ok (.invokevirtual 57, 3) := by decide +kernel
theorem dX0_turnsOf_5 : decode cX0_turnsOf 5 = .ok (.astore_n 2, 1) := by decide +kernel
theorem dX0_turnsOf_6 : decode cX0_turnsOf 6 = .ok (.iconst 0, 1) := by decide +kernel
theorem dX0_turnsOf_7 : decode cX0_turnsOf 7 = .ok (.istore_n 3, 1) := by decide +kernel
theorem dX0_turnsOf_8 : decode cX0_turnsOf 8 = .ok (.aload_n 2, 1) := by decide +kernel
theorem dX0_turnsOf_9 : decode cX0_turnsOf 9 = .ok (.ifnull 38, 3) := by decide +kernel
theorem dX0_turnsOf_12 : decode cX0_turnsOf 12 = .ok (.iconst 1, 1) := by decide +kernel
theorem dX0_turnsOf_13 : decode cX0_turnsOf 13 = .ok (.istore 4, 2) := by decide +kernel
theorem dX0_turnsOf_15 : decode cX0_turnsOf 15 = .ok (.iload 4, 2) := by decide +kernel
theorem dX0_turnsOf_17 : decode cX0_turnsOf 17 = .ok (.aload_n 0, 1) := by decide +kernel
theorem dX0_turnsOf_18 : decode cX0_turnsOf 18 = .ok (.getfield 9, 3) := by decide +kernel
theorem dX0_turnsOf_21 : decode cX0_turnsOf 21 = .ok (.if_icmp .gt 26, 3) := by decide +kernel
theorem dX0_turnsOf_24 : decode cX0_turnsOf 24 = .ok (.aload_n 2, 1) := by decide +kernel
theorem dX0_turnsOf_25 : decode cX0_turnsOf 25 = .ok (.iload 4, 2) := by decide +kernel
theorem dX0_turnsOf_27 : decode cX0_turnsOf 27 = .ok (.invokevirtual 61, 3) := by decide +kernel
theorem dX0_turnsOf_30 : decode cX0_turnsOf 30 = .ok (.ifCond .eq 11, 3) := by decide +kernel
theorem dX0_turnsOf_33 : decode cX0_turnsOf 33 = .ok (.iload_n 3, 1) := by decide +kernel
theorem dX0_turnsOf_34 : decode cX0_turnsOf 34 = .ok (.iload 4, 2) := by decide +kernel
theorem dX0_turnsOf_36 : decode cX0_turnsOf 36 = .ok (.invokestatic 49, 3) := by decide +kernel
theorem dX0_turnsOf_39 : decode cX0_turnsOf 39 = .ok (.ior, 1) := by decide +kernel
theorem dX0_turnsOf_40 : decode cX0_turnsOf 40 = .ok (.istore_n 3, 1) := by decide +kernel
theorem dX0_turnsOf_41 : decode cX0_turnsOf 41 = .ok (.iinc 4 1, 3) := by decide +kernel
theorem dX0_turnsOf_44 : decode cX0_turnsOf 44 = .ok (.goto (-29), 3) := by decide +kernel
theorem dX0_turnsOf_47 : decode cX0_turnsOf 47 = .ok (.iload_n 3, 1) := by decide +kernel
theorem dX0_turnsOf_48 : decode cX0_turnsOf 48 = .ok (.aload_n 0, 1) := by decide +kernel
theorem dX0_turnsOf_49 : decode cX0_turnsOf 49 = .ok (.getfield 31, 3) := by decide +kernel
theorem dX0_turnsOf_52 : decode cX0_turnsOf 52 = .ok (.iconst (-1), 1) := by decide +kernel
theorem dX0_turnsOf_53 : decode cX0_turnsOf 53 = .ok (.ixor, 1) := by decide +kernel
theorem dX0_turnsOf_54 : decode cX0_turnsOf 54 = .ok (.iand, 1) := by decide +kernel
theorem dX0_turnsOf_55 : decode cX0_turnsOf 55 = .ok (.ireturn, 1) := by decide +kernel
theorem dX0_goAlong_0 : decode cX0_goAlong 0 = .ok (.aload_n 0, 1) := by decide +kernel
theorem dX0_goAlong_1 : decode cX0_goAlong 1 = .ok (.iload_n 1, 1) := by decide +kernel
theorem dX0_goAlong_2 : decode cX0_goAlong 2 = .ok (.invokevirtual 65, 3) := by decide +kernel
theorem dX0_goAlong_5 : decode cX0_goAlong 5 = .ok (.istore_n 2, 1) := by decide +kernel
theorem dX0_goAlong_6 : decode cX0_goAlong 6 = .ok (.aload_n 0, 1) := by decide +kernel
theorem dX0_goAlong_7 : decode cX0_goAlong 7 = .ok (.aload_n 0, 1) := by decide +kernel
theorem dX0_goAlong_8 : decode cX0_goAlong 8 = .ok (.getfield 40, 3) := by decide +kernel
theorem dX0_goAlong_11 : decode cX0_goAlong 11 = .ok (.iload_n 2, 1) := by decide +kernel
theorem dX0_goAlong_12 : decode cX0_goAlong 12 = .ok (.aload_n 0, 1) := by decide +kernel
theorem dX0_goAlong_13 : decode cX0_goAlong 13 = .ok (.getfield 15, 3) := by decide +kernel
theorem dX0_goAlong_16 : decode cX0_goAlong 16 = .ok (.invokestatic 68, 3) := by decide +kernel
theorem dX0_goAlong_19 : decode cX0_goAlong 19 = .ok (.putfield 40, 3) := by decide +kernel
theorem dX0_goAlong_22 : decode cX0_goAlong 22 = .ok (.aload_n 0, 1) := by decide +kernel
theorem dX0_goAlong_23 : decode cX0_goAlong 23 = .ok (.dup, 1) := by decide +kernel
theorem dX0_goAlong_24 : decode cX0_goAlong 24 = .ok (.getfield 43, 3) := by decide +kernel
theorem dX0_goAlong_27 : decode cX0_goAlong 27 = .ok (.iconst 1, 1) := by decide +kernel
theorem dX0_goAlong_28 : decode cX0_goAlong 28 = .ok (.iadd, 1) := by decide +kernel
theorem dX0_goAlong_29 : decode cX0_goAlong 29 = .ok (.putfield 43, 3) := by decide +kernel
theorem dX0_goAlong_32 : decode cX0_goAlong 32 = .ok (.iload_n 2, 1) := by decide +kernel
theorem dX0_goAlong_33 : decode cX0_goAlong 33 = .ok (.invokestatic 72, 3) := by decide +kernel
theorem dX0_goAlong_36 : decode cX0_goAlong 36 = .ok (.ireturn, 1) := by decide +kernel
theorem dX0_note_0 : decode cX0_note 0 = .ok (.aload_n 0, 1) := by decide +kernel
theorem dX0_note_1 : decode cX0_note 1 = .ok (.getfield 46, 3) := by decide +kernel
theorem dX0_note_4 : decode cX0_note 4 = .ok (.ifCond .lt 35, 3) := by decide +kernel
theorem dX0_note_7 : decode cX0_note 7 = .ok (.aload_n 0, 1) := by decide +kernel
theorem dX0_note_8 : decode cX0_note 8 = .ok (.getfield 46, 3) := by decide +kernel
theorem dX0_note_11 : decode cX0_note 11 = .ok (.aload_n 0, 1) := by decide +kernel
theorem dX0_note_12 : decode cX0_note 12 = .ok (.getfield 24, 3) := by decide +kernel
theorem dX0_note_15 : decode cX0_note 15 = .ok (.arraylength, 1) := by decide +kernel
theorem dX0_note_16 : decode cX0_note 16 = .ok (.if_icmp .ge 23, 3) := by decide +kernel
theorem dX0_note_19 : decode cX0_note 19 = .ok (.aload_n 0, 1) := by decide +kernel
theorem dX0_note_20 : decode cX0_note 20 = .ok (.getfield 24, 3) := by decide +kernel
theorem dX0_note_23 : decode cX0_note 23 = .ok (.aload_n 0, 1) := by decide +kernel
theorem dX0_note_24 : decode cX0_note 24 = .ok (.getfield 46, 3) := by decide +kernel
theorem dX0_note_27 : decode cX0_note 27 = .ok (.iload_n 1, 1) := by decide +kernel
theorem dX0_note_28 : decode cX0_note 28 = .ok (.iastore, 1) := by decide +kernel
theorem dX0_note_29 : decode cX0_note 29 = .ok (.aload_n 0, 1) := by decide +kernel
theorem dX0_note_30 : decode cX0_note 30 = .ok (.dup, 1) := by decide +kernel
theorem dX0_note_31 : decode cX0_note 31 = .ok (.getfield 46, 3) := by decide +kernel
theorem dX0_note_34 : decode cX0_note 34 = .ok (.iconst 1, 1) := by decide +kernel
theorem dX0_note_35 : decode cX0_note 35 = .ok (.iadd, 1) := by decide +kernel
theorem dX0_note_36 : decode cX0_note 36 = .ok (.putfield 46, 3) := by decide +kernel
theorem dX0_note_39 : decode cX0_note 39 = .ok (.aload_n 0, 1) := by decide +kernel
theorem dX0_note_40 : decode cX0_note 40 = .ok (.getfield 46, 3) := by decide +kernel
theorem dX0_note_43 : decode cX0_note 43 = .ok (.ireturn, 1) := by decide +kernel
theorem dX0_loggedAt_0 : decode cX0_loggedAt 0 = .ok (.iload_n 1, 1) := by decide +kernel
theorem dX0_loggedAt_1 : decode cX0_loggedAt 1 = .ok (.ifCond .lt 29, 3) := by decide +kernel
theorem dX0_loggedAt_4 : decode cX0_loggedAt 4 = .ok (.iload_n 1, 1) := by decide +kernel
theorem dX0_loggedAt_5 : decode cX0_loggedAt 5 = .ok (.aload_n 0, 1) := by decide +kernel
theorem dX0_loggedAt_6 : decode cX0_loggedAt 6 = .ok (.getfield 46, 3) := by decide +kernel
theorem dX0_loggedAt_9 : decode cX0_loggedAt 9 = .ok (.if_icmp .ge 21, 3) := by decide +kernel
theorem dX0_loggedAt_12 : decode cX0_loggedAt 12 = .ok (.iload_n 1, 1) := by decide +kernel
theorem dX0_loggedAt_13 : decode cX0_loggedAt 13 = .ok (.aload_n 0, 1) := by decide +kernel
theorem dX0_loggedAt_14 : decode cX0_loggedAt 14 = .ok (.getfield 24, 3) := by decide +kernel
theorem dX0_loggedAt_17 : decode cX0_loggedAt 17 = .ok (.arraylength, 1) := by decide +kernel
theorem dX0_loggedAt_18 : decode cX0_loggedAt 18 = .ok (.if_icmp .ge 12, 3) := by decide +kernel
theorem dX0_loggedAt_21 : decode cX0_loggedAt 21 = .ok (.aload_n 0, 1) := by decide +kernel
theorem dX0_loggedAt_22 : decode cX0_loggedAt 22 = .ok (.getfield 24, 3) := by decide +kernel
theorem dX0_loggedAt_25 : decode cX0_loggedAt 25 = .ok (.iload_n 1, 1) := by decide +kernel
theorem dX0_loggedAt_26 : decode cX0_loggedAt 26 = .ok (.iaload, 1) := by decide +kernel
theorem dX0_loggedAt_27 : decode cX0_loggedAt 27 = .ok (.goto 5, 3) := by decide +kernel
theorem dX0_loggedAt_30 : decode cX0_loggedAt 30 = .ok (.bipush 9, 2) := by decide +kernel
theorem dX0_loggedAt_32 : decode cX0_loggedAt 32 = .ok (.ireturn, 1) := by decide +kernel
theorem dX0_unknown_0 : decode cX0_unknown 0 = .ok (.iconst 0, 1) := by decide +kernel
theorem dX0_unknown_1 : decode cX0_unknown 1 = .ok (.istore_n 1, 1) := by decide +kernel
theorem dX0_unknown_2 : decode cX0_unknown 2 = .ok (.iconst 0, 1) := by decide +kernel
theorem dX0_unknown_3 : decode cX0_unknown 3 = .ok (.istore_n 2, 1) := by decide +kernel
theorem dX0_unknown_4 : decode cX0_unknown 4 = .ok (.iload_n 2, 1) := by decide +kernel
theorem dX0_unknown_5 : decode cX0_unknown 5 = .ok (.aload_n 0, 1) := by decide +kernel
theorem dX0_unknown_6 : decode cX0_unknown 6 = .ok (.getfield 46, 3) := by decide +kernel
theorem dX0_unknown_9 : decode cX0_unknown 9 = .ok (.if_icmp .ge 22, 3) := by decide +kernel
theorem dX0_unknown_12 : decode cX0_unknown 12 = .ok (.aload_n 0, 1) := by decide +kernel
theorem dX0_unknown_13 : decode cX0_unknown 13 = .ok (.iload_n 2, 1) := by decide +kernel
theorem dX0_unknown_14 : decode cX0_unknown 14 = .ok (.invokevirtual 77, 3) := by decide +kernel
theorem dX0_unknown_17 : decode cX0_unknown 17 = .ok (.bipush 9, 2) := by decide +kernel
theorem dX0_unknown_19 : decode cX0_unknown 19 = .ok (.if_icmp .ne 6, 3) := by decide +kernel
theorem dX0_unknown_22 : decode cX0_unknown 22 = .ok (.iinc 1 1, 3) := by decide +kernel
theorem dX0_unknown_25 : decode cX0_unknown 25 = .ok (.iinc 2 1, 3) := by decide +kernel
theorem dX0_unknown_28 : decode cX0_unknown 28 = .ok (.goto (-24), 3) := by decide +kernel
theorem dX0_unknown_31 : decode cX0_unknown 31 = .ok (.iload_n 1, 1) := by decide +kernel
theorem dX0_unknown_32 : decode cX0_unknown 32 = .ok (.ireturn, 1) := by decide +kernel
theorem dX0_behindLog_0 : decode cX0_behindLog 0 = .ok (.iload_n 1, 1) := by decide +kernel
theorem dX0_behindLog_1 : decode cX0_behindLog 1 = .ok (.istore_n 2, 1) := by decide +kernel
theorem dX0_behindLog_2 : decode cX0_behindLog 2 = .ok (.iconst 0, 1) := by decide +kernel
theorem dX0_behindLog_3 : decode cX0_behindLog 3 = .ok (.istore_n 3, 1) := by decide +kernel
theorem dX0_behindLog_4 : decode cX0_behindLog 4 = .ok (.iload_n 3, 1) := by decide +kernel
theorem dX0_behindLog_5 : decode cX0_behindLog 5 = .ok (.aload_n 0, 1) := by decide +kernel
theorem dX0_behindLog_6 : decode cX0_behindLog 6 = .ok (.getfield 46, 3) := by decide +kernel
theorem dX0_behindLog_9 : decode cX0_behindLog 9 = .ok (.if_icmp .ge 27, 3) := by decide +kernel
theorem dX0_behindLog_12 : decode cX0_behindLog 12 = .ok (.iload_n 2, 1) := by decide +kernel
theorem dX0_behindLog_13 : decode cX0_behindLog 13 = .ok (.aload_n 0, 1) := by decide +kernel
theorem dX0_behindLog_14 : decode cX0_behindLog 14 = .ok (.aload_n 0, 1) := by decide +kernel
theorem dX0_behindLog_15 : decode cX0_behindLog 15 = .ok (.iload_n 3, 1) := by decide +kernel
theorem dX0_behindLog_16 : decode cX0_behindLog 16 = .ok (.invokevirtual 77, 3) := by decide +kernel
theorem dX0_behindLog_19 : decode cX0_behindLog 19 = .ok (.invokevirtual 65, 3) := by decide +kernel
theorem dX0_behindLog_22 : decode cX0_behindLog 22 = .ok (.aload_n 0, 1) := by decide +kernel
theorem dX0_behindLog_23 : decode cX0_behindLog 23 = .ok (.getfield 15, 3) := by decide +kernel
theorem dX0_behindLog_26 : decode cX0_behindLog 26 = .ok (.invokestatic 68, 3) := by decide +kernel
theorem dX0_behindLog_29 : decode cX0_behindLog 29 = .ok (.istore_n 2, 1) := by decide +kernel
theorem dX0_behindLog_30 : decode cX0_behindLog 30 = .ok (.iinc 3 1, 3) := by decide +kernel
theorem dX0_behindLog_33 : decode cX0_behindLog 33 = .ok (.goto (-29), 3) := by decide +kernel
theorem dX0_behindLog_36 : decode cX0_behindLog 36 = .ok (.iload_n 2, 1) := by decide +kernel
theorem dX0_behindLog_37 : decode cX0_behindLog 37 = .ok (.ireturn, 1) := by decide +kernel
theorem dX0_obeys_0 : decode cX0_obeys 0 = .ok (.aload_n 1, 1) := by decide +kernel
theorem dX0_obeys_1 : decode cX0_obeys 1 = .ok (.getfield 80, 3) := by decide +kernel
theorem dX0_obeys_4 : decode cX0_obeys 4 = .ok (.tableswitch 128 104 119 #[122, 128, 128, 90, 128, 128, 80, 128, 100, 128, 128, 106, 128, 128, 128, 116], 80) := by decide +kernel
theorem dX0_obeys_84 : decode cX0_obeys 84 = .ok (.aload_n 0, 1) := by decide +kernel
theorem dX0_obeys_85 : decode cX0_obeys 85 = .ok (.aload_n 1, 1) := by decide +kernel
theorem dX0_obeys_86 : decode cX0_obeys 86 = .ok (.iconst 0, 1) := by decide +kernel
theorem dX0_obeys_87 : decode cX0_obeys 87 = .ok (.invokevirtual 85, 3) := by decide +kernel
theorem dX0_obeys_90 : decode cX0_obeys 90 = .ok (.invokevirtual 88, 3) := by decide +kernel
theorem dX0_obeys_93 : decode cX0_obeys 93 = .ok (.ireturn, 1) := by decide +kernel
theorem dX0_obeys_94 : decode cX0_obeys 94 = .ok (.aload_n 0, 1) := by decide +kernel
theorem dX0_obeys_95 : decode cX0_obeys 95 = .ok (.aload_n 1, 1) := by decide +kernel
theorem dX0_obeys_96 : decode cX0_obeys 96 = .ok (.iconst 0, 1) := by decide +kernel
theorem dX0_obeys_97 : decode cX0_obeys 97 = .ok (.invokevirtual 85, 3) := by decide +kernel
theorem dX0_obeys_100 : decode cX0_obeys 100 = .ok (.invokevirtual 91, 3) := by decide +kernel
theorem dX0_obeys_103 : decode cX0_obeys 103 = .ok (.ireturn, 1) := by decide +kernel
theorem dX0_obeys_104 : decode cX0_obeys 104 = .ok (.aload_n 0, 1) := by decide +kernel
theorem dX0_obeys_105 : decode cX0_obeys 105 = .ok (.aload_n 1, 1) := by decide +kernel
theorem dX0_obeys_106 : decode cX0_obeys 106 = .ok (.invokevirtual 94, 3) := by decide +kernel
theorem dX0_obeys_109 : decode cX0_obeys 109 = .ok (.ireturn, 1) := by decide +kernel
theorem dX0_obeys_110 : decode cX0_obeys 110 = .ok (.aload_n 0, 1) := by decide +kernel
theorem dX0_obeys_111 : decode cX0_obeys 111 = .ok (.aload_n 1, 1) := by decide +kernel
theorem dX0_obeys_112 : decode cX0_obeys 112 = .ok (.iconst 0, 1) := by decide +kernel
theorem dX0_obeys_113 : decode cX0_obeys 113 = .ok (.invokevirtual 85, 3) := by decide +kernel
theorem dX0_obeys_116 : decode cX0_obeys 116 = .ok (.invokevirtual 98, 3) := by decide +kernel
theorem dX0_obeys_119 : decode cX0_obeys 119 = .ok (.ireturn, 1) := by decide +kernel
theorem dX0_obeys_120 : decode cX0_obeys 120 = .ok (.aload_n 0, 1) := by decide +kernel
theorem dX0_obeys_121 : decode cX0_obeys 121 = .ok (.aload_n 1, 1) := by decide +kernel
theorem dX0_obeys_122 : decode cX0_obeys 122 = .ok (.invokevirtual 101, 3) := by decide +kernel
theorem dX0_obeys_125 : decode cX0_obeys 125 = .ok (.ireturn, 1) := by decide +kernel
theorem dX0_obeys_126 : decode cX0_obeys 126 = .ok (.aload_n 0, 1) := by decide +kernel
theorem dX0_obeys_127 : decode cX0_obeys 127 = .ok (.aload_n 1, 1) := by decide +kernel
theorem dX0_obeys_128 : decode cX0_obeys 128 = .ok (.invokevirtual 104, 3) := by decide +kernel
theorem dX0_obeys_131 : decode cX0_obeys 131 = .ok (.ireturn, 1) := by decide +kernel
theorem dX0_obeys_132 : decode cX0_obeys 132 = .ok (.iconst 0, 1) := by decide +kernel
theorem dX0_obeys_133 : decode cX0_obeys 133 = .ok (.ireturn, 1) := by decide +kernel
theorem dX0_obeysDoors_0 : decode cX0_obeysDoors 0 = .ok (.iload_n 1, 1) := by decide +kernel
theorem dX0_obeysDoors_1 : decode cX0_obeysDoors 1 = .ok (.iconst 1, 1) := by decide +kernel
theorem dX0_obeysDoors_2 : decode cX0_obeysDoors 2 = .ok (.if_icmp .lt 9, 3) := by decide +kernel
theorem dX0_obeysDoors_5 : decode cX0_obeysDoors 5 = .ok (.iload_n 1, 1) := by decide +kernel
theorem dX0_obeysDoors_6 : decode cX0_obeysDoors 6 = .ok (.bipush 12, 2) := by decide +kernel
theorem dX0_obeysDoors_8 : decode cX0_obeysDoors 8 = .ok (.if_icmp .le 5, 3) := by decide +kernel
theorem dX0_obeysDoors_11 : decode cX0_obeysDoors 11 = .ok (.iconst 0, 1) := by decide +kernel
theorem dX0_obeysDoors_12 : decode cX0_obeysDoors 12 = .ok (.ireturn, 1) := by decide +kernel
theorem dX0_obeysDoors_13 : decode cX0_obeysDoors 13 = .ok (.aload_n 0, 1) := by decide +kernel
theorem dX0_obeysDoors_14 : decode cX0_obeysDoors 14 = .ok (.iload_n 1, 1) := by decide +kernel
theorem dX0_obeysDoors_15 : decode cX0_obeysDoors 15 = .ok (.putfield 9, 3) := by decide +kernel
theorem dX0_obeysDoors_18 : decode cX0_obeysDoors 18 = .ok (.aload_n 0, 1) := by decide +kernel
theorem dX0_obeysDoors_19 : decode cX0_obeysDoors 19 = .ok (.invokevirtual 107, 3) := by decide +kernel
theorem dX0_obeysDoors_22 : decode cX0_obeysDoors 22 = .ok (.iconst 1, 1) := by decide +kernel
theorem dX0_obeysDoors_23 : decode cX0_obeysDoors 23 = .ok (.ireturn, 1) := by decide +kernel
theorem dX0_obeysColours_0 : decode cX0_obeysColours 0 = .ok (.iload_n 1, 1) := by decide +kernel
theorem dX0_obeysColours_1 : decode cX0_obeysColours 1 = .ok (.iconst 2, 1) := by decide +kernel
theorem dX0_obeysColours_2 : decode cX0_obeysColours 2 = .ok (.if_icmp .lt 8, 3) := by decide +kernel
theorem dX0_obeysColours_5 : decode cX0_obeysColours 5 = .ok (.iload_n 1, 1) := by decide +kernel
theorem dX0_obeysColours_6 : decode cX0_obeysColours 6 = .ok (.iconst 3, 1) := by decide +kernel
theorem dX0_obeysColours_7 : decode cX0_obeysColours 7 = .ok (.if_icmp .le 5, 3) := by decide +kernel
theorem dX0_obeysColours_10 : decode cX0_obeysColours 10 = .ok (.iconst 0, 1) := by decide +kernel
theorem dX0_obeysColours_11 : decode cX0_obeysColours 11 = .ok (.ireturn, 1) := by decide +kernel
theorem dX0_obeysColours_12 : decode cX0_obeysColours 12 = .ok (.aload_n 0, 1) := by decide +kernel
theorem dX0_obeysColours_13 : decode cX0_obeysColours 13 = .ok (.iload_n 1, 1) := by decide +kernel
theorem dX0_obeysColours_14 : decode cX0_obeysColours 14 = .ok (.putfield 15, 3) := by decide +kernel
theorem dX0_obeysColours_17 : decode cX0_obeysColours 17 = .ok (.aload_n 0, 1) := by decide +kernel
theorem dX0_obeysColours_18 : decode cX0_obeysColours 18 = .ok (.invokevirtual 107, 3) := by decide +kernel
theorem dX0_obeysColours_21 : decode cX0_obeysColours 21 = .ok (.iconst 1, 1) := by decide +kernel
theorem dX0_obeysColours_22 : decode cX0_obeysColours 22 = .ok (.ireturn, 1) := by decide +kernel
theorem dX0_empty_0 : decode cX0_empty 0 = .ok (.aload_n 0, 1) := by decide +kernel
theorem dX0_empty_1 : decode cX0_empty 1 = .ok (.iconst 0, 1) := by decide +kernel
theorem dX0_empty_2 : decode cX0_empty 2 = .ok (.putfield 40, 3) := by decide +kernel
theorem dX0_empty_5 : decode cX0_empty 5 = .ok (.aload_n 0, 1) := by decide +kernel
theorem dX0_empty_6 : decode cX0_empty 6 = .ok (.iconst 0, 1) := by decide +kernel
theorem dX0_empty_7 : decode cX0_empty 7 = .ok (.putfield 31, 3) := by decide +kernel
theorem dX0_empty_10 : decode cX0_empty 10 = .ok (.aload_n 0, 1) := by decide +kernel
theorem dX0_empty_11 : decode cX0_empty 11 = .ok (.iconst 0, 1) := by decide +kernel
theorem dX0_empty_12 : decode cX0_empty 12 = .ok (.putfield 34, 3) := by decide +kernel
theorem dX0_empty_15 : decode cX0_empty 15 = .ok (.aload_n 0, 1) := by decide +kernel
theorem dX0_empty_16 : decode cX0_empty 16 = .ok (.iconst 0, 1) := by decide +kernel
theorem dX0_empty_17 : decode cX0_empty 17 = .ok (.putfield 37, 3) := by decide +kernel
theorem dX0_empty_20 : decode cX0_empty 20 = .ok (.return_, 1) := by decide +kernel
theorem dX0_obeysPerson_0 : decode cX0_obeysPerson 0 = .ok (.aload_n 1, 1) := by decide +kernel
theorem dX0_obeysPerson_1 : decode cX0_obeysPerson 1 = .ok (.iconst 0, 1) := by decide +kernel
theorem dX0_obeysPerson_2 : decode cX0_obeysPerson 2 = .ok (.invokevirtual 85, 3) := by decide +kernel
theorem dX0_obeysPerson_5 : decode cX0_obeysPerson 5 = .ok (.istore_n 2, 1) := by decide +kernel
theorem dX0_obeysPerson_6 : decode cX0_obeysPerson 6 = .ok (.aload_n 1, 1) := by decide +kernel
theorem dX0_obeysPerson_7 : decode cX0_obeysPerson 7 = .ok (.iconst 1, 1) := by decide +kernel
theorem dX0_obeysPerson_8 : decode cX0_obeysPerson 8 = .ok (.invokevirtual 85, 3) := by decide +kernel
theorem dX0_obeysPerson_11 : decode cX0_obeysPerson 11 = .ok (.istore_n 3, 1) := by decide +kernel
theorem dX0_obeysPerson_12 : decode cX0_obeysPerson 12 = .ok (.iload_n 2, 1) := by decide +kernel
theorem dX0_obeysPerson_13 : decode cX0_obeysPerson 13 = .ok (.invokestatic 110, 3) := by decide +kernel
theorem dX0_obeysPerson_16 : decode cX0_obeysPerson 16 = .ok (.ifCond .eq 10, 3) := by decide +kernel
theorem dX0_obeysPerson_19 : decode cX0_obeysPerson 19 = .ok (.iload_n 3, 1) := by decide +kernel
theorem dX0_obeysPerson_20 : decode cX0_obeysPerson 20 = .ok (.invokestatic 110, 3) := by decide +kernel
theorem dX0_obeysPerson_23 : decode cX0_obeysPerson 23 = .ok (.ifCond .ne 5, 3) := by decide +kernel
theorem dX0_obeysPerson_26 : decode cX0_obeysPerson 26 = .ok (.iconst 0, 1) := by decide +kernel
theorem dX0_obeysPerson_27 : decode cX0_obeysPerson 27 = .ok (.ireturn, 1) := by decide +kernel
theorem dX0_obeysPerson_28 : decode cX0_obeysPerson 28 = .ok (.aload_n 0, 1) := by decide +kernel
theorem dX0_obeysPerson_29 : decode cX0_obeysPerson 29 = .ok (.getfield 28, 3) := by decide +kernel
theorem dX0_obeysPerson_32 : decode cX0_obeysPerson 32 = .ok (.ifCond .lt 15, 3) := by decide +kernel
theorem dX0_obeysPerson_35 : decode cX0_obeysPerson 35 = .ok (.aload_n 0, 1) := by decide +kernel
theorem dX0_obeysPerson_36 : decode cX0_obeysPerson 36 = .ok (.getfield 28, 3) := by decide +kernel
theorem dX0_obeysPerson_39 : decode cX0_obeysPerson 39 = .ok (.aload_n 0, 1) := by decide +kernel
theorem dX0_obeysPerson_40 : decode cX0_obeysPerson 40 = .ok (.getfield 20, 3) := by decide +kernel
theorem dX0_obeysPerson_43 : decode cX0_obeysPerson 43 = .ok (.arraylength, 1) := by decide +kernel
theorem dX0_obeysPerson_44 : decode cX0_obeysPerson 44 = .ok (.if_icmp .lt 5, 3) := by decide +kernel
theorem dX0_obeysPerson_47 : decode cX0_obeysPerson 47 = .ok (.iconst 0, 1) := by decide +kernel
theorem dX0_obeysPerson_48 : decode cX0_obeysPerson 48 = .ok (.ireturn, 1) := by decide +kernel
theorem dX0_obeysPerson_49 : decode cX0_obeysPerson 49 = .ok (.aload_n 0, 1) := by decide +kernel
theorem dX0_obeysPerson_50 : decode cX0_obeysPerson 50 = .ok (.getfield 20, 3) := by decide +kernel
theorem dX0_obeysPerson_53 : decode cX0_obeysPerson 53 = .ok (.aload_n 0, 1) := by decide +kernel
theorem dX0_obeysPerson_54 : decode cX0_obeysPerson 54 = .ok (.getfield 28, 3) := by decide +kernel
theorem dX0_obeysPerson_57 : decode cX0_obeysPerson 57 = .ok (.new 18, 3) := by decide +kernel
theorem dX0_obeysPerson_60 : decode cX0_obeysPerson 60 = .ok (.dup, 1) := by decide +kernel
theorem dX0_obeysPerson_61 : decode cX0_obeysPerson 61 = .ok (.aload_n 1, 1) := by decide +kernel
theorem dX0_obeysPerson_62 : decode cX0_obeysPerson 62 = .ok (.getfield 113, 3) := by decide +kernel
theorem dX0_obeysPerson_65 : decode cX0_obeysPerson 65 = .ok (.iload_n 2, 1) := by decide +kernel
theorem dX0_obeysPerson_66 : decode cX0_obeysPerson 66 = .ok (.iload_n 3, 1) := by decide +kernel
theorem dX0_obeysPerson_67 : decode cX0_obeysPerson 67 = .ok (.aload_n 1, 1) := by decide +kernel
theorem dX0_obeysPerson_68 : decode cX0_obeysPerson 68 = .ok (.iconst 2, 1) := by decide +kernel
theorem dX0_obeysPerson_69 : decode cX0_obeysPerson 69 = .ok (.invokevirtual 85, 3) := by decide +kernel
theorem dX0_obeysPerson_72 : decode cX0_obeysPerson 72 = .ok (.invokespecial 116, 3) := by decide +kernel
theorem dX0_obeysPerson_75 : decode cX0_obeysPerson 75 = .ok (.aastore, 1) := by decide +kernel
theorem dX0_obeysPerson_76 : decode cX0_obeysPerson 76 = .ok (.aload_n 0, 1) := by decide +kernel
theorem dX0_obeysPerson_77 : decode cX0_obeysPerson 77 = .ok (.dup, 1) := by decide +kernel
theorem dX0_obeysPerson_78 : decode cX0_obeysPerson 78 = .ok (.getfield 28, 3) := by decide +kernel
theorem dX0_obeysPerson_81 : decode cX0_obeysPerson 81 = .ok (.iconst 1, 1) := by decide +kernel
theorem dX0_obeysPerson_82 : decode cX0_obeysPerson 82 = .ok (.iadd, 1) := by decide +kernel
theorem dX0_obeysPerson_83 : decode cX0_obeysPerson 83 = .ok (.putfield 28, 3) := by decide +kernel
theorem dX0_obeysPerson_86 : decode cX0_obeysPerson 86 = .ok (.iconst 1, 1) := by decide +kernel
theorem dX0_obeysPerson_87 : decode cX0_obeysPerson 87 = .ok (.ireturn, 1) := by decide +kernel
theorem dX0_isGoerNumber_0 : decode cX0_isGoerNumber 0 = .ok (.iload_n 0, 1) := by decide +kernel
theorem dX0_isGoerNumber_1 : decode cX0_isGoerNumber 1 = .ok (.iconst 1, 1) := by decide +kernel
theorem dX0_isGoerNumber_2 : decode cX0_isGoerNumber 2 = .ok (.if_icmp .lt 13, 3) := by decide +kernel
theorem dX0_isGoerNumber_5 : decode cX0_isGoerNumber 5 = .ok (.iload_n 0, 1) := by decide +kernel
theorem dX0_isGoerNumber_6 : decode cX0_isGoerNumber 6 = .ok (.bipush 12, 2) := by decide +kernel
theorem dX0_isGoerNumber_8 : decode cX0_isGoerNumber 8 = .ok (.if_icmp .gt 7, 3) := by decide +kernel
theorem dX0_isGoerNumber_11 : decode cX0_isGoerNumber 11 = .ok (.iconst 1, 1) := by decide +kernel
theorem dX0_isGoerNumber_12 : decode cX0_isGoerNumber 12 = .ok (.goto 4, 3) := by decide +kernel
theorem dX0_isGoerNumber_15 : decode cX0_isGoerNumber 15 = .ok (.iconst 0, 1) := by decide +kernel
theorem dX0_isGoerNumber_16 : decode cX0_isGoerNumber 16 = .ok (.ireturn, 1) := by decide +kernel
theorem dX0_obeysStuck_0 : decode cX0_obeysStuck 0 = .ok (.aload_n 0, 1) := by decide +kernel
theorem dX0_obeysStuck_1 : decode cX0_obeysStuck 1 = .ok (.iload_n 1, 1) := by decide +kernel
theorem dX0_obeysStuck_2 : decode cX0_obeysStuck 2 = .ok (.invokevirtual 119, 3) := by decide +kernel
theorem dX0_obeysStuck_5 : decode cX0_obeysStuck 5 = .ok (.ifCond .ne 5, 3) := by decide +kernel
theorem dX0_obeysStuck_8 : decode cX0_obeysStuck 8 = .ok (.iconst 0, 1) := by decide +kernel
theorem dX0_obeysStuck_9 : decode cX0_obeysStuck 9 = .ok (.ireturn, 1) := by decide +kernel
theorem dX0_obeysStuck_10 : decode cX0_obeysStuck 10 = .ok (.aload_n 0, 1) := by decide +kernel
theorem dX0_obeysStuck_11 : decode cX0_obeysStuck 11 = .ok (.dup, 1) := by decide +kernel
theorem dX0_obeysStuck_12 : decode cX0_obeysStuck 12 = .ok (.getfield 31, 3) := by decide +kernel
theorem dX0_obeysStuck_15 : decode cX0_obeysStuck 15 = .ok (.iload_n 1, 1) := by decide +kernel
theorem dX0_obeysStuck_16 : decode cX0_obeysStuck 16 = .ok (.invokestatic 49, 3) := by decide +kernel
theorem dX0_obeysStuck_19 : decode cX0_obeysStuck 19 = .ok (.ixor, 1) := by decide +kernel
theorem dX0_obeysStuck_20 : decode cX0_obeysStuck 20 = .ok (.putfield 31, 3) := by decide +kernel
theorem dX0_obeysStuck_23 : decode cX0_obeysStuck 23 = .ok (.iconst 1, 1) := by decide +kernel
theorem dX0_obeysStuck_24 : decode cX0_obeysStuck 24 = .ok (.ireturn, 1) := by decide +kernel
theorem dX0_obeysWish_0 : decode cX0_obeysWish 0 = .ok (.aload_n 1, 1) := by decide +kernel
theorem dX0_obeysWish_1 : decode cX0_obeysWish 1 = .ok (.getfield 122, 3) := by decide +kernel
theorem dX0_obeysWish_4 : decode cX0_obeysWish 4 = .ok (.aload_n 0, 1) := by decide +kernel
theorem dX0_obeysWish_5 : decode cX0_obeysWish 5 = .ok (.getfield 9, 3) := by decide +kernel
theorem dX0_obeysWish_8 : decode cX0_obeysWish 8 = .ok (.if_icmp .eq 5, 3) := by decide +kernel
theorem dX0_obeysWish_11 : decode cX0_obeysWish 11 = .ok (.iconst 0, 1) := by decide +kernel
theorem dX0_obeysWish_12 : decode cX0_obeysWish 12 = .ok (.ireturn, 1) := by decide +kernel
theorem dX0_obeysWish_13 : decode cX0_obeysWish 13 = .ok (.iconst 0, 1) := by decide +kernel
theorem dX0_obeysWish_14 : decode cX0_obeysWish 14 = .ok (.istore_n 2, 1) := by decide +kernel
theorem dX0_obeysWish_15 : decode cX0_obeysWish 15 = .ok (.iconst 0, 1) := by decide +kernel
theorem dX0_obeysWish_16 : decode cX0_obeysWish 16 = .ok (.istore_n 3, 1) := by decide +kernel
theorem dX0_obeysWish_17 : decode cX0_obeysWish 17 = .ok (.iconst 1, 1) := by decide +kernel
theorem dX0_obeysWish_18 : decode cX0_obeysWish 18 = .ok (.istore 4, 2) := by decide +kernel
theorem dX0_obeysWish_20 : decode cX0_obeysWish 20 = .ok (.iload 4, 2) := by decide +kernel
theorem dX0_obeysWish_22 : decode cX0_obeysWish 22 = .ok (.aload_n 0, 1) := by decide +kernel
theorem dX0_obeysWish_23 : decode cX0_obeysWish 23 = .ok (.getfield 9, 3) := by decide +kernel
theorem dX0_obeysWish_26 : decode cX0_obeysWish 26 = .ok (.if_icmp .gt 63, 3) := by decide +kernel
theorem dX0_obeysWish_29 : decode cX0_obeysWish 29 = .ok (.aload_n 1, 1) := by decide +kernel
theorem dX0_obeysWish_30 : decode cX0_obeysWish 30 = .ok (.iload 4, 2) := by decide +kernel
theorem dX0_obeysWish_32 : decode cX0_obeysWish 32 = .ok (.iconst 1, 1) := by decide +kernel
theorem dX0_obeysWish_33 : decode cX0_obeysWish 33 = .ok (.isub, 1) := by decide +kernel
theorem dX0_obeysWish_34 : decode cX0_obeysWish 34 = .ok (.invokevirtual 125, 3) := by decide +kernel
theorem dX0_obeysWish_37 : decode cX0_obeysWish 37 = .ok (.istore 5, 2) := by decide +kernel
theorem dX0_obeysWish_39 : decode cX0_obeysWish 39 = .ok (.iload 5, 2) := by decide +kernel
theorem dX0_obeysWish_41 : decode cX0_obeysWish 41 = .ok (.bipush 9, 2) := by decide +kernel
theorem dX0_obeysWish_43 : decode cX0_obeysWish 43 = .ok (.if_icmp .eq 40, 3) := by decide +kernel
theorem dX0_obeysWish_46 : decode cX0_obeysWish 46 = .ok (.iload 5, 2) := by decide +kernel
theorem dX0_obeysWish_48 : decode cX0_obeysWish 48 = .ok (.aload_n 0, 1) := by decide +kernel
theorem dX0_obeysWish_49 : decode cX0_obeysWish 49 = .ok (.getfield 15, 3) := by decide +kernel
theorem dX0_obeysWish_52 : decode cX0_obeysWish 52 = .ok (.if_icmp .lt 5, 3) := by decide +kernel
theorem dX0_obeysWish_55 : decode cX0_obeysWish 55 = .ok (.iconst 0, 1) := by decide +kernel
theorem dX0_obeysWish_56 : decode cX0_obeysWish 56 = .ok (.ireturn, 1) := by decide +kernel
theorem dX0_obeysWish_57 : decode cX0_obeysWish 57 = .ok (.iload_n 2, 1) := by decide +kernel
theorem dX0_obeysWish_58 : decode cX0_obeysWish 58 = .ok (.iload 4, 2) := by decide +kernel
theorem dX0_obeysWish_60 : decode cX0_obeysWish 60 = .ok (.iconst 1, 1) := by decide +kernel
theorem dX0_obeysWish_61 : decode cX0_obeysWish 61 = .ok (.invokestatic 128, 3) := by decide +kernel
theorem dX0_obeysWish_64 : decode cX0_obeysWish 64 = .ok (.iload 4, 2) := by decide +kernel
theorem dX0_obeysWish_66 : decode cX0_obeysWish 66 = .ok (.iconst 2, 1) := by decide +kernel
theorem dX0_obeysWish_67 : decode cX0_obeysWish 67 = .ok (.invokestatic 128, 3) := by decide +kernel
theorem dX0_obeysWish_70 : decode cX0_obeysWish 70 = .ok (.ior, 1) := by decide +kernel
theorem dX0_obeysWish_71 : decode cX0_obeysWish 71 = .ok (.ior, 1) := by decide +kernel
theorem dX0_obeysWish_72 : decode cX0_obeysWish 72 = .ok (.istore_n 2, 1) := by decide +kernel
theorem dX0_obeysWish_73 : decode cX0_obeysWish 73 = .ok (.iload_n 3, 1) := by decide +kernel
theorem dX0_obeysWish_74 : decode cX0_obeysWish 74 = .ok (.iload 4, 2) := by decide +kernel
theorem dX0_obeysWish_76 : decode cX0_obeysWish 76 = .ok (.iload 5, 2) := by decide +kernel
theorem dX0_obeysWish_78 : decode cX0_obeysWish 78 = .ok (.invokestatic 128, 3) := by decide +kernel
theorem dX0_obeysWish_81 : decode cX0_obeysWish 81 = .ok (.ior, 1) := by decide +kernel
theorem dX0_obeysWish_82 : decode cX0_obeysWish 82 = .ok (.istore_n 3, 1) := by decide +kernel
theorem dX0_obeysWish_83 : decode cX0_obeysWish 83 = .ok (.iinc 4 1, 3) := by decide +kernel
theorem dX0_obeysWish_86 : decode cX0_obeysWish 86 = .ok (.goto (-66), 3) := by decide +kernel
theorem dX0_obeysWish_89 : decode cX0_obeysWish 89 = .ok (.aload_n 0, 1) := by decide +kernel
theorem dX0_obeysWish_90 : decode cX0_obeysWish 90 = .ok (.iload_n 2, 1) := by decide +kernel
theorem dX0_obeysWish_91 : decode cX0_obeysWish 91 = .ok (.putfield 34, 3) := by decide +kernel
theorem dX0_obeysWish_94 : decode cX0_obeysWish 94 = .ok (.aload_n 0, 1) := by decide +kernel
theorem dX0_obeysWish_95 : decode cX0_obeysWish 95 = .ok (.iload_n 3, 1) := by decide +kernel
theorem dX0_obeysWish_96 : decode cX0_obeysWish 96 = .ok (.putfield 37, 3) := by decide +kernel
theorem dX0_obeysWish_99 : decode cX0_obeysWish 99 = .ok (.iconst 1, 1) := by decide +kernel
theorem dX0_obeysWish_100 : decode cX0_obeysWish 100 = .ok (.ireturn, 1) := by decide +kernel
theorem dX0_obeysStand_0 : decode cX0_obeysStand 0 = .ok (.aload_n 1, 1) := by decide +kernel
theorem dX0_obeysStand_1 : decode cX0_obeysStand 1 = .ok (.getfield 122, 3) := by decide +kernel
theorem dX0_obeysStand_4 : decode cX0_obeysStand 4 = .ok (.aload_n 0, 1) := by decide +kernel
theorem dX0_obeysStand_5 : decode cX0_obeysStand 5 = .ok (.getfield 9, 3) := by decide +kernel
theorem dX0_obeysStand_8 : decode cX0_obeysStand 8 = .ok (.if_icmp .eq 5, 3) := by decide +kernel
theorem dX0_obeysStand_11 : decode cX0_obeysStand 11 = .ok (.iconst 0, 1) := by decide +kernel
theorem dX0_obeysStand_12 : decode cX0_obeysStand 12 = .ok (.ireturn, 1) := by decide +kernel
theorem dX0_obeysStand_13 : decode cX0_obeysStand 13 = .ok (.iconst 0, 1) := by decide +kernel
theorem dX0_obeysStand_14 : decode cX0_obeysStand 14 = .ok (.istore_n 2, 1) := by decide +kernel
theorem dX0_obeysStand_15 : decode cX0_obeysStand 15 = .ok (.iconst 1, 1) := by decide +kernel
theorem dX0_obeysStand_16 : decode cX0_obeysStand 16 = .ok (.istore_n 3, 1) := by decide +kernel
theorem dX0_obeysStand_17 : decode cX0_obeysStand 17 = .ok (.iload_n 3, 1) := by decide +kernel
theorem dX0_obeysStand_18 : decode cX0_obeysStand 18 = .ok (.aload_n 0, 1) := by decide +kernel
theorem dX0_obeysStand_19 : decode cX0_obeysStand 19 = .ok (.getfield 9, 3) := by decide +kernel
theorem dX0_obeysStand_22 : decode cX0_obeysStand 22 = .ok (.if_icmp .gt 38, 3) := by decide +kernel
theorem dX0_obeysStand_25 : decode cX0_obeysStand 25 = .ok (.aload_n 1, 1) := by decide +kernel
theorem dX0_obeysStand_26 : decode cX0_obeysStand 26 = .ok (.iload_n 3, 1) := by decide +kernel
theorem dX0_obeysStand_27 : decode cX0_obeysStand 27 = .ok (.iconst 1, 1) := by decide +kernel
theorem dX0_obeysStand_28 : decode cX0_obeysStand 28 = .ok (.isub, 1) := by decide +kernel
theorem dX0_obeysStand_29 : decode cX0_obeysStand 29 = .ok (.invokevirtual 125, 3) := by decide +kernel
theorem dX0_obeysStand_32 : decode cX0_obeysStand 32 = .ok (.istore 4, 2) := by decide +kernel
theorem dX0_obeysStand_34 : decode cX0_obeysStand 34 = .ok (.iload 4, 2) := by decide +kernel
theorem dX0_obeysStand_36 : decode cX0_obeysStand 36 = .ok (.aload_n 0, 1) := by decide +kernel
theorem dX0_obeysStand_37 : decode cX0_obeysStand 37 = .ok (.getfield 15, 3) := by decide +kernel
theorem dX0_obeysStand_40 : decode cX0_obeysStand 40 = .ok (.if_icmp .lt 5, 3) := by decide +kernel
theorem dX0_obeysStand_43 : decode cX0_obeysStand 43 = .ok (.iconst 0, 1) := by decide +kernel
theorem dX0_obeysStand_44 : decode cX0_obeysStand 44 = .ok (.ireturn, 1) := by decide +kernel
theorem dX0_obeysStand_45 : decode cX0_obeysStand 45 = .ok (.iload_n 2, 1) := by decide +kernel
theorem dX0_obeysStand_46 : decode cX0_obeysStand 46 = .ok (.iload_n 3, 1) := by decide +kernel
theorem dX0_obeysStand_47 : decode cX0_obeysStand 47 = .ok (.iload 4, 2) := by decide +kernel
theorem dX0_obeysStand_49 : decode cX0_obeysStand 49 = .ok (.invokestatic 128, 3) := by decide +kernel
theorem dX0_obeysStand_52 : decode cX0_obeysStand 52 = .ok (.ior, 1) := by decide +kernel
theorem dX0_obeysStand_53 : decode cX0_obeysStand 53 = .ok (.istore_n 2, 1) := by decide +kernel
theorem dX0_obeysStand_54 : decode cX0_obeysStand 54 = .ok (.iinc 3 1, 3) := by decide +kernel
theorem dX0_obeysStand_57 : decode cX0_obeysStand 57 = .ok (.goto (-40), 3) := by decide +kernel
theorem dX0_obeysStand_60 : decode cX0_obeysStand 60 = .ok (.aload_n 0, 1) := by decide +kernel
theorem dX0_obeysStand_61 : decode cX0_obeysStand 61 = .ok (.iload_n 2, 1) := by decide +kernel
theorem dX0_obeysStand_62 : decode cX0_obeysStand 62 = .ok (.putfield 40, 3) := by decide +kernel
theorem dX0_obeysStand_65 : decode cX0_obeysStand 65 = .ok (.iconst 1, 1) := by decide +kernel
theorem dX0_obeysStand_66 : decode cX0_obeysStand 66 = .ok (.ireturn, 1) := by decide +kernel
theorem dX1_init_0 : decode cX1_init 0 = .ok (.aload_n 0, 1) := by decide +kernel
theorem dX1_init_1 : decode cX1_init 1 = .ok (.invokespecial 3, 3) := by decide +kernel
theorem dX1_init_4 : decode cX1_init 4 = .ok (.aload_n 0, 1) := by decide +kernel
theorem dX1_init_5 : decode cX1_init 5 = .ok (.sipush 2187, 3) := by decide +kernel
theorem dX1_init_8 : decode cX1_init 8 = .ok (.newarray .int, 2) := by decide +kernel
theorem dX1_init_10 : decode cX1_init 10 = .ok (.putfield 9, 3) := by decide +kernel
theorem dX1_init_13 : decode cX1_init 13 = .ok (.aload_n 0, 1) := by decide +kernel
theorem dX1_init_14 : decode cX1_init 14 = .ok (.sipush 2187, 3) := by decide +kernel
theorem dX1_init_17 : decode cX1_init 17 = .ok (.newarray .int, 2) := by decide +kernel
theorem dX1_init_19 : decode cX1_init 19 = .ok (.putfield 15, 3) := by decide +kernel
theorem dX1_init_22 : decode cX1_init 22 = .ok (.aload_n 0, 1) := by decide +kernel
theorem dX1_init_23 : decode cX1_init 23 = .ok (.sipush 2187, 3) := by decide +kernel
theorem dX1_init_26 : decode cX1_init 26 = .ok (.newarray .int, 2) := by decide +kernel
theorem dX1_init_28 : decode cX1_init 28 = .ok (.putfield 18, 3) := by decide +kernel
theorem dX1_init_31 : decode cX1_init 31 = .ok (.return_, 1) := by decide +kernel
theorem dX1_judged_0 : decode cX1_judged 0 = .ok (.aload_n 0, 1) := by decide +kernel
theorem dX1_judged_1 : decode cX1_judged 1 = .ok (.aload_n 1, 1) := by decide +kernel
theorem dX1_judged_2 : decode cX1_judged 2 = .ok (.aload_n 2, 1) := by decide +kernel
theorem dX1_judged_3 : decode cX1_judged 3 = .ok (.invokevirtual 21, 3) := by decide +kernel
theorem dX1_judged_6 : decode cX1_judged 6 = .ok (.iconst 0, 1) := by decide +kernel
theorem dX1_judged_7 : decode cX1_judged 7 = .ok (.istore_n 3, 1) := by decide +kernel
theorem dX1_judged_8 : decode cX1_judged 8 = .ok (.iload_n 3, 1) := by decide +kernel
theorem dX1_judged_9 : decode cX1_judged 9 = .ok (.aload_n 0, 1) := by decide +kernel
theorem dX1_judged_10 : decode cX1_judged 10 = .ok (.getfield 25, 3) := by decide +kernel
theorem dX1_judged_13 : decode cX1_judged 13 = .ok (.if_icmp .ge 63, 3) := by decide +kernel
theorem dX1_judged_16 : decode cX1_judged 16 = .ok (.iload_n 3, 1) := by decide +kernel
theorem dX1_judged_17 : decode cX1_judged 17 = .ok (.aload_n 0, 1) := by decide +kernel
theorem dX1_judged_18 : decode cX1_judged 18 = .ok (.getfield 18, 3) := by decide +kernel
theorem dX1_judged_21 : decode cX1_judged 21 = .ok (.arraylength, 1) := by decide +kernel
theorem dX1_judged_22 : decode cX1_judged 22 = .ok (.if_icmp .ge 54, 3) := by decide +kernel
theorem dX1_judged_25 : decode cX1_judged 25 = .ok (.aload_n 0, 1) := by decide +kernel
theorem dX1_judged_26 : decode cX1_judged 26 = .ok (.getfield 18, 3) := by decide +kernel
theorem dX1_judged_29 : decode cX1_judged 29 = .ok (.iload_n 3, 1) := by decide +kernel
theorem dX1_judged_30 : decode cX1_judged 30 = .ok (.iaload, 1) := by decide +kernel
theorem dX1_judged_31 : decode cX1_judged 31 = .ok (.istore 4, 2) := by decide +kernel
theorem dX1_judged_33 : decode cX1_judged 33 = .ok (.iconst 0, 1) := by decide +kernel
theorem dX1_judged_34 : decode cX1_judged 34 = .ok (.istore 5, 2) := by decide +kernel
theorem dX1_judged_36 : decode cX1_judged 36 = .ok (.iload 5, 2) := by decide +kernel
theorem dX1_judged_38 : decode cX1_judged 38 = .ok (.aload_n 1, 1) := by decide +kernel
theorem dX1_judged_39 : decode cX1_judged 39 = .ok (.getfield 29, 3) := by decide +kernel
theorem dX1_judged_42 : decode cX1_judged 42 = .ok (.if_icmp .ge 28, 3) := by decide +kernel
theorem dX1_judged_45 : decode cX1_judged 45 = .ok (.aload_n 0, 1) := by decide +kernel
theorem dX1_judged_46 : decode cX1_judged 46 = .ok (.aload_n 2, 1) := by decide +kernel
theorem dX1_judged_47 : decode cX1_judged 47 = .ok (.iload 4, 2) := by decide +kernel
theorem dX1_judged_49 : decode cX1_judged 49 = .ok (.iload 5, 2) := by decide +kernel
theorem dX1_judged_51 : decode cX1_judged 51 = .ok (.invokevirtual 34, 3) := by decide +kernel
theorem dX1_judged_54 : decode cX1_judged 54 = .ok (.aload_n 0, 1) := by decide +kernel
theorem dX1_judged_55 : decode cX1_judged 55 = .ok (.iload 4, 2) := by decide +kernel
theorem dX1_judged_57 : decode cX1_judged 57 = .ok (.invokevirtual 40, 3) := by decide +kernel
theorem dX1_judged_60 : decode cX1_judged 60 = .ok (.aload_n 2, 1) := by decide +kernel
theorem dX1_judged_61 : decode cX1_judged 61 = .ok (.invokevirtual 44, 3) := by decide +kernel
theorem dX1_judged_64 : decode cX1_judged 64 = .ok (.iinc 5 1, 3) := by decide +kernel
theorem dX1_judged_67 : decode cX1_judged 67 = .ok (.goto (-31), 3) := by decide +kernel
theorem dX1_judged_70 : decode cX1_judged 70 = .ok (.iinc 3 1, 3) := by decide +kernel
theorem dX1_judged_73 : decode cX1_judged 73 = .ok (.goto (-65), 3) := by decide +kernel
theorem dX1_judged_76 : decode cX1_judged 76 = .ok (.aload_n 0, 1) := by decide +kernel
theorem dX1_judged_77 : decode cX1_judged 77 = .ok (.iconst 0, 1) := by decide +kernel
theorem dX1_judged_78 : decode cX1_judged 78 = .ok (.invokevirtual 40, 3) := by decide +kernel
theorem dX1_judged_81 : decode cX1_judged 81 = .ok (.ireturn, 1) := by decide +kernel
theorem dX1_begin_0 : decode cX1_begin 0 = .ok (.aload_n 0, 1) := by decide +kernel
theorem dX1_begin_1 : decode cX1_begin 1 = .ok (.iconst 0, 1) := by decide +kernel
theorem dX1_begin_2 : decode cX1_begin 2 = .ok (.putfield 25, 3) := by decide +kernel
theorem dX1_begin_5 : decode cX1_begin 5 = .ok (.iconst 0, 1) := by decide +kernel
theorem dX1_begin_6 : decode cX1_begin 6 = .ok (.istore_n 3, 1) := by decide +kernel
theorem dX1_begin_7 : decode cX1_begin 7 = .ok (.iload_n 3, 1) := by decide +kernel
theorem dX1_begin_8 : decode cX1_begin 8 = .ok (.aload_n 2, 1) := by decide +kernel
theorem dX1_begin_9 : decode cX1_begin 9 = .ok (.getfield 48, 3) := by decide +kernel
theorem dX1_begin_12 : decode cX1_begin 12 = .ok (.if_icmp .ge 62, 3) := by decide +kernel
theorem dX1_begin_15 : decode cX1_begin 15 = .ok (.iload_n 3, 1) := by decide +kernel
theorem dX1_begin_16 : decode cX1_begin 16 = .ok (.aload_n 0, 1) := by decide +kernel
theorem dX1_begin_17 : decode cX1_begin 17 = .ok (.getfield 9, 3) := by decide +kernel
theorem dX1_begin_20 : decode cX1_begin 20 = .ok (.arraylength, 1) := by decide +kernel
theorem dX1_begin_21 : decode cX1_begin 21 = .ok (.if_icmp .ge 53, 3) := by decide +kernel
theorem dX1_begin_24 : decode cX1_begin 24 = .ok (.iload_n 3, 1) := by decide +kernel
theorem dX1_begin_25 : decode cX1_begin 25 = .ok (.aload_n 0, 1) := by decide +kernel
theorem dX1_begin_26 : decode cX1_begin 26 = .ok (.getfield 15, 3) := by decide +kernel
theorem dX1_begin_29 : decode cX1_begin 29 = .ok (.arraylength, 1) := by decide +kernel
theorem dX1_begin_30 : decode cX1_begin 30 = .ok (.if_icmp .ge 44, 3) := by decide +kernel
theorem dX1_begin_33 : decode cX1_begin 33 = .ok (.aload_n 0, 1) := by decide +kernel
theorem dX1_begin_34 : decode cX1_begin 34 = .ok (.getfield 9, 3) := by decide +kernel
theorem dX1_begin_37 : decode cX1_begin 37 = .ok (.iload_n 3, 1) := by decide +kernel
theorem dX1_begin_38 : decode cX1_begin 38 = .ok (.iconst 2, 1) := by decide +kernel
theorem dX1_begin_39 : decode cX1_begin 39 = .ok (.iastore, 1) := by decide +kernel
theorem dX1_begin_40 : decode cX1_begin 40 = .ok (.aload_n 0, 1) := by decide +kernel
theorem dX1_begin_41 : decode cX1_begin 41 = .ok (.getfield 15, 3) := by decide +kernel
theorem dX1_begin_44 : decode cX1_begin 44 = .ok (.iload_n 3, 1) := by decide +kernel
theorem dX1_begin_45 : decode cX1_begin 45 = .ok (.aload_n 1, 1) := by decide +kernel
theorem dX1_begin_46 : decode cX1_begin 46 = .ok (.getfield 29, 3) := by decide +kernel
theorem dX1_begin_49 : decode cX1_begin 49 = .ok (.iastore, 1) := by decide +kernel
theorem dX1_begin_50 : decode cX1_begin 50 = .ok (.aload_n 1, 1) := by decide +kernel
theorem dX1_begin_51 : decode cX1_begin 51 = .ok (.aload_n 2, 1) := by decide +kernel
theorem dX1_begin_52 : decode cX1_begin 52 = .ok (.iload_n 3, 1) := by decide +kernel
theorem dX1_begin_53 : decode cX1_begin 53 = .ok (.invokevirtual 51, 3) := by decide +kernel
theorem dX1_begin_56 : decode cX1_begin 56 = .ok (.invokevirtual 54, 3) := by decide +kernel
theorem dX1_begin_59 : decode cX1_begin 59 = .ok (.ifCond .eq 9, 3) := by decide +kernel
theorem dX1_begin_62 : decode cX1_begin 62 = .ok (.aload_n 0, 1) := by decide +kernel
theorem dX1_begin_63 : decode cX1_begin 63 = .ok (.iload_n 3, 1) := by decide +kernel
theorem dX1_begin_64 : decode cX1_begin 64 = .ok (.iconst 0, 1) := by decide +kernel
theorem dX1_begin_65 : decode cX1_begin 65 = .ok (.invokevirtual 58, 3) := by decide +kernel
theorem dX1_begin_68 : decode cX1_begin 68 = .ok (.iinc 3 1, 3) := by decide +kernel
theorem dX1_begin_71 : decode cX1_begin 71 = .ok (.goto (-64), 3) := by decide +kernel
theorem dX1_begin_74 : decode cX1_begin 74 = .ok (.return_, 1) := by decide +kernel
theorem dX1_tellBack_0 : decode cX1_tellBack 0 = .ok (.iload_n 1, 1) := by decide +kernel
theorem dX1_tellBack_1 : decode cX1_tellBack 1 = .ok (.ifCond .lt 29, 3) := by decide +kernel
theorem dX1_tellBack_4 : decode cX1_tellBack 4 = .ok (.iload_n 1, 1) := by decide +kernel
theorem dX1_tellBack_5 : decode cX1_tellBack 5 = .ok (.aload_n 3, 1) := by decide +kernel
theorem dX1_tellBack_6 : decode cX1_tellBack 6 = .ok (.getfield 48, 3) := by decide +kernel
theorem dX1_tellBack_9 : decode cX1_tellBack 9 = .ok (.if_icmp .ge 21, 3) := by decide +kernel
theorem dX1_tellBack_12 : decode cX1_tellBack 12 = .ok (.iload_n 1, 1) := by decide +kernel
theorem dX1_tellBack_13 : decode cX1_tellBack 13 = .ok (.aload_n 0, 1) := by decide +kernel
theorem dX1_tellBack_14 : decode cX1_tellBack 14 = .ok (.getfield 15, 3) := by decide +kernel
theorem dX1_tellBack_17 : decode cX1_tellBack 17 = .ok (.arraylength, 1) := by decide +kernel
theorem dX1_tellBack_18 : decode cX1_tellBack 18 = .ok (.if_icmp .ge 12, 3) := by decide +kernel
theorem dX1_tellBack_21 : decode cX1_tellBack 21 = .ok (.aload_n 0, 1) := by decide +kernel
theorem dX1_tellBack_22 : decode cX1_tellBack 22 = .ok (.iload_n 1, 1) := by decide +kernel
theorem dX1_tellBack_23 : decode cX1_tellBack 23 = .ok (.invokevirtual 40, 3) := by decide +kernel
theorem dX1_tellBack_26 : decode cX1_tellBack 26 = .ok (.iconst 2, 1) := by decide +kernel
theorem dX1_tellBack_27 : decode cX1_tellBack 27 = .ok (.if_icmp .eq 4, 3) := by decide +kernel
theorem dX1_tellBack_30 : decode cX1_tellBack 30 = .ok (.return_, 1) := by decide +kernel
theorem dX1_tellBack_31 : decode cX1_tellBack 31 = .ok (.iload_n 2, 1) := by decide +kernel
theorem dX1_tellBack_32 : decode cX1_tellBack 32 = .ok (.ifCond .ne 10, 3) := by decide +kernel
theorem dX1_tellBack_35 : decode cX1_tellBack 35 = .ok (.aload_n 0, 1) := by decide +kernel
theorem dX1_tellBack_36 : decode cX1_tellBack 36 = .ok (.iload_n 1, 1) := by decide +kernel
theorem dX1_tellBack_37 : decode cX1_tellBack 37 = .ok (.iconst 1, 1) := by decide +kernel
theorem dX1_tellBack_38 : decode cX1_tellBack 38 = .ok (.invokevirtual 58, 3) := by decide +kernel
theorem dX1_tellBack_41 : decode cX1_tellBack 41 = .ok (.return_, 1) := by decide +kernel
theorem dX1_tellBack_42 : decode cX1_tellBack 42 = .ok (.aload_n 0, 1) := by decide +kernel
theorem dX1_tellBack_43 : decode cX1_tellBack 43 = .ok (.getfield 15, 3) := by decide +kernel
theorem dX1_tellBack_46 : decode cX1_tellBack 46 = .ok (.iload_n 1, 1) := by decide +kernel
theorem dX1_tellBack_47 : decode cX1_tellBack 47 = .ok (.dup2, 1) := by decide +kernel
theorem dX1_tellBack_48 : decode cX1_tellBack 48 = .ok (.iaload, 1) := by decide +kernel
theorem dX1_tellBack_49 : decode cX1_tellBack 49 = .ok (.iconst 1, 1) := by decide +kernel
theorem dX1_tellBack_50 : decode cX1_tellBack 50 = .ok (.isub, 1) := by decide +kernel
theorem dX1_tellBack_51 : decode cX1_tellBack 51 = .ok (.iastore, 1) := by decide +kernel
theorem dX1_tellBack_52 : decode cX1_tellBack 52 = .ok (.aload_n 0, 1) := by decide +kernel
theorem dX1_tellBack_53 : decode cX1_tellBack 53 = .ok (.getfield 15, 3) := by decide +kernel
theorem dX1_tellBack_56 : decode cX1_tellBack 56 = .ok (.iload_n 1, 1) := by decide +kernel
theorem dX1_tellBack_57 : decode cX1_tellBack 57 = .ok (.iaload, 1) := by decide +kernel
theorem dX1_tellBack_58 : decode cX1_tellBack 58 = .ok (.ifCond .ne 9, 3) := by decide +kernel
theorem dX1_tellBack_61 : decode cX1_tellBack 61 = .ok (.aload_n 0, 1) := by decide +kernel
theorem dX1_tellBack_62 : decode cX1_tellBack 62 = .ok (.iload_n 1, 1) := by decide +kernel
theorem dX1_tellBack_63 : decode cX1_tellBack 63 = .ok (.iconst 0, 1) := by decide +kernel
theorem dX1_tellBack_64 : decode cX1_tellBack 64 = .ok (.invokevirtual 58, 3) := by decide +kernel
theorem dX1_tellBack_67 : decode cX1_tellBack 67 = .ok (.return_, 1) := by decide +kernel
theorem dX1_verdictOf_0 : decode cX1_verdictOf 0 = .ok (.iload_n 1, 1) := by decide +kernel
theorem dX1_verdictOf_1 : decode cX1_verdictOf 1 = .ok (.ifCond .lt 21, 3) := by decide +kernel
theorem dX1_verdictOf_4 : decode cX1_verdictOf 4 = .ok (.iload_n 1, 1) := by decide +kernel
theorem dX1_verdictOf_5 : decode cX1_verdictOf 5 = .ok (.aload_n 0, 1) := by decide +kernel
theorem dX1_verdictOf_6 : decode cX1_verdictOf 6 = .ok (.getfield 9, 3) := by decide +kernel
theorem dX1_verdictOf_9 : decode cX1_verdictOf 9 = .ok (.arraylength, 1) := by decide +kernel
theorem dX1_verdictOf_10 : decode cX1_verdictOf 10 = .ok (.if_icmp .ge 12, 3) := by decide +kernel
theorem dX1_verdictOf_13 : decode cX1_verdictOf 13 = .ok (.aload_n 0, 1) := by decide +kernel
theorem dX1_verdictOf_14 : decode cX1_verdictOf 14 = .ok (.getfield 9, 3) := by decide +kernel
theorem dX1_verdictOf_17 : decode cX1_verdictOf 17 = .ok (.iload_n 1, 1) := by decide +kernel
theorem dX1_verdictOf_18 : decode cX1_verdictOf 18 = .ok (.iaload, 1) := by decide +kernel
theorem dX1_verdictOf_19 : decode cX1_verdictOf 19 = .ok (.goto 4, 3) := by decide +kernel
theorem dX1_verdictOf_22 : decode cX1_verdictOf 22 = .ok (.iconst 2, 1) := by decide +kernel
theorem dX1_verdictOf_23 : decode cX1_verdictOf 23 = .ok (.ireturn, 1) := by decide +kernel
theorem dX1_settle_0 : decode cX1_settle 0 = .ok (.iload_n 1, 1) := by decide +kernel
theorem dX1_settle_1 : decode cX1_settle 1 = .ok (.ifCond .lt 58, 3) := by decide +kernel
theorem dX1_settle_4 : decode cX1_settle 4 = .ok (.iload_n 1, 1) := by decide +kernel
theorem dX1_settle_5 : decode cX1_settle 5 = .ok (.aload_n 0, 1) := by decide +kernel
theorem dX1_settle_6 : decode cX1_settle 6 = .ok (.getfield 9, 3) := by decide +kernel
theorem dX1_settle_9 : decode cX1_settle 9 = .ok (.arraylength, 1) := by decide +kernel
theorem dX1_settle_10 : decode cX1_settle 10 = .ok (.if_icmp .ge 49, 3) := by decide +kernel
theorem dX1_settle_13 : decode cX1_settle 13 = .ok (.aload_n 0, 1) := by decide +kernel
theorem dX1_settle_14 : decode cX1_settle 14 = .ok (.getfield 25, 3) := by decide +kernel
theorem dX1_settle_17 : decode cX1_settle 17 = .ok (.ifCond .lt 42, 3) := by decide +kernel
theorem dX1_settle_20 : decode cX1_settle 20 = .ok (.aload_n 0, 1) := by decide +kernel
theorem dX1_settle_21 : decode cX1_settle 21 = .ok (.getfield 25, 3) := by decide +kernel
theorem dX1_settle_24 : decode cX1_settle 24 = .ok (.aload_n 0, 1) := by decide +kernel
theorem dX1_settle_25 : decode cX1_settle 25 = .ok (.getfield 18, 3) := by decide +kernel
theorem dX1_settle_28 : decode cX1_settle 28 = .ok (.arraylength, 1) := by decide +kernel
theorem dX1_settle_29 : decode cX1_settle 29 = .ok (.if_icmp .ge 30, 3) := by decide +kernel
theorem dX1_settle_32 : decode cX1_settle 32 = .ok (.aload_n 0, 1) := by decide +kernel
theorem dX1_settle_33 : decode cX1_settle 33 = .ok (.getfield 9, 3) := by decide +kernel
theorem dX1_settle_36 : decode cX1_settle 36 = .ok (.iload_n 1, 1) := by decide +kernel
theorem dX1_settle_37 : decode cX1_settle 37 = .ok (.iload_n 2, 1) := by decide +kernel
theorem dX1_settle_38 : decode cX1_settle 38 = .ok (.iastore, 1) := by decide +kernel
theorem dX1_settle_39 : decode cX1_settle 39 = .ok (.aload_n 0, 1) := by decide +kernel
theorem dX1_settle_40 : decode cX1_settle 40 = .ok (.getfield 18, 3) := by decide +kernel
theorem dX1_settle_43 : decode cX1_settle 43 = .ok (.aload_n 0, 1) := by decide +kernel
theorem dX1_settle_44 : decode cX1_settle 44 = .ok (.getfield 25, 3) := by decide +kernel
theorem dX1_settle_47 : decode cX1_settle 47 = .ok (.iload_n 1, 1) := by decide +kernel
theorem dX1_settle_48 : decode cX1_settle 48 = .ok (.iastore, 1) := by decide +kernel
theorem dX1_settle_49 : decode cX1_settle 49 = .ok (.aload_n 0, 1) := by decide +kernel
theorem dX1_settle_50 : decode cX1_settle 50 = .ok (.dup, 1) := by decide +kernel
theorem dX1_settle_51 : decode cX1_settle 51 = .ok (.getfield 25, 3) := by decide +kernel
theorem dX1_settle_54 : decode cX1_settle 54 = .ok (.iconst 1, 1) := by decide +kernel
theorem dX1_settle_55 : decode cX1_settle 55 = .ok (.iadd, 1) := by decide +kernel
theorem dX1_settle_56 : decode cX1_settle 56 = .ok (.putfield 25, 3) := by decide +kernel
theorem dX1_settle_59 : decode cX1_settle 59 = .ok (.return_, 1) := by decide +kernel
theorem dX2_init_0 : decode cX2_init 0 = .ok (.aload_n 0, 1) := by decide +kernel
theorem dX2_init_1 : decode cX2_init 1 = .ok (.invokespecial 1, 3) := by decide +kernel
theorem dX2_init_4 : decode cX2_init 4 = .ok (.aload_n 0, 1) := by decide +kernel
theorem dX2_init_5 : decode cX2_init 5 = .ok (.iload_n 1, 1) := by decide +kernel
theorem dX2_init_6 : decode cX2_init 6 = .ok (.putfield 7, 3) := by decide +kernel
theorem dX2_init_9 : decode cX2_init 9 = .ok (.aload_n 0, 1) := by decide +kernel
theorem dX2_init_10 : decode cX2_init 10 = .ok (.iload_n 2, 1) := by decide +kernel
theorem dX2_init_11 : decode cX2_init 11 = .ok (.putfield 13, 3) := by decide +kernel
theorem dX2_init_14 : decode cX2_init 14 = .ok (.aload_n 0, 1) := by decide +kernel
theorem dX2_init_15 : decode cX2_init 15 = .ok (.iload_n 3, 1) := by decide +kernel
theorem dX2_init_16 : decode cX2_init 16 = .ok (.putfield 16, 3) := by decide +kernel
theorem dX2_init_19 : decode cX2_init 19 = .ok (.aload_n 0, 1) := by decide +kernel
theorem dX2_init_20 : decode cX2_init 20 = .ok (.iload 4, 2) := by decide +kernel
theorem dX2_init_22 : decode cX2_init 22 = .ok (.putfield 19, 3) := by decide +kernel
theorem dX2_init_25 : decode cX2_init 25 = .ok (.return_, 1) := by decide +kernel
theorem dX2_isGoerTo_0 : decode cX2_isGoerTo 0 = .ok (.aload_n 0, 1) := by decide +kernel
theorem dX2_isGoerTo_1 : decode cX2_isGoerTo 1 = .ok (.getfield 13, 3) := by decide +kernel
theorem dX2_isGoerTo_4 : decode cX2_isGoerTo 4 = .ok (.iload_n 1, 1) := by decide +kernel
theorem dX2_isGoerTo_5 : decode cX2_isGoerTo 5 = .ok (.invokestatic 22, 3) := by decide +kernel
theorem dX2_isGoerTo_8 : decode cX2_isGoerTo 8 = .ok (.istore_n 2, 1) := by decide +kernel
theorem dX2_isGoerTo_9 : decode cX2_isGoerTo 9 = .ok (.aload_n 0, 1) := by decide +kernel
theorem dX2_isGoerTo_10 : decode cX2_isGoerTo 10 = .ok (.getfield 16, 3) := by decide +kernel
theorem dX2_isGoerTo_13 : decode cX2_isGoerTo 13 = .ok (.iload_n 1, 1) := by decide +kernel
theorem dX2_isGoerTo_14 : decode cX2_isGoerTo 14 = .ok (.invokestatic 22, 3) := by decide +kernel
theorem dX2_isGoerTo_17 : decode cX2_isGoerTo 17 = .ok (.istore_n 3, 1) := by decide +kernel
theorem dX2_isGoerTo_18 : decode cX2_isGoerTo 18 = .ok (.aload_n 0, 1) := by decide +kernel
theorem dX2_isGoerTo_19 : decode cX2_isGoerTo 19 = .ok (.getfield 7, 3) := by decide +kernel
theorem dX2_isGoerTo_22 : decode cX2_isGoerTo 22 = .ok (.tableswitch 110 0 5 #[38, 40, 49, 63, 77, 88], 38) := by decide +kernel
theorem dX2_isGoerTo_60 : decode cX2_isGoerTo 60 = .ok (.iload_n 2, 1) := by decide +kernel
theorem dX2_isGoerTo_61 : decode cX2_isGoerTo 61 = .ok (.ireturn, 1) := by decide +kernel
theorem dX2_isGoerTo_62 : decode cX2_isGoerTo 62 = .ok (.iload_n 1, 1) := by decide +kernel
theorem dX2_isGoerTo_63 : decode cX2_isGoerTo 63 = .ok (.aload_n 0, 1) := by decide +kernel
theorem dX2_isGoerTo_64 : decode cX2_isGoerTo 64 = .ok (.getfield 13, 3) := by decide +kernel
theorem dX2_isGoerTo_67 : decode cX2_isGoerTo 67 = .ok (.invokestatic 22, 3) := by decide +kernel
theorem dX2_isGoerTo_70 : decode cX2_isGoerTo 70 = .ok (.ireturn, 1) := by decide +kernel
theorem dX2_isGoerTo_71 : decode cX2_isGoerTo 71 = .ok (.iload_n 2, 1) := by decide +kernel
theorem dX2_isGoerTo_72 : decode cX2_isGoerTo 72 = .ok (.ifCond .eq 11, 3) := by decide +kernel
theorem dX2_isGoerTo_75 : decode cX2_isGoerTo 75 = .ok (.iload_n 3, 1) := by decide +kernel
theorem dX2_isGoerTo_76 : decode cX2_isGoerTo 76 = .ok (.ifCond .eq 7, 3) := by decide +kernel
theorem dX2_isGoerTo_79 : decode cX2_isGoerTo 79 = .ok (.iconst 1, 1) := by decide +kernel
theorem dX2_isGoerTo_80 : decode cX2_isGoerTo 80 = .ok (.goto 4, 3) := by decide +kernel
theorem dX2_isGoerTo_83 : decode cX2_isGoerTo 83 = .ok (.iconst 0, 1) := by decide +kernel
theorem dX2_isGoerTo_84 : decode cX2_isGoerTo 84 = .ok (.ireturn, 1) := by decide +kernel
theorem dX2_isGoerTo_85 : decode cX2_isGoerTo 85 = .ok (.iload_n 2, 1) := by decide +kernel
theorem dX2_isGoerTo_86 : decode cX2_isGoerTo 86 = .ok (.ifCond .ne 7, 3) := by decide +kernel
theorem dX2_isGoerTo_89 : decode cX2_isGoerTo 89 = .ok (.iload_n 3, 1) := by decide +kernel
theorem dX2_isGoerTo_90 : decode cX2_isGoerTo 90 = .ok (.ifCond .eq 7, 3) := by decide +kernel
theorem dX2_isGoerTo_93 : decode cX2_isGoerTo 93 = .ok (.iconst 1, 1) := by decide +kernel
theorem dX2_isGoerTo_94 : decode cX2_isGoerTo 94 = .ok (.goto 4, 3) := by decide +kernel
theorem dX2_isGoerTo_97 : decode cX2_isGoerTo 97 = .ok (.iconst 0, 1) := by decide +kernel
theorem dX2_isGoerTo_98 : decode cX2_isGoerTo 98 = .ok (.ireturn, 1) := by decide +kernel
theorem dX2_isGoerTo_99 : decode cX2_isGoerTo 99 = .ok (.iload_n 2, 1) := by decide +kernel
theorem dX2_isGoerTo_100 : decode cX2_isGoerTo 100 = .ok (.iload_n 3, 1) := by decide +kernel
theorem dX2_isGoerTo_101 : decode cX2_isGoerTo 101 = .ok (.if_icmp .eq 7, 3) := by decide +kernel
theorem dX2_isGoerTo_104 : decode cX2_isGoerTo 104 = .ok (.iconst 1, 1) := by decide +kernel
theorem dX2_isGoerTo_105 : decode cX2_isGoerTo 105 = .ok (.goto 4, 3) := by decide +kernel
theorem dX2_isGoerTo_108 : decode cX2_isGoerTo 108 = .ok (.iconst 0, 1) := by decide +kernel
theorem dX2_isGoerTo_109 : decode cX2_isGoerTo 109 = .ok (.ireturn, 1) := by decide +kernel
theorem dX2_isGoerTo_110 : decode cX2_isGoerTo 110 = .ok (.iload_n 1, 1) := by decide +kernel
theorem dX2_isGoerTo_111 : decode cX2_isGoerTo 111 = .ok (.aload_n 0, 1) := by decide +kernel
theorem dX2_isGoerTo_112 : decode cX2_isGoerTo 112 = .ok (.getfield 13, 3) := by decide +kernel
theorem dX2_isGoerTo_115 : decode cX2_isGoerTo 115 = .ok (.if_icmp .lt 15, 3) := by decide +kernel
theorem dX2_isGoerTo_118 : decode cX2_isGoerTo 118 = .ok (.iload_n 1, 1) := by decide +kernel
theorem dX2_isGoerTo_119 : decode cX2_isGoerTo 119 = .ok (.aload_n 0, 1) := by decide +kernel
theorem dX2_isGoerTo_120 : decode cX2_isGoerTo 120 = .ok (.getfield 16, 3) := by decide +kernel
theorem dX2_isGoerTo_123 : decode cX2_isGoerTo 123 = .ok (.if_icmp .gt 7, 3) := by decide +kernel
theorem dX2_isGoerTo_126 : decode cX2_isGoerTo 126 = .ok (.iconst 1, 1) := by decide +kernel
theorem dX2_isGoerTo_127 : decode cX2_isGoerTo 127 = .ok (.goto 4, 3) := by decide +kernel
theorem dX2_isGoerTo_130 : decode cX2_isGoerTo 130 = .ok (.iconst 0, 1) := by decide +kernel
theorem dX2_isGoerTo_131 : decode cX2_isGoerTo 131 = .ok (.ireturn, 1) := by decide +kernel
theorem dX2_isGoerTo_132 : decode cX2_isGoerTo 132 = .ok (.iconst 0, 1) := by decide +kernel
theorem dX2_isGoerTo_133 : decode cX2_isGoerTo 133 = .ok (.ireturn, 1) := by decide +kernel
theorem dX3_init_0 : decode cX3_init 0 = .ok (.aload_n 0, 1) := by decide +kernel
theorem dX3_init_1 : decode cX3_init 1 = .ok (.invokespecial 3, 3) := by decide +kernel
theorem dX3_init_4 : decode cX3_init 4 = .ok (.aload_n 0, 1) := by decide +kernel
theorem dX3_init_5 : decode cX3_init 5 = .ok (.bipush 64, 2) := by decide +kernel
theorem dX3_init_7 : decode cX3_init 7 = .ok (.newarray .int, 2) := by decide +kernel
theorem dX3_init_9 : decode cX3_init 9 = .ok (.putfield 9, 3) := by decide +kernel
theorem dX3_init_12 : decode cX3_init 12 = .ok (.aload_n 0, 1) := by decide +kernel
theorem dX3_init_13 : decode cX3_init 13 = .ok (.iconst 3, 1) := by decide +kernel
theorem dX3_init_14 : decode cX3_init 14 = .ok (.newarray .int, 2) := by decide +kernel
theorem dX3_init_16 : decode cX3_init 16 = .ok (.putfield 15, 3) := by decide +kernel
theorem dX3_init_19 : decode cX3_init 19 = .ok (.aload_n 0, 1) := by decide +kernel
theorem dX3_init_20 : decode cX3_init 20 = .ok (.bipush 12, 2) := by decide +kernel
theorem dX3_init_22 : decode cX3_init 22 = .ok (.newarray .int, 2) := by decide +kernel
theorem dX3_init_24 : decode cX3_init 24 = .ok (.putfield 18, 3) := by decide +kernel
theorem dX3_init_27 : decode cX3_init 27 = .ok (.return_, 1) := by decide +kernel
theorem dX3_append_0 : decode cX3_append 0 = .ok (.aload_n 0, 1) := by decide +kernel
theorem dX3_append_1 : decode cX3_append 1 = .ok (.getfield 21, 3) := by decide +kernel
theorem dX3_append_4 : decode cX3_append 4 = .ok (.ifCond .lt 35, 3) := by decide +kernel
theorem dX3_append_7 : decode cX3_append 7 = .ok (.aload_n 0, 1) := by decide +kernel
theorem dX3_append_8 : decode cX3_append 8 = .ok (.getfield 21, 3) := by decide +kernel
theorem dX3_append_11 : decode cX3_append 11 = .ok (.aload_n 0, 1) := by decide +kernel
theorem dX3_append_12 : decode cX3_append 12 = .ok (.getfield 9, 3) := by decide +kernel
theorem dX3_append_15 : decode cX3_append 15 = .ok (.arraylength, 1) := by decide +kernel
theorem dX3_append_16 : decode cX3_append 16 = .ok (.if_icmp .ge 23, 3) := by decide +kernel
theorem dX3_append_19 : decode cX3_append 19 = .ok (.aload_n 0, 1) := by decide +kernel
theorem dX3_append_20 : decode cX3_append 20 = .ok (.getfield 9, 3) := by decide +kernel
theorem dX3_append_23 : decode cX3_append 23 = .ok (.aload_n 0, 1) := by decide +kernel
theorem dX3_append_24 : decode cX3_append 24 = .ok (.getfield 21, 3) := by decide +kernel
theorem dX3_append_27 : decode cX3_append 27 = .ok (.iload_n 1, 1) := by decide +kernel
theorem dX3_append_28 : decode cX3_append 28 = .ok (.iastore, 1) := by decide +kernel
theorem dX3_append_29 : decode cX3_append 29 = .ok (.aload_n 0, 1) := by decide +kernel
theorem dX3_append_30 : decode cX3_append 30 = .ok (.dup, 1) := by decide +kernel
theorem dX3_append_31 : decode cX3_append 31 = .ok (.getfield 21, 3) := by decide +kernel
theorem dX3_append_34 : decode cX3_append 34 = .ok (.iconst 1, 1) := by decide +kernel
theorem dX3_append_35 : decode cX3_append 35 = .ok (.iadd, 1) := by decide +kernel
theorem dX3_append_36 : decode cX3_append 36 = .ok (.putfield 21, 3) := by decide +kernel
theorem dX3_append_39 : decode cX3_append 39 = .ok (.aload_n 0, 1) := by decide +kernel
theorem dX3_append_40 : decode cX3_append 40 = .ok (.getfield 21, 3) := by decide +kernel
theorem dX3_append_43 : decode cX3_append 43 = .ok (.ireturn, 1) := by decide +kernel
theorem dX3_wipe_0 : decode cX3_wipe 0 = .ok (.aload_n 0, 1) := by decide +kernel
theorem dX3_wipe_1 : decode cX3_wipe 1 = .ok (.iconst 0, 1) := by decide +kernel
theorem dX3_wipe_2 : decode cX3_wipe 2 = .ok (.putfield 21, 3) := by decide +kernel
theorem dX3_wipe_5 : decode cX3_wipe 5 = .ok (.return_, 1) := by decide +kernel
theorem dX3_rewind_0 : decode cX3_rewind 0 = .ok (.aload_n 0, 1) := by decide +kernel
theorem dX3_rewind_1 : decode cX3_rewind 1 = .ok (.iconst 0, 1) := by decide +kernel
theorem dX3_rewind_2 : decode cX3_rewind 2 = .ok (.putfield 25, 3) := by decide +kernel
theorem dX3_rewind_5 : decode cX3_rewind 5 = .ok (.return_, 1) := by decide +kernel
theorem dX3_numberAt_0 : decode cX3_numberAt 0 = .ok (.iload_n 1, 1) := by decide +kernel
theorem dX3_numberAt_1 : decode cX3_numberAt 1 = .ok (.ifCond .lt 29, 3) := by decide +kernel
theorem dX3_numberAt_4 : decode cX3_numberAt 4 = .ok (.iload_n 1, 1) := by decide +kernel
theorem dX3_numberAt_5 : decode cX3_numberAt 5 = .ok (.aload_n 0, 1) := by decide +kernel
theorem dX3_numberAt_6 : decode cX3_numberAt 6 = .ok (.getfield 28, 3) := by decide +kernel
theorem dX3_numberAt_9 : decode cX3_numberAt 9 = .ok (.if_icmp .ge 21, 3) := by decide +kernel
theorem dX3_numberAt_12 : decode cX3_numberAt 12 = .ok (.iload_n 1, 1) := by decide +kernel
theorem dX3_numberAt_13 : decode cX3_numberAt 13 = .ok (.aload_n 0, 1) := by decide +kernel
theorem dX3_numberAt_14 : decode cX3_numberAt 14 = .ok (.getfield 15, 3) := by decide +kernel
theorem dX3_numberAt_17 : decode cX3_numberAt 17 = .ok (.arraylength, 1) := by decide +kernel
theorem dX3_numberAt_18 : decode cX3_numberAt 18 = .ok (.if_icmp .ge 12, 3) := by decide +kernel
theorem dX3_numberAt_21 : decode cX3_numberAt 21 = .ok (.aload_n 0, 1) := by decide +kernel
theorem dX3_numberAt_22 : decode cX3_numberAt 22 = .ok (.getfield 15, 3) := by decide +kernel
theorem dX3_numberAt_25 : decode cX3_numberAt 25 = .ok (.iload_n 1, 1) := by decide +kernel
theorem dX3_numberAt_26 : decode cX3_numberAt 26 = .ok (.iaload, 1) := by decide +kernel
theorem dX3_numberAt_27 : decode cX3_numberAt 27 = .ok (.goto 4, 3) := by decide +kernel
theorem dX3_numberAt_30 : decode cX3_numberAt 30 = .ok (.iconst 0, 1) := by decide +kernel
theorem dX3_numberAt_31 : decode cX3_numberAt 31 = .ok (.ireturn, 1) := by decide +kernel
theorem dX3_digitAt_0 : decode cX3_digitAt 0 = .ok (.iload_n 1, 1) := by decide +kernel
theorem dX3_digitAt_1 : decode cX3_digitAt 1 = .ok (.ifCond .lt 29, 3) := by decide +kernel
theorem dX3_digitAt_4 : decode cX3_digitAt 4 = .ok (.iload_n 1, 1) := by decide +kernel
theorem dX3_digitAt_5 : decode cX3_digitAt 5 = .ok (.aload_n 0, 1) := by decide +kernel
theorem dX3_digitAt_6 : decode cX3_digitAt 6 = .ok (.getfield 31, 3) := by decide +kernel
theorem dX3_digitAt_9 : decode cX3_digitAt 9 = .ok (.if_icmp .ge 21, 3) := by decide +kernel
theorem dX3_digitAt_12 : decode cX3_digitAt 12 = .ok (.iload_n 1, 1) := by decide +kernel
theorem dX3_digitAt_13 : decode cX3_digitAt 13 = .ok (.aload_n 0, 1) := by decide +kernel
theorem dX3_digitAt_14 : decode cX3_digitAt 14 = .ok (.getfield 18, 3) := by decide +kernel
theorem dX3_digitAt_17 : decode cX3_digitAt 17 = .ok (.arraylength, 1) := by decide +kernel
theorem dX3_digitAt_18 : decode cX3_digitAt 18 = .ok (.if_icmp .ge 12, 3) := by decide +kernel
theorem dX3_digitAt_21 : decode cX3_digitAt 21 = .ok (.aload_n 0, 1) := by decide +kernel
theorem dX3_digitAt_22 : decode cX3_digitAt 22 = .ok (.getfield 18, 3) := by decide +kernel
theorem dX3_digitAt_25 : decode cX3_digitAt 25 = .ok (.iload_n 1, 1) := by decide +kernel
theorem dX3_digitAt_26 : decode cX3_digitAt 26 = .ok (.iaload, 1) := by decide +kernel
theorem dX3_digitAt_27 : decode cX3_digitAt 27 = .ok (.goto 4, 3) := by decide +kernel
theorem dX3_digitAt_30 : decode cX3_digitAt 30 = .ok (.iconst 0, 1) := by decide +kernel
theorem dX3_digitAt_31 : decode cX3_digitAt 31 = .ok (.ireturn, 1) := by decide +kernel
theorem dX3_misplaced_0 : decode cX3_misplaced 0 = .ok (.aload_n 0, 1) := by decide +kernel
theorem dX3_misplaced_1 : decode cX3_misplaced 1 = .ok (.invokevirtual 34, 3) := by decide +kernel
theorem dX3_misplaced_4 : decode cX3_misplaced 4 = .ok (.iconst 0, 1) := by decide +kernel
theorem dX3_misplaced_5 : decode cX3_misplaced 5 = .ok (.istore_n 1, 1) := by decide +kernel
theorem dX3_misplaced_6 : decode cX3_misplaced 6 = .ok (.iload_n 1, 1) := by decide +kernel
theorem dX3_misplaced_7 : decode cX3_misplaced 7 = .ok (.bipush 64, 2) := by decide +kernel
theorem dX3_misplaced_9 : decode cX3_misplaced 9 = .ok (.if_icmp .ge 36, 3) := by decide +kernel
theorem dX3_misplaced_12 : decode cX3_misplaced 12 = .ok (.iload_n 1, 1) := by decide +kernel
theorem dX3_misplaced_13 : decode cX3_misplaced 13 = .ok (.ifCond .eq 14, 3) := by decide +kernel
theorem dX3_misplaced_16 : decode cX3_misplaced 16 = .ok (.aload_n 0, 1) := by decide +kernel
theorem dX3_misplaced_17 : decode cX3_misplaced 17 = .ok (.getfield 25, 3) := by decide +kernel
theorem dX3_misplaced_20 : decode cX3_misplaced 20 = .ok (.aload_n 0, 1) := by decide +kernel
theorem dX3_misplaced_21 : decode cX3_misplaced 21 = .ok (.getfield 21, 3) := by decide +kernel
theorem dX3_misplaced_24 : decode cX3_misplaced 24 = .ok (.if_icmp .ge 21, 3) := by decide +kernel
theorem dX3_misplaced_27 : decode cX3_misplaced 27 = .ok (.aload_n 0, 1) := by decide +kernel
theorem dX3_misplaced_28 : decode cX3_misplaced 28 = .ok (.invokevirtual 37, 3) := by decide +kernel
theorem dX3_misplaced_31 : decode cX3_misplaced 31 = .ok (.ifCond .ne 8, 3) := by decide +kernel
theorem dX3_misplaced_34 : decode cX3_misplaced 34 = .ok (.aload_n 0, 1) := by decide +kernel
theorem dX3_misplaced_35 : decode cX3_misplaced 35 = .ok (.getfield 25, 3) := by decide +kernel
theorem dX3_misplaced_38 : decode cX3_misplaced 38 = .ok (.ireturn, 1) := by decide +kernel
theorem dX3_misplaced_39 : decode cX3_misplaced 39 = .ok (.iinc 1 1, 3) := by decide +kernel
theorem dX3_misplaced_42 : decode cX3_misplaced 42 = .ok (.goto (-36), 3) := by decide +kernel
theorem dX3_misplaced_45 : decode cX3_misplaced 45 = .ok (.iconst (-1), 1) := by decide +kernel
theorem dX3_misplaced_46 : decode cX3_misplaced 46 = .ok (.ireturn, 1) := by decide +kernel
theorem dX3_readStatement_0 : decode cX3_readStatement 0 = .ok (.aload_n 0, 1) := by decide +kernel
theorem dX3_readStatement_1 : decode cX3_readStatement 1 = .ok (.aload_n 0, 1) := by decide +kernel
theorem dX3_readStatement_2 : decode cX3_readStatement 2 = .ok (.invokevirtual 41, 3) := by decide +kernel
theorem dX3_readStatement_5 : decode cX3_readStatement 5 = .ok (.putfield 45, 3) := by decide +kernel
theorem dX3_readStatement_8 : decode cX3_readStatement 8 = .ok (.aload_n 0, 1) := by decide +kernel
theorem dX3_readStatement_9 : decode cX3_readStatement 9 = .ok (.iconst 0, 1) := by decide +kernel
theorem dX3_readStatement_10 : decode cX3_readStatement 10 = .ok (.putfield 28, 3) := by decide +kernel
theorem dX3_readStatement_13 : decode cX3_readStatement 13 = .ok (.aload_n 0, 1) := by decide +kernel
theorem dX3_readStatement_14 : decode cX3_readStatement 14 = .ok (.bipush 110, 2) := by decide +kernel
theorem dX3_readStatement_16 : decode cX3_readStatement 16 = .ok (.invokevirtual 48, 3) := by decide +kernel
theorem dX3_readStatement_19 : decode cX3_readStatement 19 = .ok (.ifCond .ne 12, 3) := by decide +kernel
theorem dX3_readStatement_22 : decode cX3_readStatement 22 = .ok (.aload_n 0, 1) := by decide +kernel
theorem dX3_readStatement_23 : decode cX3_readStatement 23 = .ok (.bipush 115, 2) := by decide +kernel
theorem dX3_readStatement_25 : decode cX3_readStatement 25 = .ok (.invokevirtual 48, 3) := by decide +kernel
theorem dX3_readStatement_28 : decode cX3_readStatement 28 = .ok (.ifCond .eq 26, 3) := by decide +kernel
theorem dX3_readStatement_31 : decode cX3_readStatement 31 = .ok (.aload_n 0, 1) := by decide +kernel
theorem dX3_readStatement_32 : decode cX3_readStatement 32 = .ok (.iconst 2, 1) := by decide +kernel
theorem dX3_readStatement_33 : decode cX3_readStatement 33 = .ok (.invokevirtual 52, 3) := by decide +kernel
theorem dX3_readStatement_36 : decode cX3_readStatement 36 = .ok (.ifCond .eq 16, 3) := by decide +kernel
theorem dX3_readStatement_39 : decode cX3_readStatement 39 = .ok (.aload_n 0, 1) := by decide +kernel
theorem dX3_readStatement_40 : decode cX3_readStatement 40 = .ok (.bipush 59, 2) := by decide +kernel
theorem dX3_readStatement_42 : decode cX3_readStatement 42 = .ok (.invokevirtual 48, 3) := by decide +kernel
theorem dX3_readStatement_45 : decode cX3_readStatement 45 = .ok (.ifCond .eq 7, 3) := by decide +kernel
theorem dX3_readStatement_48 : decode cX3_readStatement 48 = .ok (.iconst 1, 1) := by decide +kernel
theorem dX3_readStatement_49 : decode cX3_readStatement 49 = .ok (.goto 4, 3) := by decide +kernel
theorem dX3_readStatement_52 : decode cX3_readStatement 52 = .ok (.iconst 0, 1) := by decide +kernel
theorem dX3_readStatement_53 : decode cX3_readStatement 53 = .ok (.ireturn, 1) := by decide +kernel
theorem dX3_readStatement_54 : decode cX3_readStatement 54 = .ok (.aload_n 0, 1) := by decide +kernel
theorem dX3_readStatement_55 : decode cX3_readStatement 55 = .ok (.bipush 107, 2) := by decide +kernel
theorem dX3_readStatement_57 : decode cX3_readStatement 57 = .ok (.invokevirtual 48, 3) := by decide +kernel
theorem dX3_readStatement_60 : decode cX3_readStatement 60 = .ok (.ifCond .eq 26, 3) := by decide +kernel
theorem dX3_readStatement_63 : decode cX3_readStatement 63 = .ok (.aload_n 0, 1) := by decide +kernel
theorem dX3_readStatement_64 : decode cX3_readStatement 64 = .ok (.iconst 1, 1) := by decide +kernel
theorem dX3_readStatement_65 : decode cX3_readStatement 65 = .ok (.invokevirtual 52, 3) := by decide +kernel
theorem dX3_readStatement_68 : decode cX3_readStatement 68 = .ok (.ifCond .eq 16, 3) := by decide +kernel
theorem dX3_readStatement_71 : decode cX3_readStatement 71 = .ok (.aload_n 0, 1) := by decide +kernel
theorem dX3_readStatement_72 : decode cX3_readStatement 72 = .ok (.bipush 59, 2) := by decide +kernel
theorem dX3_readStatement_74 : decode cX3_readStatement 74 = .ok (.invokevirtual 48, 3) := by decide +kernel
theorem dX3_readStatement_77 : decode cX3_readStatement 77 = .ok (.ifCond .eq 7, 3) := by decide +kernel
theorem dX3_readStatement_80 : decode cX3_readStatement 80 = .ok (.iconst 1, 1) := by decide +kernel
theorem dX3_readStatement_81 : decode cX3_readStatement 81 = .ok (.goto 4, 3) := by decide +kernel
theorem dX3_readStatement_84 : decode cX3_readStatement 84 = .ok (.iconst 0, 1) := by decide +kernel
theorem dX3_readStatement_85 : decode cX3_readStatement 85 = .ok (.ireturn, 1) := by decide +kernel
theorem dX3_readStatement_86 : decode cX3_readStatement 86 = .ok (.aload_n 0, 1) := by decide +kernel
theorem dX3_readStatement_87 : decode cX3_readStatement 87 = .ok (.bipush 119, 2) := by decide +kernel
theorem dX3_readStatement_89 : decode cX3_readStatement 89 = .ok (.invokevirtual 48, 3) := by decide +kernel
theorem dX3_readStatement_92 : decode cX3_readStatement 92 = .ok (.ifCond .ne 12, 3) := by decide +kernel
theorem dX3_readStatement_95 : decode cX3_readStatement 95 = .ok (.aload_n 0, 1) := by decide +kernel
theorem dX3_readStatement_96 : decode cX3_readStatement 96 = .ok (.bipush 104, 2) := by decide +kernel
theorem dX3_readStatement_98 : decode cX3_readStatement 98 = .ok (.invokevirtual 48, 3) := by decide +kernel
theorem dX3_readStatement_101 : decode cX3_readStatement 101 = .ok (.ifCond .eq 27, 3) := by decide +kernel
theorem dX3_readStatement_104 : decode cX3_readStatement 104 = .ok (.aload_n 0, 1) := by decide +kernel
theorem dX3_readStatement_105 : decode cX3_readStatement 105 = .ok (.bipush 12, 2) := by decide +kernel
theorem dX3_readStatement_107 : decode cX3_readStatement 107 = .ok (.invokevirtual 52, 3) := by decide +kernel
theorem dX3_readStatement_110 : decode cX3_readStatement 110 = .ok (.ifCond .eq 16, 3) := by decide +kernel
theorem dX3_readStatement_113 : decode cX3_readStatement 113 = .ok (.aload_n 0, 1) := by decide +kernel
theorem dX3_readStatement_114 : decode cX3_readStatement 114 = .ok (.bipush 59, 2) := by decide +kernel
theorem dX3_readStatement_116 : decode cX3_readStatement 116 = .ok (.invokevirtual 48, 3) := by decide +kernel
theorem dX3_readStatement_119 : decode cX3_readStatement 119 = .ok (.ifCond .eq 7, 3) := by decide +kernel
theorem dX3_readStatement_122 : decode cX3_readStatement 122 = .ok (.iconst 1, 1) := by decide +kernel
theorem dX3_readStatement_123 : decode cX3_readStatement 123 = .ok (.goto 4, 3) := by decide +kernel
theorem dX3_readStatement_126 : decode cX3_readStatement 126 = .ok (.iconst 0, 1) := by decide +kernel
theorem dX3_readStatement_127 : decode cX3_readStatement 127 = .ok (.ireturn, 1) := by decide +kernel
theorem dX3_readStatement_128 : decode cX3_readStatement 128 = .ok (.aload_n 0, 1) := by decide +kernel
theorem dX3_readStatement_129 : decode cX3_readStatement 129 = .ok (.bipush 112, 2) := by decide +kernel
theorem dX3_readStatement_131 : decode cX3_readStatement 131 = .ok (.invokevirtual 48, 3) := by decide +kernel
theorem dX3_readStatement_134 : decode cX3_readStatement 134 = .ok (.ifCond .eq 65, 3) := by decide +kernel
theorem dX3_readStatement_137 : decode cX3_readStatement 137 = .ok (.aload_n 0, 1) := by decide +kernel
theorem dX3_readStatement_138 : decode cX3_readStatement 138 = .ok (.invokevirtual 56, 3) := by decide +kernel
theorem dX3_readStatement_141 : decode cX3_readStatement 141 = .ok (.ifCond .eq 58, 3) := by decide +kernel
theorem dX3_readStatement_144 : decode cX3_readStatement 144 = .ok (.aload_n 0, 1) := by decide +kernel
theorem dX3_readStatement_145 : decode cX3_readStatement 145 = .ok (.iconst 2, 1) := by decide +kernel
theorem dX3_readStatement_146 : decode cX3_readStatement 146 = .ok (.invokevirtual 52, 3) := by decide +kernel
theorem dX3_readStatement_149 : decode cX3_readStatement 149 = .ok (.ifCond .eq 50, 3) := by decide +kernel
theorem dX3_readStatement_152 : decode cX3_readStatement 152 = .ok (.aload_n 0, 1) := by decide +kernel
theorem dX3_readStatement_153 : decode cX3_readStatement 153 = .ok (.bipush 44, 2) := by decide +kernel
theorem dX3_readStatement_155 : decode cX3_readStatement 155 = .ok (.invokevirtual 48, 3) := by decide +kernel
theorem dX3_readStatement_158 : decode cX3_readStatement 158 = .ok (.ifCond .eq 41, 3) := by decide +kernel
theorem dX3_readStatement_161 : decode cX3_readStatement 161 = .ok (.aload_n 0, 1) := by decide +kernel
theorem dX3_readStatement_162 : decode cX3_readStatement 162 = .ok (.iconst 2, 1) := by decide +kernel
theorem dX3_readStatement_163 : decode cX3_readStatement 163 = .ok (.invokevirtual 52, 3) := by decide +kernel
theorem dX3_readStatement_166 : decode cX3_readStatement 166 = .ok (.ifCond .eq 33, 3) := by decide +kernel
theorem dX3_readStatement_169 : decode cX3_readStatement 169 = .ok (.aload_n 0, 1) := by decide +kernel
theorem dX3_readStatement_170 : decode cX3_readStatement 170 = .ok (.bipush 44, 2) := by decide +kernel
theorem dX3_readStatement_172 : decode cX3_readStatement 172 = .ok (.invokevirtual 48, 3) := by decide +kernel
theorem dX3_readStatement_175 : decode cX3_readStatement 175 = .ok (.ifCond .eq 24, 3) := by decide +kernel
theorem dX3_readStatement_178 : decode cX3_readStatement 178 = .ok (.aload_n 0, 1) := by decide +kernel
theorem dX3_readStatement_179 : decode cX3_readStatement 179 = .ok (.iconst 1, 1) := by decide +kernel
theorem dX3_readStatement_180 : decode cX3_readStatement 180 = .ok (.invokevirtual 52, 3) := by decide +kernel
theorem dX3_readStatement_183 : decode cX3_readStatement 183 = .ok (.ifCond .eq 16, 3) := by decide +kernel
theorem dX3_readStatement_186 : decode cX3_readStatement 186 = .ok (.aload_n 0, 1) := by decide +kernel
theorem dX3_readStatement_187 : decode cX3_readStatement 187 = .ok (.bipush 59, 2) := by decide +kernel
theorem dX3_readStatement_189 : decode cX3_readStatement 189 = .ok (.invokevirtual 48, 3) := by decide +kernel
theorem dX3_readStatement_192 : decode cX3_readStatement 192 = .ok (.ifCond .eq 7, 3) := by decide +kernel
theorem dX3_readStatement_195 : decode cX3_readStatement 195 = .ok (.iconst 1, 1) := by decide +kernel
theorem dX3_readStatement_196 : decode cX3_readStatement 196 = .ok (.goto 4, 3) := by decide +kernel
theorem dX3_readStatement_199 : decode cX3_readStatement 199 = .ok (.iconst 0, 1) := by decide +kernel
theorem dX3_readStatement_200 : decode cX3_readStatement 200 = .ok (.ireturn, 1) := by decide +kernel
theorem dX3_signHere_0 : decode cX3_signHere 0 = .ok (.aload_n 0, 1) := by decide +kernel
theorem dX3_signHere_1 : decode cX3_signHere 1 = .ok (.getfield 25, 3) := by decide +kernel
theorem dX3_signHere_4 : decode cX3_signHere 4 = .ok (.ifCond .lt 38, 3) := by decide +kernel
theorem dX3_signHere_7 : decode cX3_signHere 7 = .ok (.aload_n 0, 1) := by decide +kernel
theorem dX3_signHere_8 : decode cX3_signHere 8 = .ok (.getfield 25, 3) := by decide +kernel
theorem dX3_signHere_11 : decode cX3_signHere 11 = .ok (.aload_n 0, 1) := by decide +kernel
theorem dX3_signHere_12 : decode cX3_signHere 12 = .ok (.getfield 21, 3) := by decide +kernel
theorem dX3_signHere_15 : decode cX3_signHere 15 = .ok (.if_icmp .ge 27, 3) := by decide +kernel
theorem dX3_signHere_18 : decode cX3_signHere 18 = .ok (.aload_n 0, 1) := by decide +kernel
theorem dX3_signHere_19 : decode cX3_signHere 19 = .ok (.getfield 25, 3) := by decide +kernel
theorem dX3_signHere_22 : decode cX3_signHere 22 = .ok (.aload_n 0, 1) := by decide +kernel
theorem dX3_signHere_23 : decode cX3_signHere 23 = .ok (.getfield 9, 3) := by decide +kernel
theorem dX3_signHere_26 : decode cX3_signHere 26 = .ok (.arraylength, 1) := by decide +kernel
theorem dX3_signHere_27 : decode cX3_signHere 27 = .ok (.if_icmp .ge 15, 3) := by decide +kernel
theorem dX3_signHere_30 : decode cX3_signHere 30 = .ok (.aload_n 0, 1) := by decide +kernel
theorem dX3_signHere_31 : decode cX3_signHere 31 = .ok (.getfield 9, 3) := by decide +kernel
theorem dX3_signHere_34 : decode cX3_signHere 34 = .ok (.aload_n 0, 1) := by decide +kernel
theorem dX3_signHere_35 : decode cX3_signHere 35 = .ok (.getfield 25, 3) := by decide +kernel
theorem dX3_signHere_38 : decode cX3_signHere 38 = .ok (.iaload, 1) := by decide +kernel
theorem dX3_signHere_39 : decode cX3_signHere 39 = .ok (.goto 4, 3) := by decide +kernel
theorem dX3_signHere_42 : decode cX3_signHere 42 = .ok (.iconst (-1), 1) := by decide +kernel
theorem dX3_signHere_43 : decode cX3_signHere 43 = .ok (.ireturn, 1) := by decide +kernel
theorem dX3_takes_0 : decode cX3_takes 0 = .ok (.aload_n 0, 1) := by decide +kernel
theorem dX3_takes_1 : decode cX3_takes 1 = .ok (.invokevirtual 41, 3) := by decide +kernel
theorem dX3_takes_4 : decode cX3_takes 4 = .ok (.iload_n 1, 1) := by decide +kernel
theorem dX3_takes_5 : decode cX3_takes 5 = .ok (.if_icmp .eq 5, 3) := by decide +kernel
theorem dX3_takes_8 : decode cX3_takes 8 = .ok (.iconst 0, 1) := by decide +kernel
theorem dX3_takes_9 : decode cX3_takes 9 = .ok (.ireturn, 1) := by decide +kernel
theorem dX3_takes_10 : decode cX3_takes 10 = .ok (.aload_n 0, 1) := by decide +kernel
theorem dX3_takes_11 : decode cX3_takes 11 = .ok (.dup, 1) := by decide +kernel
theorem dX3_takes_12 : decode cX3_takes 12 = .ok (.getfield 25, 3) := by decide +kernel
theorem dX3_takes_15 : decode cX3_takes 15 = .ok (.iconst 1, 1) := by decide +kernel
theorem dX3_takes_16 : decode cX3_takes 16 = .ok (.iadd, 1) := by decide +kernel
theorem dX3_takes_17 : decode cX3_takes 17 = .ok (.putfield 25, 3) := by decide +kernel
theorem dX3_takes_20 : decode cX3_takes 20 = .ok (.iconst 1, 1) := by decide +kernel
theorem dX3_takes_21 : decode cX3_takes 21 = .ok (.ireturn, 1) := by decide +kernel
theorem dX3_readKind_0 : decode cX3_readKind 0 = .ok (.iconst 0, 1) := by decide +kernel
theorem dX3_readKind_1 : decode cX3_readKind 1 = .ok (.istore_n 1, 1) := by decide +kernel
theorem dX3_readKind_2 : decode cX3_readKind 2 = .ok (.iload_n 1, 1) := by decide +kernel
theorem dX3_readKind_3 : decode cX3_readKind 3 = .ok (.getstatic 59, 3) := by decide +kernel
theorem dX3_readKind_6 : decode cX3_readKind 6 = .ok (.arraylength, 1) := by decide +kernel
theorem dX3_readKind_7 : decode cX3_readKind 7 = .ok (.if_icmp .ge 28, 3) := by decide +kernel
theorem dX3_readKind_10 : decode cX3_readKind 10 = .ok (.aload_n 0, 1) := by decide +kernel
theorem dX3_readKind_11 : decode cX3_readKind 11 = .ok (.getstatic 59, 3) := by decide +kernel
theorem dX3_readKind_14 : decode cX3_readKind 14 = .ok (.iload_n 1, 1) := by decide +kernel
theorem dX3_readKind_15 : decode cX3_readKind 15 = .ok (.caload, 1) := by decide +kernel
theorem dX3_readKind_16 : decode cX3_readKind 16 = .ok (.invokevirtual 48, 3) := by decide +kernel
theorem dX3_readKind_19 : decode cX3_readKind 19 = .ok (.ifCond .eq 10, 3) := by decide +kernel
theorem dX3_readKind_22 : decode cX3_readKind 22 = .ok (.aload_n 0, 1) := by decide +kernel
theorem dX3_readKind_23 : decode cX3_readKind 23 = .ok (.iload_n 1, 1) := by decide +kernel
theorem dX3_readKind_24 : decode cX3_readKind 24 = .ok (.putfield 63, 3) := by decide +kernel
theorem dX3_readKind_27 : decode cX3_readKind 27 = .ok (.iconst 1, 1) := by decide +kernel
theorem dX3_readKind_28 : decode cX3_readKind 28 = .ok (.ireturn, 1) := by decide +kernel
theorem dX3_readKind_29 : decode cX3_readKind 29 = .ok (.iinc 1 1, 3) := by decide +kernel
theorem dX3_readKind_32 : decode cX3_readKind 32 = .ok (.goto (-30), 3) := by decide +kernel
theorem dX3_readKind_35 : decode cX3_readKind 35 = .ok (.iconst 0, 1) := by decide +kernel
theorem dX3_readKind_36 : decode cX3_readKind 36 = .ok (.ireturn, 1) := by decide +kernel
theorem dX3_readDigits_0 : decode cX3_readDigits 0 = .ok (.iconst 0, 1) := by decide +kernel
theorem dX3_readDigits_1 : decode cX3_readDigits 1 = .ok (.istore_n 2, 1) := by decide +kernel
theorem dX3_readDigits_2 : decode cX3_readDigits 2 = .ok (.aload_n 0, 1) := by decide +kernel
theorem dX3_readDigits_3 : decode cX3_readDigits 3 = .ok (.iconst 0, 1) := by decide +kernel
theorem dX3_readDigits_4 : decode cX3_readDigits 4 = .ok (.putfield 31, 3) := by decide +kernel
theorem dX3_readDigits_7 : decode cX3_readDigits 7 = .ok (.aload_n 0, 1) := by decide +kernel
theorem dX3_readDigits_8 : decode cX3_readDigits 8 = .ok (.getfield 31, 3) := by decide +kernel
theorem dX3_readDigits_11 : decode cX3_readDigits 11 = .ok (.iload_n 1, 1) := by decide +kernel
theorem dX3_readDigits_12 : decode cX3_readDigits 12 = .ok (.if_icmp .ge 76, 3) := by decide +kernel
theorem dX3_readDigits_15 : decode cX3_readDigits 15 = .ok (.aload_n 0, 1) := by decide +kernel
theorem dX3_readDigits_16 : decode cX3_readDigits 16 = .ok (.getfield 31, 3) := by decide +kernel
theorem dX3_readDigits_19 : decode cX3_readDigits 19 = .ok (.aload_n 0, 1) := by decide +kernel
theorem dX3_readDigits_20 : decode cX3_readDigits 20 = .ok (.getfield 18, 3) := by decide +kernel
theorem dX3_readDigits_23 : decode cX3_readDigits 23 = .ok (.arraylength, 1) := by decide +kernel
theorem dX3_readDigits_24 : decode cX3_readDigits 24 = .ok (.if_icmp .ge 64, 3) := by decide +kernel
theorem dX3_readDigits_27 : decode cX3_readDigits 27 = .ok (.aload_n 0, 1) := by decide +kernel
theorem dX3_readDigits_28 : decode cX3_readDigits 28 = .ok (.invokevirtual 66, 3) := by decide +kernel
theorem dX3_readDigits_31 : decode cX3_readDigits 31 = .ok (.ifCond .eq 57, 3) := by decide +kernel
theorem dX3_readDigits_34 : decode cX3_readDigits 34 = .ok (.aload_n 0, 1) := by decide +kernel
theorem dX3_readDigits_35 : decode cX3_readDigits 35 = .ok (.getfield 18, 3) := by decide +kernel
theorem dX3_readDigits_38 : decode cX3_readDigits 38 = .ok (.aload_n 0, 1) := by decide +kernel
theorem dX3_readDigits_39 : decode cX3_readDigits 39 = .ok (.getfield 31, 3) := by decide +kernel
theorem dX3_readDigits_42 : decode cX3_readDigits 42 = .ok (.aload_n 0, 1) := by decide +kernel
theorem dX3_readDigits_43 : decode cX3_readDigits 43 = .ok (.invokevirtual 41, 3) := by decide +kernel
theorem dX3_readDigits_46 : decode cX3_readDigits 46 = .ok (.bipush 48, 2) := by decide +kernel
theorem dX3_readDigits_48 : decode cX3_readDigits 48 = .ok (.isub, 1) := by decide +kernel
theorem dX3_readDigits_49 : decode cX3_readDigits 49 = .ok (.iastore, 1) := by decide +kernel
theorem dX3_readDigits_50 : decode cX3_readDigits 50 = .ok (.iload_n 2, 1) := by decide +kernel
theorem dX3_readDigits_51 : decode cX3_readDigits 51 = .ok (.bipush 10, 2) := by decide +kernel
theorem dX3_readDigits_53 : decode cX3_readDigits 53 = .ok (.imul, 1) := by decide +kernel
theorem dX3_readDigits_54 : decode cX3_readDigits 54 = .ok (.aload_n 0, 1) := by decide +kernel
theorem dX3_readDigits_55 : decode cX3_readDigits 55 = .ok (.getfield 18, 3) := by decide +kernel
theorem dX3_readDigits_58 : decode cX3_readDigits 58 = .ok (.aload_n 0, 1) := by decide +kernel
theorem dX3_readDigits_59 : decode cX3_readDigits 59 = .ok (.getfield 31, 3) := by decide +kernel
theorem dX3_readDigits_62 : decode cX3_readDigits 62 = .ok (.iaload, 1) := by decide +kernel
theorem dX3_readDigits_63 : decode cX3_readDigits 63 = .ok (.iadd, 1) := by decide +kernel
theorem dX3_readDigits_64 : decode cX3_readDigits 64 = .ok (.istore_n 2, 1) := by decide +kernel
theorem dX3_readDigits_65 : decode cX3_readDigits 65 = .ok (.aload_n 0, 1) := by decide +kernel
theorem dX3_readDigits_66 : decode cX3_readDigits 66 = .ok (.dup, 1) := by decide +kernel
theorem dX3_readDigits_67 : decode cX3_readDigits 67 = .ok (.getfield 31, 3) := by decide +kernel
theorem dX3_readDigits_70 : decode cX3_readDigits 70 = .ok (.iconst 1, 1) := by decide +kernel
theorem dX3_readDigits_71 : decode cX3_readDigits 71 = .ok (.iadd, 1) := by decide +kernel
theorem dX3_readDigits_72 : decode cX3_readDigits 72 = .ok (.putfield 31, 3) := by decide +kernel
theorem dX3_readDigits_75 : decode cX3_readDigits 75 = .ok (.aload_n 0, 1) := by decide +kernel
theorem dX3_readDigits_76 : decode cX3_readDigits 76 = .ok (.dup, 1) := by decide +kernel
theorem dX3_readDigits_77 : decode cX3_readDigits 77 = .ok (.getfield 25, 3) := by decide +kernel
theorem dX3_readDigits_80 : decode cX3_readDigits 80 = .ok (.iconst 1, 1) := by decide +kernel
theorem dX3_readDigits_81 : decode cX3_readDigits 81 = .ok (.iadd, 1) := by decide +kernel
theorem dX3_readDigits_82 : decode cX3_readDigits 82 = .ok (.putfield 25, 3) := by decide +kernel
theorem dX3_readDigits_85 : decode cX3_readDigits 85 = .ok (.goto (-78), 3) := by decide +kernel
theorem dX3_readDigits_88 : decode cX3_readDigits 88 = .ok (.aload_n 0, 1) := by decide +kernel
theorem dX3_readDigits_89 : decode cX3_readDigits 89 = .ok (.getfield 28, 3) := by decide +kernel
theorem dX3_readDigits_92 : decode cX3_readDigits 92 = .ok (.aload_n 0, 1) := by decide +kernel
theorem dX3_readDigits_93 : decode cX3_readDigits 93 = .ok (.getfield 15, 3) := by decide +kernel
theorem dX3_readDigits_96 : decode cX3_readDigits 96 = .ok (.arraylength, 1) := by decide +kernel
theorem dX3_readDigits_97 : decode cX3_readDigits 97 = .ok (.if_icmp .ge 23, 3) := by decide +kernel
theorem dX3_readDigits_100 : decode cX3_readDigits 100 = .ok (.aload_n 0, 1) := by decide +kernel
theorem dX3_readDigits_101 : decode cX3_readDigits 101 = .ok (.getfield 15, 3) := by decide +kernel
theorem dX3_readDigits_104 : decode cX3_readDigits 104 = .ok (.aload_n 0, 1) := by decide +kernel
theorem dX3_readDigits_105 : decode cX3_readDigits 105 = .ok (.getfield 28, 3) := by decide +kernel
theorem dX3_readDigits_108 : decode cX3_readDigits 108 = .ok (.iload_n 2, 1) := by decide +kernel
theorem dX3_readDigits_109 : decode cX3_readDigits 109 = .ok (.iastore, 1) := by decide +kernel
theorem dX3_readDigits_110 : decode cX3_readDigits 110 = .ok (.aload_n 0, 1) := by decide +kernel
theorem dX3_readDigits_111 : decode cX3_readDigits 111 = .ok (.dup, 1) := by decide +kernel
theorem dX3_readDigits_112 : decode cX3_readDigits 112 = .ok (.getfield 28, 3) := by decide +kernel
theorem dX3_readDigits_115 : decode cX3_readDigits 115 = .ok (.iconst 1, 1) := by decide +kernel
theorem dX3_readDigits_116 : decode cX3_readDigits 116 = .ok (.iadd, 1) := by decide +kernel
theorem dX3_readDigits_117 : decode cX3_readDigits 117 = .ok (.putfield 28, 3) := by decide +kernel
theorem dX3_readDigits_120 : decode cX3_readDigits 120 = .ok (.aload_n 0, 1) := by decide +kernel
theorem dX3_readDigits_121 : decode cX3_readDigits 121 = .ok (.getfield 31, 3) := by decide +kernel
theorem dX3_readDigits_124 : decode cX3_readDigits 124 = .ok (.ifCond .le 7, 3) := by decide +kernel
theorem dX3_readDigits_127 : decode cX3_readDigits 127 = .ok (.iconst 1, 1) := by decide +kernel
theorem dX3_readDigits_128 : decode cX3_readDigits 128 = .ok (.goto 4, 3) := by decide +kernel
theorem dX3_readDigits_131 : decode cX3_readDigits 131 = .ok (.iconst 0, 1) := by decide +kernel
theorem dX3_readDigits_132 : decode cX3_readDigits 132 = .ok (.ireturn, 1) := by decide +kernel
theorem dX3_isDigitHere_0 : decode cX3_isDigitHere 0 = .ok (.aload_n 0, 1) := by decide +kernel
theorem dX3_isDigitHere_1 : decode cX3_isDigitHere 1 = .ok (.invokevirtual 41, 3) := by decide +kernel
theorem dX3_isDigitHere_4 : decode cX3_isDigitHere 4 = .ok (.istore_n 1, 1) := by decide +kernel
theorem dX3_isDigitHere_5 : decode cX3_isDigitHere 5 = .ok (.iload_n 1, 1) := by decide +kernel
theorem dX3_isDigitHere_6 : decode cX3_isDigitHere 6 = .ok (.bipush 48, 2) := by decide +kernel
theorem dX3_isDigitHere_8 : decode cX3_isDigitHere 8 = .ok (.if_icmp .lt 13, 3) := by decide +kernel
theorem dX3_isDigitHere_11 : decode cX3_isDigitHere 11 = .ok (.iload_n 1, 1) := by decide +kernel
theorem dX3_isDigitHere_12 : decode cX3_isDigitHere 12 = .ok (.bipush 57, 2) := by decide +kernel
theorem dX3_isDigitHere_14 : decode cX3_isDigitHere 14 = .ok (.if_icmp .gt 7, 3) := by decide +kernel
theorem dX3_isDigitHere_17 : decode cX3_isDigitHere 17 = .ok (.iconst 1, 1) := by decide +kernel
theorem dX3_isDigitHere_18 : decode cX3_isDigitHere 18 = .ok (.goto 4, 3) := by decide +kernel
theorem dX3_isDigitHere_21 : decode cX3_isDigitHere 21 = .ok (.iconst 0, 1) := by decide +kernel
theorem dX3_isDigitHere_22 : decode cX3_isDigitHere 22 = .ok (.ireturn, 1) := by decide +kernel
theorem dX4_init_0 : decode cX4_init 0 = .ok (.aload_n 0, 1) := by decide +kernel
theorem dX4_init_1 : decode cX4_init 1 = .ok (.invokespecial 3, 3) := by decide +kernel
theorem dX4_init_4 : decode cX4_init 4 = .ok (.aload_n 0, 1) := by decide +kernel
theorem dX4_init_5 : decode cX4_init 5 = .ok (.sipush 2187, 3) := by decide +kernel
theorem dX4_init_8 : decode cX4_init 8 = .ok (.newarray .int, 2) := by decide +kernel
theorem dX4_init_10 : decode cX4_init 10 = .ok (.putfield 9, 3) := by decide +kernel
theorem dX4_init_13 : decode cX4_init 13 = .ok (.aload_n 0, 1) := by decide +kernel
theorem dX4_init_14 : decode cX4_init 14 = .ok (.bipush 7, 2) := by decide +kernel
theorem dX4_init_16 : decode cX4_init 16 = .ok (.newarray .int, 2) := by decide +kernel
theorem dX4_init_18 : decode cX4_init 18 = .ok (.putfield 15, 3) := by decide +kernel
theorem dX4_init_21 : decode cX4_init 21 = .ok (.aload_n 0, 1) := by decide +kernel
theorem dX4_init_22 : decode cX4_init 22 = .ok (.bipush 13, 2) := by decide +kernel
theorem dX4_init_24 : decode cX4_init 24 = .ok (.newarray .int, 2) := by decide +kernel
theorem dX4_init_26 : decode cX4_init 26 = .ok (.putfield 18, 3) := by decide +kernel
theorem dX4_init_29 : decode cX4_init 29 = .ok (.return_, 1) := by decide +kernel
theorem dX4_lead_0 : decode cX4_lead 0 = .ok (.aload_n 0, 1) := by decide +kernel
theorem dX4_lead_1 : decode cX4_lead 1 = .ok (.aload_n 1, 1) := by decide +kernel
theorem dX4_lead_2 : decode cX4_lead 2 = .ok (.getfield 21, 3) := by decide +kernel
theorem dX4_lead_5 : decode cX4_lead 5 = .ok (.putfield 27, 3) := by decide +kernel
theorem dX4_lead_8 : decode cX4_lead 8 = .ok (.aload_n 0, 1) := by decide +kernel
theorem dX4_lead_9 : decode cX4_lead 9 = .ok (.aload_n 1, 1) := by decide +kernel
theorem dX4_lead_10 : decode cX4_lead 10 = .ok (.getfield 28, 3) := by decide +kernel
theorem dX4_lead_13 : decode cX4_lead 13 = .ok (.putfield 31, 3) := by decide +kernel
theorem dX4_lead_16 : decode cX4_lead 16 = .ok (.aload_n 0, 1) := by decide +kernel
theorem dX4_lead_17 : decode cX4_lead 17 = .ok (.getfield 9, 3) := by decide +kernel
theorem dX4_lead_20 : decode cX4_lead 20 = .ok (.iconst 0, 1) := by decide +kernel
theorem dX4_lead_21 : decode cX4_lead 21 = .ok (.iload_n 2, 1) := by decide +kernel
theorem dX4_lead_22 : decode cX4_lead 22 = .ok (.iastore, 1) := by decide +kernel
theorem dX4_lead_23 : decode cX4_lead 23 = .ok (.aload_n 0, 1) := by decide +kernel
theorem dX4_lead_24 : decode cX4_lead 24 = .ok (.iconst 1, 1) := by decide +kernel
theorem dX4_lead_25 : decode cX4_lead 25 = .ok (.putfield 32, 3) := by decide +kernel
theorem dX4_lead_28 : decode cX4_lead 28 = .ok (.aload_n 0, 1) := by decide +kernel
theorem dX4_lead_29 : decode cX4_lead 29 = .ok (.getfield 27, 3) := by decide +kernel
theorem dX4_lead_32 : decode cX4_lead 32 = .ok (.iconst 1, 1) := by decide +kernel
theorem dX4_lead_33 : decode cX4_lead 33 = .ok (.isub, 1) := by decide +kernel
theorem dX4_lead_34 : decode cX4_lead 34 = .ok (.istore_n 3, 1) := by decide +kernel
theorem dX4_lead_35 : decode cX4_lead 35 = .ok (.iload_n 3, 1) := by decide +kernel
theorem dX4_lead_36 : decode cX4_lead 36 = .ok (.ifCond .lt 37, 3) := by decide +kernel
theorem dX4_lead_39 : decode cX4_lead 39 = .ok (.iload_n 3, 1) := by decide +kernel
theorem dX4_lead_40 : decode cX4_lead 40 = .ok (.aload_n 0, 1) := by decide +kernel
theorem dX4_lead_41 : decode cX4_lead 41 = .ok (.getfield 15, 3) := by decide +kernel
theorem dX4_lead_44 : decode cX4_lead 44 = .ok (.arraylength, 1) := by decide +kernel
theorem dX4_lead_45 : decode cX4_lead 45 = .ok (.if_icmp .ge 22, 3) := by decide +kernel
theorem dX4_lead_48 : decode cX4_lead 48 = .ok (.aload_n 0, 1) := by decide +kernel
theorem dX4_lead_49 : decode cX4_lead 49 = .ok (.getfield 15, 3) := by decide +kernel
theorem dX4_lead_52 : decode cX4_lead 52 = .ok (.iload_n 3, 1) := by decide +kernel
theorem dX4_lead_53 : decode cX4_lead 53 = .ok (.aload_n 0, 1) := by decide +kernel
theorem dX4_lead_54 : decode cX4_lead 54 = .ok (.getfield 32, 3) := by decide +kernel
theorem dX4_lead_57 : decode cX4_lead 57 = .ok (.iastore, 1) := by decide +kernel
theorem dX4_lead_58 : decode cX4_lead 58 = .ok (.aload_n 0, 1) := by decide +kernel
theorem dX4_lead_59 : decode cX4_lead 59 = .ok (.aload_n 1, 1) := by decide +kernel
theorem dX4_lead_60 : decode cX4_lead 60 = .ok (.iload_n 3, 1) := by decide +kernel
theorem dX4_lead_61 : decode cX4_lead 61 = .ok (.invokevirtual 35, 3) := by decide +kernel
theorem dX4_lead_64 : decode cX4_lead 64 = .ok (.invokevirtual 39, 3) := by decide +kernel
theorem dX4_lead_67 : decode cX4_lead 67 = .ok (.iinc 3 (-1), 3) := by decide +kernel
theorem dX4_lead_70 : decode cX4_lead 70 = .ok (.goto (-35), 3) := by decide +kernel
theorem dX4_lead_73 : decode cX4_lead 73 = .ok (.return_, 1) := by decide +kernel
theorem dX4_goOnceMore_0 : decode cX4_goOnceMore 0 = .ok (.aload_n 0, 1) := by decide +kernel
theorem dX4_goOnceMore_1 : decode cX4_goOnceMore 1 = .ok (.getfield 32, 3) := by decide +kernel
theorem dX4_goOnceMore_4 : decode cX4_goOnceMore 4 = .ok (.istore_n 2, 1) := by decide +kernel
theorem dX4_goOnceMore_5 : decode cX4_goOnceMore 5 = .ok (.iload_n 2, 1) := by decide +kernel
theorem dX4_goOnceMore_6 : decode cX4_goOnceMore 6 = .ok (.aload_n 0, 1) := by decide +kernel
theorem dX4_goOnceMore_7 : decode cX4_goOnceMore 7 = .ok (.getfield 31, 3) := by decide +kernel
theorem dX4_goOnceMore_10 : decode cX4_goOnceMore 10 = .ok (.imul, 1) := by decide +kernel
theorem dX4_goOnceMore_11 : decode cX4_goOnceMore 11 = .ok (.istore_n 3, 1) := by decide +kernel
theorem dX4_goOnceMore_12 : decode cX4_goOnceMore 12 = .ok (.iload_n 2, 1) := by decide +kernel
theorem dX4_goOnceMore_13 : decode cX4_goOnceMore 13 = .ok (.istore 4, 2) := by decide +kernel
theorem dX4_goOnceMore_15 : decode cX4_goOnceMore 15 = .ok (.iload 4, 2) := by decide +kernel
theorem dX4_goOnceMore_17 : decode cX4_goOnceMore 17 = .ok (.iload_n 3, 1) := by decide +kernel
theorem dX4_goOnceMore_18 : decode cX4_goOnceMore 18 = .ok (.if_icmp .ge 43, 3) := by decide +kernel
theorem dX4_goOnceMore_21 : decode cX4_goOnceMore 21 = .ok (.iload 4, 2) := by decide +kernel
theorem dX4_goOnceMore_23 : decode cX4_goOnceMore 23 = .ok (.aload_n 0, 1) := by decide +kernel
theorem dX4_goOnceMore_24 : decode cX4_goOnceMore 24 = .ok (.getfield 9, 3) := by decide +kernel
theorem dX4_goOnceMore_27 : decode cX4_goOnceMore 27 = .ok (.arraylength, 1) := by decide +kernel
theorem dX4_goOnceMore_28 : decode cX4_goOnceMore 28 = .ok (.if_icmp .ge 33, 3) := by decide +kernel
theorem dX4_goOnceMore_31 : decode cX4_goOnceMore 31 = .ok (.aload_n 0, 1) := by decide +kernel
theorem dX4_goOnceMore_32 : decode cX4_goOnceMore 32 = .ok (.getfield 9, 3) := by decide +kernel
theorem dX4_goOnceMore_35 : decode cX4_goOnceMore 35 = .ok (.iload 4, 2) := by decide +kernel
theorem dX4_goOnceMore_37 : decode cX4_goOnceMore 37 = .ok (.aload_n 0, 1) := by decide +kernel
theorem dX4_goOnceMore_38 : decode cX4_goOnceMore 38 = .ok (.getfield 9, 3) := by decide +kernel
theorem dX4_goOnceMore_41 : decode cX4_goOnceMore 41 = .ok (.iload 4, 2) := by decide +kernel
theorem dX4_goOnceMore_43 : decode cX4_goOnceMore 43 = .ok (.iload_n 2, 1) := by decide +kernel
theorem dX4_goOnceMore_44 : decode cX4_goOnceMore 44 = .ok (.isub, 1) := by decide +kernel
theorem dX4_goOnceMore_45 : decode cX4_goOnceMore 45 = .ok (.iaload, 1) := by decide +kernel
theorem dX4_goOnceMore_46 : decode cX4_goOnceMore 46 = .ok (.iload_n 1, 1) := by decide +kernel
theorem dX4_goOnceMore_47 : decode cX4_goOnceMore 47 = .ok (.aload_n 0, 1) := by decide +kernel
theorem dX4_goOnceMore_48 : decode cX4_goOnceMore 48 = .ok (.getfield 31, 3) := by decide +kernel
theorem dX4_goOnceMore_51 : decode cX4_goOnceMore 51 = .ok (.invokestatic 43, 3) := by decide +kernel
theorem dX4_goOnceMore_54 : decode cX4_goOnceMore 54 = .ok (.iastore, 1) := by decide +kernel
theorem dX4_goOnceMore_55 : decode cX4_goOnceMore 55 = .ok (.iinc 4 1, 3) := by decide +kernel
theorem dX4_goOnceMore_58 : decode cX4_goOnceMore 58 = .ok (.goto (-43), 3) := by decide +kernel
theorem dX4_goOnceMore_61 : decode cX4_goOnceMore 61 = .ok (.aload_n 0, 1) := by decide +kernel
theorem dX4_goOnceMore_62 : decode cX4_goOnceMore 62 = .ok (.iload_n 3, 1) := by decide +kernel
theorem dX4_goOnceMore_63 : decode cX4_goOnceMore 63 = .ok (.putfield 32, 3) := by decide +kernel
theorem dX4_goOnceMore_66 : decode cX4_goOnceMore 66 = .ok (.return_, 1) := by decide +kernel
theorem dX4_endOf_0 : decode cX4_endOf 0 = .ok (.iload_n 1, 1) := by decide +kernel
theorem dX4_endOf_1 : decode cX4_endOf 1 = .ok (.ifCond .lt 29, 3) := by decide +kernel
theorem dX4_endOf_4 : decode cX4_endOf 4 = .ok (.iload_n 1, 1) := by decide +kernel
theorem dX4_endOf_5 : decode cX4_endOf 5 = .ok (.aload_n 0, 1) := by decide +kernel
theorem dX4_endOf_6 : decode cX4_endOf 6 = .ok (.getfield 32, 3) := by decide +kernel
theorem dX4_endOf_9 : decode cX4_endOf 9 = .ok (.if_icmp .ge 21, 3) := by decide +kernel
theorem dX4_endOf_12 : decode cX4_endOf 12 = .ok (.iload_n 1, 1) := by decide +kernel
theorem dX4_endOf_13 : decode cX4_endOf 13 = .ok (.aload_n 0, 1) := by decide +kernel
theorem dX4_endOf_14 : decode cX4_endOf 14 = .ok (.getfield 9, 3) := by decide +kernel
theorem dX4_endOf_17 : decode cX4_endOf 17 = .ok (.arraylength, 1) := by decide +kernel
theorem dX4_endOf_18 : decode cX4_endOf 18 = .ok (.if_icmp .ge 12, 3) := by decide +kernel
theorem dX4_endOf_21 : decode cX4_endOf 21 = .ok (.aload_n 0, 1) := by decide +kernel
theorem dX4_endOf_22 : decode cX4_endOf 22 = .ok (.getfield 9, 3) := by decide +kernel
theorem dX4_endOf_25 : decode cX4_endOf 25 = .ok (.iload_n 1, 1) := by decide +kernel
theorem dX4_endOf_26 : decode cX4_endOf 26 = .ok (.iaload, 1) := by decide +kernel
theorem dX4_endOf_27 : decode cX4_endOf 27 = .ok (.goto 4, 3) := by decide +kernel
theorem dX4_endOf_30 : decode cX4_endOf 30 = .ok (.iconst 0, 1) := by decide +kernel
theorem dX4_endOf_31 : decode cX4_endOf 31 = .ok (.ireturn, 1) := by decide +kernel
theorem dX4_endingAt_0 : decode cX4_endingAt 0 = .ok (.iconst 0, 1) := by decide +kernel
theorem dX4_endingAt_1 : decode cX4_endingAt 1 = .ok (.istore_n 2, 1) := by decide +kernel
theorem dX4_endingAt_2 : decode cX4_endingAt 2 = .ok (.iconst 0, 1) := by decide +kernel
theorem dX4_endingAt_3 : decode cX4_endingAt 3 = .ok (.istore_n 3, 1) := by decide +kernel
theorem dX4_endingAt_4 : decode cX4_endingAt 4 = .ok (.iload_n 3, 1) := by decide +kernel
theorem dX4_endingAt_5 : decode cX4_endingAt 5 = .ok (.aload_n 0, 1) := by decide +kernel
theorem dX4_endingAt_6 : decode cX4_endingAt 6 = .ok (.getfield 32, 3) := by decide +kernel
theorem dX4_endingAt_9 : decode cX4_endingAt 9 = .ok (.if_icmp .ge 21, 3) := by decide +kernel
theorem dX4_endingAt_12 : decode cX4_endingAt 12 = .ok (.aload_n 0, 1) := by decide +kernel
theorem dX4_endingAt_13 : decode cX4_endingAt 13 = .ok (.iload_n 3, 1) := by decide +kernel
theorem dX4_endingAt_14 : decode cX4_endingAt 14 = .ok (.invokevirtual 47, 3) := by decide +kernel
theorem dX4_endingAt_17 : decode cX4_endingAt 17 = .ok (.iload_n 1, 1) := by decide +kernel
theorem dX4_endingAt_18 : decode cX4_endingAt 18 = .ok (.if_icmp .ne 6, 3) := by decide +kernel
theorem dX4_endingAt_21 : decode cX4_endingAt 21 = .ok (.iinc 2 1, 3) := by decide +kernel
theorem dX4_endingAt_24 : decode cX4_endingAt 24 = .ok (.iinc 3 1, 3) := by decide +kernel
theorem dX4_endingAt_27 : decode cX4_endingAt 27 = .ok (.goto (-23), 3) := by decide +kernel
theorem dX4_endingAt_30 : decode cX4_endingAt 30 = .ok (.iload_n 2, 1) := by decide +kernel
theorem dX4_endingAt_31 : decode cX4_endingAt 31 = .ok (.ireturn, 1) := by decide +kernel
theorem dX4_weightOf_0 : decode cX4_weightOf 0 = .ok (.iload_n 1, 1) := by decide +kernel
theorem dX4_weightOf_1 : decode cX4_weightOf 1 = .ok (.ifCond .lt 29, 3) := by decide +kernel
theorem dX4_weightOf_4 : decode cX4_weightOf 4 = .ok (.iload_n 1, 1) := by decide +kernel
theorem dX4_weightOf_5 : decode cX4_weightOf 5 = .ok (.aload_n 0, 1) := by decide +kernel
theorem dX4_weightOf_6 : decode cX4_weightOf 6 = .ok (.getfield 27, 3) := by decide +kernel
theorem dX4_weightOf_9 : decode cX4_weightOf 9 = .ok (.if_icmp .ge 21, 3) := by decide +kernel
theorem dX4_weightOf_12 : decode cX4_weightOf 12 = .ok (.iload_n 1, 1) := by decide +kernel
theorem dX4_weightOf_13 : decode cX4_weightOf 13 = .ok (.aload_n 0, 1) := by decide +kernel
theorem dX4_weightOf_14 : decode cX4_weightOf 14 = .ok (.getfield 15, 3) := by decide +kernel
theorem dX4_weightOf_17 : decode cX4_weightOf 17 = .ok (.arraylength, 1) := by decide +kernel
theorem dX4_weightOf_18 : decode cX4_weightOf 18 = .ok (.if_icmp .ge 12, 3) := by decide +kernel
theorem dX4_weightOf_21 : decode cX4_weightOf 21 = .ok (.aload_n 0, 1) := by decide +kernel
theorem dX4_weightOf_22 : decode cX4_weightOf 22 = .ok (.getfield 15, 3) := by decide +kernel
theorem dX4_weightOf_25 : decode cX4_weightOf 25 = .ok (.iload_n 1, 1) := by decide +kernel
theorem dX4_weightOf_26 : decode cX4_weightOf 26 = .ok (.iaload, 1) := by decide +kernel
theorem dX4_weightOf_27 : decode cX4_weightOf 27 = .ok (.goto 4, 3) := by decide +kernel
theorem dX4_weightOf_30 : decode cX4_weightOf 30 = .ok (.iconst 0, 1) := by decide +kernel
theorem dX4_weightOf_31 : decode cX4_weightOf 31 = .ok (.ireturn, 1) := by decide +kernel
theorem dX4_timesIn_0 : decode cX4_timesIn 0 = .ok (.iload_n 1, 1) := by decide +kernel
theorem dX4_timesIn_1 : decode cX4_timesIn 1 = .ok (.aload_n 0, 1) := by decide +kernel
theorem dX4_timesIn_2 : decode cX4_timesIn 2 = .ok (.iload_n 2, 1) := by decide +kernel
theorem dX4_timesIn_3 : decode cX4_timesIn 3 = .ok (.invokevirtual 50, 3) := by decide +kernel
theorem dX4_timesIn_6 : decode cX4_timesIn 6 = .ok (.invokestatic 53, 3) := by decide +kernel
theorem dX4_timesIn_9 : decode cX4_timesIn 9 = .ok (.aload_n 0, 1) := by decide +kernel
theorem dX4_timesIn_10 : decode cX4_timesIn 10 = .ok (.getfield 31, 3) := by decide +kernel
theorem dX4_timesIn_13 : decode cX4_timesIn 13 = .ok (.invokestatic 57, 3) := by decide +kernel
theorem dX4_timesIn_16 : decode cX4_timesIn 16 = .ok (.ireturn, 1) := by decide +kernel
theorem dX4_goingsIn_0 : decode cX4_goingsIn 0 = .ok (.iconst 0, 1) := by decide +kernel
theorem dX4_goingsIn_1 : decode cX4_goingsIn 1 = .ok (.istore_n 2, 1) := by decide +kernel
theorem dX4_goingsIn_2 : decode cX4_goingsIn 2 = .ok (.iconst 0, 1) := by decide +kernel
theorem dX4_goingsIn_3 : decode cX4_goingsIn 3 = .ok (.istore_n 3, 1) := by decide +kernel
theorem dX4_goingsIn_4 : decode cX4_goingsIn 4 = .ok (.iload_n 3, 1) := by decide +kernel
theorem dX4_goingsIn_5 : decode cX4_goingsIn 5 = .ok (.aload_n 0, 1) := by decide +kernel
theorem dX4_goingsIn_6 : decode cX4_goingsIn 6 = .ok (.getfield 27, 3) := by decide +kernel
theorem dX4_goingsIn_9 : decode cX4_goingsIn 9 = .ok (.if_icmp .ge 18, 3) := by decide +kernel
theorem dX4_goingsIn_12 : decode cX4_goingsIn 12 = .ok (.iload_n 2, 1) := by decide +kernel
theorem dX4_goingsIn_13 : decode cX4_goingsIn 13 = .ok (.aload_n 0, 1) := by decide +kernel
theorem dX4_goingsIn_14 : decode cX4_goingsIn 14 = .ok (.iload_n 1, 1) := by decide +kernel
theorem dX4_goingsIn_15 : decode cX4_goingsIn 15 = .ok (.iload_n 3, 1) := by decide +kernel
theorem dX4_goingsIn_16 : decode cX4_goingsIn 16 = .ok (.invokevirtual 60, 3) := by decide +kernel
theorem dX4_goingsIn_19 : decode cX4_goingsIn 19 = .ok (.iadd, 1) := by decide +kernel
theorem dX4_goingsIn_20 : decode cX4_goingsIn 20 = .ok (.istore_n 2, 1) := by decide +kernel
theorem dX4_goingsIn_21 : decode cX4_goingsIn 21 = .ok (.iinc 3 1, 3) := by decide +kernel
theorem dX4_goingsIn_24 : decode cX4_goingsIn 24 = .ok (.goto (-20), 3) := by decide +kernel
theorem dX4_goingsIn_27 : decode cX4_goingsIn 27 = .ok (.iload_n 2, 1) := by decide +kernel
theorem dX4_goingsIn_28 : decode cX4_goingsIn 28 = .ok (.ireturn, 1) := by decide +kernel
theorem dX4_costOf_0 : decode cX4_costOf 0 = .ok (.iconst 0, 1) := by decide +kernel
theorem dX4_costOf_1 : decode cX4_costOf 1 = .ok (.istore_n 3, 1) := by decide +kernel
theorem dX4_costOf_2 : decode cX4_costOf 2 = .ok (.iconst 0, 1) := by decide +kernel
theorem dX4_costOf_3 : decode cX4_costOf 3 = .ok (.istore 4, 2) := by decide +kernel
theorem dX4_costOf_5 : decode cX4_costOf 5 = .ok (.iload 4, 2) := by decide +kernel
theorem dX4_costOf_7 : decode cX4_costOf 7 = .ok (.aload_n 0, 1) := by decide +kernel
theorem dX4_costOf_8 : decode cX4_costOf 8 = .ok (.getfield 27, 3) := by decide +kernel
theorem dX4_costOf_11 : decode cX4_costOf 11 = .ok (.if_icmp .ge 38, 3) := by decide +kernel
theorem dX4_costOf_14 : decode cX4_costOf 14 = .ok (.aload_n 2, 1) := by decide +kernel
theorem dX4_costOf_15 : decode cX4_costOf 15 = .ok (.iload 4, 2) := by decide +kernel
theorem dX4_costOf_17 : decode cX4_costOf 17 = .ok (.invokevirtual 63, 3) := by decide +kernel
theorem dX4_costOf_20 : decode cX4_costOf 20 = .ok (.astore 5, 2) := by decide +kernel
theorem dX4_costOf_22 : decode cX4_costOf 22 = .ok (.aload 5, 2) := by decide +kernel
theorem dX4_costOf_24 : decode cX4_costOf 24 = .ok (.ifnull 19, 3) := by decide +kernel
theorem dX4_costOf_27 : decode cX4_costOf 27 = .ok (.iload_n 3, 1) := by decide +kernel
theorem dX4_costOf_28 : decode cX4_costOf 28 = .ok (.aload_n 0, 1) := by decide +kernel
theorem dX4_costOf_29 : decode cX4_costOf 29 = .ok (.iload_n 1, 1) := by decide +kernel
theorem dX4_costOf_30 : decode cX4_costOf 30 = .ok (.iload 4, 2) := by decide +kernel
theorem dX4_costOf_32 : decode cX4_costOf 32 = .ok (.invokevirtual 60, 3) := by decide +kernel
theorem dX4_costOf_35 : decode cX4_costOf 35 = .ok (.aload 5, 2) := by decide +kernel
theorem dX4_costOf_37 : decode cX4_costOf 37 = .ok (.getfield 67, 3) := by decide +kernel
theorem dX4_costOf_40 : decode cX4_costOf 40 = .ok (.imul, 1) := by decide +kernel
theorem dX4_costOf_41 : decode cX4_costOf 41 = .ok (.iadd, 1) := by decide +kernel
theorem dX4_costOf_42 : decode cX4_costOf 42 = .ok (.istore_n 3, 1) := by decide +kernel
theorem dX4_costOf_43 : decode cX4_costOf 43 = .ok (.iinc 4 1, 3) := by decide +kernel
theorem dX4_costOf_46 : decode cX4_costOf 46 = .ok (.goto (-41), 3) := by decide +kernel
theorem dX4_costOf_49 : decode cX4_costOf 49 = .ok (.iload_n 3, 1) := by decide +kernel
theorem dX4_costOf_50 : decode cX4_costOf 50 = .ok (.ireturn, 1) := by decide +kernel
theorem dX4_goersIn_0 : decode cX4_goersIn 0 = .ok (.iconst 0, 1) := by decide +kernel
theorem dX4_goersIn_1 : decode cX4_goersIn 1 = .ok (.istore_n 2, 1) := by decide +kernel
theorem dX4_goersIn_2 : decode cX4_goersIn 2 = .ok (.iconst 0, 1) := by decide +kernel
theorem dX4_goersIn_3 : decode cX4_goersIn 3 = .ok (.istore_n 3, 1) := by decide +kernel
theorem dX4_goersIn_4 : decode cX4_goersIn 4 = .ok (.iload_n 3, 1) := by decide +kernel
theorem dX4_goersIn_5 : decode cX4_goersIn 5 = .ok (.aload_n 0, 1) := by decide +kernel
theorem dX4_goersIn_6 : decode cX4_goersIn 6 = .ok (.getfield 27, 3) := by decide +kernel
theorem dX4_goersIn_9 : decode cX4_goersIn 9 = .ok (.if_icmp .ge 24, 3) := by decide +kernel
theorem dX4_goersIn_12 : decode cX4_goersIn 12 = .ok (.aload_n 0, 1) := by decide +kernel
theorem dX4_goersIn_13 : decode cX4_goersIn 13 = .ok (.iload_n 1, 1) := by decide +kernel
theorem dX4_goersIn_14 : decode cX4_goersIn 14 = .ok (.iload_n 3, 1) := by decide +kernel
theorem dX4_goersIn_15 : decode cX4_goersIn 15 = .ok (.invokevirtual 60, 3) := by decide +kernel
theorem dX4_goersIn_18 : decode cX4_goersIn 18 = .ok (.ifCond .le 9, 3) := by decide +kernel
theorem dX4_goersIn_21 : decode cX4_goersIn 21 = .ok (.iload_n 2, 1) := by decide +kernel
theorem dX4_goersIn_22 : decode cX4_goersIn 22 = .ok (.iconst 1, 1) := by decide +kernel
theorem dX4_goersIn_23 : decode cX4_goersIn 23 = .ok (.iload_n 3, 1) := by decide +kernel
theorem dX4_goersIn_24 : decode cX4_goersIn 24 = .ok (.ishl, 1) := by decide +kernel
theorem dX4_goersIn_25 : decode cX4_goersIn 25 = .ok (.ior, 1) := by decide +kernel
theorem dX4_goersIn_26 : decode cX4_goersIn 26 = .ok (.istore_n 2, 1) := by decide +kernel
theorem dX4_goersIn_27 : decode cX4_goersIn 27 = .ok (.iinc 3 1, 3) := by decide +kernel
theorem dX4_goersIn_30 : decode cX4_goersIn 30 = .ok (.goto (-26), 3) := by decide +kernel
theorem dX4_goersIn_33 : decode cX4_goersIn 33 = .ok (.iload_n 2, 1) := by decide +kernel
theorem dX4_goersIn_34 : decode cX4_goersIn 34 = .ok (.ireturn, 1) := by decide +kernel
theorem dX4_before_0 : decode cX4_before 0 = .ok (.aload_n 0, 1) := by decide +kernel
theorem dX4_before_1 : decode cX4_before 1 = .ok (.iload_n 2, 1) := by decide +kernel
theorem dX4_before_2 : decode cX4_before 2 = .ok (.invokevirtual 50, 3) := by decide +kernel
theorem dX4_before_5 : decode cX4_before 5 = .ok (.istore_n 3, 1) := by decide +kernel
theorem dX4_before_6 : decode cX4_before 6 = .ok (.aload_n 0, 1) := by decide +kernel
theorem dX4_before_7 : decode cX4_before 7 = .ok (.iload_n 1, 1) := by decide +kernel
theorem dX4_before_8 : decode cX4_before 8 = .ok (.iload_n 2, 1) := by decide +kernel
theorem dX4_before_9 : decode cX4_before 9 = .ok (.invokevirtual 60, 3) := by decide +kernel
theorem dX4_before_12 : decode cX4_before 12 = .ok (.ifCond .le 9, 3) := by decide +kernel
theorem dX4_before_15 : decode cX4_before 15 = .ok (.iload_n 1, 1) := by decide +kernel
theorem dX4_before_16 : decode cX4_before 16 = .ok (.iload_n 3, 1) := by decide +kernel
theorem dX4_before_17 : decode cX4_before 17 = .ok (.isub, 1) := by decide +kernel
theorem dX4_before_18 : decode cX4_before 18 = .ok (.goto 13, 3) := by decide +kernel
theorem dX4_before_21 : decode cX4_before 21 = .ok (.iload_n 1, 1) := by decide +kernel
theorem dX4_before_22 : decode cX4_before 22 = .ok (.aload_n 0, 1) := by decide +kernel
theorem dX4_before_23 : decode cX4_before 23 = .ok (.getfield 31, 3) := by decide +kernel
theorem dX4_before_26 : decode cX4_before 26 = .ok (.iconst 1, 1) := by decide +kernel
theorem dX4_before_27 : decode cX4_before 27 = .ok (.isub, 1) := by decide +kernel
theorem dX4_before_28 : decode cX4_before 28 = .ok (.iload_n 3, 1) := by decide +kernel
theorem dX4_before_29 : decode cX4_before 29 = .ok (.imul, 1) := by decide +kernel
theorem dX4_before_30 : decode cX4_before 30 = .ok (.iadd, 1) := by decide +kernel
theorem dX4_before_31 : decode cX4_before 31 = .ok (.ireturn, 1) := by decide +kernel
theorem dX4_bringAll_0 : decode cX4_bringAll 0 = .ok (.iconst 0, 1) := by decide +kernel
theorem dX4_bringAll_1 : decode cX4_bringAll 1 = .ok (.istore_n 3, 1) := by decide +kernel
theorem dX4_bringAll_2 : decode cX4_bringAll 2 = .ok (.iload_n 3, 1) := by decide +kernel
theorem dX4_bringAll_3 : decode cX4_bringAll 3 = .ok (.aload_n 0, 1) := by decide +kernel
theorem dX4_bringAll_4 : decode cX4_bringAll 4 = .ok (.getfield 18, 3) := by decide +kernel
theorem dX4_bringAll_7 : decode cX4_bringAll 7 = .ok (.arraylength, 1) := by decide +kernel
theorem dX4_bringAll_8 : decode cX4_bringAll 8 = .ok (.if_icmp .ge 16, 3) := by decide +kernel
theorem dX4_bringAll_11 : decode cX4_bringAll 11 = .ok (.aload_n 0, 1) := by decide +kernel
theorem dX4_bringAll_12 : decode cX4_bringAll 12 = .ok (.getfield 18, 3) := by decide +kernel
theorem dX4_bringAll_15 : decode cX4_bringAll 15 = .ok (.iload_n 3, 1) := by decide +kernel
theorem dX4_bringAll_16 : decode cX4_bringAll 16 = .ok (.iconst 0, 1) := by decide +kernel
theorem dX4_bringAll_17 : decode cX4_bringAll 17 = .ok (.iastore, 1) := by decide +kernel
theorem dX4_bringAll_18 : decode cX4_bringAll 18 = .ok (.iinc 3 1, 3) := by decide +kernel
theorem dX4_bringAll_21 : decode cX4_bringAll 21 = .ok (.goto (-19), 3) := by decide +kernel
theorem dX4_bringAll_24 : decode cX4_bringAll 24 = .ok (.iconst 0, 1) := by decide +kernel
theorem dX4_bringAll_25 : decode cX4_bringAll 25 = .ok (.istore_n 3, 1) := by decide +kernel
theorem dX4_bringAll_26 : decode cX4_bringAll 26 = .ok (.iconst 0, 1) := by decide +kernel
theorem dX4_bringAll_27 : decode cX4_bringAll 27 = .ok (.istore 4, 2) := by decide +kernel
theorem dX4_bringAll_29 : decode cX4_bringAll 29 = .ok (.iload 4, 2) := by decide +kernel
theorem dX4_bringAll_31 : decode cX4_bringAll 31 = .ok (.aload_n 1, 1) := by decide +kernel
theorem dX4_bringAll_32 : decode cX4_bringAll 32 = .ok (.getfield 21, 3) := by decide +kernel
theorem dX4_bringAll_35 : decode cX4_bringAll 35 = .ok (.if_icmp .ge 35, 3) := by decide +kernel
theorem dX4_bringAll_38 : decode cX4_bringAll 38 = .ok (.iload_n 2, 1) := by decide +kernel
theorem dX4_bringAll_39 : decode cX4_bringAll 39 = .ok (.iload 4, 2) := by decide +kernel
theorem dX4_bringAll_41 : decode cX4_bringAll 41 = .ok (.ishr, 1) := by decide +kernel
theorem dX4_bringAll_42 : decode cX4_bringAll 42 = .ok (.iconst 1, 1) := by decide +kernel
theorem dX4_bringAll_43 : decode cX4_bringAll 43 = .ok (.iand, 1) := by decide +kernel
theorem dX4_bringAll_44 : decode cX4_bringAll 44 = .ok (.ifCond .eq 20, 3) := by decide +kernel
theorem dX4_bringAll_47 : decode cX4_bringAll 47 = .ok (.aload_n 0, 1) := by decide +kernel
theorem dX4_bringAll_48 : decode cX4_bringAll 48 = .ok (.aload_n 1, 1) := by decide +kernel
theorem dX4_bringAll_49 : decode cX4_bringAll 49 = .ok (.aload_n 1, 1) := by decide +kernel
theorem dX4_bringAll_50 : decode cX4_bringAll 50 = .ok (.iload 4, 2) := by decide +kernel
theorem dX4_bringAll_52 : decode cX4_bringAll 52 = .ok (.invokevirtual 35, 3) := by decide +kernel
theorem dX4_bringAll_55 : decode cX4_bringAll 55 = .ok (.invokevirtual 72, 3) := by decide +kernel
theorem dX4_bringAll_58 : decode cX4_bringAll 58 = .ok (.ifCond .eq 6, 3) := by decide +kernel
theorem dX4_bringAll_61 : decode cX4_bringAll 61 = .ok (.iinc 3 1, 3) := by decide +kernel
theorem dX4_bringAll_64 : decode cX4_bringAll 64 = .ok (.iinc 4 1, 3) := by decide +kernel
theorem dX4_bringAll_67 : decode cX4_bringAll 67 = .ok (.goto (-38), 3) := by decide +kernel
theorem dX4_bringAll_70 : decode cX4_bringAll 70 = .ok (.iload_n 3, 1) := by decide +kernel
theorem dX4_bringAll_71 : decode cX4_bringAll 71 = .ok (.aload_n 1, 1) := by decide +kernel
theorem dX4_bringAll_72 : decode cX4_bringAll 72 = .ok (.getfield 76, 3) := by decide +kernel
theorem dX4_bringAll_75 : decode cX4_bringAll 75 = .ok (.if_icmp .ne 7, 3) := by decide +kernel
theorem dX4_bringAll_78 : decode cX4_bringAll 78 = .ok (.iconst 1, 1) := by decide +kernel
theorem dX4_bringAll_79 : decode cX4_bringAll 79 = .ok (.goto 4, 3) := by decide +kernel
theorem dX4_bringAll_82 : decode cX4_bringAll 82 = .ok (.iconst 0, 1) := by decide +kernel
theorem dX4_bringAll_83 : decode cX4_bringAll 83 = .ok (.ireturn, 1) := by decide +kernel
theorem dX4_findPivot_0 : decode cX4_findPivot 0 = .ok (.iload_n 2, 1) := by decide +kernel
theorem dX4_findPivot_1 : decode cX4_findPivot 1 = .ok (.istore_n 3, 1) := by decide +kernel
theorem dX4_findPivot_2 : decode cX4_findPivot 2 = .ok (.iconst 1, 1) := by decide +kernel
theorem dX4_findPivot_3 : decode cX4_findPivot 3 = .ok (.istore 4, 2) := by decide +kernel
theorem dX4_findPivot_5 : decode cX4_findPivot 5 = .ok (.iload 4, 2) := by decide +kernel
theorem dX4_findPivot_7 : decode cX4_findPivot 7 = .ok (.aload_n 1, 1) := by decide +kernel
theorem dX4_findPivot_8 : decode cX4_findPivot 8 = .ok (.getfield 76, 3) := by decide +kernel
theorem dX4_findPivot_11 : decode cX4_findPivot 11 = .ok (.if_icmp .gt 99, 3) := by decide +kernel
theorem dX4_findPivot_14 : decode cX4_findPivot 14 = .ok (.iload 4, 2) := by decide +kernel
theorem dX4_findPivot_16 : decode cX4_findPivot 16 = .ok (.aload_n 0, 1) := by decide +kernel
theorem dX4_findPivot_17 : decode cX4_findPivot 17 = .ok (.getfield 18, 3) := by decide +kernel
theorem dX4_findPivot_20 : decode cX4_findPivot 20 = .ok (.arraylength, 1) := by decide +kernel
theorem dX4_findPivot_21 : decode cX4_findPivot 21 = .ok (.if_icmp .ge 89, 3) := by decide +kernel
theorem dX4_findPivot_24 : decode cX4_findPivot 24 = .ok (.iload_n 3, 1) := by decide +kernel
theorem dX4_findPivot_25 : decode cX4_findPivot 25 = .ok (.iload 4, 2) := by decide +kernel
theorem dX4_findPivot_27 : decode cX4_findPivot 27 = .ok (.invokestatic 79, 3) := by decide +kernel
theorem dX4_findPivot_30 : decode cX4_findPivot 30 = .ok (.istore 5, 2) := by decide +kernel
theorem dX4_findPivot_32 : decode cX4_findPivot 32 = .ok (.iload 5, 2) := by decide +kernel
theorem dX4_findPivot_34 : decode cX4_findPivot 34 = .ok (.ifCond .eq 70, 3) := by decide +kernel
theorem dX4_findPivot_37 : decode cX4_findPivot 37 = .ok (.aload_n 0, 1) := by decide +kernel
theorem dX4_findPivot_38 : decode cX4_findPivot 38 = .ok (.getfield 18, 3) := by decide +kernel
theorem dX4_findPivot_41 : decode cX4_findPivot 41 = .ok (.iload 4, 2) := by decide +kernel
theorem dX4_findPivot_43 : decode cX4_findPivot 43 = .ok (.iaload, 1) := by decide +kernel
theorem dX4_findPivot_44 : decode cX4_findPivot 44 = .ok (.ifCond .ne 13, 3) := by decide +kernel
theorem dX4_findPivot_47 : decode cX4_findPivot 47 = .ok (.aload_n 0, 1) := by decide +kernel
theorem dX4_findPivot_48 : decode cX4_findPivot 48 = .ok (.getfield 18, 3) := by decide +kernel
theorem dX4_findPivot_51 : decode cX4_findPivot 51 = .ok (.iload 4, 2) := by decide +kernel
theorem dX4_findPivot_53 : decode cX4_findPivot 53 = .ok (.iload_n 3, 1) := by decide +kernel
theorem dX4_findPivot_54 : decode cX4_findPivot 54 = .ok (.iastore, 1) := by decide +kernel
theorem dX4_findPivot_55 : decode cX4_findPivot 55 = .ok (.iconst 1, 1) := by decide +kernel
theorem dX4_findPivot_56 : decode cX4_findPivot 56 = .ok (.ireturn, 1) := by decide +kernel
theorem dX4_findPivot_57 : decode cX4_findPivot 57 = .ok (.iload 5, 2) := by decide +kernel
theorem dX4_findPivot_59 : decode cX4_findPivot 59 = .ok (.aload_n 0, 1) := by decide +kernel
theorem dX4_findPivot_60 : decode cX4_findPivot 60 = .ok (.getfield 18, 3) := by decide +kernel
theorem dX4_findPivot_63 : decode cX4_findPivot 63 = .ok (.iload 4, 2) := by decide +kernel
theorem dX4_findPivot_65 : decode cX4_findPivot 65 = .ok (.iaload, 1) := by decide +kernel
theorem dX4_findPivot_66 : decode cX4_findPivot 66 = .ok (.iload 4, 2) := by decide +kernel
theorem dX4_findPivot_68 : decode cX4_findPivot 68 = .ok (.invokestatic 79, 3) := by decide +kernel
theorem dX4_findPivot_71 : decode cX4_findPivot 71 = .ok (.if_icmp .ne 12, 3) := by decide +kernel
theorem dX4_findPivot_74 : decode cX4_findPivot 74 = .ok (.aload_n 1, 1) := by decide +kernel
theorem dX4_findPivot_75 : decode cX4_findPivot 75 = .ok (.getfield 28, 3) := by decide +kernel
theorem dX4_findPivot_78 : decode cX4_findPivot 78 = .ok (.iconst 1, 1) := by decide +kernel
theorem dX4_findPivot_79 : decode cX4_findPivot 79 = .ok (.isub, 1) := by decide +kernel
theorem dX4_findPivot_80 : decode cX4_findPivot 80 = .ok (.goto 4, 3) := by decide +kernel
theorem dX4_findPivot_83 : decode cX4_findPivot 83 = .ok (.iconst 1, 1) := by decide +kernel
theorem dX4_findPivot_84 : decode cX4_findPivot 84 = .ok (.istore 6, 2) := by decide +kernel
theorem dX4_findPivot_86 : decode cX4_findPivot 86 = .ok (.iload_n 3, 1) := by decide +kernel
theorem dX4_findPivot_87 : decode cX4_findPivot 87 = .ok (.aload_n 0, 1) := by decide +kernel
theorem dX4_findPivot_88 : decode cX4_findPivot 88 = .ok (.getfield 18, 3) := by decide +kernel
theorem dX4_findPivot_91 : decode cX4_findPivot 91 = .ok (.iload 4, 2) := by decide +kernel
theorem dX4_findPivot_93 : decode cX4_findPivot 93 = .ok (.iaload, 1) := by decide +kernel
theorem dX4_findPivot_94 : decode cX4_findPivot 94 = .ok (.iload 6, 2) := by decide +kernel
theorem dX4_findPivot_96 : decode cX4_findPivot 96 = .ok (.aload_n 1, 1) := by decide +kernel
theorem dX4_findPivot_97 : decode cX4_findPivot 97 = .ok (.getfield 28, 3) := by decide +kernel
theorem dX4_findPivot_100 : decode cX4_findPivot 100 = .ok (.invokestatic 82, 3) := by decide +kernel
theorem dX4_findPivot_103 : decode cX4_findPivot 103 = .ok (.istore_n 3, 1) := by decide +kernel
theorem dX4_findPivot_104 : decode cX4_findPivot 104 = .ok (.iinc 4 1, 3) := by decide +kernel
theorem dX4_findPivot_107 : decode cX4_findPivot 107 = .ok (.goto (-102), 3) := by decide +kernel
theorem dX4_findPivot_110 : decode cX4_findPivot 110 = .ok (.iconst 0, 1) := by decide +kernel
theorem dX4_findPivot_111 : decode cX4_findPivot 111 = .ok (.ireturn, 1) := by decide +kernel
theorem dX4_added_0 : decode cX4_added 0 = .ok (.iload_n 0, 1) := by decide +kernel
theorem dX4_added_1 : decode cX4_added 1 = .ok (.istore 4, 2) := by decide +kernel
theorem dX4_added_3 : decode cX4_added 3 = .ok (.iconst 0, 1) := by decide +kernel
end
section
theorem dX4_added_4 : decode cX4_added 4 = .ok (.istore 5, 2) := by decide +kernel
theorem dX4_added_6 : decode cX4_added 6 = .ok (.iload 5, 2) := by decide +kernel
theorem dX4_added_8 : decode cX4_added 8 = .ok (.iload_n 2, 1) := by decide +kernel
theorem dX4_added_9 : decode cX4_added 9 = .ok (.if_icmp .ge 46, 3) := by decide +kernel
theorem dX4_added_12 : decode cX4_added 12 = .ok (.iload 4, 2) := by decide +kernel
theorem dX4_added_14 : decode cX4_added 14 = .ok (.iload_n 1, 1) := by decide +kernel
theorem dX4_added_15 : decode cX4_added 15 = .ok (.sipush 4095, 3) := by decide +kernel
theorem dX4_added_18 : decode cX4_added 18 = .ok (.iand, 1) := by decide +kernel
theorem dX4_added_19 : decode cX4_added 19 = .ok (.iload_n 3, 1) := by decide +kernel
theorem dX4_added_20 : decode cX4_added 20 = .ok (.invokestatic 43, 3) := by decide +kernel
theorem dX4_added_23 : decode cX4_added 23 = .ok (.istore 4, 2) := by decide +kernel
theorem dX4_added_25 : decode cX4_added 25 = .ok (.iload 4, 2) := by decide +kernel
theorem dX4_added_27 : decode cX4_added 27 = .ok (.iload_n 1, 1) := by decide +kernel
theorem dX4_added_28 : decode cX4_added 28 = .ok (.bipush 12, 2) := by decide +kernel
theorem dX4_added_30 : decode cX4_added 30 = .ok (.ishr, 1) := by decide +kernel
theorem dX4_added_31 : decode cX4_added 31 = .ok (.iload_n 3, 1) := by decide +kernel
theorem dX4_added_32 : decode cX4_added 32 = .ok (.invokestatic 43, 3) := by decide +kernel
theorem dX4_added_35 : decode cX4_added 35 = .ok (.istore 4, 2) := by decide +kernel
theorem dX4_added_37 : decode cX4_added 37 = .ok (.iload 4, 2) := by decide +kernel
theorem dX4_added_39 : decode cX4_added 39 = .ok (.iload_n 1, 1) := by decide +kernel
theorem dX4_added_40 : decode cX4_added 40 = .ok (.bipush 12, 2) := by decide +kernel
theorem dX4_added_42 : decode cX4_added 42 = .ok (.ishr, 1) := by decide +kernel
theorem dX4_added_43 : decode cX4_added 43 = .ok (.iload_n 3, 1) := by decide +kernel
theorem dX4_added_44 : decode cX4_added 44 = .ok (.invokestatic 43, 3) := by decide +kernel
theorem dX4_added_47 : decode cX4_added 47 = .ok (.istore 4, 2) := by decide +kernel
theorem dX4_added_49 : decode cX4_added 49 = .ok (.iinc 5 1, 3) := by decide +kernel
theorem dX4_added_52 : decode cX4_added 52 = .ok (.goto (-46), 3) := by decide +kernel
theorem dX4_added_55 : decode cX4_added 55 = .ok (.iload 4, 2) := by decide +kernel
theorem dX4_added_57 : decode cX4_added 57 = .ok (.ireturn, 1) := by decide +kernel
theorem dX5_init_0 : decode cX5_init 0 = .ok (.aload_n 0, 1) := by decide +kernel
theorem dX5_init_1 : decode cX5_init 1 = .ok (.invokespecial 1, 3) := by decide +kernel
theorem dX5_init_4 : decode cX5_init 4 = .ok (.aload_n 0, 1) := by decide +kernel
theorem dX5_init_5 : decode cX5_init 5 = .ok (.new 7, 3) := by decide +kernel
theorem dX5_init_8 : decode cX5_init 8 = .ok (.dup, 1) := by decide +kernel
theorem dX5_init_9 : decode cX5_init 9 = .ok (.invokespecial 9, 3) := by decide +kernel
theorem dX5_init_12 : decode cX5_init 12 = .ok (.putfield 10, 3) := by decide +kernel
theorem dX5_init_15 : decode cX5_init 15 = .ok (.aload_n 0, 1) := by decide +kernel
theorem dX5_init_16 : decode cX5_init 16 = .ok (.new 16, 3) := by decide +kernel
theorem dX5_init_19 : decode cX5_init 19 = .ok (.dup, 1) := by decide +kernel
theorem dX5_init_20 : decode cX5_init 20 = .ok (.invokespecial 18, 3) := by decide +kernel
theorem dX5_init_23 : decode cX5_init 23 = .ok (.putfield 19, 3) := by decide +kernel
theorem dX5_init_26 : decode cX5_init 26 = .ok (.aload_n 0, 1) := by decide +kernel
theorem dX5_init_27 : decode cX5_init 27 = .ok (.new 16, 3) := by decide +kernel
theorem dX5_init_30 : decode cX5_init 30 = .ok (.dup, 1) := by decide +kernel
theorem dX5_init_31 : decode cX5_init 31 = .ok (.invokespecial 18, 3) := by decide +kernel
theorem dX5_init_34 : decode cX5_init 34 = .ok (.putfield 23, 3) := by decide +kernel
theorem dX5_init_37 : decode cX5_init 37 = .ok (.aload_n 0, 1) := by decide +kernel
theorem dX5_init_38 : decode cX5_init 38 = .ok (.new 16, 3) := by decide +kernel
theorem dX5_init_41 : decode cX5_init 41 = .ok (.dup, 1) := by decide +kernel
theorem dX5_init_42 : decode cX5_init 42 = .ok (.invokespecial 18, 3) := by decide +kernel
theorem dX5_init_45 : decode cX5_init 45 = .ok (.putfield 26, 3) := by decide +kernel
theorem dX5_init_48 : decode cX5_init 48 = .ok (.aload_n 0, 1) := by decide +kernel
theorem dX5_init_49 : decode cX5_init 49 = .ok (.new 29, 3) := by decide +kernel
theorem dX5_init_52 : decode cX5_init 52 = .ok (.dup, 1) := by decide +kernel
theorem dX5_init_53 : decode cX5_init 53 = .ok (.invokespecial 31, 3) := by decide +kernel
theorem dX5_init_56 : decode cX5_init 56 = .ok (.putfield 32, 3) := by decide +kernel
theorem dX5_init_59 : decode cX5_init 59 = .ok (.aload_n 0, 1) := by decide +kernel
theorem dX5_init_60 : decode cX5_init 60 = .ok (.new 36, 3) := by decide +kernel
theorem dX5_init_63 : decode cX5_init 63 = .ok (.dup, 1) := by decide +kernel
theorem dX5_init_64 : decode cX5_init 64 = .ok (.invokespecial 38, 3) := by decide +kernel
theorem dX5_init_67 : decode cX5_init 67 = .ok (.putfield 39, 3) := by decide +kernel
theorem dX5_init_70 : decode cX5_init 70 = .ok (.aload_n 0, 1) := by decide +kernel
theorem dX5_init_71 : decode cX5_init 71 = .ok (.bipush 13, 2) := by decide +kernel
theorem dX5_init_73 : decode cX5_init 73 = .ok (.newarray .int, 2) := by decide +kernel
theorem dX5_init_75 : decode cX5_init 75 = .ok (.putfield 43, 3) := by decide +kernel
theorem dX5_init_78 : decode cX5_init 78 = .ok (.aload_n 0, 1) := by decide +kernel
theorem dX5_init_79 : decode cX5_init 79 = .ok (.bipush 7, 2) := by decide +kernel
theorem dX5_init_81 : decode cX5_init 81 = .ok (.newarray .int, 2) := by decide +kernel
theorem dX5_init_83 : decode cX5_init 83 = .ok (.putfield 47, 3) := by decide +kernel
theorem dX5_init_86 : decode cX5_init 86 = .ok (.return_, 1) := by decide +kernel
theorem dX5_letter_0 : decode cX5_letter 0 = .ok (.iload_n 1, 1) := by decide +kernel
theorem dX5_letter_1 : decode cX5_letter 1 = .ok (.ifCond .ge 9, 3) := by decide +kernel
theorem dX5_letter_4 : decode cX5_letter 4 = .ok (.aload_n 0, 1) := by decide +kernel
theorem dX5_letter_5 : decode cX5_letter 5 = .ok (.iconst 4, 1) := by decide +kernel
theorem dX5_letter_6 : decode cX5_letter 6 = .ok (.invokevirtual 50, 3) := by decide +kernel
theorem dX5_letter_9 : decode cX5_letter 9 = .ok (.ireturn, 1) := by decide +kernel
theorem dX5_letter_10 : decode cX5_letter 10 = .ok (.iload_n 1, 1) := by decide +kernel
theorem dX5_letter_11 : decode cX5_letter 11 = .ok (.sipush 255, 3) := by decide +kernel
theorem dX5_letter_14 : decode cX5_letter 14 = .ok (.if_icmp .gt 15, 3) := by decide +kernel
theorem dX5_letter_17 : decode cX5_letter 17 = .ok (.aload_n 0, 1) := by decide +kernel
theorem dX5_letter_18 : decode cX5_letter 18 = .ok (.getfield 10, 3) := by decide +kernel
theorem dX5_letter_21 : decode cX5_letter 21 = .ok (.getfield 54, 3) := by decide +kernel
theorem dX5_letter_24 : decode cX5_letter 24 = .ok (.bipush 64, 2) := by decide +kernel
theorem dX5_letter_26 : decode cX5_letter 26 = .ok (.if_icmp .lt 10, 3) := by decide +kernel
theorem dX5_letter_29 : decode cX5_letter 29 = .ok (.aload_n 0, 1) := by decide +kernel
theorem dX5_letter_30 : decode cX5_letter 30 = .ok (.bipush 6, 2) := by decide +kernel
theorem dX5_letter_32 : decode cX5_letter 32 = .ok (.invokevirtual 50, 3) := by decide +kernel
theorem dX5_letter_35 : decode cX5_letter 35 = .ok (.ireturn, 1) := by decide +kernel
theorem dX5_letter_36 : decode cX5_letter 36 = .ok (.aload_n 0, 1) := by decide +kernel
theorem dX5_letter_37 : decode cX5_letter 37 = .ok (.getfield 10, 3) := by decide +kernel
theorem dX5_letter_40 : decode cX5_letter 40 = .ok (.iload_n 1, 1) := by decide +kernel
theorem dX5_letter_41 : decode cX5_letter 41 = .ok (.invokevirtual 58, 3) := by decide +kernel
theorem dX5_letter_44 : decode cX5_letter 44 = .ok (.ireturn, 1) := by decide +kernel
theorem dX5_house_0 : decode cX5_house 0 = .ok (.aload_n 0, 1) := by decide +kernel
theorem dX5_house_1 : decode cX5_house 1 = .ok (.invokevirtual 61, 3) := by decide +kernel
theorem dX5_house_4 : decode cX5_house 4 = .ok (.istore_n 1, 1) := by decide +kernel
theorem dX5_house_5 : decode cX5_house 5 = .ok (.aload_n 0, 1) := by decide +kernel
theorem dX5_house_6 : decode cX5_house 6 = .ok (.getfield 10, 3) := by decide +kernel
theorem dX5_house_9 : decode cX5_house 9 = .ok (.invokevirtual 65, 3) := by decide +kernel
theorem dX5_house_12 : decode cX5_house 12 = .ok (.iload_n 1, 1) := by decide +kernel
theorem dX5_house_13 : decode cX5_house 13 = .ok (.ireturn, 1) := by decide +kernel
theorem dX5_readHouse_0 : decode cX5_readHouse 0 = .ok (.aload_n 0, 1) := by decide +kernel
theorem dX5_readHouse_1 : decode cX5_readHouse 1 = .ok (.getfield 10, 3) := by decide +kernel
theorem dX5_readHouse_4 : decode cX5_readHouse 4 = .ok (.invokevirtual 68, 3) := by decide +kernel
theorem dX5_readHouse_7 : decode cX5_readHouse 7 = .ok (.istore_n 1, 1) := by decide +kernel
theorem dX5_readHouse_8 : decode cX5_readHouse 8 = .ok (.iload_n 1, 1) := by decide +kernel
theorem dX5_readHouse_9 : decode cX5_readHouse 9 = .ok (.ifCond .lt 9, 3) := by decide +kernel
theorem dX5_readHouse_12 : decode cX5_readHouse 12 = .ok (.sipush (-1000), 3) := by decide +kernel
theorem dX5_readHouse_15 : decode cX5_readHouse 15 = .ok (.iload_n 1, 1) := by decide +kernel
theorem dX5_readHouse_16 : decode cX5_readHouse 16 = .ok (.isub, 1) := by decide +kernel
theorem dX5_readHouse_17 : decode cX5_readHouse 17 = .ok (.ireturn, 1) := by decide +kernel
theorem dX5_readHouse_18 : decode cX5_readHouse 18 = .ok (.aload_n 0, 1) := by decide +kernel
theorem dX5_readHouse_19 : decode cX5_readHouse 19 = .ok (.getfield 23, 3) := by decide +kernel
theorem dX5_readHouse_22 : decode cX5_readHouse 22 = .ok (.aload_n 0, 1) := by decide +kernel
theorem dX5_readHouse_23 : decode cX5_readHouse 23 = .ok (.getfield 19, 3) := by decide +kernel
theorem dX5_readHouse_26 : decode cX5_readHouse 26 = .ok (.invokevirtual 71, 3) := by decide +kernel
theorem dX5_readHouse_29 : decode cX5_readHouse 29 = .ok (.aload_n 0, 1) := by decide +kernel
theorem dX5_readHouse_30 : decode cX5_readHouse 30 = .ok (.getfield 10, 3) := by decide +kernel
theorem dX5_readHouse_33 : decode cX5_readHouse 33 = .ok (.invokevirtual 75, 3) := by decide +kernel
theorem dX5_readHouse_36 : decode cX5_readHouse 36 = .ok (.iconst 0, 1) := by decide +kernel
theorem dX5_readHouse_37 : decode cX5_readHouse 37 = .ok (.istore_n 2, 1) := by decide +kernel
theorem dX5_readHouse_38 : decode cX5_readHouse 38 = .ok (.aload_n 0, 1) := by decide +kernel
theorem dX5_readHouse_39 : decode cX5_readHouse 39 = .ok (.getfield 10, 3) := by decide +kernel
theorem dX5_readHouse_42 : decode cX5_readHouse 42 = .ok (.getfield 78, 3) := by decide +kernel
theorem dX5_readHouse_45 : decode cX5_readHouse 45 = .ok (.aload_n 0, 1) := by decide +kernel
theorem dX5_readHouse_46 : decode cX5_readHouse 46 = .ok (.getfield 10, 3) := by decide +kernel
theorem dX5_readHouse_49 : decode cX5_readHouse 49 = .ok (.getfield 54, 3) := by decide +kernel
theorem dX5_readHouse_52 : decode cX5_readHouse 52 = .ok (.if_icmp .ge 53, 3) := by decide +kernel
theorem dX5_readHouse_55 : decode cX5_readHouse 55 = .ok (.iload_n 2, 1) := by decide +kernel
theorem dX5_readHouse_56 : decode cX5_readHouse 56 = .ok (.bipush 64, 2) := by decide +kernel
theorem dX5_readHouse_58 : decode cX5_readHouse 58 = .ok (.if_icmp .ge 47, 3) := by decide +kernel
theorem dX5_readHouse_61 : decode cX5_readHouse 61 = .ok (.aload_n 0, 1) := by decide +kernel
theorem dX5_readHouse_62 : decode cX5_readHouse 62 = .ok (.getfield 10, 3) := by decide +kernel
theorem dX5_readHouse_65 : decode cX5_readHouse 65 = .ok (.getfield 78, 3) := by decide +kernel
theorem dX5_readHouse_68 : decode cX5_readHouse 68 = .ok (.istore_n 3, 1) := by decide +kernel
theorem dX5_readHouse_69 : decode cX5_readHouse 69 = .ok (.aload_n 0, 1) := by decide +kernel
theorem dX5_readHouse_70 : decode cX5_readHouse 70 = .ok (.getfield 10, 3) := by decide +kernel
theorem dX5_readHouse_73 : decode cX5_readHouse 73 = .ok (.invokevirtual 81, 3) := by decide +kernel
theorem dX5_readHouse_76 : decode cX5_readHouse 76 = .ok (.ifCond .eq 17, 3) := by decide +kernel
theorem dX5_readHouse_79 : decode cX5_readHouse 79 = .ok (.aload_n 0, 1) := by decide +kernel
theorem dX5_readHouse_80 : decode cX5_readHouse 80 = .ok (.getfield 23, 3) := by decide +kernel
theorem dX5_readHouse_83 : decode cX5_readHouse 83 = .ok (.aload_n 0, 1) := by decide +kernel
theorem dX5_readHouse_84 : decode cX5_readHouse 84 = .ok (.getfield 10, 3) := by decide +kernel
theorem dX5_readHouse_87 : decode cX5_readHouse 87 = .ok (.invokevirtual 85, 3) := by decide +kernel
theorem dX5_readHouse_90 : decode cX5_readHouse 90 = .ok (.ifCond .ne 9, 3) := by decide +kernel
theorem dX5_readHouse_93 : decode cX5_readHouse 93 = .ok (.sipush (-2000), 3) := by decide +kernel
theorem dX5_readHouse_96 : decode cX5_readHouse 96 = .ok (.iload_n 3, 1) := by decide +kernel
theorem dX5_readHouse_97 : decode cX5_readHouse 97 = .ok (.isub, 1) := by decide +kernel
theorem dX5_readHouse_98 : decode cX5_readHouse 98 = .ok (.ireturn, 1) := by decide +kernel
theorem dX5_readHouse_99 : decode cX5_readHouse 99 = .ok (.iinc 2 1, 3) := by decide +kernel
theorem dX5_readHouse_102 : decode cX5_readHouse 102 = .ok (.goto (-64), 3) := by decide +kernel
theorem dX5_readHouse_105 : decode cX5_readHouse 105 = .ok (.aload_n 0, 1) := by decide +kernel
theorem dX5_readHouse_106 : decode cX5_readHouse 106 = .ok (.getfield 19, 3) := by decide +kernel
theorem dX5_readHouse_109 : decode cX5_readHouse 109 = .ok (.aload_n 0, 1) := by decide +kernel
theorem dX5_readHouse_110 : decode cX5_readHouse 110 = .ok (.getfield 23, 3) := by decide +kernel
theorem dX5_readHouse_113 : decode cX5_readHouse 113 = .ok (.invokevirtual 71, 3) := by decide +kernel
theorem dX5_readHouse_116 : decode cX5_readHouse 116 = .ok (.iload_n 2, 1) := by decide +kernel
theorem dX5_readHouse_117 : decode cX5_readHouse 117 = .ok (.ireturn, 1) := by decide +kernel
theorem dX5_door_0 : decode cX5_door 0 = .ok (.aload_n 0, 1) := by decide +kernel
theorem dX5_door_1 : decode cX5_door 1 = .ok (.getfield 19, 3) := by decide +kernel
theorem dX5_door_4 : decode cX5_door 4 = .ok (.iload_n 1, 1) := by decide +kernel
theorem dX5_door_5 : decode cX5_door 5 = .ok (.invokevirtual 89, 3) := by decide +kernel
theorem dX5_door_8 : decode cX5_door 8 = .ok (.ifCond .ne 9, 3) := by decide +kernel
theorem dX5_door_11 : decode cX5_door 11 = .ok (.aload_n 0, 1) := by decide +kernel
theorem dX5_door_12 : decode cX5_door 12 = .ok (.iconst 1, 1) := by decide +kernel
theorem dX5_door_13 : decode cX5_door 13 = .ok (.invokevirtual 50, 3) := by decide +kernel
theorem dX5_door_16 : decode cX5_door 16 = .ok (.ireturn, 1) := by decide +kernel
theorem dX5_door_17 : decode cX5_door 17 = .ok (.iload_n 2, 1) := by decide +kernel
theorem dX5_door_18 : decode cX5_door 18 = .ok (.tableswitch 64 0 2 #[26, 38, 47], 26) := by decide +kernel
theorem dX5_door_44 : decode cX5_door 44 = .ok (.aload_n 0, 1) := by decide +kernel
theorem dX5_door_45 : decode cX5_door 45 = .ok (.getfield 19, 3) := by decide +kernel
theorem dX5_door_48 : decode cX5_door 48 = .ok (.getfield 93, 3) := by decide +kernel
theorem dX5_door_51 : decode cX5_door 51 = .ok (.iload_n 1, 1) := by decide +kernel
theorem dX5_door_52 : decode cX5_door 52 = .ok (.invokestatic 96, 3) := by decide +kernel
theorem dX5_door_55 : decode cX5_door 55 = .ok (.ireturn, 1) := by decide +kernel
theorem dX5_door_56 : decode cX5_door 56 = .ok (.aload_n 0, 1) := by decide +kernel
theorem dX5_door_57 : decode cX5_door 57 = .ok (.getfield 19, 3) := by decide +kernel
theorem dX5_door_60 : decode cX5_door 60 = .ok (.iload_n 1, 1) := by decide +kernel
theorem dX5_door_61 : decode cX5_door 61 = .ok (.invokevirtual 100, 3) := by decide +kernel
theorem dX5_door_64 : decode cX5_door 64 = .ok (.ireturn, 1) := by decide +kernel
theorem dX5_door_65 : decode cX5_door 65 = .ok (.aload_n 0, 1) := by decide +kernel
theorem dX5_door_66 : decode cX5_door 66 = .ok (.getfield 19, 3) := by decide +kernel
theorem dX5_door_69 : decode cX5_door 69 = .ok (.iload_n 1, 1) := by decide +kernel
theorem dX5_door_70 : decode cX5_door 70 = .ok (.invokevirtual 103, 3) := by decide +kernel
theorem dX5_door_73 : decode cX5_door 73 = .ok (.ifCond .eq 7, 3) := by decide +kernel
theorem dX5_door_76 : decode cX5_door 76 = .ok (.iconst 1, 1) := by decide +kernel
theorem dX5_door_77 : decode cX5_door 77 = .ok (.goto 4, 3) := by decide +kernel
theorem dX5_door_80 : decode cX5_door 80 = .ok (.iconst 0, 1) := by decide +kernel
theorem dX5_door_81 : decode cX5_door 81 = .ok (.ireturn, 1) := by decide +kernel
theorem dX5_door_82 : decode cX5_door 82 = .ok (.aload_n 0, 1) := by decide +kernel
theorem dX5_door_83 : decode cX5_door 83 = .ok (.iconst 2, 1) := by decide +kernel
theorem dX5_door_84 : decode cX5_door 84 = .ok (.invokevirtual 50, 3) := by decide +kernel
theorem dX5_door_87 : decode cX5_door 87 = .ok (.ireturn, 1) := by decide +kernel
theorem dX5_person_0 : decode cX5_person 0 = .ok (.aload_n 0, 1) := by decide +kernel
theorem dX5_person_1 : decode cX5_person 1 = .ok (.getfield 19, 3) := by decide +kernel
theorem dX5_person_4 : decode cX5_person 4 = .ok (.iload_n 1, 1) := by decide +kernel
theorem dX5_person_5 : decode cX5_person 5 = .ok (.invokevirtual 106, 3) := by decide +kernel
theorem dX5_person_8 : decode cX5_person 8 = .ok (.astore_n 3, 1) := by decide +kernel
theorem dX5_person_9 : decode cX5_person 9 = .ok (.aload_n 3, 1) := by decide +kernel
theorem dX5_person_10 : decode cX5_person 10 = .ok (.ifnonnull 9, 3) := by decide +kernel
theorem dX5_person_13 : decode cX5_person 13 = .ok (.aload_n 0, 1) := by decide +kernel
theorem dX5_person_14 : decode cX5_person 14 = .ok (.iconst 1, 1) := by decide +kernel
theorem dX5_person_15 : decode cX5_person 15 = .ok (.invokevirtual 50, 3) := by decide +kernel
theorem dX5_person_18 : decode cX5_person 18 = .ok (.ireturn, 1) := by decide +kernel
theorem dX5_person_19 : decode cX5_person 19 = .ok (.iload_n 2, 1) := by decide +kernel
theorem dX5_person_20 : decode cX5_person 20 = .ok (.tableswitch 65 0 4 #[36, 41, 46, 51, 56], 36) := by decide +kernel
theorem dX5_person_56 : decode cX5_person 56 = .ok (.aload_n 3, 1) := by decide +kernel
theorem dX5_person_57 : decode cX5_person 57 = .ok (.getfield 110, 3) := by decide +kernel
theorem dX5_person_60 : decode cX5_person 60 = .ok (.ireturn, 1) := by decide +kernel
theorem dX5_person_61 : decode cX5_person 61 = .ok (.aload_n 3, 1) := by decide +kernel
theorem dX5_person_62 : decode cX5_person 62 = .ok (.getfield 115, 3) := by decide +kernel
theorem dX5_person_65 : decode cX5_person 65 = .ok (.ireturn, 1) := by decide +kernel
theorem dX5_person_66 : decode cX5_person 66 = .ok (.aload_n 3, 1) := by decide +kernel
theorem dX5_person_67 : decode cX5_person 67 = .ok (.getfield 118, 3) := by decide +kernel
theorem dX5_person_70 : decode cX5_person 70 = .ok (.ireturn, 1) := by decide +kernel
theorem dX5_person_71 : decode cX5_person 71 = .ok (.aload_n 3, 1) := by decide +kernel
theorem dX5_person_72 : decode cX5_person 72 = .ok (.getfield 121, 3) := by decide +kernel
theorem dX5_person_75 : decode cX5_person 75 = .ok (.ireturn, 1) := by decide +kernel
theorem dX5_person_76 : decode cX5_person 76 = .ok (.aload_n 0, 1) := by decide +kernel
theorem dX5_person_77 : decode cX5_person 77 = .ok (.getfield 19, 3) := by decide +kernel
theorem dX5_person_80 : decode cX5_person 80 = .ok (.iload_n 1, 1) := by decide +kernel
theorem dX5_person_81 : decode cX5_person 81 = .ok (.invokevirtual 124, 3) := by decide +kernel
theorem dX5_person_84 : decode cX5_person 84 = .ok (.ireturn, 1) := by decide +kernel
theorem dX5_person_85 : decode cX5_person 85 = .ok (.aload_n 0, 1) := by decide +kernel
theorem dX5_person_86 : decode cX5_person 86 = .ok (.iconst 2, 1) := by decide +kernel
theorem dX5_person_87 : decode cX5_person 87 = .ok (.invokevirtual 50, 3) := by decide +kernel
theorem dX5_person_90 : decode cX5_person 90 = .ok (.ireturn, 1) := by decide +kernel
theorem dX5_go_0 : decode cX5_go 0 = .ok (.aload_n 0, 1) := by decide +kernel
theorem dX5_go_1 : decode cX5_go 1 = .ok (.getfield 19, 3) := by decide +kernel
theorem dX5_go_4 : decode cX5_go 4 = .ok (.iload_n 1, 1) := by decide +kernel
theorem dX5_go_5 : decode cX5_go 5 = .ok (.invokevirtual 106, 3) := by decide +kernel
theorem dX5_go_8 : decode cX5_go 8 = .ok (.ifnonnull 9, 3) := by decide +kernel
theorem dX5_go_11 : decode cX5_go 11 = .ok (.aload_n 0, 1) := by decide +kernel
theorem dX5_go_12 : decode cX5_go 12 = .ok (.iconst 1, 1) := by decide +kernel
theorem dX5_go_13 : decode cX5_go 13 = .ok (.invokevirtual 50, 3) := by decide +kernel
theorem dX5_go_16 : decode cX5_go 16 = .ok (.ireturn, 1) := by decide +kernel
theorem dX5_go_17 : decode cX5_go 17 = .ok (.aload_n 0, 1) := by decide +kernel
theorem dX5_go_18 : decode cX5_go 18 = .ok (.getfield 19, 3) := by decide +kernel
theorem dX5_go_21 : decode cX5_go 21 = .ok (.iload_n 1, 1) := by decide +kernel
theorem dX5_go_22 : decode cX5_go 22 = .ok (.invokevirtual 127, 3) := by decide +kernel
theorem dX5_go_25 : decode cX5_go 25 = .ok (.ireturn, 1) := by decide +kernel
theorem dX5_turn_0 : decode cX5_turn 0 = .ok (.aload_n 0, 1) := by decide +kernel
theorem dX5_turn_1 : decode cX5_turn 1 = .ok (.getfield 19, 3) := by decide +kernel
theorem dX5_turn_4 : decode cX5_turn 4 = .ok (.iload_n 1, 1) := by decide +kernel
theorem dX5_turn_5 : decode cX5_turn 5 = .ok (.invokevirtual 89, 3) := by decide +kernel
theorem dX5_turn_8 : decode cX5_turn 8 = .ok (.ifCond .ne 9, 3) := by decide +kernel
theorem dX5_turn_11 : decode cX5_turn 11 = .ok (.aload_n 0, 1) := by decide +kernel
theorem dX5_turn_12 : decode cX5_turn 12 = .ok (.iconst 1, 1) := by decide +kernel
theorem dX5_turn_13 : decode cX5_turn 13 = .ok (.invokevirtual 50, 3) := by decide +kernel
theorem dX5_turn_16 : decode cX5_turn 16 = .ok (.ireturn, 1) := by decide +kernel
theorem dX5_turn_17 : decode cX5_turn 17 = .ok (.aload_n 0, 1) := by decide +kernel
theorem dX5_turn_18 : decode cX5_turn 18 = .ok (.getfield 19, 3) := by decide +kernel
theorem dX5_turn_21 : decode cX5_turn 21 = .ok (.iload_n 1, 1) := by decide +kernel
theorem dX5_turn_22 : decode cX5_turn 22 = .ok (.invokevirtual 103, 3) := by decide +kernel
theorem dX5_turn_25 : decode cX5_turn 25 = .ok (.ifCond .eq 9, 3) := by decide +kernel
theorem dX5_turn_28 : decode cX5_turn 28 = .ok (.aload_n 0, 1) := by decide +kernel
theorem dX5_turn_29 : decode cX5_turn 29 = .ok (.iconst 3, 1) := by decide +kernel
theorem dX5_turn_30 : decode cX5_turn 30 = .ok (.invokevirtual 50, 3) := by decide +kernel
theorem dX5_turn_33 : decode cX5_turn 33 = .ok (.ireturn, 1) := by decide +kernel
theorem dX5_turn_34 : decode cX5_turn 34 = .ok (.aload_n 0, 1) := by decide +kernel
theorem dX5_turn_35 : decode cX5_turn 35 = .ok (.getfield 19, 3) := by decide +kernel
theorem dX5_turn_38 : decode cX5_turn 38 = .ok (.aload_n 0, 1) := by decide +kernel
theorem dX5_turn_39 : decode cX5_turn 39 = .ok (.getfield 19, 3) := by decide +kernel
theorem dX5_turn_42 : decode cX5_turn 42 = .ok (.getfield 93, 3) := by decide +kernel
theorem dX5_turn_45 : decode cX5_turn 45 = .ok (.iload_n 1, 1) := by decide +kernel
theorem dX5_turn_46 : decode cX5_turn 46 = .ok (.invokestatic 130, 3) := by decide +kernel
theorem dX5_turn_49 : decode cX5_turn 49 = .ok (.aload_n 0, 1) := by decide +kernel
theorem dX5_turn_50 : decode cX5_turn 50 = .ok (.getfield 19, 3) := by decide +kernel
theorem dX5_turn_53 : decode cX5_turn 53 = .ok (.getfield 133, 3) := by decide +kernel
theorem dX5_turn_56 : decode cX5_turn 56 = .ok (.invokestatic 136, 3) := by decide +kernel
theorem dX5_turn_59 : decode cX5_turn 59 = .ok (.putfield 93, 3) := by decide +kernel
theorem dX5_turn_62 : decode cX5_turn 62 = .ok (.aload_n 0, 1) := by decide +kernel
theorem dX5_turn_63 : decode cX5_turn 63 = .ok (.getfield 19, 3) := by decide +kernel
theorem dX5_turn_66 : decode cX5_turn 66 = .ok (.getfield 93, 3) := by decide +kernel
theorem dX5_turn_69 : decode cX5_turn 69 = .ok (.iload_n 1, 1) := by decide +kernel
theorem dX5_turn_70 : decode cX5_turn 70 = .ok (.invokestatic 96, 3) := by decide +kernel
theorem dX5_turn_73 : decode cX5_turn 73 = .ok (.ireturn, 1) := by decide +kernel
theorem dX5_state_0 : decode cX5_state 0 = .ok (.aload_n 0, 1) := by decide +kernel
theorem dX5_state_1 : decode cX5_state 1 = .ok (.getfield 19, 3) := by decide +kernel
theorem dX5_state_4 : decode cX5_state 4 = .ok (.aload_n 0, 1) := by decide +kernel
theorem dX5_state_5 : decode cX5_state 5 = .ok (.getfield 19, 3) := by decide +kernel
theorem dX5_state_8 : decode cX5_state 8 = .ok (.getfield 93, 3) := by decide +kernel
theorem dX5_state_11 : decode cX5_state 11 = .ok (.invokevirtual 140, 3) := by decide +kernel
theorem dX5_state_14 : decode cX5_state 14 = .ok (.ireturn, 1) := by decide +kernel
theorem dX5_wished_0 : decode cX5_wished 0 = .ok (.aload_n 0, 1) := by decide +kernel
theorem dX5_wished_1 : decode cX5_wished 1 = .ok (.getfield 19, 3) := by decide +kernel
theorem dX5_wished_4 : decode cX5_wished 4 = .ok (.aload_n 0, 1) := by decide +kernel
theorem dX5_wished_5 : decode cX5_wished 5 = .ok (.getfield 19, 3) := by decide +kernel
theorem dX5_wished_8 : decode cX5_wished 8 = .ok (.getfield 93, 3) := by decide +kernel
theorem dX5_wished_11 : decode cX5_wished 11 = .ok (.invokevirtual 143, 3) := by decide +kernel
theorem dX5_wished_14 : decode cX5_wished 14 = .ok (.ifCond .eq 7, 3) := by decide +kernel
theorem dX5_wished_17 : decode cX5_wished 17 = .ok (.iconst 1, 1) := by decide +kernel
theorem dX5_wished_18 : decode cX5_wished 18 = .ok (.goto 4, 3) := by decide +kernel
theorem dX5_wished_21 : decode cX5_wished 21 = .ok (.iconst 0, 1) := by decide +kernel
theorem dX5_wished_22 : decode cX5_wished 22 = .ok (.ireturn, 1) := by decide +kernel
theorem dX5_way_0 : decode cX5_way 0 = .ok (.iload_n 1, 1) := by decide +kernel
theorem dX5_way_1 : decode cX5_way 1 = .ok (.ifCond .lt 35, 3) := by decide +kernel
theorem dX5_way_4 : decode cX5_way 4 = .ok (.iload_n 1, 1) := by decide +kernel
theorem dX5_way_5 : decode cX5_way 5 = .ok (.aload_n 0, 1) := by decide +kernel
theorem dX5_way_6 : decode cX5_way 6 = .ok (.getfield 19, 3) := by decide +kernel
theorem dX5_way_9 : decode cX5_way 9 = .ok (.getfield 133, 3) := by decide +kernel
theorem dX5_way_12 : decode cX5_way 12 = .ok (.aload_n 0, 1) := by decide +kernel
theorem dX5_way_13 : decode cX5_way 13 = .ok (.getfield 19, 3) := by decide +kernel
theorem dX5_way_16 : decode cX5_way 16 = .ok (.getfield 146, 3) := by decide +kernel
theorem dX5_way_19 : decode cX5_way 19 = .ok (.invokestatic 149, 3) := by decide +kernel
theorem dX5_way_22 : decode cX5_way 22 = .ok (.if_icmp .ge 14, 3) := by decide +kernel
theorem dX5_way_25 : decode cX5_way 25 = .ok (.aload_n 0, 1) := by decide +kernel
theorem dX5_way_26 : decode cX5_way 26 = .ok (.getfield 19, 3) := by decide +kernel
theorem dX5_way_29 : decode cX5_way 29 = .ok (.iload_n 2, 1) := by decide +kernel
theorem dX5_way_30 : decode cX5_way 30 = .ok (.invokevirtual 89, 3) := by decide +kernel
theorem dX5_way_33 : decode cX5_way 33 = .ok (.ifCond .ne 9, 3) := by decide +kernel
theorem dX5_way_36 : decode cX5_way 36 = .ok (.aload_n 0, 1) := by decide +kernel
theorem dX5_way_37 : decode cX5_way 37 = .ok (.iconst 1, 1) := by decide +kernel
theorem dX5_way_38 : decode cX5_way 38 = .ok (.invokevirtual 50, 3) := by decide +kernel
theorem dX5_way_41 : decode cX5_way 41 = .ok (.ireturn, 1) := by decide +kernel
theorem dX5_way_42 : decode cX5_way 42 = .ok (.iload_n 3, 1) := by decide +kernel
theorem dX5_way_43 : decode cX5_way 43 = .ok (.ifCond .eq 14, 3) := by decide +kernel
theorem dX5_way_46 : decode cX5_way 46 = .ok (.iload_n 3, 1) := by decide +kernel
theorem dX5_way_47 : decode cX5_way 47 = .ok (.iconst 1, 1) := by decide +kernel
theorem dX5_way_48 : decode cX5_way 48 = .ok (.if_icmp .eq 9, 3) := by decide +kernel
theorem dX5_way_51 : decode cX5_way 51 = .ok (.aload_n 0, 1) := by decide +kernel
theorem dX5_way_52 : decode cX5_way 52 = .ok (.iconst 2, 1) := by decide +kernel
theorem dX5_way_53 : decode cX5_way 53 = .ok (.invokevirtual 50, 3) := by decide +kernel
theorem dX5_way_56 : decode cX5_way 56 = .ok (.ireturn, 1) := by decide +kernel
theorem dX5_way_57 : decode cX5_way 57 = .ok (.aload_n 0, 1) := by decide +kernel
theorem dX5_way_58 : decode cX5_way 58 = .ok (.iload_n 1, 1) := by decide +kernel
theorem dX5_way_59 : decode cX5_way 59 = .ok (.invokevirtual 152, 3) := by decide +kernel
theorem dX5_way_62 : decode cX5_way 62 = .ok (.iload_n 3, 1) := by decide +kernel
theorem dX5_way_63 : decode cX5_way 63 = .ok (.ifCond .ne 10, 3) := by decide +kernel
theorem dX5_way_66 : decode cX5_way 66 = .ok (.aload_n 0, 1) := by decide +kernel
theorem dX5_way_67 : decode cX5_way 67 = .ok (.invokevirtual 156, 3) := by decide +kernel
theorem dX5_way_70 : decode cX5_way 70 = .ok (.goto 7, 3) := by decide +kernel
theorem dX5_way_73 : decode cX5_way 73 = .ok (.aload_n 0, 1) := by decide +kernel
theorem dX5_way_74 : decode cX5_way 74 = .ok (.invokevirtual 159, 3) := by decide +kernel
theorem dX5_way_77 : decode cX5_way 77 = .ok (.iload_n 2, 1) := by decide +kernel
theorem dX5_way_78 : decode cX5_way 78 = .ok (.aload_n 0, 1) := by decide +kernel
theorem dX5_way_79 : decode cX5_way 79 = .ok (.getfield 43, 3) := by decide +kernel
theorem dX5_way_82 : decode cX5_way 82 = .ok (.arraylength, 1) := by decide +kernel
theorem dX5_way_83 : decode cX5_way 83 = .ok (.if_icmp .ge 12, 3) := by decide +kernel
theorem dX5_way_86 : decode cX5_way 86 = .ok (.aload_n 0, 1) := by decide +kernel
theorem dX5_way_87 : decode cX5_way 87 = .ok (.getfield 43, 3) := by decide +kernel
theorem dX5_way_90 : decode cX5_way 90 = .ok (.iload_n 2, 1) := by decide +kernel
theorem dX5_way_91 : decode cX5_way 91 = .ok (.iaload, 1) := by decide +kernel
theorem dX5_way_92 : decode cX5_way 92 = .ok (.goto 4, 3) := by decide +kernel
theorem dX5_way_95 : decode cX5_way 95 = .ok (.iconst 0, 1) := by decide +kernel
theorem dX5_way_96 : decode cX5_way 96 = .ok (.ireturn, 1) := by decide +kernel
theorem dX5_spread_0 : decode cX5_spread 0 = .ok (.iload_n 1, 1) := by decide +kernel
theorem dX5_spread_1 : decode cX5_spread 1 = .ok (.istore_n 2, 1) := by decide +kernel
theorem dX5_spread_2 : decode cX5_spread 2 = .ok (.aload_n 0, 1) := by decide +kernel
theorem dX5_spread_3 : decode cX5_spread 3 = .ok (.getfield 19, 3) := by decide +kernel
theorem dX5_spread_6 : decode cX5_spread 6 = .ok (.getfield 133, 3) := by decide +kernel
theorem dX5_spread_9 : decode cX5_spread 9 = .ok (.istore_n 3, 1) := by decide +kernel
theorem dX5_spread_10 : decode cX5_spread 10 = .ok (.iconst 1, 1) := by decide +kernel
theorem dX5_spread_11 : decode cX5_spread 11 = .ok (.istore 4, 2) := by decide +kernel
theorem dX5_spread_13 : decode cX5_spread 13 = .ok (.iload 4, 2) := by decide +kernel
theorem dX5_spread_15 : decode cX5_spread 15 = .ok (.aload_n 0, 1) := by decide +kernel
theorem dX5_spread_16 : decode cX5_spread 16 = .ok (.getfield 19, 3) := by decide +kernel
theorem dX5_spread_19 : decode cX5_spread 19 = .ok (.getfield 146, 3) := by decide +kernel
theorem dX5_spread_22 : decode cX5_spread 22 = .ok (.if_icmp .gt 37, 3) := by decide +kernel
theorem dX5_spread_25 : decode cX5_spread 25 = .ok (.iload 4, 2) := by decide +kernel
theorem dX5_spread_27 : decode cX5_spread 27 = .ok (.aload_n 0, 1) := by decide +kernel
theorem dX5_spread_28 : decode cX5_spread 28 = .ok (.getfield 43, 3) := by decide +kernel
theorem dX5_spread_31 : decode cX5_spread 31 = .ok (.arraylength, 1) := by decide +kernel
theorem dX5_spread_32 : decode cX5_spread 32 = .ok (.if_icmp .ge 27, 3) := by decide +kernel
theorem dX5_spread_35 : decode cX5_spread 35 = .ok (.aload_n 0, 1) := by decide +kernel
theorem dX5_spread_36 : decode cX5_spread 36 = .ok (.getfield 43, 3) := by decide +kernel
theorem dX5_spread_39 : decode cX5_spread 39 = .ok (.iload 4, 2) := by decide +kernel
theorem dX5_spread_41 : decode cX5_spread 41 = .ok (.iload_n 2, 1) := by decide +kernel
theorem dX5_spread_42 : decode cX5_spread 42 = .ok (.iload_n 3, 1) := by decide +kernel
theorem dX5_spread_43 : decode cX5_spread 43 = .ok (.invokestatic 162, 3) := by decide +kernel
theorem dX5_spread_46 : decode cX5_spread 46 = .ok (.iastore, 1) := by decide +kernel
theorem dX5_spread_47 : decode cX5_spread 47 = .ok (.iload_n 2, 1) := by decide +kernel
theorem dX5_spread_48 : decode cX5_spread 48 = .ok (.iload_n 3, 1) := by decide +kernel
theorem dX5_spread_49 : decode cX5_spread 49 = .ok (.invokestatic 165, 3) := by decide +kernel
theorem dX5_spread_52 : decode cX5_spread 52 = .ok (.istore_n 2, 1) := by decide +kernel
theorem dX5_spread_53 : decode cX5_spread 53 = .ok (.iinc 4 1, 3) := by decide +kernel
theorem dX5_spread_56 : decode cX5_spread 56 = .ok (.goto (-43), 3) := by decide +kernel
theorem dX5_spread_59 : decode cX5_spread 59 = .ok (.return_, 1) := by decide +kernel
theorem dX5_solveByMultiples_0 : decode cX5_solveByMultiples 0 = .ok (.iconst 1, 1) := by decide +kernel
theorem dX5_solveByMultiples_1 : decode cX5_solveByMultiples 1 = .ok (.istore_n 1, 1) := by decide +kernel
theorem dX5_solveByMultiples_2 : decode cX5_solveByMultiples 2 = .ok (.iload_n 1, 1) := by decide +kernel
theorem dX5_solveByMultiples_3 : decode cX5_solveByMultiples 3 = .ok (.aload_n 0, 1) := by decide +kernel
theorem dX5_solveByMultiples_4 : decode cX5_solveByMultiples 4 = .ok (.getfield 19, 3) := by decide +kernel
theorem dX5_solveByMultiples_7 : decode cX5_solveByMultiples 7 = .ok (.getfield 146, 3) := by decide +kernel
theorem dX5_solveByMultiples_10 : decode cX5_solveByMultiples 10 = .ok (.if_icmp .gt 37, 3) := by decide +kernel
theorem dX5_solveByMultiples_13 : decode cX5_solveByMultiples 13 = .ok (.iconst 2, 1) := by decide +kernel
theorem dX5_solveByMultiples_14 : decode cX5_solveByMultiples 14 = .ok (.iload_n 1, 1) := by decide +kernel
theorem dX5_solveByMultiples_15 : decode cX5_solveByMultiples 15 = .ok (.imul, 1) := by decide +kernel
theorem dX5_solveByMultiples_16 : decode cX5_solveByMultiples 16 = .ok (.istore_n 2, 1) := by decide +kernel
theorem dX5_solveByMultiples_17 : decode cX5_solveByMultiples 17 = .ok (.iload_n 2, 1) := by decide +kernel
theorem dX5_solveByMultiples_18 : decode cX5_solveByMultiples 18 = .ok (.aload_n 0, 1) := by decide +kernel
theorem dX5_solveByMultiples_19 : decode cX5_solveByMultiples 19 = .ok (.getfield 19, 3) := by decide +kernel
theorem dX5_solveByMultiples_22 : decode cX5_solveByMultiples 22 = .ok (.getfield 146, 3) := by decide +kernel
theorem dX5_solveByMultiples_25 : decode cX5_solveByMultiples 25 = .ok (.if_icmp .gt 16, 3) := by decide +kernel
theorem dX5_solveByMultiples_28 : decode cX5_solveByMultiples 28 = .ok (.aload_n 0, 1) := by decide +kernel
theorem dX5_solveByMultiples_29 : decode cX5_solveByMultiples 29 = .ok (.iload_n 2, 1) := by decide +kernel
theorem dX5_solveByMultiples_30 : decode cX5_solveByMultiples 30 = .ok (.iload_n 1, 1) := by decide +kernel
theorem dX5_solveByMultiples_31 : decode cX5_solveByMultiples 31 = .ok (.invokevirtual 168, 3) := by decide +kernel
theorem dX5_solveByMultiples_34 : decode cX5_solveByMultiples 34 = .ok (.iload_n 2, 1) := by decide +kernel
theorem dX5_solveByMultiples_35 : decode cX5_solveByMultiples 35 = .ok (.iload_n 1, 1) := by decide +kernel
theorem dX5_solveByMultiples_36 : decode cX5_solveByMultiples 36 = .ok (.iadd, 1) := by decide +kernel
theorem dX5_solveByMultiples_37 : decode cX5_solveByMultiples 37 = .ok (.istore_n 2, 1) := by decide +kernel
theorem dX5_solveByMultiples_38 : decode cX5_solveByMultiples 38 = .ok (.goto (-21), 3) := by decide +kernel
theorem dX5_solveByMultiples_41 : decode cX5_solveByMultiples 41 = .ok (.iinc 1 1, 3) := by decide +kernel
theorem dX5_solveByMultiples_44 : decode cX5_solveByMultiples 44 = .ok (.goto (-42), 3) := by decide +kernel
theorem dX5_solveByMultiples_47 : decode cX5_solveByMultiples 47 = .ok (.return_, 1) := by decide +kernel
theorem dX5_solveByDivisors_0 : decode cX5_solveByDivisors 0 = .ok (.aload_n 0, 1) := by decide +kernel
theorem dX5_solveByDivisors_1 : decode cX5_solveByDivisors 1 = .ok (.getfield 19, 3) := by decide +kernel
theorem dX5_solveByDivisors_4 : decode cX5_solveByDivisors 4 = .ok (.getfield 146, 3) := by decide +kernel
theorem dX5_solveByDivisors_7 : decode cX5_solveByDivisors 7 = .ok (.istore_n 1, 1) := by decide +kernel
theorem dX5_solveByDivisors_8 : decode cX5_solveByDivisors 8 = .ok (.iload_n 1, 1) := by decide +kernel
theorem dX5_solveByDivisors_9 : decode cX5_solveByDivisors 9 = .ok (.iconst 1, 1) := by decide +kernel
theorem dX5_solveByDivisors_10 : decode cX5_solveByDivisors 10 = .ok (.if_icmp .lt 36, 3) := by decide +kernel
theorem dX5_solveByDivisors_13 : decode cX5_solveByDivisors 13 = .ok (.iconst 1, 1) := by decide +kernel
theorem dX5_solveByDivisors_14 : decode cX5_solveByDivisors 14 = .ok (.istore_n 2, 1) := by decide +kernel
theorem dX5_solveByDivisors_15 : decode cX5_solveByDivisors 15 = .ok (.iload_n 2, 1) := by decide +kernel
theorem dX5_solveByDivisors_16 : decode cX5_solveByDivisors 16 = .ok (.iload_n 1, 1) := by decide +kernel
theorem dX5_solveByDivisors_17 : decode cX5_solveByDivisors 17 = .ok (.if_icmp .ge 23, 3) := by decide +kernel
theorem dX5_solveByDivisors_20 : decode cX5_solveByDivisors 20 = .ok (.iload_n 2, 1) := by decide +kernel
theorem dX5_solveByDivisors_21 : decode cX5_solveByDivisors 21 = .ok (.iload_n 1, 1) := by decide +kernel
theorem dX5_solveByDivisors_22 : decode cX5_solveByDivisors 22 = .ok (.invokestatic 172, 3) := by decide +kernel
theorem dX5_solveByDivisors_25 : decode cX5_solveByDivisors 25 = .ok (.ifCond .eq 9, 3) := by decide +kernel
theorem dX5_solveByDivisors_28 : decode cX5_solveByDivisors 28 = .ok (.aload_n 0, 1) := by decide +kernel
theorem dX5_solveByDivisors_29 : decode cX5_solveByDivisors 29 = .ok (.iload_n 2, 1) := by decide +kernel
theorem dX5_solveByDivisors_30 : decode cX5_solveByDivisors 30 = .ok (.iload_n 1, 1) := by decide +kernel
theorem dX5_solveByDivisors_31 : decode cX5_solveByDivisors 31 = .ok (.invokevirtual 168, 3) := by decide +kernel
theorem dX5_solveByDivisors_34 : decode cX5_solveByDivisors 34 = .ok (.iinc 2 1, 3) := by decide +kernel
theorem dX5_solveByDivisors_37 : decode cX5_solveByDivisors 37 = .ok (.goto (-22), 3) := by decide +kernel
theorem dX5_solveByDivisors_40 : decode cX5_solveByDivisors 40 = .ok (.iinc 1 (-1), 3) := by decide +kernel
theorem dX5_solveByDivisors_43 : decode cX5_solveByDivisors 43 = .ok (.goto (-35), 3) := by decide +kernel
theorem dX5_solveByDivisors_46 : decode cX5_solveByDivisors 46 = .ok (.return_, 1) := by decide +kernel
theorem dX5_takeBack_0 : decode cX5_takeBack 0 = .ok (.iload_n 1, 1) := by decide +kernel
theorem dX5_takeBack_1 : decode cX5_takeBack 1 = .ok (.ifCond .lt 62, 3) := by decide +kernel
theorem dX5_takeBack_4 : decode cX5_takeBack 4 = .ok (.iload_n 1, 1) := by decide +kernel
theorem dX5_takeBack_5 : decode cX5_takeBack 5 = .ok (.aload_n 0, 1) := by decide +kernel
theorem dX5_takeBack_6 : decode cX5_takeBack 6 = .ok (.getfield 43, 3) := by decide +kernel
theorem dX5_takeBack_9 : decode cX5_takeBack 9 = .ok (.arraylength, 1) := by decide +kernel
theorem dX5_takeBack_10 : decode cX5_takeBack 10 = .ok (.if_icmp .ge 53, 3) := by decide +kernel
theorem dX5_takeBack_13 : decode cX5_takeBack 13 = .ok (.iload_n 2, 1) := by decide +kernel
theorem dX5_takeBack_14 : decode cX5_takeBack 14 = .ok (.ifCond .lt 49, 3) := by decide +kernel
theorem dX5_takeBack_17 : decode cX5_takeBack 17 = .ok (.iload_n 2, 1) := by decide +kernel
theorem dX5_takeBack_18 : decode cX5_takeBack 18 = .ok (.aload_n 0, 1) := by decide +kernel
theorem dX5_takeBack_19 : decode cX5_takeBack 19 = .ok (.getfield 43, 3) := by decide +kernel
theorem dX5_takeBack_22 : decode cX5_takeBack 22 = .ok (.arraylength, 1) := by decide +kernel
theorem dX5_takeBack_23 : decode cX5_takeBack 23 = .ok (.if_icmp .ge 40, 3) := by decide +kernel
theorem dX5_takeBack_26 : decode cX5_takeBack 26 = .ok (.aload_n 0, 1) := by decide +kernel
theorem dX5_takeBack_27 : decode cX5_takeBack 27 = .ok (.getfield 43, 3) := by decide +kernel
theorem dX5_takeBack_30 : decode cX5_takeBack 30 = .ok (.iload_n 1, 1) := by decide +kernel
theorem dX5_takeBack_31 : decode cX5_takeBack 31 = .ok (.aload_n 0, 1) := by decide +kernel
theorem dX5_takeBack_32 : decode cX5_takeBack 32 = .ok (.getfield 43, 3) := by decide +kernel
theorem dX5_takeBack_35 : decode cX5_takeBack 35 = .ok (.iload_n 1, 1) := by decide +kernel
theorem dX5_takeBack_36 : decode cX5_takeBack 36 = .ok (.iaload, 1) := by decide +kernel
theorem dX5_takeBack_37 : decode cX5_takeBack 37 = .ok (.aload_n 0, 1) := by decide +kernel
theorem dX5_takeBack_38 : decode cX5_takeBack 38 = .ok (.getfield 19, 3) := by decide +kernel
theorem dX5_takeBack_41 : decode cX5_takeBack 41 = .ok (.getfield 133, 3) := by decide +kernel
theorem dX5_takeBack_44 : decode cX5_takeBack 44 = .ok (.iadd, 1) := by decide +kernel
theorem dX5_takeBack_45 : decode cX5_takeBack 45 = .ok (.aload_n 0, 1) := by decide +kernel
theorem dX5_takeBack_46 : decode cX5_takeBack 46 = .ok (.getfield 43, 3) := by decide +kernel
theorem dX5_takeBack_49 : decode cX5_takeBack 49 = .ok (.iload_n 2, 1) := by decide +kernel
theorem dX5_takeBack_50 : decode cX5_takeBack 50 = .ok (.iaload, 1) := by decide +kernel
theorem dX5_takeBack_51 : decode cX5_takeBack 51 = .ok (.isub, 1) := by decide +kernel
theorem dX5_takeBack_52 : decode cX5_takeBack 52 = .ok (.aload_n 0, 1) := by decide +kernel
theorem dX5_takeBack_53 : decode cX5_takeBack 53 = .ok (.getfield 19, 3) := by decide +kernel
theorem dX5_takeBack_56 : decode cX5_takeBack 56 = .ok (.getfield 133, 3) := by decide +kernel
theorem dX5_takeBack_59 : decode cX5_takeBack 59 = .ok (.invokestatic 162, 3) := by decide +kernel
theorem dX5_takeBack_62 : decode cX5_takeBack 62 = .ok (.iastore, 1) := by decide +kernel
theorem dX5_takeBack_63 : decode cX5_takeBack 63 = .ok (.return_, 1) := by decide +kernel
theorem dX5_can_0 : decode cX5_can 0 = .ok (.aload_n 0, 1) := by decide +kernel
theorem dX5_can_1 : decode cX5_can 1 = .ok (.getfield 32, 3) := by decide +kernel
theorem dX5_can_4 : decode cX5_can 4 = .ok (.aload_n 0, 1) := by decide +kernel
theorem dX5_can_5 : decode cX5_can 5 = .ok (.getfield 19, 3) := by decide +kernel
theorem dX5_can_8 : decode cX5_can 8 = .ok (.aload_n 0, 1) := by decide +kernel
theorem dX5_can_9 : decode cX5_can 9 = .ok (.getfield 19, 3) := by decide +kernel
theorem dX5_can_12 : decode cX5_can 12 = .ok (.getfield 93, 3) := by decide +kernel
theorem dX5_can_15 : decode cX5_can 15 = .ok (.invokevirtual 176, 3) := by decide +kernel
theorem dX5_can_18 : decode cX5_can 18 = .ok (.iconst 0, 1) := by decide +kernel
theorem dX5_can_19 : decode cX5_can 19 = .ok (.istore_n 1, 1) := by decide +kernel
theorem dX5_can_20 : decode cX5_can 20 = .ok (.iconst 0, 1) := by decide +kernel
theorem dX5_can_21 : decode cX5_can 21 = .ok (.istore_n 2, 1) := by decide +kernel
theorem dX5_can_22 : decode cX5_can 22 = .ok (.iload_n 2, 1) := by decide +kernel
theorem dX5_can_23 : decode cX5_can 23 = .ok (.aload_n 0, 1) := by decide +kernel
theorem dX5_can_24 : decode cX5_can 24 = .ok (.getfield 32, 3) := by decide +kernel
theorem dX5_can_27 : decode cX5_can 27 = .ok (.getfield 180, 3) := by decide +kernel
theorem dX5_can_30 : decode cX5_can 30 = .ok (.if_icmp .ge 30, 3) := by decide +kernel
theorem dX5_can_33 : decode cX5_can 33 = .ok (.aload_n 0, 1) := by decide +kernel
theorem dX5_can_34 : decode cX5_can 34 = .ok (.getfield 19, 3) := by decide +kernel
theorem dX5_can_37 : decode cX5_can 37 = .ok (.aload_n 0, 1) := by decide +kernel
theorem dX5_can_38 : decode cX5_can 38 = .ok (.getfield 32, 3) := by decide +kernel
theorem dX5_can_41 : decode cX5_can 41 = .ok (.iload_n 2, 1) := by decide +kernel
theorem dX5_can_42 : decode cX5_can 42 = .ok (.invokevirtual 183, 3) := by decide +kernel
theorem dX5_can_45 : decode cX5_can 45 = .ok (.invokevirtual 143, 3) := by decide +kernel
theorem dX5_can_48 : decode cX5_can 48 = .ok (.ifCond .eq 6, 3) := by decide +kernel
theorem dX5_can_51 : decode cX5_can 51 = .ok (.iinc 1 1, 3) := by decide +kernel
theorem dX5_can_54 : decode cX5_can 54 = .ok (.iinc 2 1, 3) := by decide +kernel
theorem dX5_can_57 : decode cX5_can 57 = .ok (.goto (-35), 3) := by decide +kernel
theorem dX5_can_60 : decode cX5_can 60 = .ok (.iload_n 1, 1) := by decide +kernel
theorem dX5_can_61 : decode cX5_can 61 = .ok (.ireturn, 1) := by decide +kernel
theorem dX5_fewest_0 : decode cX5_fewest 0 = .ok (.aload_n 0, 1) := by decide +kernel
theorem dX5_fewest_1 : decode cX5_fewest 1 = .ok (.invokevirtual 186, 3) := by decide +kernel
theorem dX5_fewest_4 : decode cX5_fewest 4 = .ok (.istore_n 1, 1) := by decide +kernel
theorem dX5_fewest_5 : decode cX5_fewest 5 = .ok (.iload_n 1, 1) := by decide +kernel
theorem dX5_fewest_6 : decode cX5_fewest 6 = .ok (.ifCond .ge 8, 3) := by decide +kernel
theorem dX5_fewest_9 : decode cX5_fewest 9 = .ok (.bipush (-9), 2) := by decide +kernel
theorem dX5_fewest_11 : decode cX5_fewest 11 = .ok (.goto 11, 3) := by decide +kernel
theorem dX5_fewest_14 : decode cX5_fewest 14 = .ok (.aload_n 0, 1) := by decide +kernel
theorem dX5_fewest_15 : decode cX5_fewest 15 = .ok (.getfield 32, 3) := by decide +kernel
theorem dX5_fewest_18 : decode cX5_fewest 18 = .ok (.iload_n 1, 1) := by decide +kernel
theorem dX5_fewest_19 : decode cX5_fewest 19 = .ok (.invokevirtual 189, 3) := by decide +kernel
theorem dX5_fewest_22 : decode cX5_fewest 22 = .ok (.ireturn, 1) := by decide +kernel
theorem dX5_cheapest_0 : decode cX5_cheapest 0 = .ok (.aload_n 0, 1) := by decide +kernel
theorem dX5_cheapest_1 : decode cX5_cheapest 1 = .ok (.getfield 32, 3) := by decide +kernel
theorem dX5_cheapest_4 : decode cX5_cheapest 4 = .ok (.aload_n 0, 1) := by decide +kernel
theorem dX5_cheapest_5 : decode cX5_cheapest 5 = .ok (.getfield 19, 3) := by decide +kernel
theorem dX5_cheapest_8 : decode cX5_cheapest 8 = .ok (.aload_n 0, 1) := by decide +kernel
theorem dX5_cheapest_9 : decode cX5_cheapest 9 = .ok (.getfield 19, 3) := by decide +kernel
theorem dX5_cheapest_12 : decode cX5_cheapest 12 = .ok (.getfield 93, 3) := by decide +kernel
theorem dX5_cheapest_15 : decode cX5_cheapest 15 = .ok (.invokevirtual 176, 3) := by decide +kernel
theorem dX5_cheapest_18 : decode cX5_cheapest 18 = .ok (.bipush (-9), 2) := by decide +kernel
theorem dX5_cheapest_20 : decode cX5_cheapest 20 = .ok (.istore_n 1, 1) := by decide +kernel
theorem dX5_cheapest_21 : decode cX5_cheapest 21 = .ok (.iconst 0, 1) := by decide +kernel
theorem dX5_cheapest_22 : decode cX5_cheapest 22 = .ok (.istore_n 2, 1) := by decide +kernel
theorem dX5_cheapest_23 : decode cX5_cheapest 23 = .ok (.iload_n 2, 1) := by decide +kernel
theorem dX5_cheapest_24 : decode cX5_cheapest 24 = .ok (.aload_n 0, 1) := by decide +kernel
theorem dX5_cheapest_25 : decode cX5_cheapest 25 = .ok (.getfield 32, 3) := by decide +kernel
theorem dX5_cheapest_28 : decode cX5_cheapest 28 = .ok (.getfield 180, 3) := by decide +kernel
theorem dX5_cheapest_31 : decode cX5_cheapest 31 = .ok (.if_icmp .ge 53, 3) := by decide +kernel
theorem dX5_cheapest_34 : decode cX5_cheapest 34 = .ok (.aload_n 0, 1) := by decide +kernel
theorem dX5_cheapest_35 : decode cX5_cheapest 35 = .ok (.getfield 19, 3) := by decide +kernel
theorem dX5_cheapest_38 : decode cX5_cheapest 38 = .ok (.aload_n 0, 1) := by decide +kernel
theorem dX5_cheapest_39 : decode cX5_cheapest 39 = .ok (.getfield 32, 3) := by decide +kernel
theorem dX5_cheapest_42 : decode cX5_cheapest 42 = .ok (.iload_n 2, 1) := by decide +kernel
theorem dX5_cheapest_43 : decode cX5_cheapest 43 = .ok (.invokevirtual 183, 3) := by decide +kernel
theorem dX5_cheapest_46 : decode cX5_cheapest 46 = .ok (.invokevirtual 143, 3) := by decide +kernel
theorem dX5_cheapest_49 : decode cX5_cheapest 49 = .ok (.ifCond .eq 29, 3) := by decide +kernel
theorem dX5_cheapest_52 : decode cX5_cheapest 52 = .ok (.aload_n 0, 1) := by decide +kernel
theorem dX5_cheapest_53 : decode cX5_cheapest 53 = .ok (.getfield 32, 3) := by decide +kernel
theorem dX5_cheapest_56 : decode cX5_cheapest 56 = .ok (.iload_n 2, 1) := by decide +kernel
theorem dX5_cheapest_57 : decode cX5_cheapest 57 = .ok (.aload_n 0, 1) := by decide +kernel
theorem dX5_cheapest_58 : decode cX5_cheapest 58 = .ok (.getfield 19, 3) := by decide +kernel
theorem dX5_cheapest_61 : decode cX5_cheapest 61 = .ok (.invokevirtual 192, 3) := by decide +kernel
theorem dX5_cheapest_64 : decode cX5_cheapest 64 = .ok (.istore_n 3, 1) := by decide +kernel
theorem dX5_cheapest_65 : decode cX5_cheapest 65 = .ok (.iload_n 1, 1) := by decide +kernel
theorem dX5_cheapest_66 : decode cX5_cheapest 66 = .ok (.bipush (-9), 2) := by decide +kernel
theorem dX5_cheapest_68 : decode cX5_cheapest 68 = .ok (.if_icmp .eq 8, 3) := by decide +kernel
theorem dX5_cheapest_71 : decode cX5_cheapest 71 = .ok (.iload_n 3, 1) := by decide +kernel
theorem dX5_cheapest_72 : decode cX5_cheapest 72 = .ok (.iload_n 1, 1) := by decide +kernel
theorem dX5_cheapest_73 : decode cX5_cheapest 73 = .ok (.if_icmp .ge 5, 3) := by decide +kernel
theorem dX5_cheapest_76 : decode cX5_cheapest 76 = .ok (.iload_n 3, 1) := by decide +kernel
theorem dX5_cheapest_77 : decode cX5_cheapest 77 = .ok (.istore_n 1, 1) := by decide +kernel
theorem dX5_cheapest_78 : decode cX5_cheapest 78 = .ok (.iinc 2 1, 3) := by decide +kernel
theorem dX5_cheapest_81 : decode cX5_cheapest 81 = .ok (.goto (-58), 3) := by decide +kernel
theorem dX5_cheapest_84 : decode cX5_cheapest 84 = .ok (.iload_n 1, 1) := by decide +kernel
theorem dX5_cheapest_85 : decode cX5_cheapest 85 = .ok (.ireturn, 1) := by decide +kernel
theorem dX5_how_0 : decode cX5_how 0 = .ok (.aload_n 0, 1) := by decide +kernel
theorem dX5_how_1 : decode cX5_how 1 = .ok (.getfield 19, 3) := by decide +kernel
theorem dX5_how_4 : decode cX5_how 4 = .ok (.iload_n 1, 1) := by decide +kernel
theorem dX5_how_5 : decode cX5_how 5 = .ok (.invokevirtual 106, 3) := by decide +kernel
theorem dX5_how_8 : decode cX5_how 8 = .ok (.ifnonnull 9, 3) := by decide +kernel
theorem dX5_how_11 : decode cX5_how 11 = .ok (.aload_n 0, 1) := by decide +kernel
theorem dX5_how_12 : decode cX5_how 12 = .ok (.iconst 1, 1) := by decide +kernel
theorem dX5_how_13 : decode cX5_how 13 = .ok (.invokevirtual 50, 3) := by decide +kernel
theorem dX5_how_16 : decode cX5_how 16 = .ok (.ireturn, 1) := by decide +kernel
theorem dX5_how_17 : decode cX5_how 17 = .ok (.aload_n 0, 1) := by decide +kernel
theorem dX5_how_18 : decode cX5_how 18 = .ok (.invokevirtual 186, 3) := by decide +kernel
theorem dX5_how_21 : decode cX5_how 21 = .ok (.istore_n 2, 1) := by decide +kernel
theorem dX5_how_22 : decode cX5_how 22 = .ok (.iload_n 2, 1) := by decide +kernel
theorem dX5_how_23 : decode cX5_how 23 = .ok (.ifCond .ge 8, 3) := by decide +kernel
theorem dX5_how_26 : decode cX5_how 26 = .ok (.bipush (-9), 2) := by decide +kernel
theorem dX5_how_28 : decode cX5_how 28 = .ok (.goto 12, 3) := by decide +kernel
theorem dX5_how_31 : decode cX5_how 31 = .ok (.aload_n 0, 1) := by decide +kernel
theorem dX5_how_32 : decode cX5_how 32 = .ok (.getfield 32, 3) := by decide +kernel
theorem dX5_how_35 : decode cX5_how 35 = .ok (.iload_n 2, 1) := by decide +kernel
theorem dX5_how_36 : decode cX5_how 36 = .ok (.iload_n 1, 1) := by decide +kernel
theorem dX5_how_37 : decode cX5_how 37 = .ok (.invokevirtual 196, 3) := by decide +kernel
theorem dX5_how_40 : decode cX5_how 40 = .ok (.ireturn, 1) := by decide +kernel
theorem dX5_fewestRow_0 : decode cX5_fewestRow 0 = .ok (.aload_n 0, 1) := by decide +kernel
theorem dX5_fewestRow_1 : decode cX5_fewestRow 1 = .ok (.getfield 32, 3) := by decide +kernel
theorem dX5_fewestRow_4 : decode cX5_fewestRow 4 = .ok (.aload_n 0, 1) := by decide +kernel
theorem dX5_fewestRow_5 : decode cX5_fewestRow 5 = .ok (.getfield 19, 3) := by decide +kernel
theorem dX5_fewestRow_8 : decode cX5_fewestRow 8 = .ok (.aload_n 0, 1) := by decide +kernel
theorem dX5_fewestRow_9 : decode cX5_fewestRow 9 = .ok (.getfield 19, 3) := by decide +kernel
theorem dX5_fewestRow_12 : decode cX5_fewestRow 12 = .ok (.getfield 93, 3) := by decide +kernel
theorem dX5_fewestRow_15 : decode cX5_fewestRow 15 = .ok (.invokevirtual 176, 3) := by decide +kernel
theorem dX5_fewestRow_18 : decode cX5_fewestRow 18 = .ok (.iconst (-1), 1) := by decide +kernel
theorem dX5_fewestRow_19 : decode cX5_fewestRow 19 = .ok (.istore_n 1, 1) := by decide +kernel
theorem dX5_fewestRow_20 : decode cX5_fewestRow 20 = .ok (.iconst 0, 1) := by decide +kernel
theorem dX5_fewestRow_21 : decode cX5_fewestRow 21 = .ok (.istore_n 2, 1) := by decide +kernel
theorem dX5_fewestRow_22 : decode cX5_fewestRow 22 = .ok (.iconst 0, 1) := by decide +kernel
theorem dX5_fewestRow_23 : decode cX5_fewestRow 23 = .ok (.istore_n 3, 1) := by decide +kernel
theorem dX5_fewestRow_24 : decode cX5_fewestRow 24 = .ok (.iload_n 3, 1) := by decide +kernel
theorem dX5_fewestRow_25 : decode cX5_fewestRow 25 = .ok (.aload_n 0, 1) := by decide +kernel
theorem dX5_fewestRow_26 : decode cX5_fewestRow 26 = .ok (.getfield 32, 3) := by decide +kernel
theorem dX5_fewestRow_29 : decode cX5_fewestRow 29 = .ok (.getfield 180, 3) := by decide +kernel
theorem dX5_fewestRow_32 : decode cX5_fewestRow 32 = .ok (.if_icmp .ge 52, 3) := by decide +kernel
theorem dX5_fewestRow_35 : decode cX5_fewestRow 35 = .ok (.aload_n 0, 1) := by decide +kernel
theorem dX5_fewestRow_36 : decode cX5_fewestRow 36 = .ok (.getfield 19, 3) := by decide +kernel
theorem dX5_fewestRow_39 : decode cX5_fewestRow 39 = .ok (.aload_n 0, 1) := by decide +kernel
theorem dX5_fewestRow_40 : decode cX5_fewestRow 40 = .ok (.getfield 32, 3) := by decide +kernel
theorem dX5_fewestRow_43 : decode cX5_fewestRow 43 = .ok (.iload_n 3, 1) := by decide +kernel
theorem dX5_fewestRow_44 : decode cX5_fewestRow 44 = .ok (.invokevirtual 183, 3) := by decide +kernel
theorem dX5_fewestRow_47 : decode cX5_fewestRow 47 = .ok (.invokevirtual 143, 3) := by decide +kernel
theorem dX5_fewestRow_50 : decode cX5_fewestRow 50 = .ok (.ifCond .eq 28, 3) := by decide +kernel
theorem dX5_fewestRow_53 : decode cX5_fewestRow 53 = .ok (.aload_n 0, 1) := by decide +kernel
theorem dX5_fewestRow_54 : decode cX5_fewestRow 54 = .ok (.getfield 32, 3) := by decide +kernel
theorem dX5_fewestRow_57 : decode cX5_fewestRow 57 = .ok (.iload_n 3, 1) := by decide +kernel
theorem dX5_fewestRow_58 : decode cX5_fewestRow 58 = .ok (.invokevirtual 189, 3) := by decide +kernel
theorem dX5_fewestRow_61 : decode cX5_fewestRow 61 = .ok (.istore 4, 2) := by decide +kernel
theorem dX5_fewestRow_63 : decode cX5_fewestRow 63 = .ok (.iload_n 1, 1) := by decide +kernel
theorem dX5_fewestRow_64 : decode cX5_fewestRow 64 = .ok (.ifCond .lt 9, 3) := by decide +kernel
theorem dX5_fewestRow_67 : decode cX5_fewestRow 67 = .ok (.iload 4, 2) := by decide +kernel
theorem dX5_fewestRow_69 : decode cX5_fewestRow 69 = .ok (.iload_n 2, 1) := by decide +kernel
theorem dX5_fewestRow_70 : decode cX5_fewestRow 70 = .ok (.if_icmp .ge 8, 3) := by decide +kernel
theorem dX5_fewestRow_73 : decode cX5_fewestRow 73 = .ok (.iload_n 3, 1) := by decide +kernel
theorem dX5_fewestRow_74 : decode cX5_fewestRow 74 = .ok (.istore_n 1, 1) := by decide +kernel
theorem dX5_fewestRow_75 : decode cX5_fewestRow 75 = .ok (.iload 4, 2) := by decide +kernel
theorem dX5_fewestRow_77 : decode cX5_fewestRow 77 = .ok (.istore_n 2, 1) := by decide +kernel
theorem dX5_fewestRow_78 : decode cX5_fewestRow 78 = .ok (.iinc 3 1, 3) := by decide +kernel
theorem dX5_fewestRow_81 : decode cX5_fewestRow 81 = .ok (.goto (-57), 3) := by decide +kernel
theorem dX5_fewestRow_84 : decode cX5_fewestRow 84 = .ok (.iload_n 1, 1) := by decide +kernel
theorem dX5_fewestRow_85 : decode cX5_fewestRow 85 = .ok (.ireturn, 1) := by decide +kernel
theorem dX5_nothing_0 : decode cX5_nothing 0 = .ok (.aload_n 0, 1) := by decide +kernel
theorem dX5_nothing_1 : decode cX5_nothing 1 = .ok (.getfield 32, 3) := by decide +kernel
theorem dX5_nothing_4 : decode cX5_nothing 4 = .ok (.aload_n 0, 1) := by decide +kernel
theorem dX5_nothing_5 : decode cX5_nothing 5 = .ok (.getfield 19, 3) := by decide +kernel
theorem dX5_nothing_8 : decode cX5_nothing 8 = .ok (.aload_n 0, 1) := by decide +kernel
theorem dX5_nothing_9 : decode cX5_nothing 9 = .ok (.getfield 19, 3) := by decide +kernel
theorem dX5_nothing_12 : decode cX5_nothing 12 = .ok (.getfield 93, 3) := by decide +kernel
theorem dX5_nothing_15 : decode cX5_nothing 15 = .ok (.invokevirtual 176, 3) := by decide +kernel
theorem dX5_nothing_18 : decode cX5_nothing 18 = .ok (.aload_n 0, 1) := by decide +kernel
theorem dX5_nothing_19 : decode cX5_nothing 19 = .ok (.getfield 32, 3) := by decide +kernel
theorem dX5_nothing_22 : decode cX5_nothing 22 = .ok (.aload_n 0, 1) := by decide +kernel
theorem dX5_nothing_23 : decode cX5_nothing 23 = .ok (.getfield 19, 3) := by decide +kernel
theorem dX5_nothing_26 : decode cX5_nothing 26 = .ok (.getfield 93, 3) := by decide +kernel
theorem dX5_nothing_29 : decode cX5_nothing 29 = .ok (.invokevirtual 199, 3) := by decide +kernel
theorem dX5_nothing_32 : decode cX5_nothing 32 = .ok (.ireturn, 1) := by decide +kernel
theorem dX5_states_0 : decode cX5_states 0 = .ok (.aload_n 0, 1) := by decide +kernel
theorem dX5_states_1 : decode cX5_states 1 = .ok (.getfield 32, 3) := by decide +kernel
theorem dX5_states_4 : decode cX5_states 4 = .ok (.aload_n 0, 1) := by decide +kernel
theorem dX5_states_5 : decode cX5_states 5 = .ok (.getfield 19, 3) := by decide +kernel
theorem dX5_states_8 : decode cX5_states 8 = .ok (.aload_n 0, 1) := by decide +kernel
theorem dX5_states_9 : decode cX5_states 9 = .ok (.getfield 19, 3) := by decide +kernel
theorem dX5_states_12 : decode cX5_states 12 = .ok (.getfield 93, 3) := by decide +kernel
theorem dX5_states_15 : decode cX5_states 15 = .ok (.invokevirtual 176, 3) := by decide +kernel
theorem dX5_states_18 : decode cX5_states 18 = .ok (.aload_n 0, 1) := by decide +kernel
theorem dX5_states_19 : decode cX5_states 19 = .ok (.getfield 32, 3) := by decide +kernel
theorem dX5_states_22 : decode cX5_states 22 = .ok (.getfield 180, 3) := by decide +kernel
theorem dX5_states_25 : decode cX5_states 25 = .ok (.aload_n 0, 1) := by decide +kernel
theorem dX5_states_26 : decode cX5_states 26 = .ok (.getfield 32, 3) := by decide +kernel
theorem dX5_states_29 : decode cX5_states 29 = .ok (.aload_n 0, 1) := by decide +kernel
theorem dX5_states_30 : decode cX5_states 30 = .ok (.getfield 19, 3) := by decide +kernel
theorem dX5_states_33 : decode cX5_states 33 = .ok (.getfield 93, 3) := by decide +kernel
theorem dX5_states_36 : decode cX5_states 36 = .ok (.invokevirtual 199, 3) := by decide +kernel
theorem dX5_states_39 : decode cX5_states 39 = .ok (.invokestatic 165, 3) := by decide +kernel
theorem dX5_states_42 : decode cX5_states 42 = .ok (.ireturn, 1) := by decide +kernel
theorem dX5_keys_0 : decode cX5_keys 0 = .ok (.iload_n 1, 1) := by decide +kernel
theorem dX5_keys_1 : decode cX5_keys 1 = .ok (.ifCond .eq 14, 3) := by decide +kernel
theorem dX5_keys_4 : decode cX5_keys 4 = .ok (.iload_n 1, 1) := by decide +kernel
theorem dX5_keys_5 : decode cX5_keys 5 = .ok (.iconst 1, 1) := by decide +kernel
theorem dX5_keys_6 : decode cX5_keys 6 = .ok (.if_icmp .eq 9, 3) := by decide +kernel
theorem dX5_keys_9 : decode cX5_keys 9 = .ok (.aload_n 0, 1) := by decide +kernel
theorem dX5_keys_10 : decode cX5_keys 10 = .ok (.iconst 2, 1) := by decide +kernel
theorem dX5_keys_11 : decode cX5_keys 11 = .ok (.invokevirtual 50, 3) := by decide +kernel
theorem dX5_keys_14 : decode cX5_keys 14 = .ok (.ireturn, 1) := by decide +kernel
theorem dX5_keys_15 : decode cX5_keys 15 = .ok (.bipush (-9), 2) := by decide +kernel
theorem dX5_keys_17 : decode cX5_keys 17 = .ok (.istore_n 2, 1) := by decide +kernel
theorem dX5_keys_18 : decode cX5_keys 18 = .ok (.iconst 0, 1) := by decide +kernel
theorem dX5_keys_19 : decode cX5_keys 19 = .ok (.istore_n 3, 1) := by decide +kernel
theorem dX5_keys_20 : decode cX5_keys 20 = .ok (.iload_n 3, 1) := by decide +kernel
theorem dX5_keys_21 : decode cX5_keys 21 = .ok (.iconst 1, 1) := by decide +kernel
theorem dX5_keys_22 : decode cX5_keys 22 = .ok (.aload_n 0, 1) := by decide +kernel
theorem dX5_keys_23 : decode cX5_keys 23 = .ok (.getfield 19, 3) := by decide +kernel
theorem dX5_keys_26 : decode cX5_keys 26 = .ok (.getfield 202, 3) := by decide +kernel
theorem dX5_keys_29 : decode cX5_keys 29 = .ok (.ishl, 1) := by decide +kernel
theorem dX5_keys_30 : decode cX5_keys 30 = .ok (.if_icmp .ge 55, 3) := by decide +kernel
theorem dX5_keys_33 : decode cX5_keys 33 = .ok (.iload_n 2, 1) := by decide +kernel
theorem dX5_keys_34 : decode cX5_keys 34 = .ok (.bipush (-9), 2) := by decide +kernel
theorem dX5_keys_36 : decode cX5_keys 36 = .ok (.if_icmp .eq 14, 3) := by decide +kernel
theorem dX5_keys_39 : decode cX5_keys 39 = .ok (.iload_n 3, 1) := by decide +kernel
theorem dX5_keys_40 : decode cX5_keys 40 = .ok (.invokestatic 205, 3) := by decide +kernel
theorem dX5_keys_43 : decode cX5_keys 43 = .ok (.iload_n 2, 1) := by decide +kernel
theorem dX5_keys_44 : decode cX5_keys 44 = .ok (.invokestatic 205, 3) := by decide +kernel
theorem dX5_keys_47 : decode cX5_keys 47 = .ok (.if_icmp .ge 7, 3) := by decide +kernel
theorem dX5_keys_50 : decode cX5_keys 50 = .ok (.iconst 1, 1) := by decide +kernel
theorem dX5_keys_51 : decode cX5_keys 51 = .ok (.goto 4, 3) := by decide +kernel
theorem dX5_keys_54 : decode cX5_keys 54 = .ok (.iconst 0, 1) := by decide +kernel
theorem dX5_keys_55 : decode cX5_keys 55 = .ok (.istore 4, 2) := by decide +kernel
theorem dX5_keys_57 : decode cX5_keys 57 = .ok (.iload 4, 2) := by decide +kernel
theorem dX5_keys_59 : decode cX5_keys 59 = .ok (.ifCond .eq 20, 3) := by decide +kernel
theorem dX5_keys_62 : decode cX5_keys 62 = .ok (.aload_n 0, 1) := by decide +kernel
theorem dX5_keys_63 : decode cX5_keys 63 = .ok (.getfield 32, 3) := by decide +kernel
theorem dX5_keys_66 : decode cX5_keys 66 = .ok (.aload_n 0, 1) := by decide +kernel
theorem dX5_keys_67 : decode cX5_keys 67 = .ok (.getfield 19, 3) := by decide +kernel
theorem dX5_keys_70 : decode cX5_keys 70 = .ok (.iload_n 3, 1) := by decide +kernel
theorem dX5_keys_71 : decode cX5_keys 71 = .ok (.invokevirtual 210, 3) := by decide +kernel
theorem dX5_keys_74 : decode cX5_keys 74 = .ok (.ifCond .eq 5, 3) := by decide +kernel
theorem dX5_keys_77 : decode cX5_keys 77 = .ok (.iload_n 3, 1) := by decide +kernel
theorem dX5_keys_78 : decode cX5_keys 78 = .ok (.istore_n 2, 1) := by decide +kernel
theorem dX5_keys_79 : decode cX5_keys 79 = .ok (.iinc 3 1, 3) := by decide +kernel
theorem dX5_keys_82 : decode cX5_keys 82 = .ok (.goto (-62), 3) := by decide +kernel
theorem dX5_keys_85 : decode cX5_keys 85 = .ok (.iload_n 2, 1) := by decide +kernel
theorem dX5_keys_86 : decode cX5_keys 86 = .ok (.bipush (-9), 2) := by decide +kernel
theorem dX5_keys_88 : decode cX5_keys 88 = .ok (.if_icmp .eq 8, 3) := by decide +kernel
theorem dX5_keys_91 : decode cX5_keys 91 = .ok (.iload_n 1, 1) := by decide +kernel
theorem dX5_keys_92 : decode cX5_keys 92 = .ok (.iconst 1, 1) := by decide +kernel
theorem dX5_keys_93 : decode cX5_keys 93 = .ok (.if_icmp .ne 7, 3) := by decide +kernel
theorem dX5_keys_96 : decode cX5_keys 96 = .ok (.iload_n 2, 1) := by decide +kernel
theorem dX5_keys_97 : decode cX5_keys 97 = .ok (.goto 7, 3) := by decide +kernel
theorem dX5_keys_100 : decode cX5_keys 100 = .ok (.iload_n 2, 1) := by decide +kernel
theorem dX5_keys_101 : decode cX5_keys 101 = .ok (.invokestatic 205, 3) := by decide +kernel
theorem dX5_keys_104 : decode cX5_keys 104 = .ok (.ireturn, 1) := by decide +kernel
theorem dX5_been_0 : decode cX5_been 0 = .ok (.aload_n 0, 1) := by decide +kernel
theorem dX5_been_1 : decode cX5_been 1 = .ok (.getfield 32, 3) := by decide +kernel
theorem dX5_been_4 : decode cX5_been 4 = .ok (.aload_n 0, 1) := by decide +kernel
theorem dX5_been_5 : decode cX5_been 5 = .ok (.getfield 19, 3) := by decide +kernel
theorem dX5_been_8 : decode cX5_been 8 = .ok (.iconst 0, 1) := by decide +kernel
theorem dX5_been_9 : decode cX5_been 9 = .ok (.invokevirtual 176, 3) := by decide +kernel
theorem dX5_been_12 : decode cX5_been 12 = .ok (.aload_n 0, 1) := by decide +kernel
theorem dX5_been_13 : decode cX5_been 13 = .ok (.getfield 32, 3) := by decide +kernel
theorem dX5_been_16 : decode cX5_been 16 = .ok (.aload_n 0, 1) := by decide +kernel
theorem dX5_been_17 : decode cX5_been 17 = .ok (.getfield 19, 3) := by decide +kernel
theorem dX5_been_20 : decode cX5_been 20 = .ok (.getfield 93, 3) := by decide +kernel
theorem dX5_been_23 : decode cX5_been 23 = .ok (.invokevirtual 199, 3) := by decide +kernel
theorem dX5_been_26 : decode cX5_been 26 = .ok (.ireturn, 1) := by decide +kernel
theorem dX5_sure_0 : decode cX5_sure 0 = .ok (.aload_n 0, 1) := by decide +kernel
theorem dX5_sure_1 : decode cX5_sure 1 = .ok (.getfield 32, 3) := by decide +kernel
theorem dX5_sure_4 : decode cX5_sure 4 = .ok (.aload_n 0, 1) := by decide +kernel
theorem dX5_sure_5 : decode cX5_sure 5 = .ok (.getfield 19, 3) := by decide +kernel
theorem dX5_sure_8 : decode cX5_sure 8 = .ok (.iconst 0, 1) := by decide +kernel
theorem dX5_sure_9 : decode cX5_sure 9 = .ok (.invokevirtual 176, 3) := by decide +kernel
theorem dX5_sure_12 : decode cX5_sure 12 = .ok (.iconst 1, 1) := by decide +kernel
theorem dX5_sure_13 : decode cX5_sure 13 = .ok (.aload_n 0, 1) := by decide +kernel
theorem dX5_sure_14 : decode cX5_sure 14 = .ok (.getfield 19, 3) := by decide +kernel
theorem dX5_sure_17 : decode cX5_sure 17 = .ok (.getfield 202, 3) := by decide +kernel
theorem dX5_sure_20 : decode cX5_sure 20 = .ok (.ishl, 1) := by decide +kernel
theorem dX5_sure_21 : decode cX5_sure 21 = .ok (.iconst 1, 1) := by decide +kernel
theorem dX5_sure_22 : decode cX5_sure 22 = .ok (.isub, 1) := by decide +kernel
theorem dX5_sure_23 : decode cX5_sure 23 = .ok (.istore_n 1, 1) := by decide +kernel
theorem dX5_sure_24 : decode cX5_sure 24 = .ok (.iconst 0, 1) := by decide +kernel
theorem dX5_sure_25 : decode cX5_sure 25 = .ok (.istore_n 2, 1) := by decide +kernel
theorem dX5_sure_26 : decode cX5_sure 26 = .ok (.iconst 0, 1) := by decide +kernel
theorem dX5_sure_27 : decode cX5_sure 27 = .ok (.istore_n 3, 1) := by decide +kernel
theorem dX5_sure_28 : decode cX5_sure 28 = .ok (.iload_n 3, 1) := by decide +kernel
theorem dX5_sure_29 : decode cX5_sure 29 = .ok (.aload_n 0, 1) := by decide +kernel
theorem dX5_sure_30 : decode cX5_sure 30 = .ok (.getfield 32, 3) := by decide +kernel
theorem dX5_sure_33 : decode cX5_sure 33 = .ok (.getfield 180, 3) := by decide +kernel
theorem dX5_sure_36 : decode cX5_sure 36 = .ok (.if_icmp .ge 40, 3) := by decide +kernel
theorem dX5_sure_39 : decode cX5_sure 39 = .ok (.aload_n 0, 1) := by decide +kernel
theorem dX5_sure_40 : decode cX5_sure 40 = .ok (.getfield 32, 3) := by decide +kernel
theorem dX5_sure_43 : decode cX5_sure 43 = .ok (.iload_n 3, 1) := by decide +kernel
theorem dX5_sure_44 : decode cX5_sure 44 = .ok (.invokevirtual 183, 3) := by decide +kernel
theorem dX5_sure_47 : decode cX5_sure 47 = .ok (.aload_n 0, 1) := by decide +kernel
theorem dX5_sure_48 : decode cX5_sure 48 = .ok (.getfield 19, 3) := by decide +kernel
theorem dX5_sure_51 : decode cX5_sure 51 = .ok (.getfield 93, 3) := by decide +kernel
theorem dX5_sure_54 : decode cX5_sure 54 = .ok (.if_icmp .ne 16, 3) := by decide +kernel
theorem dX5_sure_57 : decode cX5_sure 57 = .ok (.iconst 1, 1) := by decide +kernel
theorem dX5_sure_58 : decode cX5_sure 58 = .ok (.istore_n 2, 1) := by decide +kernel
theorem dX5_sure_59 : decode cX5_sure 59 = .ok (.iload_n 1, 1) := by decide +kernel
theorem dX5_sure_60 : decode cX5_sure 60 = .ok (.aload_n 0, 1) := by decide +kernel
theorem dX5_sure_61 : decode cX5_sure 61 = .ok (.getfield 32, 3) := by decide +kernel
theorem dX5_sure_64 : decode cX5_sure 64 = .ok (.iload_n 3, 1) := by decide +kernel
theorem dX5_sure_65 : decode cX5_sure 65 = .ok (.invokevirtual 214, 3) := by decide +kernel
theorem dX5_sure_68 : decode cX5_sure 68 = .ok (.iand, 1) := by decide +kernel
theorem dX5_sure_69 : decode cX5_sure 69 = .ok (.istore_n 1, 1) := by decide +kernel
theorem dX5_sure_70 : decode cX5_sure 70 = .ok (.iinc 3 1, 3) := by decide +kernel
theorem dX5_sure_73 : decode cX5_sure 73 = .ok (.goto (-45), 3) := by decide +kernel
theorem dX5_sure_76 : decode cX5_sure 76 = .ok (.iload_n 2, 1) := by decide +kernel
theorem dX5_sure_77 : decode cX5_sure 77 = .ok (.ifCond .eq 7, 3) := by decide +kernel
theorem dX5_sure_80 : decode cX5_sure 80 = .ok (.iload_n 1, 1) := by decide +kernel
theorem dX5_sure_81 : decode cX5_sure 81 = .ok (.goto 4, 3) := by decide +kernel
theorem dX5_sure_84 : decode cX5_sure 84 = .ok (.iconst 0, 1) := by decide +kernel
theorem dX5_sure_85 : decode cX5_sure 85 = .ok (.ireturn, 1) := by decide +kernel
theorem dX5_forEver_0 : decode cX5_forEver 0 = .ok (.iload_n 1, 1) := by decide +kernel
theorem dX5_forEver_1 : decode cX5_forEver 1 = .ok (.iconst 1, 1) := by decide +kernel
theorem dX5_forEver_2 : decode cX5_forEver 2 = .ok (.if_icmp .ge 9, 3) := by decide +kernel
theorem dX5_forEver_5 : decode cX5_forEver 5 = .ok (.aload_n 0, 1) := by decide +kernel
theorem dX5_forEver_6 : decode cX5_forEver 6 = .ok (.iconst 4, 1) := by decide +kernel
theorem dX5_forEver_7 : decode cX5_forEver 7 = .ok (.invokevirtual 50, 3) := by decide +kernel
theorem dX5_forEver_10 : decode cX5_forEver 10 = .ok (.ireturn, 1) := by decide +kernel
theorem dX5_forEver_11 : decode cX5_forEver 11 = .ok (.iload_n 1, 1) := by decide +kernel
theorem dX5_forEver_12 : decode cX5_forEver 12 = .ok (.ldc 217, 2) := by decide +kernel
theorem dX5_forEver_14 : decode cX5_forEver 14 = .ok (.if_icmp .le 10, 3) := by decide +kernel
theorem dX5_forEver_17 : decode cX5_forEver 17 = .ok (.aload_n 0, 1) := by decide +kernel
theorem dX5_forEver_18 : decode cX5_forEver 18 = .ok (.bipush 6, 2) := by decide +kernel
theorem dX5_forEver_20 : decode cX5_forEver 20 = .ok (.invokevirtual 50, 3) := by decide +kernel
theorem dX5_forEver_23 : decode cX5_forEver 23 = .ok (.ireturn, 1) := by decide +kernel
theorem dX5_forEver_24 : decode cX5_forEver 24 = .ok (.aload_n 0, 1) := by decide +kernel
theorem dX5_forEver_25 : decode cX5_forEver 25 = .ok (.iload_n 1, 1) := by decide +kernel
theorem dX5_forEver_26 : decode cX5_forEver 26 = .ok (.invokevirtual 218, 3) := by decide +kernel
theorem dX5_forEver_29 : decode cX5_forEver 29 = .ok (.ireturn, 1) := by decide +kernel
theorem dX5_nth_0 : decode cX5_nth 0 = .ok (.iload_n 1, 1) := by decide +kernel
theorem dX5_nth_1 : decode cX5_nth 1 = .ok (.iconst 1, 1) := by decide +kernel
theorem dX5_nth_2 : decode cX5_nth 2 = .ok (.if_icmp .ge 9, 3) := by decide +kernel
theorem dX5_nth_5 : decode cX5_nth 5 = .ok (.aload_n 0, 1) := by decide +kernel
theorem dX5_nth_6 : decode cX5_nth 6 = .ok (.iconst 4, 1) := by decide +kernel
theorem dX5_nth_7 : decode cX5_nth 7 = .ok (.invokevirtual 50, 3) := by decide +kernel
theorem dX5_nth_10 : decode cX5_nth 10 = .ok (.ireturn, 1) := by decide +kernel
theorem dX5_nth_11 : decode cX5_nth 11 = .ok (.iload_n 1, 1) := by decide +kernel
theorem dX5_nth_12 : decode cX5_nth 12 = .ok (.bipush 40, 2) := by decide +kernel
theorem dX5_nth_14 : decode cX5_nth 14 = .ok (.if_icmp .le 10, 3) := by decide +kernel
theorem dX5_nth_17 : decode cX5_nth 17 = .ok (.aload_n 0, 1) := by decide +kernel
theorem dX5_nth_18 : decode cX5_nth 18 = .ok (.bipush 6, 2) := by decide +kernel
theorem dX5_nth_20 : decode cX5_nth 20 = .ok (.invokevirtual 50, 3) := by decide +kernel
theorem dX5_nth_23 : decode cX5_nth 23 = .ok (.ireturn, 1) := by decide +kernel
theorem dX5_nth_24 : decode cX5_nth 24 = .ok (.iconst 0, 1) := by decide +kernel
theorem dX5_nth_25 : decode cX5_nth 25 = .ok (.istore_n 2, 1) := by decide +kernel
theorem dX5_nth_26 : decode cX5_nth 26 = .ok (.iconst 0, 1) := by decide +kernel
theorem dX5_nth_27 : decode cX5_nth 27 = .ok (.istore_n 3, 1) := by decide +kernel
theorem dX5_nth_28 : decode cX5_nth 28 = .ok (.iload_n 2, 1) := by decide +kernel
theorem dX5_nth_29 : decode cX5_nth 29 = .ok (.iload_n 1, 1) := by decide +kernel
theorem dX5_nth_30 : decode cX5_nth 30 = .ok (.if_icmp .ge 27, 3) := by decide +kernel
theorem dX5_nth_33 : decode cX5_nth 33 = .ok (.iload_n 3, 1) := by decide +kernel
theorem dX5_nth_34 : decode cX5_nth 34 = .ok (.sipush 2000, 3) := by decide +kernel
theorem dX5_nth_37 : decode cX5_nth 37 = .ok (.if_icmp .ge 20, 3) := by decide +kernel
theorem dX5_nth_40 : decode cX5_nth 40 = .ok (.iinc 3 1, 3) := by decide +kernel
theorem dX5_nth_43 : decode cX5_nth 43 = .ok (.aload_n 0, 1) := by decide +kernel
theorem dX5_nth_44 : decode cX5_nth 44 = .ok (.iload_n 3, 1) := by decide +kernel
theorem dX5_nth_45 : decode cX5_nth 45 = .ok (.invokevirtual 218, 3) := by decide +kernel
theorem dX5_nth_48 : decode cX5_nth 48 = .ok (.ifCond .eq (-20), 3) := by decide +kernel
theorem dX5_nth_51 : decode cX5_nth 51 = .ok (.iinc 2 1, 3) := by decide +kernel
theorem dX5_nth_54 : decode cX5_nth 54 = .ok (.goto (-26), 3) := by decide +kernel
theorem dX5_nth_57 : decode cX5_nth 57 = .ok (.iload_n 3, 1) := by decide +kernel
theorem dX5_nth_58 : decode cX5_nth 58 = .ok (.ireturn, 1) := by decide +kernel
theorem dX5_open_0 : decode cX5_open 0 = .ok (.iload_n 1, 1) := by decide +kernel
theorem dX5_open_1 : decode cX5_open 1 = .ok (.iconst 1, 1) := by decide +kernel
theorem dX5_open_2 : decode cX5_open 2 = .ok (.if_icmp .ge 9, 3) := by decide +kernel
theorem dX5_open_5 : decode cX5_open 5 = .ok (.aload_n 0, 1) := by decide +kernel
theorem dX5_open_6 : decode cX5_open 6 = .ok (.iconst 4, 1) := by decide +kernel
theorem dX5_open_7 : decode cX5_open 7 = .ok (.invokevirtual 50, 3) := by decide +kernel
theorem dX5_open_10 : decode cX5_open 10 = .ok (.ireturn, 1) := by decide +kernel
theorem dX5_open_11 : decode cX5_open 11 = .ok (.iload_n 1, 1) := by decide +kernel
theorem dX5_open_12 : decode cX5_open 12 = .ok (.sipush 2000, 3) := by decide +kernel
theorem dX5_open_15 : decode cX5_open 15 = .ok (.if_icmp .le 10, 3) := by decide +kernel
theorem dX5_open_18 : decode cX5_open 18 = .ok (.aload_n 0, 1) := by decide +kernel
theorem dX5_open_19 : decode cX5_open 19 = .ok (.bipush 6, 2) := by decide +kernel
theorem dX5_open_21 : decode cX5_open 21 = .ok (.invokevirtual 50, 3) := by decide +kernel
theorem dX5_open_24 : decode cX5_open 24 = .ok (.ireturn, 1) := by decide +kernel
theorem dX5_open_25 : decode cX5_open 25 = .ok (.iconst 0, 1) := by decide +kernel
theorem dX5_open_26 : decode cX5_open 26 = .ok (.istore_n 2, 1) := by decide +kernel
theorem dX5_open_27 : decode cX5_open 27 = .ok (.iconst 1, 1) := by decide +kernel
theorem dX5_open_28 : decode cX5_open 28 = .ok (.istore_n 3, 1) := by decide +kernel
theorem dX5_open_29 : decode cX5_open 29 = .ok (.iload_n 3, 1) := by decide +kernel
theorem dX5_open_30 : decode cX5_open 30 = .ok (.iload_n 1, 1) := by decide +kernel
theorem dX5_open_31 : decode cX5_open 31 = .ok (.if_icmp .gt 20, 3) := by decide +kernel
theorem dX5_open_34 : decode cX5_open 34 = .ok (.aload_n 0, 1) := by decide +kernel
theorem dX5_open_35 : decode cX5_open 35 = .ok (.iload_n 3, 1) := by decide +kernel
theorem dX5_open_36 : decode cX5_open 36 = .ok (.invokevirtual 218, 3) := by decide +kernel
theorem dX5_open_39 : decode cX5_open 39 = .ok (.ifCond .eq 6, 3) := by decide +kernel
theorem dX5_open_42 : decode cX5_open 42 = .ok (.iinc 2 1, 3) := by decide +kernel
theorem dX5_open_45 : decode cX5_open 45 = .ok (.iinc 3 1, 3) := by decide +kernel
theorem dX5_open_48 : decode cX5_open 48 = .ok (.goto (-19), 3) := by decide +kernel
theorem dX5_open_51 : decode cX5_open 51 = .ok (.iload_n 2, 1) := by decide +kernel
theorem dX5_open_52 : decode cX5_open 52 = .ok (.ireturn, 1) := by decide +kernel
theorem dX5_farWay_0 : decode cX5_farWay 0 = .ok (.iload_n 1, 1) := by decide +kernel
theorem dX5_farWay_1 : decode cX5_farWay 1 = .ok (.invokestatic 221, 3) := by decide +kernel
theorem dX5_farWay_4 : decode cX5_farWay 4 = .ok (.aload_n 0, 1) := by decide +kernel
theorem dX5_farWay_5 : decode cX5_farWay 5 = .ok (.getfield 19, 3) := by decide +kernel
theorem dX5_farWay_8 : decode cX5_farWay 8 = .ok (.getfield 133, 3) := by decide +kernel
theorem dX5_farWay_11 : decode cX5_farWay 11 = .ok (.invokestatic 162, 3) := by decide +kernel
theorem dX5_farWay_14 : decode cX5_farWay 14 = .ok (.ireturn, 1) := by decide +kernel
theorem dX5_log_0 : decode cX5_log 0 = .ok (.iload_n 1, 1) := by decide +kernel
theorem dX5_log_1 : decode cX5_log 1 = .ok (.bipush 9, 2) := by decide +kernel
theorem dX5_log_3 : decode cX5_log 3 = .ok (.if_icmp .eq 20, 3) := by decide +kernel
theorem dX5_log_6 : decode cX5_log 6 = .ok (.aload_n 0, 1) := by decide +kernel
theorem dX5_log_7 : decode cX5_log 7 = .ok (.getfield 19, 3) := by decide +kernel
theorem dX5_log_10 : decode cX5_log 10 = .ok (.iload_n 1, 1) := by decide +kernel
theorem dX5_log_11 : decode cX5_log 11 = .ok (.invokevirtual 106, 3) := by decide +kernel
theorem dX5_log_14 : decode cX5_log 14 = .ok (.ifnonnull 9, 3) := by decide +kernel
theorem dX5_log_17 : decode cX5_log 17 = .ok (.aload_n 0, 1) := by decide +kernel
theorem dX5_log_18 : decode cX5_log 18 = .ok (.iconst 1, 1) := by decide +kernel
theorem dX5_log_19 : decode cX5_log 19 = .ok (.invokevirtual 50, 3) := by decide +kernel
theorem dX5_log_22 : decode cX5_log 22 = .ok (.ireturn, 1) := by decide +kernel
theorem dX5_log_23 : decode cX5_log 23 = .ok (.aload_n 0, 1) := by decide +kernel
theorem dX5_log_24 : decode cX5_log 24 = .ok (.getfield 19, 3) := by decide +kernel
theorem dX5_log_27 : decode cX5_log 27 = .ok (.getfield 224, 3) := by decide +kernel
theorem dX5_log_30 : decode cX5_log 30 = .ok (.bipush 10, 2) := by decide +kernel
theorem dX5_log_32 : decode cX5_log 32 = .ok (.if_icmp .lt 10, 3) := by decide +kernel
theorem dX5_log_35 : decode cX5_log 35 = .ok (.aload_n 0, 1) := by decide +kernel
theorem dX5_log_36 : decode cX5_log 36 = .ok (.bipush 6, 2) := by decide +kernel
theorem dX5_log_38 : decode cX5_log 38 = .ok (.invokevirtual 50, 3) := by decide +kernel
theorem dX5_log_41 : decode cX5_log 41 = .ok (.ireturn, 1) := by decide +kernel
theorem dX5_log_42 : decode cX5_log 42 = .ok (.aload_n 0, 1) := by decide +kernel
theorem dX5_log_43 : decode cX5_log 43 = .ok (.getfield 19, 3) := by decide +kernel
theorem dX5_log_46 : decode cX5_log 46 = .ok (.iload_n 1, 1) := by decide +kernel
theorem dX5_log_47 : decode cX5_log 47 = .ok (.invokevirtual 227, 3) := by decide +kernel
theorem dX5_log_50 : decode cX5_log 50 = .ok (.ireturn, 1) := by decide +kernel
theorem dX5_order_0 : decode cX5_order 0 = .ok (.aload_n 0, 1) := by decide +kernel
theorem dX5_order_1 : decode cX5_order 1 = .ok (.getfield 19, 3) := by decide +kernel
theorem dX5_order_4 : decode cX5_order 4 = .ok (.iload_n 1, 1) := by decide +kernel
theorem dX5_order_5 : decode cX5_order 5 = .ok (.invokevirtual 89, 3) := by decide +kernel
theorem dX5_order_8 : decode cX5_order 8 = .ok (.ifCond .ne 9, 3) := by decide +kernel
theorem dX5_order_11 : decode cX5_order 11 = .ok (.aload_n 0, 1) := by decide +kernel
theorem dX5_order_12 : decode cX5_order 12 = .ok (.iconst 1, 1) := by decide +kernel
theorem dX5_order_13 : decode cX5_order 13 = .ok (.invokevirtual 50, 3) := by decide +kernel
theorem dX5_order_16 : decode cX5_order 16 = .ok (.ireturn, 1) := by decide +kernel
theorem dX5_order_17 : decode cX5_order 17 = .ok (.aload_n 0, 1) := by decide +kernel
theorem dX5_order_18 : decode cX5_order 18 = .ok (.getfield 19, 3) := by decide +kernel
theorem dX5_order_21 : decode cX5_order 21 = .ok (.getfield 93, 3) := by decide +kernel
theorem dX5_order_24 : decode cX5_order 24 = .ok (.iload_n 1, 1) := by decide +kernel
theorem dX5_order_25 : decode cX5_order 25 = .ok (.invokestatic 96, 3) := by decide +kernel
theorem dX5_order_28 : decode cX5_order 28 = .ok (.istore_n 2, 1) := by decide +kernel
theorem dX5_order_29 : decode cX5_order 29 = .ok (.iconst 0, 1) := by decide +kernel
theorem dX5_order_30 : decode cX5_order 30 = .ok (.istore_n 3, 1) := by decide +kernel
theorem dX5_order_31 : decode cX5_order 31 = .ok (.iconst 0, 1) := by decide +kernel
theorem dX5_order_32 : decode cX5_order 32 = .ok (.istore 4, 2) := by decide +kernel
theorem dX5_order_34 : decode cX5_order 34 = .ok (.iconst 0, 1) := by decide +kernel
theorem dX5_order_35 : decode cX5_order 35 = .ok (.istore 5, 2) := by decide +kernel
theorem dX5_order_37 : decode cX5_order 37 = .ok (.iload 5, 2) := by decide +kernel
theorem dX5_order_39 : decode cX5_order 39 = .ok (.aload_n 0, 1) := by decide +kernel
theorem dX5_order_40 : decode cX5_order 40 = .ok (.getfield 19, 3) := by decide +kernel
theorem dX5_order_43 : decode cX5_order 43 = .ok (.getfield 224, 3) := by decide +kernel
theorem dX5_order_46 : decode cX5_order 46 = .ok (.if_icmp .ge 55, 3) := by decide +kernel
theorem dX5_order_49 : decode cX5_order 49 = .ok (.aload_n 0, 1) := by decide +kernel
theorem dX5_order_50 : decode cX5_order 50 = .ok (.getfield 19, 3) := by decide +kernel
theorem dX5_order_53 : decode cX5_order 53 = .ok (.aload_n 0, 1) := by decide +kernel
theorem dX5_order_54 : decode cX5_order 54 = .ok (.getfield 19, 3) := by decide +kernel
theorem dX5_order_57 : decode cX5_order 57 = .ok (.iload 5, 2) := by decide +kernel
theorem dX5_order_59 : decode cX5_order 59 = .ok (.invokevirtual 230, 3) := by decide +kernel
theorem dX5_order_62 : decode cX5_order 62 = .ok (.invokevirtual 124, 3) := by decide +kernel
theorem dX5_order_65 : decode cX5_order 65 = .ok (.iload_n 1, 1) := by decide +kernel
theorem dX5_order_66 : decode cX5_order 66 = .ok (.invokestatic 130, 3) := by decide +kernel
theorem dX5_order_69 : decode cX5_order 69 = .ok (.iand, 1) := by decide +kernel
theorem dX5_order_70 : decode cX5_order 70 = .ok (.ifCond .eq 25, 3) := by decide +kernel
theorem dX5_order_73 : decode cX5_order 73 = .ok (.iinc 3 1, 3) := by decide +kernel
theorem dX5_order_76 : decode cX5_order 76 = .ok (.iload_n 2, 1) := by decide +kernel
theorem dX5_order_77 : decode cX5_order 77 = .ok (.iload_n 3, 1) := by decide +kernel
theorem dX5_order_78 : decode cX5_order 78 = .ok (.iadd, 1) := by decide +kernel
theorem dX5_order_79 : decode cX5_order 79 = .ok (.aload_n 0, 1) := by decide +kernel
theorem dX5_order_80 : decode cX5_order 80 = .ok (.getfield 19, 3) := by decide +kernel
theorem dX5_order_83 : decode cX5_order 83 = .ok (.getfield 133, 3) := by decide +kernel
theorem dX5_order_86 : decode cX5_order 86 = .ok (.invokestatic 162, 3) := by decide +kernel
theorem dX5_order_89 : decode cX5_order 89 = .ok (.ifCond .ne 6, 3) := by decide +kernel
theorem dX5_order_92 : decode cX5_order 92 = .ok (.iinc 4 1, 3) := by decide +kernel
theorem dX5_order_95 : decode cX5_order 95 = .ok (.iinc 5 1, 3) := by decide +kernel
theorem dX5_order_98 : decode cX5_order 98 = .ok (.goto (-61), 3) := by decide +kernel
theorem dX5_order_101 : decode cX5_order 101 = .ok (.iload_n 2, 1) := by decide +kernel
theorem dX5_order_102 : decode cX5_order 102 = .ok (.ifCond .ne 17, 3) := by decide +kernel
theorem dX5_order_105 : decode cX5_order 105 = .ok (.iload_n 3, 1) := by decide +kernel
theorem dX5_order_106 : decode cX5_order 106 = .ok (.ifCond .ne 13, 3) := by decide +kernel
theorem dX5_order_109 : decode cX5_order 109 = .ok (.aload_n 0, 1) := by decide +kernel
theorem dX5_order_110 : decode cX5_order 110 = .ok (.getfield 19, 3) := by decide +kernel
theorem dX5_order_113 : decode cX5_order 113 = .ok (.getfield 224, 3) := by decide +kernel
theorem dX5_order_116 : decode cX5_order 116 = .ok (.goto 5, 3) := by decide +kernel
theorem dX5_order_119 : decode cX5_order 119 = .ok (.iload 4, 2) := by decide +kernel
theorem dX5_order_121 : decode cX5_order 121 = .ok (.ireturn, 1) := by decide +kernel
theorem dX5_fills_0 : decode cX5_fills 0 = .ok (.aload_n 0, 1) := by decide +kernel
theorem dX5_fills_1 : decode cX5_fills 1 = .ok (.getfield 19, 3) := by decide +kernel
theorem dX5_fills_4 : decode cX5_fills 4 = .ok (.invokevirtual 233, 3) := by decide +kernel
theorem dX5_fills_7 : decode cX5_fills 7 = .ok (.istore_n 1, 1) := by decide +kernel
theorem dX5_fills_8 : decode cX5_fills 8 = .ok (.iload_n 1, 1) := by decide +kernel
theorem dX5_fills_9 : decode cX5_fills 9 = .ok (.iconst 3, 1) := by decide +kernel
theorem dX5_fills_10 : decode cX5_fills 10 = .ok (.if_icmp .le 10, 3) := by decide +kernel
theorem dX5_fills_13 : decode cX5_fills 13 = .ok (.aload_n 0, 1) := by decide +kernel
theorem dX5_fills_14 : decode cX5_fills 14 = .ok (.bipush 6, 2) := by decide +kernel
theorem dX5_fills_16 : decode cX5_fills 16 = .ok (.invokevirtual 50, 3) := by decide +kernel
theorem dX5_fills_19 : decode cX5_fills 19 = .ok (.ireturn, 1) := by decide +kernel
theorem dX5_fills_20 : decode cX5_fills 20 = .ok (.aload_n 0, 1) := by decide +kernel
theorem dX5_fills_21 : decode cX5_fills 21 = .ok (.getfield 19, 3) := by decide +kernel
theorem dX5_fills_24 : decode cX5_fills 24 = .ok (.iconst 0, 1) := by decide +kernel
theorem dX5_fills_25 : decode cX5_fills 25 = .ok (.invokevirtual 236, 3) := by decide +kernel
theorem dX5_fills_28 : decode cX5_fills 28 = .ok (.istore_n 2, 1) := by decide +kernel
theorem dX5_fills_29 : decode cX5_fills 29 = .ok (.aload_n 0, 1) := by decide +kernel
theorem dX5_fills_30 : decode cX5_fills 30 = .ok (.getfield 19, 3) := by decide +kernel
theorem dX5_fills_33 : decode cX5_fills 33 = .ok (.getfield 202, 3) := by decide +kernel
theorem dX5_fills_36 : decode cX5_fills 36 = .ok (.iload_n 1, 1) := by decide +kernel
theorem dX5_fills_37 : decode cX5_fills 37 = .ok (.invokestatic 149, 3) := by decide +kernel
theorem dX5_fills_40 : decode cX5_fills 40 = .ok (.istore_n 3, 1) := by decide +kernel
theorem dX5_fills_41 : decode cX5_fills 41 = .ok (.iconst 0, 1) := by decide +kernel
theorem dX5_fills_42 : decode cX5_fills 42 = .ok (.istore 4, 2) := by decide +kernel
theorem dX5_fills_44 : decode cX5_fills 44 = .ok (.iconst 0, 1) := by decide +kernel
theorem dX5_fills_45 : decode cX5_fills 45 = .ok (.istore 5, 2) := by decide +kernel
theorem dX5_fills_47 : decode cX5_fills 47 = .ok (.iload 5, 2) := by decide +kernel
theorem dX5_fills_49 : decode cX5_fills 49 = .ok (.iload_n 3, 1) := by decide +kernel
theorem dX5_fills_50 : decode cX5_fills 50 = .ok (.if_icmp .ge 30, 3) := by decide +kernel
theorem dX5_fills_53 : decode cX5_fills 53 = .ok (.aload_n 0, 1) := by decide +kernel
theorem dX5_fills_54 : decode cX5_fills 54 = .ok (.iload_n 2, 1) := by decide +kernel
theorem dX5_fills_55 : decode cX5_fills 55 = .ok (.iload_n 1, 1) := by decide +kernel
theorem dX5_fills_56 : decode cX5_fills 56 = .ok (.iload 5, 2) := by decide +kernel
theorem dX5_fills_58 : decode cX5_fills 58 = .ok (.invokevirtual 239, 3) := by decide +kernel
theorem dX5_fills_61 : decode cX5_fills 61 = .ok (.aload_n 0, 1) := by decide +kernel
theorem dX5_fills_62 : decode cX5_fills 62 = .ok (.getfield 19, 3) := by decide +kernel
theorem dX5_fills_65 : decode cX5_fills 65 = .ok (.getfield 93, 3) := by decide +kernel
theorem dX5_fills_68 : decode cX5_fills 68 = .ok (.if_icmp .ne 6, 3) := by decide +kernel
theorem dX5_fills_71 : decode cX5_fills 71 = .ok (.iinc 4 1, 3) := by decide +kernel
theorem dX5_fills_74 : decode cX5_fills 74 = .ok (.iinc 5 1, 3) := by decide +kernel
theorem dX5_fills_77 : decode cX5_fills 77 = .ok (.goto (-30), 3) := by decide +kernel
theorem dX5_fills_80 : decode cX5_fills 80 = .ok (.iload 4, 2) := by decide +kernel
theorem dX5_fills_82 : decode cX5_fills 82 = .ok (.ireturn, 1) := by decide +kernel
theorem dX5_filled_0 : decode cX5_filled 0 = .ok (.iload_n 1, 1) := by decide +kernel
theorem dX5_filled_1 : decode cX5_filled 1 = .ok (.istore 4, 2) := by decide +kernel
theorem dX5_filled_3 : decode cX5_filled 3 = .ok (.iload_n 3, 1) := by decide +kernel
theorem dX5_filled_4 : decode cX5_filled 4 = .ok (.istore 5, 2) := by decide +kernel
theorem dX5_filled_6 : decode cX5_filled 6 = .ok (.iconst 0, 1) := by decide +kernel
theorem dX5_filled_7 : decode cX5_filled 7 = .ok (.istore 6, 2) := by decide +kernel
theorem dX5_filled_9 : decode cX5_filled 9 = .ok (.iload 6, 2) := by decide +kernel
theorem dX5_filled_11 : decode cX5_filled 11 = .ok (.iload_n 2, 1) := by decide +kernel
theorem dX5_filled_12 : decode cX5_filled 12 = .ok (.if_icmp .ge 56, 3) := by decide +kernel
theorem dX5_filled_15 : decode cX5_filled 15 = .ok (.iload 4, 2) := by decide +kernel
theorem dX5_filled_17 : decode cX5_filled 17 = .ok (.aload_n 0, 1) := by decide +kernel
theorem dX5_filled_18 : decode cX5_filled 18 = .ok (.getfield 19, 3) := by decide +kernel
theorem dX5_filled_21 : decode cX5_filled 21 = .ok (.iload 5, 2) := by decide +kernel
theorem dX5_filled_23 : decode cX5_filled 23 = .ok (.aload_n 0, 1) := by decide +kernel
theorem dX5_filled_24 : decode cX5_filled 24 = .ok (.getfield 19, 3) := by decide +kernel
theorem dX5_filled_27 : decode cX5_filled 27 = .ok (.getfield 202, 3) := by decide +kernel
theorem dX5_filled_30 : decode cX5_filled 30 = .ok (.invokestatic 162, 3) := by decide +kernel
theorem dX5_filled_33 : decode cX5_filled 33 = .ok (.invokevirtual 124, 3) := by decide +kernel
theorem dX5_filled_36 : decode cX5_filled 36 = .ok (.aload_n 0, 1) := by decide +kernel
theorem dX5_filled_37 : decode cX5_filled 37 = .ok (.getfield 19, 3) := by decide +kernel
theorem dX5_filled_40 : decode cX5_filled 40 = .ok (.getfield 133, 3) := by decide +kernel
theorem dX5_filled_43 : decode cX5_filled 43 = .ok (.invokestatic 136, 3) := by decide +kernel
theorem dX5_filled_46 : decode cX5_filled 46 = .ok (.istore 4, 2) := by decide +kernel
theorem dX5_filled_48 : decode cX5_filled 48 = .ok (.iload 5, 2) := by decide +kernel
theorem dX5_filled_50 : decode cX5_filled 50 = .ok (.aload_n 0, 1) := by decide +kernel
theorem dX5_filled_51 : decode cX5_filled 51 = .ok (.getfield 19, 3) := by decide +kernel
theorem dX5_filled_54 : decode cX5_filled 54 = .ok (.getfield 202, 3) := by decide +kernel
theorem dX5_filled_57 : decode cX5_filled 57 = .ok (.invokestatic 165, 3) := by decide +kernel
theorem dX5_filled_60 : decode cX5_filled 60 = .ok (.istore 5, 2) := by decide +kernel
theorem dX5_filled_62 : decode cX5_filled 62 = .ok (.iinc 6 1, 3) := by decide +kernel
theorem dX5_filled_65 : decode cX5_filled 65 = .ok (.goto (-56), 3) := by decide +kernel
theorem dX5_filled_68 : decode cX5_filled 68 = .ok (.iload 4, 2) := by decide +kernel
theorem dX5_filled_70 : decode cX5_filled 70 = .ok (.ireturn, 1) := by decide +kernel
theorem dX5_run_0 : decode cX5_run 0 = .ok (.aload_n 0, 1) := by decide +kernel
theorem dX5_run_1 : decode cX5_run 1 = .ok (.getfield 19, 3) := by decide +kernel
theorem dX5_run_4 : decode cX5_run 4 = .ok (.iload_n 1, 1) := by decide +kernel
theorem dX5_run_5 : decode cX5_run 5 = .ok (.invokevirtual 89, 3) := by decide +kernel
theorem dX5_run_8 : decode cX5_run 8 = .ok (.ifCond .ne 9, 3) := by decide +kernel
theorem dX5_run_11 : decode cX5_run 11 = .ok (.aload_n 0, 1) := by decide +kernel
theorem dX5_run_12 : decode cX5_run 12 = .ok (.iconst 1, 1) := by decide +kernel
theorem dX5_run_13 : decode cX5_run 13 = .ok (.invokevirtual 50, 3) := by decide +kernel
theorem dX5_run_16 : decode cX5_run 16 = .ok (.ireturn, 1) := by decide +kernel
theorem dX5_run_17 : decode cX5_run 17 = .ok (.aload_n 0, 1) := by decide +kernel
theorem dX5_run_18 : decode cX5_run 18 = .ok (.getfield 19, 3) := by decide +kernel
theorem dX5_run_21 : decode cX5_run 21 = .ok (.invokevirtual 233, 3) := by decide +kernel
theorem dX5_run_24 : decode cX5_run 24 = .ok (.ifCond .le 9, 3) := by decide +kernel
theorem dX5_run_27 : decode cX5_run 27 = .ok (.aload_n 0, 1) := by decide +kernel
theorem dX5_run_28 : decode cX5_run 28 = .ok (.iconst 3, 1) := by decide +kernel
theorem dX5_run_29 : decode cX5_run 29 = .ok (.invokevirtual 50, 3) := by decide +kernel
theorem dX5_run_32 : decode cX5_run 32 = .ok (.ireturn, 1) := by decide +kernel
theorem dX5_run_33 : decode cX5_run 33 = .ok (.aload_n 0, 1) := by decide +kernel
theorem dX5_run_34 : decode cX5_run 34 = .ok (.getfield 19, 3) := by decide +kernel
theorem dX5_run_37 : decode cX5_run 37 = .ok (.aload_n 0, 1) := by decide +kernel
theorem dX5_run_38 : decode cX5_run 38 = .ok (.getfield 19, 3) := by decide +kernel
theorem dX5_run_41 : decode cX5_run 41 = .ok (.getfield 93, 3) := by decide +kernel
theorem dX5_run_44 : decode cX5_run 44 = .ok (.invokevirtual 236, 3) := by decide +kernel
theorem dX5_run_47 : decode cX5_run 47 = .ok (.iload_n 1, 1) := by decide +kernel
theorem dX5_run_48 : decode cX5_run 48 = .ok (.invokestatic 96, 3) := by decide +kernel
theorem dX5_run_51 : decode cX5_run 51 = .ok (.ireturn, 1) := by decide +kernel
theorem dX5_judge_0 : decode cX5_judge 0 = .ok (.aload_n 0, 1) := by decide +kernel
theorem dX5_judge_1 : decode cX5_judge 1 = .ok (.getfield 19, 3) := by decide +kernel
theorem dX5_judge_4 : decode cX5_judge 4 = .ok (.invokevirtual 233, 3) := by decide +kernel
theorem dX5_judge_7 : decode cX5_judge 7 = .ok (.ifCond .le 9, 3) := by decide +kernel
theorem dX5_judge_10 : decode cX5_judge 10 = .ok (.aload_n 0, 1) := by decide +kernel
theorem dX5_judge_11 : decode cX5_judge 11 = .ok (.iconst 3, 1) := by decide +kernel
theorem dX5_judge_12 : decode cX5_judge 12 = .ok (.invokevirtual 50, 3) := by decide +kernel
theorem dX5_judge_15 : decode cX5_judge 15 = .ok (.ireturn, 1) := by decide +kernel
theorem dX5_judge_16 : decode cX5_judge 16 = .ok (.aload_n 0, 1) := by decide +kernel
theorem dX5_judge_17 : decode cX5_judge 17 = .ok (.getfield 19, 3) := by decide +kernel
theorem dX5_judge_20 : decode cX5_judge 20 = .ok (.getfield 93, 3) := by decide +kernel
theorem dX5_judge_23 : decode cX5_judge 23 = .ok (.istore_n 1, 1) := by decide +kernel
theorem dX5_judge_24 : decode cX5_judge 24 = .ok (.iconst 0, 1) := by decide +kernel
theorem dX5_judge_25 : decode cX5_judge 25 = .ok (.istore_n 2, 1) := by decide +kernel
theorem dX5_judge_26 : decode cX5_judge 26 = .ok (.iload_n 2, 1) := by decide +kernel
theorem dX5_judge_27 : decode cX5_judge 27 = .ok (.aload_n 0, 1) := by decide +kernel
theorem dX5_judge_28 : decode cX5_judge 28 = .ok (.getfield 19, 3) := by decide +kernel
theorem dX5_judge_31 : decode cX5_judge 31 = .ok (.getfield 224, 3) := by decide +kernel
theorem dX5_judge_34 : decode cX5_judge 34 = .ok (.if_icmp .ge 54, 3) := by decide +kernel
theorem dX5_judge_37 : decode cX5_judge 37 = .ok (.iload_n 1, 1) := by decide +kernel
theorem dX5_judge_38 : decode cX5_judge 38 = .ok (.aload_n 0, 1) := by decide +kernel
theorem dX5_judge_39 : decode cX5_judge 39 = .ok (.getfield 19, 3) := by decide +kernel
theorem dX5_judge_42 : decode cX5_judge 42 = .ok (.aload_n 0, 1) := by decide +kernel
theorem dX5_judge_43 : decode cX5_judge 43 = .ok (.getfield 19, 3) := by decide +kernel
theorem dX5_judge_46 : decode cX5_judge 46 = .ok (.iload_n 2, 1) := by decide +kernel
theorem dX5_judge_47 : decode cX5_judge 47 = .ok (.invokevirtual 230, 3) := by decide +kernel
theorem dX5_judge_50 : decode cX5_judge 50 = .ok (.invokevirtual 124, 3) := by decide +kernel
theorem dX5_judge_53 : decode cX5_judge 53 = .ok (.aload_n 0, 1) := by decide +kernel
theorem dX5_judge_54 : decode cX5_judge 54 = .ok (.getfield 19, 3) := by decide +kernel
theorem dX5_judge_57 : decode cX5_judge 57 = .ok (.getfield 133, 3) := by decide +kernel
theorem dX5_judge_60 : decode cX5_judge 60 = .ok (.invokestatic 136, 3) := by decide +kernel
theorem dX5_judge_63 : decode cX5_judge 63 = .ok (.istore_n 3, 1) := by decide +kernel
theorem dX5_judge_64 : decode cX5_judge 64 = .ok (.iload_n 1, 1) := by decide +kernel
theorem dX5_judge_65 : decode cX5_judge 65 = .ok (.invokestatic 242, 3) := by decide +kernel
theorem dX5_judge_68 : decode cX5_judge 68 = .ok (.iload_n 3, 1) := by decide +kernel
theorem dX5_judge_69 : decode cX5_judge 69 = .ok (.invokestatic 242, 3) := by decide +kernel
theorem dX5_judge_72 : decode cX5_judge 72 = .ok (.iconst (-1), 1) := by decide +kernel
theorem dX5_judge_73 : decode cX5_judge 73 = .ok (.ixor, 1) := by decide +kernel
theorem dX5_judge_74 : decode cX5_judge 74 = .ok (.iand, 1) := by decide +kernel
theorem dX5_judge_75 : decode cX5_judge 75 = .ok (.ifCond .eq 5, 3) := by decide +kernel
theorem dX5_judge_78 : decode cX5_judge 78 = .ok (.iload_n 2, 1) := by decide +kernel
theorem dX5_judge_79 : decode cX5_judge 79 = .ok (.ireturn, 1) := by decide +kernel
theorem dX5_judge_80 : decode cX5_judge 80 = .ok (.iload_n 3, 1) := by decide +kernel
theorem dX5_judge_81 : decode cX5_judge 81 = .ok (.istore_n 1, 1) := by decide +kernel
theorem dX5_judge_82 : decode cX5_judge 82 = .ok (.iinc 2 1, 3) := by decide +kernel
theorem dX5_judge_85 : decode cX5_judge 85 = .ok (.goto (-59), 3) := by decide +kernel
theorem dX5_judge_88 : decode cX5_judge 88 = .ok (.bipush (-9), 2) := by decide +kernel
theorem dX5_judge_90 : decode cX5_judge 90 = .ok (.ireturn, 1) := by decide +kernel
theorem dX5_clear_0 : decode cX5_clear 0 = .ok (.aload_n 0, 1) := by decide +kernel
theorem dX5_clear_1 : decode cX5_clear 1 = .ok (.getfield 19, 3) := by decide +kernel
theorem dX5_clear_4 : decode cX5_clear 4 = .ok (.getfield 224, 3) := by decide +kernel
theorem dX5_clear_7 : decode cX5_clear 7 = .ok (.istore_n 1, 1) := by decide +kernel
theorem dX5_clear_8 : decode cX5_clear 8 = .ok (.aload_n 0, 1) := by decide +kernel
theorem dX5_clear_9 : decode cX5_clear 9 = .ok (.getfield 19, 3) := by decide +kernel
theorem dX5_clear_12 : decode cX5_clear 12 = .ok (.iconst 0, 1) := by decide +kernel
theorem dX5_clear_13 : decode cX5_clear 13 = .ok (.putfield 224, 3) := by decide +kernel
theorem dX5_clear_16 : decode cX5_clear 16 = .ok (.iload_n 1, 1) := by decide +kernel
theorem dX5_clear_17 : decode cX5_clear 17 = .ok (.ireturn, 1) := by decide +kernel
theorem dX5_match_0 : decode cX5_match 0 = .ok (.aload_n 0, 1) := by decide +kernel
theorem dX5_match_1 : decode cX5_match 1 = .ok (.getfield 32, 3) := by decide +kernel
theorem dX5_match_4 : decode cX5_match 4 = .ok (.aload_n 0, 1) := by decide +kernel
theorem dX5_match_5 : decode cX5_match 5 = .ok (.getfield 19, 3) := by decide +kernel
theorem dX5_match_8 : decode cX5_match 8 = .ok (.aload_n 0, 1) := by decide +kernel
theorem dX5_match_9 : decode cX5_match 9 = .ok (.getfield 19, 3) := by decide +kernel
theorem dX5_match_12 : decode cX5_match 12 = .ok (.getfield 93, 3) := by decide +kernel
theorem dX5_match_15 : decode cX5_match 15 = .ok (.invokevirtual 176, 3) := by decide +kernel
theorem dX5_match_18 : decode cX5_match 18 = .ok (.aload_n 0, 1) := by decide +kernel
theorem dX5_match_19 : decode cX5_match 19 = .ok (.getfield 39, 3) := by decide +kernel
theorem dX5_match_22 : decode cX5_match 22 = .ok (.aload_n 0, 1) := by decide +kernel
theorem dX5_match_23 : decode cX5_match 23 = .ok (.getfield 19, 3) := by decide +kernel
theorem dX5_match_26 : decode cX5_match 26 = .ok (.aload_n 0, 1) := by decide +kernel
theorem dX5_match_27 : decode cX5_match 27 = .ok (.getfield 32, 3) := by decide +kernel
theorem dX5_match_30 : decode cX5_match 30 = .ok (.invokevirtual 245, 3) := by decide +kernel
theorem dX5_match_33 : decode cX5_match 33 = .ok (.ireturn, 1) := by decide +kernel
theorem dX5_seeds_0 : decode cX5_seeds 0 = .ok (.iload_n 1, 1) := by decide +kernel
theorem dX5_seeds_1 : decode cX5_seeds 1 = .ok (.ifCond .ge 9, 3) := by decide +kernel
theorem dX5_seeds_4 : decode cX5_seeds 4 = .ok (.aload_n 0, 1) := by decide +kernel
theorem dX5_seeds_5 : decode cX5_seeds 5 = .ok (.iconst 4, 1) := by decide +kernel
theorem dX5_seeds_6 : decode cX5_seeds 6 = .ok (.invokevirtual 50, 3) := by decide +kernel
theorem dX5_seeds_9 : decode cX5_seeds 9 = .ok (.ireturn, 1) := by decide +kernel
theorem dX5_seeds_10 : decode cX5_seeds 10 = .ok (.iload_n 1, 1) := by decide +kernel
theorem dX5_seeds_11 : decode cX5_seeds 11 = .ok (.bipush 99, 2) := by decide +kernel
theorem dX5_seeds_13 : decode cX5_seeds 13 = .ok (.if_icmp .le 10, 3) := by decide +kernel
theorem dX5_seeds_16 : decode cX5_seeds 16 = .ok (.aload_n 0, 1) := by decide +kernel
theorem dX5_seeds_17 : decode cX5_seeds 17 = .ok (.bipush 6, 2) := by decide +kernel
theorem dX5_seeds_19 : decode cX5_seeds 19 = .ok (.invokevirtual 50, 3) := by decide +kernel
theorem dX5_seeds_22 : decode cX5_seeds 22 = .ok (.ireturn, 1) := by decide +kernel
theorem dX5_seeds_23 : decode cX5_seeds 23 = .ok (.aload_n 0, 1) := by decide +kernel
theorem dX5_seeds_24 : decode cX5_seeds 24 = .ok (.getfield 19, 3) := by decide +kernel
theorem dX5_seeds_27 : decode cX5_seeds 27 = .ok (.getfield 202, 3) := by decide +kernel
theorem dX5_seeds_30 : decode cX5_seeds 30 = .ok (.iconst 1, 1) := by decide +kernel
theorem dX5_seeds_31 : decode cX5_seeds 31 = .ok (.if_icmp .ge 9, 3) := by decide +kernel
theorem dX5_seeds_34 : decode cX5_seeds 34 = .ok (.aload_n 0, 1) := by decide +kernel
theorem dX5_seeds_35 : decode cX5_seeds 35 = .ok (.iconst 3, 1) := by decide +kernel
theorem dX5_seeds_36 : decode cX5_seeds 36 = .ok (.invokevirtual 50, 3) := by decide +kernel
theorem dX5_seeds_39 : decode cX5_seeds 39 = .ok (.ireturn, 1) := by decide +kernel
theorem dX5_seeds_40 : decode cX5_seeds 40 = .ok (.aload_n 0, 1) := by decide +kernel
theorem dX5_seeds_41 : decode cX5_seeds 41 = .ok (.getfield 19, 3) := by decide +kernel
theorem dX5_seeds_44 : decode cX5_seeds 44 = .ok (.getfield 93, 3) := by decide +kernel
theorem dX5_seeds_47 : decode cX5_seeds 47 = .ok (.istore_n 3, 1) := by decide +kernel
theorem dX5_seeds_48 : decode cX5_seeds 48 = .ok (.iload_n 2, 1) := by decide +kernel
theorem dX5_seeds_49 : decode cX5_seeds 49 = .ok (.istore 4, 2) := by decide +kernel
theorem dX5_seeds_51 : decode cX5_seeds 51 = .ok (.iconst 0, 1) := by decide +kernel
theorem dX5_seeds_52 : decode cX5_seeds 52 = .ok (.istore 5, 2) := by decide +kernel
theorem dX5_seeds_54 : decode cX5_seeds 54 = .ok (.iload 5, 2) := by decide +kernel
theorem dX5_seeds_56 : decode cX5_seeds 56 = .ok (.iload_n 1, 1) := by decide +kernel
theorem dX5_seeds_57 : decode cX5_seeds 57 = .ok (.if_icmp .ge 61, 3) := by decide +kernel
theorem dX5_seeds_60 : decode cX5_seeds 60 = .ok (.iload 4, 2) := by decide +kernel
theorem dX5_seeds_62 : decode cX5_seeds 62 = .ok (.ldc 249, 2) := by decide +kernel
theorem dX5_seeds_64 : decode cX5_seeds 64 = .ok (.imul, 1) := by decide +kernel
theorem dX5_seeds_65 : decode cX5_seeds 65 = .ok (.ldc 250, 2) := by decide +kernel
theorem dX5_seeds_67 : decode cX5_seeds 67 = .ok (.iadd, 1) := by decide +kernel
theorem dX5_seeds_68 : decode cX5_seeds 68 = .ok (.istore 4, 2) := by decide +kernel
theorem dX5_seeds_70 : decode cX5_seeds 70 = .ok (.iload 4, 2) := by decide +kernel
theorem dX5_seeds_72 : decode cX5_seeds 72 = .ok (.ldc 251, 2) := by decide +kernel
theorem dX5_seeds_74 : decode cX5_seeds 74 = .ok (.iand, 1) := by decide +kernel
theorem dX5_seeds_75 : decode cX5_seeds 75 = .ok (.sipush 256, 3) := by decide +kernel
theorem dX5_seeds_78 : decode cX5_seeds 78 = .ok (.idiv, 1) := by decide +kernel
theorem dX5_seeds_79 : decode cX5_seeds 79 = .ok (.aload_n 0, 1) := by decide +kernel
theorem dX5_seeds_80 : decode cX5_seeds 80 = .ok (.getfield 19, 3) := by decide +kernel
theorem dX5_seeds_83 : decode cX5_seeds 83 = .ok (.getfield 202, 3) := by decide +kernel
theorem dX5_seeds_86 : decode cX5_seeds 86 = .ok (.invokestatic 162, 3) := by decide +kernel
theorem dX5_seeds_89 : decode cX5_seeds 89 = .ok (.istore 6, 2) := by decide +kernel
theorem dX5_seeds_91 : decode cX5_seeds 91 = .ok (.iload_n 3, 1) := by decide +kernel
theorem dX5_seeds_92 : decode cX5_seeds 92 = .ok (.aload_n 0, 1) := by decide +kernel
theorem dX5_seeds_93 : decode cX5_seeds 93 = .ok (.getfield 19, 3) := by decide +kernel
theorem dX5_seeds_96 : decode cX5_seeds 96 = .ok (.iload 6, 2) := by decide +kernel
theorem dX5_seeds_98 : decode cX5_seeds 98 = .ok (.invokevirtual 124, 3) := by decide +kernel
theorem dX5_seeds_101 : decode cX5_seeds 101 = .ok (.aload_n 0, 1) := by decide +kernel
theorem dX5_seeds_102 : decode cX5_seeds 102 = .ok (.getfield 19, 3) := by decide +kernel
theorem dX5_seeds_105 : decode cX5_seeds 105 = .ok (.getfield 133, 3) := by decide +kernel
theorem dX5_seeds_108 : decode cX5_seeds 108 = .ok (.invokestatic 136, 3) := by decide +kernel
theorem dX5_seeds_111 : decode cX5_seeds 111 = .ok (.istore_n 3, 1) := by decide +kernel
theorem dX5_seeds_112 : decode cX5_seeds 112 = .ok (.iinc 5 1, 3) := by decide +kernel
theorem dX5_seeds_115 : decode cX5_seeds 115 = .ok (.goto (-61), 3) := by decide +kernel
theorem dX5_seeds_118 : decode cX5_seeds 118 = .ok (.aload_n 0, 1) := by decide +kernel
theorem dX5_seeds_119 : decode cX5_seeds 119 = .ok (.getfield 19, 3) := by decide +kernel
theorem dX5_seeds_122 : decode cX5_seeds 122 = .ok (.iload_n 3, 1) := by decide +kernel
theorem dX5_seeds_123 : decode cX5_seeds 123 = .ok (.invokevirtual 140, 3) := by decide +kernel
theorem dX5_seeds_126 : decode cX5_seeds 126 = .ok (.ireturn, 1) := by decide +kernel
theorem dX5_image_0 : decode cX5_image 0 = .ok (.aload_n 0, 1) := by decide +kernel
theorem dX5_image_1 : decode cX5_image 1 = .ok (.getfield 26, 3) := by decide +kernel
theorem dX5_image_4 : decode cX5_image 4 = .ok (.aload_n 0, 1) := by decide +kernel
theorem dX5_image_5 : decode cX5_image 5 = .ok (.getfield 19, 3) := by decide +kernel
theorem dX5_image_8 : decode cX5_image 8 = .ok (.invokevirtual 71, 3) := by decide +kernel
theorem dX5_image_11 : decode cX5_image 11 = .ok (.aload_n 0, 1) := by decide +kernel
theorem dX5_image_12 : decode cX5_image 12 = .ok (.iconst 1, 1) := by decide +kernel
theorem dX5_image_13 : decode cX5_image 13 = .ok (.putfield 252, 3) := by decide +kernel
theorem dX5_image_16 : decode cX5_image 16 = .ok (.aload_n 0, 1) := by decide +kernel
theorem dX5_image_17 : decode cX5_image 17 = .ok (.getfield 26, 3) := by decide +kernel
theorem dX5_image_20 : decode cX5_image 20 = .ok (.getfield 202, 3) := by decide +kernel
theorem dX5_image_23 : decode cX5_image 23 = .ok (.ireturn, 1) := by decide +kernel
theorem dX5_on_0 : decode cX5_on 0 = .ok (.aload_n 0, 1) := by decide +kernel
theorem dX5_on_1 : decode cX5_on 1 = .ok (.getfield 252, 3) := by decide +kernel
theorem dX5_on_4 : decode cX5_on 4 = .ok (.ifCond .ne 9, 3) := by decide +kernel
theorem dX5_on_7 : decode cX5_on 7 = .ok (.aload_n 0, 1) := by decide +kernel
theorem dX5_on_8 : decode cX5_on 8 = .ok (.iconst 3, 1) := by decide +kernel
theorem dX5_on_9 : decode cX5_on 9 = .ok (.invokevirtual 50, 3) := by decide +kernel
theorem dX5_on_12 : decode cX5_on 12 = .ok (.ireturn, 1) := by decide +kernel
theorem dX5_on_13 : decode cX5_on 13 = .ok (.aload_n 0, 1) := by decide +kernel
theorem dX5_on_14 : decode cX5_on 14 = .ok (.getfield 19, 3) := by decide +kernel
theorem dX5_on_17 : decode cX5_on 17 = .ok (.aload_n 0, 1) := by decide +kernel
theorem dX5_on_18 : decode cX5_on 18 = .ok (.getfield 26, 3) := by decide +kernel
theorem dX5_on_21 : decode cX5_on 21 = .ok (.invokevirtual 71, 3) := by decide +kernel
theorem dX5_on_24 : decode cX5_on 24 = .ok (.aload_n 0, 1) := by decide +kernel
theorem dX5_on_25 : decode cX5_on 25 = .ok (.getfield 19, 3) := by decide +kernel
theorem dX5_on_28 : decode cX5_on 28 = .ok (.getfield 202, 3) := by decide +kernel
theorem dX5_on_31 : decode cX5_on 31 = .ok (.ireturn, 1) := by decide +kernel
theorem dX5_count_0 : decode cX5_count 0 = .ok (.iload_n 1, 1) := by decide +kernel
theorem dX5_count_1 : decode cX5_count 1 = .ok (.tableswitch 120 0 7 #[47, 55, 63, 71, 85, 96, 104, 112], 47) := by decide +kernel
theorem dX5_count_48 : decode cX5_count 48 = .ok (.aload_n 0, 1) := by decide +kernel
theorem dX5_count_49 : decode cX5_count 49 = .ok (.getfield 19, 3) := by decide +kernel
theorem dX5_count_52 : decode cX5_count 52 = .ok (.getfield 146, 3) := by decide +kernel
theorem dX5_count_55 : decode cX5_count 55 = .ok (.ireturn, 1) := by decide +kernel
theorem dX5_count_56 : decode cX5_count 56 = .ok (.aload_n 0, 1) := by decide +kernel
theorem dX5_count_57 : decode cX5_count 57 = .ok (.getfield 19, 3) := by decide +kernel
theorem dX5_count_60 : decode cX5_count 60 = .ok (.getfield 133, 3) := by decide +kernel
theorem dX5_count_63 : decode cX5_count 63 = .ok (.ireturn, 1) := by decide +kernel
theorem dX5_count_64 : decode cX5_count 64 = .ok (.aload_n 0, 1) := by decide +kernel
theorem dX5_count_65 : decode cX5_count 65 = .ok (.getfield 19, 3) := by decide +kernel
theorem dX5_count_68 : decode cX5_count 68 = .ok (.getfield 202, 3) := by decide +kernel
theorem dX5_count_71 : decode cX5_count 71 = .ok (.ireturn, 1) := by decide +kernel
theorem dX5_count_72 : decode cX5_count 72 = .ok (.aload_n 0, 1) := by decide +kernel
theorem dX5_count_73 : decode cX5_count 73 = .ok (.getfield 19, 3) := by decide +kernel
theorem dX5_count_76 : decode cX5_count 76 = .ok (.getfield 93, 3) := by decide +kernel
theorem dX5_count_79 : decode cX5_count 79 = .ok (.invokestatic 242, 3) := by decide +kernel
theorem dX5_count_82 : decode cX5_count 82 = .ok (.invokestatic 205, 3) := by decide +kernel
theorem dX5_count_85 : decode cX5_count 85 = .ok (.ireturn, 1) := by decide +kernel
theorem dX5_count_86 : decode cX5_count 86 = .ok (.aload_n 0, 1) := by decide +kernel
theorem dX5_count_87 : decode cX5_count 87 = .ok (.getfield 19, 3) := by decide +kernel
theorem dX5_count_90 : decode cX5_count 90 = .ok (.getfield 256, 3) := by decide +kernel
theorem dX5_count_93 : decode cX5_count 93 = .ok (.invokestatic 205, 3) := by decide +kernel
theorem dX5_count_96 : decode cX5_count 96 = .ok (.ireturn, 1) := by decide +kernel
theorem dX5_count_97 : decode cX5_count 97 = .ok (.aload_n 0, 1) := by decide +kernel
theorem dX5_count_98 : decode cX5_count 98 = .ok (.getfield 19, 3) := by decide +kernel
theorem dX5_count_101 : decode cX5_count 101 = .ok (.getfield 224, 3) := by decide +kernel
theorem dX5_count_104 : decode cX5_count 104 = .ok (.ireturn, 1) := by decide +kernel
theorem dX5_count_105 : decode cX5_count 105 = .ok (.aload_n 0, 1) := by decide +kernel
theorem dX5_count_106 : decode cX5_count 106 = .ok (.getfield 10, 3) := by decide +kernel
theorem dX5_count_109 : decode cX5_count 109 = .ok (.getfield 54, 3) := by decide +kernel
theorem dX5_count_112 : decode cX5_count 112 = .ok (.ireturn, 1) := by decide +kernel
theorem dX5_count_113 : decode cX5_count 113 = .ok (.aload_n 0, 1) := by decide +kernel
theorem dX5_count_114 : decode cX5_count 114 = .ok (.getfield 19, 3) := by decide +kernel
theorem dX5_count_117 : decode cX5_count 117 = .ok (.getfield 259, 3) := by decide +kernel
theorem dX5_count_120 : decode cX5_count 120 = .ok (.ireturn, 1) := by decide +kernel
theorem dX5_count_121 : decode cX5_count 121 = .ok (.aload_n 0, 1) := by decide +kernel
theorem dX5_count_122 : decode cX5_count 122 = .ok (.iload_n 1, 1) := by decide +kernel
theorem dX5_count_123 : decode cX5_count 123 = .ok (.bipush 10, 2) := by decide +kernel
theorem dX5_count_125 : decode cX5_count 125 = .ok (.isub, 1) := by decide +kernel
theorem dX5_count_126 : decode cX5_count 126 = .ok (.invokevirtual 262, 3) := by decide +kernel
theorem dX5_count_129 : decode cX5_count 129 = .ok (.ireturn, 1) := by decide +kernel
theorem dX5_refusalsTold_0 : decode cX5_refusalsTold 0 = .ok (.iload_n 1, 1) := by decide +kernel
theorem dX5_refusalsTold_1 : decode cX5_refusalsTold 1 = .ok (.iconst 1, 1) := by decide +kernel
theorem dX5_refusalsTold_2 : decode cX5_refusalsTold 2 = .ok (.if_icmp .lt 21, 3) := by decide +kernel
theorem dX5_refusalsTold_5 : decode cX5_refusalsTold 5 = .ok (.iload_n 1, 1) := by decide +kernel
theorem dX5_refusalsTold_6 : decode cX5_refusalsTold 6 = .ok (.aload_n 0, 1) := by decide +kernel
theorem dX5_refusalsTold_7 : decode cX5_refusalsTold 7 = .ok (.getfield 47, 3) := by decide +kernel
theorem dX5_refusalsTold_10 : decode cX5_refusalsTold 10 = .ok (.arraylength, 1) := by decide +kernel
theorem dX5_refusalsTold_11 : decode cX5_refusalsTold 11 = .ok (.if_icmp .ge 12, 3) := by decide +kernel
theorem dX5_refusalsTold_14 : decode cX5_refusalsTold 14 = .ok (.aload_n 0, 1) := by decide +kernel
theorem dX5_refusalsTold_15 : decode cX5_refusalsTold 15 = .ok (.getfield 47, 3) := by decide +kernel
theorem dX5_refusalsTold_18 : decode cX5_refusalsTold 18 = .ok (.iload_n 1, 1) := by decide +kernel
theorem dX5_refusalsTold_19 : decode cX5_refusalsTold 19 = .ok (.iaload, 1) := by decide +kernel
theorem dX5_refusalsTold_20 : decode cX5_refusalsTold 20 = .ok (.goto 5, 3) := by decide +kernel
theorem dX5_refusalsTold_23 : decode cX5_refusalsTold 23 = .ok (.bipush (-9), 2) := by decide +kernel
theorem dX5_refusalsTold_25 : decode cX5_refusalsTold 25 = .ok (.ireturn, 1) := by decide +kernel
theorem dX5_refuse_0 : decode cX5_refuse 0 = .ok (.iload_n 1, 1) := by decide +kernel
theorem dX5_refuse_1 : decode cX5_refuse 1 = .ok (.ifCond .lt 22, 3) := by decide +kernel
theorem dX5_refuse_4 : decode cX5_refuse 4 = .ok (.iload_n 1, 1) := by decide +kernel
theorem dX5_refuse_5 : decode cX5_refuse 5 = .ok (.aload_n 0, 1) := by decide +kernel
theorem dX5_refuse_6 : decode cX5_refuse 6 = .ok (.getfield 47, 3) := by decide +kernel
theorem dX5_refuse_9 : decode cX5_refuse 9 = .ok (.arraylength, 1) := by decide +kernel
theorem dX5_refuse_10 : decode cX5_refuse 10 = .ok (.if_icmp .ge 13, 3) := by decide +kernel
theorem dX5_refuse_13 : decode cX5_refuse 13 = .ok (.aload_n 0, 1) := by decide +kernel
theorem dX5_refuse_14 : decode cX5_refuse 14 = .ok (.getfield 47, 3) := by decide +kernel
theorem dX5_refuse_17 : decode cX5_refuse 17 = .ok (.iload_n 1, 1) := by decide +kernel
theorem dX5_refuse_18 : decode cX5_refuse 18 = .ok (.dup2, 1) := by decide +kernel
theorem dX5_refuse_19 : decode cX5_refuse 19 = .ok (.iaload, 1) := by decide +kernel
theorem dX5_refuse_20 : decode cX5_refuse 20 = .ok (.iconst 1, 1) := by decide +kernel
theorem dX5_refuse_21 : decode cX5_refuse 21 = .ok (.iadd, 1) := by decide +kernel
theorem dX5_refuse_22 : decode cX5_refuse 22 = .ok (.iastore, 1) := by decide +kernel
theorem dX5_refuse_23 : decode cX5_refuse 23 = .ok (.iload_n 1, 1) := by decide +kernel
theorem dX5_refuse_24 : decode cX5_refuse 24 = .ok (.ineg, 1) := by decide +kernel
theorem dX5_refuse_25 : decode cX5_refuse 25 = .ok (.ireturn, 1) := by decide +kernel
theorem dX5_bitOf_0 : decode cX5_bitOf 0 = .ok (.iconst 1, 1) := by decide +kernel
theorem dX5_bitOf_1 : decode cX5_bitOf 1 = .ok (.iload_n 0, 1) := by decide +kernel
theorem dX5_bitOf_2 : decode cX5_bitOf 2 = .ok (.iconst 1, 1) := by decide +kernel
theorem dX5_bitOf_3 : decode cX5_bitOf 3 = .ok (.isub, 1) := by decide +kernel
theorem dX5_bitOf_4 : decode cX5_bitOf 4 = .ok (.ishl, 1) := by decide +kernel
theorem dX5_bitOf_5 : decode cX5_bitOf 5 = .ok (.ireturn, 1) := by decide +kernel
theorem dX5_bitAt_0 : decode cX5_bitAt 0 = .ok (.iload_n 1, 1) := by decide +kernel
theorem dX5_bitAt_1 : decode cX5_bitAt 1 = .ok (.ifCond .ne 5, 3) := by decide +kernel
theorem dX5_bitAt_4 : decode cX5_bitAt 4 = .ok (.iconst 0, 1) := by decide +kernel
theorem dX5_bitAt_5 : decode cX5_bitAt 5 = .ok (.ireturn, 1) := by decide +kernel
theorem dX5_bitAt_6 : decode cX5_bitAt 6 = .ok (.iload_n 1, 1) := by decide +kernel
theorem dX5_bitAt_7 : decode cX5_bitAt 7 = .ok (.iconst 1, 1) := by decide +kernel
theorem dX5_bitAt_8 : decode cX5_bitAt 8 = .ok (.if_icmp .ne 10, 3) := by decide +kernel
theorem dX5_bitAt_11 : decode cX5_bitAt 11 = .ok (.iload_n 0, 1) := by decide +kernel
theorem dX5_bitAt_12 : decode cX5_bitAt 12 = .ok (.invokestatic 130, 3) := by decide +kernel
theorem dX5_bitAt_15 : decode cX5_bitAt 15 = .ok (.goto 10, 3) := by decide +kernel
theorem dX5_bitAt_18 : decode cX5_bitAt 18 = .ok (.iload_n 0, 1) := by decide +kernel
theorem dX5_bitAt_19 : decode cX5_bitAt 19 = .ok (.invokestatic 130, 3) := by decide +kernel
theorem dX5_bitAt_22 : decode cX5_bitAt 22 = .ok (.bipush 12, 2) := by decide +kernel
theorem dX5_bitAt_24 : decode cX5_bitAt 24 = .ok (.ishl, 1) := by decide +kernel
theorem dX5_bitAt_25 : decode cX5_bitAt 25 = .ok (.ireturn, 1) := by decide +kernel
theorem dX5_wayOf_0 : decode cX5_wayOf 0 = .ok (.iload_n 0, 1) := by decide +kernel
theorem dX5_wayOf_1 : decode cX5_wayOf 1 = .ok (.iload_n 1, 1) := by decide +kernel
theorem dX5_wayOf_2 : decode cX5_wayOf 2 = .ok (.iconst 1, 1) := by decide +kernel
theorem dX5_wayOf_3 : decode cX5_wayOf 3 = .ok (.invokestatic 265, 3) := by decide +kernel
theorem dX5_wayOf_6 : decode cX5_wayOf 6 = .ok (.iand, 1) := by decide +kernel
theorem dX5_wayOf_7 : decode cX5_wayOf 7 = .ok (.ifCond .eq 5, 3) := by decide +kernel
theorem dX5_wayOf_10 : decode cX5_wayOf 10 = .ok (.iconst 1, 1) := by decide +kernel
theorem dX5_wayOf_11 : decode cX5_wayOf 11 = .ok (.ireturn, 1) := by decide +kernel
theorem dX5_wayOf_12 : decode cX5_wayOf 12 = .ok (.iload_n 0, 1) := by decide +kernel
theorem dX5_wayOf_13 : decode cX5_wayOf 13 = .ok (.iload_n 1, 1) := by decide +kernel
theorem dX5_wayOf_14 : decode cX5_wayOf 14 = .ok (.iconst 2, 1) := by decide +kernel
theorem dX5_wayOf_15 : decode cX5_wayOf 15 = .ok (.invokestatic 265, 3) := by decide +kernel
theorem dX5_wayOf_18 : decode cX5_wayOf 18 = .ok (.iand, 1) := by decide +kernel
theorem dX5_wayOf_19 : decode cX5_wayOf 19 = .ok (.ifCond .eq 7, 3) := by decide +kernel
theorem dX5_wayOf_22 : decode cX5_wayOf 22 = .ok (.iconst 2, 1) := by decide +kernel
theorem dX5_wayOf_23 : decode cX5_wayOf 23 = .ok (.goto 4, 3) := by decide +kernel
theorem dX5_wayOf_26 : decode cX5_wayOf 26 = .ok (.iconst 0, 1) := by decide +kernel
theorem dX5_wayOf_27 : decode cX5_wayOf 27 = .ok (.ireturn, 1) := by decide +kernel
theorem dX5_notAtZero_0 : decode cX5_notAtZero 0 = .ok (.iload_n 0, 1) := by decide +kernel
theorem dX5_notAtZero_1 : decode cX5_notAtZero 1 = .ok (.iload_n 0, 1) := by decide +kernel
theorem dX5_notAtZero_2 : decode cX5_notAtZero 2 = .ok (.bipush 12, 2) := by decide +kernel
theorem dX5_notAtZero_4 : decode cX5_notAtZero 4 = .ok (.ishr, 1) := by decide +kernel
theorem dX5_notAtZero_5 : decode cX5_notAtZero 5 = .ok (.ior, 1) := by decide +kernel
theorem dX5_notAtZero_6 : decode cX5_notAtZero 6 = .ok (.sipush 4095, 3) := by decide +kernel
theorem dX5_notAtZero_9 : decode cX5_notAtZero 9 = .ok (.iand, 1) := by decide +kernel
theorem dX5_notAtZero_10 : decode cX5_notAtZero 10 = .ok (.ireturn, 1) := by decide +kernel
theorem dX5_turned_0 : decode cX5_turned 0 = .ok (.iload_n 2, 1) := by decide +kernel
theorem dX5_turned_1 : decode cX5_turned 1 = .ok (.iconst 2, 1) := by decide +kernel
theorem dX5_turned_2 : decode cX5_turned 2 = .ok (.if_icmp .ne 7, 3) := by decide +kernel
theorem dX5_turned_5 : decode cX5_turned 5 = .ok (.iload_n 0, 1) := by decide +kernel
theorem dX5_turned_6 : decode cX5_turned 6 = .ok (.iload_n 1, 1) := by decide +kernel
theorem dX5_turned_7 : decode cX5_turned 7 = .ok (.ixor, 1) := by decide +kernel
theorem dX5_turned_8 : decode cX5_turned 8 = .ok (.ireturn, 1) := by decide +kernel
theorem dX5_turned_9 : decode cX5_turned 9 = .ok (.iload_n 0, 1) := by decide +kernel
theorem dX5_turned_10 : decode cX5_turned 10 = .ok (.sipush 4095, 3) := by decide +kernel
theorem dX5_turned_13 : decode cX5_turned 13 = .ok (.iand, 1) := by decide +kernel
theorem dX5_turned_14 : decode cX5_turned 14 = .ok (.istore_n 3, 1) := by decide +kernel
theorem dX5_turned_15 : decode cX5_turned 15 = .ok (.iload_n 0, 1) := by decide +kernel
theorem dX5_turned_16 : decode cX5_turned 16 = .ok (.bipush 12, 2) := by decide +kernel
theorem dX5_turned_18 : decode cX5_turned 18 = .ok (.ishr, 1) := by decide +kernel
theorem dX5_turned_19 : decode cX5_turned 19 = .ok (.sipush 4095, 3) := by decide +kernel
theorem dX5_turned_22 : decode cX5_turned 22 = .ok (.iand, 1) := by decide +kernel
theorem dX5_turned_23 : decode cX5_turned 23 = .ok (.istore 4, 2) := by decide +kernel
theorem dX5_turned_25 : decode cX5_turned 25 = .ok (.sipush 4095, 3) := by decide +kernel
theorem dX5_turned_28 : decode cX5_turned 28 = .ok (.iload_n 3, 1) := by decide +kernel
theorem dX5_turned_29 : decode cX5_turned 29 = .ok (.iload 4, 2) := by decide +kernel
theorem dX5_turned_31 : decode cX5_turned 31 = .ok (.ior, 1) := by decide +kernel
theorem dX5_turned_32 : decode cX5_turned 32 = .ok (.iconst (-1), 1) := by decide +kernel
theorem dX5_turned_33 : decode cX5_turned 33 = .ok (.ixor, 1) := by decide +kernel
theorem dX5_turned_34 : decode cX5_turned 34 = .ok (.iand, 1) := by decide +kernel
theorem dX5_turned_35 : decode cX5_turned 35 = .ok (.istore 5, 2) := by decide +kernel
theorem dX5_turned_37 : decode cX5_turned 37 = .ok (.iload_n 3, 1) := by decide +kernel
theorem dX5_turned_38 : decode cX5_turned 38 = .ok (.iload_n 1, 1) := by decide +kernel
theorem dX5_turned_39 : decode cX5_turned 39 = .ok (.iconst (-1), 1) := by decide +kernel
theorem dX5_turned_40 : decode cX5_turned 40 = .ok (.ixor, 1) := by decide +kernel
theorem dX5_turned_41 : decode cX5_turned 41 = .ok (.iand, 1) := by decide +kernel
theorem dX5_turned_42 : decode cX5_turned 42 = .ok (.iload 5, 2) := by decide +kernel
theorem dX5_turned_44 : decode cX5_turned 44 = .ok (.iload_n 1, 1) := by decide +kernel
theorem dX5_turned_45 : decode cX5_turned 45 = .ok (.iand, 1) := by decide +kernel
theorem dX5_turned_46 : decode cX5_turned 46 = .ok (.ior, 1) := by decide +kernel
theorem dX5_turned_47 : decode cX5_turned 47 = .ok (.istore 6, 2) := by decide +kernel
theorem dX5_turned_49 : decode cX5_turned 49 = .ok (.iload 4, 2) := by decide +kernel
theorem dX5_turned_51 : decode cX5_turned 51 = .ok (.iload_n 1, 1) := by decide +kernel
theorem dX5_turned_52 : decode cX5_turned 52 = .ok (.iconst (-1), 1) := by decide +kernel
theorem dX5_turned_53 : decode cX5_turned 53 = .ok (.ixor, 1) := by decide +kernel
theorem dX5_turned_54 : decode cX5_turned 54 = .ok (.iand, 1) := by decide +kernel
theorem dX5_turned_55 : decode cX5_turned 55 = .ok (.iload_n 3, 1) := by decide +kernel
theorem dX5_turned_56 : decode cX5_turned 56 = .ok (.iload_n 1, 1) := by decide +kernel
theorem dX5_turned_57 : decode cX5_turned 57 = .ok (.iand, 1) := by decide +kernel
theorem dX5_turned_58 : decode cX5_turned 58 = .ok (.ior, 1) := by decide +kernel
theorem dX5_turned_59 : decode cX5_turned 59 = .ok (.istore 7, 2) := by decide +kernel
theorem dX5_turned_61 : decode cX5_turned 61 = .ok (.iload 6, 2) := by decide +kernel
theorem dX5_turned_63 : decode cX5_turned 63 = .ok (.iload 7, 2) := by decide +kernel
theorem dX5_turned_65 : decode cX5_turned 65 = .ok (.bipush 12, 2) := by decide +kernel
theorem dX5_turned_67 : decode cX5_turned 67 = .ok (.ishl, 1) := by decide +kernel
theorem dX5_turned_68 : decode cX5_turned 68 = .ok (.ior, 1) := by decide +kernel
theorem dX5_turned_69 : decode cX5_turned 69 = .ok (.ireturn, 1) := by decide +kernel
theorem dX5_goesInto_0 : decode cX5_goesInto 0 = .ok (.iload_n 0, 1) := by decide +kernel
theorem dX5_goesInto_1 : decode cX5_goesInto 1 = .ok (.ifCond .le 13, 3) := by decide +kernel
theorem dX5_goesInto_4 : decode cX5_goesInto 4 = .ok (.iload_n 1, 1) := by decide +kernel
theorem dX5_goesInto_5 : decode cX5_goesInto 5 = .ok (.iload_n 0, 1) := by decide +kernel
theorem dX5_goesInto_6 : decode cX5_goesInto 6 = .ok (.irem, 1) := by decide +kernel
theorem dX5_goesInto_7 : decode cX5_goesInto 7 = .ok (.ifCond .ne 7, 3) := by decide +kernel
theorem dX5_goesInto_10 : decode cX5_goesInto 10 = .ok (.iconst 1, 1) := by decide +kernel
theorem dX5_goesInto_11 : decode cX5_goesInto 11 = .ok (.goto 4, 3) := by decide +kernel
theorem dX5_goesInto_14 : decode cX5_goesInto 14 = .ok (.iconst 0, 1) := by decide +kernel
theorem dX5_goesInto_15 : decode cX5_goesInto 15 = .ok (.ireturn, 1) := by decide +kernel
theorem dX5_remainder_0 : decode cX5_remainder 0 = .ok (.iload_n 1, 1) := by decide +kernel
theorem dX5_remainder_1 : decode cX5_remainder 1 = .ok (.ifCond .le 9, 3) := by decide +kernel
theorem dX5_remainder_4 : decode cX5_remainder 4 = .ok (.iload_n 0, 1) := by decide +kernel
theorem dX5_remainder_5 : decode cX5_remainder 5 = .ok (.iload_n 1, 1) := by decide +kernel
theorem dX5_remainder_6 : decode cX5_remainder 6 = .ok (.irem, 1) := by decide +kernel
theorem dX5_remainder_7 : decode cX5_remainder 7 = .ok (.goto 4, 3) := by decide +kernel
theorem dX5_remainder_10 : decode cX5_remainder 10 = .ok (.iconst 0, 1) := by decide +kernel
theorem dX5_remainder_11 : decode cX5_remainder 11 = .ok (.ireturn, 1) := by decide +kernel
theorem dX5_quotient_0 : decode cX5_quotient 0 = .ok (.iload_n 1, 1) := by decide +kernel
theorem dX5_quotient_1 : decode cX5_quotient 1 = .ok (.ifCond .le 9, 3) := by decide +kernel
theorem dX5_quotient_4 : decode cX5_quotient 4 = .ok (.iload_n 0, 1) := by decide +kernel
theorem dX5_quotient_5 : decode cX5_quotient 5 = .ok (.iload_n 1, 1) := by decide +kernel
theorem dX5_quotient_6 : decode cX5_quotient 6 = .ok (.idiv, 1) := by decide +kernel
theorem dX5_quotient_7 : decode cX5_quotient 7 = .ok (.goto 4, 3) := by decide +kernel
theorem dX5_quotient_10 : decode cX5_quotient 10 = .ok (.iconst 0, 1) := by decide +kernel
theorem dX5_quotient_11 : decode cX5_quotient 11 = .ok (.ireturn, 1) := by decide +kernel
theorem dX5_power_0 : decode cX5_power 0 = .ok (.iconst 1, 1) := by decide +kernel
theorem dX5_power_1 : decode cX5_power 1 = .ok (.istore_n 2, 1) := by decide +kernel
theorem dX5_power_2 : decode cX5_power 2 = .ok (.iconst 0, 1) := by decide +kernel
theorem dX5_power_3 : decode cX5_power 3 = .ok (.istore_n 3, 1) := by decide +kernel
theorem dX5_power_4 : decode cX5_power 4 = .ok (.iload_n 3, 1) := by decide +kernel
theorem dX5_power_5 : decode cX5_power 5 = .ok (.iload_n 1, 1) := by decide +kernel
theorem dX5_power_6 : decode cX5_power 6 = .ok (.if_icmp .ge 13, 3) := by decide +kernel
theorem dX5_power_9 : decode cX5_power 9 = .ok (.iload_n 2, 1) := by decide +kernel
theorem dX5_power_10 : decode cX5_power 10 = .ok (.iload_n 0, 1) := by decide +kernel
theorem dX5_power_11 : decode cX5_power 11 = .ok (.imul, 1) := by decide +kernel
theorem dX5_power_12 : decode cX5_power 12 = .ok (.istore_n 2, 1) := by decide +kernel
theorem dX5_power_13 : decode cX5_power 13 = .ok (.iinc 3 1, 3) := by decide +kernel
theorem dX5_power_16 : decode cX5_power 16 = .ok (.goto (-12), 3) := by decide +kernel
theorem dX5_power_19 : decode cX5_power 19 = .ok (.iload_n 2, 1) := by decide +kernel
theorem dX5_power_20 : decode cX5_power 20 = .ok (.ireturn, 1) := by decide +kernel
theorem dX5_divisorsOf_0 : decode cX5_divisorsOf 0 = .ok (.iconst 1, 1) := by decide +kernel
theorem dX5_divisorsOf_1 : decode cX5_divisorsOf 1 = .ok (.istore_n 1, 1) := by decide +kernel
theorem dX5_divisorsOf_2 : decode cX5_divisorsOf 2 = .ok (.iload_n 0, 1) := by decide +kernel
theorem dX5_divisorsOf_3 : decode cX5_divisorsOf 3 = .ok (.istore_n 2, 1) := by decide +kernel
theorem dX5_divisorsOf_4 : decode cX5_divisorsOf 4 = .ok (.iconst 2, 1) := by decide +kernel
theorem dX5_divisorsOf_5 : decode cX5_divisorsOf 5 = .ok (.istore_n 3, 1) := by decide +kernel
theorem dX5_divisorsOf_6 : decode cX5_divisorsOf 6 = .ok (.iload_n 3, 1) := by decide +kernel
theorem dX5_divisorsOf_7 : decode cX5_divisorsOf 7 = .ok (.iload_n 2, 1) := by decide +kernel
theorem dX5_divisorsOf_8 : decode cX5_divisorsOf 8 = .ok (.iload_n 3, 1) := by decide +kernel
theorem dX5_divisorsOf_9 : decode cX5_divisorsOf 9 = .ok (.idiv, 1) := by decide +kernel
theorem dX5_divisorsOf_10 : decode cX5_divisorsOf 10 = .ok (.if_icmp .gt 44, 3) := by decide +kernel
theorem dX5_divisorsOf_13 : decode cX5_divisorsOf 13 = .ok (.iconst 0, 1) := by decide +kernel
theorem dX5_divisorsOf_14 : decode cX5_divisorsOf 14 = .ok (.istore 4, 2) := by decide +kernel
theorem dX5_divisorsOf_16 : decode cX5_divisorsOf 16 = .ok (.iload 4, 2) := by decide +kernel
theorem dX5_divisorsOf_18 : decode cX5_divisorsOf 18 = .ok (.bipush 31, 2) := by decide +kernel
theorem dX5_divisorsOf_20 : decode cX5_divisorsOf 20 = .ok (.if_icmp .ge 21, 3) := by decide +kernel
theorem dX5_divisorsOf_23 : decode cX5_divisorsOf 23 = .ok (.iload_n 3, 1) := by decide +kernel
theorem dX5_divisorsOf_24 : decode cX5_divisorsOf 24 = .ok (.iload_n 2, 1) := by decide +kernel
theorem dX5_divisorsOf_25 : decode cX5_divisorsOf 25 = .ok (.invokestatic 172, 3) := by decide +kernel
theorem dX5_divisorsOf_28 : decode cX5_divisorsOf 28 = .ok (.ifCond .eq 13, 3) := by decide +kernel
theorem dX5_divisorsOf_31 : decode cX5_divisorsOf 31 = .ok (.iload_n 2, 1) := by decide +kernel
theorem dX5_divisorsOf_32 : decode cX5_divisorsOf 32 = .ok (.iload_n 3, 1) := by decide +kernel
theorem dX5_divisorsOf_33 : decode cX5_divisorsOf 33 = .ok (.idiv, 1) := by decide +kernel
theorem dX5_divisorsOf_34 : decode cX5_divisorsOf 34 = .ok (.istore_n 2, 1) := by decide +kernel
theorem dX5_divisorsOf_35 : decode cX5_divisorsOf 35 = .ok (.iinc 4 1, 3) := by decide +kernel
theorem dX5_divisorsOf_38 : decode cX5_divisorsOf 38 = .ok (.goto (-22), 3) := by decide +kernel
theorem dX5_divisorsOf_41 : decode cX5_divisorsOf 41 = .ok (.iload_n 1, 1) := by decide +kernel
theorem dX5_divisorsOf_42 : decode cX5_divisorsOf 42 = .ok (.iload 4, 2) := by decide +kernel
theorem dX5_divisorsOf_44 : decode cX5_divisorsOf 44 = .ok (.iconst 1, 1) := by decide +kernel
theorem dX5_divisorsOf_45 : decode cX5_divisorsOf 45 = .ok (.iadd, 1) := by decide +kernel
theorem dX5_divisorsOf_46 : decode cX5_divisorsOf 46 = .ok (.imul, 1) := by decide +kernel
theorem dX5_divisorsOf_47 : decode cX5_divisorsOf 47 = .ok (.istore_n 1, 1) := by decide +kernel
theorem dX5_divisorsOf_48 : decode cX5_divisorsOf 48 = .ok (.iinc 3 1, 3) := by decide +kernel
theorem dX5_divisorsOf_51 : decode cX5_divisorsOf 51 = .ok (.goto (-45), 3) := by decide +kernel
theorem dX5_divisorsOf_54 : decode cX5_divisorsOf 54 = .ok (.iload_n 2, 1) := by decide +kernel
theorem dX5_divisorsOf_55 : decode cX5_divisorsOf 55 = .ok (.iconst 1, 1) := by decide +kernel
theorem dX5_divisorsOf_56 : decode cX5_divisorsOf 56 = .ok (.if_icmp .le 9, 3) := by decide +kernel
theorem dX5_divisorsOf_59 : decode cX5_divisorsOf 59 = .ok (.iload_n 1, 1) := by decide +kernel
theorem dX5_divisorsOf_60 : decode cX5_divisorsOf 60 = .ok (.iconst 2, 1) := by decide +kernel
theorem dX5_divisorsOf_61 : decode cX5_divisorsOf 61 = .ok (.imul, 1) := by decide +kernel
theorem dX5_divisorsOf_62 : decode cX5_divisorsOf 62 = .ok (.goto 4, 3) := by decide +kernel
theorem dX5_divisorsOf_65 : decode cX5_divisorsOf 65 = .ok (.iload_n 1, 1) := by decide +kernel
theorem dX5_divisorsOf_66 : decode cX5_divisorsOf 66 = .ok (.ireturn, 1) := by decide +kernel
theorem dX6_init_0 : decode cX6_init 0 = .ok (.aload_n 0, 1) := by decide +kernel
theorem dX6_init_1 : decode cX6_init 1 = .ok (.invokespecial 1, 3) := by decide +kernel
theorem dX6_init_4 : decode cX6_init 4 = .ok (.aload_n 0, 1) := by decide +kernel
theorem dX6_init_5 : decode cX6_init 5 = .ok (.bipush 7, 2) := by decide +kernel
theorem dX6_init_7 : decode cX6_init 7 = .ok (.newarray .int, 2) := by decide +kernel
theorem dX6_init_9 : decode cX6_init 9 = .ok (.putfield 7, 3) := by decide +kernel
theorem dX6_init_12 : decode cX6_init 12 = .ok (.aload_n 0, 1) := by decide +kernel
theorem dX6_init_13 : decode cX6_init 13 = .ok (.bipush 79, 2) := by decide +kernel
theorem dX6_init_15 : decode cX6_init 15 = .ok (.newarray .int, 2) := by decide +kernel
theorem dX6_init_17 : decode cX6_init 17 = .ok (.putfield 13, 3) := by decide +kernel
theorem dX6_init_20 : decode cX6_init 20 = .ok (.aload_n 0, 1) := by decide +kernel
theorem dX6_init_21 : decode cX6_init 21 = .ok (.bipush 79, 2) := by decide +kernel
theorem dX6_init_23 : decode cX6_init 23 = .ok (.newarray .int, 2) := by decide +kernel
theorem dX6_init_25 : decode cX6_init 25 = .ok (.putfield 16, 3) := by decide +kernel
theorem dX6_init_28 : decode cX6_init 28 = .ok (.aload_n 0, 1) := by decide +kernel
theorem dX6_init_29 : decode cX6_init 29 = .ok (.bipush 79, 2) := by decide +kernel
theorem dX6_init_31 : decode cX6_init 31 = .ok (.newarray .int, 2) := by decide +kernel
theorem dX6_init_33 : decode cX6_init 33 = .ok (.putfield 19, 3) := by decide +kernel
theorem dX6_init_36 : decode cX6_init 36 = .ok (.aload_n 0, 1) := by decide +kernel
theorem dX6_init_37 : decode cX6_init 37 = .ok (.bipush 64, 2) := by decide +kernel
theorem dX6_init_39 : decode cX6_init 39 = .ok (.newarray .int, 2) := by decide +kernel
theorem dX6_init_41 : decode cX6_init 41 = .ok (.putfield 22, 3) := by decide +kernel
theorem dX6_init_44 : decode cX6_init 44 = .ok (.aload_n 0, 1) := by decide +kernel
theorem dX6_init_45 : decode cX6_init 45 = .ok (.bipush 12, 2) := by decide +kernel
theorem dX6_init_47 : decode cX6_init 47 = .ok (.newarray .int, 2) := by decide +kernel
theorem dX6_init_49 : decode cX6_init 49 = .ok (.putfield 25, 3) := by decide +kernel
theorem dX6_init_52 : decode cX6_init 52 = .ok (.aload_n 0, 1) := by decide +kernel
theorem dX6_init_53 : decode cX6_init 53 = .ok (.bipush 13, 2) := by decide +kernel
theorem dX6_init_55 : decode cX6_init 55 = .ok (.newarray .int, 2) := by decide +kernel
theorem dX6_init_57 : decode cX6_init 57 = .ok (.putfield 28, 3) := by decide +kernel
theorem dX6_init_60 : decode cX6_init 60 = .ok (.aload_n 0, 1) := by decide +kernel
theorem dX6_init_61 : decode cX6_init 61 = .ok (.bipush 13, 2) := by decide +kernel
theorem dX6_init_63 : decode cX6_init 63 = .ok (.newarray .int, 2) := by decide +kernel
theorem dX6_init_65 : decode cX6_init 65 = .ok (.putfield 31, 3) := by decide +kernel
theorem dX6_init_68 : decode cX6_init 68 = .ok (.aload_n 0, 1) := by decide +kernel
theorem dX6_init_69 : decode cX6_init 69 = .ok (.bipush 12, 2) := by decide +kernel
theorem dX6_init_71 : decode cX6_init 71 = .ok (.newarray .int, 2) := by decide +kernel
theorem dX6_init_73 : decode cX6_init 73 = .ok (.putfield 34, 3) := by decide +kernel
theorem dX6_init_76 : decode cX6_init 76 = .ok (.aload_n 0, 1) := by decide +kernel
theorem dX6_init_77 : decode cX6_init 77 = .ok (.sipush 2187, 3) := by decide +kernel
theorem dX6_init_80 : decode cX6_init 80 = .ok (.newarray .int, 2) := by decide +kernel
theorem dX6_init_82 : decode cX6_init 82 = .ok (.putfield 37, 3) := by decide +kernel
theorem dX6_init_85 : decode cX6_init 85 = .ok (.aload_n 0, 1) := by decide +kernel
theorem dX6_init_86 : decode cX6_init 86 = .ok (.getfield 13, 3) := by decide +kernel
theorem dX6_init_89 : decode cX6_init 89 = .ok (.iconst 0, 1) := by decide +kernel
theorem dX6_init_90 : decode cX6_init 90 = .ok (.bipush 6, 2) := by decide +kernel
theorem dX6_init_92 : decode cX6_init 92 = .ok (.iastore, 1) := by decide +kernel
theorem dX6_init_93 : decode cX6_init 93 = .ok (.aload_n 0, 1) := by decide +kernel
theorem dX6_init_94 : decode cX6_init 94 = .ok (.getfield 13, 3) := by decide +kernel
theorem dX6_init_97 : decode cX6_init 97 = .ok (.iconst 1, 1) := by decide +kernel
theorem dX6_init_98 : decode cX6_init 98 = .ok (.iconst 2, 1) := by decide +kernel
theorem dX6_init_99 : decode cX6_init 99 = .ok (.iastore, 1) := by decide +kernel
theorem dX6_init_100 : decode cX6_init 100 = .ok (.iconst 0, 1) := by decide +kernel
theorem dX6_init_101 : decode cX6_init 101 = .ok (.istore_n 1, 1) := by decide +kernel
theorem dX6_init_102 : decode cX6_init 102 = .ok (.iload_n 1, 1) := by decide +kernel
theorem dX6_init_103 : decode cX6_init 103 = .ok (.bipush 12, 2) := by decide +kernel
theorem dX6_init_105 : decode cX6_init 105 = .ok (.if_icmp .ge 20, 3) := by decide +kernel
theorem dX6_init_108 : decode cX6_init 108 = .ok (.aload_n 0, 1) := by decide +kernel
theorem dX6_init_109 : decode cX6_init 109 = .ok (.getfield 13, 3) := by decide +kernel
theorem dX6_init_112 : decode cX6_init 112 = .ok (.bipush 16, 2) := by decide +kernel
theorem dX6_init_114 : decode cX6_init 114 = .ok (.iload_n 1, 1) := by decide +kernel
theorem dX6_init_115 : decode cX6_init 115 = .ok (.iadd, 1) := by decide +kernel
theorem dX6_init_116 : decode cX6_init 116 = .ok (.bipush 9, 2) := by decide +kernel
theorem dX6_init_118 : decode cX6_init 118 = .ok (.iastore, 1) := by decide +kernel
theorem dX6_init_119 : decode cX6_init 119 = .ok (.iinc 1 1, 3) := by decide +kernel
theorem dX6_init_122 : decode cX6_init 122 = .ok (.goto (-20), 3) := by decide +kernel
theorem dX6_init_125 : decode cX6_init 125 = .ok (.return_, 1) := by decide +kernel
theorem dX6_refuse_0 : decode cX6_refuse 0 = .ok (.aload_n 0, 1) := by decide +kernel
theorem dX6_refuse_1 : decode cX6_refuse 1 = .ok (.getfield 7, 3) := by decide +kernel
end
section
theorem dX6_refuse_4 : decode cX6_refuse 4 = .ok (.iload_n 1, 1) := by decide +kernel
theorem dX6_refuse_5 : decode cX6_refuse 5 = .ok (.ineg, 1) := by decide +kernel
theorem dX6_refuse_6 : decode cX6_refuse 6 = .ok (.dup2, 1) := by decide +kernel
theorem dX6_refuse_7 : decode cX6_refuse 7 = .ok (.iaload, 1) := by decide +kernel
theorem dX6_refuse_8 : decode cX6_refuse 8 = .ok (.iconst 1, 1) := by decide +kernel
theorem dX6_refuse_9 : decode cX6_refuse 9 = .ok (.iadd, 1) := by decide +kernel
theorem dX6_refuse_10 : decode cX6_refuse 10 = .ok (.iastore, 1) := by decide +kernel
theorem dX6_refuse_11 : decode cX6_refuse 11 = .ok (.iload_n 1, 1) := by decide +kernel
theorem dX6_refuse_12 : decode cX6_refuse 12 = .ok (.ireturn, 1) := by decide +kernel
theorem dX6_isIn_0 : decode cX6_isIn 0 = .ok (.iload_n 0, 1) := by decide +kernel
theorem dX6_isIn_1 : decode cX6_isIn 1 = .ok (.ifCond .lt 12, 3) := by decide +kernel
theorem dX6_isIn_4 : decode cX6_isIn 4 = .ok (.iload_n 0, 1) := by decide +kernel
theorem dX6_isIn_5 : decode cX6_isIn 5 = .ok (.iload_n 1, 1) := by decide +kernel
theorem dX6_isIn_6 : decode cX6_isIn 6 = .ok (.if_icmp .ge 7, 3) := by decide +kernel
theorem dX6_isIn_9 : decode cX6_isIn 9 = .ok (.iconst 1, 1) := by decide +kernel
theorem dX6_isIn_10 : decode cX6_isIn 10 = .ok (.goto 4, 3) := by decide +kernel
theorem dX6_isIn_13 : decode cX6_isIn 13 = .ok (.iconst 0, 1) := by decide +kernel
theorem dX6_isIn_14 : decode cX6_isIn 14 = .ok (.ireturn, 1) := by decide +kernel
theorem dX6_within_0 : decode cX6_within 0 = .ok (.iload_n 0, 1) := by decide +kernel
theorem dX6_within_1 : decode cX6_within 1 = .ok (.iload_n 1, 1) := by decide +kernel
theorem dX6_within_2 : decode cX6_within 2 = .ok (.if_icmp .ge 8, 3) := by decide +kernel
theorem dX6_within_5 : decode cX6_within 5 = .ok (.bipush (-4), 2) := by decide +kernel
theorem dX6_within_7 : decode cX6_within 7 = .ok (.goto 14, 3) := by decide +kernel
theorem dX6_within_10 : decode cX6_within 10 = .ok (.iload_n 0, 1) := by decide +kernel
theorem dX6_within_11 : decode cX6_within 11 = .ok (.iload_n 2, 1) := by decide +kernel
theorem dX6_within_12 : decode cX6_within 12 = .ok (.if_icmp .le 8, 3) := by decide +kernel
theorem dX6_within_15 : decode cX6_within 15 = .ok (.bipush (-6), 2) := by decide +kernel
theorem dX6_within_17 : decode cX6_within 17 = .ok (.goto 4, 3) := by decide +kernel
theorem dX6_within_20 : decode cX6_within 20 = .ok (.iconst 0, 1) := by decide +kernel
theorem dX6_within_21 : decode cX6_within 21 = .ok (.ireturn, 1) := by decide +kernel
theorem dX6_copies_0 : decode cX6_copies 0 = .ok (.iconst 0, 1) := by decide +kernel
theorem dX6_copies_1 : decode cX6_copies 1 = .ok (.istore_n 2, 1) := by decide +kernel
theorem dX6_copies_2 : decode cX6_copies 2 = .ok (.iload_n 2, 1) := by decide +kernel
theorem dX6_copies_3 : decode cX6_copies 3 = .ok (.bipush 79, 2) := by decide +kernel
theorem dX6_copies_5 : decode cX6_copies 5 = .ok (.if_icmp .ge 15, 3) := by decide +kernel
theorem dX6_copies_8 : decode cX6_copies 8 = .ok (.aload_n 1, 1) := by decide +kernel
theorem dX6_copies_9 : decode cX6_copies 9 = .ok (.iload_n 2, 1) := by decide +kernel
theorem dX6_copies_10 : decode cX6_copies 10 = .ok (.aload_n 0, 1) := by decide +kernel
theorem dX6_copies_11 : decode cX6_copies 11 = .ok (.iload_n 2, 1) := by decide +kernel
theorem dX6_copies_12 : decode cX6_copies 12 = .ok (.iaload, 1) := by decide +kernel
theorem dX6_copies_13 : decode cX6_copies 13 = .ok (.iastore, 1) := by decide +kernel
theorem dX6_copies_14 : decode cX6_copies 14 = .ok (.iinc 2 1, 3) := by decide +kernel
theorem dX6_copies_17 : decode cX6_copies 17 = .ok (.goto (-15), 3) := by decide +kernel
theorem dX6_copies_20 : decode cX6_copies 20 = .ok (.return_, 1) := by decide +kernel
theorem dX6_isDoor_0 : decode cX6_isDoor 0 = .ok (.iload_n 1, 1) := by decide +kernel
theorem dX6_isDoor_1 : decode cX6_isDoor 1 = .ok (.iconst 1, 1) := by decide +kernel
theorem dX6_isDoor_2 : decode cX6_isDoor 2 = .ok (.if_icmp .lt 17, 3) := by decide +kernel
theorem dX6_isDoor_5 : decode cX6_isDoor 5 = .ok (.iload_n 1, 1) := by decide +kernel
theorem dX6_isDoor_6 : decode cX6_isDoor 6 = .ok (.aload_n 0, 1) := by decide +kernel
theorem dX6_isDoor_7 : decode cX6_isDoor 7 = .ok (.getfield 13, 3) := by decide +kernel
theorem dX6_isDoor_10 : decode cX6_isDoor 10 = .ok (.iconst 0, 1) := by decide +kernel
theorem dX6_isDoor_11 : decode cX6_isDoor 11 = .ok (.iaload, 1) := by decide +kernel
theorem dX6_isDoor_12 : decode cX6_isDoor 12 = .ok (.if_icmp .gt 7, 3) := by decide +kernel
theorem dX6_isDoor_15 : decode cX6_isDoor 15 = .ok (.iconst 1, 1) := by decide +kernel
theorem dX6_isDoor_16 : decode cX6_isDoor 16 = .ok (.goto 4, 3) := by decide +kernel
theorem dX6_isDoor_19 : decode cX6_isDoor 19 = .ok (.iconst 0, 1) := by decide +kernel
theorem dX6_isDoor_20 : decode cX6_isDoor 20 = .ok (.ireturn, 1) := by decide +kernel
theorem dX6_isPerson_0 : decode cX6_isPerson 0 = .ok (.iload_n 1, 1) := by decide +kernel
theorem dX6_isPerson_1 : decode cX6_isPerson 1 = .ok (.aload_n 0, 1) := by decide +kernel
theorem dX6_isPerson_2 : decode cX6_isPerson 2 = .ok (.getfield 13, 3) := by decide +kernel
theorem dX6_isPerson_5 : decode cX6_isPerson 5 = .ok (.iconst 2, 1) := by decide +kernel
theorem dX6_isPerson_6 : decode cX6_isPerson 6 = .ok (.iaload, 1) := by decide +kernel
theorem dX6_isPerson_7 : decode cX6_isPerson 7 = .ok (.invokestatic 40, 3) := by decide +kernel
theorem dX6_isPerson_10 : decode cX6_isPerson 10 = .ok (.ireturn, 1) := by decide +kernel
theorem dX6_get_0 : decode cX6_get 0 = .ok (.aload_n 0, 1) := by decide +kernel
theorem dX6_get_1 : decode cX6_get 1 = .ok (.getfield 13, 3) := by decide +kernel
theorem dX6_get_4 : decode cX6_get 4 = .ok (.bipush 40, 2) := by decide +kernel
theorem dX6_get_6 : decode cX6_get 6 = .ok (.iconst 4, 1) := by decide +kernel
theorem dX6_get_7 : decode cX6_get 7 = .ok (.iload_n 1, 1) := by decide +kernel
theorem dX6_get_8 : decode cX6_get 8 = .ok (.imul, 1) := by decide +kernel
theorem dX6_get_9 : decode cX6_get 9 = .ok (.iadd, 1) := by decide +kernel
theorem dX6_get_10 : decode cX6_get 10 = .ok (.iload_n 2, 1) := by decide +kernel
theorem dX6_get_11 : decode cX6_get 11 = .ok (.iadd, 1) := by decide +kernel
theorem dX6_get_12 : decode cX6_get 12 = .ok (.iaload, 1) := by decide +kernel
theorem dX6_get_13 : decode cX6_get 13 = .ok (.ireturn, 1) := by decide +kernel
theorem dX6_letter_0 : decode cX6_letter 0 = .ok (.iload_n 1, 1) := by decide +kernel
theorem dX6_letter_1 : decode cX6_letter 1 = .ok (.iconst 0, 1) := by decide +kernel
theorem dX6_letter_2 : decode cX6_letter 2 = .ok (.sipush 255, 3) := by decide +kernel
theorem dX6_letter_5 : decode cX6_letter 5 = .ok (.invokestatic 44, 3) := by decide +kernel
theorem dX6_letter_8 : decode cX6_letter 8 = .ok (.istore_n 2, 1) := by decide +kernel
theorem dX6_letter_9 : decode cX6_letter 9 = .ok (.iload_n 2, 1) := by decide +kernel
theorem dX6_letter_10 : decode cX6_letter 10 = .ok (.ifCond .ne 15, 3) := by decide +kernel
theorem dX6_letter_13 : decode cX6_letter 13 = .ok (.aload_n 0, 1) := by decide +kernel
theorem dX6_letter_14 : decode cX6_letter 14 = .ok (.getfield 48, 3) := by decide +kernel
theorem dX6_letter_17 : decode cX6_letter 17 = .ok (.bipush 64, 2) := by decide +kernel
theorem dX6_letter_19 : decode cX6_letter 19 = .ok (.if_icmp .ne 6, 3) := by decide +kernel
theorem dX6_letter_22 : decode cX6_letter 22 = .ok (.bipush (-6), 2) := by decide +kernel
theorem dX6_letter_24 : decode cX6_letter 24 = .ok (.istore_n 2, 1) := by decide +kernel
theorem dX6_letter_25 : decode cX6_letter 25 = .ok (.iload_n 2, 1) := by decide +kernel
theorem dX6_letter_26 : decode cX6_letter 26 = .ok (.ifCond .eq 9, 3) := by decide +kernel
theorem dX6_letter_29 : decode cX6_letter 29 = .ok (.aload_n 0, 1) := by decide +kernel
theorem dX6_letter_30 : decode cX6_letter 30 = .ok (.iload_n 2, 1) := by decide +kernel
theorem dX6_letter_31 : decode cX6_letter 31 = .ok (.invokevirtual 52, 3) := by decide +kernel
theorem dX6_letter_34 : decode cX6_letter 34 = .ok (.ireturn, 1) := by decide +kernel
theorem dX6_letter_35 : decode cX6_letter 35 = .ok (.aload_n 0, 1) := by decide +kernel
theorem dX6_letter_36 : decode cX6_letter 36 = .ok (.getfield 22, 3) := by decide +kernel
theorem dX6_letter_39 : decode cX6_letter 39 = .ok (.aload_n 0, 1) := by decide +kernel
theorem dX6_letter_40 : decode cX6_letter 40 = .ok (.getfield 48, 3) := by decide +kernel
theorem dX6_letter_43 : decode cX6_letter 43 = .ok (.iload_n 1, 1) := by decide +kernel
theorem dX6_letter_44 : decode cX6_letter 44 = .ok (.iastore, 1) := by decide +kernel
theorem dX6_letter_45 : decode cX6_letter 45 = .ok (.aload_n 0, 1) := by decide +kernel
theorem dX6_letter_46 : decode cX6_letter 46 = .ok (.dup, 1) := by decide +kernel
theorem dX6_letter_47 : decode cX6_letter 47 = .ok (.getfield 48, 3) := by decide +kernel
theorem dX6_letter_50 : decode cX6_letter 50 = .ok (.iconst 1, 1) := by decide +kernel
theorem dX6_letter_51 : decode cX6_letter 51 = .ok (.iadd, 1) := by decide +kernel
theorem dX6_letter_52 : decode cX6_letter 52 = .ok (.putfield 48, 3) := by decide +kernel
theorem dX6_letter_55 : decode cX6_letter 55 = .ok (.aload_n 0, 1) := by decide +kernel
theorem dX6_letter_56 : decode cX6_letter 56 = .ok (.getfield 48, 3) := by decide +kernel
theorem dX6_letter_59 : decode cX6_letter 59 = .ok (.ireturn, 1) := by decide +kernel
theorem dX6_sign_0 : decode cX6_sign 0 = .ok (.aload_n 0, 1) := by decide +kernel
theorem dX6_sign_1 : decode cX6_sign 1 = .ok (.getfield 56, 3) := by decide +kernel
theorem dX6_sign_4 : decode cX6_sign 4 = .ok (.aload_n 0, 1) := by decide +kernel
theorem dX6_sign_5 : decode cX6_sign 5 = .ok (.getfield 48, 3) := by decide +kernel
theorem dX6_sign_8 : decode cX6_sign 8 = .ok (.if_icmp .ge 15, 3) := by decide +kernel
theorem dX6_sign_11 : decode cX6_sign 11 = .ok (.aload_n 0, 1) := by decide +kernel
theorem dX6_sign_12 : decode cX6_sign 12 = .ok (.getfield 22, 3) := by decide +kernel
theorem dX6_sign_15 : decode cX6_sign 15 = .ok (.aload_n 0, 1) := by decide +kernel
theorem dX6_sign_16 : decode cX6_sign 16 = .ok (.getfield 56, 3) := by decide +kernel
theorem dX6_sign_19 : decode cX6_sign 19 = .ok (.iaload, 1) := by decide +kernel
theorem dX6_sign_20 : decode cX6_sign 20 = .ok (.goto 4, 3) := by decide +kernel
theorem dX6_sign_23 : decode cX6_sign 23 = .ok (.iconst (-1), 1) := by decide +kernel
theorem dX6_sign_24 : decode cX6_sign 24 = .ok (.ireturn, 1) := by decide +kernel
theorem dX6_takes_0 : decode cX6_takes 0 = .ok (.aload_n 0, 1) := by decide +kernel
theorem dX6_takes_1 : decode cX6_takes 1 = .ok (.invokevirtual 59, 3) := by decide +kernel
theorem dX6_takes_4 : decode cX6_takes 4 = .ok (.iload_n 1, 1) := by decide +kernel
theorem dX6_takes_5 : decode cX6_takes 5 = .ok (.if_icmp .eq 5, 3) := by decide +kernel
theorem dX6_takes_8 : decode cX6_takes 8 = .ok (.iconst 0, 1) := by decide +kernel
theorem dX6_takes_9 : decode cX6_takes 9 = .ok (.ireturn, 1) := by decide +kernel
theorem dX6_takes_10 : decode cX6_takes 10 = .ok (.aload_n 0, 1) := by decide +kernel
theorem dX6_takes_11 : decode cX6_takes 11 = .ok (.dup, 1) := by decide +kernel
theorem dX6_takes_12 : decode cX6_takes 12 = .ok (.getfield 56, 3) := by decide +kernel
theorem dX6_takes_15 : decode cX6_takes 15 = .ok (.iconst 1, 1) := by decide +kernel
theorem dX6_takes_16 : decode cX6_takes 16 = .ok (.iadd, 1) := by decide +kernel
theorem dX6_takes_17 : decode cX6_takes 17 = .ok (.putfield 56, 3) := by decide +kernel
theorem dX6_takes_20 : decode cX6_takes 20 = .ok (.iconst 1, 1) := by decide +kernel
theorem dX6_takes_21 : decode cX6_takes 21 = .ok (.ireturn, 1) := by decide +kernel
theorem dX6_isDigit_0 : decode cX6_isDigit 0 = .ok (.aload_n 0, 1) := by decide +kernel
theorem dX6_isDigit_1 : decode cX6_isDigit 1 = .ok (.invokevirtual 59, 3) := by decide +kernel
theorem dX6_isDigit_4 : decode cX6_isDigit 4 = .ok (.bipush 48, 2) := by decide +kernel
theorem dX6_isDigit_6 : decode cX6_isDigit 6 = .ok (.if_icmp .lt 16, 3) := by decide +kernel
theorem dX6_isDigit_9 : decode cX6_isDigit 9 = .ok (.aload_n 0, 1) := by decide +kernel
theorem dX6_isDigit_10 : decode cX6_isDigit 10 = .ok (.invokevirtual 59, 3) := by decide +kernel
theorem dX6_isDigit_13 : decode cX6_isDigit 13 = .ok (.bipush 57, 2) := by decide +kernel
theorem dX6_isDigit_15 : decode cX6_isDigit 15 = .ok (.if_icmp .gt 7, 3) := by decide +kernel
theorem dX6_isDigit_18 : decode cX6_isDigit 18 = .ok (.iconst 1, 1) := by decide +kernel
theorem dX6_isDigit_19 : decode cX6_isDigit 19 = .ok (.goto 4, 3) := by decide +kernel
theorem dX6_isDigit_22 : decode cX6_isDigit 22 = .ok (.iconst 0, 1) := by decide +kernel
theorem dX6_isDigit_23 : decode cX6_isDigit 23 = .ok (.ireturn, 1) := by decide +kernel
theorem dX6_readsNumber_0 : decode cX6_readsNumber 0 = .ok (.aload_n 0, 1) := by decide +kernel
theorem dX6_readsNumber_1 : decode cX6_readsNumber 1 = .ok (.getfield 25, 3) := by decide +kernel
theorem dX6_readsNumber_4 : decode cX6_readsNumber 4 = .ok (.iload_n 1, 1) := by decide +kernel
theorem dX6_readsNumber_5 : decode cX6_readsNumber 5 = .ok (.iconst 0, 1) := by decide +kernel
theorem dX6_readsNumber_6 : decode cX6_readsNumber 6 = .ok (.iastore, 1) := by decide +kernel
theorem dX6_readsNumber_7 : decode cX6_readsNumber 7 = .ok (.iconst 0, 1) := by decide +kernel
theorem dX6_readsNumber_8 : decode cX6_readsNumber 8 = .ok (.istore_n 3, 1) := by decide +kernel
theorem dX6_readsNumber_9 : decode cX6_readsNumber 9 = .ok (.iload_n 3, 1) := by decide +kernel
theorem dX6_readsNumber_10 : decode cX6_readsNumber 10 = .ok (.iload_n 2, 1) := by decide +kernel
theorem dX6_readsNumber_11 : decode cX6_readsNumber 11 = .ok (.if_icmp .ge 49, 3) := by decide +kernel
theorem dX6_readsNumber_14 : decode cX6_readsNumber 14 = .ok (.aload_n 0, 1) := by decide +kernel
theorem dX6_readsNumber_15 : decode cX6_readsNumber 15 = .ok (.invokevirtual 63, 3) := by decide +kernel
theorem dX6_readsNumber_18 : decode cX6_readsNumber 18 = .ok (.ifCond .eq 42, 3) := by decide +kernel
theorem dX6_readsNumber_21 : decode cX6_readsNumber 21 = .ok (.aload_n 0, 1) := by decide +kernel
theorem dX6_readsNumber_22 : decode cX6_readsNumber 22 = .ok (.getfield 25, 3) := by decide +kernel
theorem dX6_readsNumber_25 : decode cX6_readsNumber 25 = .ok (.iload_n 1, 1) := by decide +kernel
theorem dX6_readsNumber_26 : decode cX6_readsNumber 26 = .ok (.bipush 10, 2) := by decide +kernel
theorem dX6_readsNumber_28 : decode cX6_readsNumber 28 = .ok (.aload_n 0, 1) := by decide +kernel
theorem dX6_readsNumber_29 : decode cX6_readsNumber 29 = .ok (.getfield 25, 3) := by decide +kernel
theorem dX6_readsNumber_32 : decode cX6_readsNumber 32 = .ok (.iload_n 1, 1) := by decide +kernel
theorem dX6_readsNumber_33 : decode cX6_readsNumber 33 = .ok (.iaload, 1) := by decide +kernel
theorem dX6_readsNumber_34 : decode cX6_readsNumber 34 = .ok (.imul, 1) := by decide +kernel
theorem dX6_readsNumber_35 : decode cX6_readsNumber 35 = .ok (.aload_n 0, 1) := by decide +kernel
theorem dX6_readsNumber_36 : decode cX6_readsNumber 36 = .ok (.invokevirtual 59, 3) := by decide +kernel
theorem dX6_readsNumber_39 : decode cX6_readsNumber 39 = .ok (.iadd, 1) := by decide +kernel
theorem dX6_readsNumber_40 : decode cX6_readsNumber 40 = .ok (.bipush 48, 2) := by decide +kernel
theorem dX6_readsNumber_42 : decode cX6_readsNumber 42 = .ok (.isub, 1) := by decide +kernel
theorem dX6_readsNumber_43 : decode cX6_readsNumber 43 = .ok (.iastore, 1) := by decide +kernel
theorem dX6_readsNumber_44 : decode cX6_readsNumber 44 = .ok (.aload_n 0, 1) := by decide +kernel
theorem dX6_readsNumber_45 : decode cX6_readsNumber 45 = .ok (.dup, 1) := by decide +kernel
theorem dX6_readsNumber_46 : decode cX6_readsNumber 46 = .ok (.getfield 56, 3) := by decide +kernel
theorem dX6_readsNumber_49 : decode cX6_readsNumber 49 = .ok (.iconst 1, 1) := by decide +kernel
theorem dX6_readsNumber_50 : decode cX6_readsNumber 50 = .ok (.iadd, 1) := by decide +kernel
theorem dX6_readsNumber_51 : decode cX6_readsNumber 51 = .ok (.putfield 56, 3) := by decide +kernel
theorem dX6_readsNumber_54 : decode cX6_readsNumber 54 = .ok (.iinc 3 1, 3) := by decide +kernel
theorem dX6_readsNumber_57 : decode cX6_readsNumber 57 = .ok (.goto (-48), 3) := by decide +kernel
theorem dX6_readsNumber_60 : decode cX6_readsNumber 60 = .ok (.iload_n 3, 1) := by decide +kernel
theorem dX6_readsNumber_61 : decode cX6_readsNumber 61 = .ok (.ifCond .le 7, 3) := by decide +kernel
theorem dX6_readsNumber_64 : decode cX6_readsNumber 64 = .ok (.iconst 1, 1) := by decide +kernel
theorem dX6_readsNumber_65 : decode cX6_readsNumber 65 = .ok (.goto 4, 3) := by decide +kernel
theorem dX6_readsNumber_68 : decode cX6_readsNumber 68 = .ok (.iconst 0, 1) := by decide +kernel
theorem dX6_readsNumber_69 : decode cX6_readsNumber 69 = .ok (.ireturn, 1) := by decide +kernel
theorem dX6_readsRow_0 : decode cX6_readsRow 0 = .ok (.aload_n 0, 1) := by decide +kernel
theorem dX6_readsRow_1 : decode cX6_readsRow 1 = .ok (.iconst 0, 1) := by decide +kernel
theorem dX6_readsRow_2 : decode cX6_readsRow 2 = .ok (.putfield 67, 3) := by decide +kernel
theorem dX6_readsRow_5 : decode cX6_readsRow 5 = .ok (.aload_n 0, 1) := by decide +kernel
theorem dX6_readsRow_6 : decode cX6_readsRow 6 = .ok (.getfield 67, 3) := by decide +kernel
theorem dX6_readsRow_9 : decode cX6_readsRow 9 = .ok (.bipush 12, 2) := by decide +kernel
theorem dX6_readsRow_11 : decode cX6_readsRow 11 = .ok (.if_icmp .ge 49, 3) := by decide +kernel
theorem dX6_readsRow_14 : decode cX6_readsRow 14 = .ok (.aload_n 0, 1) := by decide +kernel
theorem dX6_readsRow_15 : decode cX6_readsRow 15 = .ok (.invokevirtual 63, 3) := by decide +kernel
theorem dX6_readsRow_18 : decode cX6_readsRow 18 = .ok (.ifCond .eq 42, 3) := by decide +kernel
theorem dX6_readsRow_21 : decode cX6_readsRow 21 = .ok (.aload_n 0, 1) := by decide +kernel
theorem dX6_readsRow_22 : decode cX6_readsRow 22 = .ok (.getfield 25, 3) := by decide +kernel
theorem dX6_readsRow_25 : decode cX6_readsRow 25 = .ok (.aload_n 0, 1) := by decide +kernel
theorem dX6_readsRow_26 : decode cX6_readsRow 26 = .ok (.getfield 67, 3) := by decide +kernel
theorem dX6_readsRow_29 : decode cX6_readsRow 29 = .ok (.aload_n 0, 1) := by decide +kernel
theorem dX6_readsRow_30 : decode cX6_readsRow 30 = .ok (.invokevirtual 59, 3) := by decide +kernel
theorem dX6_readsRow_33 : decode cX6_readsRow 33 = .ok (.bipush 48, 2) := by decide +kernel
theorem dX6_readsRow_35 : decode cX6_readsRow 35 = .ok (.isub, 1) := by decide +kernel
theorem dX6_readsRow_36 : decode cX6_readsRow 36 = .ok (.iastore, 1) := by decide +kernel
theorem dX6_readsRow_37 : decode cX6_readsRow 37 = .ok (.aload_n 0, 1) := by decide +kernel
theorem dX6_readsRow_38 : decode cX6_readsRow 38 = .ok (.dup, 1) := by decide +kernel
theorem dX6_readsRow_39 : decode cX6_readsRow 39 = .ok (.getfield 67, 3) := by decide +kernel
theorem dX6_readsRow_42 : decode cX6_readsRow 42 = .ok (.iconst 1, 1) := by decide +kernel
theorem dX6_readsRow_43 : decode cX6_readsRow 43 = .ok (.iadd, 1) := by decide +kernel
theorem dX6_readsRow_44 : decode cX6_readsRow 44 = .ok (.putfield 67, 3) := by decide +kernel
theorem dX6_readsRow_47 : decode cX6_readsRow 47 = .ok (.aload_n 0, 1) := by decide +kernel
theorem dX6_readsRow_48 : decode cX6_readsRow 48 = .ok (.dup, 1) := by decide +kernel
theorem dX6_readsRow_49 : decode cX6_readsRow 49 = .ok (.getfield 56, 3) := by decide +kernel
theorem dX6_readsRow_52 : decode cX6_readsRow 52 = .ok (.iconst 1, 1) := by decide +kernel
theorem dX6_readsRow_53 : decode cX6_readsRow 53 = .ok (.iadd, 1) := by decide +kernel
theorem dX6_readsRow_54 : decode cX6_readsRow 54 = .ok (.putfield 56, 3) := by decide +kernel
theorem dX6_readsRow_57 : decode cX6_readsRow 57 = .ok (.goto (-52), 3) := by decide +kernel
theorem dX6_readsRow_60 : decode cX6_readsRow 60 = .ok (.aload_n 0, 1) := by decide +kernel
theorem dX6_readsRow_61 : decode cX6_readsRow 61 = .ok (.getfield 67, 3) := by decide +kernel
theorem dX6_readsRow_64 : decode cX6_readsRow 64 = .ok (.ifCond .le 7, 3) := by decide +kernel
theorem dX6_readsRow_67 : decode cX6_readsRow 67 = .ok (.iconst 1, 1) := by decide +kernel
theorem dX6_readsRow_68 : decode cX6_readsRow 68 = .ok (.goto 4, 3) := by decide +kernel
theorem dX6_readsRow_71 : decode cX6_readsRow 71 = .ok (.iconst 0, 1) := by decide +kernel
theorem dX6_readsRow_72 : decode cX6_readsRow 72 = .ok (.ireturn, 1) := by decide +kernel
theorem dX6_kindOf_0 : decode cX6_kindOf 0 = .ok (.iload_n 0, 1) := by decide +kernel
theorem dX6_kindOf_1 : decode cX6_kindOf 1 = .ok (.lookupswitch 71 #[(98, 63), (100, 61), (101, 65), (109, 59), (117, 69), (120, 67)], 59) := by decide +kernel
theorem dX6_kindOf_60 : decode cX6_kindOf 60 = .ok (.iconst 0, 1) := by decide +kernel
theorem dX6_kindOf_61 : decode cX6_kindOf 61 = .ok (.ireturn, 1) := by decide +kernel
theorem dX6_kindOf_62 : decode cX6_kindOf 62 = .ok (.iconst 1, 1) := by decide +kernel
theorem dX6_kindOf_63 : decode cX6_kindOf 63 = .ok (.ireturn, 1) := by decide +kernel
theorem dX6_kindOf_64 : decode cX6_kindOf 64 = .ok (.iconst 2, 1) := by decide +kernel
theorem dX6_kindOf_65 : decode cX6_kindOf 65 = .ok (.ireturn, 1) := by decide +kernel
theorem dX6_kindOf_66 : decode cX6_kindOf 66 = .ok (.iconst 3, 1) := by decide +kernel
theorem dX6_kindOf_67 : decode cX6_kindOf 67 = .ok (.ireturn, 1) := by decide +kernel
theorem dX6_kindOf_68 : decode cX6_kindOf 68 = .ok (.iconst 4, 1) := by decide +kernel
theorem dX6_kindOf_69 : decode cX6_kindOf 69 = .ok (.ireturn, 1) := by decide +kernel
theorem dX6_kindOf_70 : decode cX6_kindOf 70 = .ok (.iconst 5, 1) := by decide +kernel
theorem dX6_kindOf_71 : decode cX6_kindOf 71 = .ok (.ireturn, 1) := by decide +kernel
theorem dX6_kindOf_72 : decode cX6_kindOf 72 = .ok (.bipush (-9), 2) := by decide +kernel
theorem dX6_kindOf_74 : decode cX6_kindOf 74 = .ok (.ireturn, 1) := by decide +kernel
theorem dX6_readsKind_0 : decode cX6_readsKind 0 = .ok (.aload_n 0, 1) := by decide +kernel
theorem dX6_readsKind_1 : decode cX6_readsKind 1 = .ok (.getfield 25, 3) := by decide +kernel
theorem dX6_readsKind_4 : decode cX6_readsKind 4 = .ok (.iconst 0, 1) := by decide +kernel
theorem dX6_readsKind_5 : decode cX6_readsKind 5 = .ok (.aload_n 0, 1) := by decide +kernel
theorem dX6_readsKind_6 : decode cX6_readsKind 6 = .ok (.invokevirtual 59, 3) := by decide +kernel
theorem dX6_readsKind_9 : decode cX6_readsKind 9 = .ok (.invokestatic 70, 3) := by decide +kernel
theorem dX6_readsKind_12 : decode cX6_readsKind 12 = .ok (.iastore, 1) := by decide +kernel
theorem dX6_readsKind_13 : decode cX6_readsKind 13 = .ok (.aload_n 0, 1) := by decide +kernel
theorem dX6_readsKind_14 : decode cX6_readsKind 14 = .ok (.getfield 25, 3) := by decide +kernel
theorem dX6_readsKind_17 : decode cX6_readsKind 17 = .ok (.iconst 0, 1) := by decide +kernel
theorem dX6_readsKind_18 : decode cX6_readsKind 18 = .ok (.iaload, 1) := by decide +kernel
theorem dX6_readsKind_19 : decode cX6_readsKind 19 = .ok (.ifCond .ge 5, 3) := by decide +kernel
theorem dX6_readsKind_22 : decode cX6_readsKind 22 = .ok (.iconst 0, 1) := by decide +kernel
theorem dX6_readsKind_23 : decode cX6_readsKind 23 = .ok (.ireturn, 1) := by decide +kernel
theorem dX6_readsKind_24 : decode cX6_readsKind 24 = .ok (.aload_n 0, 1) := by decide +kernel
theorem dX6_readsKind_25 : decode cX6_readsKind 25 = .ok (.dup, 1) := by decide +kernel
theorem dX6_readsKind_26 : decode cX6_readsKind 26 = .ok (.getfield 56, 3) := by decide +kernel
theorem dX6_readsKind_29 : decode cX6_readsKind 29 = .ok (.iconst 1, 1) := by decide +kernel
theorem dX6_readsKind_30 : decode cX6_readsKind 30 = .ok (.iadd, 1) := by decide +kernel
theorem dX6_readsKind_31 : decode cX6_readsKind 31 = .ok (.putfield 56, 3) := by decide +kernel
theorem dX6_readsKind_34 : decode cX6_readsKind 34 = .ok (.iconst 1, 1) := by decide +kernel
theorem dX6_readsKind_35 : decode cX6_readsKind 35 = .ok (.ireturn, 1) := by decide +kernel
theorem dX6_readsStatement_0 : decode cX6_readsStatement 0 = .ok (.aload_n 0, 1) := by decide +kernel
theorem dX6_readsStatement_1 : decode cX6_readsStatement 1 = .ok (.invokevirtual 59, 3) := by decide +kernel
theorem dX6_readsStatement_4 : decode cX6_readsStatement 4 = .ok (.istore_n 1, 1) := by decide +kernel
theorem dX6_readsStatement_5 : decode cX6_readsStatement 5 = .ok (.iconst 0, 1) := by decide +kernel
theorem dX6_readsStatement_6 : decode cX6_readsStatement 6 = .ok (.istore_n 2, 1) := by decide +kernel
theorem dX6_readsStatement_7 : decode cX6_readsStatement 7 = .ok (.aload_n 0, 1) := by decide +kernel
theorem dX6_readsStatement_8 : decode cX6_readsStatement 8 = .ok (.dup, 1) := by decide +kernel
theorem dX6_readsStatement_9 : decode cX6_readsStatement 9 = .ok (.getfield 56, 3) := by decide +kernel
theorem dX6_readsStatement_12 : decode cX6_readsStatement 12 = .ok (.iconst 1, 1) := by decide +kernel
theorem dX6_readsStatement_13 : decode cX6_readsStatement 13 = .ok (.iadd, 1) := by decide +kernel
theorem dX6_readsStatement_14 : decode cX6_readsStatement 14 = .ok (.putfield 56, 3) := by decide +kernel
theorem dX6_readsStatement_17 : decode cX6_readsStatement 17 = .ok (.iload_n 1, 1) := by decide +kernel
theorem dX6_readsStatement_18 : decode cX6_readsStatement 18 = .ok (.tableswitch 167 104 119 #[159, 167, 167, 88, 167, 167, 78, 167, 98, 167, 167, 78, 167, 167, 167, 159], 78) := by decide +kernel
theorem dX6_readsStatement_96 : decode cX6_readsStatement 96 = .ok (.aload_n 0, 1) := by decide +kernel
theorem dX6_readsStatement_97 : decode cX6_readsStatement 97 = .ok (.iconst 0, 1) := by decide +kernel
theorem dX6_readsStatement_98 : decode cX6_readsStatement 98 = .ok (.iconst 2, 1) := by decide +kernel
theorem dX6_readsStatement_99 : decode cX6_readsStatement 99 = .ok (.invokevirtual 73, 3) := by decide +kernel
theorem dX6_readsStatement_102 : decode cX6_readsStatement 102 = .ok (.istore_n 2, 1) := by decide +kernel
theorem dX6_readsStatement_103 : decode cX6_readsStatement 103 = .ok (.goto 94, 3) := by decide +kernel
theorem dX6_readsStatement_106 : decode cX6_readsStatement 106 = .ok (.aload_n 0, 1) := by decide +kernel
theorem dX6_readsStatement_107 : decode cX6_readsStatement 107 = .ok (.iconst 0, 1) := by decide +kernel
theorem dX6_readsStatement_108 : decode cX6_readsStatement 108 = .ok (.iconst 1, 1) := by decide +kernel
theorem dX6_readsStatement_109 : decode cX6_readsStatement 109 = .ok (.invokevirtual 73, 3) := by decide +kernel
theorem dX6_readsStatement_112 : decode cX6_readsStatement 112 = .ok (.istore_n 2, 1) := by decide +kernel
theorem dX6_readsStatement_113 : decode cX6_readsStatement 113 = .ok (.goto 84, 3) := by decide +kernel
theorem dX6_readsStatement_116 : decode cX6_readsStatement 116 = .ok (.aload_n 0, 1) := by decide +kernel
theorem dX6_readsStatement_117 : decode cX6_readsStatement 117 = .ok (.invokevirtual 76, 3) := by decide +kernel
theorem dX6_readsStatement_120 : decode cX6_readsStatement 120 = .ok (.ifCond .eq 52, 3) := by decide +kernel
theorem dX6_readsStatement_123 : decode cX6_readsStatement 123 = .ok (.aload_n 0, 1) := by decide +kernel
theorem dX6_readsStatement_124 : decode cX6_readsStatement 124 = .ok (.iconst 1, 1) := by decide +kernel
theorem dX6_readsStatement_125 : decode cX6_readsStatement 125 = .ok (.iconst 2, 1) := by decide +kernel
theorem dX6_readsStatement_126 : decode cX6_readsStatement 126 = .ok (.invokevirtual 73, 3) := by decide +kernel
theorem dX6_readsStatement_129 : decode cX6_readsStatement 129 = .ok (.ifCond .eq 43, 3) := by decide +kernel
theorem dX6_readsStatement_132 : decode cX6_readsStatement 132 = .ok (.aload_n 0, 1) := by decide +kernel
theorem dX6_readsStatement_133 : decode cX6_readsStatement 133 = .ok (.bipush 44, 2) := by decide +kernel
theorem dX6_readsStatement_135 : decode cX6_readsStatement 135 = .ok (.invokevirtual 79, 3) := by decide +kernel
theorem dX6_readsStatement_138 : decode cX6_readsStatement 138 = .ok (.ifCond .eq 34, 3) := by decide +kernel
theorem dX6_readsStatement_141 : decode cX6_readsStatement 141 = .ok (.aload_n 0, 1) := by decide +kernel
theorem dX6_readsStatement_142 : decode cX6_readsStatement 142 = .ok (.iconst 2, 1) := by decide +kernel
theorem dX6_readsStatement_143 : decode cX6_readsStatement 143 = .ok (.iconst 2, 1) := by decide +kernel
theorem dX6_readsStatement_144 : decode cX6_readsStatement 144 = .ok (.invokevirtual 73, 3) := by decide +kernel
theorem dX6_readsStatement_147 : decode cX6_readsStatement 147 = .ok (.ifCond .eq 25, 3) := by decide +kernel
theorem dX6_readsStatement_150 : decode cX6_readsStatement 150 = .ok (.aload_n 0, 1) := by decide +kernel
theorem dX6_readsStatement_151 : decode cX6_readsStatement 151 = .ok (.bipush 44, 2) := by decide +kernel
theorem dX6_readsStatement_153 : decode cX6_readsStatement 153 = .ok (.invokevirtual 79, 3) := by decide +kernel
theorem dX6_readsStatement_156 : decode cX6_readsStatement 156 = .ok (.ifCond .eq 16, 3) := by decide +kernel
theorem dX6_readsStatement_159 : decode cX6_readsStatement 159 = .ok (.aload_n 0, 1) := by decide +kernel
theorem dX6_readsStatement_160 : decode cX6_readsStatement 160 = .ok (.iconst 3, 1) := by decide +kernel
theorem dX6_readsStatement_161 : decode cX6_readsStatement 161 = .ok (.iconst 1, 1) := by decide +kernel
theorem dX6_readsStatement_162 : decode cX6_readsStatement 162 = .ok (.invokevirtual 73, 3) := by decide +kernel
theorem dX6_readsStatement_165 : decode cX6_readsStatement 165 = .ok (.ifCond .eq 7, 3) := by decide +kernel
theorem dX6_readsStatement_168 : decode cX6_readsStatement 168 = .ok (.iconst 1, 1) := by decide +kernel
theorem dX6_readsStatement_169 : decode cX6_readsStatement 169 = .ok (.goto 4, 3) := by decide +kernel
theorem dX6_readsStatement_172 : decode cX6_readsStatement 172 = .ok (.iconst 0, 1) := by decide +kernel
theorem dX6_readsStatement_173 : decode cX6_readsStatement 173 = .ok (.istore_n 2, 1) := by decide +kernel
theorem dX6_readsStatement_174 : decode cX6_readsStatement 174 = .ok (.goto 23, 3) := by decide +kernel
theorem dX6_readsStatement_177 : decode cX6_readsStatement 177 = .ok (.aload_n 0, 1) := by decide +kernel
theorem dX6_readsStatement_178 : decode cX6_readsStatement 178 = .ok (.invokevirtual 83, 3) := by decide +kernel
theorem dX6_readsStatement_181 : decode cX6_readsStatement 181 = .ok (.istore_n 2, 1) := by decide +kernel
theorem dX6_readsStatement_182 : decode cX6_readsStatement 182 = .ok (.goto 15, 3) := by decide +kernel
theorem dX6_readsStatement_185 : decode cX6_readsStatement 185 = .ok (.aload_n 0, 1) := by decide +kernel
theorem dX6_readsStatement_186 : decode cX6_readsStatement 186 = .ok (.dup, 1) := by decide +kernel
theorem dX6_readsStatement_187 : decode cX6_readsStatement 187 = .ok (.getfield 56, 3) := by decide +kernel
theorem dX6_readsStatement_190 : decode cX6_readsStatement 190 = .ok (.iconst 1, 1) := by decide +kernel
theorem dX6_readsStatement_191 : decode cX6_readsStatement 191 = .ok (.isub, 1) := by decide +kernel
theorem dX6_readsStatement_192 : decode cX6_readsStatement 192 = .ok (.putfield 56, 3) := by decide +kernel
theorem dX6_readsStatement_195 : decode cX6_readsStatement 195 = .ok (.iconst 0, 1) := by decide +kernel
theorem dX6_readsStatement_196 : decode cX6_readsStatement 196 = .ok (.ireturn, 1) := by decide +kernel
theorem dX6_readsStatement_197 : decode cX6_readsStatement 197 = .ok (.iload_n 2, 1) := by decide +kernel
theorem dX6_readsStatement_198 : decode cX6_readsStatement 198 = .ok (.ifCond .eq 16, 3) := by decide +kernel
theorem dX6_readsStatement_201 : decode cX6_readsStatement 201 = .ok (.aload_n 0, 1) := by decide +kernel
theorem dX6_readsStatement_202 : decode cX6_readsStatement 202 = .ok (.bipush 59, 2) := by decide +kernel
theorem dX6_readsStatement_204 : decode cX6_readsStatement 204 = .ok (.invokevirtual 79, 3) := by decide +kernel
theorem dX6_readsStatement_207 : decode cX6_readsStatement 207 = .ok (.ifCond .eq 7, 3) := by decide +kernel
theorem dX6_readsStatement_210 : decode cX6_readsStatement 210 = .ok (.iconst 1, 1) := by decide +kernel
theorem dX6_readsStatement_211 : decode cX6_readsStatement 211 = .ok (.goto 4, 3) := by decide +kernel
theorem dX6_readsStatement_214 : decode cX6_readsStatement 214 = .ok (.iconst 0, 1) := by decide +kernel
theorem dX6_readsStatement_215 : decode cX6_readsStatement 215 = .ok (.ireturn, 1) := by decide +kernel
theorem dX6_clearsRead_0 : decode cX6_clearsRead 0 = .ok (.iconst 0, 1) := by decide +kernel
theorem dX6_clearsRead_1 : decode cX6_clearsRead 1 = .ok (.istore_n 1, 1) := by decide +kernel
theorem dX6_clearsRead_2 : decode cX6_clearsRead 2 = .ok (.iload_n 1, 1) := by decide +kernel
theorem dX6_clearsRead_3 : decode cX6_clearsRead 3 = .ok (.bipush 12, 2) := by decide +kernel
theorem dX6_clearsRead_5 : decode cX6_clearsRead 5 = .ok (.if_icmp .ge 39, 3) := by decide +kernel
theorem dX6_clearsRead_8 : decode cX6_clearsRead 8 = .ok (.aload_n 0, 1) := by decide +kernel
theorem dX6_clearsRead_9 : decode cX6_clearsRead 9 = .ok (.getfield 19, 3) := by decide +kernel
theorem dX6_clearsRead_12 : decode cX6_clearsRead 12 = .ok (.iconst 4, 1) := by decide +kernel
theorem dX6_clearsRead_13 : decode cX6_clearsRead 13 = .ok (.iload_n 1, 1) := by decide +kernel
theorem dX6_clearsRead_14 : decode cX6_clearsRead 14 = .ok (.iadd, 1) := by decide +kernel
theorem dX6_clearsRead_15 : decode cX6_clearsRead 15 = .ok (.iconst 0, 1) := by decide +kernel
theorem dX6_clearsRead_16 : decode cX6_clearsRead 16 = .ok (.iastore, 1) := by decide +kernel
theorem dX6_clearsRead_17 : decode cX6_clearsRead 17 = .ok (.aload_n 0, 1) := by decide +kernel
theorem dX6_clearsRead_18 : decode cX6_clearsRead 18 = .ok (.getfield 19, 3) := by decide +kernel
theorem dX6_clearsRead_21 : decode cX6_clearsRead 21 = .ok (.bipush 16, 2) := by decide +kernel
theorem dX6_clearsRead_23 : decode cX6_clearsRead 23 = .ok (.iload_n 1, 1) := by decide +kernel
theorem dX6_clearsRead_24 : decode cX6_clearsRead 24 = .ok (.iadd, 1) := by decide +kernel
theorem dX6_clearsRead_25 : decode cX6_clearsRead 25 = .ok (.bipush 9, 2) := by decide +kernel
theorem dX6_clearsRead_27 : decode cX6_clearsRead 27 = .ok (.iastore, 1) := by decide +kernel
theorem dX6_clearsRead_28 : decode cX6_clearsRead 28 = .ok (.aload_n 0, 1) := by decide +kernel
theorem dX6_clearsRead_29 : decode cX6_clearsRead 29 = .ok (.getfield 19, 3) := by decide +kernel
theorem dX6_clearsRead_32 : decode cX6_clearsRead 32 = .ok (.bipush 28, 2) := by decide +kernel
theorem dX6_clearsRead_34 : decode cX6_clearsRead 34 = .ok (.iload_n 1, 1) := by decide +kernel
theorem dX6_clearsRead_35 : decode cX6_clearsRead 35 = .ok (.iadd, 1) := by decide +kernel
theorem dX6_clearsRead_36 : decode cX6_clearsRead 36 = .ok (.iconst 0, 1) := by decide +kernel
theorem dX6_clearsRead_37 : decode cX6_clearsRead 37 = .ok (.iastore, 1) := by decide +kernel
theorem dX6_clearsRead_38 : decode cX6_clearsRead 38 = .ok (.iinc 1 1, 3) := by decide +kernel
theorem dX6_clearsRead_41 : decode cX6_clearsRead 41 = .ok (.goto (-39), 3) := by decide +kernel
theorem dX6_clearsRead_44 : decode cX6_clearsRead 44 = .ok (.return_, 1) := by decide +kernel
theorem dX6_comesRow_0 : decode cX6_comesRow 0 = .ok (.aload_n 0, 1) := by decide +kernel
theorem dX6_comesRow_1 : decode cX6_comesRow 1 = .ok (.getfield 67, 3) := by decide +kernel
theorem dX6_comesRow_4 : decode cX6_comesRow 4 = .ok (.aload_n 0, 1) := by decide +kernel
theorem dX6_comesRow_5 : decode cX6_comesRow 5 = .ok (.getfield 19, 3) := by decide +kernel
theorem dX6_comesRow_8 : decode cX6_comesRow 8 = .ok (.iconst 0, 1) := by decide +kernel
theorem dX6_comesRow_9 : decode cX6_comesRow 9 = .ok (.iaload, 1) := by decide +kernel
theorem dX6_comesRow_10 : decode cX6_comesRow 10 = .ok (.if_icmp .eq 5, 3) := by decide +kernel
theorem dX6_comesRow_13 : decode cX6_comesRow 13 = .ok (.iconst 0, 1) := by decide +kernel
theorem dX6_comesRow_14 : decode cX6_comesRow 14 = .ok (.ireturn, 1) := by decide +kernel
theorem dX6_comesRow_15 : decode cX6_comesRow 15 = .ok (.iconst 0, 1) := by decide +kernel
theorem dX6_comesRow_16 : decode cX6_comesRow 16 = .ok (.istore_n 2, 1) := by decide +kernel
theorem dX6_comesRow_17 : decode cX6_comesRow 17 = .ok (.iload_n 2, 1) := by decide +kernel
theorem dX6_comesRow_18 : decode cX6_comesRow 18 = .ok (.aload_n 0, 1) := by decide +kernel
theorem dX6_comesRow_19 : decode cX6_comesRow 19 = .ok (.getfield 67, 3) := by decide +kernel
theorem dX6_comesRow_22 : decode cX6_comesRow 22 = .ok (.if_icmp .ge 43, 3) := by decide +kernel
theorem dX6_comesRow_25 : decode cX6_comesRow 25 = .ok (.aload_n 0, 1) := by decide +kernel
theorem dX6_comesRow_26 : decode cX6_comesRow 26 = .ok (.getfield 25, 3) := by decide +kernel
theorem dX6_comesRow_29 : decode cX6_comesRow 29 = .ok (.iload_n 2, 1) := by decide +kernel
theorem dX6_comesRow_30 : decode cX6_comesRow 30 = .ok (.iaload, 1) := by decide +kernel
theorem dX6_comesRow_31 : decode cX6_comesRow 31 = .ok (.aload_n 0, 1) := by decide +kernel
theorem dX6_comesRow_32 : decode cX6_comesRow 32 = .ok (.getfield 19, 3) := by decide +kernel
theorem dX6_comesRow_35 : decode cX6_comesRow 35 = .ok (.iconst 1, 1) := by decide +kernel
theorem dX6_comesRow_36 : decode cX6_comesRow 36 = .ok (.iaload, 1) := by decide +kernel
theorem dX6_comesRow_37 : decode cX6_comesRow 37 = .ok (.if_icmp .lt 22, 3) := by decide +kernel
theorem dX6_comesRow_40 : decode cX6_comesRow 40 = .ok (.iload_n 1, 1) := by decide +kernel
theorem dX6_comesRow_41 : decode cX6_comesRow 41 = .ok (.bipush 104, 2) := by decide +kernel
theorem dX6_comesRow_43 : decode cX6_comesRow 43 = .ok (.if_icmp .eq 14, 3) := by decide +kernel
theorem dX6_comesRow_46 : decode cX6_comesRow 46 = .ok (.aload_n 0, 1) := by decide +kernel
theorem dX6_comesRow_47 : decode cX6_comesRow 47 = .ok (.getfield 25, 3) := by decide +kernel
theorem dX6_comesRow_50 : decode cX6_comesRow 50 = .ok (.iload_n 2, 1) := by decide +kernel
theorem dX6_comesRow_51 : decode cX6_comesRow 51 = .ok (.iaload, 1) := by decide +kernel
theorem dX6_comesRow_52 : decode cX6_comesRow 52 = .ok (.bipush 9, 2) := by decide +kernel
theorem dX6_comesRow_54 : decode cX6_comesRow 54 = .ok (.if_icmp .eq 5, 3) := by decide +kernel
theorem dX6_comesRow_57 : decode cX6_comesRow 57 = .ok (.iconst 0, 1) := by decide +kernel
theorem dX6_comesRow_58 : decode cX6_comesRow 58 = .ok (.ireturn, 1) := by decide +kernel
theorem dX6_comesRow_59 : decode cX6_comesRow 59 = .ok (.iinc 2 1, 3) := by decide +kernel
theorem dX6_comesRow_62 : decode cX6_comesRow 62 = .ok (.goto (-45), 3) := by decide +kernel
theorem dX6_comesRow_65 : decode cX6_comesRow 65 = .ok (.iconst 0, 1) := by decide +kernel
theorem dX6_comesRow_66 : decode cX6_comesRow 66 = .ok (.istore_n 2, 1) := by decide +kernel
theorem dX6_comesRow_67 : decode cX6_comesRow 67 = .ok (.iload_n 2, 1) := by decide +kernel
theorem dX6_comesRow_68 : decode cX6_comesRow 68 = .ok (.aload_n 0, 1) := by decide +kernel
theorem dX6_comesRow_69 : decode cX6_comesRow 69 = .ok (.getfield 67, 3) := by decide +kernel
theorem dX6_comesRow_72 : decode cX6_comesRow 72 = .ok (.if_icmp .ge 34, 3) := by decide +kernel
theorem dX6_comesRow_75 : decode cX6_comesRow 75 = .ok (.aload_n 0, 1) := by decide +kernel
theorem dX6_comesRow_76 : decode cX6_comesRow 76 = .ok (.getfield 19, 3) := by decide +kernel
theorem dX6_comesRow_79 : decode cX6_comesRow 79 = .ok (.iload_n 1, 1) := by decide +kernel
theorem dX6_comesRow_80 : decode cX6_comesRow 80 = .ok (.bipush 104, 2) := by decide +kernel
theorem dX6_comesRow_82 : decode cX6_comesRow 82 = .ok (.if_icmp .ne 7, 3) := by decide +kernel
theorem dX6_comesRow_85 : decode cX6_comesRow 85 = .ok (.iconst 4, 1) := by decide +kernel
theorem dX6_comesRow_86 : decode cX6_comesRow 86 = .ok (.goto 5, 3) := by decide +kernel
theorem dX6_comesRow_89 : decode cX6_comesRow 89 = .ok (.bipush 16, 2) := by decide +kernel
theorem dX6_comesRow_91 : decode cX6_comesRow 91 = .ok (.iload_n 2, 1) := by decide +kernel
theorem dX6_comesRow_92 : decode cX6_comesRow 92 = .ok (.iadd, 1) := by decide +kernel
theorem dX6_comesRow_93 : decode cX6_comesRow 93 = .ok (.aload_n 0, 1) := by decide +kernel
theorem dX6_comesRow_94 : decode cX6_comesRow 94 = .ok (.getfield 25, 3) := by decide +kernel
theorem dX6_comesRow_97 : decode cX6_comesRow 97 = .ok (.iload_n 2, 1) := by decide +kernel
theorem dX6_comesRow_98 : decode cX6_comesRow 98 = .ok (.iaload, 1) := by decide +kernel
theorem dX6_comesRow_99 : decode cX6_comesRow 99 = .ok (.iastore, 1) := by decide +kernel
theorem dX6_comesRow_100 : decode cX6_comesRow 100 = .ok (.iinc 2 1, 3) := by decide +kernel
theorem dX6_comesRow_103 : decode cX6_comesRow 103 = .ok (.goto (-36), 3) := by decide +kernel
theorem dX6_comesRow_106 : decode cX6_comesRow 106 = .ok (.iconst 1, 1) := by decide +kernel
theorem dX6_comesRow_107 : decode cX6_comesRow 107 = .ok (.ireturn, 1) := by decide +kernel
theorem dX6_comes_0 : decode cX6_comes 0 = .ok (.aload_n 0, 1) := by decide +kernel
theorem dX6_comes_1 : decode cX6_comes 1 = .ok (.getfield 25, 3) := by decide +kernel
theorem dX6_comes_4 : decode cX6_comes 4 = .ok (.iconst 0, 1) := by decide +kernel
theorem dX6_comes_5 : decode cX6_comes 5 = .ok (.iaload, 1) := by decide +kernel
theorem dX6_comes_6 : decode cX6_comes 6 = .ok (.istore_n 2, 1) := by decide +kernel
theorem dX6_comes_7 : decode cX6_comes 7 = .ok (.iload_n 1, 1) := by decide +kernel
theorem dX6_comes_8 : decode cX6_comes 8 = .ok (.tableswitch 250 107 115 #[78, 250, 250, 52, 250, 103, 250, 250, 207], 52) := by decide +kernel
theorem dX6_comes_60 : decode cX6_comes 60 = .ok (.iload_n 2, 1) := by decide +kernel
theorem dX6_comes_61 : decode cX6_comes 61 = .ok (.iconst 1, 1) := by decide +kernel
theorem dX6_comes_62 : decode cX6_comes 62 = .ok (.if_icmp .lt 9, 3) := by decide +kernel
theorem dX6_comes_65 : decode cX6_comes 65 = .ok (.iload_n 2, 1) := by decide +kernel
theorem dX6_comes_66 : decode cX6_comes 66 = .ok (.bipush 12, 2) := by decide +kernel
theorem dX6_comes_68 : decode cX6_comes 68 = .ok (.if_icmp .le 5, 3) := by decide +kernel
theorem dX6_comes_71 : decode cX6_comes 71 = .ok (.iconst 0, 1) := by decide +kernel
theorem dX6_comes_72 : decode cX6_comes 72 = .ok (.ireturn, 1) := by decide +kernel
theorem dX6_comes_73 : decode cX6_comes 73 = .ok (.aload_n 0, 1) := by decide +kernel
theorem dX6_comes_74 : decode cX6_comes 74 = .ok (.getfield 19, 3) := by decide +kernel
theorem dX6_comes_77 : decode cX6_comes 77 = .ok (.iconst 0, 1) := by decide +kernel
theorem dX6_comes_78 : decode cX6_comes 78 = .ok (.iload_n 2, 1) := by decide +kernel
theorem dX6_comes_79 : decode cX6_comes 79 = .ok (.iastore, 1) := by decide +kernel
theorem dX6_comes_80 : decode cX6_comes 80 = .ok (.aload_n 0, 1) := by decide +kernel
theorem dX6_comes_81 : decode cX6_comes 81 = .ok (.invokevirtual 86, 3) := by decide +kernel
theorem dX6_comes_84 : decode cX6_comes 84 = .ok (.iconst 1, 1) := by decide +kernel
theorem dX6_comes_85 : decode cX6_comes 85 = .ok (.ireturn, 1) := by decide +kernel
theorem dX6_comes_86 : decode cX6_comes 86 = .ok (.iload_n 2, 1) := by decide +kernel
theorem dX6_comes_87 : decode cX6_comes 87 = .ok (.iconst 2, 1) := by decide +kernel
theorem dX6_comes_88 : decode cX6_comes 88 = .ok (.if_icmp .eq 10, 3) := by decide +kernel
theorem dX6_comes_91 : decode cX6_comes 91 = .ok (.iload_n 2, 1) := by decide +kernel
theorem dX6_comes_92 : decode cX6_comes 92 = .ok (.iconst 3, 1) := by decide +kernel
theorem dX6_comes_93 : decode cX6_comes 93 = .ok (.if_icmp .eq 5, 3) := by decide +kernel
theorem dX6_comes_96 : decode cX6_comes 96 = .ok (.iconst 0, 1) := by decide +kernel
theorem dX6_comes_97 : decode cX6_comes 97 = .ok (.ireturn, 1) := by decide +kernel
theorem dX6_comes_98 : decode cX6_comes 98 = .ok (.aload_n 0, 1) := by decide +kernel
theorem dX6_comes_99 : decode cX6_comes 99 = .ok (.getfield 19, 3) := by decide +kernel
theorem dX6_comes_102 : decode cX6_comes 102 = .ok (.iconst 1, 1) := by decide +kernel
theorem dX6_comes_103 : decode cX6_comes 103 = .ok (.iload_n 2, 1) := by decide +kernel
theorem dX6_comes_104 : decode cX6_comes 104 = .ok (.iastore, 1) := by decide +kernel
theorem dX6_comes_105 : decode cX6_comes 105 = .ok (.aload_n 0, 1) := by decide +kernel
theorem dX6_comes_106 : decode cX6_comes 106 = .ok (.invokevirtual 86, 3) := by decide +kernel
theorem dX6_comes_109 : decode cX6_comes 109 = .ok (.iconst 1, 1) := by decide +kernel
theorem dX6_comes_110 : decode cX6_comes 110 = .ok (.ireturn, 1) := by decide +kernel
theorem dX6_comes_111 : decode cX6_comes 111 = .ok (.aload_n 0, 1) := by decide +kernel
theorem dX6_comes_112 : decode cX6_comes 112 = .ok (.getfield 25, 3) := by decide +kernel
theorem dX6_comes_115 : decode cX6_comes 115 = .ok (.iconst 1, 1) := by decide +kernel
theorem dX6_comes_116 : decode cX6_comes 116 = .ok (.iaload, 1) := by decide +kernel
theorem dX6_comes_117 : decode cX6_comes 117 = .ok (.iconst 1, 1) := by decide +kernel
theorem dX6_comes_118 : decode cX6_comes 118 = .ok (.if_icmp .lt 46, 3) := by decide +kernel
theorem dX6_comes_121 : decode cX6_comes 121 = .ok (.aload_n 0, 1) := by decide +kernel
theorem dX6_comes_122 : decode cX6_comes 122 = .ok (.getfield 25, 3) := by decide +kernel
theorem dX6_comes_125 : decode cX6_comes 125 = .ok (.iconst 1, 1) := by decide +kernel
theorem dX6_comes_126 : decode cX6_comes 126 = .ok (.iaload, 1) := by decide +kernel
theorem dX6_comes_127 : decode cX6_comes 127 = .ok (.bipush 12, 2) := by decide +kernel
theorem dX6_comes_129 : decode cX6_comes 129 = .ok (.if_icmp .gt 35, 3) := by decide +kernel
theorem dX6_comes_132 : decode cX6_comes 132 = .ok (.aload_n 0, 1) := by decide +kernel
theorem dX6_comes_133 : decode cX6_comes 133 = .ok (.getfield 25, 3) := by decide +kernel
theorem dX6_comes_136 : decode cX6_comes 136 = .ok (.iconst 2, 1) := by decide +kernel
theorem dX6_comes_137 : decode cX6_comes 137 = .ok (.iaload, 1) := by decide +kernel
theorem dX6_comes_138 : decode cX6_comes 138 = .ok (.iconst 1, 1) := by decide +kernel
theorem dX6_comes_139 : decode cX6_comes 139 = .ok (.if_icmp .lt 25, 3) := by decide +kernel
theorem dX6_comes_142 : decode cX6_comes 142 = .ok (.aload_n 0, 1) := by decide +kernel
theorem dX6_comes_143 : decode cX6_comes 143 = .ok (.getfield 25, 3) := by decide +kernel
theorem dX6_comes_146 : decode cX6_comes 146 = .ok (.iconst 2, 1) := by decide +kernel
theorem dX6_comes_147 : decode cX6_comes 147 = .ok (.iaload, 1) := by decide +kernel
theorem dX6_comes_148 : decode cX6_comes 148 = .ok (.bipush 12, 2) := by decide +kernel
theorem dX6_comes_150 : decode cX6_comes 150 = .ok (.if_icmp .gt 14, 3) := by decide +kernel
theorem dX6_comes_153 : decode cX6_comes 153 = .ok (.aload_n 0, 1) := by decide +kernel
theorem dX6_comes_154 : decode cX6_comes 154 = .ok (.getfield 19, 3) := by decide +kernel
theorem dX6_comes_157 : decode cX6_comes 157 = .ok (.iconst 2, 1) := by decide +kernel
theorem dX6_comes_158 : decode cX6_comes 158 = .ok (.iaload, 1) := by decide +kernel
theorem dX6_comes_159 : decode cX6_comes 159 = .ok (.bipush 7, 2) := by decide +kernel
theorem dX6_comes_161 : decode cX6_comes 161 = .ok (.if_icmp .ne 5, 3) := by decide +kernel
theorem dX6_comes_164 : decode cX6_comes 164 = .ok (.iconst 0, 1) := by decide +kernel
theorem dX6_comes_165 : decode cX6_comes 165 = .ok (.ireturn, 1) := by decide +kernel
theorem dX6_comes_166 : decode cX6_comes 166 = .ok (.iconst 0, 1) := by decide +kernel
theorem dX6_comes_167 : decode cX6_comes 167 = .ok (.istore_n 3, 1) := by decide +kernel
theorem dX6_comes_168 : decode cX6_comes 168 = .ok (.iload_n 3, 1) := by decide +kernel
theorem dX6_comes_169 : decode cX6_comes 169 = .ok (.iconst 4, 1) := by decide +kernel
theorem dX6_comes_170 : decode cX6_comes 170 = .ok (.if_icmp .ge 33, 3) := by decide +kernel
theorem dX6_comes_173 : decode cX6_comes 173 = .ok (.aload_n 0, 1) := by decide +kernel
theorem dX6_comes_174 : decode cX6_comes 174 = .ok (.getfield 19, 3) := by decide +kernel
theorem dX6_comes_177 : decode cX6_comes 177 = .ok (.bipush 40, 2) := by decide +kernel
theorem dX6_comes_179 : decode cX6_comes 179 = .ok (.iconst 4, 1) := by decide +kernel
theorem dX6_comes_180 : decode cX6_comes 180 = .ok (.aload_n 0, 1) := by decide +kernel
theorem dX6_comes_181 : decode cX6_comes 181 = .ok (.getfield 19, 3) := by decide +kernel
theorem dX6_comes_184 : decode cX6_comes 184 = .ok (.iconst 2, 1) := by decide +kernel
theorem dX6_comes_185 : decode cX6_comes 185 = .ok (.iaload, 1) := by decide +kernel
theorem dX6_comes_186 : decode cX6_comes 186 = .ok (.imul, 1) := by decide +kernel
theorem dX6_comes_187 : decode cX6_comes 187 = .ok (.iadd, 1) := by decide +kernel
theorem dX6_comes_188 : decode cX6_comes 188 = .ok (.iload_n 3, 1) := by decide +kernel
theorem dX6_comes_189 : decode cX6_comes 189 = .ok (.iadd, 1) := by decide +kernel
theorem dX6_comes_190 : decode cX6_comes 190 = .ok (.aload_n 0, 1) := by decide +kernel
theorem dX6_comes_191 : decode cX6_comes 191 = .ok (.getfield 25, 3) := by decide +kernel
theorem dX6_comes_194 : decode cX6_comes 194 = .ok (.iload_n 3, 1) := by decide +kernel
theorem dX6_comes_195 : decode cX6_comes 195 = .ok (.iaload, 1) := by decide +kernel
theorem dX6_comes_196 : decode cX6_comes 196 = .ok (.iastore, 1) := by decide +kernel
theorem dX6_comes_197 : decode cX6_comes 197 = .ok (.iinc 3 1, 3) := by decide +kernel
theorem dX6_comes_200 : decode cX6_comes 200 = .ok (.goto (-32), 3) := by decide +kernel
theorem dX6_comes_203 : decode cX6_comes 203 = .ok (.aload_n 0, 1) := by decide +kernel
theorem dX6_comes_204 : decode cX6_comes 204 = .ok (.getfield 19, 3) := by decide +kernel
theorem dX6_comes_207 : decode cX6_comes 207 = .ok (.iconst 2, 1) := by decide +kernel
theorem dX6_comes_208 : decode cX6_comes 208 = .ok (.dup2, 1) := by decide +kernel
theorem dX6_comes_209 : decode cX6_comes 209 = .ok (.iaload, 1) := by decide +kernel
theorem dX6_comes_210 : decode cX6_comes 210 = .ok (.iconst 1, 1) := by decide +kernel
theorem dX6_comes_211 : decode cX6_comes 211 = .ok (.iadd, 1) := by decide +kernel
theorem dX6_comes_212 : decode cX6_comes 212 = .ok (.iastore, 1) := by decide +kernel
theorem dX6_comes_213 : decode cX6_comes 213 = .ok (.iconst 1, 1) := by decide +kernel
theorem dX6_comes_214 : decode cX6_comes 214 = .ok (.ireturn, 1) := by decide +kernel
theorem dX6_comes_215 : decode cX6_comes 215 = .ok (.iload_n 2, 1) := by decide +kernel
theorem dX6_comes_216 : decode cX6_comes 216 = .ok (.iconst 1, 1) := by decide +kernel
theorem dX6_comes_217 : decode cX6_comes 217 = .ok (.if_icmp .lt 13, 3) := by decide +kernel
theorem dX6_comes_220 : decode cX6_comes 220 = .ok (.iload_n 2, 1) := by decide +kernel
theorem dX6_comes_221 : decode cX6_comes 221 = .ok (.aload_n 0, 1) := by decide +kernel
theorem dX6_comes_222 : decode cX6_comes 222 = .ok (.getfield 19, 3) := by decide +kernel
theorem dX6_comes_225 : decode cX6_comes 225 = .ok (.iconst 0, 1) := by decide +kernel
theorem dX6_comes_226 : decode cX6_comes 226 = .ok (.iaload, 1) := by decide +kernel
theorem dX6_comes_227 : decode cX6_comes 227 = .ok (.if_icmp .le 5, 3) := by decide +kernel
theorem dX6_comes_230 : decode cX6_comes 230 = .ok (.iconst 0, 1) := by decide +kernel
theorem dX6_comes_231 : decode cX6_comes 231 = .ok (.ireturn, 1) := by decide +kernel
theorem dX6_comes_232 : decode cX6_comes 232 = .ok (.aload_n 0, 1) := by decide +kernel
theorem dX6_comes_233 : decode cX6_comes 233 = .ok (.getfield 19, 3) := by decide +kernel
theorem dX6_comes_236 : decode cX6_comes 236 = .ok (.bipush 28, 2) := by decide +kernel
theorem dX6_comes_238 : decode cX6_comes 238 = .ok (.iload_n 2, 1) := by decide +kernel
theorem dX6_comes_239 : decode cX6_comes 239 = .ok (.iadd, 1) := by decide +kernel
theorem dX6_comes_240 : decode cX6_comes 240 = .ok (.iconst 1, 1) := by decide +kernel
theorem dX6_comes_241 : decode cX6_comes 241 = .ok (.isub, 1) := by decide +kernel
theorem dX6_comes_242 : decode cX6_comes 242 = .ok (.iconst 1, 1) := by decide +kernel
theorem dX6_comes_243 : decode cX6_comes 243 = .ok (.aload_n 0, 1) := by decide +kernel
theorem dX6_comes_244 : decode cX6_comes 244 = .ok (.getfield 19, 3) := by decide +kernel
theorem dX6_comes_247 : decode cX6_comes 247 = .ok (.bipush 28, 2) := by decide +kernel
theorem dX6_comes_249 : decode cX6_comes 249 = .ok (.iload_n 2, 1) := by decide +kernel
theorem dX6_comes_250 : decode cX6_comes 250 = .ok (.iadd, 1) := by decide +kernel
theorem dX6_comes_251 : decode cX6_comes 251 = .ok (.iconst 1, 1) := by decide +kernel
theorem dX6_comes_252 : decode cX6_comes 252 = .ok (.isub, 1) := by decide +kernel
theorem dX6_comes_253 : decode cX6_comes 253 = .ok (.iaload, 1) := by decide +kernel
theorem dX6_comes_254 : decode cX6_comes 254 = .ok (.isub, 1) := by decide +kernel
theorem dX6_comes_255 : decode cX6_comes 255 = .ok (.iastore, 1) := by decide +kernel
theorem dX6_comes_256 : decode cX6_comes 256 = .ok (.iconst 1, 1) := by decide +kernel
theorem dX6_comes_257 : decode cX6_comes 257 = .ok (.ireturn, 1) := by decide +kernel
theorem dX6_comes_258 : decode cX6_comes 258 = .ok (.aload_n 0, 1) := by decide +kernel
theorem dX6_comes_259 : decode cX6_comes 259 = .ok (.iload_n 1, 1) := by decide +kernel
theorem dX6_comes_260 : decode cX6_comes 260 = .ok (.invokevirtual 89, 3) := by decide +kernel
theorem dX6_comes_263 : decode cX6_comes 263 = .ok (.ireturn, 1) := by decide +kernel
theorem dX6_reads_0 : decode cX6_reads 0 = .ok (.aload_n 0, 1) := by decide +kernel
theorem dX6_reads_1 : decode cX6_reads 1 = .ok (.iconst 0, 1) := by decide +kernel
theorem dX6_reads_2 : decode cX6_reads 2 = .ok (.putfield 56, 3) := by decide +kernel
theorem dX6_reads_5 : decode cX6_reads 5 = .ok (.iconst 0, 1) := by decide +kernel
theorem dX6_reads_6 : decode cX6_reads 6 = .ok (.istore_n 1, 1) := by decide +kernel
theorem dX6_reads_7 : decode cX6_reads 7 = .ok (.aload_n 0, 1) := by decide +kernel
theorem dX6_reads_8 : decode cX6_reads 8 = .ok (.invokevirtual 92, 3) := by decide +kernel
theorem dX6_reads_11 : decode cX6_reads 11 = .ok (.ifCond .ne 12, 3) := by decide +kernel
theorem dX6_reads_14 : decode cX6_reads 14 = .ok (.sipush (-1000), 3) := by decide +kernel
theorem dX6_reads_17 : decode cX6_reads 17 = .ok (.aload_n 0, 1) := by decide +kernel
theorem dX6_reads_18 : decode cX6_reads 18 = .ok (.getfield 56, 3) := by decide +kernel
theorem dX6_reads_21 : decode cX6_reads 21 = .ok (.isub, 1) := by decide +kernel
theorem dX6_reads_22 : decode cX6_reads 22 = .ok (.ireturn, 1) := by decide +kernel
theorem dX6_reads_23 : decode cX6_reads 23 = .ok (.iinc 1 1, 3) := by decide +kernel
theorem dX6_reads_26 : decode cX6_reads 26 = .ok (.aload_n 0, 1) := by decide +kernel
theorem dX6_reads_27 : decode cX6_reads 27 = .ok (.getfield 56, 3) := by decide +kernel
theorem dX6_reads_30 : decode cX6_reads 30 = .ok (.aload_n 0, 1) := by decide +kernel
theorem dX6_reads_31 : decode cX6_reads 31 = .ok (.getfield 48, 3) := by decide +kernel
theorem dX6_reads_34 : decode cX6_reads 34 = .ok (.if_icmp .lt (-27), 3) := by decide +kernel
theorem dX6_reads_37 : decode cX6_reads 37 = .ok (.aload_n 0, 1) := by decide +kernel
theorem dX6_reads_38 : decode cX6_reads 38 = .ok (.getfield 13, 3) := by decide +kernel
theorem dX6_reads_41 : decode cX6_reads 41 = .ok (.aload_n 0, 1) := by decide +kernel
theorem dX6_reads_42 : decode cX6_reads 42 = .ok (.getfield 19, 3) := by decide +kernel
theorem dX6_reads_45 : decode cX6_reads 45 = .ok (.invokestatic 95, 3) := by decide +kernel
theorem dX6_reads_48 : decode cX6_reads 48 = .ok (.aload_n 0, 1) := by decide +kernel
theorem dX6_reads_49 : decode cX6_reads 49 = .ok (.iconst 0, 1) := by decide +kernel
theorem dX6_reads_50 : decode cX6_reads 50 = .ok (.putfield 56, 3) := by decide +kernel
theorem dX6_reads_53 : decode cX6_reads 53 = .ok (.aload_n 0, 1) := by decide +kernel
theorem dX6_reads_54 : decode cX6_reads 54 = .ok (.getfield 56, 3) := by decide +kernel
theorem dX6_reads_57 : decode cX6_reads 57 = .ok (.aload_n 0, 1) := by decide +kernel
theorem dX6_reads_58 : decode cX6_reads 58 = .ok (.getfield 48, 3) := by decide +kernel
theorem dX6_reads_61 : decode cX6_reads 61 = .ok (.if_icmp .ge 36, 3) := by decide +kernel
theorem dX6_reads_64 : decode cX6_reads 64 = .ok (.aload_n 0, 1) := by decide +kernel
theorem dX6_reads_65 : decode cX6_reads 65 = .ok (.getfield 56, 3) := by decide +kernel
theorem dX6_reads_68 : decode cX6_reads 68 = .ok (.istore_n 2, 1) := by decide +kernel
theorem dX6_reads_69 : decode cX6_reads 69 = .ok (.aload_n 0, 1) := by decide +kernel
theorem dX6_reads_70 : decode cX6_reads 70 = .ok (.invokevirtual 59, 3) := by decide +kernel
theorem dX6_reads_73 : decode cX6_reads 73 = .ok (.istore_n 3, 1) := by decide +kernel
theorem dX6_reads_74 : decode cX6_reads 74 = .ok (.aload_n 0, 1) := by decide +kernel
theorem dX6_reads_75 : decode cX6_reads 75 = .ok (.invokevirtual 92, 3) := by decide +kernel
theorem dX6_reads_78 : decode cX6_reads 78 = .ok (.istore 4, 2) := by decide +kernel
theorem dX6_reads_80 : decode cX6_reads 80 = .ok (.aload_n 0, 1) := by decide +kernel
theorem dX6_reads_81 : decode cX6_reads 81 = .ok (.iload_n 3, 1) := by decide +kernel
theorem dX6_reads_82 : decode cX6_reads 82 = .ok (.invokevirtual 99, 3) := by decide +kernel
theorem dX6_reads_85 : decode cX6_reads 85 = .ok (.ifCond .ne 9, 3) := by decide +kernel
theorem dX6_reads_88 : decode cX6_reads 88 = .ok (.sipush (-2000), 3) := by decide +kernel
theorem dX6_reads_91 : decode cX6_reads 91 = .ok (.iload_n 2, 1) := by decide +kernel
theorem dX6_reads_92 : decode cX6_reads 92 = .ok (.isub, 1) := by decide +kernel
theorem dX6_reads_93 : decode cX6_reads 93 = .ok (.ireturn, 1) := by decide +kernel
theorem dX6_reads_94 : decode cX6_reads 94 = .ok (.goto (-41), 3) := by decide +kernel
theorem dX6_reads_97 : decode cX6_reads 97 = .ok (.aload_n 0, 1) := by decide +kernel
theorem dX6_reads_98 : decode cX6_reads 98 = .ok (.getfield 19, 3) := by decide +kernel
theorem dX6_reads_101 : decode cX6_reads 101 = .ok (.aload_n 0, 1) := by decide +kernel
theorem dX6_reads_102 : decode cX6_reads 102 = .ok (.getfield 13, 3) := by decide +kernel
theorem dX6_reads_105 : decode cX6_reads 105 = .ok (.invokestatic 95, 3) := by decide +kernel
theorem dX6_reads_108 : decode cX6_reads 108 = .ok (.iload_n 1, 1) := by decide +kernel
theorem dX6_reads_109 : decode cX6_reads 109 = .ok (.ireturn, 1) := by decide +kernel
theorem dX6_house_0 : decode cX6_house 0 = .ok (.aload_n 0, 1) := by decide +kernel
theorem dX6_house_1 : decode cX6_house 1 = .ok (.invokevirtual 102, 3) := by decide +kernel
theorem dX6_house_4 : decode cX6_house 4 = .ok (.istore_n 1, 1) := by decide +kernel
theorem dX6_house_5 : decode cX6_house 5 = .ok (.aload_n 0, 1) := by decide +kernel
theorem dX6_house_6 : decode cX6_house 6 = .ok (.iconst 0, 1) := by decide +kernel
theorem dX6_house_7 : decode cX6_house 7 = .ok (.putfield 48, 3) := by decide +kernel
theorem dX6_house_10 : decode cX6_house 10 = .ok (.iload_n 1, 1) := by decide +kernel
theorem dX6_house_11 : decode cX6_house 11 = .ok (.ireturn, 1) := by decide +kernel
theorem dX6_goesInto_0 : decode cX6_goesInto 0 = .ok (.iload_n 1, 1) := by decide +kernel
theorem dX6_goesInto_1 : decode cX6_goesInto 1 = .ok (.iload_n 0, 1) := by decide +kernel
theorem dX6_goesInto_2 : decode cX6_goesInto 2 = .ok (.irem, 1) := by decide +kernel
theorem dX6_goesInto_3 : decode cX6_goesInto 3 = .ok (.ifCond .ne 7, 3) := by decide +kernel
theorem dX6_goesInto_6 : decode cX6_goesInto 6 = .ok (.iconst 1, 1) := by decide +kernel
theorem dX6_goesInto_7 : decode cX6_goesInto 7 = .ok (.goto 4, 3) := by decide +kernel
theorem dX6_goesInto_10 : decode cX6_goesInto 10 = .ok (.iconst 0, 1) := by decide +kernel
theorem dX6_goesInto_11 : decode cX6_goesInto 11 = .ok (.ireturn, 1) := by decide +kernel
theorem dX6_turns_0 : decode cX6_turns 0 = .ok (.aload_n 0, 1) := by decide +kernel
theorem dX6_turns_1 : decode cX6_turns 1 = .ok (.getfield 13, 3) := by decide +kernel
theorem dX6_turns_4 : decode cX6_turns 4 = .ok (.bipush 28, 2) := by decide +kernel
theorem dX6_turns_6 : decode cX6_turns 6 = .ok (.iload_n 2, 1) := by decide +kernel
theorem dX6_turns_7 : decode cX6_turns 7 = .ok (.iadd, 1) := by decide +kernel
theorem dX6_turns_8 : decode cX6_turns 8 = .ok (.iconst 1, 1) := by decide +kernel
theorem dX6_turns_9 : decode cX6_turns 9 = .ok (.isub, 1) := by decide +kernel
theorem dX6_turns_10 : decode cX6_turns 10 = .ok (.iaload, 1) := by decide +kernel
theorem dX6_turns_11 : decode cX6_turns 11 = .ok (.iconst 1, 1) := by decide +kernel
theorem dX6_turns_12 : decode cX6_turns 12 = .ok (.if_icmp .ne 5, 3) := by decide +kernel
theorem dX6_turns_15 : decode cX6_turns 15 = .ok (.iconst 0, 1) := by decide +kernel
theorem dX6_turns_16 : decode cX6_turns 16 = .ok (.ireturn, 1) := by decide +kernel
theorem dX6_turns_17 : decode cX6_turns 17 = .ok (.aload_n 0, 1) := by decide +kernel
theorem dX6_turns_18 : decode cX6_turns 18 = .ok (.iload_n 1, 1) := by decide +kernel
theorem dX6_turns_19 : decode cX6_turns 19 = .ok (.iconst 1, 1) := by decide +kernel
theorem dX6_turns_20 : decode cX6_turns 20 = .ok (.invokevirtual 105, 3) := by decide +kernel
theorem dX6_turns_23 : decode cX6_turns 23 = .ok (.istore_n 3, 1) := by decide +kernel
theorem dX6_turns_24 : decode cX6_turns 24 = .ok (.aload_n 0, 1) := by decide +kernel
theorem dX6_turns_25 : decode cX6_turns 25 = .ok (.iload_n 1, 1) := by decide +kernel
theorem dX6_turns_26 : decode cX6_turns 26 = .ok (.iconst 2, 1) := by decide +kernel
theorem dX6_turns_27 : decode cX6_turns 27 = .ok (.invokevirtual 105, 3) := by decide +kernel
theorem dX6_turns_30 : decode cX6_turns 30 = .ok (.istore 4, 2) := by decide +kernel
theorem dX6_turns_32 : decode cX6_turns 32 = .ok (.aload_n 0, 1) := by decide +kernel
theorem dX6_turns_33 : decode cX6_turns 33 = .ok (.iload_n 1, 1) := by decide +kernel
theorem dX6_turns_34 : decode cX6_turns 34 = .ok (.iconst 0, 1) := by decide +kernel
theorem dX6_turns_35 : decode cX6_turns 35 = .ok (.invokevirtual 105, 3) := by decide +kernel
theorem dX6_turns_38 : decode cX6_turns 38 = .ok (.tableswitch 123 1 5 #[34, 40, 63, 86, 106], 34) := by decide +kernel
theorem dX6_turns_72 : decode cX6_turns 72 = .ok (.iload_n 2, 1) := by decide +kernel
theorem dX6_turns_73 : decode cX6_turns 73 = .ok (.iload_n 3, 1) := by decide +kernel
theorem dX6_turns_74 : decode cX6_turns 74 = .ok (.invokestatic 109, 3) := by decide +kernel
theorem dX6_turns_77 : decode cX6_turns 77 = .ok (.ireturn, 1) := by decide +kernel
theorem dX6_turns_78 : decode cX6_turns 78 = .ok (.iload_n 3, 1) := by decide +kernel
theorem dX6_turns_79 : decode cX6_turns 79 = .ok (.iload_n 2, 1) := by decide +kernel
theorem dX6_turns_80 : decode cX6_turns 80 = .ok (.invokestatic 109, 3) := by decide +kernel
theorem dX6_turns_83 : decode cX6_turns 83 = .ok (.ifCond .eq 16, 3) := by decide +kernel
theorem dX6_turns_86 : decode cX6_turns 86 = .ok (.iload 4, 2) := by decide +kernel
theorem dX6_turns_88 : decode cX6_turns 88 = .ok (.iload_n 2, 1) := by decide +kernel
theorem dX6_turns_89 : decode cX6_turns 89 = .ok (.invokestatic 109, 3) := by decide +kernel
theorem dX6_turns_92 : decode cX6_turns 92 = .ok (.ifCond .eq 7, 3) := by decide +kernel
theorem dX6_turns_95 : decode cX6_turns 95 = .ok (.iconst 1, 1) := by decide +kernel
theorem dX6_turns_96 : decode cX6_turns 96 = .ok (.goto 4, 3) := by decide +kernel
theorem dX6_turns_99 : decode cX6_turns 99 = .ok (.iconst 0, 1) := by decide +kernel
theorem dX6_turns_100 : decode cX6_turns 100 = .ok (.ireturn, 1) := by decide +kernel
theorem dX6_turns_101 : decode cX6_turns 101 = .ok (.iload_n 3, 1) := by decide +kernel
theorem dX6_turns_102 : decode cX6_turns 102 = .ok (.iload_n 2, 1) := by decide +kernel
theorem dX6_turns_103 : decode cX6_turns 103 = .ok (.invokestatic 109, 3) := by decide +kernel
theorem dX6_turns_106 : decode cX6_turns 106 = .ok (.ifCond .ne 12, 3) := by decide +kernel
theorem dX6_turns_109 : decode cX6_turns 109 = .ok (.iload 4, 2) := by decide +kernel
theorem dX6_turns_111 : decode cX6_turns 111 = .ok (.iload_n 2, 1) := by decide +kernel
theorem dX6_turns_112 : decode cX6_turns 112 = .ok (.invokestatic 109, 3) := by decide +kernel
theorem dX6_turns_115 : decode cX6_turns 115 = .ok (.ifCond .eq 7, 3) := by decide +kernel
theorem dX6_turns_118 : decode cX6_turns 118 = .ok (.iconst 1, 1) := by decide +kernel
theorem dX6_turns_119 : decode cX6_turns 119 = .ok (.goto 4, 3) := by decide +kernel
theorem dX6_turns_122 : decode cX6_turns 122 = .ok (.iconst 0, 1) := by decide +kernel
theorem dX6_turns_123 : decode cX6_turns 123 = .ok (.ireturn, 1) := by decide +kernel
theorem dX6_turns_124 : decode cX6_turns 124 = .ok (.iload_n 3, 1) := by decide +kernel
theorem dX6_turns_125 : decode cX6_turns 125 = .ok (.iload_n 2, 1) := by decide +kernel
theorem dX6_turns_126 : decode cX6_turns 126 = .ok (.invokestatic 109, 3) := by decide +kernel
theorem dX6_turns_129 : decode cX6_turns 129 = .ok (.iload 4, 2) := by decide +kernel
theorem dX6_turns_131 : decode cX6_turns 131 = .ok (.iload_n 2, 1) := by decide +kernel
theorem dX6_turns_132 : decode cX6_turns 132 = .ok (.invokestatic 109, 3) := by decide +kernel
theorem dX6_turns_135 : decode cX6_turns 135 = .ok (.if_icmp .eq 7, 3) := by decide +kernel
theorem dX6_turns_138 : decode cX6_turns 138 = .ok (.iconst 1, 1) := by decide +kernel
theorem dX6_turns_139 : decode cX6_turns 139 = .ok (.goto 4, 3) := by decide +kernel
theorem dX6_turns_142 : decode cX6_turns 142 = .ok (.iconst 0, 1) := by decide +kernel
theorem dX6_turns_143 : decode cX6_turns 143 = .ok (.ireturn, 1) := by decide +kernel
theorem dX6_turns_144 : decode cX6_turns 144 = .ok (.iload_n 2, 1) := by decide +kernel
theorem dX6_turns_145 : decode cX6_turns 145 = .ok (.iload_n 3, 1) := by decide +kernel
theorem dX6_turns_146 : decode cX6_turns 146 = .ok (.if_icmp .lt 13, 3) := by decide +kernel
theorem dX6_turns_149 : decode cX6_turns 149 = .ok (.iload_n 2, 1) := by decide +kernel
theorem dX6_turns_150 : decode cX6_turns 150 = .ok (.iload 4, 2) := by decide +kernel
theorem dX6_turns_152 : decode cX6_turns 152 = .ok (.if_icmp .gt 7, 3) := by decide +kernel
theorem dX6_turns_155 : decode cX6_turns 155 = .ok (.iconst 1, 1) := by decide +kernel
theorem dX6_turns_156 : decode cX6_turns 156 = .ok (.goto 4, 3) := by decide +kernel
theorem dX6_turns_159 : decode cX6_turns 159 = .ok (.iconst 0, 1) := by decide +kernel
theorem dX6_turns_160 : decode cX6_turns 160 = .ok (.ireturn, 1) := by decide +kernel
theorem dX6_turns_161 : decode cX6_turns 161 = .ok (.iload_n 3, 1) := by decide +kernel
theorem dX6_turns_162 : decode cX6_turns 162 = .ok (.iload_n 2, 1) := by decide +kernel
theorem dX6_turns_163 : decode cX6_turns 163 = .ok (.invokestatic 109, 3) := by decide +kernel
theorem dX6_turns_166 : decode cX6_turns 166 = .ok (.ireturn, 1) := by decide +kernel
theorem dX6_turned_0 : decode cX6_turned 0 = .ok (.iconst 0, 1) := by decide +kernel
theorem dX6_turned_1 : decode cX6_turned 1 = .ok (.istore_n 2, 1) := by decide +kernel
theorem dX6_turned_2 : decode cX6_turned 2 = .ok (.iconst 1, 1) := by decide +kernel
theorem dX6_turned_3 : decode cX6_turned 3 = .ok (.istore_n 3, 1) := by decide +kernel
theorem dX6_turned_4 : decode cX6_turned 4 = .ok (.iload_n 3, 1) := by decide +kernel
theorem dX6_turned_5 : decode cX6_turned 5 = .ok (.aload_n 0, 1) := by decide +kernel
theorem dX6_turned_6 : decode cX6_turned 6 = .ok (.getfield 13, 3) := by decide +kernel
theorem dX6_turned_9 : decode cX6_turned 9 = .ok (.iconst 0, 1) := by decide +kernel
theorem dX6_turned_10 : decode cX6_turned 10 = .ok (.iaload, 1) := by decide +kernel
theorem dX6_turned_11 : decode cX6_turned 11 = .ok (.if_icmp .gt 30, 3) := by decide +kernel
theorem dX6_turned_14 : decode cX6_turned 14 = .ok (.iload_n 2, 1) := by decide +kernel
theorem dX6_turned_15 : decode cX6_turned 15 = .ok (.aload_n 0, 1) := by decide +kernel
theorem dX6_turned_16 : decode cX6_turned 16 = .ok (.iload_n 1, 1) := by decide +kernel
theorem dX6_turned_17 : decode cX6_turned 17 = .ok (.iload_n 3, 1) := by decide +kernel
theorem dX6_turned_18 : decode cX6_turned 18 = .ok (.invokevirtual 112, 3) := by decide +kernel
theorem dX6_turned_21 : decode cX6_turned 21 = .ok (.ifCond .eq 11, 3) := by decide +kernel
theorem dX6_turned_24 : decode cX6_turned 24 = .ok (.iconst 1, 1) := by decide +kernel
theorem dX6_turned_25 : decode cX6_turned 25 = .ok (.iload_n 3, 1) := by decide +kernel
theorem dX6_turned_26 : decode cX6_turned 26 = .ok (.iconst 1, 1) := by decide +kernel
theorem dX6_turned_27 : decode cX6_turned 27 = .ok (.isub, 1) := by decide +kernel
theorem dX6_turned_28 : decode cX6_turned 28 = .ok (.ishl, 1) := by decide +kernel
theorem dX6_turned_29 : decode cX6_turned 29 = .ok (.goto 4, 3) := by decide +kernel
theorem dX6_turned_32 : decode cX6_turned 32 = .ok (.iconst 0, 1) := by decide +kernel
theorem dX6_turned_33 : decode cX6_turned 33 = .ok (.ior, 1) := by decide +kernel
theorem dX6_turned_34 : decode cX6_turned 34 = .ok (.istore_n 2, 1) := by decide +kernel
theorem dX6_turned_35 : decode cX6_turned 35 = .ok (.iinc 3 1, 3) := by decide +kernel
theorem dX6_turned_38 : decode cX6_turned 38 = .ok (.goto (-34), 3) := by decide +kernel
theorem dX6_turned_41 : decode cX6_turned 41 = .ok (.iload_n 2, 1) := by decide +kernel
theorem dX6_turned_42 : decode cX6_turned 42 = .ok (.ireturn, 1) := by decide +kernel
theorem dX6_door_0 : decode cX6_door 0 = .ok (.aload_n 0, 1) := by decide +kernel
theorem dX6_door_1 : decode cX6_door 1 = .ok (.iload_n 1, 1) := by decide +kernel
theorem dX6_door_2 : decode cX6_door 2 = .ok (.invokevirtual 115, 3) := by decide +kernel
theorem dX6_door_5 : decode cX6_door 5 = .ok (.ifCond .ne 11, 3) := by decide +kernel
theorem dX6_door_8 : decode cX6_door 8 = .ok (.aload_n 0, 1) := by decide +kernel
theorem dX6_door_9 : decode cX6_door 9 = .ok (.iconst (-1), 1) := by decide +kernel
theorem dX6_door_10 : decode cX6_door 10 = .ok (.invokevirtual 52, 3) := by decide +kernel
theorem dX6_door_13 : decode cX6_door 13 = .ok (.goto 35, 3) := by decide +kernel
theorem dX6_door_16 : decode cX6_door 16 = .ok (.iload_n 2, 1) := by decide +kernel
theorem dX6_door_17 : decode cX6_door 17 = .ok (.iconst 3, 1) := by decide +kernel
theorem dX6_door_18 : decode cX6_door 18 = .ok (.invokestatic 40, 3) := by decide +kernel
theorem dX6_door_21 : decode cX6_door 21 = .ok (.ifCond .eq 21, 3) := by decide +kernel
theorem dX6_door_24 : decode cX6_door 24 = .ok (.aload_n 0, 1) := by decide +kernel
theorem dX6_door_25 : decode cX6_door 25 = .ok (.getfield 13, 3) := by decide +kernel
theorem dX6_door_28 : decode cX6_door 28 = .ok (.iconst 4, 1) := by decide +kernel
theorem dX6_door_29 : decode cX6_door 29 = .ok (.bipush 12, 2) := by decide +kernel
theorem dX6_door_31 : decode cX6_door 31 = .ok (.iload_n 2, 1) := by decide +kernel
theorem dX6_door_32 : decode cX6_door 32 = .ok (.imul, 1) := by decide +kernel
theorem dX6_door_33 : decode cX6_door 33 = .ok (.iadd, 1) := by decide +kernel
theorem dX6_door_34 : decode cX6_door 34 = .ok (.iload_n 1, 1) := by decide +kernel
theorem dX6_door_35 : decode cX6_door 35 = .ok (.iadd, 1) := by decide +kernel
theorem dX6_door_36 : decode cX6_door 36 = .ok (.iconst 1, 1) := by decide +kernel
theorem dX6_door_37 : decode cX6_door 37 = .ok (.isub, 1) := by decide +kernel
theorem dX6_door_38 : decode cX6_door 38 = .ok (.iaload, 1) := by decide +kernel
theorem dX6_door_39 : decode cX6_door 39 = .ok (.goto 9, 3) := by decide +kernel
theorem dX6_door_42 : decode cX6_door 42 = .ok (.aload_n 0, 1) := by decide +kernel
theorem dX6_door_43 : decode cX6_door 43 = .ok (.bipush (-2), 2) := by decide +kernel
theorem dX6_door_45 : decode cX6_door 45 = .ok (.invokevirtual 52, 3) := by decide +kernel
theorem dX6_door_48 : decode cX6_door 48 = .ok (.ireturn, 1) := by decide +kernel
theorem dX6_person_0 : decode cX6_person 0 = .ok (.aload_n 0, 1) := by decide +kernel
theorem dX6_person_1 : decode cX6_person 1 = .ok (.iload_n 1, 1) := by decide +kernel
theorem dX6_person_2 : decode cX6_person 2 = .ok (.invokevirtual 118, 3) := by decide +kernel
theorem dX6_person_5 : decode cX6_person 5 = .ok (.ifCond .ne 11, 3) := by decide +kernel
theorem dX6_person_8 : decode cX6_person 8 = .ok (.aload_n 0, 1) := by decide +kernel
theorem dX6_person_9 : decode cX6_person 9 = .ok (.iconst (-1), 1) := by decide +kernel
theorem dX6_person_10 : decode cX6_person 10 = .ok (.invokevirtual 52, 3) := by decide +kernel
theorem dX6_person_13 : decode cX6_person 13 = .ok (.goto 39, 3) := by decide +kernel
theorem dX6_person_16 : decode cX6_person 16 = .ok (.iload_n 2, 1) := by decide +kernel
theorem dX6_person_17 : decode cX6_person 17 = .ok (.iconst 4, 1) := by decide +kernel
theorem dX6_person_18 : decode cX6_person 18 = .ok (.invokestatic 40, 3) := by decide +kernel
theorem dX6_person_21 : decode cX6_person 21 = .ok (.ifCond .eq 12, 3) := by decide +kernel
theorem dX6_person_24 : decode cX6_person 24 = .ok (.aload_n 0, 1) := by decide +kernel
theorem dX6_person_25 : decode cX6_person 25 = .ok (.iload_n 1, 1) := by decide +kernel
theorem dX6_person_26 : decode cX6_person 26 = .ok (.iload_n 2, 1) := by decide +kernel
theorem dX6_person_27 : decode cX6_person 27 = .ok (.invokevirtual 105, 3) := by decide +kernel
theorem dX6_person_30 : decode cX6_person 30 = .ok (.goto 22, 3) := by decide +kernel
theorem dX6_person_33 : decode cX6_person 33 = .ok (.iload_n 2, 1) := by decide +kernel
theorem dX6_person_34 : decode cX6_person 34 = .ok (.iconst 4, 1) := by decide +kernel
theorem dX6_person_35 : decode cX6_person 35 = .ok (.if_icmp .ne 11, 3) := by decide +kernel
theorem dX6_person_38 : decode cX6_person 38 = .ok (.aload_n 0, 1) := by decide +kernel
theorem dX6_person_39 : decode cX6_person 39 = .ok (.iload_n 1, 1) := by decide +kernel
theorem dX6_person_40 : decode cX6_person 40 = .ok (.invokevirtual 121, 3) := by decide +kernel
theorem dX6_person_43 : decode cX6_person 43 = .ok (.goto 9, 3) := by decide +kernel
theorem dX6_person_46 : decode cX6_person 46 = .ok (.aload_n 0, 1) := by decide +kernel
theorem dX6_person_47 : decode cX6_person 47 = .ok (.bipush (-2), 2) := by decide +kernel
theorem dX6_person_49 : decode cX6_person 49 = .ok (.invokevirtual 52, 3) := by decide +kernel
theorem dX6_person_52 : decode cX6_person 52 = .ok (.ireturn, 1) := by decide +kernel
theorem dX6_turnsDoor_0 : decode cX6_turnsDoor 0 = .ok (.aload_n 0, 1) := by decide +kernel
theorem dX6_turnsDoor_1 : decode cX6_turnsDoor 1 = .ok (.getfield 13, 3) := by decide +kernel
theorem dX6_turnsDoor_4 : decode cX6_turnsDoor 4 = .ok (.iconst 4, 1) := by decide +kernel
theorem dX6_turnsDoor_5 : decode cX6_turnsDoor 5 = .ok (.iload_n 1, 1) := by decide +kernel
theorem dX6_turnsDoor_6 : decode cX6_turnsDoor 6 = .ok (.iadd, 1) := by decide +kernel
theorem dX6_turnsDoor_7 : decode cX6_turnsDoor 7 = .ok (.iconst 1, 1) := by decide +kernel
theorem dX6_turnsDoor_8 : decode cX6_turnsDoor 8 = .ok (.isub, 1) := by decide +kernel
theorem dX6_turnsDoor_9 : decode cX6_turnsDoor 9 = .ok (.aload_n 0, 1) := by decide +kernel
theorem dX6_turnsDoor_10 : decode cX6_turnsDoor 10 = .ok (.getfield 13, 3) := by decide +kernel
theorem dX6_turnsDoor_13 : decode cX6_turnsDoor 13 = .ok (.iconst 4, 1) := by decide +kernel
theorem dX6_turnsDoor_14 : decode cX6_turnsDoor 14 = .ok (.iload_n 1, 1) := by decide +kernel
theorem dX6_turnsDoor_15 : decode cX6_turnsDoor 15 = .ok (.iadd, 1) := by decide +kernel
theorem dX6_turnsDoor_16 : decode cX6_turnsDoor 16 = .ok (.iconst 1, 1) := by decide +kernel
theorem dX6_turnsDoor_17 : decode cX6_turnsDoor 17 = .ok (.isub, 1) := by decide +kernel
theorem dX6_turnsDoor_18 : decode cX6_turnsDoor 18 = .ok (.iaload, 1) := by decide +kernel
theorem dX6_turnsDoor_19 : decode cX6_turnsDoor 19 = .ok (.iconst 1, 1) := by decide +kernel
theorem dX6_turnsDoor_20 : decode cX6_turnsDoor 20 = .ok (.iadd, 1) := by decide +kernel
theorem dX6_turnsDoor_21 : decode cX6_turnsDoor 21 = .ok (.aload_n 0, 1) := by decide +kernel
theorem dX6_turnsDoor_22 : decode cX6_turnsDoor 22 = .ok (.getfield 13, 3) := by decide +kernel
theorem dX6_turnsDoor_25 : decode cX6_turnsDoor 25 = .ok (.iconst 1, 1) := by decide +kernel
theorem dX6_turnsDoor_26 : decode cX6_turnsDoor 26 = .ok (.iaload, 1) := by decide +kernel
theorem dX6_turnsDoor_27 : decode cX6_turnsDoor 27 = .ok (.irem, 1) := by decide +kernel
theorem dX6_turnsDoor_28 : decode cX6_turnsDoor 28 = .ok (.iastore, 1) := by decide +kernel
theorem dX6_turnsDoor_29 : decode cX6_turnsDoor 29 = .ok (.return_, 1) := by decide +kernel
theorem dX6_goes_0 : decode cX6_goes 0 = .ok (.iconst 0, 1) := by decide +kernel
theorem dX6_goes_1 : decode cX6_goes 1 = .ok (.istore_n 2, 1) := by decide +kernel
theorem dX6_goes_2 : decode cX6_goes 2 = .ok (.iconst 1, 1) := by decide +kernel
theorem dX6_goes_3 : decode cX6_goes 3 = .ok (.istore_n 3, 1) := by decide +kernel
theorem dX6_goes_4 : decode cX6_goes 4 = .ok (.iload_n 3, 1) := by decide +kernel
theorem dX6_goes_5 : decode cX6_goes 5 = .ok (.aload_n 0, 1) := by decide +kernel
theorem dX6_goes_6 : decode cX6_goes 6 = .ok (.getfield 13, 3) := by decide +kernel
theorem dX6_goes_9 : decode cX6_goes 9 = .ok (.iconst 0, 1) := by decide +kernel
theorem dX6_goes_10 : decode cX6_goes 10 = .ok (.iaload, 1) := by decide +kernel
theorem dX6_goes_11 : decode cX6_goes 11 = .ok (.if_icmp .gt 29, 3) := by decide +kernel
theorem dX6_goes_14 : decode cX6_goes 14 = .ok (.aload_n 0, 1) := by decide +kernel
theorem dX6_goes_15 : decode cX6_goes 15 = .ok (.iload_n 1, 1) := by decide +kernel
theorem dX6_goes_16 : decode cX6_goes 16 = .ok (.iload_n 3, 1) := by decide +kernel
theorem dX6_goes_17 : decode cX6_goes 17 = .ok (.invokevirtual 112, 3) := by decide +kernel
theorem dX6_goes_20 : decode cX6_goes 20 = .ok (.ifCond .ne 6, 3) := by decide +kernel
theorem dX6_goes_23 : decode cX6_goes 23 = .ok (.goto 11, 3) := by decide +kernel
theorem dX6_goes_26 : decode cX6_goes 26 = .ok (.aload_n 0, 1) := by decide +kernel
theorem dX6_goes_27 : decode cX6_goes 27 = .ok (.iload_n 3, 1) := by decide +kernel
theorem dX6_goes_28 : decode cX6_goes 28 = .ok (.invokevirtual 124, 3) := by decide +kernel
theorem dX6_goes_31 : decode cX6_goes 31 = .ok (.iinc 2 1, 3) := by decide +kernel
theorem dX6_goes_34 : decode cX6_goes 34 = .ok (.iinc 3 1, 3) := by decide +kernel
theorem dX6_goes_37 : decode cX6_goes 37 = .ok (.goto (-33), 3) := by decide +kernel
theorem dX6_goes_40 : decode cX6_goes 40 = .ok (.iload_n 2, 1) := by decide +kernel
theorem dX6_goes_41 : decode cX6_goes 41 = .ok (.ireturn, 1) := by decide +kernel
theorem dX6_go_0 : decode cX6_go 0 = .ok (.aload_n 0, 1) := by decide +kernel
theorem dX6_go_1 : decode cX6_go 1 = .ok (.iload_n 1, 1) := by decide +kernel
theorem dX6_go_2 : decode cX6_go 2 = .ok (.invokevirtual 118, 3) := by decide +kernel
theorem dX6_go_5 : decode cX6_go 5 = .ok (.ifCond .ne 9, 3) := by decide +kernel
theorem dX6_go_8 : decode cX6_go 8 = .ok (.aload_n 0, 1) := by decide +kernel
theorem dX6_go_9 : decode cX6_go 9 = .ok (.iconst (-1), 1) := by decide +kernel
theorem dX6_go_10 : decode cX6_go 10 = .ok (.invokevirtual 52, 3) := by decide +kernel
theorem dX6_go_13 : decode cX6_go 13 = .ok (.ireturn, 1) := by decide +kernel
theorem dX6_go_14 : decode cX6_go 14 = .ok (.aload_n 0, 1) := by decide +kernel
theorem dX6_go_15 : decode cX6_go 15 = .ok (.getfield 13, 3) := by decide +kernel
theorem dX6_go_18 : decode cX6_go 18 = .ok (.bipush 78, 2) := by decide +kernel
theorem dX6_go_20 : decode cX6_go 20 = .ok (.dup2, 1) := by decide +kernel
theorem dX6_go_21 : decode cX6_go 21 = .ok (.iaload, 1) := by decide +kernel
theorem dX6_go_22 : decode cX6_go 22 = .ok (.iconst 1, 1) := by decide +kernel
theorem dX6_go_23 : decode cX6_go 23 = .ok (.iadd, 1) := by decide +kernel
theorem dX6_go_24 : decode cX6_go 24 = .ok (.iastore, 1) := by decide +kernel
theorem dX6_go_25 : decode cX6_go 25 = .ok (.aload_n 0, 1) := by decide +kernel
theorem dX6_go_26 : decode cX6_go 26 = .ok (.iload_n 1, 1) := by decide +kernel
theorem dX6_go_27 : decode cX6_go 27 = .ok (.invokevirtual 128, 3) := by decide +kernel
theorem dX6_go_30 : decode cX6_go 30 = .ok (.ireturn, 1) := by decide +kernel
theorem dX6_turn_0 : decode cX6_turn 0 = .ok (.aload_n 0, 1) := by decide +kernel
theorem dX6_turn_1 : decode cX6_turn 1 = .ok (.iload_n 1, 1) := by decide +kernel
theorem dX6_turn_2 : decode cX6_turn 2 = .ok (.invokevirtual 115, 3) := by decide +kernel
theorem dX6_turn_5 : decode cX6_turn 5 = .ok (.ifCond .ne 7, 3) := by decide +kernel
theorem dX6_turn_8 : decode cX6_turn 8 = .ok (.iconst (-1), 1) := by decide +kernel
theorem dX6_turn_9 : decode cX6_turn 9 = .ok (.goto 24, 3) := by decide +kernel
theorem dX6_turn_12 : decode cX6_turn 12 = .ok (.aload_n 0, 1) := by decide +kernel
theorem dX6_turn_13 : decode cX6_turn 13 = .ok (.getfield 13, 3) := by decide +kernel
theorem dX6_turn_16 : decode cX6_turn 16 = .ok (.bipush 28, 2) := by decide +kernel
theorem dX6_turn_18 : decode cX6_turn 18 = .ok (.iload_n 1, 1) := by decide +kernel
theorem dX6_turn_19 : decode cX6_turn 19 = .ok (.iadd, 1) := by decide +kernel
theorem dX6_turn_20 : decode cX6_turn 20 = .ok (.iconst 1, 1) := by decide +kernel
theorem dX6_turn_21 : decode cX6_turn 21 = .ok (.isub, 1) := by decide +kernel
theorem dX6_turn_22 : decode cX6_turn 22 = .ok (.iaload, 1) := by decide +kernel
theorem dX6_turn_23 : decode cX6_turn 23 = .ok (.iconst 1, 1) := by decide +kernel
theorem dX6_turn_24 : decode cX6_turn 24 = .ok (.if_icmp .ne 8, 3) := by decide +kernel
theorem dX6_turn_27 : decode cX6_turn 27 = .ok (.bipush (-3), 2) := by decide +kernel
theorem dX6_turn_29 : decode cX6_turn 29 = .ok (.goto 4, 3) := by decide +kernel
theorem dX6_turn_32 : decode cX6_turn 32 = .ok (.iconst 0, 1) := by decide +kernel
theorem dX6_turn_33 : decode cX6_turn 33 = .ok (.istore_n 2, 1) := by decide +kernel
theorem dX6_turn_34 : decode cX6_turn 34 = .ok (.iload_n 2, 1) := by decide +kernel
theorem dX6_turn_35 : decode cX6_turn 35 = .ok (.ifCond .eq 9, 3) := by decide +kernel
theorem dX6_turn_38 : decode cX6_turn 38 = .ok (.aload_n 0, 1) := by decide +kernel
theorem dX6_turn_39 : decode cX6_turn 39 = .ok (.iload_n 2, 1) := by decide +kernel
theorem dX6_turn_40 : decode cX6_turn 40 = .ok (.invokevirtual 52, 3) := by decide +kernel
theorem dX6_turn_43 : decode cX6_turn 43 = .ok (.ireturn, 1) := by decide +kernel
theorem dX6_turn_44 : decode cX6_turn 44 = .ok (.aload_n 0, 1) := by decide +kernel
theorem dX6_turn_45 : decode cX6_turn 45 = .ok (.iload_n 1, 1) := by decide +kernel
theorem dX6_turn_46 : decode cX6_turn 46 = .ok (.invokevirtual 124, 3) := by decide +kernel
theorem dX6_turn_49 : decode cX6_turn 49 = .ok (.aload_n 0, 1) := by decide +kernel
theorem dX6_turn_50 : decode cX6_turn 50 = .ok (.getfield 13, 3) := by decide +kernel
theorem dX6_turn_53 : decode cX6_turn 53 = .ok (.iconst 4, 1) := by decide +kernel
theorem dX6_turn_54 : decode cX6_turn 54 = .ok (.iload_n 1, 1) := by decide +kernel
theorem dX6_turn_55 : decode cX6_turn 55 = .ok (.iadd, 1) := by decide +kernel
theorem dX6_turn_56 : decode cX6_turn 56 = .ok (.iconst 1, 1) := by decide +kernel
theorem dX6_turn_57 : decode cX6_turn 57 = .ok (.isub, 1) := by decide +kernel
theorem dX6_turn_58 : decode cX6_turn 58 = .ok (.iaload, 1) := by decide +kernel
theorem dX6_turn_59 : decode cX6_turn 59 = .ok (.ireturn, 1) := by decide +kernel
theorem dX6_power_0 : decode cX6_power 0 = .ok (.iconst 1, 1) := by decide +kernel
theorem dX6_power_1 : decode cX6_power 1 = .ok (.istore_n 2, 1) := by decide +kernel
theorem dX6_power_2 : decode cX6_power 2 = .ok (.iconst 0, 1) := by decide +kernel
theorem dX6_power_3 : decode cX6_power 3 = .ok (.istore_n 3, 1) := by decide +kernel
theorem dX6_power_4 : decode cX6_power 4 = .ok (.iload_n 3, 1) := by decide +kernel
theorem dX6_power_5 : decode cX6_power 5 = .ok (.iload_n 1, 1) := by decide +kernel
theorem dX6_power_6 : decode cX6_power 6 = .ok (.if_icmp .ge 18, 3) := by decide +kernel
theorem dX6_power_9 : decode cX6_power 9 = .ok (.iload_n 2, 1) := by decide +kernel
theorem dX6_power_10 : decode cX6_power 10 = .ok (.aload_n 0, 1) := by decide +kernel
theorem dX6_power_11 : decode cX6_power 11 = .ok (.getfield 13, 3) := by decide +kernel
theorem dX6_power_14 : decode cX6_power 14 = .ok (.iconst 1, 1) := by decide +kernel
theorem dX6_power_15 : decode cX6_power 15 = .ok (.iaload, 1) := by decide +kernel
theorem dX6_power_16 : decode cX6_power 16 = .ok (.imul, 1) := by decide +kernel
theorem dX6_power_17 : decode cX6_power 17 = .ok (.istore_n 2, 1) := by decide +kernel
theorem dX6_power_18 : decode cX6_power 18 = .ok (.iinc 3 1, 3) := by decide +kernel
theorem dX6_power_21 : decode cX6_power 21 = .ok (.goto (-17), 3) := by decide +kernel
theorem dX6_power_24 : decode cX6_power 24 = .ok (.iload_n 2, 1) := by decide +kernel
theorem dX6_power_25 : decode cX6_power 25 = .ok (.ireturn, 1) := by decide +kernel
theorem dX6_stateNow_0 : decode cX6_stateNow 0 = .ok (.iconst 0, 1) := by decide +kernel
theorem dX6_stateNow_1 : decode cX6_stateNow 1 = .ok (.istore_n 1, 1) := by decide +kernel
theorem dX6_stateNow_2 : decode cX6_stateNow 2 = .ok (.aload_n 0, 1) := by decide +kernel
theorem dX6_stateNow_3 : decode cX6_stateNow 3 = .ok (.getfield 13, 3) := by decide +kernel
theorem dX6_stateNow_6 : decode cX6_stateNow 6 = .ok (.iconst 0, 1) := by decide +kernel
theorem dX6_stateNow_7 : decode cX6_stateNow 7 = .ok (.iaload, 1) := by decide +kernel
theorem dX6_stateNow_8 : decode cX6_stateNow 8 = .ok (.iconst 1, 1) := by decide +kernel
theorem dX6_stateNow_9 : decode cX6_stateNow 9 = .ok (.isub, 1) := by decide +kernel
theorem dX6_stateNow_10 : decode cX6_stateNow 10 = .ok (.istore_n 2, 1) := by decide +kernel
theorem dX6_stateNow_11 : decode cX6_stateNow 11 = .ok (.iload_n 2, 1) := by decide +kernel
theorem dX6_stateNow_12 : decode cX6_stateNow 12 = .ok (.ifCond .lt 27, 3) := by decide +kernel
theorem dX6_stateNow_15 : decode cX6_stateNow 15 = .ok (.aload_n 0, 1) := by decide +kernel
theorem dX6_stateNow_16 : decode cX6_stateNow 16 = .ok (.getfield 13, 3) := by decide +kernel
theorem dX6_stateNow_19 : decode cX6_stateNow 19 = .ok (.iconst 1, 1) := by decide +kernel
theorem dX6_stateNow_20 : decode cX6_stateNow 20 = .ok (.iaload, 1) := by decide +kernel
theorem dX6_stateNow_21 : decode cX6_stateNow 21 = .ok (.iload_n 1, 1) := by decide +kernel
theorem dX6_stateNow_22 : decode cX6_stateNow 22 = .ok (.imul, 1) := by decide +kernel
theorem dX6_stateNow_23 : decode cX6_stateNow 23 = .ok (.aload_n 0, 1) := by decide +kernel
theorem dX6_stateNow_24 : decode cX6_stateNow 24 = .ok (.getfield 13, 3) := by decide +kernel
theorem dX6_stateNow_27 : decode cX6_stateNow 27 = .ok (.iconst 4, 1) := by decide +kernel
theorem dX6_stateNow_28 : decode cX6_stateNow 28 = .ok (.iload_n 2, 1) := by decide +kernel
theorem dX6_stateNow_29 : decode cX6_stateNow 29 = .ok (.iadd, 1) := by decide +kernel
theorem dX6_stateNow_30 : decode cX6_stateNow 30 = .ok (.iaload, 1) := by decide +kernel
theorem dX6_stateNow_31 : decode cX6_stateNow 31 = .ok (.iadd, 1) := by decide +kernel
theorem dX6_stateNow_32 : decode cX6_stateNow 32 = .ok (.istore_n 1, 1) := by decide +kernel
theorem dX6_stateNow_33 : decode cX6_stateNow 33 = .ok (.iinc 2 (-1), 3) := by decide +kernel
theorem dX6_stateNow_36 : decode cX6_stateNow 36 = .ok (.goto (-25), 3) := by decide +kernel
theorem dX6_stateNow_39 : decode cX6_stateNow 39 = .ok (.iload_n 1, 1) := by decide +kernel
theorem dX6_stateNow_40 : decode cX6_stateNow 40 = .ok (.ireturn, 1) := by decide +kernel
theorem dX6_state_0 : decode cX6_state 0 = .ok (.aload_n 0, 1) := by decide +kernel
theorem dX6_state_1 : decode cX6_state 1 = .ok (.invokevirtual 131, 3) := by decide +kernel
theorem dX6_state_4 : decode cX6_state 4 = .ok (.ireturn, 1) := by decide +kernel
theorem dX6_isWished_0 : decode cX6_isWished 0 = .ok (.iconst 0, 1) := by decide +kernel
theorem dX6_isWished_1 : decode cX6_isWished 1 = .ok (.istore_n 1, 1) := by decide +kernel
theorem dX6_isWished_2 : decode cX6_isWished 2 = .ok (.iload_n 1, 1) := by decide +kernel
theorem dX6_isWished_3 : decode cX6_isWished 3 = .ok (.aload_n 0, 1) := by decide +kernel
theorem dX6_isWished_4 : decode cX6_isWished 4 = .ok (.getfield 13, 3) := by decide +kernel
theorem dX6_isWished_7 : decode cX6_isWished 7 = .ok (.iconst 0, 1) := by decide +kernel
theorem dX6_isWished_8 : decode cX6_isWished 8 = .ok (.iaload, 1) := by decide +kernel
theorem dX6_isWished_9 : decode cX6_isWished 9 = .ok (.if_icmp .ge 45, 3) := by decide +kernel
theorem dX6_isWished_12 : decode cX6_isWished 12 = .ok (.aload_n 0, 1) := by decide +kernel
theorem dX6_isWished_13 : decode cX6_isWished 13 = .ok (.getfield 13, 3) := by decide +kernel
theorem dX6_isWished_16 : decode cX6_isWished 16 = .ok (.bipush 16, 2) := by decide +kernel
theorem dX6_isWished_18 : decode cX6_isWished 18 = .ok (.iload_n 1, 1) := by decide +kernel
theorem dX6_isWished_19 : decode cX6_isWished 19 = .ok (.iadd, 1) := by decide +kernel
theorem dX6_isWished_20 : decode cX6_isWished 20 = .ok (.iaload, 1) := by decide +kernel
theorem dX6_isWished_21 : decode cX6_isWished 21 = .ok (.bipush 9, 2) := by decide +kernel
theorem dX6_isWished_23 : decode cX6_isWished 23 = .ok (.if_icmp .eq 25, 3) := by decide +kernel
theorem dX6_isWished_26 : decode cX6_isWished 26 = .ok (.aload_n 0, 1) := by decide +kernel
theorem dX6_isWished_27 : decode cX6_isWished 27 = .ok (.getfield 13, 3) := by decide +kernel
theorem dX6_isWished_30 : decode cX6_isWished 30 = .ok (.bipush 16, 2) := by decide +kernel
theorem dX6_isWished_32 : decode cX6_isWished 32 = .ok (.iload_n 1, 1) := by decide +kernel
theorem dX6_isWished_33 : decode cX6_isWished 33 = .ok (.iadd, 1) := by decide +kernel
theorem dX6_isWished_34 : decode cX6_isWished 34 = .ok (.iaload, 1) := by decide +kernel
theorem dX6_isWished_35 : decode cX6_isWished 35 = .ok (.aload_n 0, 1) := by decide +kernel
theorem dX6_isWished_36 : decode cX6_isWished 36 = .ok (.getfield 13, 3) := by decide +kernel
theorem dX6_isWished_39 : decode cX6_isWished 39 = .ok (.iconst 4, 1) := by decide +kernel
theorem dX6_isWished_40 : decode cX6_isWished 40 = .ok (.iload_n 1, 1) := by decide +kernel
theorem dX6_isWished_41 : decode cX6_isWished 41 = .ok (.iadd, 1) := by decide +kernel
theorem dX6_isWished_42 : decode cX6_isWished 42 = .ok (.iaload, 1) := by decide +kernel
theorem dX6_isWished_43 : decode cX6_isWished 43 = .ok (.if_icmp .eq 5, 3) := by decide +kernel
theorem dX6_isWished_46 : decode cX6_isWished 46 = .ok (.iconst 0, 1) := by decide +kernel
theorem dX6_isWished_47 : decode cX6_isWished 47 = .ok (.ireturn, 1) := by decide +kernel
theorem dX6_isWished_48 : decode cX6_isWished 48 = .ok (.iinc 1 1, 3) := by decide +kernel
theorem dX6_isWished_51 : decode cX6_isWished 51 = .ok (.goto (-49), 3) := by decide +kernel
theorem dX6_isWished_54 : decode cX6_isWished 54 = .ok (.iconst 1, 1) := by decide +kernel
theorem dX6_isWished_55 : decode cX6_isWished 55 = .ok (.ireturn, 1) := by decide +kernel
theorem dX6_wished_0 : decode cX6_wished 0 = .ok (.aload_n 0, 1) := by decide +kernel
theorem dX6_wished_1 : decode cX6_wished 1 = .ok (.invokevirtual 134, 3) := by decide +kernel
theorem dX6_wished_4 : decode cX6_wished 4 = .ok (.ifCond .eq 7, 3) := by decide +kernel
theorem dX6_wished_7 : decode cX6_wished 7 = .ok (.iconst 1, 1) := by decide +kernel
theorem dX6_wished_8 : decode cX6_wished 8 = .ok (.goto 4, 3) := by decide +kernel
theorem dX6_wished_11 : decode cX6_wished 11 = .ok (.iconst 0, 1) := by decide +kernel
theorem dX6_wished_12 : decode cX6_wished 12 = .ok (.ireturn, 1) := by decide +kernel
theorem dX6_findsWay_0 : decode cX6_findsWay 0 = .ok (.aload_n 0, 1) := by decide +kernel
theorem dX6_findsWay_1 : decode cX6_findsWay 1 = .ok (.getfield 13, 3) := by decide +kernel
theorem dX6_findsWay_4 : decode cX6_findsWay 4 = .ok (.iconst 0, 1) := by decide +kernel
theorem dX6_findsWay_5 : decode cX6_findsWay 5 = .ok (.iaload, 1) := by decide +kernel
theorem dX6_findsWay_6 : decode cX6_findsWay 6 = .ok (.istore_n 3, 1) := by decide +kernel
theorem dX6_findsWay_7 : decode cX6_findsWay 7 = .ok (.iload_n 1, 1) := by decide +kernel
theorem dX6_findsWay_8 : decode cX6_findsWay 8 = .ok (.istore 4, 2) := by decide +kernel
theorem dX6_findsWay_10 : decode cX6_findsWay 10 = .ok (.iconst 1, 1) := by decide +kernel
theorem dX6_findsWay_11 : decode cX6_findsWay 11 = .ok (.istore 5, 2) := by decide +kernel
theorem dX6_findsWay_13 : decode cX6_findsWay 13 = .ok (.iload 5, 2) := by decide +kernel
theorem dX6_findsWay_15 : decode cX6_findsWay 15 = .ok (.iload_n 3, 1) := by decide +kernel
theorem dX6_findsWay_16 : decode cX6_findsWay 16 = .ok (.if_icmp .gt 36, 3) := by decide +kernel
theorem dX6_findsWay_19 : decode cX6_findsWay 19 = .ok (.aload_n 0, 1) := by decide +kernel
theorem dX6_findsWay_20 : decode cX6_findsWay 20 = .ok (.getfield 31, 3) := by decide +kernel
theorem dX6_findsWay_23 : decode cX6_findsWay 23 = .ok (.iload 5, 2) := by decide +kernel
theorem dX6_findsWay_25 : decode cX6_findsWay 25 = .ok (.iload 4, 2) := by decide +kernel
theorem dX6_findsWay_27 : decode cX6_findsWay 27 = .ok (.aload_n 0, 1) := by decide +kernel
theorem dX6_findsWay_28 : decode cX6_findsWay 28 = .ok (.getfield 13, 3) := by decide +kernel
theorem dX6_findsWay_31 : decode cX6_findsWay 31 = .ok (.iconst 1, 1) := by decide +kernel
theorem dX6_findsWay_32 : decode cX6_findsWay 32 = .ok (.iaload, 1) := by decide +kernel
theorem dX6_findsWay_33 : decode cX6_findsWay 33 = .ok (.irem, 1) := by decide +kernel
theorem dX6_findsWay_34 : decode cX6_findsWay 34 = .ok (.iastore, 1) := by decide +kernel
theorem dX6_findsWay_35 : decode cX6_findsWay 35 = .ok (.iload 4, 2) := by decide +kernel
theorem dX6_findsWay_37 : decode cX6_findsWay 37 = .ok (.aload_n 0, 1) := by decide +kernel
theorem dX6_findsWay_38 : decode cX6_findsWay 38 = .ok (.getfield 13, 3) := by decide +kernel
theorem dX6_findsWay_41 : decode cX6_findsWay 41 = .ok (.iconst 1, 1) := by decide +kernel
theorem dX6_findsWay_42 : decode cX6_findsWay 42 = .ok (.iaload, 1) := by decide +kernel
theorem dX6_findsWay_43 : decode cX6_findsWay 43 = .ok (.idiv, 1) := by decide +kernel
theorem dX6_findsWay_44 : decode cX6_findsWay 44 = .ok (.istore 4, 2) := by decide +kernel
theorem dX6_findsWay_46 : decode cX6_findsWay 46 = .ok (.iinc 5 1, 3) := by decide +kernel
theorem dX6_findsWay_49 : decode cX6_findsWay 49 = .ok (.goto (-36), 3) := by decide +kernel
theorem dX6_findsWay_52 : decode cX6_findsWay 52 = .ok (.iconst 0, 1) := by decide +kernel
theorem dX6_findsWay_53 : decode cX6_findsWay 53 = .ok (.istore 5, 2) := by decide +kernel
theorem dX6_findsWay_55 : decode cX6_findsWay 55 = .ok (.iload 5, 2) := by decide +kernel
theorem dX6_findsWay_57 : decode cX6_findsWay 57 = .ok (.iload_n 3, 1) := by decide +kernel
theorem dX6_findsWay_58 : decode cX6_findsWay 58 = .ok (.if_icmp .ge 119, 3) := by decide +kernel
theorem dX6_findsWay_61 : decode cX6_findsWay 61 = .ok (.iload_n 2, 1) := by decide +kernel
theorem dX6_findsWay_62 : decode cX6_findsWay 62 = .ok (.ifCond .eq 10, 3) := by decide +kernel
theorem dX6_findsWay_65 : decode cX6_findsWay 65 = .ok (.iload 5, 2) := by decide +kernel
theorem dX6_findsWay_67 : decode cX6_findsWay 67 = .ok (.iconst 1, 1) := by decide +kernel
theorem dX6_findsWay_68 : decode cX6_findsWay 68 = .ok (.iadd, 1) := by decide +kernel
theorem dX6_findsWay_69 : decode cX6_findsWay 69 = .ok (.goto 7, 3) := by decide +kernel
theorem dX6_findsWay_72 : decode cX6_findsWay 72 = .ok (.iload_n 3, 1) := by decide +kernel
theorem dX6_findsWay_73 : decode cX6_findsWay 73 = .ok (.iload 5, 2) := by decide +kernel
theorem dX6_findsWay_75 : decode cX6_findsWay 75 = .ok (.isub, 1) := by decide +kernel
theorem dX6_findsWay_76 : decode cX6_findsWay 76 = .ok (.istore 6, 2) := by decide +kernel
theorem dX6_findsWay_78 : decode cX6_findsWay 78 = .ok (.aload_n 0, 1) := by decide +kernel
theorem dX6_findsWay_79 : decode cX6_findsWay 79 = .ok (.getfield 28, 3) := by decide +kernel
theorem dX6_findsWay_82 : decode cX6_findsWay 82 = .ok (.iload 6, 2) := by decide +kernel
theorem dX6_findsWay_84 : decode cX6_findsWay 84 = .ok (.aload_n 0, 1) := by decide +kernel
theorem dX6_findsWay_85 : decode cX6_findsWay 85 = .ok (.getfield 31, 3) := by decide +kernel
theorem dX6_findsWay_88 : decode cX6_findsWay 88 = .ok (.iload 6, 2) := by decide +kernel
theorem dX6_findsWay_90 : decode cX6_findsWay 90 = .ok (.iaload, 1) := by decide +kernel
theorem dX6_findsWay_91 : decode cX6_findsWay 91 = .ok (.iastore, 1) := by decide +kernel
theorem dX6_findsWay_92 : decode cX6_findsWay 92 = .ok (.iconst 1, 1) := by decide +kernel
theorem dX6_findsWay_93 : decode cX6_findsWay 93 = .ok (.istore 7, 2) := by decide +kernel
theorem dX6_findsWay_95 : decode cX6_findsWay 95 = .ok (.iload 7, 2) := by decide +kernel
theorem dX6_findsWay_97 : decode cX6_findsWay 97 = .ok (.iload_n 3, 1) := by decide +kernel
theorem dX6_findsWay_98 : decode cX6_findsWay 98 = .ok (.if_icmp .gt 73, 3) := by decide +kernel
theorem dX6_findsWay_101 : decode cX6_findsWay 101 = .ok (.iload_n 2, 1) := by decide +kernel
theorem dX6_findsWay_102 : decode cX6_findsWay 102 = .ok (.ifCond .eq 13, 3) := by decide +kernel
theorem dX6_findsWay_105 : decode cX6_findsWay 105 = .ok (.iload 6, 2) := by decide +kernel
theorem dX6_findsWay_107 : decode cX6_findsWay 107 = .ok (.iload 7, 2) := by decide +kernel
theorem dX6_findsWay_109 : decode cX6_findsWay 109 = .ok (.invokestatic 109, 3) := by decide +kernel
theorem dX6_findsWay_112 : decode cX6_findsWay 112 = .ok (.goto 10, 3) := by decide +kernel
theorem dX6_findsWay_115 : decode cX6_findsWay 115 = .ok (.iload 7, 2) := by decide +kernel
theorem dX6_findsWay_117 : decode cX6_findsWay 117 = .ok (.iload 6, 2) := by decide +kernel
theorem dX6_findsWay_119 : decode cX6_findsWay 119 = .ok (.invokestatic 109, 3) := by decide +kernel
theorem dX6_findsWay_122 : decode cX6_findsWay 122 = .ok (.istore 8, 2) := by decide +kernel
theorem dX6_findsWay_124 : decode cX6_findsWay 124 = .ok (.iload 8, 2) := by decide +kernel
theorem dX6_findsWay_126 : decode cX6_findsWay 126 = .ok (.ifCond .eq 39, 3) := by decide +kernel
theorem dX6_findsWay_129 : decode cX6_findsWay 129 = .ok (.aload_n 0, 1) := by decide +kernel
theorem dX6_findsWay_130 : decode cX6_findsWay 130 = .ok (.getfield 31, 3) := by decide +kernel
theorem dX6_findsWay_133 : decode cX6_findsWay 133 = .ok (.iload 7, 2) := by decide +kernel
theorem dX6_findsWay_135 : decode cX6_findsWay 135 = .ok (.aload_n 0, 1) := by decide +kernel
theorem dX6_findsWay_136 : decode cX6_findsWay 136 = .ok (.getfield 31, 3) := by decide +kernel
theorem dX6_findsWay_139 : decode cX6_findsWay 139 = .ok (.iload 7, 2) := by decide +kernel
theorem dX6_findsWay_141 : decode cX6_findsWay 141 = .ok (.iaload, 1) := by decide +kernel
theorem dX6_findsWay_142 : decode cX6_findsWay 142 = .ok (.aload_n 0, 1) := by decide +kernel
theorem dX6_findsWay_143 : decode cX6_findsWay 143 = .ok (.getfield 13, 3) := by decide +kernel
theorem dX6_findsWay_146 : decode cX6_findsWay 146 = .ok (.iconst 1, 1) := by decide +kernel
theorem dX6_findsWay_147 : decode cX6_findsWay 147 = .ok (.iaload, 1) := by decide +kernel
theorem dX6_findsWay_148 : decode cX6_findsWay 148 = .ok (.iadd, 1) := by decide +kernel
theorem dX6_findsWay_149 : decode cX6_findsWay 149 = .ok (.aload_n 0, 1) := by decide +kernel
theorem dX6_findsWay_150 : decode cX6_findsWay 150 = .ok (.getfield 28, 3) := by decide +kernel
theorem dX6_findsWay_153 : decode cX6_findsWay 153 = .ok (.iload 6, 2) := by decide +kernel
theorem dX6_findsWay_155 : decode cX6_findsWay 155 = .ok (.iaload, 1) := by decide +kernel
theorem dX6_findsWay_156 : decode cX6_findsWay 156 = .ok (.isub, 1) := by decide +kernel
theorem dX6_findsWay_157 : decode cX6_findsWay 157 = .ok (.aload_n 0, 1) := by decide +kernel
theorem dX6_findsWay_158 : decode cX6_findsWay 158 = .ok (.getfield 13, 3) := by decide +kernel
theorem dX6_findsWay_161 : decode cX6_findsWay 161 = .ok (.iconst 1, 1) := by decide +kernel
theorem dX6_findsWay_162 : decode cX6_findsWay 162 = .ok (.iaload, 1) := by decide +kernel
theorem dX6_findsWay_163 : decode cX6_findsWay 163 = .ok (.irem, 1) := by decide +kernel
theorem dX6_findsWay_164 : decode cX6_findsWay 164 = .ok (.iastore, 1) := by decide +kernel
theorem dX6_findsWay_165 : decode cX6_findsWay 165 = .ok (.iinc 7 1, 3) := by decide +kernel
theorem dX6_findsWay_168 : decode cX6_findsWay 168 = .ok (.goto (-73), 3) := by decide +kernel
theorem dX6_findsWay_171 : decode cX6_findsWay 171 = .ok (.iinc 5 1, 3) := by decide +kernel
theorem dX6_findsWay_174 : decode cX6_findsWay 174 = .ok (.goto (-119), 3) := by decide +kernel
theorem dX6_findsWay_177 : decode cX6_findsWay 177 = .ok (.return_, 1) := by decide +kernel
theorem dX6_way_0 : decode cX6_way 0 = .ok (.iload_n 1, 1) := by decide +kernel
theorem dX6_way_1 : decode cX6_way 1 = .ok (.aload_n 0, 1) := by decide +kernel
theorem dX6_way_2 : decode cX6_way 2 = .ok (.aload_n 0, 1) := by decide +kernel
theorem dX6_way_3 : decode cX6_way 3 = .ok (.getfield 13, 3) := by decide +kernel
theorem dX6_way_6 : decode cX6_way 6 = .ok (.iconst 0, 1) := by decide +kernel
theorem dX6_way_7 : decode cX6_way 7 = .ok (.iaload, 1) := by decide +kernel
theorem dX6_way_8 : decode cX6_way 8 = .ok (.invokevirtual 137, 3) := by decide +kernel
theorem dX6_way_11 : decode cX6_way 11 = .ok (.invokestatic 40, 3) := by decide +kernel
theorem dX6_way_14 : decode cX6_way 14 = .ok (.ifCond .eq 11, 3) := by decide +kernel
theorem dX6_way_17 : decode cX6_way 17 = .ok (.aload_n 0, 1) := by decide +kernel
theorem dX6_way_18 : decode cX6_way 18 = .ok (.iload_n 2, 1) := by decide +kernel
theorem dX6_way_19 : decode cX6_way 19 = .ok (.invokevirtual 115, 3) := by decide +kernel
theorem dX6_way_22 : decode cX6_way 22 = .ok (.ifCond .ne 9, 3) := by decide +kernel
theorem dX6_way_25 : decode cX6_way 25 = .ok (.aload_n 0, 1) := by decide +kernel
theorem dX6_way_26 : decode cX6_way 26 = .ok (.iconst (-1), 1) := by decide +kernel
theorem dX6_way_27 : decode cX6_way 27 = .ok (.invokevirtual 52, 3) := by decide +kernel
theorem dX6_way_30 : decode cX6_way 30 = .ok (.ireturn, 1) := by decide +kernel
theorem dX6_way_31 : decode cX6_way 31 = .ok (.iload_n 3, 1) := by decide +kernel
theorem dX6_way_32 : decode cX6_way 32 = .ok (.iconst 2, 1) := by decide +kernel
theorem dX6_way_33 : decode cX6_way 33 = .ok (.invokestatic 40, 3) := by decide +kernel
theorem dX6_way_36 : decode cX6_way 36 = .ok (.ifCond .ne 10, 3) := by decide +kernel
theorem dX6_way_39 : decode cX6_way 39 = .ok (.aload_n 0, 1) := by decide +kernel
theorem dX6_way_40 : decode cX6_way 40 = .ok (.bipush (-2), 2) := by decide +kernel
theorem dX6_way_42 : decode cX6_way 42 = .ok (.invokevirtual 52, 3) := by decide +kernel
theorem dX6_way_45 : decode cX6_way 45 = .ok (.ireturn, 1) := by decide +kernel
theorem dX6_way_46 : decode cX6_way 46 = .ok (.aload_n 0, 1) := by decide +kernel
theorem dX6_way_47 : decode cX6_way 47 = .ok (.iload_n 1, 1) := by decide +kernel
theorem dX6_way_48 : decode cX6_way 48 = .ok (.iload_n 3, 1) := by decide +kernel
theorem dX6_way_49 : decode cX6_way 49 = .ok (.ifCond .ne 7, 3) := by decide +kernel
theorem dX6_way_52 : decode cX6_way 52 = .ok (.iconst 1, 1) := by decide +kernel
theorem dX6_way_53 : decode cX6_way 53 = .ok (.goto 4, 3) := by decide +kernel
theorem dX6_way_56 : decode cX6_way 56 = .ok (.iconst 0, 1) := by decide +kernel
theorem dX6_way_57 : decode cX6_way 57 = .ok (.invokevirtual 140, 3) := by decide +kernel
theorem dX6_way_60 : decode cX6_way 60 = .ok (.aload_n 0, 1) := by decide +kernel
theorem dX6_way_61 : decode cX6_way 61 = .ok (.getfield 28, 3) := by decide +kernel
theorem dX6_way_64 : decode cX6_way 64 = .ok (.iload_n 2, 1) := by decide +kernel
theorem dX6_way_65 : decode cX6_way 65 = .ok (.iaload, 1) := by decide +kernel
theorem dX6_way_66 : decode cX6_way 66 = .ok (.ireturn, 1) := by decide +kernel
theorem dX6_keeps_0 : decode cX6_keeps 0 = .ok (.iconst 0, 1) := by decide +kernel
theorem dX6_keeps_1 : decode cX6_keeps 1 = .ok (.istore_n 1, 1) := by decide +kernel
theorem dX6_keeps_2 : decode cX6_keeps 2 = .ok (.iload_n 1, 1) := by decide +kernel
theorem dX6_keeps_3 : decode cX6_keeps 3 = .ok (.bipush 12, 2) := by decide +kernel
theorem dX6_keeps_5 : decode cX6_keeps 5 = .ok (.if_icmp .ge 23, 3) := by decide +kernel
theorem dX6_keeps_8 : decode cX6_keeps 8 = .ok (.aload_n 0, 1) := by decide +kernel
theorem dX6_keeps_9 : decode cX6_keeps 9 = .ok (.getfield 34, 3) := by decide +kernel
theorem dX6_keeps_12 : decode cX6_keeps 12 = .ok (.iload_n 1, 1) := by decide +kernel
theorem dX6_keeps_13 : decode cX6_keeps 13 = .ok (.aload_n 0, 1) := by decide +kernel
theorem dX6_keeps_14 : decode cX6_keeps 14 = .ok (.getfield 13, 3) := by decide +kernel
theorem dX6_keeps_17 : decode cX6_keeps 17 = .ok (.iconst 4, 1) := by decide +kernel
theorem dX6_keeps_18 : decode cX6_keeps 18 = .ok (.iload_n 1, 1) := by decide +kernel
theorem dX6_keeps_19 : decode cX6_keeps 19 = .ok (.iadd, 1) := by decide +kernel
theorem dX6_keeps_20 : decode cX6_keeps 20 = .ok (.iaload, 1) := by decide +kernel
theorem dX6_keeps_21 : decode cX6_keeps 21 = .ok (.iastore, 1) := by decide +kernel
theorem dX6_keeps_22 : decode cX6_keeps 22 = .ok (.iinc 1 1, 3) := by decide +kernel
theorem dX6_keeps_25 : decode cX6_keeps 25 = .ok (.goto (-23), 3) := by decide +kernel
theorem dX6_keeps_28 : decode cX6_keeps 28 = .ok (.return_, 1) := by decide +kernel
theorem dX6_putsBack_0 : decode cX6_putsBack 0 = .ok (.iconst 0, 1) := by decide +kernel
theorem dX6_putsBack_1 : decode cX6_putsBack 1 = .ok (.istore_n 1, 1) := by decide +kernel
theorem dX6_putsBack_2 : decode cX6_putsBack 2 = .ok (.iload_n 1, 1) := by decide +kernel
theorem dX6_putsBack_3 : decode cX6_putsBack 3 = .ok (.bipush 12, 2) := by decide +kernel
theorem dX6_putsBack_5 : decode cX6_putsBack 5 = .ok (.if_icmp .ge 23, 3) := by decide +kernel
theorem dX6_putsBack_8 : decode cX6_putsBack 8 = .ok (.aload_n 0, 1) := by decide +kernel
theorem dX6_putsBack_9 : decode cX6_putsBack 9 = .ok (.getfield 13, 3) := by decide +kernel
theorem dX6_putsBack_12 : decode cX6_putsBack 12 = .ok (.iconst 4, 1) := by decide +kernel
theorem dX6_putsBack_13 : decode cX6_putsBack 13 = .ok (.iload_n 1, 1) := by decide +kernel
theorem dX6_putsBack_14 : decode cX6_putsBack 14 = .ok (.iadd, 1) := by decide +kernel
theorem dX6_putsBack_15 : decode cX6_putsBack 15 = .ok (.aload_n 0, 1) := by decide +kernel
theorem dX6_putsBack_16 : decode cX6_putsBack 16 = .ok (.getfield 34, 3) := by decide +kernel
theorem dX6_putsBack_19 : decode cX6_putsBack 19 = .ok (.iload_n 1, 1) := by decide +kernel
theorem dX6_putsBack_20 : decode cX6_putsBack 20 = .ok (.iaload, 1) := by decide +kernel
theorem dX6_putsBack_21 : decode cX6_putsBack 21 = .ok (.iastore, 1) := by decide +kernel
theorem dX6_putsBack_22 : decode cX6_putsBack 22 = .ok (.iinc 1 1, 3) := by decide +kernel
theorem dX6_putsBack_25 : decode cX6_putsBack 25 = .ok (.goto (-23), 3) := by decide +kernel
theorem dX6_putsBack_28 : decode cX6_putsBack 28 = .ok (.return_, 1) := by decide +kernel
theorem dX6_zeroes_0 : decode cX6_zeroes 0 = .ok (.iconst 0, 1) := by decide +kernel
theorem dX6_zeroes_1 : decode cX6_zeroes 1 = .ok (.istore_n 1, 1) := by decide +kernel
theorem dX6_zeroes_2 : decode cX6_zeroes 2 = .ok (.iload_n 1, 1) := by decide +kernel
theorem dX6_zeroes_3 : decode cX6_zeroes 3 = .ok (.bipush 12, 2) := by decide +kernel
theorem dX6_zeroes_5 : decode cX6_zeroes 5 = .ok (.if_icmp .ge 18, 3) := by decide +kernel
theorem dX6_zeroes_8 : decode cX6_zeroes 8 = .ok (.aload_n 0, 1) := by decide +kernel
theorem dX6_zeroes_9 : decode cX6_zeroes 9 = .ok (.getfield 13, 3) := by decide +kernel
theorem dX6_zeroes_12 : decode cX6_zeroes 12 = .ok (.iconst 4, 1) := by decide +kernel
theorem dX6_zeroes_13 : decode cX6_zeroes 13 = .ok (.iload_n 1, 1) := by decide +kernel
theorem dX6_zeroes_14 : decode cX6_zeroes 14 = .ok (.iadd, 1) := by decide +kernel
theorem dX6_zeroes_15 : decode cX6_zeroes 15 = .ok (.iconst 0, 1) := by decide +kernel
theorem dX6_zeroes_16 : decode cX6_zeroes 16 = .ok (.iastore, 1) := by decide +kernel
theorem dX6_zeroes_17 : decode cX6_zeroes 17 = .ok (.iinc 1 1, 3) := by decide +kernel
theorem dX6_zeroes_20 : decode cX6_zeroes 20 = .ok (.goto (-18), 3) := by decide +kernel
theorem dX6_zeroes_23 : decode cX6_zeroes 23 = .ok (.return_, 1) := by decide +kernel
theorem dX6_timesOf_0 : decode cX6_timesOf 0 = .ok (.iload_n 1, 1) := by decide +kernel
theorem dX6_timesOf_1 : decode cX6_timesOf 1 = .ok (.istore_n 3, 1) := by decide +kernel
theorem dX6_timesOf_2 : decode cX6_timesOf 2 = .ok (.iconst 0, 1) := by decide +kernel
theorem dX6_timesOf_3 : decode cX6_timesOf 3 = .ok (.istore 4, 2) := by decide +kernel
theorem dX6_timesOf_5 : decode cX6_timesOf 5 = .ok (.iload 4, 2) := by decide +kernel
theorem dX6_timesOf_7 : decode cX6_timesOf 7 = .ok (.iload_n 2, 1) := by decide +kernel
theorem dX6_timesOf_8 : decode cX6_timesOf 8 = .ok (.if_icmp .ge 18, 3) := by decide +kernel
theorem dX6_timesOf_11 : decode cX6_timesOf 11 = .ok (.iload_n 3, 1) := by decide +kernel
theorem dX6_timesOf_12 : decode cX6_timesOf 12 = .ok (.aload_n 0, 1) := by decide +kernel
theorem dX6_timesOf_13 : decode cX6_timesOf 13 = .ok (.getfield 13, 3) := by decide +kernel
theorem dX6_timesOf_16 : decode cX6_timesOf 16 = .ok (.iconst 1, 1) := by decide +kernel
theorem dX6_timesOf_17 : decode cX6_timesOf 17 = .ok (.iaload, 1) := by decide +kernel
theorem dX6_timesOf_18 : decode cX6_timesOf 18 = .ok (.idiv, 1) := by decide +kernel
theorem dX6_timesOf_19 : decode cX6_timesOf 19 = .ok (.istore_n 3, 1) := by decide +kernel
theorem dX6_timesOf_20 : decode cX6_timesOf 20 = .ok (.iinc 4 1, 3) := by decide +kernel
theorem dX6_timesOf_23 : decode cX6_timesOf 23 = .ok (.goto (-18), 3) := by decide +kernel
theorem dX6_timesOf_26 : decode cX6_timesOf 26 = .ok (.iload_n 3, 1) := by decide +kernel
theorem dX6_timesOf_27 : decode cX6_timesOf 27 = .ok (.aload_n 0, 1) := by decide +kernel
theorem dX6_timesOf_28 : decode cX6_timesOf 28 = .ok (.getfield 13, 3) := by decide +kernel
theorem dX6_timesOf_31 : decode cX6_timesOf 31 = .ok (.iconst 1, 1) := by decide +kernel
theorem dX6_timesOf_32 : decode cX6_timesOf 32 = .ok (.iaload, 1) := by decide +kernel
theorem dX6_timesOf_33 : decode cX6_timesOf 33 = .ok (.irem, 1) := by decide +kernel
theorem dX6_timesOf_34 : decode cX6_timesOf 34 = .ok (.ireturn, 1) := by decide +kernel
theorem dX6_goesRow_0 : decode cX6_goesRow 0 = .ok (.iconst 0, 1) := by decide +kernel
theorem dX6_goesRow_1 : decode cX6_goesRow 1 = .ok (.istore_n 2, 1) := by decide +kernel
theorem dX6_goesRow_2 : decode cX6_goesRow 2 = .ok (.iload_n 2, 1) := by decide +kernel
theorem dX6_goesRow_3 : decode cX6_goesRow 3 = .ok (.aload_n 0, 1) := by decide +kernel
theorem dX6_goesRow_4 : decode cX6_goesRow 4 = .ok (.getfield 13, 3) := by decide +kernel
theorem dX6_goesRow_7 : decode cX6_goesRow 7 = .ok (.iconst 2, 1) := by decide +kernel
theorem dX6_goesRow_8 : decode cX6_goesRow 8 = .ok (.iaload, 1) := by decide +kernel
theorem dX6_goesRow_9 : decode cX6_goesRow 9 = .ok (.if_icmp .ge 32, 3) := by decide +kernel
theorem dX6_goesRow_12 : decode cX6_goesRow 12 = .ok (.aload_n 0, 1) := by decide +kernel
theorem dX6_goesRow_13 : decode cX6_goesRow 13 = .ok (.iload_n 1, 1) := by decide +kernel
theorem dX6_goesRow_14 : decode cX6_goesRow 14 = .ok (.iload_n 2, 1) := by decide +kernel
theorem dX6_goesRow_15 : decode cX6_goesRow 15 = .ok (.invokevirtual 144, 3) := by decide +kernel
theorem dX6_goesRow_18 : decode cX6_goesRow 18 = .ok (.istore_n 3, 1) := by decide +kernel
theorem dX6_goesRow_19 : decode cX6_goesRow 19 = .ok (.iload_n 3, 1) := by decide +kernel
theorem dX6_goesRow_20 : decode cX6_goesRow 20 = .ok (.ifCond .le 15, 3) := by decide +kernel
theorem dX6_goesRow_23 : decode cX6_goesRow 23 = .ok (.aload_n 0, 1) := by decide +kernel
theorem dX6_goesRow_24 : decode cX6_goesRow 24 = .ok (.iload_n 2, 1) := by decide +kernel
theorem dX6_goesRow_25 : decode cX6_goesRow 25 = .ok (.invokevirtual 128, 3) := by decide +kernel
theorem dX6_goesRow_28 : decode cX6_goesRow 28 = .ok (.pop, 1) := by decide +kernel
theorem dX6_goesRow_29 : decode cX6_goesRow 29 = .ok (.iinc 3 (-1), 3) := by decide +kernel
theorem dX6_goesRow_32 : decode cX6_goesRow 32 = .ok (.goto (-13), 3) := by decide +kernel
theorem dX6_goesRow_35 : decode cX6_goesRow 35 = .ok (.iinc 2 1, 3) := by decide +kernel
theorem dX6_goesRow_38 : decode cX6_goesRow 38 = .ok (.goto (-36), 3) := by decide +kernel
theorem dX6_goesRow_41 : decode cX6_goesRow 41 = .ok (.return_, 1) := by decide +kernel
theorem dX6_rows_0 : decode cX6_rows 0 = .ok (.aload_n 0, 1) := by decide +kernel
theorem dX6_rows_1 : decode cX6_rows 1 = .ok (.aload_n 0, 1) := by decide +kernel
theorem dX6_rows_2 : decode cX6_rows 2 = .ok (.getfield 13, 3) := by decide +kernel
theorem dX6_rows_5 : decode cX6_rows 5 = .ok (.iconst 2, 1) := by decide +kernel
theorem dX6_rows_6 : decode cX6_rows 6 = .ok (.iaload, 1) := by decide +kernel
theorem dX6_rows_7 : decode cX6_rows 7 = .ok (.invokevirtual 137, 3) := by decide +kernel
theorem dX6_rows_10 : decode cX6_rows 10 = .ok (.ireturn, 1) := by decide +kernel
theorem dX6_brings_0 : decode cX6_brings 0 = .ok (.aload_n 0, 1) := by decide +kernel
theorem dX6_brings_1 : decode cX6_brings 1 = .ok (.invokevirtual 147, 3) := by decide +kernel
theorem dX6_brings_4 : decode cX6_brings 4 = .ok (.aload_n 0, 1) := by decide +kernel
theorem dX6_brings_5 : decode cX6_brings 5 = .ok (.iload_n 1, 1) := by decide +kernel
theorem dX6_brings_6 : decode cX6_brings 6 = .ok (.invokevirtual 150, 3) := by decide +kernel
theorem dX6_brings_9 : decode cX6_brings 9 = .ok (.aload_n 0, 1) := by decide +kernel
theorem dX6_brings_10 : decode cX6_brings 10 = .ok (.invokevirtual 134, 3) := by decide +kernel
theorem dX6_brings_13 : decode cX6_brings 13 = .ok (.istore_n 2, 1) := by decide +kernel
theorem dX6_brings_14 : decode cX6_brings 14 = .ok (.aload_n 0, 1) := by decide +kernel
theorem dX6_brings_15 : decode cX6_brings 15 = .ok (.invokevirtual 153, 3) := by decide +kernel
theorem dX6_brings_18 : decode cX6_brings 18 = .ok (.iload_n 2, 1) := by decide +kernel
theorem dX6_brings_19 : decode cX6_brings 19 = .ok (.ireturn, 1) := by decide +kernel
theorem dX6_goingsOf_0 : decode cX6_goingsOf 0 = .ok (.iconst 0, 1) := by decide +kernel
theorem dX6_goingsOf_1 : decode cX6_goingsOf 1 = .ok (.istore_n 2, 1) := by decide +kernel
theorem dX6_goingsOf_2 : decode cX6_goingsOf 2 = .ok (.iconst 0, 1) := by decide +kernel
theorem dX6_goingsOf_3 : decode cX6_goingsOf 3 = .ok (.istore_n 3, 1) := by decide +kernel
theorem dX6_goingsOf_4 : decode cX6_goingsOf 4 = .ok (.iload_n 3, 1) := by decide +kernel
theorem dX6_goingsOf_5 : decode cX6_goingsOf 5 = .ok (.aload_n 0, 1) := by decide +kernel
theorem dX6_goingsOf_6 : decode cX6_goingsOf 6 = .ok (.getfield 13, 3) := by decide +kernel
theorem dX6_goingsOf_9 : decode cX6_goingsOf 9 = .ok (.iconst 2, 1) := by decide +kernel
theorem dX6_goingsOf_10 : decode cX6_goingsOf 10 = .ok (.iaload, 1) := by decide +kernel
theorem dX6_goingsOf_11 : decode cX6_goingsOf 11 = .ok (.if_icmp .ge 18, 3) := by decide +kernel
theorem dX6_goingsOf_14 : decode cX6_goingsOf 14 = .ok (.iload_n 2, 1) := by decide +kernel
theorem dX6_goingsOf_15 : decode cX6_goingsOf 15 = .ok (.aload_n 0, 1) := by decide +kernel
theorem dX6_goingsOf_16 : decode cX6_goingsOf 16 = .ok (.iload_n 1, 1) := by decide +kernel
theorem dX6_goingsOf_17 : decode cX6_goingsOf 17 = .ok (.iload_n 3, 1) := by decide +kernel
theorem dX6_goingsOf_18 : decode cX6_goingsOf 18 = .ok (.invokevirtual 144, 3) := by decide +kernel
theorem dX6_goingsOf_21 : decode cX6_goingsOf 21 = .ok (.iadd, 1) := by decide +kernel
theorem dX6_goingsOf_22 : decode cX6_goingsOf 22 = .ok (.istore_n 2, 1) := by decide +kernel
theorem dX6_goingsOf_23 : decode cX6_goingsOf 23 = .ok (.iinc 3 1, 3) := by decide +kernel
theorem dX6_goingsOf_26 : decode cX6_goingsOf 26 = .ok (.goto (-22), 3) := by decide +kernel
theorem dX6_goingsOf_29 : decode cX6_goingsOf 29 = .ok (.iload_n 2, 1) := by decide +kernel
theorem dX6_goingsOf_30 : decode cX6_goingsOf 30 = .ok (.ireturn, 1) := by decide +kernel
theorem dX6_costOf_0 : decode cX6_costOf 0 = .ok (.iconst 0, 1) := by decide +kernel
theorem dX6_costOf_1 : decode cX6_costOf 1 = .ok (.istore_n 2, 1) := by decide +kernel
theorem dX6_costOf_2 : decode cX6_costOf 2 = .ok (.iconst 0, 1) := by decide +kernel
theorem dX6_costOf_3 : decode cX6_costOf 3 = .ok (.istore_n 3, 1) := by decide +kernel
theorem dX6_costOf_4 : decode cX6_costOf 4 = .ok (.iload_n 3, 1) := by decide +kernel
theorem dX6_costOf_5 : decode cX6_costOf 5 = .ok (.aload_n 0, 1) := by decide +kernel
theorem dX6_costOf_6 : decode cX6_costOf 6 = .ok (.getfield 13, 3) := by decide +kernel
theorem dX6_costOf_9 : decode cX6_costOf 9 = .ok (.iconst 2, 1) := by decide +kernel
theorem dX6_costOf_10 : decode cX6_costOf 10 = .ok (.iaload, 1) := by decide +kernel
theorem dX6_costOf_11 : decode cX6_costOf 11 = .ok (.if_icmp .ge 25, 3) := by decide +kernel
theorem dX6_costOf_14 : decode cX6_costOf 14 = .ok (.iload_n 2, 1) := by decide +kernel
theorem dX6_costOf_15 : decode cX6_costOf 15 = .ok (.aload_n 0, 1) := by decide +kernel
theorem dX6_costOf_16 : decode cX6_costOf 16 = .ok (.iload_n 1, 1) := by decide +kernel
theorem dX6_costOf_17 : decode cX6_costOf 17 = .ok (.iload_n 3, 1) := by decide +kernel
theorem dX6_costOf_18 : decode cX6_costOf 18 = .ok (.invokevirtual 144, 3) := by decide +kernel
theorem dX6_costOf_21 : decode cX6_costOf 21 = .ok (.aload_n 0, 1) := by decide +kernel
theorem dX6_costOf_22 : decode cX6_costOf 22 = .ok (.iload_n 3, 1) := by decide +kernel
theorem dX6_costOf_23 : decode cX6_costOf 23 = .ok (.iconst 3, 1) := by decide +kernel
theorem dX6_costOf_24 : decode cX6_costOf 24 = .ok (.invokevirtual 105, 3) := by decide +kernel
theorem dX6_costOf_27 : decode cX6_costOf 27 = .ok (.imul, 1) := by decide +kernel
theorem dX6_costOf_28 : decode cX6_costOf 28 = .ok (.iadd, 1) := by decide +kernel
theorem dX6_costOf_29 : decode cX6_costOf 29 = .ok (.istore_n 2, 1) := by decide +kernel
theorem dX6_costOf_30 : decode cX6_costOf 30 = .ok (.iinc 3 1, 3) := by decide +kernel
theorem dX6_costOf_33 : decode cX6_costOf 33 = .ok (.goto (-29), 3) := by decide +kernel
theorem dX6_costOf_36 : decode cX6_costOf 36 = .ok (.iload_n 2, 1) := by decide +kernel
theorem dX6_costOf_37 : decode cX6_costOf 37 = .ok (.ireturn, 1) := by decide +kernel
theorem dX6_can_0 : decode cX6_can 0 = .ok (.iconst 0, 1) := by decide +kernel
theorem dX6_can_1 : decode cX6_can 1 = .ok (.istore_n 1, 1) := by decide +kernel
theorem dX6_can_2 : decode cX6_can 2 = .ok (.iconst 0, 1) := by decide +kernel
theorem dX6_can_3 : decode cX6_can 3 = .ok (.istore_n 2, 1) := by decide +kernel
theorem dX6_can_4 : decode cX6_can 4 = .ok (.iload_n 2, 1) := by decide +kernel
theorem dX6_can_5 : decode cX6_can 5 = .ok (.aload_n 0, 1) := by decide +kernel
theorem dX6_can_6 : decode cX6_can 6 = .ok (.invokevirtual 156, 3) := by decide +kernel
theorem dX6_can_9 : decode cX6_can 9 = .ok (.if_icmp .ge 25, 3) := by decide +kernel
theorem dX6_can_12 : decode cX6_can 12 = .ok (.iload_n 1, 1) := by decide +kernel
theorem dX6_can_13 : decode cX6_can 13 = .ok (.aload_n 0, 1) := by decide +kernel
theorem dX6_can_14 : decode cX6_can 14 = .ok (.iload_n 2, 1) := by decide +kernel
theorem dX6_can_15 : decode cX6_can 15 = .ok (.invokevirtual 159, 3) := by decide +kernel
theorem dX6_can_18 : decode cX6_can 18 = .ok (.ifCond .eq 7, 3) := by decide +kernel
theorem dX6_can_21 : decode cX6_can 21 = .ok (.iconst 1, 1) := by decide +kernel
theorem dX6_can_22 : decode cX6_can 22 = .ok (.goto 4, 3) := by decide +kernel
theorem dX6_can_25 : decode cX6_can 25 = .ok (.iconst 0, 1) := by decide +kernel
theorem dX6_can_26 : decode cX6_can 26 = .ok (.iadd, 1) := by decide +kernel
theorem dX6_can_27 : decode cX6_can 27 = .ok (.istore_n 1, 1) := by decide +kernel
theorem dX6_can_28 : decode cX6_can 28 = .ok (.iinc 2 1, 3) := by decide +kernel
theorem dX6_can_31 : decode cX6_can 31 = .ok (.goto (-27), 3) := by decide +kernel
theorem dX6_can_34 : decode cX6_can 34 = .ok (.iload_n 1, 1) := by decide +kernel
theorem dX6_can_35 : decode cX6_can 35 = .ok (.ireturn, 1) := by decide +kernel
theorem dX6_isAhead_0 : decode cX6_isAhead 0 = .ok (.iconst 0, 1) := by decide +kernel
theorem dX6_isAhead_1 : decode cX6_isAhead 1 = .ok (.istore_n 3, 1) := by decide +kernel
theorem dX6_isAhead_2 : decode cX6_isAhead 2 = .ok (.iload_n 3, 1) := by decide +kernel
theorem dX6_isAhead_3 : decode cX6_isAhead 3 = .ok (.aload_n 0, 1) := by decide +kernel
theorem dX6_isAhead_4 : decode cX6_isAhead 4 = .ok (.getfield 13, 3) := by decide +kernel
theorem dX6_isAhead_7 : decode cX6_isAhead 7 = .ok (.iconst 2, 1) := by decide +kernel
theorem dX6_isAhead_8 : decode cX6_isAhead 8 = .ok (.iaload, 1) := by decide +kernel
theorem dX6_isAhead_9 : decode cX6_isAhead 9 = .ok (.if_icmp .ge 45, 3) := by decide +kernel
theorem dX6_isAhead_12 : decode cX6_isAhead 12 = .ok (.aload_n 0, 1) := by decide +kernel
theorem dX6_isAhead_13 : decode cX6_isAhead 13 = .ok (.iload_n 1, 1) := by decide +kernel
theorem dX6_isAhead_14 : decode cX6_isAhead 14 = .ok (.iload_n 3, 1) := by decide +kernel
theorem dX6_isAhead_15 : decode cX6_isAhead 15 = .ok (.invokevirtual 144, 3) := by decide +kernel
theorem dX6_isAhead_18 : decode cX6_isAhead 18 = .ok (.aload_n 0, 1) := by decide +kernel
theorem dX6_isAhead_19 : decode cX6_isAhead 19 = .ok (.iload_n 2, 1) := by decide +kernel
theorem dX6_isAhead_20 : decode cX6_isAhead 20 = .ok (.iload_n 3, 1) := by decide +kernel
theorem dX6_isAhead_21 : decode cX6_isAhead 21 = .ok (.invokevirtual 144, 3) := by decide +kernel
theorem dX6_isAhead_24 : decode cX6_isAhead 24 = .ok (.if_icmp .eq 24, 3) := by decide +kernel
theorem dX6_isAhead_27 : decode cX6_isAhead 27 = .ok (.aload_n 0, 1) := by decide +kernel
theorem dX6_isAhead_28 : decode cX6_isAhead 28 = .ok (.iload_n 1, 1) := by decide +kernel
theorem dX6_isAhead_29 : decode cX6_isAhead 29 = .ok (.iload_n 3, 1) := by decide +kernel
theorem dX6_isAhead_30 : decode cX6_isAhead 30 = .ok (.invokevirtual 144, 3) := by decide +kernel
theorem dX6_isAhead_33 : decode cX6_isAhead 33 = .ok (.aload_n 0, 1) := by decide +kernel
theorem dX6_isAhead_34 : decode cX6_isAhead 34 = .ok (.iload_n 2, 1) := by decide +kernel
theorem dX6_isAhead_35 : decode cX6_isAhead 35 = .ok (.iload_n 3, 1) := by decide +kernel
theorem dX6_isAhead_36 : decode cX6_isAhead 36 = .ok (.invokevirtual 144, 3) := by decide +kernel
theorem dX6_isAhead_39 : decode cX6_isAhead 39 = .ok (.if_icmp .ge 7, 3) := by decide +kernel
theorem dX6_isAhead_42 : decode cX6_isAhead 42 = .ok (.iconst 1, 1) := by decide +kernel
theorem dX6_isAhead_43 : decode cX6_isAhead 43 = .ok (.goto 4, 3) := by decide +kernel
theorem dX6_isAhead_46 : decode cX6_isAhead 46 = .ok (.iconst 0, 1) := by decide +kernel
theorem dX6_isAhead_47 : decode cX6_isAhead 47 = .ok (.ireturn, 1) := by decide +kernel
theorem dX6_isAhead_48 : decode cX6_isAhead 48 = .ok (.iinc 3 1, 3) := by decide +kernel
theorem dX6_isAhead_51 : decode cX6_isAhead 51 = .ok (.goto (-49), 3) := by decide +kernel
theorem dX6_isAhead_54 : decode cX6_isAhead 54 = .ok (.iconst 0, 1) := by decide +kernel
theorem dX6_isAhead_55 : decode cX6_isAhead 55 = .ok (.ireturn, 1) := by decide +kernel
theorem dX6_firstRow_0 : decode cX6_firstRow 0 = .ok (.bipush (-9), 2) := by decide +kernel
theorem dX6_firstRow_2 : decode cX6_firstRow 2 = .ok (.istore_n 1, 1) := by decide +kernel
theorem dX6_firstRow_3 : decode cX6_firstRow 3 = .ok (.iconst 0, 1) := by decide +kernel
theorem dX6_firstRow_4 : decode cX6_firstRow 4 = .ok (.istore_n 2, 1) := by decide +kernel
theorem dX6_firstRow_5 : decode cX6_firstRow 5 = .ok (.iload_n 2, 1) := by decide +kernel
theorem dX6_firstRow_6 : decode cX6_firstRow 6 = .ok (.aload_n 0, 1) := by decide +kernel
theorem dX6_firstRow_7 : decode cX6_firstRow 7 = .ok (.invokevirtual 156, 3) := by decide +kernel
theorem dX6_firstRow_10 : decode cX6_firstRow 10 = .ok (.if_icmp .ge 59, 3) := by decide +kernel
theorem dX6_firstRow_13 : decode cX6_firstRow 13 = .ok (.aload_n 0, 1) := by decide +kernel
theorem dX6_firstRow_14 : decode cX6_firstRow 14 = .ok (.iload_n 2, 1) := by decide +kernel
theorem dX6_firstRow_15 : decode cX6_firstRow 15 = .ok (.invokevirtual 162, 3) := by decide +kernel
theorem dX6_firstRow_18 : decode cX6_firstRow 18 = .ok (.istore_n 3, 1) := by decide +kernel
theorem dX6_firstRow_19 : decode cX6_firstRow 19 = .ok (.iload_n 1, 1) := by decide +kernel
theorem dX6_firstRow_20 : decode cX6_firstRow 20 = .ok (.ifCond .lt 30, 3) := by decide +kernel
theorem dX6_firstRow_23 : decode cX6_firstRow 23 = .ok (.iload_n 3, 1) := by decide +kernel
theorem dX6_firstRow_24 : decode cX6_firstRow 24 = .ok (.aload_n 0, 1) := by decide +kernel
theorem dX6_firstRow_25 : decode cX6_firstRow 25 = .ok (.iload_n 1, 1) := by decide +kernel
theorem dX6_firstRow_26 : decode cX6_firstRow 26 = .ok (.invokevirtual 162, 3) := by decide +kernel
theorem dX6_firstRow_29 : decode cX6_firstRow 29 = .ok (.if_icmp .gt 34, 3) := by decide +kernel
theorem dX6_firstRow_32 : decode cX6_firstRow 32 = .ok (.iload_n 3, 1) := by decide +kernel
theorem dX6_firstRow_33 : decode cX6_firstRow 33 = .ok (.aload_n 0, 1) := by decide +kernel
theorem dX6_firstRow_34 : decode cX6_firstRow 34 = .ok (.iload_n 1, 1) := by decide +kernel
theorem dX6_firstRow_35 : decode cX6_firstRow 35 = .ok (.invokevirtual 162, 3) := by decide +kernel
theorem dX6_firstRow_38 : decode cX6_firstRow 38 = .ok (.if_icmp .ne 12, 3) := by decide +kernel
theorem dX6_firstRow_41 : decode cX6_firstRow 41 = .ok (.aload_n 0, 1) := by decide +kernel
theorem dX6_firstRow_42 : decode cX6_firstRow 42 = .ok (.iload_n 2, 1) := by decide +kernel
theorem dX6_firstRow_43 : decode cX6_firstRow 43 = .ok (.iload_n 1, 1) := by decide +kernel
theorem dX6_firstRow_44 : decode cX6_firstRow 44 = .ok (.invokevirtual 165, 3) := by decide +kernel
theorem dX6_firstRow_47 : decode cX6_firstRow 47 = .ok (.ifCond .eq 16, 3) := by decide +kernel
theorem dX6_firstRow_50 : decode cX6_firstRow 50 = .ok (.aload_n 0, 1) := by decide +kernel
theorem dX6_firstRow_51 : decode cX6_firstRow 51 = .ok (.iload_n 2, 1) := by decide +kernel
theorem dX6_firstRow_52 : decode cX6_firstRow 52 = .ok (.invokevirtual 159, 3) := by decide +kernel
theorem dX6_firstRow_55 : decode cX6_firstRow 55 = .ok (.ifCond .ne 6, 3) := by decide +kernel
theorem dX6_firstRow_58 : decode cX6_firstRow 58 = .ok (.goto 5, 3) := by decide +kernel
theorem dX6_firstRow_61 : decode cX6_firstRow 61 = .ok (.iload_n 2, 1) := by decide +kernel
theorem dX6_firstRow_62 : decode cX6_firstRow 62 = .ok (.istore_n 1, 1) := by decide +kernel
theorem dX6_firstRow_63 : decode cX6_firstRow 63 = .ok (.iinc 2 1, 3) := by decide +kernel
theorem dX6_firstRow_66 : decode cX6_firstRow 66 = .ok (.goto (-61), 3) := by decide +kernel
theorem dX6_firstRow_69 : decode cX6_firstRow 69 = .ok (.iload_n 1, 1) := by decide +kernel
theorem dX6_firstRow_70 : decode cX6_firstRow 70 = .ok (.ireturn, 1) := by decide +kernel
theorem dX6_fewest_0 : decode cX6_fewest 0 = .ok (.aload_n 0, 1) := by decide +kernel
theorem dX6_fewest_1 : decode cX6_fewest 1 = .ok (.invokevirtual 168, 3) := by decide +kernel
theorem dX6_fewest_4 : decode cX6_fewest 4 = .ok (.istore_n 1, 1) := by decide +kernel
theorem dX6_fewest_5 : decode cX6_fewest 5 = .ok (.iload_n 1, 1) := by decide +kernel
theorem dX6_fewest_6 : decode cX6_fewest 6 = .ok (.ifCond .ge 8, 3) := by decide +kernel
theorem dX6_fewest_9 : decode cX6_fewest 9 = .ok (.bipush (-9), 2) := by decide +kernel
theorem dX6_fewest_11 : decode cX6_fewest 11 = .ok (.goto 8, 3) := by decide +kernel
theorem dX6_fewest_14 : decode cX6_fewest 14 = .ok (.aload_n 0, 1) := by decide +kernel
theorem dX6_fewest_15 : decode cX6_fewest 15 = .ok (.iload_n 1, 1) := by decide +kernel
theorem dX6_fewest_16 : decode cX6_fewest 16 = .ok (.invokevirtual 162, 3) := by decide +kernel
theorem dX6_fewest_19 : decode cX6_fewest 19 = .ok (.ireturn, 1) := by decide +kernel
theorem dX6_cheapest_0 : decode cX6_cheapest 0 = .ok (.bipush (-9), 2) := by decide +kernel
theorem dX6_cheapest_2 : decode cX6_cheapest 2 = .ok (.istore_n 1, 1) := by decide +kernel
theorem dX6_cheapest_3 : decode cX6_cheapest 3 = .ok (.iconst 0, 1) := by decide +kernel
theorem dX6_cheapest_4 : decode cX6_cheapest 4 = .ok (.istore_n 2, 1) := by decide +kernel
theorem dX6_cheapest_5 : decode cX6_cheapest 5 = .ok (.iload_n 2, 1) := by decide +kernel
theorem dX6_cheapest_6 : decode cX6_cheapest 6 = .ok (.aload_n 0, 1) := by decide +kernel
theorem dX6_cheapest_7 : decode cX6_cheapest 7 = .ok (.invokevirtual 156, 3) := by decide +kernel
theorem dX6_cheapest_10 : decode cX6_cheapest 10 = .ok (.if_icmp .ge 36, 3) := by decide +kernel
theorem dX6_cheapest_13 : decode cX6_cheapest 13 = .ok (.iload_n 1, 1) := by decide +kernel
theorem dX6_cheapest_14 : decode cX6_cheapest 14 = .ok (.ifCond .lt 12, 3) := by decide +kernel
theorem dX6_cheapest_17 : decode cX6_cheapest 17 = .ok (.aload_n 0, 1) := by decide +kernel
theorem dX6_cheapest_18 : decode cX6_cheapest 18 = .ok (.iload_n 2, 1) := by decide +kernel
theorem dX6_cheapest_19 : decode cX6_cheapest 19 = .ok (.invokevirtual 171, 3) := by decide +kernel
theorem dX6_cheapest_22 : decode cX6_cheapest 22 = .ok (.iload_n 1, 1) := by decide +kernel
theorem dX6_cheapest_23 : decode cX6_cheapest 23 = .ok (.if_icmp .ge 17, 3) := by decide +kernel
theorem dX6_cheapest_26 : decode cX6_cheapest 26 = .ok (.aload_n 0, 1) := by decide +kernel
theorem dX6_cheapest_27 : decode cX6_cheapest 27 = .ok (.iload_n 2, 1) := by decide +kernel
theorem dX6_cheapest_28 : decode cX6_cheapest 28 = .ok (.invokevirtual 159, 3) := by decide +kernel
theorem dX6_cheapest_31 : decode cX6_cheapest 31 = .ok (.ifCond .eq 9, 3) := by decide +kernel
theorem dX6_cheapest_34 : decode cX6_cheapest 34 = .ok (.aload_n 0, 1) := by decide +kernel
theorem dX6_cheapest_35 : decode cX6_cheapest 35 = .ok (.iload_n 2, 1) := by decide +kernel
theorem dX6_cheapest_36 : decode cX6_cheapest 36 = .ok (.invokevirtual 171, 3) := by decide +kernel
theorem dX6_cheapest_39 : decode cX6_cheapest 39 = .ok (.istore_n 1, 1) := by decide +kernel
theorem dX6_cheapest_40 : decode cX6_cheapest 40 = .ok (.iinc 2 1, 3) := by decide +kernel
theorem dX6_cheapest_43 : decode cX6_cheapest 43 = .ok (.goto (-38), 3) := by decide +kernel
theorem dX6_cheapest_46 : decode cX6_cheapest 46 = .ok (.iload_n 1, 1) := by decide +kernel
theorem dX6_cheapest_47 : decode cX6_cheapest 47 = .ok (.ireturn, 1) := by decide +kernel
theorem dX6_how_0 : decode cX6_how 0 = .ok (.aload_n 0, 1) := by decide +kernel
theorem dX6_how_1 : decode cX6_how 1 = .ok (.iload_n 1, 1) := by decide +kernel
theorem dX6_how_2 : decode cX6_how 2 = .ok (.invokevirtual 118, 3) := by decide +kernel
theorem dX6_how_5 : decode cX6_how 5 = .ok (.ifCond .ne 9, 3) := by decide +kernel
theorem dX6_how_8 : decode cX6_how 8 = .ok (.aload_n 0, 1) := by decide +kernel
theorem dX6_how_9 : decode cX6_how 9 = .ok (.iconst (-1), 1) := by decide +kernel
theorem dX6_how_10 : decode cX6_how 10 = .ok (.invokevirtual 52, 3) := by decide +kernel
theorem dX6_how_13 : decode cX6_how 13 = .ok (.ireturn, 1) := by decide +kernel
theorem dX6_how_14 : decode cX6_how 14 = .ok (.aload_n 0, 1) := by decide +kernel
theorem dX6_how_15 : decode cX6_how 15 = .ok (.invokevirtual 168, 3) := by decide +kernel
theorem dX6_how_18 : decode cX6_how 18 = .ok (.istore_n 2, 1) := by decide +kernel
theorem dX6_how_19 : decode cX6_how 19 = .ok (.iload_n 2, 1) := by decide +kernel
theorem dX6_how_20 : decode cX6_how 20 = .ok (.ifCond .ge 8, 3) := by decide +kernel
theorem dX6_how_23 : decode cX6_how 23 = .ok (.bipush (-9), 2) := by decide +kernel
theorem dX6_how_25 : decode cX6_how 25 = .ok (.goto 9, 3) := by decide +kernel
theorem dX6_how_28 : decode cX6_how 28 = .ok (.aload_n 0, 1) := by decide +kernel
theorem dX6_how_29 : decode cX6_how 29 = .ok (.iload_n 2, 1) := by decide +kernel
theorem dX6_how_30 : decode cX6_how 30 = .ok (.iload_n 1, 1) := by decide +kernel
theorem dX6_how_31 : decode cX6_how 31 = .ok (.invokevirtual 144, 3) := by decide +kernel
theorem dX6_how_34 : decode cX6_how 34 = .ok (.ireturn, 1) := by decide +kernel
theorem dX6_nothingBy_0 : decode cX6_nothingBy 0 = .ok (.iconst 0, 1) := by decide +kernel
theorem dX6_nothingBy_1 : decode cX6_nothingBy 1 = .ok (.istore_n 2, 1) := by decide +kernel
theorem dX6_nothingBy_2 : decode cX6_nothingBy 2 = .ok (.aload_n 0, 1) := by decide +kernel
theorem dX6_nothingBy_3 : decode cX6_nothingBy 3 = .ok (.invokevirtual 147, 3) := by decide +kernel
theorem dX6_nothingBy_6 : decode cX6_nothingBy 6 = .ok (.aload_n 0, 1) := by decide +kernel
theorem dX6_nothingBy_7 : decode cX6_nothingBy 7 = .ok (.invokevirtual 174, 3) := by decide +kernel
theorem dX6_nothingBy_10 : decode cX6_nothingBy 10 = .ok (.iconst 0, 1) := by decide +kernel
theorem dX6_nothingBy_11 : decode cX6_nothingBy 11 = .ok (.istore_n 3, 1) := by decide +kernel
theorem dX6_nothingBy_12 : decode cX6_nothingBy 12 = .ok (.iload_n 3, 1) := by decide +kernel
theorem dX6_nothingBy_13 : decode cX6_nothingBy 13 = .ok (.aload_n 0, 1) := by decide +kernel
theorem dX6_nothingBy_14 : decode cX6_nothingBy 14 = .ok (.invokevirtual 156, 3) := by decide +kernel
theorem dX6_nothingBy_17 : decode cX6_nothingBy 17 = .ok (.if_icmp .ge 96, 3) := by decide +kernel
theorem dX6_nothingBy_20 : decode cX6_nothingBy 20 = .ok (.iconst 1, 1) := by decide +kernel
theorem dX6_nothingBy_21 : decode cX6_nothingBy 21 = .ok (.istore 4, 2) := by decide +kernel
theorem dX6_nothingBy_23 : decode cX6_nothingBy 23 = .ok (.iconst 0, 1) := by decide +kernel
theorem dX6_nothingBy_24 : decode cX6_nothingBy 24 = .ok (.istore 5, 2) := by decide +kernel
theorem dX6_nothingBy_26 : decode cX6_nothingBy 26 = .ok (.iload 5, 2) := by decide +kernel
theorem dX6_nothingBy_28 : decode cX6_nothingBy 28 = .ok (.aload_n 0, 1) := by decide +kernel
theorem dX6_nothingBy_29 : decode cX6_nothingBy 29 = .ok (.getfield 13, 3) := by decide +kernel
theorem dX6_nothingBy_32 : decode cX6_nothingBy 32 = .ok (.iconst 2, 1) := by decide +kernel
theorem dX6_nothingBy_33 : decode cX6_nothingBy 33 = .ok (.iaload, 1) := by decide +kernel
theorem dX6_nothingBy_34 : decode cX6_nothingBy 34 = .ok (.if_icmp .ge 41, 3) := by decide +kernel
theorem dX6_nothingBy_37 : decode cX6_nothingBy 37 = .ok (.iload 4, 2) := by decide +kernel
theorem dX6_nothingBy_39 : decode cX6_nothingBy 39 = .ok (.ifCond .eq 27, 3) := by decide +kernel
theorem dX6_nothingBy_42 : decode cX6_nothingBy 42 = .ok (.iload_n 1, 1) := by decide +kernel
theorem dX6_nothingBy_43 : decode cX6_nothingBy 43 = .ok (.iload 5, 2) := by decide +kernel
theorem dX6_nothingBy_45 : decode cX6_nothingBy 45 = .ok (.ishr, 1) := by decide +kernel
theorem dX6_nothingBy_46 : decode cX6_nothingBy 46 = .ok (.iconst 1, 1) := by decide +kernel
theorem dX6_nothingBy_47 : decode cX6_nothingBy 47 = .ok (.iand, 1) := by decide +kernel
theorem dX6_nothingBy_48 : decode cX6_nothingBy 48 = .ok (.iconst 1, 1) := by decide +kernel
theorem dX6_nothingBy_49 : decode cX6_nothingBy 49 = .ok (.if_icmp .eq 13, 3) := by decide +kernel
theorem dX6_nothingBy_52 : decode cX6_nothingBy 52 = .ok (.aload_n 0, 1) := by decide +kernel
theorem dX6_nothingBy_53 : decode cX6_nothingBy 53 = .ok (.iload_n 3, 1) := by decide +kernel
theorem dX6_nothingBy_54 : decode cX6_nothingBy 54 = .ok (.iload 5, 2) := by decide +kernel
theorem dX6_nothingBy_56 : decode cX6_nothingBy 56 = .ok (.invokevirtual 144, 3) := by decide +kernel
theorem dX6_nothingBy_59 : decode cX6_nothingBy 59 = .ok (.ifCond .ne 7, 3) := by decide +kernel
theorem dX6_nothingBy_62 : decode cX6_nothingBy 62 = .ok (.iconst 1, 1) := by decide +kernel
theorem dX6_nothingBy_63 : decode cX6_nothingBy 63 = .ok (.goto 4, 3) := by decide +kernel
theorem dX6_nothingBy_66 : decode cX6_nothingBy 66 = .ok (.iconst 0, 1) := by decide +kernel
theorem dX6_nothingBy_67 : decode cX6_nothingBy 67 = .ok (.istore 4, 2) := by decide +kernel
theorem dX6_nothingBy_69 : decode cX6_nothingBy 69 = .ok (.iinc 5 1, 3) := by decide +kernel
theorem dX6_nothingBy_72 : decode cX6_nothingBy 72 = .ok (.goto (-46), 3) := by decide +kernel
theorem dX6_nothingBy_75 : decode cX6_nothingBy 75 = .ok (.iload 4, 2) := by decide +kernel
theorem dX6_nothingBy_77 : decode cX6_nothingBy 77 = .ok (.ifCond .ne 6, 3) := by decide +kernel
theorem dX6_nothingBy_80 : decode cX6_nothingBy 80 = .ok (.goto 27, 3) := by decide +kernel
theorem dX6_nothingBy_83 : decode cX6_nothingBy 83 = .ok (.aload_n 0, 1) := by decide +kernel
theorem dX6_nothingBy_84 : decode cX6_nothingBy 84 = .ok (.iload_n 3, 1) := by decide +kernel
theorem dX6_nothingBy_85 : decode cX6_nothingBy 85 = .ok (.invokevirtual 150, 3) := by decide +kernel
theorem dX6_nothingBy_88 : decode cX6_nothingBy 88 = .ok (.iload_n 2, 1) := by decide +kernel
theorem dX6_nothingBy_89 : decode cX6_nothingBy 89 = .ok (.aload_n 0, 1) := by decide +kernel
theorem dX6_nothingBy_90 : decode cX6_nothingBy 90 = .ok (.invokevirtual 131, 3) := by decide +kernel
theorem dX6_nothingBy_93 : decode cX6_nothingBy 93 = .ok (.ifCond .ne 7, 3) := by decide +kernel
theorem dX6_nothingBy_96 : decode cX6_nothingBy 96 = .ok (.iconst 1, 1) := by decide +kernel
theorem dX6_nothingBy_97 : decode cX6_nothingBy 97 = .ok (.goto 4, 3) := by decide +kernel
theorem dX6_nothingBy_100 : decode cX6_nothingBy 100 = .ok (.iconst 0, 1) := by decide +kernel
theorem dX6_nothingBy_101 : decode cX6_nothingBy 101 = .ok (.iadd, 1) := by decide +kernel
theorem dX6_nothingBy_102 : decode cX6_nothingBy 102 = .ok (.istore_n 2, 1) := by decide +kernel
theorem dX6_nothingBy_103 : decode cX6_nothingBy 103 = .ok (.aload_n 0, 1) := by decide +kernel
theorem dX6_nothingBy_104 : decode cX6_nothingBy 104 = .ok (.invokevirtual 174, 3) := by decide +kernel
theorem dX6_nothingBy_107 : decode cX6_nothingBy 107 = .ok (.iinc 3 1, 3) := by decide +kernel
theorem dX6_nothingBy_110 : decode cX6_nothingBy 110 = .ok (.goto (-98), 3) := by decide +kernel
theorem dX6_nothingBy_113 : decode cX6_nothingBy 113 = .ok (.aload_n 0, 1) := by decide +kernel
theorem dX6_nothingBy_114 : decode cX6_nothingBy 114 = .ok (.invokevirtual 153, 3) := by decide +kernel
theorem dX6_nothingBy_117 : decode cX6_nothingBy 117 = .ok (.iload_n 2, 1) := by decide +kernel
theorem dX6_nothingBy_118 : decode cX6_nothingBy 118 = .ok (.ireturn, 1) := by decide +kernel
theorem dX6_allPeople_0 : decode cX6_allPeople 0 = .ok (.iconst 1, 1) := by decide +kernel
theorem dX6_allPeople_1 : decode cX6_allPeople 1 = .ok (.aload_n 0, 1) := by decide +kernel
theorem dX6_allPeople_2 : decode cX6_allPeople 2 = .ok (.getfield 13, 3) := by decide +kernel
theorem dX6_allPeople_5 : decode cX6_allPeople 5 = .ok (.iconst 2, 1) := by decide +kernel
theorem dX6_allPeople_6 : decode cX6_allPeople 6 = .ok (.iaload, 1) := by decide +kernel
theorem dX6_allPeople_7 : decode cX6_allPeople 7 = .ok (.ishl, 1) := by decide +kernel
end
section
theorem dX6_allPeople_8 : decode cX6_allPeople 8 = .ok (.iconst 1, 1) := by decide +kernel
theorem dX6_allPeople_9 : decode cX6_allPeople 9 = .ok (.isub, 1) := by decide +kernel
theorem dX6_allPeople_10 : decode cX6_allPeople 10 = .ok (.ireturn, 1) := by decide +kernel
theorem dX6_nothing_0 : decode cX6_nothing 0 = .ok (.aload_n 0, 1) := by decide +kernel
theorem dX6_nothing_1 : decode cX6_nothing 1 = .ok (.aload_n 0, 1) := by decide +kernel
theorem dX6_nothing_2 : decode cX6_nothing 2 = .ok (.invokevirtual 177, 3) := by decide +kernel
theorem dX6_nothing_5 : decode cX6_nothing 5 = .ok (.invokevirtual 180, 3) := by decide +kernel
theorem dX6_nothing_8 : decode cX6_nothing 8 = .ok (.ireturn, 1) := by decide +kernel
theorem dX6_bits_0 : decode cX6_bits 0 = .ok (.iconst 0, 1) := by decide +kernel
theorem dX6_bits_1 : decode cX6_bits 1 = .ok (.istore_n 1, 1) := by decide +kernel
theorem dX6_bits_2 : decode cX6_bits 2 = .ok (.iload_n 0, 1) := by decide +kernel
theorem dX6_bits_3 : decode cX6_bits 3 = .ok (.istore_n 2, 1) := by decide +kernel
theorem dX6_bits_4 : decode cX6_bits 4 = .ok (.iload_n 2, 1) := by decide +kernel
theorem dX6_bits_5 : decode cX6_bits 5 = .ok (.ifCond .le 16, 3) := by decide +kernel
theorem dX6_bits_8 : decode cX6_bits 8 = .ok (.iload_n 1, 1) := by decide +kernel
theorem dX6_bits_9 : decode cX6_bits 9 = .ok (.iload_n 2, 1) := by decide +kernel
theorem dX6_bits_10 : decode cX6_bits 10 = .ok (.iconst 1, 1) := by decide +kernel
theorem dX6_bits_11 : decode cX6_bits 11 = .ok (.iand, 1) := by decide +kernel
theorem dX6_bits_12 : decode cX6_bits 12 = .ok (.iadd, 1) := by decide +kernel
theorem dX6_bits_13 : decode cX6_bits 13 = .ok (.istore_n 1, 1) := by decide +kernel
theorem dX6_bits_14 : decode cX6_bits 14 = .ok (.iload_n 2, 1) := by decide +kernel
theorem dX6_bits_15 : decode cX6_bits 15 = .ok (.iconst 1, 1) := by decide +kernel
theorem dX6_bits_16 : decode cX6_bits 16 = .ok (.ishr, 1) := by decide +kernel
theorem dX6_bits_17 : decode cX6_bits 17 = .ok (.istore_n 2, 1) := by decide +kernel
theorem dX6_bits_18 : decode cX6_bits 18 = .ok (.goto (-14), 3) := by decide +kernel
theorem dX6_bits_21 : decode cX6_bits 21 = .ok (.iload_n 1, 1) := by decide +kernel
theorem dX6_bits_22 : decode cX6_bits 22 = .ok (.ireturn, 1) := by decide +kernel
theorem dX6_states_0 : decode cX6_states 0 = .ok (.aload_n 0, 1) := by decide +kernel
theorem dX6_states_1 : decode cX6_states 1 = .ok (.invokevirtual 156, 3) := by decide +kernel
theorem dX6_states_4 : decode cX6_states 4 = .ok (.aload_n 0, 1) := by decide +kernel
theorem dX6_states_5 : decode cX6_states 5 = .ok (.aload_n 0, 1) := by decide +kernel
theorem dX6_states_6 : decode cX6_states 6 = .ok (.invokevirtual 177, 3) := by decide +kernel
theorem dX6_states_9 : decode cX6_states 9 = .ok (.invokevirtual 180, 3) := by decide +kernel
theorem dX6_states_12 : decode cX6_states 12 = .ok (.idiv, 1) := by decide +kernel
theorem dX6_states_13 : decode cX6_states 13 = .ok (.ireturn, 1) := by decide +kernel
theorem dX6_stuck_0 : decode cX6_stuck 0 = .ok (.iconst 0, 1) := by decide +kernel
theorem dX6_stuck_1 : decode cX6_stuck 1 = .ok (.istore_n 1, 1) := by decide +kernel
theorem dX6_stuck_2 : decode cX6_stuck 2 = .ok (.iconst 0, 1) := by decide +kernel
theorem dX6_stuck_3 : decode cX6_stuck 3 = .ok (.istore_n 2, 1) := by decide +kernel
theorem dX6_stuck_4 : decode cX6_stuck 4 = .ok (.iload_n 2, 1) := by decide +kernel
theorem dX6_stuck_5 : decode cX6_stuck 5 = .ok (.aload_n 0, 1) := by decide +kernel
theorem dX6_stuck_6 : decode cX6_stuck 6 = .ok (.getfield 13, 3) := by decide +kernel
theorem dX6_stuck_9 : decode cX6_stuck 9 = .ok (.iconst 0, 1) := by decide +kernel
theorem dX6_stuck_10 : decode cX6_stuck 10 = .ok (.iaload, 1) := by decide +kernel
theorem dX6_stuck_11 : decode cX6_stuck 11 = .ok (.if_icmp .ge 21, 3) := by decide +kernel
theorem dX6_stuck_14 : decode cX6_stuck 14 = .ok (.iload_n 1, 1) := by decide +kernel
theorem dX6_stuck_15 : decode cX6_stuck 15 = .ok (.aload_n 0, 1) := by decide +kernel
theorem dX6_stuck_16 : decode cX6_stuck 16 = .ok (.getfield 13, 3) := by decide +kernel
theorem dX6_stuck_19 : decode cX6_stuck 19 = .ok (.bipush 28, 2) := by decide +kernel
theorem dX6_stuck_21 : decode cX6_stuck 21 = .ok (.iload_n 2, 1) := by decide +kernel
theorem dX6_stuck_22 : decode cX6_stuck 22 = .ok (.iadd, 1) := by decide +kernel
theorem dX6_stuck_23 : decode cX6_stuck 23 = .ok (.iaload, 1) := by decide +kernel
theorem dX6_stuck_24 : decode cX6_stuck 24 = .ok (.iadd, 1) := by decide +kernel
theorem dX6_stuck_25 : decode cX6_stuck 25 = .ok (.istore_n 1, 1) := by decide +kernel
theorem dX6_stuck_26 : decode cX6_stuck 26 = .ok (.iinc 2 1, 3) := by decide +kernel
theorem dX6_stuck_29 : decode cX6_stuck 29 = .ok (.goto (-25), 3) := by decide +kernel
theorem dX6_stuck_32 : decode cX6_stuck 32 = .ok (.iload_n 1, 1) := by decide +kernel
theorem dX6_stuck_33 : decode cX6_stuck 33 = .ok (.ireturn, 1) := by decide +kernel
theorem dX6_keySet_0 : decode cX6_keySet 0 = .ok (.bipush (-9), 2) := by decide +kernel
theorem dX6_keySet_2 : decode cX6_keySet 2 = .ok (.istore_n 1, 1) := by decide +kernel
theorem dX6_keySet_3 : decode cX6_keySet 3 = .ok (.aload_n 0, 1) := by decide +kernel
theorem dX6_keySet_4 : decode cX6_keySet 4 = .ok (.invokevirtual 183, 3) := by decide +kernel
theorem dX6_keySet_7 : decode cX6_keySet 7 = .ok (.ifCond .le 6, 3) := by decide +kernel
theorem dX6_keySet_10 : decode cX6_keySet 10 = .ok (.bipush (-9), 2) := by decide +kernel
theorem dX6_keySet_12 : decode cX6_keySet 12 = .ok (.ireturn, 1) := by decide +kernel
theorem dX6_keySet_13 : decode cX6_keySet 13 = .ok (.iconst 0, 1) := by decide +kernel
theorem dX6_keySet_14 : decode cX6_keySet 14 = .ok (.istore_n 2, 1) := by decide +kernel
theorem dX6_keySet_15 : decode cX6_keySet 15 = .ok (.iload_n 2, 1) := by decide +kernel
theorem dX6_keySet_16 : decode cX6_keySet 16 = .ok (.aload_n 0, 1) := by decide +kernel
theorem dX6_keySet_17 : decode cX6_keySet 17 = .ok (.invokevirtual 177, 3) := by decide +kernel
theorem dX6_keySet_20 : decode cX6_keySet 20 = .ok (.if_icmp .gt 69, 3) := by decide +kernel
theorem dX6_keySet_23 : decode cX6_keySet 23 = .ok (.iload_n 1, 1) := by decide +kernel
theorem dX6_keySet_24 : decode cX6_keySet 24 = .ok (.ifCond .lt 14, 3) := by decide +kernel
theorem dX6_keySet_27 : decode cX6_keySet 27 = .ok (.iload_n 2, 1) := by decide +kernel
theorem dX6_keySet_28 : decode cX6_keySet 28 = .ok (.invokestatic 186, 3) := by decide +kernel
theorem dX6_keySet_31 : decode cX6_keySet 31 = .ok (.iload_n 1, 1) := by decide +kernel
theorem dX6_keySet_32 : decode cX6_keySet 32 = .ok (.invokestatic 186, 3) := by decide +kernel
theorem dX6_keySet_35 : decode cX6_keySet 35 = .ok (.if_icmp .ge 48, 3) := by decide +kernel
theorem dX6_keySet_38 : decode cX6_keySet 38 = .ok (.iload_n 2, 1) := by decide +kernel
theorem dX6_keySet_39 : decode cX6_keySet 39 = .ok (.invokestatic 186, 3) := by decide +kernel
theorem dX6_keySet_42 : decode cX6_keySet 42 = .ok (.aload_n 0, 1) := by decide +kernel
theorem dX6_keySet_43 : decode cX6_keySet 43 = .ok (.getfield 13, 3) := by decide +kernel
theorem dX6_keySet_46 : decode cX6_keySet 46 = .ok (.iconst 0, 1) := by decide +kernel
theorem dX6_keySet_47 : decode cX6_keySet 47 = .ok (.iaload, 1) := by decide +kernel
theorem dX6_keySet_48 : decode cX6_keySet 48 = .ok (.if_icmp .ge 6, 3) := by decide +kernel
theorem dX6_keySet_51 : decode cX6_keySet 51 = .ok (.goto 32, 3) := by decide +kernel
theorem dX6_keySet_54 : decode cX6_keySet 54 = .ok (.aload_n 0, 1) := by decide +kernel
theorem dX6_keySet_55 : decode cX6_keySet 55 = .ok (.iload_n 2, 1) := by decide +kernel
theorem dX6_keySet_56 : decode cX6_keySet 56 = .ok (.invokestatic 186, 3) := by decide +kernel
theorem dX6_keySet_59 : decode cX6_keySet 59 = .ok (.invokevirtual 137, 3) := by decide +kernel
theorem dX6_keySet_62 : decode cX6_keySet 62 = .ok (.aload_n 0, 1) := by decide +kernel
theorem dX6_keySet_63 : decode cX6_keySet 63 = .ok (.iload_n 2, 1) := by decide +kernel
theorem dX6_keySet_64 : decode cX6_keySet 64 = .ok (.invokevirtual 180, 3) := by decide +kernel
theorem dX6_keySet_67 : decode cX6_keySet 67 = .ok (.idiv, 1) := by decide +kernel
theorem dX6_keySet_68 : decode cX6_keySet 68 = .ok (.aload_n 0, 1) := by decide +kernel
theorem dX6_keySet_69 : decode cX6_keySet 69 = .ok (.aload_n 0, 1) := by decide +kernel
theorem dX6_keySet_70 : decode cX6_keySet 70 = .ok (.getfield 13, 3) := by decide +kernel
theorem dX6_keySet_73 : decode cX6_keySet 73 = .ok (.iconst 0, 1) := by decide +kernel
theorem dX6_keySet_74 : decode cX6_keySet 74 = .ok (.iaload, 1) := by decide +kernel
theorem dX6_keySet_75 : decode cX6_keySet 75 = .ok (.invokevirtual 137, 3) := by decide +kernel
theorem dX6_keySet_78 : decode cX6_keySet 78 = .ok (.if_icmp .ne 5, 3) := by decide +kernel
theorem dX6_keySet_81 : decode cX6_keySet 81 = .ok (.iload_n 2, 1) := by decide +kernel
theorem dX6_keySet_82 : decode cX6_keySet 82 = .ok (.istore_n 1, 1) := by decide +kernel
theorem dX6_keySet_83 : decode cX6_keySet 83 = .ok (.iinc 2 1, 3) := by decide +kernel
theorem dX6_keySet_86 : decode cX6_keySet 86 = .ok (.goto (-71), 3) := by decide +kernel
theorem dX6_keySet_89 : decode cX6_keySet 89 = .ok (.iload_n 1, 1) := by decide +kernel
theorem dX6_keySet_90 : decode cX6_keySet 90 = .ok (.ireturn, 1) := by decide +kernel
theorem dX6_keys_0 : decode cX6_keys 0 = .ok (.iload_n 1, 1) := by decide +kernel
theorem dX6_keys_1 : decode cX6_keys 1 = .ok (.iconst 2, 1) := by decide +kernel
theorem dX6_keys_2 : decode cX6_keys 2 = .ok (.invokestatic 40, 3) := by decide +kernel
theorem dX6_keys_5 : decode cX6_keys 5 = .ok (.ifCond .ne 10, 3) := by decide +kernel
theorem dX6_keys_8 : decode cX6_keys 8 = .ok (.aload_n 0, 1) := by decide +kernel
theorem dX6_keys_9 : decode cX6_keys 9 = .ok (.bipush (-2), 2) := by decide +kernel
theorem dX6_keys_11 : decode cX6_keys 11 = .ok (.invokevirtual 52, 3) := by decide +kernel
theorem dX6_keys_14 : decode cX6_keys 14 = .ok (.ireturn, 1) := by decide +kernel
theorem dX6_keys_15 : decode cX6_keys 15 = .ok (.aload_n 0, 1) := by decide +kernel
theorem dX6_keys_16 : decode cX6_keys 16 = .ok (.invokevirtual 189, 3) := by decide +kernel
theorem dX6_keys_19 : decode cX6_keys 19 = .ok (.istore_n 2, 1) := by decide +kernel
theorem dX6_keys_20 : decode cX6_keys 20 = .ok (.iload_n 2, 1) := by decide +kernel
theorem dX6_keys_21 : decode cX6_keys 21 = .ok (.ifCond .lt 8, 3) := by decide +kernel
theorem dX6_keys_24 : decode cX6_keys 24 = .ok (.iload_n 1, 1) := by decide +kernel
theorem dX6_keys_25 : decode cX6_keys 25 = .ok (.iconst 1, 1) := by decide +kernel
theorem dX6_keys_26 : decode cX6_keys 26 = .ok (.if_icmp .ne 7, 3) := by decide +kernel
theorem dX6_keys_29 : decode cX6_keys 29 = .ok (.iload_n 2, 1) := by decide +kernel
theorem dX6_keys_30 : decode cX6_keys 30 = .ok (.goto 7, 3) := by decide +kernel
theorem dX6_keys_33 : decode cX6_keys 33 = .ok (.iload_n 2, 1) := by decide +kernel
theorem dX6_keys_34 : decode cX6_keys 34 = .ok (.invokestatic 186, 3) := by decide +kernel
theorem dX6_keys_37 : decode cX6_keys 37 = .ok (.ireturn, 1) := by decide +kernel
theorem dX6_findsBeen_0 : decode cX6_findsBeen 0 = .ok (.aload_n 0, 1) := by decide +kernel
theorem dX6_findsBeen_1 : decode cX6_findsBeen 1 = .ok (.invokevirtual 131, 3) := by decide +kernel
theorem dX6_findsBeen_4 : decode cX6_findsBeen 4 = .ok (.istore_n 1, 1) := by decide +kernel
theorem dX6_findsBeen_5 : decode cX6_findsBeen 5 = .ok (.aload_n 0, 1) := by decide +kernel
theorem dX6_findsBeen_6 : decode cX6_findsBeen 6 = .ok (.iconst 0, 1) := by decide +kernel
theorem dX6_findsBeen_7 : decode cX6_findsBeen 7 = .ok (.putfield 192, 3) := by decide +kernel
theorem dX6_findsBeen_10 : decode cX6_findsBeen 10 = .ok (.aload_n 0, 1) := by decide +kernel
theorem dX6_findsBeen_11 : decode cX6_findsBeen 11 = .ok (.aload_n 0, 1) := by decide +kernel
theorem dX6_findsBeen_12 : decode cX6_findsBeen 12 = .ok (.invokevirtual 177, 3) := by decide +kernel
theorem dX6_findsBeen_15 : decode cX6_findsBeen 15 = .ok (.putfield 195, 3) := by decide +kernel
theorem dX6_findsBeen_18 : decode cX6_findsBeen 18 = .ok (.aload_n 0, 1) := by decide +kernel
theorem dX6_findsBeen_19 : decode cX6_findsBeen 19 = .ok (.invokevirtual 147, 3) := by decide +kernel
theorem dX6_findsBeen_22 : decode cX6_findsBeen 22 = .ok (.iconst 0, 1) := by decide +kernel
theorem dX6_findsBeen_23 : decode cX6_findsBeen 23 = .ok (.istore_n 2, 1) := by decide +kernel
theorem dX6_findsBeen_24 : decode cX6_findsBeen 24 = .ok (.iload_n 2, 1) := by decide +kernel
theorem dX6_findsBeen_25 : decode cX6_findsBeen 25 = .ok (.aload_n 0, 1) := by decide +kernel
theorem dX6_findsBeen_26 : decode cX6_findsBeen 26 = .ok (.invokevirtual 156, 3) := by decide +kernel
theorem dX6_findsBeen_29 : decode cX6_findsBeen 29 = .ok (.if_icmp .ge 80, 3) := by decide +kernel
theorem dX6_findsBeen_32 : decode cX6_findsBeen 32 = .ok (.aload_n 0, 1) := by decide +kernel
theorem dX6_findsBeen_33 : decode cX6_findsBeen 33 = .ok (.invokevirtual 174, 3) := by decide +kernel
theorem dX6_findsBeen_36 : decode cX6_findsBeen 36 = .ok (.aload_n 0, 1) := by decide +kernel
theorem dX6_findsBeen_37 : decode cX6_findsBeen 37 = .ok (.iload_n 2, 1) := by decide +kernel
theorem dX6_findsBeen_38 : decode cX6_findsBeen 38 = .ok (.invokevirtual 150, 3) := by decide +kernel
theorem dX6_findsBeen_41 : decode cX6_findsBeen 41 = .ok (.aload_n 0, 1) := by decide +kernel
theorem dX6_findsBeen_42 : decode cX6_findsBeen 42 = .ok (.invokevirtual 131, 3) := by decide +kernel
theorem dX6_findsBeen_45 : decode cX6_findsBeen 45 = .ok (.iload_n 1, 1) := by decide +kernel
theorem dX6_findsBeen_46 : decode cX6_findsBeen 46 = .ok (.if_icmp .eq 6, 3) := by decide +kernel
theorem dX6_findsBeen_49 : decode cX6_findsBeen 49 = .ok (.goto 54, 3) := by decide +kernel
theorem dX6_findsBeen_52 : decode cX6_findsBeen 52 = .ok (.aload_n 0, 1) := by decide +kernel
theorem dX6_findsBeen_53 : decode cX6_findsBeen 53 = .ok (.dup, 1) := by decide +kernel
theorem dX6_findsBeen_54 : decode cX6_findsBeen 54 = .ok (.getfield 192, 3) := by decide +kernel
theorem dX6_findsBeen_57 : decode cX6_findsBeen 57 = .ok (.iconst 1, 1) := by decide +kernel
theorem dX6_findsBeen_58 : decode cX6_findsBeen 58 = .ok (.iadd, 1) := by decide +kernel
theorem dX6_findsBeen_59 : decode cX6_findsBeen 59 = .ok (.putfield 192, 3) := by decide +kernel
theorem dX6_findsBeen_62 : decode cX6_findsBeen 62 = .ok (.iconst 0, 1) := by decide +kernel
theorem dX6_findsBeen_63 : decode cX6_findsBeen 63 = .ok (.istore_n 3, 1) := by decide +kernel
theorem dX6_findsBeen_64 : decode cX6_findsBeen 64 = .ok (.iload_n 3, 1) := by decide +kernel
theorem dX6_findsBeen_65 : decode cX6_findsBeen 65 = .ok (.aload_n 0, 1) := by decide +kernel
theorem dX6_findsBeen_66 : decode cX6_findsBeen 66 = .ok (.getfield 13, 3) := by decide +kernel
theorem dX6_findsBeen_69 : decode cX6_findsBeen 69 = .ok (.iconst 2, 1) := by decide +kernel
theorem dX6_findsBeen_70 : decode cX6_findsBeen 70 = .ok (.iaload, 1) := by decide +kernel
theorem dX6_findsBeen_71 : decode cX6_findsBeen 71 = .ok (.if_icmp .ge 32, 3) := by decide +kernel
theorem dX6_findsBeen_74 : decode cX6_findsBeen 74 = .ok (.aload_n 0, 1) := by decide +kernel
theorem dX6_findsBeen_75 : decode cX6_findsBeen 75 = .ok (.iload_n 2, 1) := by decide +kernel
theorem dX6_findsBeen_76 : decode cX6_findsBeen 76 = .ok (.iload_n 3, 1) := by decide +kernel
theorem dX6_findsBeen_77 : decode cX6_findsBeen 77 = .ok (.invokevirtual 144, 3) := by decide +kernel
theorem dX6_findsBeen_80 : decode cX6_findsBeen 80 = .ok (.ifCond .ne 17, 3) := by decide +kernel
theorem dX6_findsBeen_83 : decode cX6_findsBeen 83 = .ok (.aload_n 0, 1) := by decide +kernel
theorem dX6_findsBeen_84 : decode cX6_findsBeen 84 = .ok (.dup, 1) := by decide +kernel
theorem dX6_findsBeen_85 : decode cX6_findsBeen 85 = .ok (.getfield 195, 3) := by decide +kernel
theorem dX6_findsBeen_88 : decode cX6_findsBeen 88 = .ok (.iconst 1, 1) := by decide +kernel
theorem dX6_findsBeen_89 : decode cX6_findsBeen 89 = .ok (.iload_n 3, 1) := by decide +kernel
theorem dX6_findsBeen_90 : decode cX6_findsBeen 90 = .ok (.ishl, 1) := by decide +kernel
theorem dX6_findsBeen_91 : decode cX6_findsBeen 91 = .ok (.iconst (-1), 1) := by decide +kernel
theorem dX6_findsBeen_92 : decode cX6_findsBeen 92 = .ok (.ixor, 1) := by decide +kernel
theorem dX6_findsBeen_93 : decode cX6_findsBeen 93 = .ok (.iand, 1) := by decide +kernel
theorem dX6_findsBeen_94 : decode cX6_findsBeen 94 = .ok (.putfield 195, 3) := by decide +kernel
theorem dX6_findsBeen_97 : decode cX6_findsBeen 97 = .ok (.iinc 3 1, 3) := by decide +kernel
theorem dX6_findsBeen_100 : decode cX6_findsBeen 100 = .ok (.goto (-36), 3) := by decide +kernel
theorem dX6_findsBeen_103 : decode cX6_findsBeen 103 = .ok (.iinc 2 1, 3) := by decide +kernel
theorem dX6_findsBeen_106 : decode cX6_findsBeen 106 = .ok (.goto (-82), 3) := by decide +kernel
theorem dX6_findsBeen_109 : decode cX6_findsBeen 109 = .ok (.aload_n 0, 1) := by decide +kernel
theorem dX6_findsBeen_110 : decode cX6_findsBeen 110 = .ok (.invokevirtual 153, 3) := by decide +kernel
theorem dX6_findsBeen_113 : decode cX6_findsBeen 113 = .ok (.return_, 1) := by decide +kernel
theorem dX6_been_0 : decode cX6_been 0 = .ok (.aload_n 0, 1) := by decide +kernel
theorem dX6_been_1 : decode cX6_been 1 = .ok (.invokevirtual 198, 3) := by decide +kernel
theorem dX6_been_4 : decode cX6_been 4 = .ok (.aload_n 0, 1) := by decide +kernel
theorem dX6_been_5 : decode cX6_been 5 = .ok (.getfield 192, 3) := by decide +kernel
theorem dX6_been_8 : decode cX6_been 8 = .ok (.ireturn, 1) := by decide +kernel
theorem dX6_sure_0 : decode cX6_sure 0 = .ok (.aload_n 0, 1) := by decide +kernel
theorem dX6_sure_1 : decode cX6_sure 1 = .ok (.invokevirtual 198, 3) := by decide +kernel
theorem dX6_sure_4 : decode cX6_sure 4 = .ok (.aload_n 0, 1) := by decide +kernel
theorem dX6_sure_5 : decode cX6_sure 5 = .ok (.getfield 192, 3) := by decide +kernel
theorem dX6_sure_8 : decode cX6_sure 8 = .ok (.ifCond .ne 7, 3) := by decide +kernel
theorem dX6_sure_11 : decode cX6_sure 11 = .ok (.iconst 0, 1) := by decide +kernel
theorem dX6_sure_12 : decode cX6_sure 12 = .ok (.goto 7, 3) := by decide +kernel
theorem dX6_sure_15 : decode cX6_sure 15 = .ok (.aload_n 0, 1) := by decide +kernel
theorem dX6_sure_16 : decode cX6_sure 16 = .ok (.getfield 195, 3) := by decide +kernel
theorem dX6_sure_19 : decode cX6_sure 19 = .ok (.ireturn, 1) := by decide +kernel
theorem dX6_divisorsOf_0 : decode cX6_divisorsOf 0 = .ok (.iconst 1, 1) := by decide +kernel
theorem dX6_divisorsOf_1 : decode cX6_divisorsOf 1 = .ok (.istore_n 1, 1) := by decide +kernel
theorem dX6_divisorsOf_2 : decode cX6_divisorsOf 2 = .ok (.iload_n 0, 1) := by decide +kernel
theorem dX6_divisorsOf_3 : decode cX6_divisorsOf 3 = .ok (.istore_n 2, 1) := by decide +kernel
theorem dX6_divisorsOf_4 : decode cX6_divisorsOf 4 = .ok (.iconst 2, 1) := by decide +kernel
theorem dX6_divisorsOf_5 : decode cX6_divisorsOf 5 = .ok (.istore_n 3, 1) := by decide +kernel
theorem dX6_divisorsOf_6 : decode cX6_divisorsOf 6 = .ok (.iload_n 3, 1) := by decide +kernel
theorem dX6_divisorsOf_7 : decode cX6_divisorsOf 7 = .ok (.iload_n 2, 1) := by decide +kernel
theorem dX6_divisorsOf_8 : decode cX6_divisorsOf 8 = .ok (.iload_n 3, 1) := by decide +kernel
theorem dX6_divisorsOf_9 : decode cX6_divisorsOf 9 = .ok (.idiv, 1) := by decide +kernel
theorem dX6_divisorsOf_10 : decode cX6_divisorsOf 10 = .ok (.if_icmp .gt 33, 3) := by decide +kernel
theorem dX6_divisorsOf_13 : decode cX6_divisorsOf 13 = .ok (.iconst 1, 1) := by decide +kernel
theorem dX6_divisorsOf_14 : decode cX6_divisorsOf 14 = .ok (.istore 4, 2) := by decide +kernel
theorem dX6_divisorsOf_16 : decode cX6_divisorsOf 16 = .ok (.iload_n 2, 1) := by decide +kernel
theorem dX6_divisorsOf_17 : decode cX6_divisorsOf 17 = .ok (.iload_n 3, 1) := by decide +kernel
theorem dX6_divisorsOf_18 : decode cX6_divisorsOf 18 = .ok (.irem, 1) := by decide +kernel
theorem dX6_divisorsOf_19 : decode cX6_divisorsOf 19 = .ok (.ifCond .ne 13, 3) := by decide +kernel
theorem dX6_divisorsOf_22 : decode cX6_divisorsOf 22 = .ok (.iload_n 2, 1) := by decide +kernel
theorem dX6_divisorsOf_23 : decode cX6_divisorsOf 23 = .ok (.iload_n 3, 1) := by decide +kernel
theorem dX6_divisorsOf_24 : decode cX6_divisorsOf 24 = .ok (.idiv, 1) := by decide +kernel
theorem dX6_divisorsOf_25 : decode cX6_divisorsOf 25 = .ok (.istore_n 2, 1) := by decide +kernel
theorem dX6_divisorsOf_26 : decode cX6_divisorsOf 26 = .ok (.iinc 4 1, 3) := by decide +kernel
theorem dX6_divisorsOf_29 : decode cX6_divisorsOf 29 = .ok (.goto (-13), 3) := by decide +kernel
theorem dX6_divisorsOf_32 : decode cX6_divisorsOf 32 = .ok (.iload_n 1, 1) := by decide +kernel
theorem dX6_divisorsOf_33 : decode cX6_divisorsOf 33 = .ok (.iload 4, 2) := by decide +kernel
theorem dX6_divisorsOf_35 : decode cX6_divisorsOf 35 = .ok (.imul, 1) := by decide +kernel
theorem dX6_divisorsOf_36 : decode cX6_divisorsOf 36 = .ok (.istore_n 1, 1) := by decide +kernel
theorem dX6_divisorsOf_37 : decode cX6_divisorsOf 37 = .ok (.iinc 3 1, 3) := by decide +kernel
theorem dX6_divisorsOf_40 : decode cX6_divisorsOf 40 = .ok (.goto (-34), 3) := by decide +kernel
theorem dX6_divisorsOf_43 : decode cX6_divisorsOf 43 = .ok (.iload_n 2, 1) := by decide +kernel
theorem dX6_divisorsOf_44 : decode cX6_divisorsOf 44 = .ok (.iconst 1, 1) := by decide +kernel
theorem dX6_divisorsOf_45 : decode cX6_divisorsOf 45 = .ok (.if_icmp .le 9, 3) := by decide +kernel
theorem dX6_divisorsOf_48 : decode cX6_divisorsOf 48 = .ok (.iconst 2, 1) := by decide +kernel
theorem dX6_divisorsOf_49 : decode cX6_divisorsOf 49 = .ok (.iload_n 1, 1) := by decide +kernel
theorem dX6_divisorsOf_50 : decode cX6_divisorsOf 50 = .ok (.imul, 1) := by decide +kernel
theorem dX6_divisorsOf_51 : decode cX6_divisorsOf 51 = .ok (.goto 4, 3) := by decide +kernel
theorem dX6_divisorsOf_54 : decode cX6_divisorsOf 54 = .ok (.iload_n 1, 1) := by decide +kernel
theorem dX6_divisorsOf_55 : decode cX6_divisorsOf 55 = .ok (.ireturn, 1) := by decide +kernel
theorem dX6_forEverOf_0 : decode cX6_forEverOf 0 = .ok (.iload_n 1, 1) := by decide +kernel
theorem dX6_forEverOf_1 : decode cX6_forEverOf 1 = .ok (.invokestatic 201, 3) := by decide +kernel
theorem dX6_forEverOf_4 : decode cX6_forEverOf 4 = .ok (.aload_n 0, 1) := by decide +kernel
theorem dX6_forEverOf_5 : decode cX6_forEverOf 5 = .ok (.getfield 13, 3) := by decide +kernel
theorem dX6_forEverOf_8 : decode cX6_forEverOf 8 = .ok (.iconst 1, 1) := by decide +kernel
theorem dX6_forEverOf_9 : decode cX6_forEverOf 9 = .ok (.iaload, 1) := by decide +kernel
theorem dX6_forEverOf_10 : decode cX6_forEverOf 10 = .ok (.irem, 1) := by decide +kernel
theorem dX6_forEverOf_11 : decode cX6_forEverOf 11 = .ok (.ireturn, 1) := by decide +kernel
theorem dX6_forEver_0 : decode cX6_forEver 0 = .ok (.iload_n 1, 1) := by decide +kernel
theorem dX6_forEver_1 : decode cX6_forEver 1 = .ok (.iconst 1, 1) := by decide +kernel
theorem dX6_forEver_2 : decode cX6_forEver 2 = .ok (.ldc 204, 2) := by decide +kernel
theorem dX6_forEver_4 : decode cX6_forEver 4 = .ok (.invokestatic 44, 3) := by decide +kernel
theorem dX6_forEver_7 : decode cX6_forEver 7 = .ok (.istore_n 2, 1) := by decide +kernel
theorem dX6_forEver_8 : decode cX6_forEver 8 = .ok (.iload_n 2, 1) := by decide +kernel
theorem dX6_forEver_9 : decode cX6_forEver 9 = .ok (.ifCond .eq 11, 3) := by decide +kernel
theorem dX6_forEver_12 : decode cX6_forEver 12 = .ok (.aload_n 0, 1) := by decide +kernel
theorem dX6_forEver_13 : decode cX6_forEver 13 = .ok (.iload_n 2, 1) := by decide +kernel
theorem dX6_forEver_14 : decode cX6_forEver 14 = .ok (.invokevirtual 52, 3) := by decide +kernel
theorem dX6_forEver_17 : decode cX6_forEver 17 = .ok (.goto 8, 3) := by decide +kernel
theorem dX6_forEver_20 : decode cX6_forEver 20 = .ok (.aload_n 0, 1) := by decide +kernel
theorem dX6_forEver_21 : decode cX6_forEver 21 = .ok (.iload_n 1, 1) := by decide +kernel
theorem dX6_forEver_22 : decode cX6_forEver 22 = .ok (.invokevirtual 205, 3) := by decide +kernel
theorem dX6_forEver_25 : decode cX6_forEver 25 = .ok (.ireturn, 1) := by decide +kernel
theorem dX6_nth_0 : decode cX6_nth 0 = .ok (.iload_n 1, 1) := by decide +kernel
theorem dX6_nth_1 : decode cX6_nth 1 = .ok (.iconst 1, 1) := by decide +kernel
theorem dX6_nth_2 : decode cX6_nth 2 = .ok (.bipush 40, 2) := by decide +kernel
theorem dX6_nth_4 : decode cX6_nth 4 = .ok (.invokestatic 44, 3) := by decide +kernel
theorem dX6_nth_7 : decode cX6_nth 7 = .ok (.istore_n 2, 1) := by decide +kernel
theorem dX6_nth_8 : decode cX6_nth 8 = .ok (.iload_n 2, 1) := by decide +kernel
theorem dX6_nth_9 : decode cX6_nth 9 = .ok (.ifCond .eq 9, 3) := by decide +kernel
theorem dX6_nth_12 : decode cX6_nth 12 = .ok (.aload_n 0, 1) := by decide +kernel
theorem dX6_nth_13 : decode cX6_nth 13 = .ok (.iload_n 2, 1) := by decide +kernel
theorem dX6_nth_14 : decode cX6_nth 14 = .ok (.invokevirtual 52, 3) := by decide +kernel
theorem dX6_nth_17 : decode cX6_nth 17 = .ok (.ireturn, 1) := by decide +kernel
theorem dX6_nth_18 : decode cX6_nth 18 = .ok (.iload_n 1, 1) := by decide +kernel
theorem dX6_nth_19 : decode cX6_nth 19 = .ok (.istore_n 3, 1) := by decide +kernel
theorem dX6_nth_20 : decode cX6_nth 20 = .ok (.iconst 0, 1) := by decide +kernel
theorem dX6_nth_21 : decode cX6_nth 21 = .ok (.istore 4, 2) := by decide +kernel
theorem dX6_nth_23 : decode cX6_nth 23 = .ok (.iload_n 3, 1) := by decide +kernel
theorem dX6_nth_24 : decode cX6_nth 24 = .ok (.ifCond .le 26, 3) := by decide +kernel
theorem dX6_nth_27 : decode cX6_nth 27 = .ok (.iinc 4 1, 3) := by decide +kernel
theorem dX6_nth_30 : decode cX6_nth 30 = .ok (.iload_n 3, 1) := by decide +kernel
theorem dX6_nth_31 : decode cX6_nth 31 = .ok (.aload_n 0, 1) := by decide +kernel
theorem dX6_nth_32 : decode cX6_nth 32 = .ok (.iload 4, 2) := by decide +kernel
theorem dX6_nth_34 : decode cX6_nth 34 = .ok (.invokevirtual 205, 3) := by decide +kernel
theorem dX6_nth_37 : decode cX6_nth 37 = .ok (.ifCond .ne 7, 3) := by decide +kernel
theorem dX6_nth_40 : decode cX6_nth 40 = .ok (.iconst 0, 1) := by decide +kernel
theorem dX6_nth_41 : decode cX6_nth 41 = .ok (.goto 4, 3) := by decide +kernel
theorem dX6_nth_44 : decode cX6_nth 44 = .ok (.iconst 1, 1) := by decide +kernel
theorem dX6_nth_45 : decode cX6_nth 45 = .ok (.isub, 1) := by decide +kernel
theorem dX6_nth_46 : decode cX6_nth 46 = .ok (.istore_n 3, 1) := by decide +kernel
theorem dX6_nth_47 : decode cX6_nth 47 = .ok (.goto (-24), 3) := by decide +kernel
theorem dX6_nth_50 : decode cX6_nth 50 = .ok (.iload 4, 2) := by decide +kernel
theorem dX6_nth_52 : decode cX6_nth 52 = .ok (.ireturn, 1) := by decide +kernel
theorem dX6_open_0 : decode cX6_open 0 = .ok (.iload_n 1, 1) := by decide +kernel
theorem dX6_open_1 : decode cX6_open 1 = .ok (.iconst 1, 1) := by decide +kernel
theorem dX6_open_2 : decode cX6_open 2 = .ok (.sipush 2000, 3) := by decide +kernel
theorem dX6_open_5 : decode cX6_open 5 = .ok (.invokestatic 44, 3) := by decide +kernel
theorem dX6_open_8 : decode cX6_open 8 = .ok (.istore_n 2, 1) := by decide +kernel
theorem dX6_open_9 : decode cX6_open 9 = .ok (.iload_n 2, 1) := by decide +kernel
theorem dX6_open_10 : decode cX6_open 10 = .ok (.ifCond .eq 9, 3) := by decide +kernel
theorem dX6_open_13 : decode cX6_open 13 = .ok (.aload_n 0, 1) := by decide +kernel
theorem dX6_open_14 : decode cX6_open 14 = .ok (.iload_n 2, 1) := by decide +kernel
theorem dX6_open_15 : decode cX6_open 15 = .ok (.invokevirtual 52, 3) := by decide +kernel
theorem dX6_open_18 : decode cX6_open 18 = .ok (.ireturn, 1) := by decide +kernel
theorem dX6_open_19 : decode cX6_open 19 = .ok (.iconst 0, 1) := by decide +kernel
theorem dX6_open_20 : decode cX6_open 20 = .ok (.istore_n 3, 1) := by decide +kernel
theorem dX6_open_21 : decode cX6_open 21 = .ok (.iconst 1, 1) := by decide +kernel
theorem dX6_open_22 : decode cX6_open 22 = .ok (.istore 4, 2) := by decide +kernel
theorem dX6_open_24 : decode cX6_open 24 = .ok (.iload 4, 2) := by decide +kernel
theorem dX6_open_26 : decode cX6_open 26 = .ok (.iload_n 1, 1) := by decide +kernel
theorem dX6_open_27 : decode cX6_open 27 = .ok (.if_icmp .gt 26, 3) := by decide +kernel
theorem dX6_open_30 : decode cX6_open 30 = .ok (.iload_n 3, 1) := by decide +kernel
theorem dX6_open_31 : decode cX6_open 31 = .ok (.aload_n 0, 1) := by decide +kernel
theorem dX6_open_32 : decode cX6_open 32 = .ok (.iload 4, 2) := by decide +kernel
theorem dX6_open_34 : decode cX6_open 34 = .ok (.invokevirtual 205, 3) := by decide +kernel
theorem dX6_open_37 : decode cX6_open 37 = .ok (.ifCond .ne 7, 3) := by decide +kernel
theorem dX6_open_40 : decode cX6_open 40 = .ok (.iconst 0, 1) := by decide +kernel
theorem dX6_open_41 : decode cX6_open 41 = .ok (.goto 4, 3) := by decide +kernel
theorem dX6_open_44 : decode cX6_open 44 = .ok (.iconst 1, 1) := by decide +kernel
theorem dX6_open_45 : decode cX6_open 45 = .ok (.iadd, 1) := by decide +kernel
theorem dX6_open_46 : decode cX6_open 46 = .ok (.istore_n 3, 1) := by decide +kernel
theorem dX6_open_47 : decode cX6_open 47 = .ok (.iinc 4 1, 3) := by decide +kernel
theorem dX6_open_50 : decode cX6_open 50 = .ok (.goto (-26), 3) := by decide +kernel
theorem dX6_open_53 : decode cX6_open 53 = .ok (.iload_n 3, 1) := by decide +kernel
theorem dX6_open_54 : decode cX6_open 54 = .ok (.ireturn, 1) := by decide +kernel
theorem dX6_logAt_0 : decode cX6_logAt 0 = .ok (.aload_n 0, 1) := by decide +kernel
theorem dX6_logAt_1 : decode cX6_logAt 1 = .ok (.getfield 13, 3) := by decide +kernel
theorem dX6_logAt_4 : decode cX6_logAt 4 = .ok (.bipush 68, 2) := by decide +kernel
theorem dX6_logAt_6 : decode cX6_logAt 6 = .ok (.iload_n 1, 1) := by decide +kernel
theorem dX6_logAt_7 : decode cX6_logAt 7 = .ok (.iadd, 1) := by decide +kernel
theorem dX6_logAt_8 : decode cX6_logAt 8 = .ok (.iaload, 1) := by decide +kernel
theorem dX6_logAt_9 : decode cX6_logAt 9 = .ok (.ireturn, 1) := by decide +kernel
theorem dX6_unknown_0 : decode cX6_unknown 0 = .ok (.iconst 0, 1) := by decide +kernel
theorem dX6_unknown_1 : decode cX6_unknown 1 = .ok (.istore_n 1, 1) := by decide +kernel
theorem dX6_unknown_2 : decode cX6_unknown 2 = .ok (.iconst 0, 1) := by decide +kernel
theorem dX6_unknown_3 : decode cX6_unknown 3 = .ok (.istore_n 2, 1) := by decide +kernel
theorem dX6_unknown_4 : decode cX6_unknown 4 = .ok (.iload_n 2, 1) := by decide +kernel
theorem dX6_unknown_5 : decode cX6_unknown 5 = .ok (.aload_n 0, 1) := by decide +kernel
theorem dX6_unknown_6 : decode cX6_unknown 6 = .ok (.getfield 13, 3) := by decide +kernel
theorem dX6_unknown_9 : decode cX6_unknown 9 = .ok (.iconst 3, 1) := by decide +kernel
theorem dX6_unknown_10 : decode cX6_unknown 10 = .ok (.iaload, 1) := by decide +kernel
theorem dX6_unknown_11 : decode cX6_unknown 11 = .ok (.if_icmp .ge 27, 3) := by decide +kernel
theorem dX6_unknown_14 : decode cX6_unknown 14 = .ok (.iload_n 1, 1) := by decide +kernel
theorem dX6_unknown_15 : decode cX6_unknown 15 = .ok (.aload_n 0, 1) := by decide +kernel
theorem dX6_unknown_16 : decode cX6_unknown 16 = .ok (.iload_n 2, 1) := by decide +kernel
theorem dX6_unknown_17 : decode cX6_unknown 17 = .ok (.invokevirtual 208, 3) := by decide +kernel
theorem dX6_unknown_20 : decode cX6_unknown 20 = .ok (.bipush 9, 2) := by decide +kernel
theorem dX6_unknown_22 : decode cX6_unknown 22 = .ok (.if_icmp .ne 7, 3) := by decide +kernel
theorem dX6_unknown_25 : decode cX6_unknown 25 = .ok (.iconst 1, 1) := by decide +kernel
theorem dX6_unknown_26 : decode cX6_unknown 26 = .ok (.goto 4, 3) := by decide +kernel
theorem dX6_unknown_29 : decode cX6_unknown 29 = .ok (.iconst 0, 1) := by decide +kernel
theorem dX6_unknown_30 : decode cX6_unknown 30 = .ok (.iadd, 1) := by decide +kernel
theorem dX6_unknown_31 : decode cX6_unknown 31 = .ok (.istore_n 1, 1) := by decide +kernel
theorem dX6_unknown_32 : decode cX6_unknown 32 = .ok (.iinc 2 1, 3) := by decide +kernel
theorem dX6_unknown_35 : decode cX6_unknown 35 = .ok (.goto (-31), 3) := by decide +kernel
theorem dX6_unknown_38 : decode cX6_unknown 38 = .ok (.iload_n 1, 1) := by decide +kernel
theorem dX6_unknown_39 : decode cX6_unknown 39 = .ok (.ireturn, 1) := by decide +kernel
theorem dX6_log_0 : decode cX6_log 0 = .ok (.iload_n 1, 1) := by decide +kernel
theorem dX6_log_1 : decode cX6_log 1 = .ok (.bipush 9, 2) := by decide +kernel
theorem dX6_log_3 : decode cX6_log 3 = .ok (.if_icmp .eq 15, 3) := by decide +kernel
theorem dX6_log_6 : decode cX6_log 6 = .ok (.aload_n 0, 1) := by decide +kernel
theorem dX6_log_7 : decode cX6_log 7 = .ok (.iload_n 1, 1) := by decide +kernel
theorem dX6_log_8 : decode cX6_log 8 = .ok (.invokevirtual 118, 3) := by decide +kernel
theorem dX6_log_11 : decode cX6_log 11 = .ok (.ifCond .ne 7, 3) := by decide +kernel
theorem dX6_log_14 : decode cX6_log 14 = .ok (.iconst (-1), 1) := by decide +kernel
theorem dX6_log_15 : decode cX6_log 15 = .ok (.goto 20, 3) := by decide +kernel
theorem dX6_log_18 : decode cX6_log 18 = .ok (.aload_n 0, 1) := by decide +kernel
theorem dX6_log_19 : decode cX6_log 19 = .ok (.getfield 13, 3) := by decide +kernel
theorem dX6_log_22 : decode cX6_log 22 = .ok (.iconst 3, 1) := by decide +kernel
theorem dX6_log_23 : decode cX6_log 23 = .ok (.iaload, 1) := by decide +kernel
theorem dX6_log_24 : decode cX6_log 24 = .ok (.bipush 10, 2) := by decide +kernel
theorem dX6_log_26 : decode cX6_log 26 = .ok (.if_icmp .ne 8, 3) := by decide +kernel
theorem dX6_log_29 : decode cX6_log 29 = .ok (.bipush (-6), 2) := by decide +kernel
theorem dX6_log_31 : decode cX6_log 31 = .ok (.goto 4, 3) := by decide +kernel
theorem dX6_log_34 : decode cX6_log 34 = .ok (.iconst 0, 1) := by decide +kernel
theorem dX6_log_35 : decode cX6_log 35 = .ok (.istore_n 2, 1) := by decide +kernel
theorem dX6_log_36 : decode cX6_log 36 = .ok (.iload_n 2, 1) := by decide +kernel
theorem dX6_log_37 : decode cX6_log 37 = .ok (.ifCond .eq 9, 3) := by decide +kernel
theorem dX6_log_40 : decode cX6_log 40 = .ok (.aload_n 0, 1) := by decide +kernel
theorem dX6_log_41 : decode cX6_log 41 = .ok (.iload_n 2, 1) := by decide +kernel
theorem dX6_log_42 : decode cX6_log 42 = .ok (.invokevirtual 52, 3) := by decide +kernel
theorem dX6_log_45 : decode cX6_log 45 = .ok (.ireturn, 1) := by decide +kernel
theorem dX6_log_46 : decode cX6_log 46 = .ok (.aload_n 0, 1) := by decide +kernel
theorem dX6_log_47 : decode cX6_log 47 = .ok (.getfield 13, 3) := by decide +kernel
theorem dX6_log_50 : decode cX6_log 50 = .ok (.bipush 68, 2) := by decide +kernel
theorem dX6_log_52 : decode cX6_log 52 = .ok (.aload_n 0, 1) := by decide +kernel
theorem dX6_log_53 : decode cX6_log 53 = .ok (.getfield 13, 3) := by decide +kernel
theorem dX6_log_56 : decode cX6_log 56 = .ok (.iconst 3, 1) := by decide +kernel
theorem dX6_log_57 : decode cX6_log 57 = .ok (.iaload, 1) := by decide +kernel
theorem dX6_log_58 : decode cX6_log 58 = .ok (.iadd, 1) := by decide +kernel
theorem dX6_log_59 : decode cX6_log 59 = .ok (.iload_n 1, 1) := by decide +kernel
theorem dX6_log_60 : decode cX6_log 60 = .ok (.iastore, 1) := by decide +kernel
theorem dX6_log_61 : decode cX6_log 61 = .ok (.aload_n 0, 1) := by decide +kernel
theorem dX6_log_62 : decode cX6_log 62 = .ok (.getfield 13, 3) := by decide +kernel
theorem dX6_log_65 : decode cX6_log 65 = .ok (.iconst 3, 1) := by decide +kernel
theorem dX6_log_66 : decode cX6_log 66 = .ok (.dup2, 1) := by decide +kernel
theorem dX6_log_67 : decode cX6_log 67 = .ok (.iaload, 1) := by decide +kernel
theorem dX6_log_68 : decode cX6_log 68 = .ok (.iconst 1, 1) := by decide +kernel
theorem dX6_log_69 : decode cX6_log 69 = .ok (.iadd, 1) := by decide +kernel
theorem dX6_log_70 : decode cX6_log 70 = .ok (.iastore, 1) := by decide +kernel
theorem dX6_log_71 : decode cX6_log 71 = .ok (.aload_n 0, 1) := by decide +kernel
theorem dX6_log_72 : decode cX6_log 72 = .ok (.getfield 13, 3) := by decide +kernel
theorem dX6_log_75 : decode cX6_log 75 = .ok (.iconst 3, 1) := by decide +kernel
theorem dX6_log_76 : decode cX6_log 76 = .ok (.iaload, 1) := by decide +kernel
theorem dX6_log_77 : decode cX6_log 77 = .ok (.ireturn, 1) := by decide +kernel
theorem dX6_order_0 : decode cX6_order 0 = .ok (.aload_n 0, 1) := by decide +kernel
theorem dX6_order_1 : decode cX6_order 1 = .ok (.iload_n 1, 1) := by decide +kernel
theorem dX6_order_2 : decode cX6_order 2 = .ok (.invokevirtual 115, 3) := by decide +kernel
theorem dX6_order_5 : decode cX6_order 5 = .ok (.ifCond .ne 9, 3) := by decide +kernel
theorem dX6_order_8 : decode cX6_order 8 = .ok (.aload_n 0, 1) := by decide +kernel
theorem dX6_order_9 : decode cX6_order 9 = .ok (.iconst (-1), 1) := by decide +kernel
theorem dX6_order_10 : decode cX6_order 10 = .ok (.invokevirtual 52, 3) := by decide +kernel
theorem dX6_order_13 : decode cX6_order 13 = .ok (.ireturn, 1) := by decide +kernel
theorem dX6_order_14 : decode cX6_order 14 = .ok (.iconst 0, 1) := by decide +kernel
theorem dX6_order_15 : decode cX6_order 15 = .ok (.istore_n 2, 1) := by decide +kernel
theorem dX6_order_16 : decode cX6_order 16 = .ok (.iconst 0, 1) := by decide +kernel
theorem dX6_order_17 : decode cX6_order 17 = .ok (.istore_n 3, 1) := by decide +kernel
theorem dX6_order_18 : decode cX6_order 18 = .ok (.iload_n 3, 1) := by decide +kernel
theorem dX6_order_19 : decode cX6_order 19 = .ok (.aload_n 0, 1) := by decide +kernel
theorem dX6_order_20 : decode cX6_order 20 = .ok (.getfield 13, 3) := by decide +kernel
theorem dX6_order_23 : decode cX6_order 23 = .ok (.iconst 3, 1) := by decide +kernel
theorem dX6_order_24 : decode cX6_order 24 = .ok (.iaload, 1) := by decide +kernel
theorem dX6_order_25 : decode cX6_order 25 = .ok (.if_icmp .ge 40, 3) := by decide +kernel
theorem dX6_order_28 : decode cX6_order 28 = .ok (.iload_n 2, 1) := by decide +kernel
theorem dX6_order_29 : decode cX6_order 29 = .ok (.aload_n 0, 1) := by decide +kernel
theorem dX6_order_30 : decode cX6_order 30 = .ok (.iload_n 3, 1) := by decide +kernel
theorem dX6_order_31 : decode cX6_order 31 = .ok (.invokevirtual 208, 3) := by decide +kernel
theorem dX6_order_34 : decode cX6_order 34 = .ok (.bipush 9, 2) := by decide +kernel
theorem dX6_order_36 : decode cX6_order 36 = .ok (.if_icmp .eq 20, 3) := by decide +kernel
theorem dX6_order_39 : decode cX6_order 39 = .ok (.aload_n 0, 1) := by decide +kernel
theorem dX6_order_40 : decode cX6_order 40 = .ok (.aload_n 0, 1) := by decide +kernel
theorem dX6_order_41 : decode cX6_order 41 = .ok (.iload_n 3, 1) := by decide +kernel
theorem dX6_order_42 : decode cX6_order 42 = .ok (.invokevirtual 208, 3) := by decide +kernel
theorem dX6_order_45 : decode cX6_order 45 = .ok (.iload_n 1, 1) := by decide +kernel
theorem dX6_order_46 : decode cX6_order 46 = .ok (.invokevirtual 112, 3) := by decide +kernel
theorem dX6_order_49 : decode cX6_order 49 = .ok (.ifCond .eq 7, 3) := by decide +kernel
theorem dX6_order_52 : decode cX6_order 52 = .ok (.iconst 1, 1) := by decide +kernel
theorem dX6_order_53 : decode cX6_order 53 = .ok (.goto 4, 3) := by decide +kernel
theorem dX6_order_56 : decode cX6_order 56 = .ok (.iconst 0, 1) := by decide +kernel
theorem dX6_order_57 : decode cX6_order 57 = .ok (.iadd, 1) := by decide +kernel
theorem dX6_order_58 : decode cX6_order 58 = .ok (.istore_n 2, 1) := by decide +kernel
theorem dX6_order_59 : decode cX6_order 59 = .ok (.iinc 3 1, 3) := by decide +kernel
theorem dX6_order_62 : decode cX6_order 62 = .ok (.goto (-44), 3) := by decide +kernel
theorem dX6_order_65 : decode cX6_order 65 = .ok (.aload_n 0, 1) := by decide +kernel
theorem dX6_order_66 : decode cX6_order 66 = .ok (.getfield 13, 3) := by decide +kernel
theorem dX6_order_69 : decode cX6_order 69 = .ok (.iconst 4, 1) := by decide +kernel
theorem dX6_order_70 : decode cX6_order 70 = .ok (.iload_n 1, 1) := by decide +kernel
theorem dX6_order_71 : decode cX6_order 71 = .ok (.iadd, 1) := by decide +kernel
theorem dX6_order_72 : decode cX6_order 72 = .ok (.iconst 1, 1) := by decide +kernel
theorem dX6_order_73 : decode cX6_order 73 = .ok (.isub, 1) := by decide +kernel
theorem dX6_order_74 : decode cX6_order 74 = .ok (.iaload, 1) := by decide +kernel
theorem dX6_order_75 : decode cX6_order 75 = .ok (.istore_n 3, 1) := by decide +kernel
theorem dX6_order_76 : decode cX6_order 76 = .ok (.iload_n 2, 1) := by decide +kernel
theorem dX6_order_77 : decode cX6_order 77 = .ok (.ifCond .ne 18, 3) := by decide +kernel
theorem dX6_order_80 : decode cX6_order 80 = .ok (.iload_n 3, 1) := by decide +kernel
theorem dX6_order_81 : decode cX6_order 81 = .ok (.ifCond .ne 12, 3) := by decide +kernel
theorem dX6_order_84 : decode cX6_order 84 = .ok (.aload_n 0, 1) := by decide +kernel
theorem dX6_order_85 : decode cX6_order 85 = .ok (.getfield 13, 3) := by decide +kernel
theorem dX6_order_88 : decode cX6_order 88 = .ok (.iconst 3, 1) := by decide +kernel
theorem dX6_order_89 : decode cX6_order 89 = .ok (.iaload, 1) := by decide +kernel
theorem dX6_order_90 : decode cX6_order 90 = .ok (.goto 4, 3) := by decide +kernel
theorem dX6_order_93 : decode cX6_order 93 = .ok (.iconst 0, 1) := by decide +kernel
theorem dX6_order_94 : decode cX6_order 94 = .ok (.ireturn, 1) := by decide +kernel
theorem dX6_order_95 : decode cX6_order 95 = .ok (.iconst 0, 1) := by decide +kernel
theorem dX6_order_96 : decode cX6_order 96 = .ok (.istore 4, 2) := by decide +kernel
theorem dX6_order_98 : decode cX6_order 98 = .ok (.iconst 1, 1) := by decide +kernel
theorem dX6_order_99 : decode cX6_order 99 = .ok (.istore 5, 2) := by decide +kernel
theorem dX6_order_101 : decode cX6_order 101 = .ok (.iload 5, 2) := by decide +kernel
theorem dX6_order_103 : decode cX6_order 103 = .ok (.iload_n 2, 1) := by decide +kernel
theorem dX6_order_104 : decode cX6_order 104 = .ok (.if_icmp .gt 33, 3) := by decide +kernel
theorem dX6_order_107 : decode cX6_order 107 = .ok (.iload 4, 2) := by decide +kernel
theorem dX6_order_109 : decode cX6_order 109 = .ok (.iload_n 3, 1) := by decide +kernel
theorem dX6_order_110 : decode cX6_order 110 = .ok (.iload 5, 2) := by decide +kernel
theorem dX6_order_112 : decode cX6_order 112 = .ok (.iadd, 1) := by decide +kernel
theorem dX6_order_113 : decode cX6_order 113 = .ok (.aload_n 0, 1) := by decide +kernel
theorem dX6_order_114 : decode cX6_order 114 = .ok (.getfield 13, 3) := by decide +kernel
theorem dX6_order_117 : decode cX6_order 117 = .ok (.iconst 1, 1) := by decide +kernel
theorem dX6_order_118 : decode cX6_order 118 = .ok (.iaload, 1) := by decide +kernel
theorem dX6_order_119 : decode cX6_order 119 = .ok (.irem, 1) := by decide +kernel
theorem dX6_order_120 : decode cX6_order 120 = .ok (.ifCond .ne 7, 3) := by decide +kernel
theorem dX6_order_123 : decode cX6_order 123 = .ok (.iconst 1, 1) := by decide +kernel
theorem dX6_order_124 : decode cX6_order 124 = .ok (.goto 4, 3) := by decide +kernel
theorem dX6_order_127 : decode cX6_order 127 = .ok (.iconst 0, 1) := by decide +kernel
theorem dX6_order_128 : decode cX6_order 128 = .ok (.iadd, 1) := by decide +kernel
theorem dX6_order_129 : decode cX6_order 129 = .ok (.istore 4, 2) := by decide +kernel
theorem dX6_order_131 : decode cX6_order 131 = .ok (.iinc 5 1, 3) := by decide +kernel
theorem dX6_order_134 : decode cX6_order 134 = .ok (.goto (-33), 3) := by decide +kernel
theorem dX6_order_137 : decode cX6_order 137 = .ok (.iload 4, 2) := by decide +kernel
theorem dX6_order_139 : decode cX6_order 139 = .ok (.ireturn, 1) := by decide +kernel
theorem dX6_fills_0 : decode cX6_fills 0 = .ok (.aload_n 0, 1) := by decide +kernel
theorem dX6_fills_1 : decode cX6_fills 1 = .ok (.invokevirtual 211, 3) := by decide +kernel
theorem dX6_fills_4 : decode cX6_fills 4 = .ok (.istore_n 1, 1) := by decide +kernel
theorem dX6_fills_5 : decode cX6_fills 5 = .ok (.iload_n 1, 1) := by decide +kernel
theorem dX6_fills_6 : decode cX6_fills 6 = .ok (.iconst 3, 1) := by decide +kernel
theorem dX6_fills_7 : decode cX6_fills 7 = .ok (.if_icmp .le 10, 3) := by decide +kernel
theorem dX6_fills_10 : decode cX6_fills 10 = .ok (.aload_n 0, 1) := by decide +kernel
theorem dX6_fills_11 : decode cX6_fills 11 = .ok (.bipush (-6), 2) := by decide +kernel
theorem dX6_fills_13 : decode cX6_fills 13 = .ok (.invokevirtual 52, 3) := by decide +kernel
theorem dX6_fills_16 : decode cX6_fills 16 = .ok (.ireturn, 1) := by decide +kernel
theorem dX6_fills_17 : decode cX6_fills 17 = .ok (.iconst 1, 1) := by decide +kernel
theorem dX6_fills_18 : decode cX6_fills 18 = .ok (.istore_n 2, 1) := by decide +kernel
theorem dX6_fills_19 : decode cX6_fills 19 = .ok (.iconst 0, 1) := by decide +kernel
theorem dX6_fills_20 : decode cX6_fills 20 = .ok (.istore_n 3, 1) := by decide +kernel
theorem dX6_fills_21 : decode cX6_fills 21 = .ok (.iload_n 3, 1) := by decide +kernel
theorem dX6_fills_22 : decode cX6_fills 22 = .ok (.iload_n 1, 1) := by decide +kernel
theorem dX6_fills_23 : decode cX6_fills 23 = .ok (.if_icmp .ge 18, 3) := by decide +kernel
theorem dX6_fills_26 : decode cX6_fills 26 = .ok (.iload_n 2, 1) := by decide +kernel
theorem dX6_fills_27 : decode cX6_fills 27 = .ok (.aload_n 0, 1) := by decide +kernel
theorem dX6_fills_28 : decode cX6_fills 28 = .ok (.getfield 13, 3) := by decide +kernel
theorem dX6_fills_31 : decode cX6_fills 31 = .ok (.iconst 2, 1) := by decide +kernel
theorem dX6_fills_32 : decode cX6_fills 32 = .ok (.iaload, 1) := by decide +kernel
theorem dX6_fills_33 : decode cX6_fills 33 = .ok (.imul, 1) := by decide +kernel
theorem dX6_fills_34 : decode cX6_fills 34 = .ok (.istore_n 2, 1) := by decide +kernel
theorem dX6_fills_35 : decode cX6_fills 35 = .ok (.iinc 3 1, 3) := by decide +kernel
theorem dX6_fills_38 : decode cX6_fills 38 = .ok (.goto (-17), 3) := by decide +kernel
theorem dX6_fills_41 : decode cX6_fills 41 = .ok (.aload_n 0, 1) := by decide +kernel
theorem dX6_fills_42 : decode cX6_fills 42 = .ok (.invokevirtual 131, 3) := by decide +kernel
theorem dX6_fills_45 : decode cX6_fills 45 = .ok (.istore_n 3, 1) := by decide +kernel
theorem dX6_fills_46 : decode cX6_fills 46 = .ok (.iconst 0, 1) := by decide +kernel
theorem dX6_fills_47 : decode cX6_fills 47 = .ok (.istore 4, 2) := by decide +kernel
theorem dX6_fills_49 : decode cX6_fills 49 = .ok (.aload_n 0, 1) := by decide +kernel
theorem dX6_fills_50 : decode cX6_fills 50 = .ok (.invokevirtual 147, 3) := by decide +kernel
theorem dX6_fills_53 : decode cX6_fills 53 = .ok (.iconst 0, 1) := by decide +kernel
theorem dX6_fills_54 : decode cX6_fills 54 = .ok (.istore 5, 2) := by decide +kernel
theorem dX6_fills_56 : decode cX6_fills 56 = .ok (.iload 5, 2) := by decide +kernel
theorem dX6_fills_58 : decode cX6_fills 58 = .ok (.iload_n 2, 1) := by decide +kernel
theorem dX6_fills_59 : decode cX6_fills 59 = .ok (.if_icmp .ge 99, 3) := by decide +kernel
theorem dX6_fills_62 : decode cX6_fills 62 = .ok (.aload_n 0, 1) := by decide +kernel
theorem dX6_fills_63 : decode cX6_fills 63 = .ok (.invokevirtual 174, 3) := by decide +kernel
theorem dX6_fills_66 : decode cX6_fills 66 = .ok (.iload 5, 2) := by decide +kernel
theorem dX6_fills_68 : decode cX6_fills 68 = .ok (.istore 6, 2) := by decide +kernel
theorem dX6_fills_70 : decode cX6_fills 70 = .ok (.iconst 0, 1) := by decide +kernel
theorem dX6_fills_71 : decode cX6_fills 71 = .ok (.istore 7, 2) := by decide +kernel
theorem dX6_fills_73 : decode cX6_fills 73 = .ok (.iload 7, 2) := by decide +kernel
theorem dX6_fills_75 : decode cX6_fills 75 = .ok (.aload_n 0, 1) := by decide +kernel
theorem dX6_fills_76 : decode cX6_fills 76 = .ok (.getfield 13, 3) := by decide +kernel
theorem dX6_fills_79 : decode cX6_fills 79 = .ok (.iconst 3, 1) := by decide +kernel
theorem dX6_fills_80 : decode cX6_fills 80 = .ok (.iaload, 1) := by decide +kernel
theorem dX6_fills_81 : decode cX6_fills 81 = .ok (.if_icmp .ge 53, 3) := by decide +kernel
theorem dX6_fills_84 : decode cX6_fills 84 = .ok (.aload_n 0, 1) := by decide +kernel
theorem dX6_fills_85 : decode cX6_fills 85 = .ok (.iload 7, 2) := by decide +kernel
theorem dX6_fills_87 : decode cX6_fills 87 = .ok (.invokevirtual 208, 3) := by decide +kernel
theorem dX6_fills_90 : decode cX6_fills 90 = .ok (.istore 8, 2) := by decide +kernel
theorem dX6_fills_92 : decode cX6_fills 92 = .ok (.iload 8, 2) := by decide +kernel
theorem dX6_fills_94 : decode cX6_fills 94 = .ok (.bipush 9, 2) := by decide +kernel
theorem dX6_fills_96 : decode cX6_fills 96 = .ok (.if_icmp .ne 25, 3) := by decide +kernel
theorem dX6_fills_99 : decode cX6_fills 99 = .ok (.iload 6, 2) := by decide +kernel
theorem dX6_fills_101 : decode cX6_fills 101 = .ok (.aload_n 0, 1) := by decide +kernel
theorem dX6_fills_102 : decode cX6_fills 102 = .ok (.getfield 13, 3) := by decide +kernel
theorem dX6_fills_105 : decode cX6_fills 105 = .ok (.iconst 2, 1) := by decide +kernel
theorem dX6_fills_106 : decode cX6_fills 106 = .ok (.iaload, 1) := by decide +kernel
theorem dX6_fills_107 : decode cX6_fills 107 = .ok (.irem, 1) := by decide +kernel
theorem dX6_fills_108 : decode cX6_fills 108 = .ok (.istore 8, 2) := by decide +kernel
theorem dX6_fills_110 : decode cX6_fills 110 = .ok (.iload 6, 2) := by decide +kernel
theorem dX6_fills_112 : decode cX6_fills 112 = .ok (.aload_n 0, 1) := by decide +kernel
theorem dX6_fills_113 : decode cX6_fills 113 = .ok (.getfield 13, 3) := by decide +kernel
theorem dX6_fills_116 : decode cX6_fills 116 = .ok (.iconst 2, 1) := by decide +kernel
theorem dX6_fills_117 : decode cX6_fills 117 = .ok (.iaload, 1) := by decide +kernel
theorem dX6_fills_118 : decode cX6_fills 118 = .ok (.idiv, 1) := by decide +kernel
theorem dX6_fills_119 : decode cX6_fills 119 = .ok (.istore 6, 2) := by decide +kernel
theorem dX6_fills_121 : decode cX6_fills 121 = .ok (.aload_n 0, 1) := by decide +kernel
theorem dX6_fills_122 : decode cX6_fills 122 = .ok (.iload 8, 2) := by decide +kernel
theorem dX6_fills_124 : decode cX6_fills 124 = .ok (.invokevirtual 128, 3) := by decide +kernel
theorem dX6_fills_127 : decode cX6_fills 127 = .ok (.pop, 1) := by decide +kernel
theorem dX6_fills_128 : decode cX6_fills 128 = .ok (.iinc 7 1, 3) := by decide +kernel
theorem dX6_fills_131 : decode cX6_fills 131 = .ok (.goto (-58), 3) := by decide +kernel
theorem dX6_fills_134 : decode cX6_fills 134 = .ok (.iload 4, 2) := by decide +kernel
theorem dX6_fills_136 : decode cX6_fills 136 = .ok (.aload_n 0, 1) := by decide +kernel
theorem dX6_fills_137 : decode cX6_fills 137 = .ok (.invokevirtual 131, 3) := by decide +kernel
theorem dX6_fills_140 : decode cX6_fills 140 = .ok (.iload_n 3, 1) := by decide +kernel
theorem dX6_fills_141 : decode cX6_fills 141 = .ok (.if_icmp .ne 7, 3) := by decide +kernel
theorem dX6_fills_144 : decode cX6_fills 144 = .ok (.iconst 1, 1) := by decide +kernel
theorem dX6_fills_145 : decode cX6_fills 145 = .ok (.goto 4, 3) := by decide +kernel
theorem dX6_fills_148 : decode cX6_fills 148 = .ok (.iconst 0, 1) := by decide +kernel
theorem dX6_fills_149 : decode cX6_fills 149 = .ok (.iadd, 1) := by decide +kernel
theorem dX6_fills_150 : decode cX6_fills 150 = .ok (.istore 4, 2) := by decide +kernel
theorem dX6_fills_152 : decode cX6_fills 152 = .ok (.iinc 5 1, 3) := by decide +kernel
theorem dX6_fills_155 : decode cX6_fills 155 = .ok (.goto (-99), 3) := by decide +kernel
theorem dX6_fills_158 : decode cX6_fills 158 = .ok (.aload_n 0, 1) := by decide +kernel
theorem dX6_fills_159 : decode cX6_fills 159 = .ok (.invokevirtual 153, 3) := by decide +kernel
theorem dX6_fills_162 : decode cX6_fills 162 = .ok (.iload 4, 2) := by decide +kernel
theorem dX6_fills_164 : decode cX6_fills 164 = .ok (.ireturn, 1) := by decide +kernel
theorem dX6_run_0 : decode cX6_run 0 = .ok (.aload_n 0, 1) := by decide +kernel
theorem dX6_run_1 : decode cX6_run 1 = .ok (.iload_n 1, 1) := by decide +kernel
theorem dX6_run_2 : decode cX6_run 2 = .ok (.invokevirtual 115, 3) := by decide +kernel
theorem dX6_run_5 : decode cX6_run 5 = .ok (.ifCond .ne 7, 3) := by decide +kernel
theorem dX6_run_8 : decode cX6_run 8 = .ok (.iconst (-1), 1) := by decide +kernel
theorem dX6_run_9 : decode cX6_run 9 = .ok (.goto 16, 3) := by decide +kernel
theorem dX6_run_12 : decode cX6_run 12 = .ok (.aload_n 0, 1) := by decide +kernel
theorem dX6_run_13 : decode cX6_run 13 = .ok (.invokevirtual 211, 3) := by decide +kernel
theorem dX6_run_16 : decode cX6_run 16 = .ok (.ifCond .le 8, 3) := by decide +kernel
theorem dX6_run_19 : decode cX6_run 19 = .ok (.bipush (-3), 2) := by decide +kernel
theorem dX6_run_21 : decode cX6_run 21 = .ok (.goto 4, 3) := by decide +kernel
theorem dX6_run_24 : decode cX6_run 24 = .ok (.iconst 0, 1) := by decide +kernel
theorem dX6_run_25 : decode cX6_run 25 = .ok (.istore_n 2, 1) := by decide +kernel
theorem dX6_run_26 : decode cX6_run 26 = .ok (.iload_n 2, 1) := by decide +kernel
theorem dX6_run_27 : decode cX6_run 27 = .ok (.ifCond .eq 9, 3) := by decide +kernel
theorem dX6_run_30 : decode cX6_run 30 = .ok (.aload_n 0, 1) := by decide +kernel
theorem dX6_run_31 : decode cX6_run 31 = .ok (.iload_n 2, 1) := by decide +kernel
theorem dX6_run_32 : decode cX6_run 32 = .ok (.invokevirtual 52, 3) := by decide +kernel
theorem dX6_run_35 : decode cX6_run 35 = .ok (.ireturn, 1) := by decide +kernel
theorem dX6_run_36 : decode cX6_run 36 = .ok (.aload_n 0, 1) := by decide +kernel
theorem dX6_run_37 : decode cX6_run 37 = .ok (.getfield 13, 3) := by decide +kernel
theorem dX6_run_40 : decode cX6_run 40 = .ok (.iconst 4, 1) := by decide +kernel
theorem dX6_run_41 : decode cX6_run 41 = .ok (.iload_n 1, 1) := by decide +kernel
theorem dX6_run_42 : decode cX6_run 42 = .ok (.iadd, 1) := by decide +kernel
theorem dX6_run_43 : decode cX6_run 43 = .ok (.iconst 1, 1) := by decide +kernel
theorem dX6_run_44 : decode cX6_run 44 = .ok (.isub, 1) := by decide +kernel
theorem dX6_run_45 : decode cX6_run 45 = .ok (.iaload, 1) := by decide +kernel
theorem dX6_run_46 : decode cX6_run 46 = .ok (.istore_n 3, 1) := by decide +kernel
theorem dX6_run_47 : decode cX6_run 47 = .ok (.iconst 0, 1) := by decide +kernel
theorem dX6_run_48 : decode cX6_run 48 = .ok (.istore 4, 2) := by decide +kernel
theorem dX6_run_50 : decode cX6_run 50 = .ok (.iload 4, 2) := by decide +kernel
theorem dX6_run_52 : decode cX6_run 52 = .ok (.aload_n 0, 1) := by decide +kernel
theorem dX6_run_53 : decode cX6_run 53 = .ok (.getfield 13, 3) := by decide +kernel
theorem dX6_run_56 : decode cX6_run 56 = .ok (.iconst 3, 1) := by decide +kernel
theorem dX6_run_57 : decode cX6_run 57 = .ok (.iaload, 1) := by decide +kernel
theorem dX6_run_58 : decode cX6_run 58 = .ok (.if_icmp .ge 31, 3) := by decide +kernel
theorem dX6_run_61 : decode cX6_run 61 = .ok (.iload_n 3, 1) := by decide +kernel
theorem dX6_run_62 : decode cX6_run 62 = .ok (.aload_n 0, 1) := by decide +kernel
theorem dX6_run_63 : decode cX6_run 63 = .ok (.aload_n 0, 1) := by decide +kernel
theorem dX6_run_64 : decode cX6_run 64 = .ok (.iload 4, 2) := by decide +kernel
theorem dX6_run_66 : decode cX6_run 66 = .ok (.invokevirtual 208, 3) := by decide +kernel
theorem dX6_run_69 : decode cX6_run 69 = .ok (.iload_n 1, 1) := by decide +kernel
theorem dX6_run_70 : decode cX6_run 70 = .ok (.invokevirtual 112, 3) := by decide +kernel
theorem dX6_run_73 : decode cX6_run 73 = .ok (.ifCond .eq 7, 3) := by decide +kernel
theorem dX6_run_76 : decode cX6_run 76 = .ok (.iconst 1, 1) := by decide +kernel
theorem dX6_run_77 : decode cX6_run 77 = .ok (.goto 4, 3) := by decide +kernel
theorem dX6_run_80 : decode cX6_run 80 = .ok (.iconst 0, 1) := by decide +kernel
theorem dX6_run_81 : decode cX6_run 81 = .ok (.iadd, 1) := by decide +kernel
theorem dX6_run_82 : decode cX6_run 82 = .ok (.istore_n 3, 1) := by decide +kernel
theorem dX6_run_83 : decode cX6_run 83 = .ok (.iinc 4 1, 3) := by decide +kernel
theorem dX6_run_86 : decode cX6_run 86 = .ok (.goto (-36), 3) := by decide +kernel
theorem dX6_run_89 : decode cX6_run 89 = .ok (.iload_n 3, 1) := by decide +kernel
theorem dX6_run_90 : decode cX6_run 90 = .ok (.aload_n 0, 1) := by decide +kernel
theorem dX6_run_91 : decode cX6_run 91 = .ok (.getfield 13, 3) := by decide +kernel
theorem dX6_run_94 : decode cX6_run 94 = .ok (.iconst 1, 1) := by decide +kernel
theorem dX6_run_95 : decode cX6_run 95 = .ok (.iaload, 1) := by decide +kernel
theorem dX6_run_96 : decode cX6_run 96 = .ok (.irem, 1) := by decide +kernel
theorem dX6_run_97 : decode cX6_run 97 = .ok (.ireturn, 1) := by decide +kernel
theorem dX6_shuts_0 : decode cX6_shuts 0 = .ok (.iconst 0, 1) := by decide +kernel
theorem dX6_shuts_1 : decode cX6_shuts 1 = .ok (.istore_n 2, 1) := by decide +kernel
theorem dX6_shuts_2 : decode cX6_shuts 2 = .ok (.iconst 1, 1) := by decide +kernel
theorem dX6_shuts_3 : decode cX6_shuts 3 = .ok (.istore_n 3, 1) := by decide +kernel
theorem dX6_shuts_4 : decode cX6_shuts 4 = .ok (.iload_n 3, 1) := by decide +kernel
theorem dX6_shuts_5 : decode cX6_shuts 5 = .ok (.aload_n 0, 1) := by decide +kernel
theorem dX6_shuts_6 : decode cX6_shuts 6 = .ok (.getfield 13, 3) := by decide +kernel
theorem dX6_shuts_9 : decode cX6_shuts 9 = .ok (.iconst 0, 1) := by decide +kernel
theorem dX6_shuts_10 : decode cX6_shuts 10 = .ok (.iaload, 1) := by decide +kernel
theorem dX6_shuts_11 : decode cX6_shuts 11 = .ok (.if_icmp .gt 49, 3) := by decide +kernel
theorem dX6_shuts_14 : decode cX6_shuts 14 = .ok (.iload_n 2, 1) := by decide +kernel
theorem dX6_shuts_15 : decode cX6_shuts 15 = .ok (.ifCond .ne 33, 3) := by decide +kernel
theorem dX6_shuts_18 : decode cX6_shuts 18 = .ok (.aload_n 0, 1) := by decide +kernel
theorem dX6_shuts_19 : decode cX6_shuts 19 = .ok (.iload_n 1, 1) := by decide +kernel
theorem dX6_shuts_20 : decode cX6_shuts 20 = .ok (.iload_n 3, 1) := by decide +kernel
theorem dX6_shuts_21 : decode cX6_shuts 21 = .ok (.invokevirtual 112, 3) := by decide +kernel
theorem dX6_shuts_24 : decode cX6_shuts 24 = .ok (.ifCond .eq 28, 3) := by decide +kernel
theorem dX6_shuts_27 : decode cX6_shuts 27 = .ok (.aload_n 0, 1) := by decide +kernel
theorem dX6_shuts_28 : decode cX6_shuts 28 = .ok (.getfield 13, 3) := by decide +kernel
theorem dX6_shuts_31 : decode cX6_shuts 31 = .ok (.iconst 4, 1) := by decide +kernel
theorem dX6_shuts_32 : decode cX6_shuts 32 = .ok (.iload_n 3, 1) := by decide +kernel
theorem dX6_shuts_33 : decode cX6_shuts 33 = .ok (.iadd, 1) := by decide +kernel
theorem dX6_shuts_34 : decode cX6_shuts 34 = .ok (.iconst 1, 1) := by decide +kernel
theorem dX6_shuts_35 : decode cX6_shuts 35 = .ok (.isub, 1) := by decide +kernel
theorem dX6_shuts_36 : decode cX6_shuts 36 = .ok (.iaload, 1) := by decide +kernel
theorem dX6_shuts_37 : decode cX6_shuts 37 = .ok (.aload_n 0, 1) := by decide +kernel
theorem dX6_shuts_38 : decode cX6_shuts 38 = .ok (.getfield 13, 3) := by decide +kernel
theorem dX6_shuts_41 : decode cX6_shuts 41 = .ok (.iconst 1, 1) := by decide +kernel
theorem dX6_shuts_42 : decode cX6_shuts 42 = .ok (.iaload, 1) := by decide +kernel
theorem dX6_shuts_43 : decode cX6_shuts 43 = .ok (.iconst 1, 1) := by decide +kernel
theorem dX6_shuts_44 : decode cX6_shuts 44 = .ok (.isub, 1) := by decide +kernel
theorem dX6_shuts_45 : decode cX6_shuts 45 = .ok (.if_icmp .ne 7, 3) := by decide +kernel
theorem dX6_shuts_48 : decode cX6_shuts 48 = .ok (.iconst 1, 1) := by decide +kernel
theorem dX6_shuts_49 : decode cX6_shuts 49 = .ok (.goto 4, 3) := by decide +kernel
theorem dX6_shuts_52 : decode cX6_shuts 52 = .ok (.iconst 0, 1) := by decide +kernel
theorem dX6_shuts_53 : decode cX6_shuts 53 = .ok (.istore_n 2, 1) := by decide +kernel
theorem dX6_shuts_54 : decode cX6_shuts 54 = .ok (.iinc 3 1, 3) := by decide +kernel
theorem dX6_shuts_57 : decode cX6_shuts 57 = .ok (.goto (-53), 3) := by decide +kernel
theorem dX6_shuts_60 : decode cX6_shuts 60 = .ok (.iload_n 2, 1) := by decide +kernel
theorem dX6_shuts_61 : decode cX6_shuts 61 = .ok (.ireturn, 1) := by decide +kernel
theorem dX6_judge_0 : decode cX6_judge 0 = .ok (.aload_n 0, 1) := by decide +kernel
theorem dX6_judge_1 : decode cX6_judge 1 = .ok (.invokevirtual 211, 3) := by decide +kernel
theorem dX6_judge_4 : decode cX6_judge 4 = .ok (.ifCond .le 10, 3) := by decide +kernel
theorem dX6_judge_7 : decode cX6_judge 7 = .ok (.aload_n 0, 1) := by decide +kernel
theorem dX6_judge_8 : decode cX6_judge 8 = .ok (.bipush (-3), 2) := by decide +kernel
theorem dX6_judge_10 : decode cX6_judge 10 = .ok (.invokevirtual 52, 3) := by decide +kernel
theorem dX6_judge_13 : decode cX6_judge 13 = .ok (.ireturn, 1) := by decide +kernel
theorem dX6_judge_14 : decode cX6_judge 14 = .ok (.aload_n 0, 1) := by decide +kernel
theorem dX6_judge_15 : decode cX6_judge 15 = .ok (.invokevirtual 147, 3) := by decide +kernel
theorem dX6_judge_18 : decode cX6_judge 18 = .ok (.bipush (-9), 2) := by decide +kernel
theorem dX6_judge_20 : decode cX6_judge 20 = .ok (.istore_n 1, 1) := by decide +kernel
theorem dX6_judge_21 : decode cX6_judge 21 = .ok (.iconst 0, 1) := by decide +kernel
theorem dX6_judge_22 : decode cX6_judge 22 = .ok (.istore_n 2, 1) := by decide +kernel
theorem dX6_judge_23 : decode cX6_judge 23 = .ok (.iload_n 2, 1) := by decide +kernel
theorem dX6_judge_24 : decode cX6_judge 24 = .ok (.aload_n 0, 1) := by decide +kernel
theorem dX6_judge_25 : decode cX6_judge 25 = .ok (.getfield 13, 3) := by decide +kernel
theorem dX6_judge_28 : decode cX6_judge 28 = .ok (.iconst 3, 1) := by decide +kernel
theorem dX6_judge_29 : decode cX6_judge 29 = .ok (.iaload, 1) := by decide +kernel
theorem dX6_judge_30 : decode cX6_judge 30 = .ok (.if_icmp .ge 37, 3) := by decide +kernel
theorem dX6_judge_33 : decode cX6_judge 33 = .ok (.iload_n 1, 1) := by decide +kernel
theorem dX6_judge_34 : decode cX6_judge 34 = .ok (.ifCond .ge 33, 3) := by decide +kernel
theorem dX6_judge_37 : decode cX6_judge 37 = .ok (.aload_n 0, 1) := by decide +kernel
theorem dX6_judge_38 : decode cX6_judge 38 = .ok (.aload_n 0, 1) := by decide +kernel
theorem dX6_judge_39 : decode cX6_judge 39 = .ok (.iload_n 2, 1) := by decide +kernel
theorem dX6_judge_40 : decode cX6_judge 40 = .ok (.invokevirtual 208, 3) := by decide +kernel
theorem dX6_judge_43 : decode cX6_judge 43 = .ok (.invokevirtual 214, 3) := by decide +kernel
theorem dX6_judge_46 : decode cX6_judge 46 = .ok (.ifCond .eq 5, 3) := by decide +kernel
theorem dX6_judge_49 : decode cX6_judge 49 = .ok (.iload_n 2, 1) := by decide +kernel
theorem dX6_judge_50 : decode cX6_judge 50 = .ok (.istore_n 1, 1) := by decide +kernel
theorem dX6_judge_51 : decode cX6_judge 51 = .ok (.aload_n 0, 1) := by decide +kernel
theorem dX6_judge_52 : decode cX6_judge 52 = .ok (.aload_n 0, 1) := by decide +kernel
theorem dX6_judge_53 : decode cX6_judge 53 = .ok (.iload_n 2, 1) := by decide +kernel
theorem dX6_judge_54 : decode cX6_judge 54 = .ok (.invokevirtual 208, 3) := by decide +kernel
theorem dX6_judge_57 : decode cX6_judge 57 = .ok (.invokevirtual 128, 3) := by decide +kernel
theorem dX6_judge_60 : decode cX6_judge 60 = .ok (.pop, 1) := by decide +kernel
theorem dX6_judge_61 : decode cX6_judge 61 = .ok (.iinc 2 1, 3) := by decide +kernel
theorem dX6_judge_64 : decode cX6_judge 64 = .ok (.goto (-41), 3) := by decide +kernel
theorem dX6_judge_67 : decode cX6_judge 67 = .ok (.aload_n 0, 1) := by decide +kernel
theorem dX6_judge_68 : decode cX6_judge 68 = .ok (.invokevirtual 153, 3) := by decide +kernel
theorem dX6_judge_71 : decode cX6_judge 71 = .ok (.iload_n 1, 1) := by decide +kernel
theorem dX6_judge_72 : decode cX6_judge 72 = .ok (.ireturn, 1) := by decide +kernel
theorem dX6_clear_0 : decode cX6_clear 0 = .ok (.aload_n 0, 1) := by decide +kernel
theorem dX6_clear_1 : decode cX6_clear 1 = .ok (.getfield 13, 3) := by decide +kernel
theorem dX6_clear_4 : decode cX6_clear 4 = .ok (.iconst 3, 1) := by decide +kernel
theorem dX6_clear_5 : decode cX6_clear 5 = .ok (.iaload, 1) := by decide +kernel
theorem dX6_clear_6 : decode cX6_clear 6 = .ok (.istore_n 1, 1) := by decide +kernel
theorem dX6_clear_7 : decode cX6_clear 7 = .ok (.aload_n 0, 1) := by decide +kernel
theorem dX6_clear_8 : decode cX6_clear 8 = .ok (.getfield 13, 3) := by decide +kernel
theorem dX6_clear_11 : decode cX6_clear 11 = .ok (.iconst 3, 1) := by decide +kernel
theorem dX6_clear_12 : decode cX6_clear 12 = .ok (.iconst 0, 1) := by decide +kernel
theorem dX6_clear_13 : decode cX6_clear 13 = .ok (.iastore, 1) := by decide +kernel
theorem dX6_clear_14 : decode cX6_clear 14 = .ok (.iload_n 1, 1) := by decide +kernel
theorem dX6_clear_15 : decode cX6_clear 15 = .ok (.ireturn, 1) := by decide +kernel
theorem dX6_then_0 : decode cX6_then 0 = .ok (.aload_n 0, 1) := by decide +kernel
theorem dX6_then_1 : decode cX6_then 1 = .ok (.iload_n 2, 1) := by decide +kernel
theorem dX6_then_2 : decode cX6_then 2 = .ok (.invokevirtual 137, 3) := by decide +kernel
theorem dX6_then_5 : decode cX6_then 5 = .ok (.istore_n 3, 1) := by decide +kernel
theorem dX6_then_6 : decode cX6_then 6 = .ok (.aload_n 0, 1) := by decide +kernel
theorem dX6_then_7 : decode cX6_then 7 = .ok (.iload_n 1, 1) := by decide +kernel
theorem dX6_then_8 : decode cX6_then 8 = .ok (.iload_n 2, 1) := by decide +kernel
theorem dX6_then_9 : decode cX6_then 9 = .ok (.invokevirtual 144, 3) := by decide +kernel
theorem dX6_then_12 : decode cX6_then 12 = .ok (.aload_n 0, 1) := by decide +kernel
theorem dX6_then_13 : decode cX6_then 13 = .ok (.getfield 13, 3) := by decide +kernel
theorem dX6_then_16 : decode cX6_then 16 = .ok (.iconst 1, 1) := by decide +kernel
theorem dX6_then_17 : decode cX6_then 17 = .ok (.iaload, 1) := by decide +kernel
theorem dX6_then_18 : decode cX6_then 18 = .ok (.iconst 1, 1) := by decide +kernel
theorem dX6_then_19 : decode cX6_then 19 = .ok (.isub, 1) := by decide +kernel
theorem dX6_then_20 : decode cX6_then 20 = .ok (.if_icmp .ge 9, 3) := by decide +kernel
theorem dX6_then_23 : decode cX6_then 23 = .ok (.iload_n 1, 1) := by decide +kernel
theorem dX6_then_24 : decode cX6_then 24 = .ok (.iload_n 3, 1) := by decide +kernel
theorem dX6_then_25 : decode cX6_then 25 = .ok (.iadd, 1) := by decide +kernel
theorem dX6_then_26 : decode cX6_then 26 = .ok (.goto 15, 3) := by decide +kernel
theorem dX6_then_29 : decode cX6_then 29 = .ok (.iload_n 1, 1) := by decide +kernel
theorem dX6_then_30 : decode cX6_then 30 = .ok (.iload_n 3, 1) := by decide +kernel
theorem dX6_then_31 : decode cX6_then 31 = .ok (.aload_n 0, 1) := by decide +kernel
theorem dX6_then_32 : decode cX6_then 32 = .ok (.getfield 13, 3) := by decide +kernel
theorem dX6_then_35 : decode cX6_then 35 = .ok (.iconst 1, 1) := by decide +kernel
theorem dX6_then_36 : decode cX6_then 36 = .ok (.iaload, 1) := by decide +kernel
theorem dX6_then_37 : decode cX6_then 37 = .ok (.iconst 1, 1) := by decide +kernel
theorem dX6_then_38 : decode cX6_then 38 = .ok (.isub, 1) := by decide +kernel
theorem dX6_then_39 : decode cX6_then 39 = .ok (.imul, 1) := by decide +kernel
theorem dX6_then_40 : decode cX6_then 40 = .ok (.isub, 1) := by decide +kernel
theorem dX6_then_41 : decode cX6_then 41 = .ok (.ireturn, 1) := by decide +kernel
theorem dX6_worthOf_0 : decode cX6_worthOf 0 = .ok (.iconst 1, 1) := by decide +kernel
theorem dX6_worthOf_1 : decode cX6_worthOf 1 = .ok (.istore_n 2, 1) := by decide +kernel
theorem dX6_worthOf_2 : decode cX6_worthOf 2 = .ok (.iconst 0, 1) := by decide +kernel
theorem dX6_worthOf_3 : decode cX6_worthOf 3 = .ok (.istore_n 3, 1) := by decide +kernel
theorem dX6_worthOf_4 : decode cX6_worthOf 4 = .ok (.iload_n 3, 1) := by decide +kernel
theorem dX6_worthOf_5 : decode cX6_worthOf 5 = .ok (.aload_n 0, 1) := by decide +kernel
theorem dX6_worthOf_6 : decode cX6_worthOf 6 = .ok (.getfield 13, 3) := by decide +kernel
theorem dX6_worthOf_9 : decode cX6_worthOf 9 = .ok (.iconst 2, 1) := by decide +kernel
theorem dX6_worthOf_10 : decode cX6_worthOf 10 = .ok (.iaload, 1) := by decide +kernel
theorem dX6_worthOf_11 : decode cX6_worthOf 11 = .ok (.if_icmp .ge 45, 3) := by decide +kernel
theorem dX6_worthOf_14 : decode cX6_worthOf 14 = .ok (.aload_n 0, 1) := by decide +kernel
theorem dX6_worthOf_15 : decode cX6_worthOf 15 = .ok (.getfield 37, 3) := by decide +kernel
theorem dX6_worthOf_18 : decode cX6_worthOf 18 = .ok (.aload_n 0, 1) := by decide +kernel
theorem dX6_worthOf_19 : decode cX6_worthOf 19 = .ok (.iload_n 1, 1) := by decide +kernel
theorem dX6_worthOf_20 : decode cX6_worthOf 20 = .ok (.iload_n 3, 1) := by decide +kernel
theorem dX6_worthOf_21 : decode cX6_worthOf 21 = .ok (.invokevirtual 217, 3) := by decide +kernel
theorem dX6_worthOf_24 : decode cX6_worthOf 24 = .ok (.iaload, 1) := by decide +kernel
theorem dX6_worthOf_25 : decode cX6_worthOf 25 = .ok (.istore 4, 2) := by decide +kernel
theorem dX6_worthOf_27 : decode cX6_worthOf 27 = .ok (.iload 4, 2) := by decide +kernel
theorem dX6_worthOf_29 : decode cX6_worthOf 29 = .ok (.ifCond .ne 5, 3) := by decide +kernel
theorem dX6_worthOf_32 : decode cX6_worthOf 32 = .ok (.iconst 1, 1) := by decide +kernel
theorem dX6_worthOf_33 : decode cX6_worthOf 33 = .ok (.ireturn, 1) := by decide +kernel
theorem dX6_worthOf_34 : decode cX6_worthOf 34 = .ok (.iload_n 2, 1) := by decide +kernel
theorem dX6_worthOf_35 : decode cX6_worthOf 35 = .ok (.ifCond .eq 13, 3) := by decide +kernel
theorem dX6_worthOf_38 : decode cX6_worthOf 38 = .ok (.iload 4, 2) := by decide +kernel
theorem dX6_worthOf_40 : decode cX6_worthOf 40 = .ok (.iconst 1, 1) := by decide +kernel
theorem dX6_worthOf_41 : decode cX6_worthOf 41 = .ok (.if_icmp .ne 7, 3) := by decide +kernel
theorem dX6_worthOf_44 : decode cX6_worthOf 44 = .ok (.iconst 1, 1) := by decide +kernel
theorem dX6_worthOf_45 : decode cX6_worthOf 45 = .ok (.goto 4, 3) := by decide +kernel
theorem dX6_worthOf_48 : decode cX6_worthOf 48 = .ok (.iconst 0, 1) := by decide +kernel
theorem dX6_worthOf_49 : decode cX6_worthOf 49 = .ok (.istore_n 2, 1) := by decide +kernel
theorem dX6_worthOf_50 : decode cX6_worthOf 50 = .ok (.iinc 3 1, 3) := by decide +kernel
theorem dX6_worthOf_53 : decode cX6_worthOf 53 = .ok (.goto (-49), 3) := by decide +kernel
theorem dX6_worthOf_56 : decode cX6_worthOf 56 = .ok (.iload_n 2, 1) := by decide +kernel
theorem dX6_worthOf_57 : decode cX6_worthOf 57 = .ok (.ifCond .eq 7, 3) := by decide +kernel
theorem dX6_worthOf_60 : decode cX6_worthOf 60 = .ok (.iconst 0, 1) := by decide +kernel
theorem dX6_worthOf_61 : decode cX6_worthOf 61 = .ok (.goto 4, 3) := by decide +kernel
theorem dX6_worthOf_64 : decode cX6_worthOf 64 = .ok (.iconst 2, 1) := by decide +kernel
theorem dX6_worthOf_65 : decode cX6_worthOf 65 = .ok (.ireturn, 1) := by decide +kernel
theorem dX6_match_0 : decode cX6_match 0 = .ok (.aload_n 0, 1) := by decide +kernel
theorem dX6_match_1 : decode cX6_match 1 = .ok (.invokevirtual 134, 3) := by decide +kernel
theorem dX6_match_4 : decode cX6_match 4 = .ok (.ifCond .eq 5, 3) := by decide +kernel
theorem dX6_match_7 : decode cX6_match 7 = .ok (.iconst 0, 1) := by decide +kernel
theorem dX6_match_8 : decode cX6_match 8 = .ok (.ireturn, 1) := by decide +kernel
theorem dX6_match_9 : decode cX6_match 9 = .ok (.aload_n 0, 1) := by decide +kernel
theorem dX6_match_10 : decode cX6_match 10 = .ok (.getfield 13, 3) := by decide +kernel
theorem dX6_match_13 : decode cX6_match 13 = .ok (.iconst 2, 1) := by decide +kernel
theorem dX6_match_14 : decode cX6_match 14 = .ok (.iaload, 1) := by decide +kernel
theorem dX6_match_15 : decode cX6_match 15 = .ok (.ifCond .ne 5, 3) := by decide +kernel
theorem dX6_match_18 : decode cX6_match 18 = .ok (.iconst 2, 1) := by decide +kernel
theorem dX6_match_19 : decode cX6_match 19 = .ok (.ireturn, 1) := by decide +kernel
theorem dX6_match_20 : decode cX6_match 20 = .ok (.iconst 0, 1) := by decide +kernel
theorem dX6_match_21 : decode cX6_match 21 = .ok (.istore_n 1, 1) := by decide +kernel
theorem dX6_match_22 : decode cX6_match 22 = .ok (.iload_n 1, 1) := by decide +kernel
theorem dX6_match_23 : decode cX6_match 23 = .ok (.aload_n 0, 1) := by decide +kernel
theorem dX6_match_24 : decode cX6_match 24 = .ok (.invokevirtual 156, 3) := by decide +kernel
theorem dX6_match_27 : decode cX6_match 27 = .ok (.if_icmp .ge 28, 3) := by decide +kernel
theorem dX6_match_30 : decode cX6_match 30 = .ok (.aload_n 0, 1) := by decide +kernel
theorem dX6_match_31 : decode cX6_match 31 = .ok (.getfield 37, 3) := by decide +kernel
theorem dX6_match_34 : decode cX6_match 34 = .ok (.iload_n 1, 1) := by decide +kernel
theorem dX6_match_35 : decode cX6_match 35 = .ok (.aload_n 0, 1) := by decide +kernel
theorem dX6_match_36 : decode cX6_match 36 = .ok (.iload_n 1, 1) := by decide +kernel
theorem dX6_match_37 : decode cX6_match 37 = .ok (.invokevirtual 159, 3) := by decide +kernel
theorem dX6_match_40 : decode cX6_match 40 = .ok (.ifCond .eq 7, 3) := by decide +kernel
theorem dX6_match_43 : decode cX6_match 43 = .ok (.iconst 0, 1) := by decide +kernel
theorem dX6_match_44 : decode cX6_match 44 = .ok (.goto 4, 3) := by decide +kernel
theorem dX6_match_47 : decode cX6_match 47 = .ok (.iconst 2, 1) := by decide +kernel
theorem dX6_match_48 : decode cX6_match 48 = .ok (.iastore, 1) := by decide +kernel
theorem dX6_match_49 : decode cX6_match 49 = .ok (.iinc 1 1, 3) := by decide +kernel
theorem dX6_match_52 : decode cX6_match 52 = .ok (.goto (-30), 3) := by decide +kernel
theorem dX6_match_55 : decode cX6_match 55 = .ok (.iconst 1, 1) := by decide +kernel
theorem dX6_match_56 : decode cX6_match 56 = .ok (.istore_n 1, 1) := by decide +kernel
theorem dX6_match_57 : decode cX6_match 57 = .ok (.iload_n 1, 1) := by decide +kernel
theorem dX6_match_58 : decode cX6_match 58 = .ok (.ifCond .eq 68, 3) := by decide +kernel
theorem dX6_match_61 : decode cX6_match 61 = .ok (.iconst 0, 1) := by decide +kernel
theorem dX6_match_62 : decode cX6_match 62 = .ok (.istore_n 1, 1) := by decide +kernel
theorem dX6_match_63 : decode cX6_match 63 = .ok (.iconst 0, 1) := by decide +kernel
theorem dX6_match_64 : decode cX6_match 64 = .ok (.istore_n 2, 1) := by decide +kernel
theorem dX6_match_65 : decode cX6_match 65 = .ok (.iload_n 2, 1) := by decide +kernel
theorem dX6_match_66 : decode cX6_match 66 = .ok (.aload_n 0, 1) := by decide +kernel
theorem dX6_match_67 : decode cX6_match 67 = .ok (.invokevirtual 156, 3) := by decide +kernel
theorem dX6_match_70 : decode cX6_match 70 = .ok (.if_icmp .ge 53, 3) := by decide +kernel
theorem dX6_match_73 : decode cX6_match 73 = .ok (.aload_n 0, 1) := by decide +kernel
theorem dX6_match_74 : decode cX6_match 74 = .ok (.getfield 37, 3) := by decide +kernel
theorem dX6_match_77 : decode cX6_match 77 = .ok (.iload_n 2, 1) := by decide +kernel
theorem dX6_match_78 : decode cX6_match 78 = .ok (.iaload, 1) := by decide +kernel
theorem dX6_match_79 : decode cX6_match 79 = .ok (.iconst 2, 1) := by decide +kernel
theorem dX6_match_80 : decode cX6_match 80 = .ok (.if_icmp .eq 6, 3) := by decide +kernel
theorem dX6_match_83 : decode cX6_match 83 = .ok (.goto 34, 3) := by decide +kernel
theorem dX6_match_86 : decode cX6_match 86 = .ok (.aload_n 0, 1) := by decide +kernel
theorem dX6_match_87 : decode cX6_match 87 = .ok (.getfield 37, 3) := by decide +kernel
theorem dX6_match_90 : decode cX6_match 90 = .ok (.iload_n 2, 1) := by decide +kernel
theorem dX6_match_91 : decode cX6_match 91 = .ok (.aload_n 0, 1) := by decide +kernel
theorem dX6_match_92 : decode cX6_match 92 = .ok (.iload_n 2, 1) := by decide +kernel
theorem dX6_match_93 : decode cX6_match 93 = .ok (.invokevirtual 220, 3) := by decide +kernel
theorem dX6_match_96 : decode cX6_match 96 = .ok (.iastore, 1) := by decide +kernel
theorem dX6_match_97 : decode cX6_match 97 = .ok (.iload_n 1, 1) := by decide +kernel
theorem dX6_match_98 : decode cX6_match 98 = .ok (.ifCond .ne 13, 3) := by decide +kernel
theorem dX6_match_101 : decode cX6_match 101 = .ok (.aload_n 0, 1) := by decide +kernel
theorem dX6_match_102 : decode cX6_match 102 = .ok (.getfield 37, 3) := by decide +kernel
theorem dX6_match_105 : decode cX6_match 105 = .ok (.iload_n 2, 1) := by decide +kernel
theorem dX6_match_106 : decode cX6_match 106 = .ok (.iaload, 1) := by decide +kernel
theorem dX6_match_107 : decode cX6_match 107 = .ok (.iconst 2, 1) := by decide +kernel
theorem dX6_match_108 : decode cX6_match 108 = .ok (.if_icmp .eq 7, 3) := by decide +kernel
theorem dX6_match_111 : decode cX6_match 111 = .ok (.iconst 1, 1) := by decide +kernel
theorem dX6_match_112 : decode cX6_match 112 = .ok (.goto 4, 3) := by decide +kernel
theorem dX6_match_115 : decode cX6_match 115 = .ok (.iconst 0, 1) := by decide +kernel
theorem dX6_match_116 : decode cX6_match 116 = .ok (.istore_n 1, 1) := by decide +kernel
theorem dX6_match_117 : decode cX6_match 117 = .ok (.iinc 2 1, 3) := by decide +kernel
theorem dX6_match_120 : decode cX6_match 120 = .ok (.goto (-55), 3) := by decide +kernel
theorem dX6_match_123 : decode cX6_match 123 = .ok (.goto (-66), 3) := by decide +kernel
theorem dX6_match_126 : decode cX6_match 126 = .ok (.aload_n 0, 1) := by decide +kernel
theorem dX6_match_127 : decode cX6_match 127 = .ok (.getfield 37, 3) := by decide +kernel
theorem dX6_match_130 : decode cX6_match 130 = .ok (.iconst 0, 1) := by decide +kernel
theorem dX6_match_131 : decode cX6_match 131 = .ok (.iaload, 1) := by decide +kernel
theorem dX6_match_132 : decode cX6_match 132 = .ok (.ireturn, 1) := by decide +kernel
theorem dX6_seeds_0 : decode cX6_seeds 0 = .ok (.iload_n 1, 1) := by decide +kernel
theorem dX6_seeds_1 : decode cX6_seeds 1 = .ok (.iconst 0, 1) := by decide +kernel
theorem dX6_seeds_2 : decode cX6_seeds 2 = .ok (.bipush 99, 2) := by decide +kernel
theorem dX6_seeds_4 : decode cX6_seeds 4 = .ok (.invokestatic 44, 3) := by decide +kernel
theorem dX6_seeds_7 : decode cX6_seeds 7 = .ok (.istore_n 3, 1) := by decide +kernel
theorem dX6_seeds_8 : decode cX6_seeds 8 = .ok (.iload_n 3, 1) := by decide +kernel
theorem dX6_seeds_9 : decode cX6_seeds 9 = .ok (.ifCond .ne 15, 3) := by decide +kernel
theorem dX6_seeds_12 : decode cX6_seeds 12 = .ok (.aload_n 0, 1) := by decide +kernel
theorem dX6_seeds_13 : decode cX6_seeds 13 = .ok (.getfield 13, 3) := by decide +kernel
theorem dX6_seeds_16 : decode cX6_seeds 16 = .ok (.iconst 2, 1) := by decide +kernel
theorem dX6_seeds_17 : decode cX6_seeds 17 = .ok (.iaload, 1) := by decide +kernel
theorem dX6_seeds_18 : decode cX6_seeds 18 = .ok (.ifCond .ne 6, 3) := by decide +kernel
theorem dX6_seeds_21 : decode cX6_seeds 21 = .ok (.bipush (-3), 2) := by decide +kernel
theorem dX6_seeds_23 : decode cX6_seeds 23 = .ok (.istore_n 3, 1) := by decide +kernel
theorem dX6_seeds_24 : decode cX6_seeds 24 = .ok (.iload_n 3, 1) := by decide +kernel
theorem dX6_seeds_25 : decode cX6_seeds 25 = .ok (.ifCond .eq 9, 3) := by decide +kernel
theorem dX6_seeds_28 : decode cX6_seeds 28 = .ok (.aload_n 0, 1) := by decide +kernel
theorem dX6_seeds_29 : decode cX6_seeds 29 = .ok (.iload_n 3, 1) := by decide +kernel
theorem dX6_seeds_30 : decode cX6_seeds 30 = .ok (.invokevirtual 52, 3) := by decide +kernel
theorem dX6_seeds_33 : decode cX6_seeds 33 = .ok (.ireturn, 1) := by decide +kernel
theorem dX6_seeds_34 : decode cX6_seeds 34 = .ok (.iload_n 2, 1) := by decide +kernel
theorem dX6_seeds_35 : decode cX6_seeds 35 = .ok (.istore 4, 2) := by decide +kernel
theorem dX6_seeds_37 : decode cX6_seeds 37 = .ok (.aload_n 0, 1) := by decide +kernel
theorem dX6_seeds_38 : decode cX6_seeds 38 = .ok (.invokevirtual 147, 3) := by decide +kernel
theorem dX6_seeds_41 : decode cX6_seeds 41 = .ok (.iconst 0, 1) := by decide +kernel
theorem dX6_seeds_42 : decode cX6_seeds 42 = .ok (.istore 5, 2) := by decide +kernel
theorem dX6_seeds_44 : decode cX6_seeds 44 = .ok (.iload 5, 2) := by decide +kernel
theorem dX6_seeds_46 : decode cX6_seeds 46 = .ok (.iload_n 1, 1) := by decide +kernel
theorem dX6_seeds_47 : decode cX6_seeds 47 = .ok (.if_icmp .ge 40, 3) := by decide +kernel
theorem dX6_seeds_50 : decode cX6_seeds 50 = .ok (.iload 4, 2) := by decide +kernel
theorem dX6_seeds_52 : decode cX6_seeds 52 = .ok (.ldc 223, 2) := by decide +kernel
theorem dX6_seeds_54 : decode cX6_seeds 54 = .ok (.imul, 1) := by decide +kernel
theorem dX6_seeds_55 : decode cX6_seeds 55 = .ok (.ldc 224, 2) := by decide +kernel
theorem dX6_seeds_57 : decode cX6_seeds 57 = .ok (.iadd, 1) := by decide +kernel
theorem dX6_seeds_58 : decode cX6_seeds 58 = .ok (.istore 4, 2) := by decide +kernel
theorem dX6_seeds_60 : decode cX6_seeds 60 = .ok (.aload_n 0, 1) := by decide +kernel
theorem dX6_seeds_61 : decode cX6_seeds 61 = .ok (.iload 4, 2) := by decide +kernel
theorem dX6_seeds_63 : decode cX6_seeds 63 = .ok (.ldc 225, 2) := by decide +kernel
theorem dX6_seeds_65 : decode cX6_seeds 65 = .ok (.iand, 1) := by decide +kernel
theorem dX6_seeds_66 : decode cX6_seeds 66 = .ok (.sipush 256, 3) := by decide +kernel
theorem dX6_seeds_69 : decode cX6_seeds 69 = .ok (.idiv, 1) := by decide +kernel
theorem dX6_seeds_70 : decode cX6_seeds 70 = .ok (.aload_n 0, 1) := by decide +kernel
theorem dX6_seeds_71 : decode cX6_seeds 71 = .ok (.getfield 13, 3) := by decide +kernel
theorem dX6_seeds_74 : decode cX6_seeds 74 = .ok (.iconst 2, 1) := by decide +kernel
theorem dX6_seeds_75 : decode cX6_seeds 75 = .ok (.iaload, 1) := by decide +kernel
theorem dX6_seeds_76 : decode cX6_seeds 76 = .ok (.irem, 1) := by decide +kernel
theorem dX6_seeds_77 : decode cX6_seeds 77 = .ok (.invokevirtual 128, 3) := by decide +kernel
theorem dX6_seeds_80 : decode cX6_seeds 80 = .ok (.pop, 1) := by decide +kernel
theorem dX6_seeds_81 : decode cX6_seeds 81 = .ok (.iinc 5 1, 3) := by decide +kernel
theorem dX6_seeds_84 : decode cX6_seeds 84 = .ok (.goto (-40), 3) := by decide +kernel
theorem dX6_seeds_87 : decode cX6_seeds 87 = .ok (.aload_n 0, 1) := by decide +kernel
theorem dX6_seeds_88 : decode cX6_seeds 88 = .ok (.invokevirtual 131, 3) := by decide +kernel
theorem dX6_seeds_91 : decode cX6_seeds 91 = .ok (.istore 5, 2) := by decide +kernel
theorem dX6_seeds_93 : decode cX6_seeds 93 = .ok (.aload_n 0, 1) := by decide +kernel
theorem dX6_seeds_94 : decode cX6_seeds 94 = .ok (.invokevirtual 153, 3) := by decide +kernel
theorem dX6_seeds_97 : decode cX6_seeds 97 = .ok (.iload 5, 2) := by decide +kernel
theorem dX6_seeds_99 : decode cX6_seeds 99 = .ok (.ireturn, 1) := by decide +kernel
theorem dX6_image_0 : decode cX6_image 0 = .ok (.aload_n 0, 1) := by decide +kernel
theorem dX6_image_1 : decode cX6_image 1 = .ok (.getfield 13, 3) := by decide +kernel
theorem dX6_image_4 : decode cX6_image 4 = .ok (.aload_n 0, 1) := by decide +kernel
theorem dX6_image_5 : decode cX6_image 5 = .ok (.getfield 16, 3) := by decide +kernel
theorem dX6_image_8 : decode cX6_image 8 = .ok (.invokestatic 95, 3) := by decide +kernel
theorem dX6_image_11 : decode cX6_image 11 = .ok (.aload_n 0, 1) := by decide +kernel
theorem dX6_image_12 : decode cX6_image 12 = .ok (.iconst 1, 1) := by decide +kernel
theorem dX6_image_13 : decode cX6_image 13 = .ok (.putfield 226, 3) := by decide +kernel
theorem dX6_image_16 : decode cX6_image 16 = .ok (.aload_n 0, 1) := by decide +kernel
theorem dX6_image_17 : decode cX6_image 17 = .ok (.getfield 13, 3) := by decide +kernel
theorem dX6_image_20 : decode cX6_image 20 = .ok (.iconst 2, 1) := by decide +kernel
theorem dX6_image_21 : decode cX6_image 21 = .ok (.iaload, 1) := by decide +kernel
theorem dX6_image_22 : decode cX6_image 22 = .ok (.ireturn, 1) := by decide +kernel
theorem dX6_on_0 : decode cX6_on 0 = .ok (.aload_n 0, 1) := by decide +kernel
theorem dX6_on_1 : decode cX6_on 1 = .ok (.getfield 226, 3) := by decide +kernel
theorem dX6_on_4 : decode cX6_on 4 = .ok (.ifCond .ne 10, 3) := by decide +kernel
theorem dX6_on_7 : decode cX6_on 7 = .ok (.aload_n 0, 1) := by decide +kernel
theorem dX6_on_8 : decode cX6_on 8 = .ok (.bipush (-3), 2) := by decide +kernel
theorem dX6_on_10 : decode cX6_on 10 = .ok (.invokevirtual 52, 3) := by decide +kernel
theorem dX6_on_13 : decode cX6_on 13 = .ok (.ireturn, 1) := by decide +kernel
theorem dX6_on_14 : decode cX6_on 14 = .ok (.aload_n 0, 1) := by decide +kernel
theorem dX6_on_15 : decode cX6_on 15 = .ok (.getfield 16, 3) := by decide +kernel
theorem dX6_on_18 : decode cX6_on 18 = .ok (.aload_n 0, 1) := by decide +kernel
theorem dX6_on_19 : decode cX6_on 19 = .ok (.getfield 13, 3) := by decide +kernel
theorem dX6_on_22 : decode cX6_on 22 = .ok (.invokestatic 95, 3) := by decide +kernel
theorem dX6_on_25 : decode cX6_on 25 = .ok (.aload_n 0, 1) := by decide +kernel
theorem dX6_on_26 : decode cX6_on 26 = .ok (.getfield 13, 3) := by decide +kernel
theorem dX6_on_29 : decode cX6_on 29 = .ok (.iconst 2, 1) := by decide +kernel
theorem dX6_on_30 : decode cX6_on 30 = .ok (.iaload, 1) := by decide +kernel
theorem dX6_on_31 : decode cX6_on 31 = .ok (.ireturn, 1) := by decide +kernel
theorem dX6_count_0 : decode cX6_count 0 = .ok (.iload_n 1, 1) := by decide +kernel
theorem dX6_count_1 : decode cX6_count 1 = .ok (.bipush 10, 2) := by decide +kernel
theorem dX6_count_3 : decode cX6_count 3 = .ok (.if_icmp .le 19, 3) := by decide +kernel
theorem dX6_count_6 : decode cX6_count 6 = .ok (.iload_n 1, 1) := by decide +kernel
theorem dX6_count_7 : decode cX6_count 7 = .ok (.bipush 17, 2) := by decide +kernel
theorem dX6_count_9 : decode cX6_count 9 = .ok (.if_icmp .ge 13, 3) := by decide +kernel
theorem dX6_count_12 : decode cX6_count 12 = .ok (.aload_n 0, 1) := by decide +kernel
theorem dX6_count_13 : decode cX6_count 13 = .ok (.getfield 7, 3) := by decide +kernel
theorem dX6_count_16 : decode cX6_count 16 = .ok (.iload_n 1, 1) := by decide +kernel
theorem dX6_count_17 : decode cX6_count 17 = .ok (.bipush 10, 2) := by decide +kernel
theorem dX6_count_19 : decode cX6_count 19 = .ok (.isub, 1) := by decide +kernel
theorem dX6_count_20 : decode cX6_count 20 = .ok (.iaload, 1) := by decide +kernel
theorem dX6_count_21 : decode cX6_count 21 = .ok (.ireturn, 1) := by decide +kernel
theorem dX6_count_22 : decode cX6_count 22 = .ok (.iconst 0, 1) := by decide +kernel
theorem dX6_count_23 : decode cX6_count 23 = .ok (.istore_n 2, 1) := by decide +kernel
theorem dX6_count_24 : decode cX6_count 24 = .ok (.iload_n 1, 1) := by decide +kernel
theorem dX6_count_25 : decode cX6_count 25 = .ok (.tableswitch 118 0 7 #[47, 47, 47, 54, 93, 98, 105, 110], 47) := by decide +kernel
theorem dX6_count_72 : decode cX6_count 72 = .ok (.aload_n 0, 1) := by decide +kernel
theorem dX6_count_73 : decode cX6_count 73 = .ok (.getfield 13, 3) := by decide +kernel
theorem dX6_count_76 : decode cX6_count 76 = .ok (.iload_n 1, 1) := by decide +kernel
theorem dX6_count_77 : decode cX6_count 77 = .ok (.iaload, 1) := by decide +kernel
theorem dX6_count_78 : decode cX6_count 78 = .ok (.ireturn, 1) := by decide +kernel
theorem dX6_count_79 : decode cX6_count 79 = .ok (.iconst 0, 1) := by decide +kernel
theorem dX6_count_80 : decode cX6_count 80 = .ok (.istore_n 3, 1) := by decide +kernel
theorem dX6_count_81 : decode cX6_count 81 = .ok (.iload_n 3, 1) := by decide +kernel
theorem dX6_count_82 : decode cX6_count 82 = .ok (.aload_n 0, 1) := by decide +kernel
theorem dX6_count_83 : decode cX6_count 83 = .ok (.getfield 13, 3) := by decide +kernel
theorem dX6_count_86 : decode cX6_count 86 = .ok (.iconst 0, 1) := by decide +kernel
theorem dX6_count_87 : decode cX6_count 87 = .ok (.iaload, 1) := by decide +kernel
theorem dX6_count_88 : decode cX6_count 88 = .ok (.if_icmp .ge 28, 3) := by decide +kernel
theorem dX6_count_91 : decode cX6_count 91 = .ok (.iload_n 2, 1) := by decide +kernel
theorem dX6_count_92 : decode cX6_count 92 = .ok (.aload_n 0, 1) := by decide +kernel
theorem dX6_count_93 : decode cX6_count 93 = .ok (.getfield 13, 3) := by decide +kernel
theorem dX6_count_96 : decode cX6_count 96 = .ok (.iconst 4, 1) := by decide +kernel
theorem dX6_count_97 : decode cX6_count 97 = .ok (.iload_n 3, 1) := by decide +kernel
theorem dX6_count_98 : decode cX6_count 98 = .ok (.iadd, 1) := by decide +kernel
theorem dX6_count_99 : decode cX6_count 99 = .ok (.iaload, 1) := by decide +kernel
theorem dX6_count_100 : decode cX6_count 100 = .ok (.ifCond .ne 7, 3) := by decide +kernel
theorem dX6_count_103 : decode cX6_count 103 = .ok (.iconst 0, 1) := by decide +kernel
theorem dX6_count_104 : decode cX6_count 104 = .ok (.goto 4, 3) := by decide +kernel
theorem dX6_count_107 : decode cX6_count 107 = .ok (.iconst 1, 1) := by decide +kernel
theorem dX6_count_108 : decode cX6_count 108 = .ok (.iadd, 1) := by decide +kernel
theorem dX6_count_109 : decode cX6_count 109 = .ok (.istore_n 2, 1) := by decide +kernel
theorem dX6_count_110 : decode cX6_count 110 = .ok (.iinc 3 1, 3) := by decide +kernel
theorem dX6_count_113 : decode cX6_count 113 = .ok (.goto (-32), 3) := by decide +kernel
theorem dX6_count_116 : decode cX6_count 116 = .ok (.iload_n 2, 1) := by decide +kernel
theorem dX6_count_117 : decode cX6_count 117 = .ok (.ireturn, 1) := by decide +kernel
theorem dX6_count_118 : decode cX6_count 118 = .ok (.aload_n 0, 1) := by decide +kernel
theorem dX6_count_119 : decode cX6_count 119 = .ok (.invokevirtual 183, 3) := by decide +kernel
theorem dX6_count_122 : decode cX6_count 122 = .ok (.ireturn, 1) := by decide +kernel
theorem dX6_count_123 : decode cX6_count 123 = .ok (.aload_n 0, 1) := by decide +kernel
theorem dX6_count_124 : decode cX6_count 124 = .ok (.getfield 13, 3) := by decide +kernel
theorem dX6_count_127 : decode cX6_count 127 = .ok (.iconst 3, 1) := by decide +kernel
theorem dX6_count_128 : decode cX6_count 128 = .ok (.iaload, 1) := by decide +kernel
theorem dX6_count_129 : decode cX6_count 129 = .ok (.ireturn, 1) := by decide +kernel
theorem dX6_count_130 : decode cX6_count 130 = .ok (.aload_n 0, 1) := by decide +kernel
theorem dX6_count_131 : decode cX6_count 131 = .ok (.getfield 48, 3) := by decide +kernel
theorem dX6_count_134 : decode cX6_count 134 = .ok (.ireturn, 1) := by decide +kernel
theorem dX6_count_135 : decode cX6_count 135 = .ok (.aload_n 0, 1) := by decide +kernel
theorem dX6_count_136 : decode cX6_count 136 = .ok (.getfield 13, 3) := by decide +kernel
theorem dX6_count_139 : decode cX6_count 139 = .ok (.bipush 78, 2) := by decide +kernel
theorem dX6_count_141 : decode cX6_count 141 = .ok (.iaload, 1) := by decide +kernel
theorem dX6_count_142 : decode cX6_count 142 = .ok (.ireturn, 1) := by decide +kernel
theorem dX6_count_143 : decode cX6_count 143 = .ok (.bipush (-9), 2) := by decide +kernel
theorem dX6_count_145 : decode cX6_count 145 = .ok (.ireturn, 1) := by decide +kernel
theorem dJ6_bitCount_0f7a4_0 : decode cJ6_bitCount_0f7a4 0 = .ok (.iload_n 0, 1) := by decide +kernel
theorem dJ6_bitCount_0f7a4_1 : decode cJ6_bitCount_0f7a4 1 = .ok (.iload_n 0, 1) := by decide +kernel
theorem dJ6_bitCount_0f7a4_2 : decode cJ6_bitCount_0f7a4 2 = .ok (.iconst 1, 1) := by decide +kernel
theorem dJ6_bitCount_0f7a4_3 : decode cJ6_bitCount_0f7a4 3 = .ok (.iushr, 1) := by decide +kernel
theorem dJ6_bitCount_0f7a4_4 : decode cJ6_bitCount_0f7a4 4 = .ok (.ldc_w 265, 3) := by decide +kernel
theorem dJ6_bitCount_0f7a4_7 : decode cJ6_bitCount_0f7a4 7 = .ok (.iand, 1) := by decide +kernel
theorem dJ6_bitCount_0f7a4_8 : decode cJ6_bitCount_0f7a4 8 = .ok (.isub, 1) := by decide +kernel
theorem dJ6_bitCount_0f7a4_9 : decode cJ6_bitCount_0f7a4 9 = .ok (.istore_n 0, 1) := by decide +kernel
theorem dJ6_bitCount_0f7a4_10 : decode cJ6_bitCount_0f7a4 10 = .ok (.iload_n 0, 1) := by decide +kernel
theorem dJ6_bitCount_0f7a4_11 : decode cJ6_bitCount_0f7a4 11 = .ok (.ldc_w 266, 3) := by decide +kernel
theorem dJ6_bitCount_0f7a4_14 : decode cJ6_bitCount_0f7a4 14 = .ok (.iand, 1) := by decide +kernel
theorem dJ6_bitCount_0f7a4_15 : decode cJ6_bitCount_0f7a4 15 = .ok (.iload_n 0, 1) := by decide +kernel
theorem dJ6_bitCount_0f7a4_16 : decode cJ6_bitCount_0f7a4 16 = .ok (.iconst 2, 1) := by decide +kernel
theorem dJ6_bitCount_0f7a4_17 : decode cJ6_bitCount_0f7a4 17 = .ok (.iushr, 1) := by decide +kernel
theorem dJ6_bitCount_0f7a4_18 : decode cJ6_bitCount_0f7a4 18 = .ok (.ldc_w 266, 3) := by decide +kernel
theorem dJ6_bitCount_0f7a4_21 : decode cJ6_bitCount_0f7a4 21 = .ok (.iand, 1) := by decide +kernel
theorem dJ6_bitCount_0f7a4_22 : decode cJ6_bitCount_0f7a4 22 = .ok (.iadd, 1) := by decide +kernel
theorem dJ6_bitCount_0f7a4_23 : decode cJ6_bitCount_0f7a4 23 = .ok (.istore_n 0, 1) := by decide +kernel
theorem dJ6_bitCount_0f7a4_24 : decode cJ6_bitCount_0f7a4 24 = .ok (.iload_n 0, 1) := by decide +kernel
theorem dJ6_bitCount_0f7a4_25 : decode cJ6_bitCount_0f7a4 25 = .ok (.iload_n 0, 1) := by decide +kernel
theorem dJ6_bitCount_0f7a4_26 : decode cJ6_bitCount_0f7a4 26 = .ok (.iconst 4, 1) := by decide +kernel
theorem dJ6_bitCount_0f7a4_27 : decode cJ6_bitCount_0f7a4 27 = .ok (.iushr, 1) := by decide +kernel
theorem dJ6_bitCount_0f7a4_28 : decode cJ6_bitCount_0f7a4 28 = .ok (.iadd, 1) := by decide +kernel
theorem dJ6_bitCount_0f7a4_29 : decode cJ6_bitCount_0f7a4 29 = .ok (.ldc_w 267, 3) := by decide +kernel
theorem dJ6_bitCount_0f7a4_32 : decode cJ6_bitCount_0f7a4 32 = .ok (.iand, 1) := by decide +kernel
theorem dJ6_bitCount_0f7a4_33 : decode cJ6_bitCount_0f7a4 33 = .ok (.istore_n 0, 1) := by decide +kernel
theorem dJ6_bitCount_0f7a4_34 : decode cJ6_bitCount_0f7a4 34 = .ok (.iload_n 0, 1) := by decide +kernel
theorem dJ6_bitCount_0f7a4_35 : decode cJ6_bitCount_0f7a4 35 = .ok (.iload_n 0, 1) := by decide +kernel
theorem dJ6_bitCount_0f7a4_36 : decode cJ6_bitCount_0f7a4 36 = .ok (.bipush 8, 2) := by decide +kernel
theorem dJ6_bitCount_0f7a4_38 : decode cJ6_bitCount_0f7a4 38 = .ok (.iushr, 1) := by decide +kernel
theorem dJ6_bitCount_0f7a4_39 : decode cJ6_bitCount_0f7a4 39 = .ok (.iadd, 1) := by decide +kernel
theorem dJ6_bitCount_0f7a4_40 : decode cJ6_bitCount_0f7a4 40 = .ok (.istore_n 0, 1) := by decide +kernel
theorem dJ6_bitCount_0f7a4_41 : decode cJ6_bitCount_0f7a4 41 = .ok (.iload_n 0, 1) := by decide +kernel
theorem dJ6_bitCount_0f7a4_42 : decode cJ6_bitCount_0f7a4 42 = .ok (.iload_n 0, 1) := by decide +kernel
theorem dJ6_bitCount_0f7a4_43 : decode cJ6_bitCount_0f7a4 43 = .ok (.bipush 16, 2) := by decide +kernel
theorem dJ6_bitCount_0f7a4_45 : decode cJ6_bitCount_0f7a4 45 = .ok (.iushr, 1) := by decide +kernel
theorem dJ6_bitCount_0f7a4_46 : decode cJ6_bitCount_0f7a4 46 = .ok (.iadd, 1) := by decide +kernel
theorem dJ6_bitCount_0f7a4_47 : decode cJ6_bitCount_0f7a4 47 = .ok (.istore_n 0, 1) := by decide +kernel
theorem dJ6_bitCount_0f7a4_48 : decode cJ6_bitCount_0f7a4 48 = .ok (.iload_n 0, 1) := by decide +kernel
theorem dJ6_bitCount_0f7a4_49 : decode cJ6_bitCount_0f7a4 49 = .ok (.bipush 63, 2) := by decide +kernel
theorem dJ6_bitCount_0f7a4_51 : decode cJ6_bitCount_0f7a4 51 = .ok (.iand, 1) := by decide +kernel
theorem dJ6_bitCount_0f7a4_52 : decode cJ6_bitCount_0f7a4 52 = .ok (.ireturn, 1) := by decide +kernel
theorem dL_law_0 : decode cL_law 0 = .ok (.new 7, 3) := by decide +kernel
theorem dL_law_3 : decode cL_law 3 = .ok (.dup, 1) := by decide +kernel
theorem dL_law_4 : decode cL_law 4 = .ok (.invokespecial 9, 3) := by decide +kernel
theorem dL_law_7 : decode cL_law 7 = .ok (.astore_n 1, 1) := by decide +kernel
theorem dL_law_8 : decode cL_law 8 = .ok (.new 10, 3) := by decide +kernel
theorem dL_law_11 : decode cL_law 11 = .ok (.dup, 1) := by decide +kernel
theorem dL_law_12 : decode cL_law 12 = .ok (.invokespecial 12, 3) := by decide +kernel
theorem dL_law_15 : decode cL_law 15 = .ok (.astore_n 2, 1) := by decide +kernel
theorem dL_law_16 : decode cL_law 16 = .ok (.iconst 0, 1) := by decide +kernel
theorem dL_law_17 : decode cL_law 17 = .ok (.istore_n 3, 1) := by decide +kernel
theorem dL_law_18 : decode cL_law 18 = .ok (.iload_n 3, 1) := by decide +kernel
theorem dL_law_19 : decode cL_law 19 = .ok (.aload_n 0, 1) := by decide +kernel
theorem dL_law_20 : decode cL_law 20 = .ok (.arraylength, 1) := by decide +kernel
theorem dL_law_21 : decode cL_law 21 = .ok (.iconst 4, 1) := by decide +kernel
theorem dL_law_22 : decode cL_law 22 = .ok (.isub, 1) := by decide +kernel
theorem dL_law_23 : decode cL_law 23 = .ok (.if_icmp .gt 785, 3) := by decide +kernel
theorem dL_law_26 : decode cL_law 26 = .ok (.aload_n 0, 1) := by decide +kernel
theorem dL_law_27 : decode cL_law 27 = .ok (.iload_n 3, 1) := by decide +kernel
theorem dL_law_28 : decode cL_law 28 = .ok (.iaload, 1) := by decide +kernel
theorem dL_law_29 : decode cL_law 29 = .ok (.bipush 31, 2) := by decide +kernel
theorem dL_law_31 : decode cL_law 31 = .ok (.iand, 1) := by decide +kernel
theorem dL_law_32 : decode cL_law 32 = .ok (.tableswitch 770 0 31 #[144, 167, 180, 213, 246, 269, 292, 305, 318, 361, 374, 387, 400, 423, 436, 449, 472, 485, 498, 521, 544, 567, 590, 613, 626, 649, 662, 675, 688, 721, 734, 747], 144) := by decide +kernel
theorem dL_law_176 : decode cL_law 176 = .ok (.aload_n 1, 1) := by decide +kernel
theorem dL_law_177 : decode cL_law 177 = .ok (.aload_n 0, 1) := by decide +kernel
theorem dL_law_178 : decode cL_law 178 = .ok (.iload_n 3, 1) := by decide +kernel
theorem dL_law_179 : decode cL_law 179 = .ok (.iconst 1, 1) := by decide +kernel
theorem dL_law_180 : decode cL_law 180 = .ok (.iadd, 1) := by decide +kernel
theorem dL_law_181 : decode cL_law 181 = .ok (.iaload, 1) := by decide +kernel
theorem dL_law_182 : decode cL_law 182 = .ok (.invokevirtual 13, 3) := by decide +kernel
theorem dL_law_185 : decode cL_law 185 = .ok (.aload_n 2, 1) := by decide +kernel
theorem dL_law_186 : decode cL_law 186 = .ok (.aload_n 0, 1) := by decide +kernel
theorem dL_law_187 : decode cL_law 187 = .ok (.iload_n 3, 1) := by decide +kernel
theorem dL_law_188 : decode cL_law 188 = .ok (.iconst 1, 1) := by decide +kernel
theorem dL_law_189 : decode cL_law 189 = .ok (.iadd, 1) := by decide +kernel
theorem dL_law_190 : decode cL_law 190 = .ok (.iaload, 1) := by decide +kernel
theorem dL_law_191 : decode cL_law 191 = .ok (.invokevirtual 17, 3) := by decide +kernel
theorem dL_law_194 : decode cL_law 194 = .ok (.if_icmp .eq 608, 3) := by decide +kernel
theorem dL_law_197 : decode cL_law 197 = .ok (.iconst 0, 1) := by decide +kernel
theorem dL_law_198 : decode cL_law 198 = .ok (.ireturn, 1) := by decide +kernel
theorem dL_law_199 : decode cL_law 199 = .ok (.aload_n 1, 1) := by decide +kernel
theorem dL_law_200 : decode cL_law 200 = .ok (.invokevirtual 18, 3) := by decide +kernel
theorem dL_law_203 : decode cL_law 203 = .ok (.aload_n 2, 1) := by decide +kernel
theorem dL_law_204 : decode cL_law 204 = .ok (.invokevirtual 22, 3) := by decide +kernel
theorem dL_law_207 : decode cL_law 207 = .ok (.if_icmp .eq 595, 3) := by decide +kernel
theorem dL_law_210 : decode cL_law 210 = .ok (.iconst 0, 1) := by decide +kernel
theorem dL_law_211 : decode cL_law 211 = .ok (.ireturn, 1) := by decide +kernel
theorem dL_law_212 : decode cL_law 212 = .ok (.aload_n 1, 1) := by decide +kernel
theorem dL_law_213 : decode cL_law 213 = .ok (.aload_n 0, 1) := by decide +kernel
theorem dL_law_214 : decode cL_law 214 = .ok (.iload_n 3, 1) := by decide +kernel
theorem dL_law_215 : decode cL_law 215 = .ok (.iconst 1, 1) := by decide +kernel
theorem dL_law_216 : decode cL_law 216 = .ok (.iadd, 1) := by decide +kernel
theorem dL_law_217 : decode cL_law 217 = .ok (.iaload, 1) := by decide +kernel
theorem dL_law_218 : decode cL_law 218 = .ok (.aload_n 0, 1) := by decide +kernel
theorem dL_law_219 : decode cL_law 219 = .ok (.iload_n 3, 1) := by decide +kernel
theorem dL_law_220 : decode cL_law 220 = .ok (.iconst 2, 1) := by decide +kernel
theorem dL_law_221 : decode cL_law 221 = .ok (.iadd, 1) := by decide +kernel
theorem dL_law_222 : decode cL_law 222 = .ok (.iaload, 1) := by decide +kernel
theorem dL_law_223 : decode cL_law 223 = .ok (.invokevirtual 23, 3) := by decide +kernel
theorem dL_law_226 : decode cL_law 226 = .ok (.aload_n 2, 1) := by decide +kernel
theorem dL_law_227 : decode cL_law 227 = .ok (.aload_n 0, 1) := by decide +kernel
theorem dL_law_228 : decode cL_law 228 = .ok (.iload_n 3, 1) := by decide +kernel
theorem dL_law_229 : decode cL_law 229 = .ok (.iconst 1, 1) := by decide +kernel
theorem dL_law_230 : decode cL_law 230 = .ok (.iadd, 1) := by decide +kernel
theorem dL_law_231 : decode cL_law 231 = .ok (.iaload, 1) := by decide +kernel
theorem dL_law_232 : decode cL_law 232 = .ok (.aload_n 0, 1) := by decide +kernel
theorem dL_law_233 : decode cL_law 233 = .ok (.iload_n 3, 1) := by decide +kernel
theorem dL_law_234 : decode cL_law 234 = .ok (.iconst 2, 1) := by decide +kernel
theorem dL_law_235 : decode cL_law 235 = .ok (.iadd, 1) := by decide +kernel
theorem dL_law_236 : decode cL_law 236 = .ok (.iaload, 1) := by decide +kernel
theorem dL_law_237 : decode cL_law 237 = .ok (.invokevirtual 27, 3) := by decide +kernel
theorem dL_law_240 : decode cL_law 240 = .ok (.if_icmp .eq 562, 3) := by decide +kernel
theorem dL_law_243 : decode cL_law 243 = .ok (.iconst 0, 1) := by decide +kernel
theorem dL_law_244 : decode cL_law 244 = .ok (.ireturn, 1) := by decide +kernel
theorem dL_law_245 : decode cL_law 245 = .ok (.aload_n 1, 1) := by decide +kernel
theorem dL_law_246 : decode cL_law 246 = .ok (.aload_n 0, 1) := by decide +kernel
theorem dL_law_247 : decode cL_law 247 = .ok (.iload_n 3, 1) := by decide +kernel
theorem dL_law_248 : decode cL_law 248 = .ok (.iconst 1, 1) := by decide +kernel
theorem dL_law_249 : decode cL_law 249 = .ok (.iadd, 1) := by decide +kernel
theorem dL_law_250 : decode cL_law 250 = .ok (.iaload, 1) := by decide +kernel
theorem dL_law_251 : decode cL_law 251 = .ok (.aload_n 0, 1) := by decide +kernel
theorem dL_law_252 : decode cL_law 252 = .ok (.iload_n 3, 1) := by decide +kernel
theorem dL_law_253 : decode cL_law 253 = .ok (.iconst 2, 1) := by decide +kernel
theorem dL_law_254 : decode cL_law 254 = .ok (.iadd, 1) := by decide +kernel
theorem dL_law_255 : decode cL_law 255 = .ok (.iaload, 1) := by decide +kernel
theorem dL_law_256 : decode cL_law 256 = .ok (.invokevirtual 28, 3) := by decide +kernel
theorem dL_law_259 : decode cL_law 259 = .ok (.aload_n 2, 1) := by decide +kernel
theorem dL_law_260 : decode cL_law 260 = .ok (.aload_n 0, 1) := by decide +kernel
theorem dL_law_261 : decode cL_law 261 = .ok (.iload_n 3, 1) := by decide +kernel
theorem dL_law_262 : decode cL_law 262 = .ok (.iconst 1, 1) := by decide +kernel
theorem dL_law_263 : decode cL_law 263 = .ok (.iadd, 1) := by decide +kernel
theorem dL_law_264 : decode cL_law 264 = .ok (.iaload, 1) := by decide +kernel
theorem dL_law_265 : decode cL_law 265 = .ok (.aload_n 0, 1) := by decide +kernel
theorem dL_law_266 : decode cL_law 266 = .ok (.iload_n 3, 1) := by decide +kernel
theorem dL_law_267 : decode cL_law 267 = .ok (.iconst 2, 1) := by decide +kernel
theorem dL_law_268 : decode cL_law 268 = .ok (.iadd, 1) := by decide +kernel
theorem dL_law_269 : decode cL_law 269 = .ok (.iaload, 1) := by decide +kernel
theorem dL_law_270 : decode cL_law 270 = .ok (.invokevirtual 31, 3) := by decide +kernel
theorem dL_law_273 : decode cL_law 273 = .ok (.if_icmp .eq 529, 3) := by decide +kernel
theorem dL_law_276 : decode cL_law 276 = .ok (.iconst 0, 1) := by decide +kernel
theorem dL_law_277 : decode cL_law 277 = .ok (.ireturn, 1) := by decide +kernel
theorem dL_law_278 : decode cL_law 278 = .ok (.aload_n 1, 1) := by decide +kernel
theorem dL_law_279 : decode cL_law 279 = .ok (.aload_n 0, 1) := by decide +kernel
theorem dL_law_280 : decode cL_law 280 = .ok (.iload_n 3, 1) := by decide +kernel
theorem dL_law_281 : decode cL_law 281 = .ok (.iconst 1, 1) := by decide +kernel
theorem dL_law_282 : decode cL_law 282 = .ok (.iadd, 1) := by decide +kernel
theorem dL_law_283 : decode cL_law 283 = .ok (.iaload, 1) := by decide +kernel
theorem dL_law_284 : decode cL_law 284 = .ok (.invokevirtual 32, 3) := by decide +kernel
theorem dL_law_287 : decode cL_law 287 = .ok (.aload_n 2, 1) := by decide +kernel
theorem dL_law_288 : decode cL_law 288 = .ok (.aload_n 0, 1) := by decide +kernel
theorem dL_law_289 : decode cL_law 289 = .ok (.iload_n 3, 1) := by decide +kernel
theorem dL_law_290 : decode cL_law 290 = .ok (.iconst 1, 1) := by decide +kernel
theorem dL_law_291 : decode cL_law 291 = .ok (.iadd, 1) := by decide +kernel
theorem dL_law_292 : decode cL_law 292 = .ok (.iaload, 1) := by decide +kernel
theorem dL_law_293 : decode cL_law 293 = .ok (.invokevirtual 35, 3) := by decide +kernel
theorem dL_law_296 : decode cL_law 296 = .ok (.if_icmp .eq 506, 3) := by decide +kernel
theorem dL_law_299 : decode cL_law 299 = .ok (.iconst 0, 1) := by decide +kernel
theorem dL_law_300 : decode cL_law 300 = .ok (.ireturn, 1) := by decide +kernel
theorem dL_law_301 : decode cL_law 301 = .ok (.aload_n 1, 1) := by decide +kernel
theorem dL_law_302 : decode cL_law 302 = .ok (.aload_n 0, 1) := by decide +kernel
theorem dL_law_303 : decode cL_law 303 = .ok (.iload_n 3, 1) := by decide +kernel
theorem dL_law_304 : decode cL_law 304 = .ok (.iconst 1, 1) := by decide +kernel
theorem dL_law_305 : decode cL_law 305 = .ok (.iadd, 1) := by decide +kernel
theorem dL_law_306 : decode cL_law 306 = .ok (.iaload, 1) := by decide +kernel
theorem dL_law_307 : decode cL_law 307 = .ok (.invokevirtual 36, 3) := by decide +kernel
theorem dL_law_310 : decode cL_law 310 = .ok (.aload_n 2, 1) := by decide +kernel
theorem dL_law_311 : decode cL_law 311 = .ok (.aload_n 0, 1) := by decide +kernel
theorem dL_law_312 : decode cL_law 312 = .ok (.iload_n 3, 1) := by decide +kernel
theorem dL_law_313 : decode cL_law 313 = .ok (.iconst 1, 1) := by decide +kernel
theorem dL_law_314 : decode cL_law 314 = .ok (.iadd, 1) := by decide +kernel
theorem dL_law_315 : decode cL_law 315 = .ok (.iaload, 1) := by decide +kernel
theorem dL_law_316 : decode cL_law 316 = .ok (.invokevirtual 39, 3) := by decide +kernel
theorem dL_law_319 : decode cL_law 319 = .ok (.if_icmp .eq 483, 3) := by decide +kernel
theorem dL_law_322 : decode cL_law 322 = .ok (.iconst 0, 1) := by decide +kernel
theorem dL_law_323 : decode cL_law 323 = .ok (.ireturn, 1) := by decide +kernel
theorem dL_law_324 : decode cL_law 324 = .ok (.aload_n 1, 1) := by decide +kernel
theorem dL_law_325 : decode cL_law 325 = .ok (.invokevirtual 40, 3) := by decide +kernel
theorem dL_law_328 : decode cL_law 328 = .ok (.aload_n 2, 1) := by decide +kernel
theorem dL_law_329 : decode cL_law 329 = .ok (.invokevirtual 43, 3) := by decide +kernel
theorem dL_law_332 : decode cL_law 332 = .ok (.if_icmp .eq 470, 3) := by decide +kernel
theorem dL_law_335 : decode cL_law 335 = .ok (.iconst 0, 1) := by decide +kernel
theorem dL_law_336 : decode cL_law 336 = .ok (.ireturn, 1) := by decide +kernel
theorem dL_law_337 : decode cL_law 337 = .ok (.aload_n 1, 1) := by decide +kernel
theorem dL_law_338 : decode cL_law 338 = .ok (.invokevirtual 44, 3) := by decide +kernel
theorem dL_law_341 : decode cL_law 341 = .ok (.aload_n 2, 1) := by decide +kernel
theorem dL_law_342 : decode cL_law 342 = .ok (.invokevirtual 47, 3) := by decide +kernel
theorem dL_law_345 : decode cL_law 345 = .ok (.if_icmp .eq 457, 3) := by decide +kernel
theorem dL_law_348 : decode cL_law 348 = .ok (.iconst 0, 1) := by decide +kernel
theorem dL_law_349 : decode cL_law 349 = .ok (.ireturn, 1) := by decide +kernel
theorem dL_law_350 : decode cL_law 350 = .ok (.aload_n 1, 1) := by decide +kernel
theorem dL_law_351 : decode cL_law 351 = .ok (.aload_n 0, 1) := by decide +kernel
theorem dL_law_352 : decode cL_law 352 = .ok (.iload_n 3, 1) := by decide +kernel
theorem dL_law_353 : decode cL_law 353 = .ok (.iconst 1, 1) := by decide +kernel
theorem dL_law_354 : decode cL_law 354 = .ok (.iadd, 1) := by decide +kernel
theorem dL_law_355 : decode cL_law 355 = .ok (.iaload, 1) := by decide +kernel
theorem dL_law_356 : decode cL_law 356 = .ok (.aload_n 0, 1) := by decide +kernel
theorem dL_law_357 : decode cL_law 357 = .ok (.iload_n 3, 1) := by decide +kernel
theorem dL_law_358 : decode cL_law 358 = .ok (.iconst 2, 1) := by decide +kernel
theorem dL_law_359 : decode cL_law 359 = .ok (.iadd, 1) := by decide +kernel
theorem dL_law_360 : decode cL_law 360 = .ok (.iaload, 1) := by decide +kernel
theorem dL_law_361 : decode cL_law 361 = .ok (.aload_n 0, 1) := by decide +kernel
theorem dL_law_362 : decode cL_law 362 = .ok (.iload_n 3, 1) := by decide +kernel
theorem dL_law_363 : decode cL_law 363 = .ok (.iconst 3, 1) := by decide +kernel
theorem dL_law_364 : decode cL_law 364 = .ok (.iadd, 1) := by decide +kernel
theorem dL_law_365 : decode cL_law 365 = .ok (.iaload, 1) := by decide +kernel
theorem dL_law_366 : decode cL_law 366 = .ok (.invokevirtual 48, 3) := by decide +kernel
theorem dL_law_369 : decode cL_law 369 = .ok (.aload_n 2, 1) := by decide +kernel
theorem dL_law_370 : decode cL_law 370 = .ok (.aload_n 0, 1) := by decide +kernel
theorem dL_law_371 : decode cL_law 371 = .ok (.iload_n 3, 1) := by decide +kernel
theorem dL_law_372 : decode cL_law 372 = .ok (.iconst 1, 1) := by decide +kernel
theorem dL_law_373 : decode cL_law 373 = .ok (.iadd, 1) := by decide +kernel
theorem dL_law_374 : decode cL_law 374 = .ok (.iaload, 1) := by decide +kernel
theorem dL_law_375 : decode cL_law 375 = .ok (.aload_n 0, 1) := by decide +kernel
theorem dL_law_376 : decode cL_law 376 = .ok (.iload_n 3, 1) := by decide +kernel
theorem dL_law_377 : decode cL_law 377 = .ok (.iconst 2, 1) := by decide +kernel
theorem dL_law_378 : decode cL_law 378 = .ok (.iadd, 1) := by decide +kernel
theorem dL_law_379 : decode cL_law 379 = .ok (.iaload, 1) := by decide +kernel
theorem dL_law_380 : decode cL_law 380 = .ok (.aload_n 0, 1) := by decide +kernel
theorem dL_law_381 : decode cL_law 381 = .ok (.iload_n 3, 1) := by decide +kernel
theorem dL_law_382 : decode cL_law 382 = .ok (.iconst 3, 1) := by decide +kernel
theorem dL_law_383 : decode cL_law 383 = .ok (.iadd, 1) := by decide +kernel
theorem dL_law_384 : decode cL_law 384 = .ok (.iaload, 1) := by decide +kernel
theorem dL_law_385 : decode cL_law 385 = .ok (.invokevirtual 52, 3) := by decide +kernel
theorem dL_law_388 : decode cL_law 388 = .ok (.if_icmp .eq 414, 3) := by decide +kernel
theorem dL_law_391 : decode cL_law 391 = .ok (.iconst 0, 1) := by decide +kernel
theorem dL_law_392 : decode cL_law 392 = .ok (.ireturn, 1) := by decide +kernel
theorem dL_law_393 : decode cL_law 393 = .ok (.aload_n 1, 1) := by decide +kernel
theorem dL_law_394 : decode cL_law 394 = .ok (.invokevirtual 53, 3) := by decide +kernel
theorem dL_law_397 : decode cL_law 397 = .ok (.aload_n 2, 1) := by decide +kernel
theorem dL_law_398 : decode cL_law 398 = .ok (.invokevirtual 56, 3) := by decide +kernel
theorem dL_law_401 : decode cL_law 401 = .ok (.if_icmp .eq 401, 3) := by decide +kernel
theorem dL_law_404 : decode cL_law 404 = .ok (.iconst 0, 1) := by decide +kernel
theorem dL_law_405 : decode cL_law 405 = .ok (.ireturn, 1) := by decide +kernel
theorem dL_law_406 : decode cL_law 406 = .ok (.aload_n 1, 1) := by decide +kernel
theorem dL_law_407 : decode cL_law 407 = .ok (.invokevirtual 57, 3) := by decide +kernel
theorem dL_law_410 : decode cL_law 410 = .ok (.aload_n 2, 1) := by decide +kernel
theorem dL_law_411 : decode cL_law 411 = .ok (.invokevirtual 60, 3) := by decide +kernel
theorem dL_law_414 : decode cL_law 414 = .ok (.if_icmp .eq 388, 3) := by decide +kernel
theorem dL_law_417 : decode cL_law 417 = .ok (.iconst 0, 1) := by decide +kernel
theorem dL_law_418 : decode cL_law 418 = .ok (.ireturn, 1) := by decide +kernel
theorem dL_law_419 : decode cL_law 419 = .ok (.aload_n 1, 1) := by decide +kernel
theorem dL_law_420 : decode cL_law 420 = .ok (.invokevirtual 61, 3) := by decide +kernel
theorem dL_law_423 : decode cL_law 423 = .ok (.aload_n 2, 1) := by decide +kernel
theorem dL_law_424 : decode cL_law 424 = .ok (.invokevirtual 64, 3) := by decide +kernel
theorem dL_law_427 : decode cL_law 427 = .ok (.if_icmp .eq 375, 3) := by decide +kernel
theorem dL_law_430 : decode cL_law 430 = .ok (.iconst 0, 1) := by decide +kernel
theorem dL_law_431 : decode cL_law 431 = .ok (.ireturn, 1) := by decide +kernel
theorem dL_law_432 : decode cL_law 432 = .ok (.aload_n 1, 1) := by decide +kernel
theorem dL_law_433 : decode cL_law 433 = .ok (.aload_n 0, 1) := by decide +kernel
theorem dL_law_434 : decode cL_law 434 = .ok (.iload_n 3, 1) := by decide +kernel
theorem dL_law_435 : decode cL_law 435 = .ok (.iconst 1, 1) := by decide +kernel
theorem dL_law_436 : decode cL_law 436 = .ok (.iadd, 1) := by decide +kernel
theorem dL_law_437 : decode cL_law 437 = .ok (.iaload, 1) := by decide +kernel
theorem dL_law_438 : decode cL_law 438 = .ok (.invokevirtual 65, 3) := by decide +kernel
theorem dL_law_441 : decode cL_law 441 = .ok (.aload_n 2, 1) := by decide +kernel
theorem dL_law_442 : decode cL_law 442 = .ok (.aload_n 0, 1) := by decide +kernel
theorem dL_law_443 : decode cL_law 443 = .ok (.iload_n 3, 1) := by decide +kernel
theorem dL_law_444 : decode cL_law 444 = .ok (.iconst 1, 1) := by decide +kernel
theorem dL_law_445 : decode cL_law 445 = .ok (.iadd, 1) := by decide +kernel
theorem dL_law_446 : decode cL_law 446 = .ok (.iaload, 1) := by decide +kernel
theorem dL_law_447 : decode cL_law 447 = .ok (.invokevirtual 68, 3) := by decide +kernel
theorem dL_law_450 : decode cL_law 450 = .ok (.if_icmp .eq 352, 3) := by decide +kernel
theorem dL_law_453 : decode cL_law 453 = .ok (.iconst 0, 1) := by decide +kernel
theorem dL_law_454 : decode cL_law 454 = .ok (.ireturn, 1) := by decide +kernel
theorem dL_law_455 : decode cL_law 455 = .ok (.aload_n 1, 1) := by decide +kernel
theorem dL_law_456 : decode cL_law 456 = .ok (.invokevirtual 69, 3) := by decide +kernel
theorem dL_law_459 : decode cL_law 459 = .ok (.aload_n 2, 1) := by decide +kernel
theorem dL_law_460 : decode cL_law 460 = .ok (.invokevirtual 72, 3) := by decide +kernel
theorem dL_law_463 : decode cL_law 463 = .ok (.if_icmp .eq 339, 3) := by decide +kernel
theorem dL_law_466 : decode cL_law 466 = .ok (.iconst 0, 1) := by decide +kernel
theorem dL_law_467 : decode cL_law 467 = .ok (.ireturn, 1) := by decide +kernel
theorem dL_law_468 : decode cL_law 468 = .ok (.aload_n 1, 1) := by decide +kernel
theorem dL_law_469 : decode cL_law 469 = .ok (.invokevirtual 73, 3) := by decide +kernel
theorem dL_law_472 : decode cL_law 472 = .ok (.aload_n 2, 1) := by decide +kernel
theorem dL_law_473 : decode cL_law 473 = .ok (.invokevirtual 76, 3) := by decide +kernel
theorem dL_law_476 : decode cL_law 476 = .ok (.if_icmp .eq 326, 3) := by decide +kernel
theorem dL_law_479 : decode cL_law 479 = .ok (.iconst 0, 1) := by decide +kernel
theorem dL_law_480 : decode cL_law 480 = .ok (.ireturn, 1) := by decide +kernel
theorem dL_law_481 : decode cL_law 481 = .ok (.aload_n 1, 1) := by decide +kernel
theorem dL_law_482 : decode cL_law 482 = .ok (.aload_n 0, 1) := by decide +kernel
theorem dL_law_483 : decode cL_law 483 = .ok (.iload_n 3, 1) := by decide +kernel
theorem dL_law_484 : decode cL_law 484 = .ok (.iconst 1, 1) := by decide +kernel
theorem dL_law_485 : decode cL_law 485 = .ok (.iadd, 1) := by decide +kernel
theorem dL_law_486 : decode cL_law 486 = .ok (.iaload, 1) := by decide +kernel
theorem dL_law_487 : decode cL_law 487 = .ok (.invokevirtual 77, 3) := by decide +kernel
theorem dL_law_490 : decode cL_law 490 = .ok (.aload_n 2, 1) := by decide +kernel
theorem dL_law_491 : decode cL_law 491 = .ok (.aload_n 0, 1) := by decide +kernel
theorem dL_law_492 : decode cL_law 492 = .ok (.iload_n 3, 1) := by decide +kernel
theorem dL_law_493 : decode cL_law 493 = .ok (.iconst 1, 1) := by decide +kernel
theorem dL_law_494 : decode cL_law 494 = .ok (.iadd, 1) := by decide +kernel
theorem dL_law_495 : decode cL_law 495 = .ok (.iaload, 1) := by decide +kernel
theorem dL_law_496 : decode cL_law 496 = .ok (.invokevirtual 80, 3) := by decide +kernel
theorem dL_law_499 : decode cL_law 499 = .ok (.if_icmp .eq 303, 3) := by decide +kernel
theorem dL_law_502 : decode cL_law 502 = .ok (.iconst 0, 1) := by decide +kernel
theorem dL_law_503 : decode cL_law 503 = .ok (.ireturn, 1) := by decide +kernel
theorem dL_law_504 : decode cL_law 504 = .ok (.aload_n 1, 1) := by decide +kernel
theorem dL_law_505 : decode cL_law 505 = .ok (.invokevirtual 81, 3) := by decide +kernel
theorem dL_law_508 : decode cL_law 508 = .ok (.aload_n 2, 1) := by decide +kernel
theorem dL_law_509 : decode cL_law 509 = .ok (.invokevirtual 84, 3) := by decide +kernel
theorem dL_law_512 : decode cL_law 512 = .ok (.if_icmp .eq 290, 3) := by decide +kernel
theorem dL_law_515 : decode cL_law 515 = .ok (.iconst 0, 1) := by decide +kernel
theorem dL_law_516 : decode cL_law 516 = .ok (.ireturn, 1) := by decide +kernel
theorem dL_law_517 : decode cL_law 517 = .ok (.aload_n 1, 1) := by decide +kernel
theorem dL_law_518 : decode cL_law 518 = .ok (.invokevirtual 85, 3) := by decide +kernel
theorem dL_law_521 : decode cL_law 521 = .ok (.aload_n 2, 1) := by decide +kernel
theorem dL_law_522 : decode cL_law 522 = .ok (.invokevirtual 88, 3) := by decide +kernel
theorem dL_law_525 : decode cL_law 525 = .ok (.if_icmp .eq 277, 3) := by decide +kernel
theorem dL_law_528 : decode cL_law 528 = .ok (.iconst 0, 1) := by decide +kernel
theorem dL_law_529 : decode cL_law 529 = .ok (.ireturn, 1) := by decide +kernel
theorem dL_law_530 : decode cL_law 530 = .ok (.aload_n 1, 1) := by decide +kernel
theorem dL_law_531 : decode cL_law 531 = .ok (.aload_n 0, 1) := by decide +kernel
theorem dL_law_532 : decode cL_law 532 = .ok (.iload_n 3, 1) := by decide +kernel
theorem dL_law_533 : decode cL_law 533 = .ok (.iconst 1, 1) := by decide +kernel
theorem dL_law_534 : decode cL_law 534 = .ok (.iadd, 1) := by decide +kernel
theorem dL_law_535 : decode cL_law 535 = .ok (.iaload, 1) := by decide +kernel
theorem dL_law_536 : decode cL_law 536 = .ok (.invokevirtual 89, 3) := by decide +kernel
theorem dL_law_539 : decode cL_law 539 = .ok (.aload_n 2, 1) := by decide +kernel
theorem dL_law_540 : decode cL_law 540 = .ok (.aload_n 0, 1) := by decide +kernel
theorem dL_law_541 : decode cL_law 541 = .ok (.iload_n 3, 1) := by decide +kernel
theorem dL_law_542 : decode cL_law 542 = .ok (.iconst 1, 1) := by decide +kernel
theorem dL_law_543 : decode cL_law 543 = .ok (.iadd, 1) := by decide +kernel
theorem dL_law_544 : decode cL_law 544 = .ok (.iaload, 1) := by decide +kernel
theorem dL_law_545 : decode cL_law 545 = .ok (.invokevirtual 92, 3) := by decide +kernel
theorem dL_law_548 : decode cL_law 548 = .ok (.if_icmp .eq 254, 3) := by decide +kernel
theorem dL_law_551 : decode cL_law 551 = .ok (.iconst 0, 1) := by decide +kernel
theorem dL_law_552 : decode cL_law 552 = .ok (.ireturn, 1) := by decide +kernel
theorem dL_law_553 : decode cL_law 553 = .ok (.aload_n 1, 1) := by decide +kernel
theorem dL_law_554 : decode cL_law 554 = .ok (.aload_n 0, 1) := by decide +kernel
theorem dL_law_555 : decode cL_law 555 = .ok (.iload_n 3, 1) := by decide +kernel
theorem dL_law_556 : decode cL_law 556 = .ok (.iconst 1, 1) := by decide +kernel
theorem dL_law_557 : decode cL_law 557 = .ok (.iadd, 1) := by decide +kernel
theorem dL_law_558 : decode cL_law 558 = .ok (.iaload, 1) := by decide +kernel
theorem dL_law_559 : decode cL_law 559 = .ok (.invokevirtual 93, 3) := by decide +kernel
theorem dL_law_562 : decode cL_law 562 = .ok (.aload_n 2, 1) := by decide +kernel
theorem dL_law_563 : decode cL_law 563 = .ok (.aload_n 0, 1) := by decide +kernel
theorem dL_law_564 : decode cL_law 564 = .ok (.iload_n 3, 1) := by decide +kernel
theorem dL_law_565 : decode cL_law 565 = .ok (.iconst 1, 1) := by decide +kernel
theorem dL_law_566 : decode cL_law 566 = .ok (.iadd, 1) := by decide +kernel
theorem dL_law_567 : decode cL_law 567 = .ok (.iaload, 1) := by decide +kernel
theorem dL_law_568 : decode cL_law 568 = .ok (.invokevirtual 96, 3) := by decide +kernel
theorem dL_law_571 : decode cL_law 571 = .ok (.if_icmp .eq 231, 3) := by decide +kernel
theorem dL_law_574 : decode cL_law 574 = .ok (.iconst 0, 1) := by decide +kernel
theorem dL_law_575 : decode cL_law 575 = .ok (.ireturn, 1) := by decide +kernel
theorem dL_law_576 : decode cL_law 576 = .ok (.aload_n 1, 1) := by decide +kernel
theorem dL_law_577 : decode cL_law 577 = .ok (.aload_n 0, 1) := by decide +kernel
theorem dL_law_578 : decode cL_law 578 = .ok (.iload_n 3, 1) := by decide +kernel
theorem dL_law_579 : decode cL_law 579 = .ok (.iconst 1, 1) := by decide +kernel
theorem dL_law_580 : decode cL_law 580 = .ok (.iadd, 1) := by decide +kernel
theorem dL_law_581 : decode cL_law 581 = .ok (.iaload, 1) := by decide +kernel
theorem dL_law_582 : decode cL_law 582 = .ok (.invokevirtual 97, 3) := by decide +kernel
theorem dL_law_585 : decode cL_law 585 = .ok (.aload_n 2, 1) := by decide +kernel
theorem dL_law_586 : decode cL_law 586 = .ok (.aload_n 0, 1) := by decide +kernel
theorem dL_law_587 : decode cL_law 587 = .ok (.iload_n 3, 1) := by decide +kernel
theorem dL_law_588 : decode cL_law 588 = .ok (.iconst 1, 1) := by decide +kernel
theorem dL_law_589 : decode cL_law 589 = .ok (.iadd, 1) := by decide +kernel
theorem dL_law_590 : decode cL_law 590 = .ok (.iaload, 1) := by decide +kernel
theorem dL_law_591 : decode cL_law 591 = .ok (.invokevirtual 100, 3) := by decide +kernel
theorem dL_law_594 : decode cL_law 594 = .ok (.if_icmp .eq 208, 3) := by decide +kernel
theorem dL_law_597 : decode cL_law 597 = .ok (.iconst 0, 1) := by decide +kernel
theorem dL_law_598 : decode cL_law 598 = .ok (.ireturn, 1) := by decide +kernel
theorem dL_law_599 : decode cL_law 599 = .ok (.aload_n 1, 1) := by decide +kernel
theorem dL_law_600 : decode cL_law 600 = .ok (.aload_n 0, 1) := by decide +kernel
theorem dL_law_601 : decode cL_law 601 = .ok (.iload_n 3, 1) := by decide +kernel
theorem dL_law_602 : decode cL_law 602 = .ok (.iconst 1, 1) := by decide +kernel
theorem dL_law_603 : decode cL_law 603 = .ok (.iadd, 1) := by decide +kernel
theorem dL_law_604 : decode cL_law 604 = .ok (.iaload, 1) := by decide +kernel
theorem dL_law_605 : decode cL_law 605 = .ok (.invokevirtual 101, 3) := by decide +kernel
theorem dL_law_608 : decode cL_law 608 = .ok (.aload_n 2, 1) := by decide +kernel
theorem dL_law_609 : decode cL_law 609 = .ok (.aload_n 0, 1) := by decide +kernel
theorem dL_law_610 : decode cL_law 610 = .ok (.iload_n 3, 1) := by decide +kernel
theorem dL_law_611 : decode cL_law 611 = .ok (.iconst 1, 1) := by decide +kernel
theorem dL_law_612 : decode cL_law 612 = .ok (.iadd, 1) := by decide +kernel
theorem dL_law_613 : decode cL_law 613 = .ok (.iaload, 1) := by decide +kernel
theorem dL_law_614 : decode cL_law 614 = .ok (.invokevirtual 104, 3) := by decide +kernel
theorem dL_law_617 : decode cL_law 617 = .ok (.if_icmp .eq 185, 3) := by decide +kernel
theorem dL_law_620 : decode cL_law 620 = .ok (.iconst 0, 1) := by decide +kernel
theorem dL_law_621 : decode cL_law 621 = .ok (.ireturn, 1) := by decide +kernel
theorem dL_law_622 : decode cL_law 622 = .ok (.aload_n 1, 1) := by decide +kernel
theorem dL_law_623 : decode cL_law 623 = .ok (.aload_n 0, 1) := by decide +kernel
theorem dL_law_624 : decode cL_law 624 = .ok (.iload_n 3, 1) := by decide +kernel
theorem dL_law_625 : decode cL_law 625 = .ok (.iconst 1, 1) := by decide +kernel
theorem dL_law_626 : decode cL_law 626 = .ok (.iadd, 1) := by decide +kernel
theorem dL_law_627 : decode cL_law 627 = .ok (.iaload, 1) := by decide +kernel
theorem dL_law_628 : decode cL_law 628 = .ok (.invokevirtual 105, 3) := by decide +kernel
theorem dL_law_631 : decode cL_law 631 = .ok (.aload_n 2, 1) := by decide +kernel
theorem dL_law_632 : decode cL_law 632 = .ok (.aload_n 0, 1) := by decide +kernel
theorem dL_law_633 : decode cL_law 633 = .ok (.iload_n 3, 1) := by decide +kernel
theorem dL_law_634 : decode cL_law 634 = .ok (.iconst 1, 1) := by decide +kernel
theorem dL_law_635 : decode cL_law 635 = .ok (.iadd, 1) := by decide +kernel
theorem dL_law_636 : decode cL_law 636 = .ok (.iaload, 1) := by decide +kernel
theorem dL_law_637 : decode cL_law 637 = .ok (.invokevirtual 108, 3) := by decide +kernel
theorem dL_law_640 : decode cL_law 640 = .ok (.if_icmp .eq 162, 3) := by decide +kernel
theorem dL_law_643 : decode cL_law 643 = .ok (.iconst 0, 1) := by decide +kernel
theorem dL_law_644 : decode cL_law 644 = .ok (.ireturn, 1) := by decide +kernel
theorem dL_law_645 : decode cL_law 645 = .ok (.aload_n 1, 1) := by decide +kernel
theorem dL_law_646 : decode cL_law 646 = .ok (.invokevirtual 109, 3) := by decide +kernel
theorem dL_law_649 : decode cL_law 649 = .ok (.aload_n 2, 1) := by decide +kernel
theorem dL_law_650 : decode cL_law 650 = .ok (.invokevirtual 112, 3) := by decide +kernel
theorem dL_law_653 : decode cL_law 653 = .ok (.if_icmp .eq 149, 3) := by decide +kernel
theorem dL_law_656 : decode cL_law 656 = .ok (.iconst 0, 1) := by decide +kernel
theorem dL_law_657 : decode cL_law 657 = .ok (.ireturn, 1) := by decide +kernel
theorem dL_law_658 : decode cL_law 658 = .ok (.aload_n 1, 1) := by decide +kernel
theorem dL_law_659 : decode cL_law 659 = .ok (.aload_n 0, 1) := by decide +kernel
theorem dL_law_660 : decode cL_law 660 = .ok (.iload_n 3, 1) := by decide +kernel
theorem dL_law_661 : decode cL_law 661 = .ok (.iconst 1, 1) := by decide +kernel
theorem dL_law_662 : decode cL_law 662 = .ok (.iadd, 1) := by decide +kernel
theorem dL_law_663 : decode cL_law 663 = .ok (.iaload, 1) := by decide +kernel
theorem dL_law_664 : decode cL_law 664 = .ok (.invokevirtual 113, 3) := by decide +kernel
theorem dL_law_667 : decode cL_law 667 = .ok (.aload_n 2, 1) := by decide +kernel
theorem dL_law_668 : decode cL_law 668 = .ok (.aload_n 0, 1) := by decide +kernel
theorem dL_law_669 : decode cL_law 669 = .ok (.iload_n 3, 1) := by decide +kernel
theorem dL_law_670 : decode cL_law 670 = .ok (.iconst 1, 1) := by decide +kernel
theorem dL_law_671 : decode cL_law 671 = .ok (.iadd, 1) := by decide +kernel
theorem dL_law_672 : decode cL_law 672 = .ok (.iaload, 1) := by decide +kernel
theorem dL_law_673 : decode cL_law 673 = .ok (.invokevirtual 116, 3) := by decide +kernel
theorem dL_law_676 : decode cL_law 676 = .ok (.if_icmp .eq 126, 3) := by decide +kernel
theorem dL_law_679 : decode cL_law 679 = .ok (.iconst 0, 1) := by decide +kernel
theorem dL_law_680 : decode cL_law 680 = .ok (.ireturn, 1) := by decide +kernel
theorem dL_law_681 : decode cL_law 681 = .ok (.aload_n 1, 1) := by decide +kernel
theorem dL_law_682 : decode cL_law 682 = .ok (.invokevirtual 117, 3) := by decide +kernel
theorem dL_law_685 : decode cL_law 685 = .ok (.aload_n 2, 1) := by decide +kernel
theorem dL_law_686 : decode cL_law 686 = .ok (.invokevirtual 120, 3) := by decide +kernel
theorem dL_law_689 : decode cL_law 689 = .ok (.if_icmp .eq 113, 3) := by decide +kernel
theorem dL_law_692 : decode cL_law 692 = .ok (.iconst 0, 1) := by decide +kernel
theorem dL_law_693 : decode cL_law 693 = .ok (.ireturn, 1) := by decide +kernel
theorem dL_law_694 : decode cL_law 694 = .ok (.aload_n 1, 1) := by decide +kernel
theorem dL_law_695 : decode cL_law 695 = .ok (.invokevirtual 121, 3) := by decide +kernel
theorem dL_law_698 : decode cL_law 698 = .ok (.aload_n 2, 1) := by decide +kernel
theorem dL_law_699 : decode cL_law 699 = .ok (.invokevirtual 124, 3) := by decide +kernel
theorem dL_law_702 : decode cL_law 702 = .ok (.if_icmp .eq 100, 3) := by decide +kernel
theorem dL_law_705 : decode cL_law 705 = .ok (.iconst 0, 1) := by decide +kernel
theorem dL_law_706 : decode cL_law 706 = .ok (.ireturn, 1) := by decide +kernel
theorem dL_law_707 : decode cL_law 707 = .ok (.aload_n 1, 1) := by decide +kernel
theorem dL_law_708 : decode cL_law 708 = .ok (.invokevirtual 125, 3) := by decide +kernel
theorem dL_law_711 : decode cL_law 711 = .ok (.aload_n 2, 1) := by decide +kernel
theorem dL_law_712 : decode cL_law 712 = .ok (.invokevirtual 128, 3) := by decide +kernel
theorem dL_law_715 : decode cL_law 715 = .ok (.if_icmp .eq 87, 3) := by decide +kernel
theorem dL_law_718 : decode cL_law 718 = .ok (.iconst 0, 1) := by decide +kernel
theorem dL_law_719 : decode cL_law 719 = .ok (.ireturn, 1) := by decide +kernel
theorem dL_law_720 : decode cL_law 720 = .ok (.aload_n 1, 1) := by decide +kernel
theorem dL_law_721 : decode cL_law 721 = .ok (.aload_n 0, 1) := by decide +kernel
theorem dL_law_722 : decode cL_law 722 = .ok (.iload_n 3, 1) := by decide +kernel
theorem dL_law_723 : decode cL_law 723 = .ok (.iconst 1, 1) := by decide +kernel
theorem dL_law_724 : decode cL_law 724 = .ok (.iadd, 1) := by decide +kernel
theorem dL_law_725 : decode cL_law 725 = .ok (.iaload, 1) := by decide +kernel
theorem dL_law_726 : decode cL_law 726 = .ok (.aload_n 0, 1) := by decide +kernel
theorem dL_law_727 : decode cL_law 727 = .ok (.iload_n 3, 1) := by decide +kernel
theorem dL_law_728 : decode cL_law 728 = .ok (.iconst 2, 1) := by decide +kernel
theorem dL_law_729 : decode cL_law 729 = .ok (.iadd, 1) := by decide +kernel
theorem dL_law_730 : decode cL_law 730 = .ok (.iaload, 1) := by decide +kernel
theorem dL_law_731 : decode cL_law 731 = .ok (.invokevirtual 129, 3) := by decide +kernel
theorem dL_law_734 : decode cL_law 734 = .ok (.aload_n 2, 1) := by decide +kernel
theorem dL_law_735 : decode cL_law 735 = .ok (.aload_n 0, 1) := by decide +kernel
theorem dL_law_736 : decode cL_law 736 = .ok (.iload_n 3, 1) := by decide +kernel
theorem dL_law_737 : decode cL_law 737 = .ok (.iconst 1, 1) := by decide +kernel
theorem dL_law_738 : decode cL_law 738 = .ok (.iadd, 1) := by decide +kernel
theorem dL_law_739 : decode cL_law 739 = .ok (.iaload, 1) := by decide +kernel
theorem dL_law_740 : decode cL_law 740 = .ok (.aload_n 0, 1) := by decide +kernel
theorem dL_law_741 : decode cL_law 741 = .ok (.iload_n 3, 1) := by decide +kernel
theorem dL_law_742 : decode cL_law 742 = .ok (.iconst 2, 1) := by decide +kernel
theorem dL_law_743 : decode cL_law 743 = .ok (.iadd, 1) := by decide +kernel
theorem dL_law_744 : decode cL_law 744 = .ok (.iaload, 1) := by decide +kernel
theorem dL_law_745 : decode cL_law 745 = .ok (.invokevirtual 132, 3) := by decide +kernel
theorem dL_law_748 : decode cL_law 748 = .ok (.if_icmp .eq 54, 3) := by decide +kernel
theorem dL_law_751 : decode cL_law 751 = .ok (.iconst 0, 1) := by decide +kernel
theorem dL_law_752 : decode cL_law 752 = .ok (.ireturn, 1) := by decide +kernel
theorem dL_law_753 : decode cL_law 753 = .ok (.aload_n 1, 1) := by decide +kernel
theorem dL_law_754 : decode cL_law 754 = .ok (.invokevirtual 133, 3) := by decide +kernel
theorem dL_law_757 : decode cL_law 757 = .ok (.aload_n 2, 1) := by decide +kernel
theorem dL_law_758 : decode cL_law 758 = .ok (.invokevirtual 136, 3) := by decide +kernel
theorem dL_law_761 : decode cL_law 761 = .ok (.if_icmp .eq 41, 3) := by decide +kernel
theorem dL_law_764 : decode cL_law 764 = .ok (.iconst 0, 1) := by decide +kernel
theorem dL_law_765 : decode cL_law 765 = .ok (.ireturn, 1) := by decide +kernel
theorem dL_law_766 : decode cL_law 766 = .ok (.aload_n 1, 1) := by decide +kernel
theorem dL_law_767 : decode cL_law 767 = .ok (.invokevirtual 137, 3) := by decide +kernel
theorem dL_law_770 : decode cL_law 770 = .ok (.aload_n 2, 1) := by decide +kernel
theorem dL_law_771 : decode cL_law 771 = .ok (.invokevirtual 140, 3) := by decide +kernel
theorem dL_law_774 : decode cL_law 774 = .ok (.if_icmp .eq 28, 3) := by decide +kernel
theorem dL_law_777 : decode cL_law 777 = .ok (.iconst 0, 1) := by decide +kernel
theorem dL_law_778 : decode cL_law 778 = .ok (.ireturn, 1) := by decide +kernel
theorem dL_law_779 : decode cL_law 779 = .ok (.aload_n 1, 1) := by decide +kernel
theorem dL_law_780 : decode cL_law 780 = .ok (.aload_n 0, 1) := by decide +kernel
theorem dL_law_781 : decode cL_law 781 = .ok (.iload_n 3, 1) := by decide +kernel
theorem dL_law_782 : decode cL_law 782 = .ok (.iconst 1, 1) := by decide +kernel
theorem dL_law_783 : decode cL_law 783 = .ok (.iadd, 1) := by decide +kernel
theorem dL_law_784 : decode cL_law 784 = .ok (.iaload, 1) := by decide +kernel
theorem dL_law_785 : decode cL_law 785 = .ok (.invokevirtual 141, 3) := by decide +kernel
theorem dL_law_788 : decode cL_law 788 = .ok (.aload_n 2, 1) := by decide +kernel
theorem dL_law_789 : decode cL_law 789 = .ok (.aload_n 0, 1) := by decide +kernel
theorem dL_law_790 : decode cL_law 790 = .ok (.iload_n 3, 1) := by decide +kernel
theorem dL_law_791 : decode cL_law 791 = .ok (.iconst 1, 1) := by decide +kernel
theorem dL_law_792 : decode cL_law 792 = .ok (.iadd, 1) := by decide +kernel
theorem dL_law_793 : decode cL_law 793 = .ok (.iaload, 1) := by decide +kernel
theorem dL_law_794 : decode cL_law 794 = .ok (.invokevirtual 144, 3) := by decide +kernel
theorem dL_law_797 : decode cL_law 797 = .ok (.if_icmp .eq 5, 3) := by decide +kernel
theorem dL_law_800 : decode cL_law 800 = .ok (.iconst 0, 1) := by decide +kernel
theorem dL_law_801 : decode cL_law 801 = .ok (.ireturn, 1) := by decide +kernel
theorem dL_law_802 : decode cL_law 802 = .ok (.iinc 3 4, 3) := by decide +kernel
theorem dL_law_805 : decode cL_law 805 = .ok (.goto (-787), 3) := by decide +kernel
theorem dL_law_808 : decode cL_law 808 = .ok (.iconst 1, 1) := by decide +kernel
theorem dL_law_809 : decode cL_law 809 = .ok (.ireturn, 1) := by decide +kernel
end
section
/-! the words of the tables that keep, and the links of nest mates -/
def TBg : List Cond := lw_tbl.filter goodWord
def isNW : Cond → Bool
  | .fieldLinkNest _ _ _ _ _ _ => true
  | .methodLinkNest _ _ _ _ => true
  | _ => false
def NWL : List Cond := lw_tbl.filter isNW
theorem tb {w : Cond} (i : Nat) (h : lw_tbl[i]? = some w) (g : goodWord w = true) : w ∈ TBg := List.mem_filter.mpr ⟨List.mem_of_getElem? h, g⟩
theorem nb {w : Cond} (i : Nat) (h : lw_tbl[i]? = some w) (g : isNW w = true) : w ∈ NWL := List.mem_filter.mpr ⟨List.mem_of_getElem? h, g⟩
theorem tb_good {w : Cond} (h : w ∈ TBg) : w ∈ lw_tbl ∧ ((w.onTables && w.keeps) = true ∨ ∃ ty, w = .arrayClass ty) := ⟨(List.mem_filter.mp h).1, good_of_word (List.mem_filter.mp h).2⟩
theorem tb_list (ws : List Cond) (ps : List Nat) (hp : ws = ps.filterMap (fun i => lw_tbl[i]?)) (g : ws.all goodWord = true) : ∀ w ∈ ws, w ∈ TBg := by
  intro w hw
  have h1 := List.all_eq_true.mp g w hw
  rw [hp] at hw
  obtain ⟨i, -, hi⟩ := List.mem_filterMap.mp hw
  exact tb i hi h1
theorem nw_moved {s U : State} (hW : s.WarmedH U.vm) (h : ∀ w ∈ NWL, va_Nw w s) : ∀ w ∈ NWL, va_Nw w U := by
  intro w hw
  have h1 := h w hw
  have h2 := (List.mem_filter.mp hw).2
  cases w <;> first | exact va_Nw.warmF hW h1 | exact va_Nw.warmM hW h1 | cases h2
theorem nw_same {u U : State} (hv : u.vm = U.vm) (h : ∀ w ∈ NWL, va_Nw w u) : ∀ w ∈ NWL, va_Nw w U := by
  intro w hw
  have h1 := h w hw
  have h2 := (List.mem_filter.mp hw).2
  cases w <;> first | exact va_Nw.same rfl hv h1 | cases h2
def FC : Nat → String := fun c => match c with
  | 0 => RX0
  | 1 => RX1
  | 2 => RX2
  | 3 => RX3
  | 4 => RX4
  | 5 => RX5
  | _ => RX6
def FT : Nat → u_T := fun c => match c with
  | 0 => TX0
  | 1 => TX1
  | 2 => TX2
  | 3 => TX3
  | 4 => TX4
  | 5 => TX5
  | _ => TX6
def FN : Nat → Nat := fun c => match c with
  | 0 => 11
  | 1 => 4
  | 2 => 4
  | 3 => 9
  | 4 => 6
  | 5 => 9
  | _ => 16
def FY : Nat → (Nat → FieldType) := fun c => match c with
  | 0 => tyX0
  | 1 => tyX1
  | 2 => tyX2
  | 3 => tyX3
  | 4 => tyX4
  | 5 => tyX5
  | _ => tyX6
abbrev cls : List vw_C := [(RX0, TX0, 11), (RX1, TX1, 4), (RX2, TX2, 4), (RX3, TX3, 9), (RX4, TX4, 6), (RX5, TX5, 9), (RX6, TX6, 16)]
theorem cls_at : ∀ ci, ci < 7 → cls[ci]? = some (FC ci, FT ci, FN ci) := by
  intro ci h
  match ci, h with
  | 0, _ => rfl
  | 1, _ => rfl
  | 2, _ => rfl
  | 3, _ => rfl
  | 4, _ => rfl
  | 5, _ => rfl
  | 6, _ => rfl
theorem fwX0 : ∀ w ∈ wsX00, w ∈ TBg := tb_list _ [193, 195, 197, 199, 201, 203, 205, 207, 209, 211, 213] (by decide +kernel) (by decide +kernel)
theorem fwX1 : ∀ w ∈ wsX10, w ∈ TBg := tb_list _ [253, 255, 257, 259] (by decide +kernel) (by decide +kernel)
theorem fwX2 : ∀ w ∈ wsX20, w ∈ TBg := tb_list _ [391, 393, 395, 397] (by decide +kernel) (by decide +kernel)
theorem fwX3 : ∀ w ∈ wsX30, w ∈ TBg := tb_list _ [143, 145, 147, 149, 151, 153, 155, 157, 159] (by decide +kernel) (by decide +kernel)
theorem fwX4 : ∀ w ∈ wsX40, w ∈ TBg := tb_list _ [230, 232, 234, 236, 238, 240] (by decide +kernel) (by decide +kernel)
theorem fwX5 : ∀ w ∈ wsX50, w ∈ TBg := tb_list _ [271, 273, 275, 277, 279, 281, 283, 285, 287] (by decide +kernel) (by decide +kernel)
theorem fwX6 : ∀ w ∈ wsX60, w ∈ TBg := tb_list _ [777, 779, 781, 783, 785, 787, 789, 791, 793, 795, 797, 799, 801, 803, 805, 807] (by decide +kernel) (by decide +kernel)
theorem fw_at : ∀ ci, ci < 7 → ∀ w ∈ u_ws (FC ci) (FT ci) (FN ci), w ∈ TBg := by
  intro ci h
  match ci, h with
  | 0, _ => exact fwX0
  | 1, _ => exact fwX1
  | 2, _ => exact fwX2
  | 3, _ => exact fwX3
  | 4, _ => exact fwX4
  | 5, _ => exact fwX5
  | 6, _ => exact fwX6
theorem fp_at : ∀ ci, ci < 7 → ∀ k, k < FN ci → parseFieldDescriptor (FT ci k).2.2.1 = some (FY ci k) := by
  intro ci h
  match ci, h with
  | 0, _ => exact tyX0_ok
  | 1, _ => exact tyX1_ok
  | 2, _ => exact tyX2_ok
  | 3, _ => exact tyX3_ok
  | 4, _ => exact tyX4_ok
  | 5, _ => exact tyX5_ok
  | 6, _ => exact tyX6_ok
theorem fn_at : ∀ ci, ci < 7 → ∀ a, a < FN ci → ∀ b, b < FN ci → a ≠ b → (FT ci a).2.1 ≠ (FT ci b).2.1 := by
  intro ci h
  match ci, h with
  | 0, _ => exact nmX0
  | 1, _ => exact nmX1
  | 2, _ => exact nmX2
  | 3, _ => exact nmX3
  | 4, _ => exact nmX4
  | 5, _ => exact nmX5
  | 6, _ => exact nmX6
def FLD (own : String) (idx ci k : Nat) : Prop := ci < 7 ∧ k < FN ci ∧ (Cond.fieldLink own idx (FT ci k).1 (FT ci k).2.1 (FT ci k).2.2.1 ∈ TBg ∨ ∃ host, Cond.fieldLinkNest own idx (FT ci k).1 (FT ci k).2.1 (FT ci k).2.2.1 host ∈ NWL)
def LNK (own : String) (idx : Nat) (y : MethodName) : Prop := Cond.methodLink own idx y ∈ TBg
def LNN (own : String) (idx : Nat) (y : MethodName) (host : String) : Prop := Cond.methodLinkNest own idx y host ∈ NWL
def MTH (y : MethodName) (b : ByteArray) (maxL : Nat) (ret : Option FieldType) (n : Nat) : Prop := Cond.code y b maxL ret ∈ TBg ∧ Cond.initialized y.cls ∈ TBg ∧ (y.cls ≠ "java/lang/invoke/MethodHandle" ∧ y.cls ≠ "java/lang/invoke/VarHandle" ∧ (parseMethodDescriptor y.desc).map (fun d => d.parameters.length) = some n)
def MTI (y : MethodName) : Prop := Cond.instanceMethod y ∈ TBg ∧ Cond.selects y.cls y y ∈ TBg
def MTS (y : MethodName) : Prop := Cond.static y ∈ TBg
def NWC (own : String) (idx ci : Nat) : Prop := ci < 7 ∧ Cond.classLink own idx (FC ci) ∈ TBg ∧ Cond.instantiable (FC ci) (FN ci) ∈ TBg ∧ Cond.initialized (FC ci) ∈ TBg
theorem fX3_9 : FLD RX3 9 3 0 := ⟨by decide, by decide, Or.inl (tb 129 (by decide +kernel) rfl)⟩
theorem fX3_21 : FLD RX3 21 3 1 := ⟨by decide, by decide, Or.inl (tb 130 (by decide +kernel) rfl)⟩
theorem fX5_54 : FLD RX5 54 3 1 := ⟨by decide, by decide, Or.inr ⟨"TurnsMultiples", nb 131 (by decide +kernel) rfl⟩⟩
theorem fX3_25 : FLD RX3 25 3 2 := ⟨by decide, by decide, Or.inl (tb 132 (by decide +kernel) rfl)⟩
theorem fX5_78 : FLD RX5 78 3 2 := ⟨by decide, by decide, Or.inr ⟨"TurnsMultiples", nb 133 (by decide +kernel) rfl⟩⟩
theorem fX3_45 : FLD RX3 45 3 3 := ⟨by decide, by decide, Or.inl (tb 134 (by decide +kernel) rfl)⟩
theorem fX0_80 : FLD RX0 80 3 3 := ⟨by decide, by decide, Or.inr ⟨"TurnsMultiples", nb 135 (by decide +kernel) rfl⟩⟩
theorem fX3_63 : FLD RX3 63 3 4 := ⟨by decide, by decide, Or.inl (tb 136 (by decide +kernel) rfl)⟩
theorem fX0_113 : FLD RX0 113 3 4 := ⟨by decide, by decide, Or.inr ⟨"TurnsMultiples", nb 137 (by decide +kernel) rfl⟩⟩
theorem fX3_15 : FLD RX3 15 3 5 := ⟨by decide, by decide, Or.inl (tb 138 (by decide +kernel) rfl)⟩
theorem fX3_28 : FLD RX3 28 3 6 := ⟨by decide, by decide, Or.inl (tb 139 (by decide +kernel) rfl)⟩
theorem fX3_18 : FLD RX3 18 3 7 := ⟨by decide, by decide, Or.inl (tb 140 (by decide +kernel) rfl)⟩
theorem fX3_31 : FLD RX3 31 3 8 := ⟨by decide, by decide, Or.inl (tb 141 (by decide +kernel) rfl)⟩
theorem fX0_122 : FLD RX0 122 3 8 := ⟨by decide, by decide, Or.inr ⟨"TurnsMultiples", nb 142 (by decide +kernel) rfl⟩⟩
theorem fX0_9 : FLD RX0 9 0 0 := ⟨by decide, by decide, Or.inl (tb 171 (by decide +kernel) rfl)⟩
theorem fX5_146 : FLD RX5 146 0 0 := ⟨by decide, by decide, Or.inr ⟨"TurnsMultiples", nb 172 (by decide +kernel) rfl⟩⟩
theorem fX4_76 : FLD RX4 76 0 0 := ⟨by decide, by decide, Or.inr ⟨"TurnsMultiples", nb 173 (by decide +kernel) rfl⟩⟩
theorem fX0_15 : FLD RX0 15 0 1 := ⟨by decide, by decide, Or.inl (tb 174 (by decide +kernel) rfl)⟩
theorem fX4_28 : FLD RX4 28 0 1 := ⟨by decide, by decide, Or.inr ⟨"TurnsMultiples", nb 175 (by decide +kernel) rfl⟩⟩
theorem fX5_133 : FLD RX5 133 0 1 := ⟨by decide, by decide, Or.inr ⟨"TurnsMultiples", nb 176 (by decide +kernel) rfl⟩⟩
theorem fX4_21 : FLD RX4 21 0 2 := ⟨by decide, by decide, Or.inr ⟨"TurnsMultiples", nb 177 (by decide +kernel) rfl⟩⟩
theorem fX0_28 : FLD RX0 28 0 2 := ⟨by decide, by decide, Or.inl (tb 178 (by decide +kernel) rfl)⟩
theorem fX1_29 : FLD RX1 29 0 2 := ⟨by decide, by decide, Or.inr ⟨"TurnsMultiples", nb 179 (by decide +kernel) rfl⟩⟩
theorem fX5_202 : FLD RX5 202 0 2 := ⟨by decide, by decide, Or.inr ⟨"TurnsMultiples", nb 180 (by decide +kernel) rfl⟩⟩
theorem fX0_20 : FLD RX0 20 0 3 := ⟨by decide, by decide, Or.inl (tb 181 (by decide +kernel) rfl)⟩
theorem fX0_31 : FLD RX0 31 0 4 := ⟨by decide, by decide, Or.inl (tb 182 (by decide +kernel) rfl)⟩
theorem fX5_256 : FLD RX5 256 0 4 := ⟨by decide, by decide, Or.inr ⟨"TurnsMultiples", nb 183 (by decide +kernel) rfl⟩⟩
theorem fX0_34 : FLD RX0 34 0 5 := ⟨by decide, by decide, Or.inl (tb 184 (by decide +kernel) rfl)⟩
theorem fX0_37 : FLD RX0 37 0 6 := ⟨by decide, by decide, Or.inl (tb 185 (by decide +kernel) rfl)⟩
theorem fX0_40 : FLD RX0 40 0 7 := ⟨by decide, by decide, Or.inl (tb 186 (by decide +kernel) rfl)⟩
theorem fX5_93 : FLD RX5 93 0 7 := ⟨by decide, by decide, Or.inr ⟨"TurnsMultiples", nb 187 (by decide +kernel) rfl⟩⟩
theorem fX0_43 : FLD RX0 43 0 8 := ⟨by decide, by decide, Or.inl (tb 188 (by decide +kernel) rfl)⟩
theorem fX5_259 : FLD RX5 259 0 8 := ⟨by decide, by decide, Or.inr ⟨"TurnsMultiples", nb 189 (by decide +kernel) rfl⟩⟩
theorem fX0_24 : FLD RX0 24 0 9 := ⟨by decide, by decide, Or.inl (tb 190 (by decide +kernel) rfl)⟩
theorem fX0_46 : FLD RX0 46 0 10 := ⟨by decide, by decide, Or.inl (tb 191 (by decide +kernel) rfl)⟩
theorem fX5_224 : FLD RX5 224 0 10 := ⟨by decide, by decide, Or.inr ⟨"TurnsMultiples", nb 192 (by decide +kernel) rfl⟩⟩
theorem fX4_9 : FLD RX4 9 4 0 := ⟨by decide, by decide, Or.inl (tb 222 (by decide +kernel) rfl)⟩
theorem fX4_15 : FLD RX4 15 4 1 := ⟨by decide, by decide, Or.inl (tb 223 (by decide +kernel) rfl)⟩
theorem fX4_18 : FLD RX4 18 4 2 := ⟨by decide, by decide, Or.inl (tb 224 (by decide +kernel) rfl)⟩
theorem fX4_32 : FLD RX4 32 4 3 := ⟨by decide, by decide, Or.inl (tb 225 (by decide +kernel) rfl)⟩
theorem fX1_48 : FLD RX1 48 4 3 := ⟨by decide, by decide, Or.inr ⟨"TurnsMultiples", nb 226 (by decide +kernel) rfl⟩⟩
theorem fX5_180 : FLD RX5 180 4 3 := ⟨by decide, by decide, Or.inr ⟨"TurnsMultiples", nb 227 (by decide +kernel) rfl⟩⟩
theorem fX4_27 : FLD RX4 27 4 4 := ⟨by decide, by decide, Or.inl (tb 228 (by decide +kernel) rfl)⟩
theorem fX4_31 : FLD RX4 31 4 5 := ⟨by decide, by decide, Or.inl (tb 229 (by decide +kernel) rfl)⟩
theorem fX1_9 : FLD RX1 9 1 0 := ⟨by decide, by decide, Or.inl (tb 249 (by decide +kernel) rfl)⟩
theorem fX1_15 : FLD RX1 15 1 1 := ⟨by decide, by decide, Or.inl (tb 250 (by decide +kernel) rfl)⟩
theorem fX1_18 : FLD RX1 18 1 2 := ⟨by decide, by decide, Or.inl (tb 251 (by decide +kernel) rfl)⟩
theorem fX1_25 : FLD RX1 25 1 3 := ⟨by decide, by decide, Or.inl (tb 252 (by decide +kernel) rfl)⟩
theorem fX5_10 : FLD RX5 10 5 0 := ⟨by decide, by decide, Or.inl (tb 262 (by decide +kernel) rfl)⟩
theorem fX5_19 : FLD RX5 19 5 1 := ⟨by decide, by decide, Or.inl (tb 263 (by decide +kernel) rfl)⟩
theorem fX5_23 : FLD RX5 23 5 2 := ⟨by decide, by decide, Or.inl (tb 264 (by decide +kernel) rfl)⟩
theorem fX5_26 : FLD RX5 26 5 3 := ⟨by decide, by decide, Or.inl (tb 265 (by decide +kernel) rfl)⟩
theorem fX5_32 : FLD RX5 32 5 4 := ⟨by decide, by decide, Or.inl (tb 266 (by decide +kernel) rfl)⟩
theorem fX5_39 : FLD RX5 39 5 5 := ⟨by decide, by decide, Or.inl (tb 267 (by decide +kernel) rfl)⟩
theorem fX5_43 : FLD RX5 43 5 6 := ⟨by decide, by decide, Or.inl (tb 268 (by decide +kernel) rfl)⟩
theorem fX5_47 : FLD RX5 47 5 7 := ⟨by decide, by decide, Or.inl (tb 269 (by decide +kernel) rfl)⟩
theorem fX5_252 : FLD RX5 252 5 8 := ⟨by decide, by decide, Or.inl (tb 270 (by decide +kernel) rfl)⟩
theorem sX3_59 : Cond.fieldLink RX3 59 "TurnsMultiples$Letters" "KINDS" "[C" ∈ TBg := tb 342 (by decide +kernel) rfl
theorem fX2_7 : FLD RX2 7 2 0 := ⟨by decide, by decide, Or.inl (tb 382 (by decide +kernel) rfl)⟩
theorem fX5_110 : FLD RX5 110 2 0 := ⟨by decide, by decide, Or.inr ⟨"TurnsMultiples", nb 383 (by decide +kernel) rfl⟩⟩
theorem fX2_13 : FLD RX2 13 2 1 := ⟨by decide, by decide, Or.inl (tb 384 (by decide +kernel) rfl)⟩
theorem fX5_115 : FLD RX5 115 2 1 := ⟨by decide, by decide, Or.inr ⟨"TurnsMultiples", nb 385 (by decide +kernel) rfl⟩⟩
theorem fX2_16 : FLD RX2 16 2 2 := ⟨by decide, by decide, Or.inl (tb 386 (by decide +kernel) rfl)⟩
theorem fX5_118 : FLD RX5 118 2 2 := ⟨by decide, by decide, Or.inr ⟨"TurnsMultiples", nb 387 (by decide +kernel) rfl⟩⟩
theorem fX2_19 : FLD RX2 19 2 3 := ⟨by decide, by decide, Or.inl (tb 388 (by decide +kernel) rfl)⟩
theorem fX5_121 : FLD RX5 121 2 3 := ⟨by decide, by decide, Or.inr ⟨"TurnsMultiples", nb 389 (by decide +kernel) rfl⟩⟩
theorem fX4_67 : FLD RX4 67 2 3 := ⟨by decide, by decide, Or.inr ⟨"TurnsMultiples", nb 390 (by decide +kernel) rfl⟩⟩
theorem fX6_7 : FLD RX6 7 6 0 := ⟨by decide, by decide, Or.inl (tb 761 (by decide +kernel) rfl)⟩
theorem fX6_13 : FLD RX6 13 6 1 := ⟨by decide, by decide, Or.inl (tb 762 (by decide +kernel) rfl)⟩
theorem fX6_16 : FLD RX6 16 6 2 := ⟨by decide, by decide, Or.inl (tb 763 (by decide +kernel) rfl)⟩
theorem fX6_19 : FLD RX6 19 6 3 := ⟨by decide, by decide, Or.inl (tb 764 (by decide +kernel) rfl)⟩
theorem fX6_226 : FLD RX6 226 6 4 := ⟨by decide, by decide, Or.inl (tb 765 (by decide +kernel) rfl)⟩
theorem fX6_22 : FLD RX6 22 6 5 := ⟨by decide, by decide, Or.inl (tb 766 (by decide +kernel) rfl)⟩
theorem fX6_25 : FLD RX6 25 6 6 := ⟨by decide, by decide, Or.inl (tb 767 (by decide +kernel) rfl)⟩
theorem fX6_48 : FLD RX6 48 6 7 := ⟨by decide, by decide, Or.inl (tb 768 (by decide +kernel) rfl)⟩
theorem fX6_56 : FLD RX6 56 6 8 := ⟨by decide, by decide, Or.inl (tb 769 (by decide +kernel) rfl)⟩
theorem fX6_67 : FLD RX6 67 6 9 := ⟨by decide, by decide, Or.inl (tb 770 (by decide +kernel) rfl)⟩
theorem fX6_28 : FLD RX6 28 6 10 := ⟨by decide, by decide, Or.inl (tb 771 (by decide +kernel) rfl)⟩
theorem fX6_31 : FLD RX6 31 6 11 := ⟨by decide, by decide, Or.inl (tb 772 (by decide +kernel) rfl)⟩
theorem fX6_34 : FLD RX6 34 6 12 := ⟨by decide, by decide, Or.inl (tb 773 (by decide +kernel) rfl)⟩
theorem fX6_192 : FLD RX6 192 6 13 := ⟨by decide, by decide, Or.inl (tb 774 (by decide +kernel) rfl)⟩
theorem fX6_195 : FLD RX6 195 6 14 := ⟨by decide, by decide, Or.inl (tb 775 (by decide +kernel) rfl)⟩
theorem fX6_37 : FLD RX6 37 6 15 := ⟨by decide, by decide, Or.inl (tb 776 (by decide +kernel) rfl)⟩
theorem nL_7 : NWC RL 7 5 := ⟨by decide, tb 115 (by decide +kernel) rfl, tb 116 (by decide +kernel) rfl, tb 107 (by decide +kernel) rfl⟩
theorem lL_9 : LNK RL 9 yX5_init := tb 117 (by decide +kernel) rfl
theorem mX5_init : MTH yX5_init cX5_init 1 none 0 := ⟨tb 119 (by decide +kernel) rfl, tb 107 (by decide +kernel) rfl, by decide +kernel, by decide +kernel, by decide +kernel⟩
theorem mnX5_init : Cond.instanceMethod yX5_init ∈ TBg := tb 118 (by decide +kernel) rfl
theorem lX5_1 : LNK RX5 1 objectInit := tb 120 (by decide +kernel) rfl
theorem nX5_7 : NWC RX5 7 3 := ⟨by decide, tb 123 (by decide +kernel) rfl, tb 124 (by decide +kernel) rfl, tb 108 (by decide +kernel) rfl⟩
theorem lX5_9 : LNN RX5 9 yX3_init "TurnsMultiples" := nb 125 (by decide +kernel) rfl
theorem mX3_init : MTH yX3_init cX3_init 1 none 0 := ⟨tb 127 (by decide +kernel) rfl, tb 108 (by decide +kernel) rfl, by decide +kernel, by decide +kernel, by decide +kernel⟩
theorem mnX3_init : Cond.instanceMethod yX3_init ∈ TBg := tb 126 (by decide +kernel) rfl
theorem lX3_3 : LNK RX3 3 objectInit := tb 128 (by decide +kernel) rfl
theorem nX5_16 : NWC RX5 16 0 := ⟨by decide, tb 163 (by decide +kernel) rfl, tb 164 (by decide +kernel) rfl, tb 109 (by decide +kernel) rfl⟩
theorem lX5_18 : LNN RX5 18 yX0_init "TurnsMultiples" := nb 165 (by decide +kernel) rfl
theorem mX0_init : MTH yX0_init cX0_init 1 none 0 := ⟨tb 167 (by decide +kernel) rfl, tb 109 (by decide +kernel) rfl, by decide +kernel, by decide +kernel, by decide +kernel⟩
theorem mnX0_init : Cond.instanceMethod yX0_init ∈ TBg := tb 166 (by decide +kernel) rfl
theorem lX0_3 : LNK RX0 3 objectInit := tb 168 (by decide +kernel) rfl
theorem nX0_18 : NWC RX0 18 2 := ⟨by decide, tb 169 (by decide +kernel) rfl, tb 377 (by decide +kernel) rfl, tb 113 (by decide +kernel) rfl⟩
theorem nX5_29 : NWC RX5 29 4 := ⟨by decide, tb 216 (by decide +kernel) rfl, tb 217 (by decide +kernel) rfl, tb 110 (by decide +kernel) rfl⟩
theorem lX5_31 : LNN RX5 31 yX4_init "TurnsMultiples" := nb 218 (by decide +kernel) rfl
theorem mX4_init : MTH yX4_init cX4_init 1 none 0 := ⟨tb 220 (by decide +kernel) rfl, tb 110 (by decide +kernel) rfl, by decide +kernel, by decide +kernel, by decide +kernel⟩
theorem mnX4_init : Cond.instanceMethod yX4_init ∈ TBg := tb 219 (by decide +kernel) rfl
theorem lX4_3 : LNK RX4 3 objectInit := tb 221 (by decide +kernel) rfl
theorem nX5_36 : NWC RX5 36 1 := ⟨by decide, tb 243 (by decide +kernel) rfl, tb 244 (by decide +kernel) rfl, tb 111 (by decide +kernel) rfl⟩
theorem lX5_38 : LNN RX5 38 yX1_init "TurnsMultiples" := nb 245 (by decide +kernel) rfl
theorem mX1_init : MTH yX1_init cX1_init 1 none 0 := ⟨tb 247 (by decide +kernel) rfl, tb 111 (by decide +kernel) rfl, by decide +kernel, by decide +kernel, by decide +kernel⟩
theorem mnX1_init : Cond.instanceMethod yX1_init ∈ TBg := tb 246 (by decide +kernel) rfl
theorem lX1_3 : LNK RX1 3 objectInit := tb 248 (by decide +kernel) rfl
theorem lL_13 : LNK RL 13 yX5_letter := tb 290 (by decide +kernel) rfl
theorem mX5_letter : MTH yX5_letter cX5_letter 2 (some FieldType.int) 1 := ⟨tb 293 (by decide +kernel) rfl, tb 107 (by decide +kernel) rfl, by decide +kernel, by decide +kernel, by decide +kernel⟩
theorem miX5_letter : MTI yX5_letter := ⟨tb 291 (by decide +kernel) rfl, tb 292 (by decide +kernel) rfl⟩
theorem lX5_50 : LNK RX5 50 yX5_refuse := tb 294 (by decide +kernel) rfl
theorem mX5_refuse : MTH yX5_refuse cX5_refuse 2 (some FieldType.int) 1 := ⟨tb 297 (by decide +kernel) rfl, tb 107 (by decide +kernel) rfl, by decide +kernel, by decide +kernel, by decide +kernel⟩
theorem miX5_refuse : MTI yX5_refuse := ⟨tb 296 (by decide +kernel) rfl, tb 0 (by decide +kernel) rfl⟩
theorem lX5_58 : LNN RX5 58 yX3_append "TurnsMultiples" := nb 298 (by decide +kernel) rfl
theorem mX3_append : MTH yX3_append cX3_append 2 (some FieldType.int) 1 := ⟨tb 301 (by decide +kernel) rfl, tb 108 (by decide +kernel) rfl, by decide +kernel, by decide +kernel, by decide +kernel⟩
theorem miX3_append : MTI yX3_append := ⟨tb 300 (by decide +kernel) rfl, tb 1 (by decide +kernel) rfl⟩
theorem lL_18 : LNK RL 18 yX5_house := tb 302 (by decide +kernel) rfl
theorem mX5_house : MTH yX5_house cX5_house 2 (some FieldType.int) 0 := ⟨tb 305 (by decide +kernel) rfl, tb 107 (by decide +kernel) rfl, by decide +kernel, by decide +kernel, by decide +kernel⟩
theorem miX5_house : MTI yX5_house := ⟨tb 303 (by decide +kernel) rfl, tb 304 (by decide +kernel) rfl⟩
theorem lX5_61 : LNK RX5 61 yX5_readHouse := tb 306 (by decide +kernel) rfl
theorem mX5_readHouse : MTH yX5_readHouse cX5_readHouse 4 (some FieldType.int) 0 := ⟨tb 309 (by decide +kernel) rfl, tb 107 (by decide +kernel) rfl, by decide +kernel, by decide +kernel, by decide +kernel⟩
theorem miX5_readHouse : MTI yX5_readHouse := ⟨tb 308 (by decide +kernel) rfl, tb 2 (by decide +kernel) rfl⟩
theorem lX5_68 : LNN RX5 68 yX3_misplaced "TurnsMultiples" := nb 310 (by decide +kernel) rfl
theorem mX3_misplaced : MTH yX3_misplaced cX3_misplaced 2 (some FieldType.int) 0 := ⟨tb 313 (by decide +kernel) rfl, tb 108 (by decide +kernel) rfl, by decide +kernel, by decide +kernel, by decide +kernel⟩
theorem miX3_misplaced : MTI yX3_misplaced := ⟨tb 312 (by decide +kernel) rfl, tb 3 (by decide +kernel) rfl⟩
theorem lX3_34 : LNK RX3 34 yX3_rewind := tb 314 (by decide +kernel) rfl
theorem mX3_rewind : MTH yX3_rewind cX3_rewind 1 none 0 := ⟨tb 317 (by decide +kernel) rfl, tb 108 (by decide +kernel) rfl, by decide +kernel, by decide +kernel, by decide +kernel⟩
theorem miX3_rewind : MTI yX3_rewind := ⟨tb 316 (by decide +kernel) rfl, tb 4 (by decide +kernel) rfl⟩
theorem lX3_37 : LNK RX3 37 yX3_readStatement := tb 318 (by decide +kernel) rfl
theorem mX3_readStatement : MTH yX3_readStatement cX3_readStatement 1 (some FieldType.boolean) 0 := ⟨tb 321 (by decide +kernel) rfl, tb 108 (by decide +kernel) rfl, by decide +kernel, by decide +kernel, by decide +kernel⟩
theorem miX3_readStatement : MTI yX3_readStatement := ⟨tb 320 (by decide +kernel) rfl, tb 5 (by decide +kernel) rfl⟩
theorem lX3_41 : LNK RX3 41 yX3_signHere := tb 322 (by decide +kernel) rfl
theorem mX3_signHere : MTH yX3_signHere cX3_signHere 1 (some FieldType.int) 0 := ⟨tb 325 (by decide +kernel) rfl, tb 108 (by decide +kernel) rfl, by decide +kernel, by decide +kernel, by decide +kernel⟩
theorem miX3_signHere : MTI yX3_signHere := ⟨tb 324 (by decide +kernel) rfl, tb 6 (by decide +kernel) rfl⟩
theorem lX3_48 : LNK RX3 48 yX3_takes := tb 326 (by decide +kernel) rfl
theorem mX3_takes : MTH yX3_takes cX3_takes 2 (some FieldType.boolean) 1 := ⟨tb 329 (by decide +kernel) rfl, tb 108 (by decide +kernel) rfl, by decide +kernel, by decide +kernel, by decide +kernel⟩
theorem miX3_takes : MTI yX3_takes := ⟨tb 328 (by decide +kernel) rfl, tb 7 (by decide +kernel) rfl⟩
theorem lX3_52 : LNK RX3 52 yX3_readDigits := tb 330 (by decide +kernel) rfl
theorem mX3_readDigits : MTH yX3_readDigits cX3_readDigits 3 (some FieldType.boolean) 1 := ⟨tb 333 (by decide +kernel) rfl, tb 108 (by decide +kernel) rfl, by decide +kernel, by decide +kernel, by decide +kernel⟩
theorem miX3_readDigits : MTI yX3_readDigits := ⟨tb 332 (by decide +kernel) rfl, tb 8 (by decide +kernel) rfl⟩
theorem lX3_66 : LNK RX3 66 yX3_isDigitHere := tb 334 (by decide +kernel) rfl
theorem mX3_isDigitHere : MTH yX3_isDigitHere cX3_isDigitHere 2 (some FieldType.boolean) 0 := ⟨tb 337 (by decide +kernel) rfl, tb 108 (by decide +kernel) rfl, by decide +kernel, by decide +kernel, by decide +kernel⟩
theorem miX3_isDigitHere : MTI yX3_isDigitHere := ⟨tb 336 (by decide +kernel) rfl, tb 9 (by decide +kernel) rfl⟩
theorem lX3_56 : LNK RX3 56 yX3_readKind := tb 338 (by decide +kernel) rfl
theorem mX3_readKind : MTH yX3_readKind cX3_readKind 2 (some FieldType.boolean) 0 := ⟨tb 341 (by decide +kernel) rfl, tb 108 (by decide +kernel) rfl, by decide +kernel, by decide +kernel, by decide +kernel⟩
theorem miX3_readKind : MTI yX3_readKind := ⟨tb 340 (by decide +kernel) rfl, tb 10 (by decide +kernel) rfl⟩
theorem lX5_71 : LNN RX5 71 yX0_become "TurnsMultiples" := nb 344 (by decide +kernel) rfl
theorem mX0_become : MTH yX0_become cX0_become 3 none 1 := ⟨tb 347 (by decide +kernel) rfl, tb 109 (by decide +kernel) rfl, by decide +kernel, by decide +kernel, by decide +kernel⟩
theorem miX0_become : MTI yX0_become := ⟨tb 346 (by decide +kernel) rfl, tb 11 (by decide +kernel) rfl⟩
theorem lX5_75 : LNN RX5 75 yX3_rewind "TurnsMultiples" := nb 348 (by decide +kernel) rfl
theorem lX5_81 : LNN RX5 81 yX3_readStatement "TurnsMultiples" := nb 349 (by decide +kernel) rfl
theorem lX5_85 : LNN RX5 85 yX0_obeys "TurnsMultiples" := nb 350 (by decide +kernel) rfl
theorem mX0_obeys : MTH yX0_obeys cX0_obeys 2 (some FieldType.boolean) 1 := ⟨tb 353 (by decide +kernel) rfl, tb 109 (by decide +kernel) rfl, by decide +kernel, by decide +kernel, by decide +kernel⟩
theorem miX0_obeys : MTI yX0_obeys := ⟨tb 352 (by decide +kernel) rfl, tb 12 (by decide +kernel) rfl⟩
theorem lX0_85 : LNN RX0 85 yX3_numberAt "TurnsMultiples" := nb 354 (by decide +kernel) rfl
theorem mX3_numberAt : MTH yX3_numberAt cX3_numberAt 2 (some FieldType.int) 1 := ⟨tb 357 (by decide +kernel) rfl, tb 108 (by decide +kernel) rfl, by decide +kernel, by decide +kernel, by decide +kernel⟩
theorem miX3_numberAt : MTI yX3_numberAt := ⟨tb 356 (by decide +kernel) rfl, tb 13 (by decide +kernel) rfl⟩
theorem lX0_88 : LNK RX0 88 yX0_obeysDoors := tb 358 (by decide +kernel) rfl
theorem mX0_obeysDoors : MTH yX0_obeysDoors cX0_obeysDoors 2 (some FieldType.boolean) 1 := ⟨tb 361 (by decide +kernel) rfl, tb 109 (by decide +kernel) rfl, by decide +kernel, by decide +kernel, by decide +kernel⟩
theorem miX0_obeysDoors : MTI yX0_obeysDoors := ⟨tb 360 (by decide +kernel) rfl, tb 14 (by decide +kernel) rfl⟩
theorem lX0_107 : LNK RX0 107 yX0_empty := tb 362 (by decide +kernel) rfl
theorem mX0_empty : MTH yX0_empty cX0_empty 1 none 0 := ⟨tb 365 (by decide +kernel) rfl, tb 109 (by decide +kernel) rfl, by decide +kernel, by decide +kernel, by decide +kernel⟩
theorem miX0_empty : MTI yX0_empty := ⟨tb 364 (by decide +kernel) rfl, tb 15 (by decide +kernel) rfl⟩
theorem lX0_91 : LNK RX0 91 yX0_obeysColours := tb 366 (by decide +kernel) rfl
theorem mX0_obeysColours : MTH yX0_obeysColours cX0_obeysColours 2 (some FieldType.boolean) 1 := ⟨tb 369 (by decide +kernel) rfl, tb 109 (by decide +kernel) rfl, by decide +kernel, by decide +kernel, by decide +kernel⟩
theorem miX0_obeysColours : MTI yX0_obeysColours := ⟨tb 368 (by decide +kernel) rfl, tb 16 (by decide +kernel) rfl⟩
theorem lX0_94 : LNK RX0 94 yX0_obeysPerson := tb 370 (by decide +kernel) rfl
theorem mX0_obeysPerson : MTH yX0_obeysPerson cX0_obeysPerson 4 (some FieldType.boolean) 1 := ⟨tb 373 (by decide +kernel) rfl, tb 109 (by decide +kernel) rfl, by decide +kernel, by decide +kernel, by decide +kernel⟩
theorem miX0_obeysPerson : MTI yX0_obeysPerson := ⟨tb 372 (by decide +kernel) rfl, tb 17 (by decide +kernel) rfl⟩
theorem lX0_110 : LNK RX0 110 yX0_isGoerNumber := tb 374 (by decide +kernel) rfl
theorem mX0_isGoerNumber : MTH yX0_isGoerNumber cX0_isGoerNumber 1 (some FieldType.boolean) 1 := ⟨tb 376 (by decide +kernel) rfl, tb 109 (by decide +kernel) rfl, by decide +kernel, by decide +kernel, by decide +kernel⟩
theorem msX0_isGoerNumber : MTS yX0_isGoerNumber := tb 375 (by decide +kernel) rfl
theorem lX0_116 : LNN RX0 116 yX2_init "TurnsMultiples" := nb 378 (by decide +kernel) rfl
theorem mX2_init : MTH yX2_init cX2_init 5 none 4 := ⟨tb 380 (by decide +kernel) rfl, tb 113 (by decide +kernel) rfl, by decide +kernel, by decide +kernel, by decide +kernel⟩
theorem mnX2_init : Cond.instanceMethod yX2_init ∈ TBg := tb 379 (by decide +kernel) rfl
theorem lX2_1 : LNK RX2 1 objectInit := tb 381 (by decide +kernel) rfl
theorem lX0_98 : LNK RX0 98 yX0_obeysStuck := tb 400 (by decide +kernel) rfl
theorem mX0_obeysStuck : MTH yX0_obeysStuck cX0_obeysStuck 2 (some FieldType.boolean) 1 := ⟨tb 403 (by decide +kernel) rfl, tb 109 (by decide +kernel) rfl, by decide +kernel, by decide +kernel, by decide +kernel⟩
theorem miX0_obeysStuck : MTI yX0_obeysStuck := ⟨tb 402 (by decide +kernel) rfl, tb 18 (by decide +kernel) rfl⟩
theorem lX0_119 : LNK RX0 119 yX0_hasDoor := tb 404 (by decide +kernel) rfl
theorem mX0_hasDoor : MTH yX0_hasDoor cX0_hasDoor 2 (some FieldType.boolean) 1 := ⟨tb 407 (by decide +kernel) rfl, tb 109 (by decide +kernel) rfl, by decide +kernel, by decide +kernel, by decide +kernel⟩
theorem miX0_hasDoor : MTI yX0_hasDoor := ⟨tb 406 (by decide +kernel) rfl, tb 19 (by decide +kernel) rfl⟩
theorem lX0_49 : LNN RX0 49 yX5_bitOf "TurnsMultiples" := nb 408 (by decide +kernel) rfl
theorem mX5_bitOf : MTH yX5_bitOf cX5_bitOf 1 (some FieldType.int) 1 := ⟨tb 410 (by decide +kernel) rfl, tb 107 (by decide +kernel) rfl, by decide +kernel, by decide +kernel, by decide +kernel⟩
theorem msX5_bitOf : MTS yX5_bitOf := tb 409 (by decide +kernel) rfl
theorem lX0_101 : LNK RX0 101 yX0_obeysWish := tb 411 (by decide +kernel) rfl
theorem mX0_obeysWish : MTH yX0_obeysWish cX0_obeysWish 6 (some FieldType.boolean) 1 := ⟨tb 414 (by decide +kernel) rfl, tb 109 (by decide +kernel) rfl, by decide +kernel, by decide +kernel, by decide +kernel⟩
theorem miX0_obeysWish : MTI yX0_obeysWish := ⟨tb 413 (by decide +kernel) rfl, tb 20 (by decide +kernel) rfl⟩
theorem lX0_125 : LNN RX0 125 yX3_digitAt "TurnsMultiples" := nb 415 (by decide +kernel) rfl
theorem mX3_digitAt : MTH yX3_digitAt cX3_digitAt 2 (some FieldType.int) 1 := ⟨tb 418 (by decide +kernel) rfl, tb 108 (by decide +kernel) rfl, by decide +kernel, by decide +kernel, by decide +kernel⟩
theorem miX3_digitAt : MTI yX3_digitAt := ⟨tb 417 (by decide +kernel) rfl, tb 21 (by decide +kernel) rfl⟩
theorem lX0_128 : LNN RX0 128 yX5_bitAt "TurnsMultiples" := nb 419 (by decide +kernel) rfl
theorem mX5_bitAt : MTH yX5_bitAt cX5_bitAt 2 (some FieldType.int) 2 := ⟨tb 421 (by decide +kernel) rfl, tb 107 (by decide +kernel) rfl, by decide +kernel, by decide +kernel, by decide +kernel⟩
theorem msX5_bitAt : MTS yX5_bitAt := tb 420 (by decide +kernel) rfl
theorem lX5_130 : LNK RX5 130 yX5_bitOf := tb 422 (by decide +kernel) rfl
theorem lX0_104 : LNK RX0 104 yX0_obeysStand := tb 423 (by decide +kernel) rfl
theorem mX0_obeysStand : MTH yX0_obeysStand cX0_obeysStand 5 (some FieldType.boolean) 1 := ⟨tb 426 (by decide +kernel) rfl, tb 109 (by decide +kernel) rfl, by decide +kernel, by decide +kernel, by decide +kernel⟩
theorem miX0_obeysStand : MTI yX0_obeysStand := ⟨tb 425 (by decide +kernel) rfl, tb 22 (by decide +kernel) rfl⟩
theorem lX5_65 : LNN RX5 65 yX3_wipe "TurnsMultiples" := nb 427 (by decide +kernel) rfl
theorem mX3_wipe : MTH yX3_wipe cX3_wipe 1 none 0 := ⟨tb 430 (by decide +kernel) rfl, tb 108 (by decide +kernel) rfl, by decide +kernel, by decide +kernel, by decide +kernel⟩
theorem miX3_wipe : MTI yX3_wipe := ⟨tb 429 (by decide +kernel) rfl, tb 23 (by decide +kernel) rfl⟩
theorem lL_23 : LNK RL 23 yX5_door := tb 431 (by decide +kernel) rfl
theorem mX5_door : MTH yX5_door cX5_door 3 (some FieldType.int) 2 := ⟨tb 434 (by decide +kernel) rfl, tb 107 (by decide +kernel) rfl, by decide +kernel, by decide +kernel, by decide +kernel⟩
theorem miX5_door : MTI yX5_door := ⟨tb 432 (by decide +kernel) rfl, tb 433 (by decide +kernel) rfl⟩
theorem lX5_89 : LNN RX5 89 yX0_hasDoor "TurnsMultiples" := nb 435 (by decide +kernel) rfl
theorem lX5_96 : LNK RX5 96 yX5_wayOf := tb 436 (by decide +kernel) rfl
theorem mX5_wayOf : MTH yX5_wayOf cX5_wayOf 2 (some FieldType.int) 2 := ⟨tb 438 (by decide +kernel) rfl, tb 107 (by decide +kernel) rfl, by decide +kernel, by decide +kernel, by decide +kernel⟩
theorem msX5_wayOf : MTS yX5_wayOf := tb 437 (by decide +kernel) rfl
theorem lX5_265 : LNK RX5 265 yX5_bitAt := tb 439 (by decide +kernel) rfl
theorem lX5_100 : LNN RX5 100 yX0_wishFor "TurnsMultiples" := nb 440 (by decide +kernel) rfl
theorem mX0_wishFor : MTH yX0_wishFor cX0_wishFor 2 (some FieldType.int) 1 := ⟨tb 443 (by decide +kernel) rfl, tb 109 (by decide +kernel) rfl, by decide +kernel, by decide +kernel, by decide +kernel⟩
theorem miX0_wishFor : MTI yX0_wishFor := ⟨tb 442 (by decide +kernel) rfl, tb 24 (by decide +kernel) rfl⟩
theorem lX0_53 : LNN RX0 53 yX5_wayOf "TurnsMultiples" := nb 444 (by decide +kernel) rfl
theorem lX5_103 : LNN RX5 103 yX0_isStuck "TurnsMultiples" := nb 445 (by decide +kernel) rfl
theorem mX0_isStuck : MTH yX0_isStuck cX0_isStuck 2 (some FieldType.boolean) 1 := ⟨tb 448 (by decide +kernel) rfl, tb 109 (by decide +kernel) rfl, by decide +kernel, by decide +kernel, by decide +kernel⟩
theorem miX0_isStuck : MTI yX0_isStuck := ⟨tb 447 (by decide +kernel) rfl, tb 25 (by decide +kernel) rfl⟩
theorem lL_28 : LNK RL 28 yX5_person := tb 449 (by decide +kernel) rfl
theorem mX5_person : MTH yX5_person cX5_person 4 (some FieldType.int) 2 := ⟨tb 452 (by decide +kernel) rfl, tb 107 (by decide +kernel) rfl, by decide +kernel, by decide +kernel, by decide +kernel⟩
theorem miX5_person : MTI yX5_person := ⟨tb 450 (by decide +kernel) rfl, tb 451 (by decide +kernel) rfl⟩
theorem lX5_106 : LNN RX5 106 yX0_goerOf "TurnsMultiples" := nb 453 (by decide +kernel) rfl
theorem mX0_goerOf : MTH yX0_goerOf cX0_goerOf 2 (some (FieldType.object "TurnsMultiples$Goer")) 1 := ⟨tb 456 (by decide +kernel) rfl, tb 109 (by decide +kernel) rfl, by decide +kernel, by decide +kernel, by decide +kernel⟩
theorem miX0_goerOf : MTI yX0_goerOf := ⟨tb 455 (by decide +kernel) rfl, tb 26 (by decide +kernel) rfl⟩
theorem lX5_124 : LNN RX5 124 yX0_turnsOf "TurnsMultiples" := nb 457 (by decide +kernel) rfl
theorem mX0_turnsOf : MTH yX0_turnsOf cX0_turnsOf 5 (some FieldType.int) 1 := ⟨tb 460 (by decide +kernel) rfl, tb 109 (by decide +kernel) rfl, by decide +kernel, by decide +kernel, by decide +kernel⟩
theorem miX0_turnsOf : MTI yX0_turnsOf := ⟨tb 459 (by decide +kernel) rfl, tb 27 (by decide +kernel) rfl⟩
theorem lX0_57 : LNK RX0 57 yX0_goerOf := tb 461 (by decide +kernel) rfl
theorem lX0_61 : LNN RX0 61 yX2_isGoerTo "TurnsMultiples" := nb 462 (by decide +kernel) rfl
theorem mX2_isGoerTo : MTH yX2_isGoerTo cX2_isGoerTo 4 (some FieldType.boolean) 1 := ⟨tb 465 (by decide +kernel) rfl, tb 113 (by decide +kernel) rfl, by decide +kernel, by decide +kernel, by decide +kernel⟩
theorem miX2_isGoerTo : MTI yX2_isGoerTo := ⟨tb 464 (by decide +kernel) rfl, tb 28 (by decide +kernel) rfl⟩
theorem lX2_22 : LNN RX2 22 yX5_goesInto "TurnsMultiples" := nb 466 (by decide +kernel) rfl
theorem mX5_goesInto : MTH yX5_goesInto cX5_goesInto 2 (some FieldType.boolean) 2 := ⟨tb 468 (by decide +kernel) rfl, tb 107 (by decide +kernel) rfl, by decide +kernel, by decide +kernel, by decide +kernel⟩
theorem msX5_goesInto : MTS yX5_goesInto := tb 467 (by decide +kernel) rfl
theorem lL_32 : LNK RL 32 yX5_go := tb 469 (by decide +kernel) rfl
theorem mX5_go : MTH yX5_go cX5_go 2 (some FieldType.int) 1 := ⟨tb 472 (by decide +kernel) rfl, tb 107 (by decide +kernel) rfl, by decide +kernel, by decide +kernel, by decide +kernel⟩
theorem miX5_go : MTI yX5_go := ⟨tb 470 (by decide +kernel) rfl, tb 471 (by decide +kernel) rfl⟩
theorem lX5_127 : LNN RX5 127 yX0_goAlong "TurnsMultiples" := nb 473 (by decide +kernel) rfl
theorem mX0_goAlong : MTH yX0_goAlong cX0_goAlong 3 (some FieldType.int) 1 := ⟨tb 476 (by decide +kernel) rfl, tb 109 (by decide +kernel) rfl, by decide +kernel, by decide +kernel, by decide +kernel⟩
theorem miX0_goAlong : MTI yX0_goAlong := ⟨tb 475 (by decide +kernel) rfl, tb 29 (by decide +kernel) rfl⟩
theorem lX0_65 : LNK RX0 65 yX0_turnsOf := tb 477 (by decide +kernel) rfl
theorem lX0_68 : LNN RX0 68 yX5_turned "TurnsMultiples" := nb 478 (by decide +kernel) rfl
theorem mX5_turned : MTH yX5_turned cX5_turned 8 (some FieldType.int) 3 := ⟨tb 480 (by decide +kernel) rfl, tb 107 (by decide +kernel) rfl, by decide +kernel, by decide +kernel, by decide +kernel⟩
theorem msX5_turned : MTS yX5_turned := tb 479 (by decide +kernel) rfl
theorem lX0_72 : LNK RX0 72 yJ6_bitCount_0f7a4 := tb 481 (by decide +kernel) rfl
theorem mJ6_bitCount_0f7a4 : MTH yJ6_bitCount_0f7a4 cJ6_bitCount_0f7a4 1 (some FieldType.int) 1 := ⟨tb 483 (by decide +kernel) rfl, tb 114 (by decide +kernel) rfl, by decide +kernel, by decide +kernel, by decide +kernel⟩
theorem msJ6_bitCount_0f7a4 : MTS yJ6_bitCount_0f7a4 := tb 482 (by decide +kernel) rfl
theorem kJ6_265 : Cond.constant RJ6 265 (1431655765) ∈ TBg := tb 484 (by decide +kernel) rfl
theorem kJ6_266 : Cond.constant RJ6 266 (858993459) ∈ TBg := tb 485 (by decide +kernel) rfl
theorem kJ6_267 : Cond.constant RJ6 267 (252645135) ∈ TBg := tb 486 (by decide +kernel) rfl
theorem lL_36 : LNK RL 36 yX5_turn := tb 487 (by decide +kernel) rfl
theorem mX5_turn : MTH yX5_turn cX5_turn 2 (some FieldType.int) 1 := ⟨tb 490 (by decide +kernel) rfl, tb 107 (by decide +kernel) rfl, by decide +kernel, by decide +kernel, by decide +kernel⟩
theorem miX5_turn : MTI yX5_turn := ⟨tb 488 (by decide +kernel) rfl, tb 489 (by decide +kernel) rfl⟩
theorem lX5_136 : LNK RX5 136 yX5_turned := tb 491 (by decide +kernel) rfl
theorem lL_40 : LNK RL 40 yX5_state := tb 492 (by decide +kernel) rfl
theorem mX5_state : MTH yX5_state cX5_state 1 (some FieldType.int) 0 := ⟨tb 495 (by decide +kernel) rfl, tb 107 (by decide +kernel) rfl, by decide +kernel, by decide +kernel, by decide +kernel⟩
theorem miX5_state : MTI yX5_state := ⟨tb 493 (by decide +kernel) rfl, tb 494 (by decide +kernel) rfl⟩
theorem lX5_140 : LNN RX5 140 yX0_stateOf "TurnsMultiples" := nb 496 (by decide +kernel) rfl
theorem mX0_stateOf : MTH yX0_stateOf cX0_stateOf 4 (some FieldType.int) 1 := ⟨tb 499 (by decide +kernel) rfl, tb 109 (by decide +kernel) rfl, by decide +kernel, by decide +kernel, by decide +kernel⟩
theorem miX0_stateOf : MTI yX0_stateOf := ⟨tb 498 (by decide +kernel) rfl, tb 30 (by decide +kernel) rfl⟩
theorem lL_44 : LNK RL 44 yX5_wished := tb 500 (by decide +kernel) rfl
theorem mX5_wished : MTH yX5_wished cX5_wished 1 (some FieldType.int) 0 := ⟨tb 503 (by decide +kernel) rfl, tb 107 (by decide +kernel) rfl, by decide +kernel, by decide +kernel, by decide +kernel⟩
theorem miX5_wished : MTI yX5_wished := ⟨tb 501 (by decide +kernel) rfl, tb 502 (by decide +kernel) rfl⟩
theorem lX5_143 : LNN RX5 143 yX0_isWish "TurnsMultiples" := nb 504 (by decide +kernel) rfl
theorem mX0_isWish : MTH yX0_isWish cX0_isWish 2 (some FieldType.boolean) 1 := ⟨tb 507 (by decide +kernel) rfl, tb 109 (by decide +kernel) rfl, by decide +kernel, by decide +kernel, by decide +kernel⟩
theorem miX0_isWish : MTI yX0_isWish := ⟨tb 506 (by decide +kernel) rfl, tb 31 (by decide +kernel) rfl⟩
theorem lL_48 : LNK RL 48 yX5_way := tb 508 (by decide +kernel) rfl
theorem mX5_way : MTH yX5_way cX5_way 4 (some FieldType.int) 3 := ⟨tb 511 (by decide +kernel) rfl, tb 107 (by decide +kernel) rfl, by decide +kernel, by decide +kernel, by decide +kernel⟩
theorem miX5_way : MTI yX5_way := ⟨tb 509 (by decide +kernel) rfl, tb 510 (by decide +kernel) rfl⟩
theorem lX5_149 : LNK RX5 149 yX5_power := tb 512 (by decide +kernel) rfl
theorem mX5_power : MTH yX5_power cX5_power 4 (some FieldType.int) 2 := ⟨tb 514 (by decide +kernel) rfl, tb 107 (by decide +kernel) rfl, by decide +kernel, by decide +kernel, by decide +kernel⟩
theorem msX5_power : MTS yX5_power := tb 513 (by decide +kernel) rfl
theorem lX5_152 : LNK RX5 152 yX5_spread := tb 515 (by decide +kernel) rfl
theorem mX5_spread : MTH yX5_spread cX5_spread 5 none 1 := ⟨tb 518 (by decide +kernel) rfl, tb 107 (by decide +kernel) rfl, by decide +kernel, by decide +kernel, by decide +kernel⟩
theorem miX5_spread : MTI yX5_spread := ⟨tb 517 (by decide +kernel) rfl, tb 32 (by decide +kernel) rfl⟩
theorem lX5_162 : LNK RX5 162 yX5_remainder := tb 519 (by decide +kernel) rfl
theorem mX5_remainder : MTH yX5_remainder cX5_remainder 2 (some FieldType.int) 2 := ⟨tb 521 (by decide +kernel) rfl, tb 107 (by decide +kernel) rfl, by decide +kernel, by decide +kernel, by decide +kernel⟩
theorem msX5_remainder : MTS yX5_remainder := tb 520 (by decide +kernel) rfl
theorem lX5_165 : LNK RX5 165 yX5_quotient := tb 522 (by decide +kernel) rfl
theorem mX5_quotient : MTH yX5_quotient cX5_quotient 2 (some FieldType.int) 2 := ⟨tb 524 (by decide +kernel) rfl, tb 107 (by decide +kernel) rfl, by decide +kernel, by decide +kernel, by decide +kernel⟩
theorem msX5_quotient : MTS yX5_quotient := tb 523 (by decide +kernel) rfl
theorem lX5_156 : LNK RX5 156 yX5_solveByMultiples := tb 525 (by decide +kernel) rfl
theorem mX5_solveByMultiples : MTH yX5_solveByMultiples cX5_solveByMultiples 3 none 0 := ⟨tb 528 (by decide +kernel) rfl, tb 107 (by decide +kernel) rfl, by decide +kernel, by decide +kernel, by decide +kernel⟩
theorem miX5_solveByMultiples : MTI yX5_solveByMultiples := ⟨tb 527 (by decide +kernel) rfl, tb 33 (by decide +kernel) rfl⟩
theorem lX5_168 : LNK RX5 168 yX5_takeBack := tb 529 (by decide +kernel) rfl
theorem mX5_takeBack : MTH yX5_takeBack cX5_takeBack 3 none 2 := ⟨tb 532 (by decide +kernel) rfl, tb 107 (by decide +kernel) rfl, by decide +kernel, by decide +kernel, by decide +kernel⟩
theorem miX5_takeBack : MTI yX5_takeBack := ⟨tb 531 (by decide +kernel) rfl, tb 34 (by decide +kernel) rfl⟩
theorem lX5_159 : LNK RX5 159 yX5_solveByDivisors := tb 533 (by decide +kernel) rfl
theorem mX5_solveByDivisors : MTH yX5_solveByDivisors cX5_solveByDivisors 3 none 0 := ⟨tb 536 (by decide +kernel) rfl, tb 107 (by decide +kernel) rfl, by decide +kernel, by decide +kernel, by decide +kernel⟩
theorem miX5_solveByDivisors : MTI yX5_solveByDivisors := ⟨tb 535 (by decide +kernel) rfl, tb 35 (by decide +kernel) rfl⟩
theorem lX5_172 : LNK RX5 172 yX5_goesInto := tb 537 (by decide +kernel) rfl
theorem lL_53 : LNK RL 53 yX5_can := tb 538 (by decide +kernel) rfl
theorem mX5_can : MTH yX5_can cX5_can 3 (some FieldType.int) 0 := ⟨tb 541 (by decide +kernel) rfl, tb 107 (by decide +kernel) rfl, by decide +kernel, by decide +kernel, by decide +kernel⟩
theorem miX5_can : MTI yX5_can := ⟨tb 539 (by decide +kernel) rfl, tb 540 (by decide +kernel) rfl⟩
theorem lX5_176 : LNN RX5 176 yX4_lead "TurnsMultiples" := nb 542 (by decide +kernel) rfl
theorem mX4_lead : MTH yX4_lead cX4_lead 4 none 2 := ⟨tb 545 (by decide +kernel) rfl, tb 110 (by decide +kernel) rfl, by decide +kernel, by decide +kernel, by decide +kernel⟩
theorem miX4_lead : MTI yX4_lead := ⟨tb 544 (by decide +kernel) rfl, tb 36 (by decide +kernel) rfl⟩
theorem lX4_35 : LNN RX4 35 yX0_turnsOf "TurnsMultiples" := nb 546 (by decide +kernel) rfl
theorem lX4_39 : LNK RX4 39 yX4_goOnceMore := tb 547 (by decide +kernel) rfl
theorem mX4_goOnceMore : MTH yX4_goOnceMore cX4_goOnceMore 5 none 1 := ⟨tb 550 (by decide +kernel) rfl, tb 110 (by decide +kernel) rfl, by decide +kernel, by decide +kernel, by decide +kernel⟩
theorem miX4_goOnceMore : MTI yX4_goOnceMore := ⟨tb 549 (by decide +kernel) rfl, tb 37 (by decide +kernel) rfl⟩
theorem lX4_43 : LNN RX4 43 yX5_turned "TurnsMultiples" := nb 551 (by decide +kernel) rfl
theorem lX5_183 : LNN RX5 183 yX4_endOf "TurnsMultiples" := nb 552 (by decide +kernel) rfl
theorem mX4_endOf : MTH yX4_endOf cX4_endOf 2 (some FieldType.int) 1 := ⟨tb 555 (by decide +kernel) rfl, tb 110 (by decide +kernel) rfl, by decide +kernel, by decide +kernel, by decide +kernel⟩
theorem miX4_endOf : MTI yX4_endOf := ⟨tb 554 (by decide +kernel) rfl, tb 38 (by decide +kernel) rfl⟩
theorem lL_57 : LNK RL 57 yX5_fewest := tb 556 (by decide +kernel) rfl
theorem mX5_fewest : MTH yX5_fewest cX5_fewest 2 (some FieldType.int) 0 := ⟨tb 559 (by decide +kernel) rfl, tb 107 (by decide +kernel) rfl, by decide +kernel, by decide +kernel, by decide +kernel⟩
theorem miX5_fewest : MTI yX5_fewest := ⟨tb 557 (by decide +kernel) rfl, tb 558 (by decide +kernel) rfl⟩
theorem lX5_186 : LNK RX5 186 yX5_fewestRow := tb 560 (by decide +kernel) rfl
theorem mX5_fewestRow : MTH yX5_fewestRow cX5_fewestRow 5 (some FieldType.int) 0 := ⟨tb 563 (by decide +kernel) rfl, tb 107 (by decide +kernel) rfl, by decide +kernel, by decide +kernel, by decide +kernel⟩
theorem miX5_fewestRow : MTI yX5_fewestRow := ⟨tb 562 (by decide +kernel) rfl, tb 39 (by decide +kernel) rfl⟩
theorem lX5_189 : LNN RX5 189 yX4_goingsIn "TurnsMultiples" := nb 564 (by decide +kernel) rfl
theorem mX4_goingsIn : MTH yX4_goingsIn cX4_goingsIn 4 (some FieldType.int) 1 := ⟨tb 567 (by decide +kernel) rfl, tb 110 (by decide +kernel) rfl, by decide +kernel, by decide +kernel, by decide +kernel⟩
theorem miX4_goingsIn : MTI yX4_goingsIn := ⟨tb 566 (by decide +kernel) rfl, tb 40 (by decide +kernel) rfl⟩
theorem lX4_60 : LNK RX4 60 yX4_timesIn := tb 568 (by decide +kernel) rfl
theorem mX4_timesIn : MTH yX4_timesIn cX4_timesIn 3 (some FieldType.int) 2 := ⟨tb 571 (by decide +kernel) rfl, tb 110 (by decide +kernel) rfl, by decide +kernel, by decide +kernel, by decide +kernel⟩
theorem miX4_timesIn : MTI yX4_timesIn := ⟨tb 570 (by decide +kernel) rfl, tb 41 (by decide +kernel) rfl⟩
theorem lX4_50 : LNK RX4 50 yX4_weightOf := tb 572 (by decide +kernel) rfl
theorem mX4_weightOf : MTH yX4_weightOf cX4_weightOf 2 (some FieldType.int) 1 := ⟨tb 575 (by decide +kernel) rfl, tb 110 (by decide +kernel) rfl, by decide +kernel, by decide +kernel, by decide +kernel⟩
theorem miX4_weightOf : MTI yX4_weightOf := ⟨tb 574 (by decide +kernel) rfl, tb 42 (by decide +kernel) rfl⟩
theorem lX4_53 : LNN RX4 53 yX5_quotient "TurnsMultiples" := nb 576 (by decide +kernel) rfl
theorem lX4_57 : LNN RX4 57 yX5_remainder "TurnsMultiples" := nb 577 (by decide +kernel) rfl
theorem lL_61 : LNK RL 61 yX5_cheapest := tb 578 (by decide +kernel) rfl
theorem mX5_cheapest : MTH yX5_cheapest cX5_cheapest 4 (some FieldType.int) 0 := ⟨tb 581 (by decide +kernel) rfl, tb 107 (by decide +kernel) rfl, by decide +kernel, by decide +kernel, by decide +kernel⟩
theorem miX5_cheapest : MTI yX5_cheapest := ⟨tb 579 (by decide +kernel) rfl, tb 580 (by decide +kernel) rfl⟩
theorem lX5_192 : LNN RX5 192 yX4_costOf "TurnsMultiples" := nb 582 (by decide +kernel) rfl
theorem mX4_costOf : MTH yX4_costOf cX4_costOf 6 (some FieldType.int) 2 := ⟨tb 585 (by decide +kernel) rfl, tb 110 (by decide +kernel) rfl, by decide +kernel, by decide +kernel, by decide +kernel⟩
theorem miX4_costOf : MTI yX4_costOf := ⟨tb 584 (by decide +kernel) rfl, tb 43 (by decide +kernel) rfl⟩
theorem lX4_63 : LNN RX4 63 yX0_goerOf "TurnsMultiples" := nb 586 (by decide +kernel) rfl
theorem lL_65 : LNK RL 65 yX5_how := tb 587 (by decide +kernel) rfl
theorem mX5_how : MTH yX5_how cX5_how 3 (some FieldType.int) 1 := ⟨tb 590 (by decide +kernel) rfl, tb 107 (by decide +kernel) rfl, by decide +kernel, by decide +kernel, by decide +kernel⟩
theorem miX5_how : MTI yX5_how := ⟨tb 588 (by decide +kernel) rfl, tb 589 (by decide +kernel) rfl⟩
theorem lX5_196 : LNN RX5 196 yX4_timesIn "TurnsMultiples" := nb 591 (by decide +kernel) rfl
theorem lL_69 : LNK RL 69 yX5_nothing := tb 592 (by decide +kernel) rfl
theorem mX5_nothing : MTH yX5_nothing cX5_nothing 1 (some FieldType.int) 0 := ⟨tb 595 (by decide +kernel) rfl, tb 107 (by decide +kernel) rfl, by decide +kernel, by decide +kernel, by decide +kernel⟩
theorem miX5_nothing : MTI yX5_nothing := ⟨tb 593 (by decide +kernel) rfl, tb 594 (by decide +kernel) rfl⟩
theorem lX5_199 : LNN RX5 199 yX4_endingAt "TurnsMultiples" := nb 596 (by decide +kernel) rfl
theorem mX4_endingAt : MTH yX4_endingAt cX4_endingAt 4 (some FieldType.int) 1 := ⟨tb 599 (by decide +kernel) rfl, tb 110 (by decide +kernel) rfl, by decide +kernel, by decide +kernel, by decide +kernel⟩
theorem miX4_endingAt : MTI yX4_endingAt := ⟨tb 598 (by decide +kernel) rfl, tb 44 (by decide +kernel) rfl⟩
theorem lX4_47 : LNK RX4 47 yX4_endOf := tb 600 (by decide +kernel) rfl
theorem lL_73 : LNK RL 73 yX5_states := tb 601 (by decide +kernel) rfl
theorem mX5_states : MTH yX5_states cX5_states 1 (some FieldType.int) 0 := ⟨tb 604 (by decide +kernel) rfl, tb 107 (by decide +kernel) rfl, by decide +kernel, by decide +kernel, by decide +kernel⟩
theorem miX5_states : MTI yX5_states := ⟨tb 602 (by decide +kernel) rfl, tb 603 (by decide +kernel) rfl⟩
theorem lL_77 : LNK RL 77 yX5_keys := tb 605 (by decide +kernel) rfl
theorem mX5_keys : MTH yX5_keys cX5_keys 5 (some FieldType.int) 1 := ⟨tb 608 (by decide +kernel) rfl, tb 107 (by decide +kernel) rfl, by decide +kernel, by decide +kernel, by decide +kernel⟩
theorem miX5_keys : MTI yX5_keys := ⟨tb 606 (by decide +kernel) rfl, tb 607 (by decide +kernel) rfl⟩
theorem lX5_205 : LNK RX5 205 yJ6_bitCount_0f7a4 := tb 609 (by decide +kernel) rfl
theorem lX5_210 : LNN RX5 210 yX4_bringAll "TurnsMultiples" := nb 610 (by decide +kernel) rfl
theorem mX4_bringAll : MTH yX4_bringAll cX4_bringAll 5 (some FieldType.boolean) 2 := ⟨tb 613 (by decide +kernel) rfl, tb 110 (by decide +kernel) rfl, by decide +kernel, by decide +kernel, by decide +kernel⟩
theorem miX4_bringAll : MTI yX4_bringAll := ⟨tb 612 (by decide +kernel) rfl, tb 45 (by decide +kernel) rfl⟩
theorem lX4_72 : LNK RX4 72 yX4_findPivot := tb 614 (by decide +kernel) rfl
theorem mX4_findPivot : MTH yX4_findPivot cX4_findPivot 7 (some FieldType.boolean) 2 := ⟨tb 617 (by decide +kernel) rfl, tb 110 (by decide +kernel) rfl, by decide +kernel, by decide +kernel, by decide +kernel⟩
theorem miX4_findPivot : MTI yX4_findPivot := ⟨tb 616 (by decide +kernel) rfl, tb 46 (by decide +kernel) rfl⟩
theorem lX4_79 : LNN RX4 79 yX5_wayOf "TurnsMultiples" := nb 618 (by decide +kernel) rfl
theorem lX4_82 : LNK RX4 82 yX4_added := tb 619 (by decide +kernel) rfl
theorem mX4_added : MTH yX4_added cX4_added 6 (some FieldType.int) 4 := ⟨tb 621 (by decide +kernel) rfl, tb 110 (by decide +kernel) rfl, by decide +kernel, by decide +kernel, by decide +kernel⟩
theorem msX4_added : MTS yX4_added := tb 620 (by decide +kernel) rfl
theorem lL_81 : LNK RL 81 yX5_been := tb 622 (by decide +kernel) rfl
theorem mX5_been : MTH yX5_been cX5_been 1 (some FieldType.int) 0 := ⟨tb 625 (by decide +kernel) rfl, tb 107 (by decide +kernel) rfl, by decide +kernel, by decide +kernel, by decide +kernel⟩
theorem miX5_been : MTI yX5_been := ⟨tb 623 (by decide +kernel) rfl, tb 624 (by decide +kernel) rfl⟩
theorem lL_85 : LNK RL 85 yX5_sure := tb 626 (by decide +kernel) rfl
theorem mX5_sure : MTH yX5_sure cX5_sure 4 (some FieldType.int) 0 := ⟨tb 629 (by decide +kernel) rfl, tb 107 (by decide +kernel) rfl, by decide +kernel, by decide +kernel, by decide +kernel⟩
theorem miX5_sure : MTI yX5_sure := ⟨tb 627 (by decide +kernel) rfl, tb 628 (by decide +kernel) rfl⟩
theorem lX5_214 : LNN RX5 214 yX4_goersIn "TurnsMultiples" := nb 630 (by decide +kernel) rfl
theorem mX4_goersIn : MTH yX4_goersIn cX4_goersIn 4 (some FieldType.int) 1 := ⟨tb 633 (by decide +kernel) rfl, tb 110 (by decide +kernel) rfl, by decide +kernel, by decide +kernel, by decide +kernel⟩
theorem miX4_goersIn : MTI yX4_goersIn := ⟨tb 632 (by decide +kernel) rfl, tb 47 (by decide +kernel) rfl⟩
theorem lL_89 : LNK RL 89 yX5_forEver := tb 634 (by decide +kernel) rfl
theorem mX5_forEver : MTH yX5_forEver cX5_forEver 2 (some FieldType.int) 1 := ⟨tb 637 (by decide +kernel) rfl, tb 107 (by decide +kernel) rfl, by decide +kernel, by decide +kernel, by decide +kernel⟩
theorem miX5_forEver : MTI yX5_forEver := ⟨tb 635 (by decide +kernel) rfl, tb 636 (by decide +kernel) rfl⟩
theorem kX5_217 : Cond.constant RX5 217 (1000000000) ∈ TBg := tb 638 (by decide +kernel) rfl
theorem lX5_218 : LNK RX5 218 yX5_farWay := tb 639 (by decide +kernel) rfl
theorem mX5_farWay : MTH yX5_farWay cX5_farWay 2 (some FieldType.int) 1 := ⟨tb 642 (by decide +kernel) rfl, tb 107 (by decide +kernel) rfl, by decide +kernel, by decide +kernel, by decide +kernel⟩
theorem miX5_farWay : MTI yX5_farWay := ⟨tb 641 (by decide +kernel) rfl, tb 48 (by decide +kernel) rfl⟩
theorem lX5_221 : LNK RX5 221 yX5_divisorsOf := tb 643 (by decide +kernel) rfl
theorem mX5_divisorsOf : MTH yX5_divisorsOf cX5_divisorsOf 5 (some FieldType.int) 1 := ⟨tb 645 (by decide +kernel) rfl, tb 107 (by decide +kernel) rfl, by decide +kernel, by decide +kernel, by decide +kernel⟩
theorem msX5_divisorsOf : MTS yX5_divisorsOf := tb 644 (by decide +kernel) rfl
theorem lL_93 : LNK RL 93 yX5_nth := tb 646 (by decide +kernel) rfl
theorem mX5_nth : MTH yX5_nth cX5_nth 4 (some FieldType.int) 1 := ⟨tb 649 (by decide +kernel) rfl, tb 107 (by decide +kernel) rfl, by decide +kernel, by decide +kernel, by decide +kernel⟩
theorem miX5_nth : MTI yX5_nth := ⟨tb 647 (by decide +kernel) rfl, tb 648 (by decide +kernel) rfl⟩
theorem lL_97 : LNK RL 97 yX5_open := tb 650 (by decide +kernel) rfl
theorem mX5_open : MTH yX5_open cX5_open 4 (some FieldType.int) 1 := ⟨tb 653 (by decide +kernel) rfl, tb 107 (by decide +kernel) rfl, by decide +kernel, by decide +kernel, by decide +kernel⟩
theorem miX5_open : MTI yX5_open := ⟨tb 651 (by decide +kernel) rfl, tb 652 (by decide +kernel) rfl⟩
theorem lL_101 : LNK RL 101 yX5_log := tb 654 (by decide +kernel) rfl
theorem mX5_log : MTH yX5_log cX5_log 2 (some FieldType.int) 1 := ⟨tb 657 (by decide +kernel) rfl, tb 107 (by decide +kernel) rfl, by decide +kernel, by decide +kernel, by decide +kernel⟩
theorem miX5_log : MTI yX5_log := ⟨tb 655 (by decide +kernel) rfl, tb 656 (by decide +kernel) rfl⟩
theorem lX5_227 : LNN RX5 227 yX0_note "TurnsMultiples" := nb 658 (by decide +kernel) rfl
theorem mX0_note : MTH yX0_note cX0_note 2 (some FieldType.int) 1 := ⟨tb 661 (by decide +kernel) rfl, tb 109 (by decide +kernel) rfl, by decide +kernel, by decide +kernel, by decide +kernel⟩
theorem miX0_note : MTI yX0_note := ⟨tb 660 (by decide +kernel) rfl, tb 49 (by decide +kernel) rfl⟩
theorem lL_105 : LNK RL 105 yX5_order := tb 662 (by decide +kernel) rfl
theorem mX5_order : MTH yX5_order cX5_order 6 (some FieldType.int) 1 := ⟨tb 665 (by decide +kernel) rfl, tb 107 (by decide +kernel) rfl, by decide +kernel, by decide +kernel, by decide +kernel⟩
theorem miX5_order : MTI yX5_order := ⟨tb 663 (by decide +kernel) rfl, tb 664 (by decide +kernel) rfl⟩
theorem lX5_230 : LNN RX5 230 yX0_loggedAt "TurnsMultiples" := nb 666 (by decide +kernel) rfl
theorem mX0_loggedAt : MTH yX0_loggedAt cX0_loggedAt 2 (some FieldType.int) 1 := ⟨tb 669 (by decide +kernel) rfl, tb 109 (by decide +kernel) rfl, by decide +kernel, by decide +kernel, by decide +kernel⟩
theorem miX0_loggedAt : MTI yX0_loggedAt := ⟨tb 668 (by decide +kernel) rfl, tb 50 (by decide +kernel) rfl⟩
theorem lL_109 : LNK RL 109 yX5_fills := tb 670 (by decide +kernel) rfl
theorem mX5_fills : MTH yX5_fills cX5_fills 6 (some FieldType.int) 0 := ⟨tb 673 (by decide +kernel) rfl, tb 107 (by decide +kernel) rfl, by decide +kernel, by decide +kernel, by decide +kernel⟩
theorem miX5_fills : MTI yX5_fills := ⟨tb 671 (by decide +kernel) rfl, tb 672 (by decide +kernel) rfl⟩
theorem lX5_233 : LNN RX5 233 yX0_unknown "TurnsMultiples" := nb 674 (by decide +kernel) rfl
theorem mX0_unknown : MTH yX0_unknown cX0_unknown 3 (some FieldType.int) 0 := ⟨tb 677 (by decide +kernel) rfl, tb 109 (by decide +kernel) rfl, by decide +kernel, by decide +kernel, by decide +kernel⟩
theorem miX0_unknown : MTI yX0_unknown := ⟨tb 676 (by decide +kernel) rfl, tb 51 (by decide +kernel) rfl⟩
theorem lX0_77 : LNK RX0 77 yX0_loggedAt := tb 678 (by decide +kernel) rfl
theorem lX5_236 : LNN RX5 236 yX0_behindLog "TurnsMultiples" := nb 679 (by decide +kernel) rfl
theorem mX0_behindLog : MTH yX0_behindLog cX0_behindLog 4 (some FieldType.int) 1 := ⟨tb 682 (by decide +kernel) rfl, tb 109 (by decide +kernel) rfl, by decide +kernel, by decide +kernel, by decide +kernel⟩
theorem miX0_behindLog : MTI yX0_behindLog := ⟨tb 681 (by decide +kernel) rfl, tb 52 (by decide +kernel) rfl⟩
theorem lX5_239 : LNK RX5 239 yX5_filled := tb 683 (by decide +kernel) rfl
theorem mX5_filled : MTH yX5_filled cX5_filled 7 (some FieldType.int) 3 := ⟨tb 686 (by decide +kernel) rfl, tb 107 (by decide +kernel) rfl, by decide +kernel, by decide +kernel, by decide +kernel⟩
theorem miX5_filled : MTI yX5_filled := ⟨tb 685 (by decide +kernel) rfl, tb 53 (by decide +kernel) rfl⟩
theorem lL_113 : LNK RL 113 yX5_run := tb 687 (by decide +kernel) rfl
theorem mX5_run : MTH yX5_run cX5_run 2 (some FieldType.int) 1 := ⟨tb 690 (by decide +kernel) rfl, tb 107 (by decide +kernel) rfl, by decide +kernel, by decide +kernel, by decide +kernel⟩
theorem miX5_run : MTI yX5_run := ⟨tb 688 (by decide +kernel) rfl, tb 689 (by decide +kernel) rfl⟩
theorem lL_117 : LNK RL 117 yX5_judge := tb 691 (by decide +kernel) rfl
theorem mX5_judge : MTH yX5_judge cX5_judge 4 (some FieldType.int) 0 := ⟨tb 694 (by decide +kernel) rfl, tb 107 (by decide +kernel) rfl, by decide +kernel, by decide +kernel, by decide +kernel⟩
theorem miX5_judge : MTI yX5_judge := ⟨tb 692 (by decide +kernel) rfl, tb 693 (by decide +kernel) rfl⟩
theorem lX5_242 : LNK RX5 242 yX5_notAtZero := tb 695 (by decide +kernel) rfl
theorem mX5_notAtZero : MTH yX5_notAtZero cX5_notAtZero 1 (some FieldType.int) 1 := ⟨tb 697 (by decide +kernel) rfl, tb 107 (by decide +kernel) rfl, by decide +kernel, by decide +kernel, by decide +kernel⟩
theorem msX5_notAtZero : MTS yX5_notAtZero := tb 696 (by decide +kernel) rfl
theorem lL_121 : LNK RL 121 yX5_clear := tb 698 (by decide +kernel) rfl
theorem mX5_clear : MTH yX5_clear cX5_clear 2 (some FieldType.int) 0 := ⟨tb 701 (by decide +kernel) rfl, tb 107 (by decide +kernel) rfl, by decide +kernel, by decide +kernel, by decide +kernel⟩
theorem miX5_clear : MTI yX5_clear := ⟨tb 699 (by decide +kernel) rfl, tb 700 (by decide +kernel) rfl⟩
theorem lL_125 : LNK RL 125 yX5_match := tb 702 (by decide +kernel) rfl
theorem mX5_match : MTH yX5_match cX5_match 1 (some FieldType.int) 0 := ⟨tb 705 (by decide +kernel) rfl, tb 107 (by decide +kernel) rfl, by decide +kernel, by decide +kernel, by decide +kernel⟩
theorem miX5_match : MTI yX5_match := ⟨tb 703 (by decide +kernel) rfl, tb 704 (by decide +kernel) rfl⟩
theorem lX5_245 : LNN RX5 245 yX1_judged "TurnsMultiples" := nb 706 (by decide +kernel) rfl
theorem mX1_judged : MTH yX1_judged cX1_judged 6 (some FieldType.int) 2 := ⟨tb 709 (by decide +kernel) rfl, tb 111 (by decide +kernel) rfl, by decide +kernel, by decide +kernel, by decide +kernel⟩
theorem miX1_judged : MTI yX1_judged := ⟨tb 708 (by decide +kernel) rfl, tb 54 (by decide +kernel) rfl⟩
theorem lX1_21 : LNK RX1 21 yX1_begin := tb 710 (by decide +kernel) rfl
theorem mX1_begin : MTH yX1_begin cX1_begin 4 none 2 := ⟨tb 713 (by decide +kernel) rfl, tb 111 (by decide +kernel) rfl, by decide +kernel, by decide +kernel, by decide +kernel⟩
theorem miX1_begin : MTI yX1_begin := ⟨tb 712 (by decide +kernel) rfl, tb 55 (by decide +kernel) rfl⟩
theorem lX1_51 : LNN RX1 51 yX4_endOf "TurnsMultiples" := nb 714 (by decide +kernel) rfl
theorem lX1_54 : LNN RX1 54 yX0_isWish "TurnsMultiples" := nb 715 (by decide +kernel) rfl
theorem lX1_58 : LNK RX1 58 yX1_settle := tb 716 (by decide +kernel) rfl
theorem mX1_settle : MTH yX1_settle cX1_settle 3 none 2 := ⟨tb 719 (by decide +kernel) rfl, tb 111 (by decide +kernel) rfl, by decide +kernel, by decide +kernel, by decide +kernel⟩
theorem miX1_settle : MTI yX1_settle := ⟨tb 718 (by decide +kernel) rfl, tb 56 (by decide +kernel) rfl⟩
theorem lX1_34 : LNN RX1 34 yX4_before "TurnsMultiples" := nb 720 (by decide +kernel) rfl
theorem mX4_before : MTH yX4_before cX4_before 4 (some FieldType.int) 2 := ⟨tb 723 (by decide +kernel) rfl, tb 110 (by decide +kernel) rfl, by decide +kernel, by decide +kernel, by decide +kernel⟩
theorem miX4_before : MTI yX4_before := ⟨tb 722 (by decide +kernel) rfl, tb 57 (by decide +kernel) rfl⟩
theorem lX1_40 : LNK RX1 40 yX1_verdictOf := tb 724 (by decide +kernel) rfl
theorem mX1_verdictOf : MTH yX1_verdictOf cX1_verdictOf 2 (some FieldType.int) 1 := ⟨tb 727 (by decide +kernel) rfl, tb 111 (by decide +kernel) rfl, by decide +kernel, by decide +kernel, by decide +kernel⟩
theorem miX1_verdictOf : MTI yX1_verdictOf := ⟨tb 726 (by decide +kernel) rfl, tb 58 (by decide +kernel) rfl⟩
theorem lX1_44 : LNK RX1 44 yX1_tellBack := tb 728 (by decide +kernel) rfl
theorem mX1_tellBack : MTH yX1_tellBack cX1_tellBack 4 none 3 := ⟨tb 731 (by decide +kernel) rfl, tb 111 (by decide +kernel) rfl, by decide +kernel, by decide +kernel, by decide +kernel⟩
theorem miX1_tellBack : MTI yX1_tellBack := ⟨tb 730 (by decide +kernel) rfl, tb 59 (by decide +kernel) rfl⟩
theorem lL_129 : LNK RL 129 yX5_seeds := tb 732 (by decide +kernel) rfl
theorem mX5_seeds : MTH yX5_seeds cX5_seeds 7 (some FieldType.int) 2 := ⟨tb 735 (by decide +kernel) rfl, tb 107 (by decide +kernel) rfl, by decide +kernel, by decide +kernel, by decide +kernel⟩
theorem miX5_seeds : MTI yX5_seeds := ⟨tb 733 (by decide +kernel) rfl, tb 734 (by decide +kernel) rfl⟩
theorem kX5_249 : Cond.constant RX5 249 (1664525) ∈ TBg := tb 736 (by decide +kernel) rfl
theorem kX5_250 : Cond.constant RX5 250 (1013904223) ∈ TBg := tb 737 (by decide +kernel) rfl
theorem kX5_251 : Cond.constant RX5 251 (2147483647) ∈ TBg := tb 738 (by decide +kernel) rfl
theorem lL_133 : LNK RL 133 yX5_image := tb 739 (by decide +kernel) rfl
theorem mX5_image : MTH yX5_image cX5_image 1 (some FieldType.int) 0 := ⟨tb 742 (by decide +kernel) rfl, tb 107 (by decide +kernel) rfl, by decide +kernel, by decide +kernel, by decide +kernel⟩
theorem miX5_image : MTI yX5_image := ⟨tb 740 (by decide +kernel) rfl, tb 741 (by decide +kernel) rfl⟩
theorem lL_137 : LNK RL 137 yX5_on := tb 743 (by decide +kernel) rfl
theorem mX5_on : MTH yX5_on cX5_on 1 (some FieldType.int) 0 := ⟨tb 746 (by decide +kernel) rfl, tb 107 (by decide +kernel) rfl, by decide +kernel, by decide +kernel, by decide +kernel⟩
theorem miX5_on : MTI yX5_on := ⟨tb 744 (by decide +kernel) rfl, tb 745 (by decide +kernel) rfl⟩
theorem lL_141 : LNK RL 141 yX5_count := tb 747 (by decide +kernel) rfl
theorem mX5_count : MTH yX5_count cX5_count 2 (some FieldType.int) 1 := ⟨tb 750 (by decide +kernel) rfl, tb 107 (by decide +kernel) rfl, by decide +kernel, by decide +kernel, by decide +kernel⟩
theorem miX5_count : MTI yX5_count := ⟨tb 748 (by decide +kernel) rfl, tb 749 (by decide +kernel) rfl⟩
theorem lX5_262 : LNK RX5 262 yX5_refusalsTold := tb 751 (by decide +kernel) rfl
theorem mX5_refusalsTold : MTH yX5_refusalsTold cX5_refusalsTold 2 (some FieldType.int) 1 := ⟨tb 754 (by decide +kernel) rfl, tb 107 (by decide +kernel) rfl, by decide +kernel, by decide +kernel, by decide +kernel⟩
theorem miX5_refusalsTold : MTI yX5_refusalsTold := ⟨tb 753 (by decide +kernel) rfl, tb 60 (by decide +kernel) rfl⟩
theorem nL_10 : NWC RL 10 6 := ⟨by decide, tb 755 (by decide +kernel) rfl, tb 756 (by decide +kernel) rfl, tb 112 (by decide +kernel) rfl⟩
theorem lL_12 : LNK RL 12 yX6_init := tb 757 (by decide +kernel) rfl
theorem mX6_init : MTH yX6_init cX6_init 2 none 0 := ⟨tb 759 (by decide +kernel) rfl, tb 112 (by decide +kernel) rfl, by decide +kernel, by decide +kernel, by decide +kernel⟩
theorem mnX6_init : Cond.instanceMethod yX6_init ∈ TBg := tb 758 (by decide +kernel) rfl
theorem lX6_1 : LNK RX6 1 objectInit := tb 760 (by decide +kernel) rfl
theorem lL_17 : LNK RL 17 yX6_letter := tb 810 (by decide +kernel) rfl
theorem mX6_letter : MTH yX6_letter cX6_letter 3 (some FieldType.int) 1 := ⟨tb 813 (by decide +kernel) rfl, tb 112 (by decide +kernel) rfl, by decide +kernel, by decide +kernel, by decide +kernel⟩
theorem miX6_letter : MTI yX6_letter := ⟨tb 811 (by decide +kernel) rfl, tb 812 (by decide +kernel) rfl⟩
theorem lX6_44 : LNK RX6 44 yX6_within := tb 814 (by decide +kernel) rfl
theorem mX6_within : MTH yX6_within cX6_within 3 (some FieldType.int) 3 := ⟨tb 816 (by decide +kernel) rfl, tb 112 (by decide +kernel) rfl, by decide +kernel, by decide +kernel, by decide +kernel⟩
theorem msX6_within : MTS yX6_within := tb 815 (by decide +kernel) rfl
theorem lX6_52 : LNK RX6 52 yX6_refuse := tb 817 (by decide +kernel) rfl
theorem mX6_refuse : MTH yX6_refuse cX6_refuse 2 (some FieldType.int) 1 := ⟨tb 820 (by decide +kernel) rfl, tb 112 (by decide +kernel) rfl, by decide +kernel, by decide +kernel, by decide +kernel⟩
theorem miX6_refuse : MTI yX6_refuse := ⟨tb 819 (by decide +kernel) rfl, tb 61 (by decide +kernel) rfl⟩
theorem lL_22 : LNK RL 22 yX6_house := tb 821 (by decide +kernel) rfl
theorem mX6_house : MTH yX6_house cX6_house 2 (some FieldType.int) 0 := ⟨tb 824 (by decide +kernel) rfl, tb 112 (by decide +kernel) rfl, by decide +kernel, by decide +kernel, by decide +kernel⟩
theorem miX6_house : MTI yX6_house := ⟨tb 822 (by decide +kernel) rfl, tb 823 (by decide +kernel) rfl⟩
theorem lX6_102 : LNK RX6 102 yX6_reads := tb 825 (by decide +kernel) rfl
theorem mX6_reads : MTH yX6_reads cX6_reads 5 (some FieldType.int) 0 := ⟨tb 828 (by decide +kernel) rfl, tb 112 (by decide +kernel) rfl, by decide +kernel, by decide +kernel, by decide +kernel⟩
theorem miX6_reads : MTI yX6_reads := ⟨tb 827 (by decide +kernel) rfl, tb 62 (by decide +kernel) rfl⟩
theorem lX6_92 : LNK RX6 92 yX6_readsStatement := tb 829 (by decide +kernel) rfl
theorem mX6_readsStatement : MTH yX6_readsStatement cX6_readsStatement 3 (some FieldType.boolean) 0 := ⟨tb 832 (by decide +kernel) rfl, tb 112 (by decide +kernel) rfl, by decide +kernel, by decide +kernel, by decide +kernel⟩
theorem miX6_readsStatement : MTI yX6_readsStatement := ⟨tb 831 (by decide +kernel) rfl, tb 63 (by decide +kernel) rfl⟩
theorem lX6_59 : LNK RX6 59 yX6_sign := tb 833 (by decide +kernel) rfl
theorem mX6_sign : MTH yX6_sign cX6_sign 1 (some FieldType.int) 0 := ⟨tb 836 (by decide +kernel) rfl, tb 112 (by decide +kernel) rfl, by decide +kernel, by decide +kernel, by decide +kernel⟩
theorem miX6_sign : MTI yX6_sign := ⟨tb 835 (by decide +kernel) rfl, tb 64 (by decide +kernel) rfl⟩
theorem lX6_73 : LNK RX6 73 yX6_readsNumber := tb 837 (by decide +kernel) rfl
theorem mX6_readsNumber : MTH yX6_readsNumber cX6_readsNumber 4 (some FieldType.boolean) 2 := ⟨tb 840 (by decide +kernel) rfl, tb 112 (by decide +kernel) rfl, by decide +kernel, by decide +kernel, by decide +kernel⟩
theorem miX6_readsNumber : MTI yX6_readsNumber := ⟨tb 839 (by decide +kernel) rfl, tb 65 (by decide +kernel) rfl⟩
theorem lX6_63 : LNK RX6 63 yX6_isDigit := tb 841 (by decide +kernel) rfl
theorem mX6_isDigit : MTH yX6_isDigit cX6_isDigit 1 (some FieldType.boolean) 0 := ⟨tb 844 (by decide +kernel) rfl, tb 112 (by decide +kernel) rfl, by decide +kernel, by decide +kernel, by decide +kernel⟩
theorem miX6_isDigit : MTI yX6_isDigit := ⟨tb 843 (by decide +kernel) rfl, tb 66 (by decide +kernel) rfl⟩
theorem lX6_76 : LNK RX6 76 yX6_readsKind := tb 845 (by decide +kernel) rfl
theorem mX6_readsKind : MTH yX6_readsKind cX6_readsKind 1 (some FieldType.boolean) 0 := ⟨tb 848 (by decide +kernel) rfl, tb 112 (by decide +kernel) rfl, by decide +kernel, by decide +kernel, by decide +kernel⟩
theorem miX6_readsKind : MTI yX6_readsKind := ⟨tb 847 (by decide +kernel) rfl, tb 67 (by decide +kernel) rfl⟩
theorem lX6_70 : LNK RX6 70 yX6_kindOf := tb 849 (by decide +kernel) rfl
theorem mX6_kindOf : MTH yX6_kindOf cX6_kindOf 1 (some FieldType.int) 1 := ⟨tb 851 (by decide +kernel) rfl, tb 112 (by decide +kernel) rfl, by decide +kernel, by decide +kernel, by decide +kernel⟩
theorem msX6_kindOf : MTS yX6_kindOf := tb 850 (by decide +kernel) rfl
theorem lX6_79 : LNK RX6 79 yX6_takes := tb 852 (by decide +kernel) rfl
theorem mX6_takes : MTH yX6_takes cX6_takes 2 (some FieldType.boolean) 1 := ⟨tb 855 (by decide +kernel) rfl, tb 112 (by decide +kernel) rfl, by decide +kernel, by decide +kernel, by decide +kernel⟩
theorem miX6_takes : MTI yX6_takes := ⟨tb 854 (by decide +kernel) rfl, tb 68 (by decide +kernel) rfl⟩
theorem lX6_83 : LNK RX6 83 yX6_readsRow := tb 856 (by decide +kernel) rfl
theorem mX6_readsRow : MTH yX6_readsRow cX6_readsRow 1 (some FieldType.boolean) 0 := ⟨tb 859 (by decide +kernel) rfl, tb 112 (by decide +kernel) rfl, by decide +kernel, by decide +kernel, by decide +kernel⟩
theorem miX6_readsRow : MTI yX6_readsRow := ⟨tb 858 (by decide +kernel) rfl, tb 69 (by decide +kernel) rfl⟩
theorem lX6_95 : LNK RX6 95 yX6_copies := tb 860 (by decide +kernel) rfl
theorem mX6_copies : MTH yX6_copies cX6_copies 3 none 2 := ⟨tb 862 (by decide +kernel) rfl, tb 112 (by decide +kernel) rfl, by decide +kernel, by decide +kernel, by decide +kernel⟩
theorem msX6_copies : MTS yX6_copies := tb 861 (by decide +kernel) rfl
theorem lX6_99 : LNK RX6 99 yX6_comes := tb 863 (by decide +kernel) rfl
theorem mX6_comes : MTH yX6_comes cX6_comes 4 (some FieldType.boolean) 1 := ⟨tb 866 (by decide +kernel) rfl, tb 112 (by decide +kernel) rfl, by decide +kernel, by decide +kernel, by decide +kernel⟩
theorem miX6_comes : MTI yX6_comes := ⟨tb 865 (by decide +kernel) rfl, tb 70 (by decide +kernel) rfl⟩
theorem lX6_86 : LNK RX6 86 yX6_clearsRead := tb 867 (by decide +kernel) rfl
theorem mX6_clearsRead : MTH yX6_clearsRead cX6_clearsRead 2 none 0 := ⟨tb 870 (by decide +kernel) rfl, tb 112 (by decide +kernel) rfl, by decide +kernel, by decide +kernel, by decide +kernel⟩
theorem miX6_clearsRead : MTI yX6_clearsRead := ⟨tb 869 (by decide +kernel) rfl, tb 71 (by decide +kernel) rfl⟩
theorem lX6_89 : LNK RX6 89 yX6_comesRow := tb 871 (by decide +kernel) rfl
theorem mX6_comesRow : MTH yX6_comesRow cX6_comesRow 3 (some FieldType.boolean) 1 := ⟨tb 874 (by decide +kernel) rfl, tb 112 (by decide +kernel) rfl, by decide +kernel, by decide +kernel, by decide +kernel⟩
theorem miX6_comesRow : MTI yX6_comesRow := ⟨tb 873 (by decide +kernel) rfl, tb 72 (by decide +kernel) rfl⟩
theorem lL_27 : LNK RL 27 yX6_door := tb 875 (by decide +kernel) rfl
theorem mX6_door : MTH yX6_door cX6_door 3 (some FieldType.int) 2 := ⟨tb 878 (by decide +kernel) rfl, tb 112 (by decide +kernel) rfl, by decide +kernel, by decide +kernel, by decide +kernel⟩
theorem miX6_door : MTI yX6_door := ⟨tb 876 (by decide +kernel) rfl, tb 877 (by decide +kernel) rfl⟩
theorem lX6_115 : LNK RX6 115 yX6_isDoor := tb 879 (by decide +kernel) rfl
theorem mX6_isDoor : MTH yX6_isDoor cX6_isDoor 2 (some FieldType.boolean) 1 := ⟨tb 882 (by decide +kernel) rfl, tb 112 (by decide +kernel) rfl, by decide +kernel, by decide +kernel, by decide +kernel⟩
theorem miX6_isDoor : MTI yX6_isDoor := ⟨tb 881 (by decide +kernel) rfl, tb 73 (by decide +kernel) rfl⟩
theorem lX6_40 : LNK RX6 40 yX6_isIn := tb 883 (by decide +kernel) rfl
theorem mX6_isIn : MTH yX6_isIn cX6_isIn 2 (some FieldType.boolean) 2 := ⟨tb 885 (by decide +kernel) rfl, tb 112 (by decide +kernel) rfl, by decide +kernel, by decide +kernel, by decide +kernel⟩
theorem msX6_isIn : MTS yX6_isIn := tb 884 (by decide +kernel) rfl
theorem lL_31 : LNK RL 31 yX6_person := tb 886 (by decide +kernel) rfl
theorem mX6_person : MTH yX6_person cX6_person 3 (some FieldType.int) 2 := ⟨tb 889 (by decide +kernel) rfl, tb 112 (by decide +kernel) rfl, by decide +kernel, by decide +kernel, by decide +kernel⟩
theorem miX6_person : MTI yX6_person := ⟨tb 887 (by decide +kernel) rfl, tb 888 (by decide +kernel) rfl⟩
theorem lX6_118 : LNK RX6 118 yX6_isPerson := tb 890 (by decide +kernel) rfl
theorem mX6_isPerson : MTH yX6_isPerson cX6_isPerson 2 (some FieldType.boolean) 1 := ⟨tb 893 (by decide +kernel) rfl, tb 112 (by decide +kernel) rfl, by decide +kernel, by decide +kernel, by decide +kernel⟩
theorem miX6_isPerson : MTI yX6_isPerson := ⟨tb 892 (by decide +kernel) rfl, tb 74 (by decide +kernel) rfl⟩
theorem lX6_105 : LNK RX6 105 yX6_get := tb 894 (by decide +kernel) rfl
theorem mX6_get : MTH yX6_get cX6_get 3 (some FieldType.int) 2 := ⟨tb 897 (by decide +kernel) rfl, tb 112 (by decide +kernel) rfl, by decide +kernel, by decide +kernel, by decide +kernel⟩
theorem miX6_get : MTI yX6_get := ⟨tb 896 (by decide +kernel) rfl, tb 75 (by decide +kernel) rfl⟩
theorem lX6_121 : LNK RX6 121 yX6_turned := tb 898 (by decide +kernel) rfl
theorem mX6_turned : MTH yX6_turned cX6_turned 4 (some FieldType.int) 1 := ⟨tb 901 (by decide +kernel) rfl, tb 112 (by decide +kernel) rfl, by decide +kernel, by decide +kernel, by decide +kernel⟩
theorem miX6_turned : MTI yX6_turned := ⟨tb 900 (by decide +kernel) rfl, tb 76 (by decide +kernel) rfl⟩
theorem lX6_112 : LNK RX6 112 yX6_turns := tb 902 (by decide +kernel) rfl
theorem mX6_turns : MTH yX6_turns cX6_turns 5 (some FieldType.boolean) 2 := ⟨tb 905 (by decide +kernel) rfl, tb 112 (by decide +kernel) rfl, by decide +kernel, by decide +kernel, by decide +kernel⟩
theorem miX6_turns : MTI yX6_turns := ⟨tb 904 (by decide +kernel) rfl, tb 77 (by decide +kernel) rfl⟩
theorem lX6_109 : LNK RX6 109 yX6_goesInto := tb 906 (by decide +kernel) rfl
theorem mX6_goesInto : MTH yX6_goesInto cX6_goesInto 2 (some FieldType.boolean) 2 := ⟨tb 908 (by decide +kernel) rfl, tb 112 (by decide +kernel) rfl, by decide +kernel, by decide +kernel, by decide +kernel⟩
theorem msX6_goesInto : MTS yX6_goesInto := tb 907 (by decide +kernel) rfl
theorem lL_35 : LNK RL 35 yX6_go := tb 909 (by decide +kernel) rfl
theorem mX6_go : MTH yX6_go cX6_go 2 (some FieldType.int) 1 := ⟨tb 912 (by decide +kernel) rfl, tb 112 (by decide +kernel) rfl, by decide +kernel, by decide +kernel, by decide +kernel⟩
theorem miX6_go : MTI yX6_go := ⟨tb 910 (by decide +kernel) rfl, tb 911 (by decide +kernel) rfl⟩
theorem lX6_128 : LNK RX6 128 yX6_goes := tb 913 (by decide +kernel) rfl
theorem mX6_goes : MTH yX6_goes cX6_goes 4 (some FieldType.int) 1 := ⟨tb 916 (by decide +kernel) rfl, tb 112 (by decide +kernel) rfl, by decide +kernel, by decide +kernel, by decide +kernel⟩
theorem miX6_goes : MTI yX6_goes := ⟨tb 915 (by decide +kernel) rfl, tb 78 (by decide +kernel) rfl⟩
theorem lX6_124 : LNK RX6 124 yX6_turnsDoor := tb 917 (by decide +kernel) rfl
theorem mX6_turnsDoor : MTH yX6_turnsDoor cX6_turnsDoor 2 none 1 := ⟨tb 920 (by decide +kernel) rfl, tb 112 (by decide +kernel) rfl, by decide +kernel, by decide +kernel, by decide +kernel⟩
theorem miX6_turnsDoor : MTI yX6_turnsDoor := ⟨tb 919 (by decide +kernel) rfl, tb 79 (by decide +kernel) rfl⟩
theorem lL_39 : LNK RL 39 yX6_turn := tb 921 (by decide +kernel) rfl
theorem mX6_turn : MTH yX6_turn cX6_turn 3 (some FieldType.int) 1 := ⟨tb 924 (by decide +kernel) rfl, tb 112 (by decide +kernel) rfl, by decide +kernel, by decide +kernel, by decide +kernel⟩
theorem miX6_turn : MTI yX6_turn := ⟨tb 922 (by decide +kernel) rfl, tb 923 (by decide +kernel) rfl⟩
theorem lL_43 : LNK RL 43 yX6_state := tb 925 (by decide +kernel) rfl
theorem mX6_state : MTH yX6_state cX6_state 1 (some FieldType.int) 0 := ⟨tb 928 (by decide +kernel) rfl, tb 112 (by decide +kernel) rfl, by decide +kernel, by decide +kernel, by decide +kernel⟩
theorem miX6_state : MTI yX6_state := ⟨tb 926 (by decide +kernel) rfl, tb 927 (by decide +kernel) rfl⟩
theorem lX6_131 : LNK RX6 131 yX6_stateNow := tb 929 (by decide +kernel) rfl
theorem mX6_stateNow : MTH yX6_stateNow cX6_stateNow 3 (some FieldType.int) 0 := ⟨tb 932 (by decide +kernel) rfl, tb 112 (by decide +kernel) rfl, by decide +kernel, by decide +kernel, by decide +kernel⟩
theorem miX6_stateNow : MTI yX6_stateNow := ⟨tb 931 (by decide +kernel) rfl, tb 80 (by decide +kernel) rfl⟩
theorem lL_47 : LNK RL 47 yX6_wished := tb 933 (by decide +kernel) rfl
theorem mX6_wished : MTH yX6_wished cX6_wished 1 (some FieldType.int) 0 := ⟨tb 936 (by decide +kernel) rfl, tb 112 (by decide +kernel) rfl, by decide +kernel, by decide +kernel, by decide +kernel⟩
theorem miX6_wished : MTI yX6_wished := ⟨tb 934 (by decide +kernel) rfl, tb 935 (by decide +kernel) rfl⟩
theorem lX6_134 : LNK RX6 134 yX6_isWished := tb 937 (by decide +kernel) rfl
theorem mX6_isWished : MTH yX6_isWished cX6_isWished 2 (some FieldType.boolean) 0 := ⟨tb 940 (by decide +kernel) rfl, tb 112 (by decide +kernel) rfl, by decide +kernel, by decide +kernel, by decide +kernel⟩
theorem miX6_isWished : MTI yX6_isWished := ⟨tb 939 (by decide +kernel) rfl, tb 81 (by decide +kernel) rfl⟩
theorem lL_52 : LNK RL 52 yX6_way := tb 941 (by decide +kernel) rfl
theorem mX6_way : MTH yX6_way cX6_way 4 (some FieldType.int) 3 := ⟨tb 944 (by decide +kernel) rfl, tb 112 (by decide +kernel) rfl, by decide +kernel, by decide +kernel, by decide +kernel⟩
theorem miX6_way : MTI yX6_way := ⟨tb 942 (by decide +kernel) rfl, tb 943 (by decide +kernel) rfl⟩
theorem lX6_137 : LNK RX6 137 yX6_power := tb 945 (by decide +kernel) rfl
theorem mX6_power : MTH yX6_power cX6_power 4 (some FieldType.int) 1 := ⟨tb 948 (by decide +kernel) rfl, tb 112 (by decide +kernel) rfl, by decide +kernel, by decide +kernel, by decide +kernel⟩
theorem miX6_power : MTI yX6_power := ⟨tb 947 (by decide +kernel) rfl, tb 82 (by decide +kernel) rfl⟩
theorem lX6_140 : LNK RX6 140 yX6_findsWay := tb 949 (by decide +kernel) rfl
theorem mX6_findsWay : MTH yX6_findsWay cX6_findsWay 9 none 2 := ⟨tb 952 (by decide +kernel) rfl, tb 112 (by decide +kernel) rfl, by decide +kernel, by decide +kernel, by decide +kernel⟩
theorem miX6_findsWay : MTI yX6_findsWay := ⟨tb 951 (by decide +kernel) rfl, tb 83 (by decide +kernel) rfl⟩
theorem lL_56 : LNK RL 56 yX6_can := tb 953 (by decide +kernel) rfl
theorem mX6_can : MTH yX6_can cX6_can 3 (some FieldType.int) 0 := ⟨tb 956 (by decide +kernel) rfl, tb 112 (by decide +kernel) rfl, by decide +kernel, by decide +kernel, by decide +kernel⟩
theorem miX6_can : MTI yX6_can := ⟨tb 954 (by decide +kernel) rfl, tb 955 (by decide +kernel) rfl⟩
theorem lX6_156 : LNK RX6 156 yX6_rows := tb 957 (by decide +kernel) rfl
theorem mX6_rows : MTH yX6_rows cX6_rows 1 (some FieldType.int) 0 := ⟨tb 960 (by decide +kernel) rfl, tb 112 (by decide +kernel) rfl, by decide +kernel, by decide +kernel, by decide +kernel⟩
theorem miX6_rows : MTI yX6_rows := ⟨tb 959 (by decide +kernel) rfl, tb 84 (by decide +kernel) rfl⟩
theorem lX6_159 : LNK RX6 159 yX6_brings := tb 961 (by decide +kernel) rfl
theorem mX6_brings : MTH yX6_brings cX6_brings 3 (some FieldType.boolean) 1 := ⟨tb 964 (by decide +kernel) rfl, tb 112 (by decide +kernel) rfl, by decide +kernel, by decide +kernel, by decide +kernel⟩
theorem miX6_brings : MTI yX6_brings := ⟨tb 963 (by decide +kernel) rfl, tb 85 (by decide +kernel) rfl⟩
theorem lX6_147 : LNK RX6 147 yX6_keeps := tb 965 (by decide +kernel) rfl
theorem mX6_keeps : MTH yX6_keeps cX6_keeps 2 none 0 := ⟨tb 968 (by decide +kernel) rfl, tb 112 (by decide +kernel) rfl, by decide +kernel, by decide +kernel, by decide +kernel⟩
theorem miX6_keeps : MTI yX6_keeps := ⟨tb 967 (by decide +kernel) rfl, tb 86 (by decide +kernel) rfl⟩
theorem lX6_150 : LNK RX6 150 yX6_goesRow := tb 969 (by decide +kernel) rfl
theorem mX6_goesRow : MTH yX6_goesRow cX6_goesRow 4 none 1 := ⟨tb 972 (by decide +kernel) rfl, tb 112 (by decide +kernel) rfl, by decide +kernel, by decide +kernel, by decide +kernel⟩
theorem miX6_goesRow : MTI yX6_goesRow := ⟨tb 971 (by decide +kernel) rfl, tb 87 (by decide +kernel) rfl⟩
theorem lX6_144 : LNK RX6 144 yX6_timesOf := tb 973 (by decide +kernel) rfl
theorem mX6_timesOf : MTH yX6_timesOf cX6_timesOf 5 (some FieldType.int) 2 := ⟨tb 976 (by decide +kernel) rfl, tb 112 (by decide +kernel) rfl, by decide +kernel, by decide +kernel, by decide +kernel⟩
theorem miX6_timesOf : MTI yX6_timesOf := ⟨tb 975 (by decide +kernel) rfl, tb 88 (by decide +kernel) rfl⟩
theorem lX6_153 : LNK RX6 153 yX6_putsBack := tb 977 (by decide +kernel) rfl
theorem mX6_putsBack : MTH yX6_putsBack cX6_putsBack 2 none 0 := ⟨tb 980 (by decide +kernel) rfl, tb 112 (by decide +kernel) rfl, by decide +kernel, by decide +kernel, by decide +kernel⟩
theorem miX6_putsBack : MTI yX6_putsBack := ⟨tb 979 (by decide +kernel) rfl, tb 89 (by decide +kernel) rfl⟩
theorem lL_60 : LNK RL 60 yX6_fewest := tb 981 (by decide +kernel) rfl
theorem mX6_fewest : MTH yX6_fewest cX6_fewest 2 (some FieldType.int) 0 := ⟨tb 984 (by decide +kernel) rfl, tb 112 (by decide +kernel) rfl, by decide +kernel, by decide +kernel, by decide +kernel⟩
theorem miX6_fewest : MTI yX6_fewest := ⟨tb 982 (by decide +kernel) rfl, tb 983 (by decide +kernel) rfl⟩
theorem lX6_168 : LNK RX6 168 yX6_firstRow := tb 985 (by decide +kernel) rfl
theorem mX6_firstRow : MTH yX6_firstRow cX6_firstRow 4 (some FieldType.int) 0 := ⟨tb 988 (by decide +kernel) rfl, tb 112 (by decide +kernel) rfl, by decide +kernel, by decide +kernel, by decide +kernel⟩
theorem miX6_firstRow : MTI yX6_firstRow := ⟨tb 987 (by decide +kernel) rfl, tb 90 (by decide +kernel) rfl⟩
theorem lX6_162 : LNK RX6 162 yX6_goingsOf := tb 989 (by decide +kernel) rfl
theorem mX6_goingsOf : MTH yX6_goingsOf cX6_goingsOf 4 (some FieldType.int) 1 := ⟨tb 992 (by decide +kernel) rfl, tb 112 (by decide +kernel) rfl, by decide +kernel, by decide +kernel, by decide +kernel⟩
theorem miX6_goingsOf : MTI yX6_goingsOf := ⟨tb 991 (by decide +kernel) rfl, tb 91 (by decide +kernel) rfl⟩
theorem lX6_165 : LNK RX6 165 yX6_isAhead := tb 993 (by decide +kernel) rfl
theorem mX6_isAhead : MTH yX6_isAhead cX6_isAhead 4 (some FieldType.boolean) 2 := ⟨tb 996 (by decide +kernel) rfl, tb 112 (by decide +kernel) rfl, by decide +kernel, by decide +kernel, by decide +kernel⟩
theorem miX6_isAhead : MTI yX6_isAhead := ⟨tb 995 (by decide +kernel) rfl, tb 92 (by decide +kernel) rfl⟩
theorem lL_64 : LNK RL 64 yX6_cheapest := tb 997 (by decide +kernel) rfl
theorem mX6_cheapest : MTH yX6_cheapest cX6_cheapest 3 (some FieldType.int) 0 := ⟨tb 1000 (by decide +kernel) rfl, tb 112 (by decide +kernel) rfl, by decide +kernel, by decide +kernel, by decide +kernel⟩
theorem miX6_cheapest : MTI yX6_cheapest := ⟨tb 998 (by decide +kernel) rfl, tb 999 (by decide +kernel) rfl⟩
theorem lX6_171 : LNK RX6 171 yX6_costOf := tb 1001 (by decide +kernel) rfl
theorem mX6_costOf : MTH yX6_costOf cX6_costOf 4 (some FieldType.int) 1 := ⟨tb 1004 (by decide +kernel) rfl, tb 112 (by decide +kernel) rfl, by decide +kernel, by decide +kernel, by decide +kernel⟩
theorem miX6_costOf : MTI yX6_costOf := ⟨tb 1003 (by decide +kernel) rfl, tb 93 (by decide +kernel) rfl⟩
theorem lL_68 : LNK RL 68 yX6_how := tb 1005 (by decide +kernel) rfl
theorem mX6_how : MTH yX6_how cX6_how 3 (some FieldType.int) 1 := ⟨tb 1008 (by decide +kernel) rfl, tb 112 (by decide +kernel) rfl, by decide +kernel, by decide +kernel, by decide +kernel⟩
theorem miX6_how : MTI yX6_how := ⟨tb 1006 (by decide +kernel) rfl, tb 1007 (by decide +kernel) rfl⟩
theorem lL_72 : LNK RL 72 yX6_nothing := tb 1009 (by decide +kernel) rfl
theorem mX6_nothing : MTH yX6_nothing cX6_nothing 1 (some FieldType.int) 0 := ⟨tb 1012 (by decide +kernel) rfl, tb 112 (by decide +kernel) rfl, by decide +kernel, by decide +kernel, by decide +kernel⟩
theorem miX6_nothing : MTI yX6_nothing := ⟨tb 1010 (by decide +kernel) rfl, tb 1011 (by decide +kernel) rfl⟩
theorem lX6_177 : LNK RX6 177 yX6_allPeople := tb 1013 (by decide +kernel) rfl
theorem mX6_allPeople : MTH yX6_allPeople cX6_allPeople 1 (some FieldType.int) 0 := ⟨tb 1016 (by decide +kernel) rfl, tb 112 (by decide +kernel) rfl, by decide +kernel, by decide +kernel, by decide +kernel⟩
theorem miX6_allPeople : MTI yX6_allPeople := ⟨tb 1015 (by decide +kernel) rfl, tb 94 (by decide +kernel) rfl⟩
theorem lX6_180 : LNK RX6 180 yX6_nothingBy := tb 1017 (by decide +kernel) rfl
theorem mX6_nothingBy : MTH yX6_nothingBy cX6_nothingBy 6 (some FieldType.int) 1 := ⟨tb 1020 (by decide +kernel) rfl, tb 112 (by decide +kernel) rfl, by decide +kernel, by decide +kernel, by decide +kernel⟩
theorem miX6_nothingBy : MTI yX6_nothingBy := ⟨tb 1019 (by decide +kernel) rfl, tb 95 (by decide +kernel) rfl⟩
theorem lX6_174 : LNK RX6 174 yX6_zeroes := tb 1021 (by decide +kernel) rfl
theorem mX6_zeroes : MTH yX6_zeroes cX6_zeroes 2 none 0 := ⟨tb 1024 (by decide +kernel) rfl, tb 112 (by decide +kernel) rfl, by decide +kernel, by decide +kernel, by decide +kernel⟩
theorem miX6_zeroes : MTI yX6_zeroes := ⟨tb 1023 (by decide +kernel) rfl, tb 96 (by decide +kernel) rfl⟩
theorem lL_76 : LNK RL 76 yX6_states := tb 1025 (by decide +kernel) rfl
theorem mX6_states : MTH yX6_states cX6_states 1 (some FieldType.int) 0 := ⟨tb 1028 (by decide +kernel) rfl, tb 112 (by decide +kernel) rfl, by decide +kernel, by decide +kernel, by decide +kernel⟩
theorem miX6_states : MTI yX6_states := ⟨tb 1026 (by decide +kernel) rfl, tb 1027 (by decide +kernel) rfl⟩
theorem lL_80 : LNK RL 80 yX6_keys := tb 1029 (by decide +kernel) rfl
theorem mX6_keys : MTH yX6_keys cX6_keys 3 (some FieldType.int) 1 := ⟨tb 1032 (by decide +kernel) rfl, tb 112 (by decide +kernel) rfl, by decide +kernel, by decide +kernel, by decide +kernel⟩
theorem miX6_keys : MTI yX6_keys := ⟨tb 1030 (by decide +kernel) rfl, tb 1031 (by decide +kernel) rfl⟩
theorem lX6_189 : LNK RX6 189 yX6_keySet := tb 1033 (by decide +kernel) rfl
theorem mX6_keySet : MTH yX6_keySet cX6_keySet 3 (some FieldType.int) 0 := ⟨tb 1036 (by decide +kernel) rfl, tb 112 (by decide +kernel) rfl, by decide +kernel, by decide +kernel, by decide +kernel⟩
theorem miX6_keySet : MTI yX6_keySet := ⟨tb 1035 (by decide +kernel) rfl, tb 97 (by decide +kernel) rfl⟩
theorem lX6_183 : LNK RX6 183 yX6_stuck := tb 1037 (by decide +kernel) rfl
theorem mX6_stuck : MTH yX6_stuck cX6_stuck 3 (some FieldType.int) 0 := ⟨tb 1040 (by decide +kernel) rfl, tb 112 (by decide +kernel) rfl, by decide +kernel, by decide +kernel, by decide +kernel⟩
theorem miX6_stuck : MTI yX6_stuck := ⟨tb 1039 (by decide +kernel) rfl, tb 98 (by decide +kernel) rfl⟩
theorem lX6_186 : LNK RX6 186 yX6_bits := tb 1041 (by decide +kernel) rfl
theorem mX6_bits : MTH yX6_bits cX6_bits 3 (some FieldType.int) 1 := ⟨tb 1043 (by decide +kernel) rfl, tb 112 (by decide +kernel) rfl, by decide +kernel, by decide +kernel, by decide +kernel⟩
theorem msX6_bits : MTS yX6_bits := tb 1042 (by decide +kernel) rfl
theorem lL_84 : LNK RL 84 yX6_been := tb 1044 (by decide +kernel) rfl
theorem mX6_been : MTH yX6_been cX6_been 1 (some FieldType.int) 0 := ⟨tb 1047 (by decide +kernel) rfl, tb 112 (by decide +kernel) rfl, by decide +kernel, by decide +kernel, by decide +kernel⟩
theorem miX6_been : MTI yX6_been := ⟨tb 1045 (by decide +kernel) rfl, tb 1046 (by decide +kernel) rfl⟩
theorem lX6_198 : LNK RX6 198 yX6_findsBeen := tb 1048 (by decide +kernel) rfl
theorem mX6_findsBeen : MTH yX6_findsBeen cX6_findsBeen 4 none 0 := ⟨tb 1051 (by decide +kernel) rfl, tb 112 (by decide +kernel) rfl, by decide +kernel, by decide +kernel, by decide +kernel⟩
theorem miX6_findsBeen : MTI yX6_findsBeen := ⟨tb 1050 (by decide +kernel) rfl, tb 99 (by decide +kernel) rfl⟩
theorem lL_88 : LNK RL 88 yX6_sure := tb 1052 (by decide +kernel) rfl
theorem mX6_sure : MTH yX6_sure cX6_sure 1 (some FieldType.int) 0 := ⟨tb 1055 (by decide +kernel) rfl, tb 112 (by decide +kernel) rfl, by decide +kernel, by decide +kernel, by decide +kernel⟩
theorem miX6_sure : MTI yX6_sure := ⟨tb 1053 (by decide +kernel) rfl, tb 1054 (by decide +kernel) rfl⟩
theorem lL_92 : LNK RL 92 yX6_forEver := tb 1056 (by decide +kernel) rfl
theorem mX6_forEver : MTH yX6_forEver cX6_forEver 3 (some FieldType.int) 1 := ⟨tb 1059 (by decide +kernel) rfl, tb 112 (by decide +kernel) rfl, by decide +kernel, by decide +kernel, by decide +kernel⟩
theorem miX6_forEver : MTI yX6_forEver := ⟨tb 1057 (by decide +kernel) rfl, tb 1058 (by decide +kernel) rfl⟩
theorem kX6_204 : Cond.constant RX6 204 (1000000000) ∈ TBg := tb 1060 (by decide +kernel) rfl
theorem lX6_205 : LNK RX6 205 yX6_forEverOf := tb 1061 (by decide +kernel) rfl
theorem mX6_forEverOf : MTH yX6_forEverOf cX6_forEverOf 2 (some FieldType.int) 1 := ⟨tb 1064 (by decide +kernel) rfl, tb 112 (by decide +kernel) rfl, by decide +kernel, by decide +kernel, by decide +kernel⟩
theorem miX6_forEverOf : MTI yX6_forEverOf := ⟨tb 1063 (by decide +kernel) rfl, tb 100 (by decide +kernel) rfl⟩
theorem lX6_201 : LNK RX6 201 yX6_divisorsOf := tb 1065 (by decide +kernel) rfl
theorem mX6_divisorsOf : MTH yX6_divisorsOf cX6_divisorsOf 5 (some FieldType.int) 1 := ⟨tb 1067 (by decide +kernel) rfl, tb 112 (by decide +kernel) rfl, by decide +kernel, by decide +kernel, by decide +kernel⟩
theorem msX6_divisorsOf : MTS yX6_divisorsOf := tb 1066 (by decide +kernel) rfl
theorem lL_96 : LNK RL 96 yX6_nth := tb 1068 (by decide +kernel) rfl
theorem mX6_nth : MTH yX6_nth cX6_nth 5 (some FieldType.int) 1 := ⟨tb 1071 (by decide +kernel) rfl, tb 112 (by decide +kernel) rfl, by decide +kernel, by decide +kernel, by decide +kernel⟩
theorem miX6_nth : MTI yX6_nth := ⟨tb 1069 (by decide +kernel) rfl, tb 1070 (by decide +kernel) rfl⟩
theorem lL_100 : LNK RL 100 yX6_open := tb 1072 (by decide +kernel) rfl
theorem mX6_open : MTH yX6_open cX6_open 5 (some FieldType.int) 1 := ⟨tb 1075 (by decide +kernel) rfl, tb 112 (by decide +kernel) rfl, by decide +kernel, by decide +kernel, by decide +kernel⟩
theorem miX6_open : MTI yX6_open := ⟨tb 1073 (by decide +kernel) rfl, tb 1074 (by decide +kernel) rfl⟩
theorem lL_104 : LNK RL 104 yX6_log := tb 1076 (by decide +kernel) rfl
theorem mX6_log : MTH yX6_log cX6_log 3 (some FieldType.int) 1 := ⟨tb 1079 (by decide +kernel) rfl, tb 112 (by decide +kernel) rfl, by decide +kernel, by decide +kernel, by decide +kernel⟩
theorem miX6_log : MTI yX6_log := ⟨tb 1077 (by decide +kernel) rfl, tb 1078 (by decide +kernel) rfl⟩
theorem lL_108 : LNK RL 108 yX6_order := tb 1080 (by decide +kernel) rfl
theorem mX6_order : MTH yX6_order cX6_order 6 (some FieldType.int) 1 := ⟨tb 1083 (by decide +kernel) rfl, tb 112 (by decide +kernel) rfl, by decide +kernel, by decide +kernel, by decide +kernel⟩
theorem miX6_order : MTI yX6_order := ⟨tb 1081 (by decide +kernel) rfl, tb 1082 (by decide +kernel) rfl⟩
theorem lX6_208 : LNK RX6 208 yX6_logAt := tb 1084 (by decide +kernel) rfl
theorem mX6_logAt : MTH yX6_logAt cX6_logAt 2 (some FieldType.int) 1 := ⟨tb 1087 (by decide +kernel) rfl, tb 112 (by decide +kernel) rfl, by decide +kernel, by decide +kernel, by decide +kernel⟩
theorem miX6_logAt : MTI yX6_logAt := ⟨tb 1086 (by decide +kernel) rfl, tb 101 (by decide +kernel) rfl⟩
theorem lL_112 : LNK RL 112 yX6_fills := tb 1088 (by decide +kernel) rfl
theorem mX6_fills : MTH yX6_fills cX6_fills 9 (some FieldType.int) 0 := ⟨tb 1091 (by decide +kernel) rfl, tb 112 (by decide +kernel) rfl, by decide +kernel, by decide +kernel, by decide +kernel⟩
theorem miX6_fills : MTI yX6_fills := ⟨tb 1089 (by decide +kernel) rfl, tb 1090 (by decide +kernel) rfl⟩
theorem lX6_211 : LNK RX6 211 yX6_unknown := tb 1092 (by decide +kernel) rfl
theorem mX6_unknown : MTH yX6_unknown cX6_unknown 3 (some FieldType.int) 0 := ⟨tb 1095 (by decide +kernel) rfl, tb 112 (by decide +kernel) rfl, by decide +kernel, by decide +kernel, by decide +kernel⟩
theorem miX6_unknown : MTI yX6_unknown := ⟨tb 1094 (by decide +kernel) rfl, tb 102 (by decide +kernel) rfl⟩
theorem lL_116 : LNK RL 116 yX6_run := tb 1096 (by decide +kernel) rfl
theorem mX6_run : MTH yX6_run cX6_run 5 (some FieldType.int) 1 := ⟨tb 1099 (by decide +kernel) rfl, tb 112 (by decide +kernel) rfl, by decide +kernel, by decide +kernel, by decide +kernel⟩
theorem miX6_run : MTI yX6_run := ⟨tb 1097 (by decide +kernel) rfl, tb 1098 (by decide +kernel) rfl⟩
theorem lL_120 : LNK RL 120 yX6_judge := tb 1100 (by decide +kernel) rfl
theorem mX6_judge : MTH yX6_judge cX6_judge 3 (some FieldType.int) 0 := ⟨tb 1103 (by decide +kernel) rfl, tb 112 (by decide +kernel) rfl, by decide +kernel, by decide +kernel, by decide +kernel⟩
theorem miX6_judge : MTI yX6_judge := ⟨tb 1101 (by decide +kernel) rfl, tb 1102 (by decide +kernel) rfl⟩
theorem lX6_214 : LNK RX6 214 yX6_shuts := tb 1104 (by decide +kernel) rfl
theorem mX6_shuts : MTH yX6_shuts cX6_shuts 4 (some FieldType.boolean) 1 := ⟨tb 1107 (by decide +kernel) rfl, tb 112 (by decide +kernel) rfl, by decide +kernel, by decide +kernel, by decide +kernel⟩
theorem miX6_shuts : MTI yX6_shuts := ⟨tb 1106 (by decide +kernel) rfl, tb 103 (by decide +kernel) rfl⟩
theorem lL_124 : LNK RL 124 yX6_clear := tb 1108 (by decide +kernel) rfl
theorem mX6_clear : MTH yX6_clear cX6_clear 2 (some FieldType.int) 0 := ⟨tb 1111 (by decide +kernel) rfl, tb 112 (by decide +kernel) rfl, by decide +kernel, by decide +kernel, by decide +kernel⟩
theorem miX6_clear : MTI yX6_clear := ⟨tb 1109 (by decide +kernel) rfl, tb 1110 (by decide +kernel) rfl⟩
theorem lL_128 : LNK RL 128 yX6_match := tb 1112 (by decide +kernel) rfl
theorem mX6_match : MTH yX6_match cX6_match 3 (some FieldType.int) 0 := ⟨tb 1115 (by decide +kernel) rfl, tb 112 (by decide +kernel) rfl, by decide +kernel, by decide +kernel, by decide +kernel⟩
theorem miX6_match : MTI yX6_match := ⟨tb 1113 (by decide +kernel) rfl, tb 1114 (by decide +kernel) rfl⟩
theorem lX6_220 : LNK RX6 220 yX6_worthOf := tb 1116 (by decide +kernel) rfl
theorem mX6_worthOf : MTH yX6_worthOf cX6_worthOf 5 (some FieldType.int) 1 := ⟨tb 1119 (by decide +kernel) rfl, tb 112 (by decide +kernel) rfl, by decide +kernel, by decide +kernel, by decide +kernel⟩
theorem miX6_worthOf : MTI yX6_worthOf := ⟨tb 1118 (by decide +kernel) rfl, tb 104 (by decide +kernel) rfl⟩
theorem lX6_217 : LNK RX6 217 yX6_then := tb 1120 (by decide +kernel) rfl
theorem mX6_then : MTH yX6_then cX6_then 4 (some FieldType.int) 2 := ⟨tb 1123 (by decide +kernel) rfl, tb 112 (by decide +kernel) rfl, by decide +kernel, by decide +kernel, by decide +kernel⟩
theorem miX6_then : MTI yX6_then := ⟨tb 1122 (by decide +kernel) rfl, tb 105 (by decide +kernel) rfl⟩
theorem lL_132 : LNK RL 132 yX6_seeds := tb 1124 (by decide +kernel) rfl
theorem mX6_seeds : MTH yX6_seeds cX6_seeds 6 (some FieldType.int) 2 := ⟨tb 1127 (by decide +kernel) rfl, tb 112 (by decide +kernel) rfl, by decide +kernel, by decide +kernel, by decide +kernel⟩
theorem miX6_seeds : MTI yX6_seeds := ⟨tb 1125 (by decide +kernel) rfl, tb 1126 (by decide +kernel) rfl⟩
theorem kX6_223 : Cond.constant RX6 223 (1664525) ∈ TBg := tb 1128 (by decide +kernel) rfl
theorem kX6_224 : Cond.constant RX6 224 (1013904223) ∈ TBg := tb 1129 (by decide +kernel) rfl
theorem kX6_225 : Cond.constant RX6 225 (2147483647) ∈ TBg := tb 1130 (by decide +kernel) rfl
theorem lL_136 : LNK RL 136 yX6_image := tb 1131 (by decide +kernel) rfl
theorem mX6_image : MTH yX6_image cX6_image 1 (some FieldType.int) 0 := ⟨tb 1134 (by decide +kernel) rfl, tb 112 (by decide +kernel) rfl, by decide +kernel, by decide +kernel, by decide +kernel⟩
theorem miX6_image : MTI yX6_image := ⟨tb 1132 (by decide +kernel) rfl, tb 1133 (by decide +kernel) rfl⟩
theorem lL_140 : LNK RL 140 yX6_on := tb 1135 (by decide +kernel) rfl
theorem mX6_on : MTH yX6_on cX6_on 1 (some FieldType.int) 0 := ⟨tb 1138 (by decide +kernel) rfl, tb 112 (by decide +kernel) rfl, by decide +kernel, by decide +kernel, by decide +kernel⟩
theorem miX6_on : MTI yX6_on := ⟨tb 1136 (by decide +kernel) rfl, tb 1137 (by decide +kernel) rfl⟩
theorem lL_144 : LNK RL 144 yX6_count := tb 1139 (by decide +kernel) rfl
theorem mX6_count : MTH yX6_count cX6_count 4 (some FieldType.int) 1 := ⟨tb 1142 (by decide +kernel) rfl, tb 112 (by decide +kernel) rfl, by decide +kernel, by decide +kernel, by decide +kernel⟩
theorem miX6_count : MTI yX6_count := ⟨tb 1140 (by decide +kernel) rfl, tb 1141 (by decide +kernel) rfl⟩
theorem w_oi : Cond.instanceMethod objectInit ∈ TBg := tb 121 (by decide +kernel) rfl
theorem w_oc : Cond.code objectInit ⟨#[0xb1]⟩ 1 none ∈ TBg := tb 122 (by decide +kernel) rfl
theorem w_ai : Cond.arrayClass .int ∈ TBg := tb 162 (by decide +kernel) rfl
theorem w_ao : Cond.arrayOver (.object "TurnsMultiples$Goer") ∈ lw_tbl := List.mem_of_getElem? (i := 170) (by decide +kernel)
theorem w_ls : Cond.laysStatic "TurnsMultiples$Letters" "KINDS" "[C" ∈ lw_tbl := List.mem_of_getElem? (i := 343) (by decide +kernel)
theorem w_li : Cond.initialized "TurnsMultiples$Letters" ∈ lw_tbl := List.mem_of_getElem? (i := 108) (by decide +kernel)
end
section
/-! THE WHOLE HEAP AS ONE PICTURE: places 0, 1, .. are the objects and arrays in the order in which the law makes them (place p lies at address b0 + p); ints and references by (place, field or index). -/
abbrev Hp : Type := Nat × ((Nat → Nat → Int32) × (Nat → Nat → Option Nat))
/-- what lies at a place: (number of its class in cls, fields), (7, length) an int array, (8, length) an array of goers -/
def SH : Nat → Nat × Nat := fun p => match p with
  | 0 => (5, 9) | 1 => (3, 9) | 2 => (7, 64) | 3 => (7, 3) | 4 => (7, 12)
  | 5 => (0, 11) | 6 => (8, 7) | 7 => (7, 10) | 8 => (0, 11) | 9 => (8, 7) | 10 => (7, 10) | 11 => (0, 11) | 12 => (8, 7) | 13 => (7, 10)
  | 14 => (4, 6) | 15 => (7, 2187) | 16 => (7, 7) | 17 => (7, 13) | 18 => (1, 4) | 19 => (7, 2187) | 20 => (7, 2187) | 21 => (7, 2187)
  | 22 => (7, 13) | 23 => (7, 7) | 24 => (6, 16) | 25 => (7, 7) | 26 => (7, 79) | 27 => (7, 79) | 28 => (7, 79) | 29 => (7, 64) | 30 => (7, 12)
  | 31 => (7, 13) | 32 => (7, 13) | 33 => (7, 12) | 34 => (7, 2187)
  | _ => (2, 4)
abbrev Kt : Type := Nat × (va_G × (ClassId × (ClassId × Nat)))
abbrev KA (K : Kt) : Nat → Prop := fun q => K.1 ≤ q
def isRef (ci k : Nat) : Bool := match FY ci k with
  | .object _ => true
  | .array _ => true
  | _ => false
def fv (b0 : Nat) (h : Hp) (p c k : Nat) : Value := if isRef c k then va_rf ((h.2.2 p k).map (fun q => b0 + q)) else .int (h.2.1 p k)
def cellE (K : Kt) (h : Hp) (p : Nat) : va_E :=
  if (SH p).1 < 7 then .inr ((SH p).1, (List.range (FN (SH p).1)).map (fv K.1 h p (SH p).1))
  else if (SH p).1 = 7 then .inl (K.2.2.1, (SH p).2, .inl (h.2.1 p))
  else .inl (K.2.2.2.1, (SH p).2, .inr (.inr (.inr (.inr (fun j => (h.2.2 p j).map (fun q => K.1 + q))))))
def wsH (K : Kt) (h : Hp) : va_W := (List.range h.1).map (fun p => (K.1 + p, cellE K h p))
abbrev tysK (K : Kt) : List (ClassId × FieldType) := [(K.2.2.1, .int), (K.2.2.2.1, .object "TurnsMultiples$Goer")]
def upd2 {α : Type} (f : Nat → Nat → α) (p k : Nat) (v : α) : Nat → Nat → α := fun q j => if q = p ∧ j = k then v else f q j
theorem upd2_at {α : Type} (f : Nat → Nat → α) (p k : Nat) (v : α) : upd2 f p k v p k = v := by simp [upd2]
theorem upd2_ne {α : Type} (f : Nat → Nat → α) {p k q j : Nat} (v : α) (h : ¬ (q = p ∧ j = k)) : upd2 f p k v q j = f q j := by simp [upd2, h]
theorem upd2_row {α : Type} (f : Nat → Nat → α) {p k q : Nat} (v : α) (h : q ≠ p) : upd2 f p k v q = f q := by funext j; simp [upd2, h]
theorem rg_set {α : Type} (n k : Nat) (g g' : Nat → α) (v : α) (h1 : g' k = v) (h2 : ∀ j, j ≠ k → g' j = g j) : ((List.range n).map g).set k v = (List.range n).map g' := by
  apply List.ext_getElem?
  intro i
  by_cases hi : i = k
  · subst hi
    by_cases hn : i < n
    · rw [List.getElem?_set_self (by simpa using hn)]
      simp [hn, h1]
    · rw [List.getElem?_eq_none (by simpa using hn), List.getElem?_eq_none (by simpa using hn)]
  · rw [List.getElem?_set_ne (Ne.symm hi)]
    by_cases hn : i < n
    · simp [hn, h2 i hi]
    · rw [List.getElem?_eq_none (by simpa using hn), List.getElem?_eq_none (by simpa using hn)]
theorem wsH_at (K : Kt) {h : Hp} {p : Nat} (hp : p < h.1) : (wsH K h)[p]? = some (K.1 + p, cellE K h p) := by simp [wsH, hp]
theorem wsH_some {K : Kt} {h : Hp} {i : Nat} {q : Nat × va_E} (hq : (wsH K h)[i]? = some q) : i < h.1 ∧ q = (K.1 + i, cellE K h i) := by
  have hl : i < h.1 := by
    have := (List.getElem?_eq_some_iff.mp hq).1
    simpa [wsH] using this
  rw [wsH_at K hl] at hq
  exact ⟨hl, (Option.some.inj hq).symm⟩
theorem wsH_D (K : Kt) (h : Hp) : va_D (KA K) (wsH K h) := by
  refine ⟨fun i j p q hp hq hpq => ?_, fun k q hk => ?_⟩
  · obtain ⟨-, rfl⟩ := wsH_some hp
    obtain ⟨-, rfl⟩ := wsH_some hq
    exact Nat.add_left_cancel hpq
  · obtain ⟨-, rfl⟩ := wsH_some hk
    exact Nat.le_add_right _ _
theorem wsH_set {K : Kt} {h h' : Hp} {p : Nat} {e : va_E} (hn : h'.1 = h.1) (he : cellE K h' p = e) (ho : ∀ q, q ≠ p → cellE K h' q = cellE K h q) : (wsH K h).set p (K.1 + p, e) = wsH K h' := by
  unfold wsH
  rw [hn]
  exact rg_set _ _ _ _ _ (by rw [he]) (fun j hj => by rw [ho j hj])
theorem wsH_push {K : Kt} {h h' : Hp} {e : va_E} (hn : h'.1 = h.1 + 1) (he : cellE K h' h.1 = e) (ho : ∀ q, q < h.1 → cellE K h' q = cellE K h q) : wsH K h ++ [(K.1 + h.1, e)] = wsH K h' := by
  unfold wsH
  rw [hn, List.range_succ, List.map_append]
  congr 1
  · apply List.map_congr_left
    intro q hq
    rw [ho q (List.mem_range.mp hq)]
  · simp [he]
theorem cell_obj {K : Kt} {h : Hp} {p ci : Nat} (hs : (SH p).1 = ci) (hc : ci < 7) : cellE K h p = .inr (ci, (List.range (FN ci)).map (fv K.1 h p ci)) := by
  subst hs
  simp [cellE, hc]
theorem cell_int {K : Kt} {h : Hp} {p : Nat} (hs : (SH p).1 = 7) : cellE K h p = .inl (K.2.2.1, (SH p).2, .inl (h.2.1 p)) := by
  simp [cellE, hs]
theorem cell_ref {K : Kt} {h : Hp} {p : Nat} (hs : (SH p).1 = 8) : cellE K h p = .inl (K.2.2.2.1, (SH p).2, .inr (.inr (.inr (.inr (fun j => (h.2.2 p j).map (fun q => K.1 + q)))))) := by
  simp [cellE, hs]
theorem cell_ints {K : Kt} {h h' : Hp} {q : Nat} (h1 : h'.2.1 q = h.2.1 q) (h2 : h'.2.2 q = h.2.2 q) : cellE K h' q = cellE K h q := by
  have e : ∀ c k, fv K.1 h' q c k = fv K.1 h q c k := fun c k => by simp [fv, h1, h2]
  have e2 : ∀ c, fv K.1 h' q c = fv K.1 h q c := fun c => funext (e c)
  simp [cellE, e2, h1, h2]
-- ===== what the abstract program may do: each is one instruction that looks at the heap =====
section COMB
variable {α : Type}
/-- an int field -/
def gi (h : Hp) (p ci k : Nat) (f : Int32 → Option α) : Option α := if p < h.1 ∧ (SH p).1 = ci then f (h.2.1 p k) else none
/-- a field that holds a reference -/
def gr (h : Hp) (p ci k : Nat) (f : Nat → Option α) : Option α := if p < h.1 ∧ (SH p).1 = ci then (match h.2.2 p k with
  | some q => f q
  | none => none) else none
def pi (h : Hp) (p ci k : Nat) (v : Int32) (f : Hp → Option α) : Option α := if p < h.1 ∧ (SH p).1 = ci then f (h.1, upd2 h.2.1 p k v, h.2.2) else none
def pr (h : Hp) (p ci k : Nat) (v : Nat) (f : Hp → Option α) : Option α := if p < h.1 ∧ (SH p).1 = ci then f (h.1, h.2.1, upd2 h.2.2 p k (some v)) else none
def al (h : Hp) (p : Nat) (i : Int32) (f : Int32 → Option α) : Option α := if p < h.1 ∧ (SH p).1 = 7 ∧ ¬ i < 0 ∧ i.toNatClampNeg < (SH p).2 then f (h.2.1 p i.toNatClampNeg) else none
def as (h : Hp) (p : Nat) (i v : Int32) (f : Hp → Option α) : Option α := if p < h.1 ∧ (SH p).1 = 7 ∧ ¬ i < 0 ∧ i.toNatClampNeg < (SH p).2 then f (h.1, upd2 h.2.1 p i.toNatClampNeg v, h.2.2) else none
def ln (h : Hp) (p : Nat) (f : Int32 → Option α) : Option α := if p < h.1 ∧ ((SH p).1 = 7 ∨ (SH p).1 = 8) then f (Int32.ofNat (SH p).2) else none
def rl (h : Hp) (p : Nat) (i : Int32) (f : Option Nat → Option α) : Option α := if p < h.1 ∧ (SH p).1 = 8 ∧ ¬ i < 0 ∧ i.toNatClampNeg < (SH p).2 then f (h.2.2 p i.toNatClampNeg) else none
/-- null or a goer into an array of goers -/
def rs (h : Hp) (p : Nat) (i : Int32) (q : Option Nat) (f : Hp → Option α) : Option α := if p < h.1 ∧ (SH p).1 = 8 ∧ (¬ i < 0 ∧ i.toNatClampNeg < (SH p).2) ∧ (∀ v, q = some v → v < h.1 ∧ (SH v).1 = 2) then f (h.1, h.2.1, upd2 h.2.2 p i.toNatClampNeg q) else none
def nw (h : Hp) (ci : Nat) (f : Nat → Hp → Option α) : Option α := if (SH h.1).1 = ci then f h.1 (h.1 + 1, (fun q j => if q = h.1 then 0 else h.2.1 q j), (fun q j => if q = h.1 then none else h.2.2 q j)) else none
def na (h : Hp) (n : Int32) (f : Nat → Hp → Option α) : Option α := if (SH h.1).1 = 7 ∧ ¬ n < 0 ∧ n.toNatClampNeg = (SH h.1).2 then f h.1 (h.1 + 1, (fun q j => if q = h.1 then 0 else h.2.1 q j), (fun q j => if q = h.1 then none else h.2.2 q j)) else none
def nq (h : Hp) (n : Int32) (f : Nat → Hp → Option α) : Option α := if (SH h.1).1 = 8 ∧ ¬ n < 0 ∧ n.toNatClampNeg = (SH h.1).2 then f h.1 (h.1 + 1, (fun q j => if q = h.1 then 0 else h.2.1 q j), (fun q j => if q = h.1 then none else h.2.2 q j)) else none
/-- a divisor that isn't 0 -/
def nz (y : Int32) (r : Option α) : Option α := if y = 0 then none else r
/-- a boolean's value -/
def bz (y : Int32) (r : Option α) : Option α := if narrow .boolean (.int y) = .int y then r else none
def lt {β : Type} (v : β) (f : β → Option α) : Option α := f v
def ci {β : Type} (o : Option (β × Hp)) (f : β → Hp → Option α) : Option α := match o with
  | some z => f z.1 z.2
  | none => none
def cv (o : Option Hp) (f : Hp → Option α) : Option α := match o with
  | some z => f z
  | none => none
/-- the receiver of a call -/
def rc (h : Hp) (p c : Nat) (r : Option α) : Option α := if p < h.1 ∧ (SH p).1 = c then r else none
def KINDSf : Nat → Int32 := fun k => match k with
  | 0 => 109 | 1 => 100 | 2 => 98 | 3 => 101 | 4 => 120 | _ => 117
def kc (i : Int32) (f : Int32 → Option α) : Option α := if ¬ i < 0 ∧ i.toNatClampNeg < 6 then f (KINDSf i.toNatClampNeg) else none
def nn (o : Option Nat) (a : Option α) (b : Nat → Option α) : Option α := match o with
  | none => a
  | some q => b q
end COMB
def jrem (x y : Int32) : Int32 := x - x / y * y
def jushr (x y : Int32) : Int32 := (x.toUInt32 >>> (y.toUInt32 &&& Int32.toUInt32 31)).toInt32
def jshl (x y : Int32) : Int32 := x <<< (y &&& 31)
def jshr (x y : Int32) : Int32 := x >>> (y &&& 31)
def FU : Nat := 40000
-- ===== the machine's side =====
def EX (K : Kt) (U : State) (H : Heap) : Prop := va_Z "TurnsMultiples$Letters" "KINDS" "[C" (.ref K.2.2.2.2) (KA K) U H ∧ va_T .char K.2.2.2.2 6 (fun j => .int (KINDSf j)) (KA K) U H
/-- what a method may take for granted -/
def WI (K : Kt) (h : Hp) (U : State) (H : Heap) : Prop := va_P K.2.1 cls (wsH K h) H ∧ H.size = K.1 + h.1 ∧ va_K K.2.1 cls (tysK K) U ∧ (∀ w ∈ NWL, va_Nw w U) ∧ va_AO "TurnsMultiples$Goer" U ∧ EX K U H
def WE (K : Kt) (h : Hp) (t : State) : Prop := va_P K.2.1 cls (wsH K h) t.heap ∧ t.heap.size = K.1 + h.1
def Pre (K : Kt) (av : List Value) (h : Hp) : Array Value → State → Prop := va_Pc av (fun U => WI K h U U.heap)
abbrev Qi (K : Kt) (r : Int32) (h : Hp) : Array Value → State → Outcome → State → Prop := va_Qi (fun (r' : Int32) (_ : Unit) => r' = r) (fun _ t => WE K h t) (KA K)
abbrev Qv (K : Kt) (h : Hp) : Array Value → State → Outcome → State → Prop := va_Qv (fun (_ : Unit) => True) (fun _ t => WE K h t) (KA K)
abbrev Qq (K : Kt) (r : Option Nat) (h : Hp) : Array Value → State → Outcome → State → Prop := va_Qq (fun (r' : Option Nat) (_ : Unit) => r' = r.map (fun q => K.1 + q)) (fun _ t => WE K h t) (KA K)
/-- a method's contract, over the whole heap -/
def CT (l : Launch) (K : Kt) (y : MethodName) (b : ByteArray) (maxL : Nat) (ret : Option FieldType) (rm : Room) (av : List Value) (h : Hp) (Q : Array Value → State → Outcome → State → Prop) : Prop :=
  Met l y (Cond.code y b maxL ret :: TBg) rm (Pre K av h) Q rm.cells rm.slots (KA K)
theorem gi_words {b : ByteArray} {y y' : MethodName} {b' : ByteArray} {n n' : Nat} {r r' : Option FieldType} (h : Cond.code y' b' n' r' ∈ TBg) : GoodIn (Cond.code y b n r :: TBg) (Cond.code y' b' n' r' :: TBg) := by
  intro w hw
  rcases List.mem_cons.mp hw with rfl | hw
  · exact ⟨List.mem_cons_of_mem _ h, (tb_good h).2⟩
  · exact ⟨List.mem_cons_of_mem _ hw, (tb_good hw).2⟩
theorem gl_words {y' : MethodName} {b' : ByteArray} {n' : Nat} {r' : Option FieldType} (h : Cond.code y' b' n' r' ∈ TBg) : GoodIn TBg (Cond.code y' b' n' r' :: TBg) := by
  intro w hw
  rcases List.mem_cons.mp hw with rfl | hw
  · exact ⟨h, (tb_good h).2⟩
  · exact ⟨hw, (tb_good hw).2⟩
/-- what holds in a method's body all along -/
def CX (K : Kt) (p : Program) (m : MethodId) (c : Code) (cc : ByteArray) (nL : Nat) (s : State) (args : Array Value) (own : String) : Prop :=
  p.tables.exec = Jvm.exec ∧ c.code = cc ∧ c.maxLocals = nL ∧ s.vm.findClass own = some m.cls ∧ (∀ w ∈ TBg, w.before args s = true) ∧ va_K K.2.1 cls (tysK K) s ∧ (∀ w ∈ NWL, va_Nw w s) ∧ va_AO "TurnsMultiples$Goer" s ∧ EX K s s.heap ∧ K.1 ≤ s.heap.size
/-- the heap of now -/
def HX (K : Kt) (H0 H : Heap) (locs : List Loc) (h : Hp) : Prop := va_P K.2.1 cls (wsH K h) H ∧ H.size = K.1 + h.1 ∧ va_S (KA K) H0 H locs
end
section
theorem hx_set {K : Kt} {H0 H H' : Heap} {locs : List Loc} {h h' : Hp} {p k : Nat} {e : va_E} (X : HX K H0 H locs h) (hp : p < h.1) (hn : h'.1 = h.1) (hc : cellE K h' p = e) (ho : ∀ q, q ≠ p → cellE K h' q = cellE K h q) (hat : va_at K.2.1 cls (K.1 + p, e) H') (e2 : H'.size = H.size) (e3 : ∀ q : Nat, q ≠ K.1 + p → H'[q]? = H[q]?) : HX K H0 H' (locs ++ [⟨K.1 + p, k⟩]) h' :=
  ⟨by rw [← wsH_set hn hc ho]; exact X.1.set (wsH_D K h) (wsH_at K hp) hat e3, by rw [e2, X.2.1, hn], X.2.2.put e2 e3 (Nat.le_add_right _ _)⟩
theorem hx_push {K : Kt} {H0 H H' : Heap} {locs : List Loc} {h h' : Hp} {e : va_E} (X : HX K H0 H locs h) (hn : h'.1 = h.1 + 1) (hc : cellE K h' h.1 = e) (ho : ∀ q, q < h.1 → cellE K h' q = cellE K h q) (hat : va_at K.2.1 cls (K.1 + h.1, e) H') (e2 : H'.size = H.size + 1) (e3 : ∀ q : Nat, q < H.size → H'[q]? = H[q]?) : HX K H0 H' locs h' := by
  have hk : ∀ (k : Nat) (x : Nat × va_E), (wsH K h)[k]? = some x → H'[x.1]? = H[x.1]? := fun k x hx => e3 x.1 ((X.1 k x hx).lt)
  refine ⟨?_, by rw [e2, X.2.1, hn]; omega, Nat.le_trans X.2.2.1 (by omega), fun x h1 h2 => (e3 x (Nat.lt_of_lt_of_le h1 X.2.2.1)).trans (X.2.2.2.1 x h1 h2), X.2.2.2.2⟩
  rw [← wsH_push hn hc ho]
  refine (X.1.kept hk).app (fun k x hx => ?_)
  have hz : k < 1 := (List.getElem?_eq_some_iff.mp hx).1
  rw [show k = 0 by omega] at hx
  cases hx
  exact hat
theorem vpV_map {N : Nat} {g : Nat → Value} {j : Nat} (hj : j < N) : vp_V ((List.range N).map g) j = g j := by
  simp [vp_V, List.getD, hj]
section ROWS
variable {p : Program} {l : Launch} {e : Env} {R : Room} {s : State} {m : MethodId} {args : Array Value} {below : List Frame} {meth : Method} {c : Code} {H : Heap} {locs : List Loc} {cells slots : Nat} {Q : State → Prop}
variable {cc : ByteArray} {pc : Nat} {ls : Array Slot} {rest : List Value} {K : Kt} {h : Hp} {nL : Nat} {own : String} {ρ : Type} {z : ρ}
theorem cls_of {c0 : Nat} (hc : c0 < 7) : cls[c0]? = some (FC c0, FT c0, FN c0) := cls_at c0 hc
theorem w_gi (C : CX K p m c cc nL s args own) (X : HX K s.heap H locs h) {pp idx c0 k : Nat} {f : Int32 → Option ρ} (hF : FLD own idx c0 k) (hr : isRef c0 k = false) (hdg : decode cc pc = .ok (.getfield idx, 3)) (hp : gi h pp c0 k f = some z)
    (kk : ∀ v, f v = some z → W p l e R s m args below meth c H locs cells slots Q (F0 m (pc + 3) ls (.int v :: rest))) : W p l e R s m args below meth c H locs cells slots Q (F0 m pc ls (.ref (K.1 + pp) :: rest)) := by
  obtain ⟨hx, hb, -, hown, hts, hK, hN, -⟩ := C
  unfold gi at hp
  split at hp
  next hc =>
    obtain ⟨h7, hk, hl⟩ := hF
    have he : (wsH K h)[pp]? = some (K.1 + pp, .inr (c0, (List.range (FN c0)).map (fv K.1 h pp c0))) := by rw [wsH_at K hc.1, cell_obj hc.2 h7]
    have hv : ((List.range (FN c0)).map (fv K.1 h pp c0))[k]? = some (.int (h.2.1 pp k)) := by simp [hk, fv, hr]
    rcases hl with hl | ⟨host, hl⟩
    · exact va_get hx hb hts (fw_at c0 h7) hown hK X.1 pp he (cls_at c0 h7) k hk (hts _ hl) (fun _ h9 => h9) hv hdg (kk _ hp)
    · exact va_getN hx hb hts (fw_at c0 h7) hown hK X.1 pp he (cls_at c0 h7) k hk (va_Nw.use rfl (hN _ hl)) (fun _ h9 => h9) hv hdg (kk _ hp)
  next => cases hp
theorem w_gr (C : CX K p m c cc nL s args own) (X : HX K s.heap H locs h) {pp idx c0 k : Nat} {f : Nat → Option ρ} (hF : FLD own idx c0 k) (hr : isRef c0 k = true) (hdg : decode cc pc = .ok (.getfield idx, 3)) (hp : gr h pp c0 k f = some z)
    (kk : ∀ q, f q = some z → W p l e R s m args below meth c H locs cells slots Q (F0 m (pc + 3) ls (.ref (K.1 + q) :: rest))) : W p l e R s m args below meth c H locs cells slots Q (F0 m pc ls (.ref (K.1 + pp) :: rest)) := by
  obtain ⟨hx, hb, -, hown, hts, hK, hN, -⟩ := C
  unfold gr at hp
  split at hp
  next hc =>
    split at hp
    next q hq =>
      obtain ⟨h7, hk, hl⟩ := hF
      have he : (wsH K h)[pp]? = some (K.1 + pp, .inr (c0, (List.range (FN c0)).map (fv K.1 h pp c0))) := by rw [wsH_at K hc.1, cell_obj hc.2 h7]
      have hv : ((List.range (FN c0)).map (fv K.1 h pp c0))[k]? = some (.ref (K.1 + q)) := by simp [hk, fv, hr, hq, va_rf]
      rcases hl with hl | ⟨host, hl⟩
      · exact va_get hx hb hts (fw_at c0 h7) hown hK X.1 pp he (cls_at c0 h7) k hk (hts _ hl) (fun _ h9 => h9) hv hdg (kk _ hp)
      · exact va_getN hx hb hts (fw_at c0 h7) hown hK X.1 pp he (cls_at c0 h7) k hk (va_Nw.use rfl (hN _ hl)) (fun _ h9 => h9) hv hdg (kk _ hp)
    next => cases hp
  next => cases hp
/-- what a write into a field leaves -/
theorem put_at (C : CX K p m c cc nL s args own) (X : HX K s.heap H locs h) {pp c0 k : Nat} (hpp : pp < h.1) (hs : (SH pp).1 = c0) (h7 : c0 < 7) (hk : k < FN c0) {v : Value} {h' : Hp} (hn1 : h'.1 = h.1) (hv : fv K.1 h' pp c0 k = v) (ho : ∀ j, j ≠ k → fv K.1 h' pp c0 j = fv K.1 h pp c0 j) (hq : ∀ q, q ≠ pp → cellE K h' q = cellE K h q) {cell : Cell} (q1 : H[K.1 + pp]? = some cell) (q2 : cell.cls = K.2.1.1 c0) (q3 : cell.vm = .none) (q4 : ∀ j, j < FN c0 → cell.slots[K.2.1.2 c0 j]? = some (fv K.1 h pp c0 j))
    {H' : Heap} (e1 : H'[K.1 + pp]? = some (cell.setSlot (K.2.1.2 c0 k) v)) (e2 : H'.size = H.size) (e3 : ∀ q, q ≠ K.1 + pp → H'[q]? = H[q]?) : HX K s.heap H' (locs ++ [⟨K.1 + pp, K.2.1.2 c0 k⟩]) h' := by
  obtain ⟨hx, hb, -, hown, hts, hK, hN, -⟩ := C
  have hap := va_apart (own := own) hts (fw_at c0 h7) (FY c0) (fp_at c0 h7) (fn_at c0 h7) hK (cls_at c0 h7)
  refine hx_set X hpp hn1 (cell_obj hs h7) hq ⟨_, cls_at c0 h7, ?_⟩ e2 e3
  refine t_OB.to (V := updV (fv K.1 h pp c0) k v) ⟨_, e1, q2, q3, t_set q4 hap hk v⟩ (fun j hj => ?_)
  show _ = vp_V ((List.range (FN c0)).map (fv K.1 h' pp c0)) j
  rw [vpV_map hj]
  by_cases hjk : j = k
  · subst hjk
    simp [updV, hv]
  · simp [updV, hjk, ho j hjk]
theorem obj_at (C : CX K p m c cc nL s args own) (X : HX K s.heap H locs h) {pp c0 : Nat} (hpp : pp < h.1) (hs : (SH pp).1 = c0) (h7 : c0 < 7) : ∃ cell : Cell, H[K.1 + pp]? = some cell ∧ cell.cls = K.2.1.1 c0 ∧ cell.vm = .none ∧ ∀ j, j < FN c0 → cell.slots[K.2.1.2 c0 j]? = some (fv K.1 h pp c0 j) := by
  have he : (wsH K h)[pp]? = some (K.1 + pp, .inr (c0, (List.range (FN c0)).map (fv K.1 h pp c0))) := by rw [wsH_at K hpp, cell_obj hs h7]
  obtain ⟨r, h1, cell, q1, q2, q3, q4⟩ := X.1 pp _ he
  have hr : r = (FC c0, FT c0, FN c0) := Option.some.inj (h1.symm.trans (cls_at c0 h7))
  subst hr
  exact ⟨cell, q1, q2, q3, fun j hj => by rw [q4 j hj]; exact congrArg some (vpV_map hj)⟩
theorem w_put (C : CX K p m c cc nL s args own) (X : HX K s.heap H locs h) {pp idx c0 k : Nat} (hF : FLD own idx c0 k) (hfin : (FT c0 k).2.2.2 = false) {v : Value} (hn : narrow (FY c0 k) v = v) (hfit : fits (FY c0 k) v = true) (hdg : decode cc pc = .ok (.putfield idx, 3)) (hpp : pp < h.1) (hs : (SH pp).1 = c0)
    {h' : Hp} (hn1 : h'.1 = h.1) (hv : fv K.1 h' pp c0 k = v) (ho : ∀ j, j ≠ k → fv K.1 h' pp c0 j = fv K.1 h pp c0 j) (hq : ∀ q, q ≠ pp → cellE K h' q = cellE K h q)
    (kk : ∀ (H1 : Heap) (locs1 : List Loc), HX K s.heap H1 locs1 h' → W p l e R s m args below meth c H1 locs1 cells slots Q (F0 m (pc + 3) ls rest)) : W p l e R s m args below meth c H locs cells slots Q (F0 m pc ls (v :: .ref (K.1 + pp) :: rest)) := by
  obtain ⟨h7, hk, hl⟩ := hF
  obtain ⟨cell, q1, q2, q3, q4⟩ := obj_at C X hpp hs h7
  have P := fun (H' : Heap) => put_at C X hpp hs h7 hk hn1 hv ho hq q1 q2 q3 q4 (H' := H')
  obtain ⟨hx, hb, -, hown, hts, hK, hN, -⟩ := C
  obtain ⟨hS, hfc, kC, hkC, hkind⟩ := hK.1 c0 _ (cls_at c0 h7)
  obtain ⟨cf, kf, fi, f, hi, hsl⟩ := hS k hk
  have hlay := hts _ (fw_at c0 h7 _ (u_in_lay hk))
  unfold u_lay at hlay
  rw [if_neg (by rw [hfin]; decide)] at hlay
  have hst := (u_facts hfc hkC (u_lays hts (fw_at c0 h7) hk) hi).1
  have h6 := u_store hfc hkC hkind hlay hi (fp_at c0 h7 k hk) hn hfit
  have hlt : f.slot < cell.slots.size := by rw [hsl]; exact k2_hasslot (q4 k hk)
  rcases hl with hl | ⟨host, hl⟩
  · refine W.putK hx hb (f := f) ⟨hown, hts _ hl, ⟨_, _, _, hi⟩, hst⟩ (by rw [q2]; exact h6) q1 q3 hlt rfl rfl hdg fun H' e1 e2 e3 => ?_
    rw [hsl] at e1 ⊢
    exact kk H' _ (P H' e1 e2 e3)
  · refine va_WputK hx hb (f := f) hown (va_Nw.use rfl (hN _ hl)) hi hst (by rw [q2]; exact h6) q1 q3 hlt rfl rfl hdg fun H' e1 e2 e3 => ?_
    rw [hsl] at e1 ⊢
    exact kk H' _ (P H' e1 e2 e3)
theorem w_putF (C : CX K p m c cc nL s args own) (X : HX K s.heap H locs h) {pp idx c0 k : Nat} (hF : FLD own idx c0 k) (hfin : (FT c0 k).2.2.2 = true) (hin : meth.name = "<init>") (hdecl : (FT c0 k).1 = own) (hlk : Cond.fieldLink own idx (FT c0 k).1 (FT c0 k).2.1 (FT c0 k).2.2.1 ∈ TBg) {v : Value} (hn : narrow (FY c0 k) v = v) (hfit : fits (FY c0 k) v = true) (hdg : decode cc pc = .ok (.putfield idx, 3)) (hpp : pp < h.1) (hs : (SH pp).1 = c0)
    {h' : Hp} (hn1 : h'.1 = h.1) (hv : fv K.1 h' pp c0 k = v) (ho : ∀ j, j ≠ k → fv K.1 h' pp c0 j = fv K.1 h pp c0 j) (hq : ∀ q, q ≠ pp → cellE K h' q = cellE K h q)
    (kk : ∀ (H1 : Heap) (locs1 : List Loc), HX K s.heap H1 locs1 h' → W p l e R s m args below meth c H1 locs1 cells slots Q (F0 m (pc + 3) ls rest)) : W p l e R s m args below meth c H locs cells slots Q (F0 m pc ls (v :: .ref (K.1 + pp) :: rest)) := by
  obtain ⟨h7, hk, -⟩ := hF
  obtain ⟨cell, q1, q2, q3, q4⟩ := obj_at C X hpp hs h7
  have P := fun (H' : Heap) => put_at C X hpp hs h7 hk hn1 hv ho hq q1 q2 q3 q4 (H' := H')
  obtain ⟨hx, hb, -, hown, hts, hK, hN, -⟩ := C
  obtain ⟨hS, hfc, kC, hkC, hkind⟩ := hK.1 c0 _ (cls_at c0 h7)
  obtain ⟨cf, kf, fi, f, hi, hsl⟩ := hS k hk
  have hlay := hts _ (fw_at c0 h7 _ (u_in_lay hk))
  unfold u_lay at hlay
  rw [if_pos hfin] at hlay
  have hst := (u_facts hfc hkC (u_lays hts (fw_at c0 h7) hk) hi).1
  have hcf : m.cls = cf := by
    obtain ⟨_, _, c', _, _, _, -, -, hf', -, -, -, hown2, -⟩ := Cond.laysFinal_spec hlay
    have e1 : c' = cf := by have := hi.symm.trans hf'; simp at this; exact this.1.symm
    rw [hdecl] at hown2
    rw [← e1]; exact Option.some.inj (hown.symm.trans hown2)
  have h6 := u_fits hfc hkC hkind (Or.inr hlay) hi (fp_at c0 h7 k hk) hn hfit
  refine W.putFinK hx hb hown (hts _ hlk) hi hst hcf hin (by rw [q2]; exact h6) q1 q3 (by rw [hsl]; exact k2_hasslot (q4 k hk)) rfl rfl hdg fun H' e1 e2 e3 => ?_
  rw [hsl] at e1 ⊢
  exact kk H' _ (P H' e1 e2 e3)
theorem fv_pi {b0 : Nat} {h : Hp} {pp c0 k : Nat} {v : Int32} (hr : isRef c0 k = false) : fv b0 (h.1, upd2 h.2.1 pp k v, h.2.2) pp c0 k = .int v := by simp [fv, hr, upd2]
theorem fv_pin {b0 : Nat} {h : Hp} {pp c0 k j : Nat} {v : Int32} (hj : j ≠ k) : fv b0 (h.1, upd2 h.2.1 pp k v, h.2.2) pp c0 j = fv b0 h pp c0 j := by simp [fv, upd2, hj]
theorem ce_pi {h : Hp} {pp k q : Nat} {v : Int32} (hq : q ≠ pp) : cellE K (h.1, upd2 h.2.1 pp k v, h.2.2) q = cellE K h q := cell_ints (upd2_row _ _ hq) rfl
theorem fv_pr {b0 : Nat} {h : Hp} {pp c0 k : Nat} {v : Nat} (hr : isRef c0 k = true) : fv b0 (h.1, h.2.1, upd2 h.2.2 pp k (some v)) pp c0 k = .ref (b0 + v) := by simp [fv, hr, upd2, va_rf]
theorem fv_prn {b0 : Nat} {h : Hp} {pp c0 k j : Nat} {v : Option Nat} (hj : j ≠ k) : fv b0 (h.1, h.2.1, upd2 h.2.2 pp k v) pp c0 j = fv b0 h pp c0 j := by simp [fv, upd2, hj]
theorem ce_pr {h : Hp} {pp k q : Nat} {v : Option Nat} (hq : q ≠ pp) : cellE K (h.1, h.2.1, upd2 h.2.2 pp k v) q = cellE K h q := cell_ints rfl (upd2_row _ _ hq)
theorem w_pi (C : CX K p m c cc nL s args own) (X : HX K s.heap H locs h) {pp idx c0 k : Nat} {v : Int32} {f : Hp → Option ρ} (hF : FLD own idx c0 k) (hr : isRef c0 k = false) (hfin : (FT c0 k).2.2.2 = false) (hn : narrow (FY c0 k) (.int v) = .int v) (hfit : fits (FY c0 k) (.int v) = true) (hdg : decode cc pc = .ok (.putfield idx, 3)) (hp : pi h pp c0 k v f = some z)
    (kk : ∀ (H1 : Heap) (locs1 : List Loc) (h' : Hp), HX K s.heap H1 locs1 h' → f h' = some z → W p l e R s m args below meth c H1 locs1 cells slots Q (F0 m (pc + 3) ls rest)) : W p l e R s m args below meth c H locs cells slots Q (F0 m pc ls (.int v :: .ref (K.1 + pp) :: rest)) := by
  unfold pi at hp
  split at hp
  next hc => exact w_put (h' := (h.1, upd2 h.2.1 pp k v, h.2.2)) C X hF hfin hn hfit hdg hc.1 hc.2 rfl (fv_pi hr) (fun j hj => fv_pin hj) (fun q hq => ce_pi hq) (fun H1 locs1 X1 => kk H1 locs1 _ X1 hp)
  next => cases hp
theorem w_pif (C : CX K p m c cc nL s args own) (X : HX K s.heap H locs h) {pp idx c0 k : Nat} {v : Int32} {f : Hp → Option ρ} (hF : FLD own idx c0 k) (hr : isRef c0 k = false) (hfin : (FT c0 k).2.2.2 = true) (hin : meth.name = "<init>") (hdecl : (FT c0 k).1 = own) (hlk : Cond.fieldLink own idx (FT c0 k).1 (FT c0 k).2.1 (FT c0 k).2.2.1 ∈ TBg) (hn : narrow (FY c0 k) (.int v) = .int v) (hfit : fits (FY c0 k) (.int v) = true) (hdg : decode cc pc = .ok (.putfield idx, 3)) (hp : pi h pp c0 k v f = some z)
    (kk : ∀ (H1 : Heap) (locs1 : List Loc) (h' : Hp), HX K s.heap H1 locs1 h' → f h' = some z → W p l e R s m args below meth c H1 locs1 cells slots Q (F0 m (pc + 3) ls rest)) : W p l e R s m args below meth c H locs cells slots Q (F0 m pc ls (.int v :: .ref (K.1 + pp) :: rest)) := by
  unfold pi at hp
  split at hp
  next hc => exact w_putF (h' := (h.1, upd2 h.2.1 pp k v, h.2.2)) C X hF hfin hin hdecl hlk hn hfit hdg hc.1 hc.2 rfl (fv_pi hr) (fun j hj => fv_pin hj) (fun q hq => ce_pi hq) (fun H1 locs1 X1 => kk H1 locs1 _ X1 hp)
  next => cases hp
theorem w_prf (C : CX K p m c cc nL s args own) (X : HX K s.heap H locs h) {pp idx c0 k : Nat} {v : Nat} {f : Hp → Option ρ} (hF : FLD own idx c0 k) (hr : isRef c0 k = true) (hfin : (FT c0 k).2.2.2 = true) (hin : meth.name = "<init>") (hdecl : (FT c0 k).1 = own) (hlk : Cond.fieldLink own idx (FT c0 k).1 (FT c0 k).2.1 (FT c0 k).2.2.1 ∈ TBg) (hn : ∀ a, narrow (FY c0 k) (.ref a) = .ref a) (hfit : ∀ a, fits (FY c0 k) (.ref a) = true) (hdg : decode cc pc = .ok (.putfield idx, 3)) (hp : pr h pp c0 k v f = some z)
    (kk : ∀ (H1 : Heap) (locs1 : List Loc) (h' : Hp), HX K s.heap H1 locs1 h' → f h' = some z → W p l e R s m args below meth c H1 locs1 cells slots Q (F0 m (pc + 3) ls rest)) : W p l e R s m args below meth c H locs cells slots Q (F0 m pc ls (.ref (K.1 + v) :: .ref (K.1 + pp) :: rest)) := by
  unfold pr at hp
  split at hp
  next hc => exact w_putF (h' := (h.1, h.2.1, upd2 h.2.2 pp k (some v))) C X hF hfin hin hdecl hlk (hn _) (hfit _) hdg hc.1 hc.2 rfl (fv_pr hr) (fun j hj => fv_prn hj) (fun q hq => ce_pr hq) (fun H1 locs1 X1 => kk H1 locs1 _ X1 hp)
  next => cases hp
theorem vin_of {i : Int32} {n : Nat} (h1 : ¬ i < 0) (h2 : i.toNatClampNeg < n) : vp_in i n := fun q => q.elim h1 (fun q => absurd h2 (Nat.not_lt.mpr q))
theorem w_al (C : CX K p m c cc nL s args own) (X : HX K s.heap H locs h) {pp : Nat} {i : Int32} {f : Int32 → Option ρ} (hdg : decode cc pc = .ok (.iaload, 1)) (hp : al h pp i f = some z)
    (kk : ∀ v, f v = some z → W p l e R s m args below meth c H locs cells slots Q (F0 m (pc + 1) ls (.int v :: rest))) : W p l e R s m args below meth c H locs cells slots Q (F0 m pc ls (.int i :: .ref (K.1 + pp) :: rest)) := by
  obtain ⟨hx, hb, -, hown, hts, hK, hN, -⟩ := C
  unfold al at hp
  split at hp
  next hc => exact va_iald hx hb hK X.1 pp 0 (by rw [wsH_at K hc.1, cell_int hc.2.1]) rfl (vin_of hc.2.2.1 hc.2.2.2) hdg (kk _ hp)
  next => cases hp
theorem w_ln (C : CX K p m c cc nL s args own) (X : HX K s.heap H locs h) {pp : Nat} {f : Int32 → Option ρ} (hdg : decode cc pc = .ok (.arraylength, 1)) (hp : ln h pp f = some z)
    (kk : ∀ v, f v = some z → W p l e R s m args below meth c H locs cells slots Q (F0 m (pc + 1) ls (.int v :: rest))) : W p l e R s m args below meth c H locs cells slots Q (F0 m pc ls (.ref (K.1 + pp) :: rest)) := by
  obtain ⟨hx, hb, -, hown, hts, hK, hN, -⟩ := C
  unfold ln at hp
  split at hp
  next hc =>
    rcases hc.2 with h7 | h8
    · exact va_alen hx hb hK X.1 pp 0 (by rw [wsH_at K hc.1, cell_int h7]) rfl rfl hdg (kk _ hp)
    · exact va_alen hx hb hK X.1 pp 1 (by rw [wsH_at K hc.1, cell_ref h8]) rfl rfl hdg (kk _ hp)
  next => cases hp
theorem w_rl (C : CX K p m c cc nL s args own) (X : HX K s.heap H locs h) {pp : Nat} {i : Int32} {f : Option Nat → Option ρ} (hdg : decode cc pc = .ok (.aaload, 1)) (hp : rl h pp i f = some z)
    (kk : ∀ v, f v = some z → W p l e R s m args below meth c H locs cells slots Q (F0 m (pc + 1) ls (va_rf (v.map (fun q => K.1 + q)) :: rest))) : W p l e R s m args below meth c H locs cells slots Q (F0 m pc ls (.int i :: .ref (K.1 + pp) :: rest)) := by
  obtain ⟨hx, hb, -, hown, hts, hK, hN, -⟩ := C
  unfold rl at hp
  split at hp
  next hc => exact va_aldq hx hb hK X.1 pp 1 (by rw [wsH_at K hc.1, cell_ref hc.2.1]) rfl (vin_of hc.2.2.1 hc.2.2.2) hdg (kk _ hp)
  next => cases hp
theorem w_as (C : CX K p m c cc nL s args own) (X : HX K s.heap H locs h) {pp : Nat} {i v : Int32} {f : Hp → Option ρ} (hdg : decode cc pc = .ok (.iastore, 1)) (hp : as h pp i v f = some z)
    (kk : ∀ (H1 : Heap) (locs1 : List Loc) (h' : Hp), HX K s.heap H1 locs1 h' → f h' = some z → W p l e R s m args below meth c H1 locs1 cells slots Q (F0 m (pc + 1) ls rest)) : W p l e R s m args below meth c H locs cells slots Q (F0 m pc ls (.int v :: .int i :: .ref (K.1 + pp) :: rest)) := by
  obtain ⟨hx, hb, -, hown, hts, hK, hN, -⟩ := C
  unfold as at hp
  split at hp
  next hc =>
    have he : (wsH K h)[pp]? = some (K.1 + pp, .inl (K.2.2.1, (SH pp).2, .inl (h.2.1 pp))) := by rw [wsH_at K hc.1, cell_int hc.2.1]
    refine W.iast hx hb (X.1 pp _ he) ((hK.2 0 _ rfl).1 (SH pp).2 (fun j => .int (h.2.1 pp j))) (fun q => by cases q) (by show ¬ (i < 0 ∨ (arrV _ _ _).slots.size ≤ _); rw [arrV_size]; exact vin_of hc.2.2.1 hc.2.2.2) rfl rfl hdg fun H1 e1 e2 e3 => ?_
    refine kk H1 _ _ (hx_set (h' := (h.1, upd2 h.2.1 pp i.toNatClampNeg v, h.2.2)) X hc.1 rfl (cell_int hc.2.1) (fun q hq => ce_pi hq) ?_ e2 e3) hp
    show H1[K.1 + pp]? = some (vp_cell _ _)
    rw [e1, vp_cell_i, vp_cell_i, arrV_store]
    congr 2
    funext q
    by_cases hq : q = i.toNatClampNeg
    · subst hq
      simp [updV, upd2]
    · simp [updV, upd2, hq]
  next => cases hp
theorem w_rs (C : CX K p m c cc nL s args own) (X : HX K s.heap H locs h) {pp : Nat} {i : Int32} {v : Option Nat} {f : Hp → Option ρ} (hdg : decode cc pc = .ok (.aastore, 1)) (hp : rs h pp i v f = some z)
    (kk : ∀ (H1 : Heap) (locs1 : List Loc) (h' : Hp), HX K s.heap H1 locs1 h' → f h' = some z → W p l e R s m args below meth c H1 locs1 cells slots Q (F0 m (pc + 1) ls rest)) : W p l e R s m args below meth c H locs cells slots Q (F0 m pc ls (va_rf (v.map (fun q => K.1 + q)) :: .int i :: .ref (K.1 + pp) :: rest)) := by
  obtain ⟨hx, hb, -, hown, hts, hK, hN, -⟩ := C
  unfold rs at hp
  split at hp
  next hc =>
    obtain ⟨c1, c2, ⟨c3, c4⟩, c5⟩ := hc
    have he : (wsH K h)[pp]? = some (K.1 + pp, .inl (K.2.2.2.1, (SH pp).2, .inr (.inr (.inr (.inr (fun j => (h.2.2 pp j).map (fun q => K.1 + q))))))) := by rw [wsH_at K c1, cell_ref c2]
    have fin : ∀ (H1 : Heap), H1[K.1 + pp]? = some ((vp_cell K.2.2.2.1 ((SH pp).2, .inr (.inr (.inr (.inr (fun j => (h.2.2 pp j).map (fun q => K.1 + q))))))).setSlot i.toNatClampNeg (va_rf (v.map (fun q => K.1 + q)))) → va_at K.2.1 cls (K.1 + pp, .inl (K.2.2.2.1, (SH pp).2, .inr (.inr (.inr (.inr (fun j => ((upd2 h.2.2 pp i.toNatClampNeg v) pp j).map (fun q => K.1 + q))))))) H1 := by
      intro H1 e1
      show H1[K.1 + pp]? = some (vp_cell _ _)
      rw [e1, vp_cell_q, vp_cell_q, arrV_store]
      congr 2
      funext q
      by_cases hq : q = i.toNatClampNeg
      · subst hq
        simp [updV, upd2]
      · simp [updV, upd2, hq]
    cases v with
    | none =>
      refine va_WaastN (C := "TurnsMultiples$Goer") hx hb (X.1 pp _ he) ((hK.2 1 _ rfl).1 (SH pp).2 _) (fun h => by cases h) (by show ¬ (i < 0 ∨ (arrV _ _ _).slots.size ≤ _); rw [arrV_size]; exact vin_of c3 c4) rfl rfl hdg fun H1 e1 e2 e3 => ?_
      exact kk H1 _ _ (hx_set (h' := (h.1, h.2.1, upd2 h.2.2 pp i.toNatClampNeg none)) X c1 rfl (cell_ref c2) (fun q hq => ce_pr hq) (fin H1 e1) e2 e3) hp
    | some q =>
      obtain ⟨cq1, cq2⟩ := c5 q rfl
      have hv : (wsH K h)[q]? = some (K.1 + q, .inr (2, (List.range (FN 2)).map (fv K.1 h q 2))) := by rw [wsH_at K cq1, cell_obj cq2 (by decide)]
      obtain ⟨r', hr', cellV, g1, g2, g3, -⟩ := X.1 q _ hv
      have hcls := (hK.1 2 _ (cls_at 2 (by decide))).2
      obtain ⟨kA, comp, k1, k2, k3, -⟩ := (hK.2 1 _ rfl).2
      have hcomp : comp = K.2.1.1 2 := Option.some.inj (k3.symm.trans hcls.1)
      subst hcomp
      obtain ⟨kC, hkC, -⟩ := hcls.2
      refine W.aast hx hb (X.1 pp _ he) (fun q h => by cases h) (fun h => by cases h) k1 k2 rfl hkC ⟨c3, by show _ < (arrV _ _ _).slots.size; rw [arrV_size]; exact c4⟩ g1 (fun q h => by rw [g3] at h; cases h) (by rw [g2]; exact hkC) (by rw [g2]; exact va_assign hcls) rfl rfl hdg fun H1 e1 e2 e3 => ?_
      exact kk H1 _ _ (hx_set (h' := (h.1, h.2.1, upd2 h.2.2 pp i.toNatClampNeg (some q))) X c1 rfl (cell_ref c2) (fun q hq => ce_pr hq) (fin H1 e1) e2 e3) hp
  next => cases hp
end ROWS
end
section
theorem wi_warm {K : Kt} {h : Hp} {s U : State} {H : Heap} (hW : s.WarmedH U.vm) (q : WI K h s H) : WI K h U H :=
  ⟨q.1, q.2.1, va_K.moved hW.alike q.2.2.1, nw_moved hW q.2.2.2.1, va_AO.moved hW.alike q.2.2.2.2.1, va_Z.moved hW.alike q.2.2.2.2.2.1, va_T.moved hW.alike q.2.2.2.2.2.2⟩
theorem wi_of {K : Kt} {p : Program} {m : MethodId} {c : Code} {cc : ByteArray} {nL : Nat} {s : State} {args : Array Value} {own : String} {H : Heap} {locs : List Loc} {h : Hp} (C : CX K p m c cc nL s args own) (X : HX K s.heap H locs h) : WI K h s H :=
  ⟨X.1, X.2.1, C.2.2.2.2.2.1, C.2.2.2.2.2.2.1, C.2.2.2.2.2.2.2.1, C.2.2.2.2.2.2.2.2.1.1.kept X.2.2.2.1, C.2.2.2.2.2.2.2.2.1.2.kept X.2.2.2.1⟩
theorem pre_blind {K : Kt} {av : List Value} {h : Hp} : FrameBlind (Pre K av h) := by
  intro a U g mk q
  obtain ⟨q0, q1, q2, q3, q4, q5, q6, q7⟩ := q
  exact ⟨q0, q1, q2, va_K.moved (u := U) (U := U.calling g mk a) (Vm.Alike.refl U.vm) q3, nw_same (u := U) (U := U.calling g mk a) rfl q4, va_AO.moved (u := U) (U := U.calling g mk a) (Vm.Alike.refl U.vm) q5, va_Z.moved (u := U) (U := U.calling g mk a) (Vm.Alike.refl U.vm) q6, va_T.moved (u := U) (U := U.calling g mk a) (Vm.Alike.refl U.vm) q7⟩
theorem dv_at : ∀ c0, c0 < 7 → ∀ j, j < FN c0 → defaultValue (FY c0 j) = if isRef c0 j then Value.null else .int 0 := by decide +kernel
theorem rc_some {ρ : Type} {h : Hp} {p c : Nat} {r : Option ρ} {z : ρ} (hp : rc h p c r = some z) : (p < h.1 ∧ (SH p).1 = c) ∧ r = some z := by
  unfold rc at hp
  split at hp
  next hc => exact ⟨hc, hp⟩
  next => cases hp
theorem nz_some {ρ : Type} {y : Int32} {r : Option ρ} {z : ρ} (hp : nz y r = some z) : ¬ y = 0 ∧ r = some z := by
  unfold nz at hp
  split at hp
  next => cases hp
  next hc => exact ⟨hc, hp⟩
theorem bz_some {ρ : Type} {y : Int32} {r : Option ρ} {z : ρ} (hp : bz y r = some z) : narrow .boolean (.int y) = .int y ∧ r = some z := by
  unfold bz at hp
  split at hp
  next hc => exact ⟨hc, hp⟩
  next => cases hp
section ROWS2
variable {p : Program} {l : Launch} {e : Env} {R : Room} {s : State} {m : MethodId} {args : Array Value} {below : List Frame} {meth : Method} {c : Code} {H : Heap} {locs : List Loc} {cells slots : Nat} {Q : State → Prop}
variable {cc : ByteArray} {pc : Nat} {ls : Array Slot} {rest st : List Value} {K : Kt} {h : Hp} {nL : Nat} {own : String} {ρ : Type} {z : ρ}
variable {y : MethodName} {b' : ByteArray} {maxL n idx pp c0 : Nat} {ret : Option FieldType} {rm : Room} {As : List Value} {Qf : Array Value → State → Outcome → State → Prop}
theorem recv_at (C : CX K p m c cc nL s args own) (X : HX K s.heap H locs h) (h7 : c0 < 7) (hc : FC c0 = y.cls) (hr : pp < h.1 ∧ (SH pp).1 = c0) : ∃ cellB : Cell, H[K.1 + pp]? = some cellB ∧ cellB.vm.isStatics = false ∧ s.vm.findClass y.cls = some cellB.cls := by
  rw [← hc]
  exact va_recv C.2.2.2.2.2.1 X.1 (cls_at c0 h7) (q0 := pp) (by rw [wsH_at K hr.1, cell_obj hr.2 h7])
theorem run_V (C : CX K p m c cc nL s args own) (X : HX K s.heap H locs h) (hM : MTH y b' maxL ret n) (hI : MTI y) (hL : LNK own idx y) (h7 : c0 < 7) (hc : FC c0 = y.cls) (hr : pp < h.1 ∧ (SH pp).1 = c0) (hct : CT l K y b' maxL ret rm (.ref (K.1 + pp) :: As) h Qf) (hR : rm.frames + 1 ≤ R.frames ∧ 8 + (maxL + 11) + rm.locals ≤ R.locals) (hf : cells + rm.cells ≤ R.cells ∧ slots + rm.slots ≤ R.slots) (hst : st = As.reverse ++ .ref (K.1 + pp) :: rest) (hsum : (rest.map fun v => v.category).sum ≤ 8) (hn : As.length = n) (hsz : ls.size = nL) (hdg : decode cc pc = .ok (.invokevirtual idx, 3)) :
    va_Run p l e R s m args below meth c H locs cells slots rm.cells rm.slots (F0 m pc ls st) rest (Qf (Value.ref (K.1 + pp) :: As).toArray) (KA K) := by
  have hW := wi_of C X
  have hB := recv_at C X h7 hc hr
  obtain ⟨hx, hb, hml, hown, hts, -⟩ := C
  refine va_runV (As := As) (rest := rest) ⟨hx, hb, hml, hown, hts⟩ hct ⟨callB_of n hts (gl_words hM.1) rfl rfl rfl (hts _ hM.2.1) (hts _ hL) hM.2.2 hR, hts _ hI.1, hts _ hI.2⟩ ⟨pre_blind, hB, fun U hU hWU => ⟨rfl, show WI K h U U.heap by rw [hU]; exact wi_warm hWU hW⟩⟩ rfl hn hsz hst (lv_room hsum) hdg hf
theorem run_VN {host : String} (C : CX K p m c cc nL s args own) (X : HX K s.heap H locs h) (hM : MTH y b' maxL ret n) (hI : MTI y) (hL : LNN own idx y host) (h7 : c0 < 7) (hc : FC c0 = y.cls) (hr : pp < h.1 ∧ (SH pp).1 = c0) (hct : CT l K y b' maxL ret rm (.ref (K.1 + pp) :: As) h Qf) (hR : rm.frames + 1 ≤ R.frames ∧ 8 + (maxL + 11) + rm.locals ≤ R.locals) (hf : cells + rm.cells ≤ R.cells ∧ slots + rm.slots ≤ R.slots) (hst : st = As.reverse ++ .ref (K.1 + pp) :: rest) (hsum : (rest.map fun v => v.category).sum ≤ 8) (hn : As.length = n) (hsz : ls.size = nL) (hdg : decode cc pc = .ok (.invokevirtual idx, 3)) :
    va_Run p l e R s m args below meth c H locs cells slots rm.cells rm.slots (F0 m pc ls st) rest (Qf (Value.ref (K.1 + pp) :: As).toArray) (KA K) := by
  have hW := wi_of C X
  have hB := recv_at C X h7 hc hr
  obtain ⟨hx, hb, hml, hown, hts, -, hN, -⟩ := C
  refine va_runVN (As := As) (rest := rest) ⟨hx, hb, hml, hown, hts⟩ hct ⟨va_cnB n hts (gl_words hM.1) rfl rfl rfl (hN _ hL) (hts _ hM.2.1) hM.2.2 hR, hts _ hI.1, hts _ hI.2⟩ ⟨pre_blind, hB, fun U hU hWU => ⟨rfl, show WI K h U U.heap by rw [hU]; exact wi_warm hWU hW⟩⟩ rfl hn hsz hst (lv_room hsum) hdg hf
theorem run_S (C : CX K p m c cc nL s args own) (X : HX K s.heap H locs h) (hM : MTH y b' maxL ret n) (hI : MTS y) (hL : LNK own idx y) (hct : CT l K y b' maxL ret rm As h Qf) (hR : rm.frames + 1 ≤ R.frames ∧ 8 + (maxL + 11) + rm.locals ≤ R.locals) (hf : cells + rm.cells ≤ R.cells ∧ slots + rm.slots ≤ R.slots) (hst : st = As.reverse ++ rest) (hsum : (rest.map fun v => v.category).sum ≤ 8) (hn : As.length = n) (hsz : ls.size = nL) (hdg : decode cc pc = .ok (.invokestatic idx, 3)) :
    va_Run p l e R s m args below meth c H locs cells slots rm.cells rm.slots (F0 m pc ls st) rest (Qf As.toArray) (KA K) := by
  have hW := wi_of C X
  obtain ⟨hx, hb, hml, hown, hts, -⟩ := C
  refine va_runS (As := As) (rest := rest) ⟨hx, hb, hml, hown, hts⟩ hct ⟨callB_of n hts (gl_words hM.1) rfl rfl rfl (hts _ hM.2.1) (hts _ hL) hM.2.2 hR, hts _ hI⟩ ⟨pre_blind, fun U hU hWU => ⟨rfl, show WI K h U U.heap by rw [hU]; exact wi_warm hWU hW⟩⟩ rfl hn hsz hst (lv_room hsum) hdg hf
theorem run_SN {host : String} (C : CX K p m c cc nL s args own) (X : HX K s.heap H locs h) (hM : MTH y b' maxL ret n) (hI : MTS y) (hL : LNN own idx y host) (hct : CT l K y b' maxL ret rm As h Qf) (hR : rm.frames + 1 ≤ R.frames ∧ 8 + (maxL + 11) + rm.locals ≤ R.locals) (hf : cells + rm.cells ≤ R.cells ∧ slots + rm.slots ≤ R.slots) (hst : st = As.reverse ++ rest) (hsum : (rest.map fun v => v.category).sum ≤ 8) (hn : As.length = n) (hsz : ls.size = nL) (hdg : decode cc pc = .ok (.invokestatic idx, 3)) :
    va_Run p l e R s m args below meth c H locs cells slots rm.cells rm.slots (F0 m pc ls st) rest (Qf As.toArray) (KA K) := by
  have hW := wi_of C X
  obtain ⟨hx, hb, hml, hown, hts, -, hN, -⟩ := C
  refine va_runSN (As := As) (rest := rest) ⟨hx, hb, hml, hown, hts⟩ hct ⟨va_cnB n hts (gl_words hM.1) rfl rfl rfl (hN _ hL) (hts _ hM.2.1) hM.2.2 hR, hts _ hI, trivial⟩ ⟨pre_blind, fun U hU hWU => ⟨rfl, show WI K h U U.heap by rw [hU]; exact wi_warm hWU hW⟩⟩ rfl hn hsz hst (lv_room hsum) hdg hf
theorem run_I (C : CX K p m c cc nL s args own) (X : HX K s.heap H locs h) (hM : MTH y b' maxL none n) (hy : y.name = "<init>") (hI : Cond.instanceMethod y ∈ TBg) (hL : LNK own idx y) (hct : CT l K y b' maxL none rm (.ref (K.1 + pp) :: As) h Qf) (hR : rm.frames + 1 ≤ R.frames ∧ 8 + (maxL + 11) + rm.locals ≤ R.locals) (hf : cells + rm.cells ≤ R.cells ∧ slots + rm.slots ≤ R.slots) (hst : st = As.reverse ++ .ref (K.1 + pp) :: rest) (hsum : (rest.map fun v => v.category).sum ≤ 8) (hn : As.length = n) (hsz : ls.size = nL) (hdg : decode cc pc = .ok (.invokespecial idx, 3)) :
    va_Run p l e R s m args below meth c H locs cells slots rm.cells rm.slots (F0 m pc ls st) rest (Qf (Value.ref (K.1 + pp) :: As).toArray) (KA K) := by
  have hW := wi_of C X
  obtain ⟨hx, hb, hml, hown, hts, -⟩ := C
  refine va_runI (As := As) (rest := rest) ⟨hx, hb, hml, hown, hts⟩ hct ⟨callB_of n hts (gl_words hM.1) rfl rfl rfl (hts _ hM.2.1) (hts _ hL) hM.2.2 hR, hy, hts _ hI⟩ ⟨pre_blind, fun U hU hWU => ⟨rfl, show WI K h U U.heap by rw [hU]; exact wi_warm hWU hW⟩⟩ rfl hn hsz hst (lv_room hsum) hdg hf
theorem run_IN {host : String} (C : CX K p m c cc nL s args own) (X : HX K s.heap H locs h) (hM : MTH y b' maxL none n) (hy : y.name = "<init>") (hI : Cond.instanceMethod y ∈ TBg) (hL : LNN own idx y host) (hct : CT l K y b' maxL none rm (.ref (K.1 + pp) :: As) h Qf) (hR : rm.frames + 1 ≤ R.frames ∧ 8 + (maxL + 11) + rm.locals ≤ R.locals) (hf : cells + rm.cells ≤ R.cells ∧ slots + rm.slots ≤ R.slots) (hst : st = As.reverse ++ .ref (K.1 + pp) :: rest) (hsum : (rest.map fun v => v.category).sum ≤ 8) (hn : As.length = n) (hsz : ls.size = nL) (hdg : decode cc pc = .ok (.invokespecial idx, 3)) :
    va_Run p l e R s m args below meth c H locs cells slots rm.cells rm.slots (F0 m pc ls st) rest (Qf (Value.ref (K.1 + pp) :: As).toArray) (KA K) := by
  have hW := wi_of C X
  obtain ⟨hx, hb, hml, hown, hts, -, hN, -⟩ := C
  refine va_runIN (As := As) (rest := rest) ⟨hx, hb, hml, hown, hts⟩ hct ⟨va_cnB n hts (gl_words hM.1) rfl rfl rfl (hN _ hL) (hts _ hM.2.1) hM.2.2 hR, hy, hts _ hI⟩ ⟨pre_blind, fun U hU hWU => ⟨rfl, show WI K h U U.heap by rw [hU]; exact wi_warm hWU hW⟩⟩ rfl hn hsz hst (lv_room hsum) hdg hf
variable {st0 : List Value} {mc ms cells' slots' : Nat} {a : Array Value}
theorem w_ci (X : HX K s.heap H locs h) {P : Option (Int32 × Hp)} {f : Int32 → Hp → Option ρ} (hrun : ∀ r h', P = some (r, h') → va_Run p l e R s m args below meth c H locs cells slots mc ms (F0 m pc ls st0) rest (Qi K r h' a) (KA K)) (hcs : cells + mc = cells' ∧ slots + ms = slots') (hp : ci P f = some z)
    (kk : ∀ (r : Int32) (h' : Hp) (H1 : Heap) (locs1 : List Loc), HX K s.heap H1 locs1 h' → f r h' = some z → W p l e R s m args below meth c H1 locs1 cells' slots' Q (F0 m (pc + 3) ls (.int r :: rest))) : W p l e R s m args below meth c H locs cells slots Q (F0 m pc ls st0) := by
  obtain ⟨rfl, rfl⟩ := hcs
  cases P with
  | none => cases hp
  | some z1 =>
    refine va_calli (hrun z1.1 z1.2 rfl) X.2.2 (fun _ _ q => q) (fun _ q => q) (fun r u t H1 locs1 ht hvm hr hB _ _ hS => ?_)
    subst hr; subst ht
    exact kk _ _ _ _ ⟨hB.1, hB.2, hS⟩ hp
theorem w_cv (X : HX K s.heap H locs h) {P : Option Hp} {f : Hp → Option ρ} (hrun : ∀ h', P = some h' → va_Run p l e R s m args below meth c H locs cells slots mc ms (F0 m pc ls st0) rest (Qv K h' a) (KA K)) (hcs : cells + mc = cells' ∧ slots + ms = slots') (hp : cv P f = some z)
    (kk : ∀ (h' : Hp) (H1 : Heap) (locs1 : List Loc), HX K s.heap H1 locs1 h' → f h' = some z → W p l e R s m args below meth c H1 locs1 cells' slots' Q (F0 m (pc + 3) ls rest)) : W p l e R s m args below meth c H locs cells slots Q (F0 m pc ls st0) := by
  obtain ⟨rfl, rfl⟩ := hcs
  cases P with
  | none => cases hp
  | some z1 =>
    refine va_callv (hrun z1 rfl) X.2.2 (fun _ _ q => q) (fun _ q => q) (fun u t H1 locs1 ht hvm hr hB _ _ hS => ?_)
    subst ht
    exact kk _ _ _ ⟨hB.1, hB.2, hS⟩ hp
theorem w_cq (X : HX K s.heap H locs h) {P : Option (Option Nat × Hp)} {f : Option Nat → Hp → Option ρ} (hrun : ∀ r h', P = some (r, h') → va_Run p l e R s m args below meth c H locs cells slots mc ms (F0 m pc ls st0) rest (Qq K r h' a) (KA K)) (hcs : cells + mc = cells' ∧ slots + ms = slots') (hp : ci P f = some z)
    (kk : ∀ (r : Option Nat) (h' : Hp) (H1 : Heap) (locs1 : List Loc), HX K s.heap H1 locs1 h' → f r h' = some z → W p l e R s m args below meth c H1 locs1 cells' slots' Q (F0 m (pc + 3) ls (va_rf (r.map (fun q => K.1 + q)) :: rest))) : W p l e R s m args below meth c H locs cells slots Q (F0 m pc ls st0) := by
  obtain ⟨rfl, rfl⟩ := hcs
  cases P with
  | none => cases hp
  | some z1 =>
    refine va_callq (hrun z1.1 z1.2 rfl) X.2.2 (fun _ _ q => q) (fun _ q => q) (fun r u t H1 locs1 ht hvm hr hB _ _ hS => ?_)
    subst hr; subst ht
    exact kk _ _ _ _ ⟨hB.1, hB.2, hS⟩ hp
-- ===== ends =====
theorem w_reti (C : CX K p m c cc nL s args own) (X : HX K s.heap H locs h) {v r : Int32} {h' : Hp} (hr : meth.sig.returnType = some .int) (hlocks : meth.locks = false) (hcs : cells ≤ mc ∧ slots ≤ ms) (hdg : decode cc pc = .ok (.ireturn, 1)) (hp : some (v, h) = some (r, h')) : W p l e R s m args below meth c H locs cells slots (MQ below (Qi K r h') args s mc ms (KA K)) (F0 m pc ls [.int v]) := by
  cases hp
  obtain ⟨hx, hb, -⟩ := C
  refine W.widen hcs.1 hcs.2 ?_
  exact W.iret hx hb hr (fun t ht hW => ⟨⟨v, (), rfl, rfl, by rw [ht]; exact X.1, by rw [ht]; exact X.2.1⟩, X.2.2.F ht⟩) X.2.2.2.2 hdg hlocks
theorem w_retz (C : CX K p m c cc nL s args own) (X : HX K s.heap H locs h) {v r : Int32} {h' : Hp} (hr : meth.sig.returnType = some .boolean) (hlocks : meth.locks = false) (hcs : cells ≤ mc ∧ slots ≤ ms) (hn : narrow .boolean (.int v) = .int v) (hdg : decode cc pc = .ok (.ireturn, 1)) (hp : some (v, h) = some (r, h')) : W p l e R s m args below meth c H locs cells slots (MQ below (Qi K r h') args s mc ms (KA K)) (F0 m pc ls [.int v]) := by
  cases hp
  obtain ⟨hx, hb, -⟩ := C
  refine W.widen hcs.1 hcs.2 ?_
  exact W.zret hx hb hr hn (fun t ht hW => ⟨⟨v, (), rfl, rfl, by rw [ht]; exact X.1, by rw [ht]; exact X.2.1⟩, X.2.2.F ht⟩) X.2.2.2.2 hdg hlocks
theorem w_retv (C : CX K p m c cc nL s args own) (X : HX K s.heap H locs h) {h' : Hp} (hr : meth.sig.returnType = none) (hlocks : meth.locks = false) (hcs : cells ≤ mc ∧ slots ≤ ms) (hdg : decode cc pc = .ok (.return_, 1)) (hp : some h = some h') : W p l e R s m args below meth c H locs cells slots (MQ below (Qv K h') args s mc ms (KA K)) (F0 m pc ls []) := by
  cases hp
  obtain ⟨hx, hb, -⟩ := C
  refine W.widen hcs.1 hcs.2 ?_
  exact W.vret hx hb hr (fun t ht hW => ⟨⟨(), rfl, trivial, by rw [ht]; exact X.1, by rw [ht]; exact X.2.1⟩, X.2.2.F ht⟩) X.2.2.2.2 hdg hlocks
theorem w_retq (C : CX K p m c cc nL s args own) (X : HX K s.heap H locs h) {v r : Option Nat} {h' : Hp} {N : String} (hr : meth.sig.returnType = some (.object N)) (hlocks : meth.locks = false) (hcs : cells ≤ mc ∧ slots ≤ ms) (hdg : decode cc pc = .ok (.areturn, 1)) (hp : some (v, h) = some (r, h')) : W p l e R s m args below meth c H locs cells slots (MQ below (Qq K r h') args s mc ms (KA K)) (F0 m pc ls [va_rf (v.map (fun q => K.1 + q))]) := by
  cases hp
  obtain ⟨hx, hb, -⟩ := C
  refine W.widen hcs.1 hcs.2 ?_
  exact W.aret hx hb hr (Or.inl ⟨_, rfl⟩) (by cases v with
    | none => exact Or.inl rfl
    | some q => exact Or.inr ⟨_, rfl⟩) (fun t ht hW => ⟨⟨_, (), rfl, rfl, by rw [ht]; exact X.1, by rw [ht]; exact X.2.1⟩, X.2.2.F ht⟩) X.2.2.2.2 hdg hlocks
-- ===== makings =====
theorem w_nw (C : CX K p m c cc nL s args own) (X : HX K s.heap H locs h) {f : Nat → Hp → Option ρ} (hN : NWC own idx c0) (hcells : cells + 1 ≤ R.cells ∧ slots + FN c0 ≤ R.slots) (hcs : cells + 1 = cells' ∧ slots + FN c0 = slots') (hdg : decode cc pc = .ok (.new idx, 3)) (hp : nw h c0 f = some z)
    (kk : ∀ (q : Nat) (h' : Hp) (H1 : Heap) (locs1 : List Loc), HX K s.heap H1 locs1 h' → f q h' = some z → W p l e R s m args below meth c H1 locs1 cells' slots' Q (F0 m (pc + 3) ls (.ref (K.1 + q) :: rest))) : W p l e R s m args below meth c H locs cells slots Q (F0 m pc ls rest) := by
  obtain ⟨rfl, rfl⟩ := hcs
  unfold nw at hp
  split at hp
  next hs =>
    obtain ⟨h7, n1, n2, n3⟩ := hN
    obtain ⟨hx, hb, -, hown, hts, hK, -⟩ := C
    have hKn := hK.1 c0 _ (cls_at c0 h7)
    refine W.newcK hx hb hown (hts _ n1) (hts _ n2) (hts _ n3) rfl hdg hcells.1 hcells.2 hKn.2.1 rfl fun H1 kC hkC e1 e2 e3 => ?_
    rw [X.2.1]
    rw [X.2.1] at e1
    refine kk _ _ H1 locs (hx_push (h' := (h.1 + 1, (fun q j => if q = h.1 then 0 else h.2.1 q j), (fun q j => if q = h.1 then none else h.2.2 q j))) X rfl (cell_obj hs h7) (fun q hq => cell_ints (by funext j; simp [Nat.ne_of_lt hq]) (by funext j; simp [Nat.ne_of_lt hq])) ?_ (by rw [X.2.1] at e2 ⊢; exact e2) e3) hp
    refine ⟨_, cls_at c0 h7, (u_born (FY c0) hts (fw_at c0 h7) hKn hkC e1 (fp_at c0 h7)).to fun j hj => ?_⟩
    rw [vpV_map hj, dv_at c0 h7 j hj]
    cases hr : isRef c0 j <;> simp [fv, hr, va_rf]
  next => cases hp
theorem w_na (C : CX K p m c cc nL s args own) (X : HX K s.heap H locs h) {k : Int32} {f : Nat → Hp → Option ρ} {N : Nat} (hN : k.toNatClampNeg = N) (hbig : N * 4 ≤ 536870912) (hcells : cells + 1 ≤ R.cells ∧ slots + N ≤ R.slots) (hcs : cells + 1 = cells' ∧ slots + N = slots') (hdg : decode cc pc = .ok (.newarray .int, 2)) (hp : na h k f = some z)
    (kk : ∀ (q : Nat) (h' : Hp) (H1 : Heap) (locs1 : List Loc), HX K s.heap H1 locs1 h' → f q h' = some z → W p l e R s m args below meth c H1 locs1 cells' slots' Q (F0 m (pc + 2) ls (.ref (K.1 + q) :: rest))) : W p l e R s m args below meth c H locs cells slots Q (F0 m pc ls (.int k :: rest)) := by
  obtain ⟨rfl, rfl⟩ := hcs
  subst hN
  unfold na at hp
  split at hp
  next hs =>
    obtain ⟨hs1, hs2, hs3⟩ := hs
    obtain ⟨hx, hb, -, hown, hts, hK, -⟩ := C
    refine va_newaK (atype := .int) hx hb (hts _ w_ai) rfl hdg rfl hs2 rfl hbig hcells.1 hcells.2 rfl fun H1 cA e1 e2 e3 hAr hNm => ?_
    have hcA : cA = K.2.2.1 := Option.some.inj (hNm.symm.trans (hK.2 0 _ rfl).2)
    subst hcA
    rw [X.2.1]
    rw [X.2.1] at e1
    refine kk _ _ H1 locs (hx_push (h' := (h.1 + 1, (fun q j => if q = h.1 then 0 else h.2.1 q j), (fun q j => if q = h.1 then none else h.2.2 q j))) X rfl (cell_int hs1) (fun q hq => cell_ints (by funext j; simp [Nat.ne_of_lt hq]) (by funext j; simp [Nat.ne_of_lt hq])) ?_ (by rw [X.2.1] at e2 ⊢; exact e2) e3) hp
    show H1[K.1 + h.1]? = some (vp_cell _ _)
    rw [e1, vp_cell_i, hs3]
    simp [defaultValue, newarray.typeOf]
  next => cases hp
theorem w_nq (C : CX K p m c cc nL s args own) (X : HX K s.heap H locs h) {k : Int32} {f : Nat → Hp → Option ρ} {N : Nat} (hlk : Cond.classLink own idx "TurnsMultiples$Goer" ∈ TBg) (hN : k.toNatClampNeg = N) (hbig : N * 4 ≤ 536870912) (hcells : cells + 1 ≤ R.cells ∧ slots + N ≤ R.slots) (hcs : cells + 1 = cells' ∧ slots + N = slots') (hdg : decode cc pc = .ok (.anewarray idx, 3)) (hp : nq h k f = some z)
    (kk : ∀ (q : Nat) (h' : Hp) (H1 : Heap) (locs1 : List Loc), HX K s.heap H1 locs1 h' → f q h' = some z → W p l e R s m args below meth c H1 locs1 cells' slots' Q (F0 m (pc + 3) ls (.ref (K.1 + q) :: rest))) : W p l e R s m args below meth c H locs cells slots Q (F0 m pc ls (.int k :: rest)) := by
  obtain ⟨rfl, rfl⟩ := hcs
  subst hN
  unfold nq at hp
  split at hp
  next hs =>
    obtain ⟨hs1, hs2, hs3⟩ := hs
    obtain ⟨hx, hb, -, hown, hts, hK, -, hAO, -⟩ := C
    refine W.anew hx hb hown (hts _ hlk) (va_AO.use hAO) rfl hdg rfl hs2 hbig hcells.1 hcells.2 fun cA kA comp f1 f2 f3 f4 => ?_
    obtain ⟨kA', comp', r1, r2, r3, r4⟩ := (hK.2 1 _ rfl).2
    have hcA : cA = K.2.2.2.1 := Option.some.inj (f1.symm.trans r4)
    subst hcA
    rw [X.2.1]
    generalize hH1 : H.push ({ cls := K.2.2.2.1, slots := Array.replicate k.toNatClampNeg .null, vm := .none } : Cell) = H1
    have e2 : H1.size = H.size + 1 := by rw [← hH1, Array.size_push]
    have e1 : H1[K.1 + h.1]? = some (arrV K.2.2.2.1 k.toNatClampNeg (fun _ => .null)) := by rw [← hH1, ← X.2.1, Array.getElem?_push_size, ← arrV_new]
    have e3 : ∀ q : Nat, q < H.size → H1[q]? = H[q]? := fun q hq => by rw [← hH1, Array.getElem?_push, if_neg (Nat.ne_of_lt hq)]
    refine kk _ _ H1 locs (hx_push (h' := (h.1 + 1, (fun q j => if q = h.1 then 0 else h.2.1 q j), (fun q j => if q = h.1 then none else h.2.2 q j))) X rfl (cell_ref hs1) (fun q hq => cell_ints (by funext j; simp [Nat.ne_of_lt hq]) (by funext j; simp [Nat.ne_of_lt hq])) ?_ e2 e3) hp
    show H1[K.1 + h.1]? = some (vp_cell _ _)
    rw [e1, vp_cell_q, hs3]
    simp [va_rf]
  next => cases hp
-- ===== the table of kinds =====
theorem w_ks (C : CX K p m c cc nL s args own) (X : HX K s.heap H locs h) (hL : Cond.fieldLink own idx "TurnsMultiples$Letters" "KINDS" "[C" ∈ TBg) (hdg : decode cc pc = .ok (.getstatic idx, 3))
    (kk : W p l e R s m args below meth c H locs cells slots Q (F0 m (pc + 3) ls (.ref K.2.2.2.2 :: rest))) : W p l e R s m args below meth c H locs cells slots Q (F0 m pc ls rest) := by
  obtain ⟨hx, hb, -, hown, hts, hK, -, -, hE, -⟩ := C
  exact va_gets hx hb hE.1 X.2.2 hown (hts _ hL) (fun _ q => q) hdg kk
theorem w_kl (C : CX K p m c cc nL s args own) (X : HX K s.heap H locs h) (hdg : decode cc pc = .ok (.arraylength, 1))
    (kk : W p l e R s m args below meth c H locs cells slots Q (F0 m (pc + 1) ls (.int 6 :: rest))) : W p l e R s m args below meth c H locs cells slots Q (F0 m pc ls (.ref K.2.2.2.2 :: rest)) := by
  obtain ⟨hx, hb, -, hown, hts, hK, -, -, hE, -⟩ := C
  exact va_tlen hx hb hE.2 X.2.2 rfl hdg kk
theorem w_kc (C : CX K p m c cc nL s args own) (X : HX K s.heap H locs h) {i : Int32} {f : Int32 → Option ρ} (hdg : decode cc pc = .ok (.caload, 1)) (hp : kc i f = some z)
    (kk : ∀ v, f v = some z → W p l e R s m args below meth c H locs cells slots Q (F0 m (pc + 1) ls (.int v :: rest))) : W p l e R s m args below meth c H locs cells slots Q (F0 m pc ls (.int i :: .ref K.2.2.2.2 :: rest)) := by
  obtain ⟨hx, hb, -, hown, hts, hK, -, -, hE, -⟩ := C
  unfold kc at hp
  split at hp
  next hc => exact va_tc hx hb hE.2 X.2.2 (vin_of hc.1 hc.2) rfl hdg (kk _ hp)
  next => cases hp
/-- Object.<init> -/
theorem w_oi0 (C : CX K p m c cc nL s args own) (hL : LNK own idx objectInit) (hsz : ls.size = nL) (hsum : (rest.map fun v => v.category).sum ≤ 8) (hR : 1 ≤ R.frames ∧ 20 ≤ R.locals) {q : Nat} (hdg : decode cc pc = .ok (.invokespecial idx, 3))
    (kk : W p l e R s m args below meth c H locs cells slots Q (F0 m (pc + 3) ls rest)) : W p l e R s m args below meth c H locs cells slots Q (F0 m pc ls (.ref q :: rest)) := by
  obtain ⟨hx, hb, hml, hown, hts, -⟩ := C
  have h8 : 2 * (F0 m pc ls (.ref q :: rest)).monitorRoom + (rest.map fun v => v.category).sum ≤ 8 := lv_room hsum
  exact W.objInit hx hb hown (hts _ hL) (hts _ w_oi) (hts _ w_oc) rfl (by rw [hml]; exact hsz) rfl hdg hR.1 (by omega) kk
end ROWS2
/-- a contract out of a walk of the body -/
theorem ct_of {l : Launch} {K : Kt} {y : MethodName} {b : ByteArray} {maxL : Nat} {ret : Option FieldType} {rm : Room} {av : List Value} {h : Hp} {Q : Array Value → State → Outcome → State → Prop} {own : String} (hy : plainName y.cls = true) (ho : y.cls = own) (hlen : (lg_sl av).length ≤ maxL)
    (body : ∀ (p : Program) (e : Env) (s : State) (m : MethodId) (args : Array Value) (below : List Frame) (meth : Method) (c : Code), CX K p m c b maxL s args own → HX K s.heap s.heap [] h → meth.sig.returnType = ret → meth.locks = false → meth.name = y.name → ∀ ls, lv_has ls maxL (lv_args 0 av) → W p l e rm s m args below meth c s.heap [] 0 0 (MQ below Q args s rm.cells rm.slots (KA K)) (F0 m 0 ls [])) : CT l K y b maxL ret rm av h Q := by
  refine Met.ofW (cc := b) (maxL := maxL) (ret := ret) hy rfl ?_
  intro p e s m args below meth c s₁ B hml hv
  obtain ⟨rfl, hP, hsz, hK, hN, hAO, hE⟩ := hv
  have hts := atoms_spec (ws := Cond.code y b maxL ret :: TBg) B.pre
  have hown : s.vm.findClass own = some m.cls := by rw [← ho]; exact findClass_of_methodNamed B.named
  have hl := lv_entry av (n := maxL) hlen
  rw [lg_entry_eq]
  exact body p e s m _ below meth c ⟨B.exec, B.bytes, hml, hown, fun w hw => hts w (List.mem_cons_of_mem _ hw), hK, hN, hAO, hE, by rw [hsz]; exact Nat.le_add_right _ _⟩ ⟨hP, hsz, va_S.rf⟩ B.returns B.notSynchronized (name_of_methodNamed B.named B.method).1 _ hl
end
