section
-- ===== PART A: goes FIRST, ahead of the names: the tables' words, and 'selects' of the private methods out of them =====
/-- a private method of a class that the tables say can be made, by its rows of tables_1 -/
def lw_okq (q : MethodName × Nat) : Prop := (q.1.cls ≠ "java/lang/invoke/MethodHandle" ∧ q.1.cls ≠ "java/lang/invoke/VarHandle") ∧ Cond.instantiable q.1.cls q.2 ∈ tables_1 ∧ Cond.privateMethod q.1 ∈ tables_1 ∧ Cond.instanceMethod q.1 ∈ tables_1
theorem lw_p0 : lw_okq (⟨"VoiceParts", "layBoard", "(III)V"⟩, 12) := ⟨⟨by decide +kernel, by decide +kernel⟩, List.mem_of_getElem? (i := 8) (by decide +kernel), List.mem_of_getElem? (i := 16) (by decide +kernel), List.mem_of_getElem? (i := 17) (by decide +kernel)⟩
theorem lw_p1 : lw_okq (⟨"VoiceParts", "isCell", "(II)Z"⟩, 12) := ⟨⟨by decide +kernel, by decide +kernel⟩, List.mem_of_getElem? (i := 8) (by decide +kernel), List.mem_of_getElem? (i := 72) (by decide +kernel), List.mem_of_getElem? (i := 73) (by decide +kernel)⟩
theorem lw_p2 : lw_okq (⟨"VoiceParts", "boardAt", "(II)I"⟩, 12) := ⟨⟨by decide +kernel, by decide +kernel⟩, List.mem_of_getElem? (i := 8) (by decide +kernel), List.mem_of_getElem? (i := 76) (by decide +kernel), List.mem_of_getElem? (i := 77) (by decide +kernel)⟩
theorem lw_p3 : lw_okq (⟨"VoiceParts", "sumAt", "(II)I"⟩, 12) := ⟨⟨by decide +kernel, by decide +kernel⟩, List.mem_of_getElem? (i := 8) (by decide +kernel), List.mem_of_getElem? (i := 87) (by decide +kernel), List.mem_of_getElem? (i := 88) (by decide +kernel)⟩
theorem lw_p4 : lw_okq (⟨"VoiceParts", "productAt", "(III)I"⟩, 12) := ⟨⟨by decide +kernel, by decide +kernel⟩, List.mem_of_getElem? (i := 8) (by decide +kernel), List.mem_of_getElem? (i := 91) (by decide +kernel), List.mem_of_getElem? (i := 92) (by decide +kernel)⟩
theorem lw_p5 : lw_okq (⟨"VoiceParts", "bestPeriod", "()I"⟩, 12) := ⟨⟨by decide +kernel, by decide +kernel⟩, List.mem_of_getElem? (i := 8) (by decide +kernel), List.mem_of_getElem? (i := 95) (by decide +kernel), List.mem_of_getElem? (i := 96) (by decide +kernel)⟩
theorem lw_p6 : lw_okq (⟨"VoiceParts", "priceOfPeriod", "(I)I"⟩, 12) := ⟨⟨by decide +kernel, by decide +kernel⟩, List.mem_of_getElem? (i := 8) (by decide +kernel), List.mem_of_getElem? (i := 99) (by decide +kernel), List.mem_of_getElem? (i := 100) (by decide +kernel)⟩
theorem lw_p7 : lw_okq (⟨"VoiceParts", "backgroundAt", "(III)I"⟩, 12) := ⟨⟨by decide +kernel, by decide +kernel⟩, List.mem_of_getElem? (i := 8) (by decide +kernel), List.mem_of_getElem? (i := 103) (by decide +kernel), List.mem_of_getElem? (i := 104) (by decide +kernel)⟩
theorem lw_p8 : lw_okq (⟨"VoiceParts", "howManyAhead", "(III)I"⟩, 12) := ⟨⟨by decide +kernel, by decide +kernel⟩, List.mem_of_getElem? (i := 8) (by decide +kernel), List.mem_of_getElem? (i := 110) (by decide +kernel), List.mem_of_getElem? (i := 111) (by decide +kernel)⟩
theorem lw_p9 : lw_okq (⟨"VoiceParts", "isNumber", "(III)Z"⟩, 12) := ⟨⟨by decide +kernel, by decide +kernel⟩, List.mem_of_getElem? (i := 8) (by decide +kernel), List.mem_of_getElem? (i := 121) (by decide +kernel), List.mem_of_getElem? (i := 122) (by decide +kernel)⟩
theorem lw_p10 : lw_okq (⟨"VoiceParts", "isVoice", "(I)Z"⟩, 12) := ⟨⟨by decide +kernel, by decide +kernel⟩, List.mem_of_getElem? (i := 8) (by decide +kernel), List.mem_of_getElem? (i := 125) (by decide +kernel), List.mem_of_getElem? (i := 126) (by decide +kernel)⟩
theorem lw_p11 : lw_okq (⟨"VoiceParts", "howManyOf", "(I)I"⟩, 12) := ⟨⟨by decide +kernel, by decide +kernel⟩, List.mem_of_getElem? (i := 8) (by decide +kernel), List.mem_of_getElem? (i := 129) (by decide +kernel), List.mem_of_getElem? (i := 130) (by decide +kernel)⟩
theorem lw_p12 : lw_okq (⟨"VoiceParts", "isBarred", "(I)Z"⟩, 12) := ⟨⟨by decide +kernel, by decide +kernel⟩, List.mem_of_getElem? (i := 8) (by decide +kernel), List.mem_of_getElem? (i := 140) (by decide +kernel), List.mem_of_getElem? (i := 141) (by decide +kernel)⟩
theorem lw_p13 : lw_okq (⟨"VoiceParts", "missAlong", "(II)I"⟩, 12) := ⟨⟨by decide +kernel, by decide +kernel⟩, List.mem_of_getElem? (i := 8) (by decide +kernel), List.mem_of_getElem? (i := 169) (by decide +kernel), List.mem_of_getElem? (i := 170) (by decide +kernel)⟩
theorem lw_p14 : lw_okq (⟨"VoiceParts", "costAt", "(II)I"⟩, 12) := ⟨⟨by decide +kernel, by decide +kernel⟩, List.mem_of_getElem? (i := 8) (by decide +kernel), List.mem_of_getElem? (i := 173) (by decide +kernel), List.mem_of_getElem? (i := 174) (by decide +kernel)⟩
theorem lw_p15 : lw_okq (⟨"VoiceParts", "playRound", "()V"⟩, 12) := ⟨⟨by decide +kernel, by decide +kernel⟩, List.mem_of_getElem? (i := 8) (by decide +kernel), List.mem_of_getElem? (i := 181) (by decide +kernel), List.mem_of_getElem? (i := 182) (by decide +kernel)⟩
def lw_privs_1 : List (MethodName × Nat) := [(⟨"VoiceParts", "layBoard", "(III)V"⟩, 12), (⟨"VoiceParts", "isCell", "(II)Z"⟩, 12), (⟨"VoiceParts", "boardAt", "(II)I"⟩, 12), (⟨"VoiceParts", "sumAt", "(II)I"⟩, 12), (⟨"VoiceParts", "productAt", "(III)I"⟩, 12), (⟨"VoiceParts", "bestPeriod", "()I"⟩, 12), (⟨"VoiceParts", "priceOfPeriod", "(I)I"⟩, 12), (⟨"VoiceParts", "backgroundAt", "(III)I"⟩, 12), (⟨"VoiceParts", "howManyAhead", "(III)I"⟩, 12), (⟨"VoiceParts", "isNumber", "(III)Z"⟩, 12), (⟨"VoiceParts", "isVoice", "(I)Z"⟩, 12), (⟨"VoiceParts", "howManyOf", "(I)I"⟩, 12), (⟨"VoiceParts", "isBarred", "(I)Z"⟩, 12), (⟨"VoiceParts", "missAlong", "(II)I"⟩, 12), (⟨"VoiceParts", "costAt", "(II)I"⟩, 12), (⟨"VoiceParts", "playRound", "()V"⟩, 12)]
theorem lw_r1 : ∀ q ∈ lw_privs_1, lw_okq q := List.forall_mem_cons.mpr ⟨lw_p0, List.forall_mem_cons.mpr ⟨lw_p1, List.forall_mem_cons.mpr ⟨lw_p2, List.forall_mem_cons.mpr ⟨lw_p3, List.forall_mem_cons.mpr ⟨lw_p4, List.forall_mem_cons.mpr ⟨lw_p5, List.forall_mem_cons.mpr ⟨lw_p6, List.forall_mem_cons.mpr ⟨lw_p7, List.forall_mem_cons.mpr ⟨lw_p8, List.forall_mem_cons.mpr ⟨lw_p9, List.forall_mem_cons.mpr ⟨lw_p10, List.forall_mem_cons.mpr ⟨lw_p11, List.forall_mem_cons.mpr ⟨lw_p12, List.forall_mem_cons.mpr ⟨lw_p13, List.forall_mem_cons.mpr ⟨lw_p14, List.forall_mem_cons.mpr ⟨lw_p15, fun _ h => absurd h List.not_mem_nil⟩⟩⟩⟩⟩⟩⟩⟩⟩⟩⟩⟩⟩⟩⟩⟩
theorem lw_p16 : lw_okq (⟨"VoiceParts", "stepNumber", "(III)V"⟩, 12) := ⟨⟨by decide +kernel, by decide +kernel⟩, List.mem_of_getElem? (i := 8) (by decide +kernel), List.mem_of_getElem? (i := 185) (by decide +kernel), List.mem_of_getElem? (i := 186) (by decide +kernel)⟩
theorem lw_p17 : lw_okq (⟨"VoiceParts", "shareAt", "(III)I"⟩, 12) := ⟨⟨by decide +kernel, by decide +kernel⟩, List.mem_of_getElem? (i := 8) (by decide +kernel), List.mem_of_getElem? (i := 194) (by decide +kernel), List.mem_of_getElem? (i := 195) (by decide +kernel)⟩
theorem lw_p18 : lw_okq (⟨"VoiceParts", "productsAt", "(I)I"⟩, 12) := ⟨⟨by decide +kernel, by decide +kernel⟩, List.mem_of_getElem? (i := 8) (by decide +kernel), List.mem_of_getElem? (i := 221) (by decide +kernel), List.mem_of_getElem? (i := 222) (by decide +kernel)⟩
theorem lw_p19 : lw_okq (⟨"VoiceParts", "turnedAt", "(I)I"⟩, 12) := ⟨⟨by decide +kernel, by decide +kernel⟩, List.mem_of_getElem? (i := 8) (by decide +kernel), List.mem_of_getElem? (i := 230) (by decide +kernel), List.mem_of_getElem? (i := 231) (by decide +kernel)⟩
theorem lw_p20 : lw_okq (⟨"VoiceParts", "filledRowAt", "(I)I"⟩, 12) := ⟨⟨by decide +kernel, by decide +kernel⟩, List.mem_of_getElem? (i := 8) (by decide +kernel), List.mem_of_getElem? (i := 243) (by decide +kernel), List.mem_of_getElem? (i := 244) (by decide +kernel)⟩
theorem lw_p21 : lw_okq (⟨"VoiceParts", "backAt", "(I)I"⟩, 12) := ⟨⟨by decide +kernel, by decide +kernel⟩, List.mem_of_getElem? (i := 8) (by decide +kernel), List.mem_of_getElem? (i := 247) (by decide +kernel), List.mem_of_getElem? (i := 248) (by decide +kernel)⟩
theorem lw_p22 : lw_okq (⟨"VoiceParts", "howManyOrders", "()I"⟩, 12) := ⟨⟨by decide +kernel, by decide +kernel⟩, List.mem_of_getElem? (i := 8) (by decide +kernel), List.mem_of_getElem? (i := 262) (by decide +kernel), List.mem_of_getElem? (i := 263) (by decide +kernel)⟩
theorem lw_p23 : lw_okq (⟨"VoiceParts", "apartBy", "(I)I"⟩, 12) := ⟨⟨by decide +kernel, by decide +kernel⟩, List.mem_of_getElem? (i := 8) (by decide +kernel), List.mem_of_getElem? (i := 266) (by decide +kernel), List.mem_of_getElem? (i := 267) (by decide +kernel)⟩
theorem lw_p24 : lw_okq (⟨"VoiceParts", "voiceInOrder", "(II)I"⟩, 12) := ⟨⟨by decide +kernel, by decide +kernel⟩, List.mem_of_getElem? (i := 8) (by decide +kernel), List.mem_of_getElem? (i := 270) (by decide +kernel), List.mem_of_getElem? (i := 271) (by decide +kernel)⟩
theorem lw_p25 : lw_okq (⟨"VoiceParts", "apartOfVoice", "(II)I"⟩, 12) := ⟨⟨by decide +kernel, by decide +kernel⟩, List.mem_of_getElem? (i := 8) (by decide +kernel), List.mem_of_getElem? (i := 280) (by decide +kernel), List.mem_of_getElem? (i := 281) (by decide +kernel)⟩
theorem lw_p26 : lw_okq (⟨"VoicePartsModel", "begins", "(III)V"⟩, 13) := ⟨⟨by decide +kernel, by decide +kernel⟩, List.mem_of_getElem? (i := 302) (by decide +kernel), List.mem_of_getElem? (i := 308) (by decide +kernel), List.mem_of_getElem? (i := 309) (by decide +kernel)⟩
theorem lw_p27 : lw_okq (⟨"VoicePartsModel", "isPlace", "(II)Z"⟩, 13) := ⟨⟨by decide +kernel, by decide +kernel⟩, List.mem_of_getElem? (i := 302) (by decide +kernel), List.mem_of_getElem? (i := 364) (by decide +kernel), List.mem_of_getElem? (i := 365) (by decide +kernel)⟩
theorem lw_p28 : lw_okq (⟨"VoicePartsModel", "sumAt", "(II)I"⟩, 13) := ⟨⟨by decide +kernel, by decide +kernel⟩, List.mem_of_getElem? (i := 302) (by decide +kernel), List.mem_of_getElem? (i := 372) (by decide +kernel), List.mem_of_getElem? (i := 373) (by decide +kernel)⟩
theorem lw_p29 : lw_okq (⟨"VoicePartsModel", "part", "(III)I"⟩, 13) := ⟨⟨by decide +kernel, by decide +kernel⟩, List.mem_of_getElem? (i := 302) (by decide +kernel), List.mem_of_getElem? (i := 376) (by decide +kernel), List.mem_of_getElem? (i := 377) (by decide +kernel)⟩
theorem lw_p30 : lw_okq (⟨"VoicePartsModel", "bestPeriod", "()I"⟩, 13) := ⟨⟨by decide +kernel, by decide +kernel⟩, List.mem_of_getElem? (i := 302) (by decide +kernel), List.mem_of_getElem? (i := 380) (by decide +kernel), List.mem_of_getElem? (i := 381) (by decide +kernel)⟩
theorem lw_p31 : lw_okq (⟨"VoicePartsModel", "backgroundOf", "(III)I"⟩, 13) := ⟨⟨by decide +kernel, by decide +kernel⟩, List.mem_of_getElem? (i := 302) (by decide +kernel), List.mem_of_getElem? (i := 384) (by decide +kernel), List.mem_of_getElem? (i := 385) (by decide +kernel)⟩
def lw_privs_2 : List (MethodName × Nat) := [(⟨"VoiceParts", "stepNumber", "(III)V"⟩, 12), (⟨"VoiceParts", "shareAt", "(III)I"⟩, 12), (⟨"VoiceParts", "productsAt", "(I)I"⟩, 12), (⟨"VoiceParts", "turnedAt", "(I)I"⟩, 12), (⟨"VoiceParts", "filledRowAt", "(I)I"⟩, 12), (⟨"VoiceParts", "backAt", "(I)I"⟩, 12), (⟨"VoiceParts", "howManyOrders", "()I"⟩, 12), (⟨"VoiceParts", "apartBy", "(I)I"⟩, 12), (⟨"VoiceParts", "voiceInOrder", "(II)I"⟩, 12), (⟨"VoiceParts", "apartOfVoice", "(II)I"⟩, 12), (⟨"VoicePartsModel", "begins", "(III)V"⟩, 13), (⟨"VoicePartsModel", "isPlace", "(II)Z"⟩, 13), (⟨"VoicePartsModel", "sumAt", "(II)I"⟩, 13), (⟨"VoicePartsModel", "part", "(III)I"⟩, 13), (⟨"VoicePartsModel", "bestPeriod", "()I"⟩, 13), (⟨"VoicePartsModel", "backgroundOf", "(III)I"⟩, 13)]
theorem lw_r2 : ∀ q ∈ lw_privs_2, lw_okq q := List.forall_mem_cons.mpr ⟨lw_p16, List.forall_mem_cons.mpr ⟨lw_p17, List.forall_mem_cons.mpr ⟨lw_p18, List.forall_mem_cons.mpr ⟨lw_p19, List.forall_mem_cons.mpr ⟨lw_p20, List.forall_mem_cons.mpr ⟨lw_p21, List.forall_mem_cons.mpr ⟨lw_p22, List.forall_mem_cons.mpr ⟨lw_p23, List.forall_mem_cons.mpr ⟨lw_p24, List.forall_mem_cons.mpr ⟨lw_p25, List.forall_mem_cons.mpr ⟨lw_p26, List.forall_mem_cons.mpr ⟨lw_p27, List.forall_mem_cons.mpr ⟨lw_p28, List.forall_mem_cons.mpr ⟨lw_p29, List.forall_mem_cons.mpr ⟨lw_p30, List.forall_mem_cons.mpr ⟨lw_p31, fun _ h => absurd h List.not_mem_nil⟩⟩⟩⟩⟩⟩⟩⟩⟩⟩⟩⟩⟩⟩⟩⟩
theorem lw_p32 : lw_okq (⟨"VoicePartsModel", "placeOf", "(III)I"⟩, 13) := ⟨⟨by decide +kernel, by decide +kernel⟩, List.mem_of_getElem? (i := 302) (by decide +kernel), List.mem_of_getElem? (i := 395) (by decide +kernel), List.mem_of_getElem? (i := 396) (by decide +kernel)⟩
theorem lw_p33 : lw_okq (⟨"VoicePartsModel", "isVoice", "(I)Z"⟩, 13) := ⟨⟨by decide +kernel, by decide +kernel⟩, List.mem_of_getElem? (i := 302) (by decide +kernel), List.mem_of_getElem? (i := 399) (by decide +kernel), List.mem_of_getElem? (i := 400) (by decide +kernel)⟩
theorem lw_p34 : lw_okq (⟨"VoicePartsModel", "missNow", "()I"⟩, 13) := ⟨⟨by decide +kernel, by decide +kernel⟩, List.mem_of_getElem? (i := 302) (by decide +kernel), List.mem_of_getElem? (i := 428) (by decide +kernel), List.mem_of_getElem? (i := 429) (by decide +kernel)⟩
theorem lw_p35 : lw_okq (⟨"VoicePartsModel", "better", "(I)V"⟩, 13) := ⟨⟨by decide +kernel, by decide +kernel⟩, List.mem_of_getElem? (i := 302) (by decide +kernel), List.mem_of_getElem? (i := 436) (by decide +kernel), List.mem_of_getElem? (i := 437) (by decide +kernel)⟩
theorem lw_p36 : lw_okq (⟨"VoicePartsModel", "shareOf", "(III)I"⟩, 13) := ⟨⟨by decide +kernel, by decide +kernel⟩, List.mem_of_getElem? (i := 302) (by decide +kernel), List.mem_of_getElem? (i := 444) (by decide +kernel), List.mem_of_getElem? (i := 445) (by decide +kernel)⟩
theorem lw_p37 : lw_okq (⟨"VoicePartsModel", "productBy", "(I)I"⟩, 13) := ⟨⟨by decide +kernel, by decide +kernel⟩, List.mem_of_getElem? (i := 302) (by decide +kernel), List.mem_of_getElem? (i := 468) (by decide +kernel), List.mem_of_getElem? (i := 469) (by decide +kernel)⟩
theorem lw_p38 : lw_okq (⟨"VoicePartsModel", "numberAt", "(I)I"⟩, 13) := ⟨⟨by decide +kernel, by decide +kernel⟩, List.mem_of_getElem? (i := 302) (by decide +kernel), List.mem_of_getElem? (i := 477) (by decide +kernel), List.mem_of_getElem? (i := 478) (by decide +kernel)⟩
theorem lw_p39 : lw_okq (⟨"VoicePartsModel", "orders", "()I"⟩, 13) := ⟨⟨by decide +kernel, by decide +kernel⟩, List.mem_of_getElem? (i := 302) (by decide +kernel), List.mem_of_getElem? (i := 489) (by decide +kernel), List.mem_of_getElem? (i := 490) (by decide +kernel)⟩
theorem lw_p40 : lw_okq (⟨"VoicePartsModel", "apartBy", "(I)I"⟩, 13) := ⟨⟨by decide +kernel, by decide +kernel⟩, List.mem_of_getElem? (i := 302) (by decide +kernel), List.mem_of_getElem? (i := 493) (by decide +kernel), List.mem_of_getElem? (i := 494) (by decide +kernel)⟩
theorem lw_p41 : lw_okq (⟨"VoicePartsModel", "ofOrder", "(II)I"⟩, 13) := ⟨⟨by decide +kernel, by decide +kernel⟩, List.mem_of_getElem? (i := 302) (by decide +kernel), List.mem_of_getElem? (i := 497) (by decide +kernel), List.mem_of_getElem? (i := 498) (by decide +kernel)⟩
def lw_privs_3 : List (MethodName × Nat) := [(⟨"VoicePartsModel", "placeOf", "(III)I"⟩, 13), (⟨"VoicePartsModel", "isVoice", "(I)Z"⟩, 13), (⟨"VoicePartsModel", "missNow", "()I"⟩, 13), (⟨"VoicePartsModel", "better", "(I)V"⟩, 13), (⟨"VoicePartsModel", "shareOf", "(III)I"⟩, 13), (⟨"VoicePartsModel", "productBy", "(I)I"⟩, 13), (⟨"VoicePartsModel", "numberAt", "(I)I"⟩, 13), (⟨"VoicePartsModel", "orders", "()I"⟩, 13), (⟨"VoicePartsModel", "apartBy", "(I)I"⟩, 13), (⟨"VoicePartsModel", "ofOrder", "(II)I"⟩, 13)]
theorem lw_r3 : ∀ q ∈ lw_privs_3, lw_okq q := List.forall_mem_cons.mpr ⟨lw_p32, List.forall_mem_cons.mpr ⟨lw_p33, List.forall_mem_cons.mpr ⟨lw_p34, List.forall_mem_cons.mpr ⟨lw_p35, List.forall_mem_cons.mpr ⟨lw_p36, List.forall_mem_cons.mpr ⟨lw_p37, List.forall_mem_cons.mpr ⟨lw_p38, List.forall_mem_cons.mpr ⟨lw_p39, List.forall_mem_cons.mpr ⟨lw_p40, List.forall_mem_cons.mpr ⟨lw_p41, fun _ h => absurd h List.not_mem_nil⟩⟩⟩⟩⟩⟩⟩⟩⟩⟩
def lw_privs : List (MethodName × Nat) := lw_privs_1 ++ (lw_privs_2 ++ (lw_privs_3))
def lw_tbl : List Cond := k2_sels lw_privs ++ tables_1
theorem lw_privs_ok : ∀ q ∈ lw_privs, lw_okq q := by
  show ∀ q ∈ lw_privs_1 ++ (lw_privs_2 ++ (lw_privs_3)), lw_okq q
  exact List.forall_mem_append.mpr ⟨lw_r1, List.forall_mem_append.mpr ⟨lw_r2, lw_r3⟩⟩
end
section
/-! ===== BEGIN words of one list among another's, by their places ===== -/
theorem goodIn_r {big : List Cond} (ws : List Cond) (ps : List Nat) (hp : ws = ps.filterMap (fun i => big[i]?)) (h : ws.all goodWord = true) : GoodIn big ws := by
  intro w hw
  have h1 := List.all_eq_true.mp h w hw
  rw [hp] at hw
  obtain ⟨i, -, hi⟩ := List.mem_filterMap.mp hw
  have hm : w ∈ big := by first | exact List.mem_of_getElem? hi | exact List.getElem?_mem hi
  exact ⟨hm, good_of_word h1⟩
theorem goodIn_app {big a b : List Cond} (ha : GoodIn big a) (hb : GoodIn big b) : GoodIn big (a ++ b) := fun w h => (List.mem_append.mp h).elim (ha w) (hb w)
theorem goodIn_ca {big a b : List Cond} {c : Cond} (ha : GoodIn big (c :: a)) (hb : GoodIn big b) : GoodIn big (c :: (a ++ b)) := fun w h => (List.mem_cons.mp h).elim (fun e => ha w (List.mem_cons.mpr (Or.inl e))) (fun h => (List.mem_append.mp h).elim (fun h => ha w (List.mem_cons.mpr (Or.inr h))) (hb w))
theorem goodIn_sub {big ws : List Cond} (hm : ∀ w ∈ ws, w ∈ big) (h : ws.all goodWord = true) : GoodIn big ws := fun w hw => ⟨hm w hw, good_of_word (List.all_eq_true.mp h w hw)⟩
/-! ===== END ===== -/

/-! ===== BEGIN printed: names, fields, word lists, decode rows ===== -/
def RX0 : String := "VoiceParts"
def TX0 : u_T := fun k => match k with
  | 0 => ("VoiceParts", "tones", "I", false)
  | 1 => ("VoiceParts", "times", "I", false)
  | 2 => ("VoiceParts", "voices", "I", false)
  | 3 => ("VoiceParts", "boardNumbers", "[I", true)
  | 4 => ("VoiceParts", "voiceNumbers", "[I", true)
  | 5 => ("VoiceParts", "barred", "J", false)
  | 6 => ("VoiceParts", "truthNumbers", "[I", true)
  | 7 => ("VoiceParts", "rowNumbers", "[I", true)
  | 8 => ("VoiceParts", "rowSizes", "[I", true)
  | 9 => ("VoiceParts", "judgeKind", "I", false)
  | 10 => ("VoiceParts", "roundsEver", "I", false)
  | _ => ("VoiceParts", "traceSum", "J", false)
def tyX0 : Nat → FieldType := fun k => match k with
  | 0 => .int
  | 1 => .int
  | 2 => .int
  | 3 => .array .int
  | 4 => .array .int
  | 5 => .long
  | 6 => .array .int
  | 7 => .array .int
  | 8 => .array .int
  | 9 => .int
  | 10 => .int
  | _ => .long
abbrev wsX00 : List Cond := u_ws RX0 TX0 12
theorem nmX0 : ∀ a, a < 12 → ∀ b, b < 12 → a ≠ b → (TX0 a).2.1 ≠ (TX0 b).2.1 := by decide +kernel
theorem tyX0_ok : ∀ k, k < 12 → parseFieldDescriptor (TX0 k).2.2.1 = some (tyX0 k) := by decide +kernel
abbrev cX0_init : ByteArray := prog_1_method_1_code
def yX0_init : MethodName := ⟨RX0, "<init>", "()V"⟩
abbrev cX0_board : ByteArray := prog_1_method_2_code
def yX0_board : MethodName := ⟨RX0, "board", "(III)I"⟩
abbrev cX0_set : ByteArray := prog_1_method_3_code
def yX0_set : MethodName := ⟨RX0, "set", "(III)I"⟩
abbrev cX0_at : ByteArray := prog_1_method_4_code
def yX0_at : MethodName := ⟨RX0, "at", "(III)I"⟩
abbrev cX0_number : ByteArray := prog_1_method_5_code
def yX0_number : MethodName := ⟨RX0, "number", "(III)I"⟩
abbrev cX0_begin : ByteArray := prog_1_method_6_code
def yX0_begin : MethodName := ⟨RX0, "begin", "(IIII)I"⟩
abbrev cX0_bar : ByteArray := prog_1_method_7_code
def yX0_bar : MethodName := ⟨RX0, "bar", "(III)I"⟩
abbrev cX0_judge : ByteArray := prog_1_method_8_code
def yX0_judge : MethodName := ⟨RX0, "judge", "(I)I"⟩
abbrev cX0_cost : ByteArray := prog_1_method_9_code
def yX0_cost : MethodName := ⟨RX0, "cost", "(II)I"⟩
abbrev cX0_miss : ByteArray := prog_1_method_10_code
def yX0_miss : MethodName := ⟨RX0, "miss", "()I"⟩
abbrev cX0_rounds : ByteArray := prog_1_method_11_code
def yX0_rounds : MethodName := ⟨RX0, "rounds", "(I)I"⟩
abbrev cX0_share : ByteArray := prog_1_method_12_code
def yX0_share : MethodName := ⟨RX0, "share", "(III)I"⟩
abbrev cX0_background : ByteArray := prog_1_method_13_code
def yX0_background : MethodName := ⟨RX0, "background", "(III)I"⟩
abbrev cX0_period : ByteArray := prog_1_method_14_code
def yX0_period : MethodName := ⟨RX0, "period", "()I"⟩
abbrev cX0_hear : ByteArray := prog_1_method_15_code
def yX0_hear : MethodName := ⟨RX0, "hear", "(II)I"⟩
abbrev cX0_clear : ByteArray := prog_1_method_16_code
def yX0_clear : MethodName := ⟨RX0, "clear", "(I)I"⟩
abbrev cX0_later : ByteArray := prog_1_method_17_code
def yX0_later : MethodName := ⟨RX0, "later", "()I"⟩
abbrev cX0_turned : ByteArray := prog_1_method_18_code
def yX0_turned : MethodName := ⟨RX0, "turned", "(II)I"⟩
abbrev cX0_truth : ByteArray := prog_1_method_19_code
def yX0_truth : MethodName := ⟨RX0, "truth", "(IIII)I"⟩
abbrev cX0_apart : ByteArray := prog_1_method_20_code
def yX0_apart : MethodName := ⟨RX0, "apart", "(I)I"⟩
abbrev cX0_order : ByteArray := prog_1_method_21_code
def yX0_order : MethodName := ⟨RX0, "order", "()I"⟩
abbrev cX0_count : ByteArray := prog_1_method_22_code
def yX0_count : MethodName := ⟨RX0, "count", "(I)I"⟩
abbrev cX0_trace : ByteArray := prog_1_method_23_code
def yX0_trace : MethodName := ⟨RX0, "trace", "()J"⟩
abbrev cX0_within : ByteArray := prog_1_method_24_code
def yX0_within : MethodName := ⟨RX0, "within", "(III)Z"⟩
abbrev cX0_isKind : ByteArray := prog_1_method_25_code
def yX0_isKind : MethodName := ⟨RX0, "isKind", "(I)Z"⟩
abbrev cX0_isRow : ByteArray := prog_1_method_26_code
def yX0_isRow : MethodName := ⟨RX0, "isRow", "(I)Z"⟩
abbrev cX0_isVoice : ByteArray := prog_1_method_27_code
def yX0_isVoice : MethodName := ⟨RX0, "isVoice", "(I)Z"⟩
abbrev cX0_isCell : ByteArray := prog_1_method_28_code
def yX0_isCell : MethodName := ⟨RX0, "isCell", "(II)Z"⟩
abbrev cX0_isNumber : ByteArray := prog_1_method_29_code
def yX0_isNumber : MethodName := ⟨RX0, "isNumber", "(III)Z"⟩
abbrev cX0_howManyOf : ByteArray := prog_1_method_30_code
def yX0_howManyOf : MethodName := ⟨RX0, "howManyOf", "(I)I"⟩
abbrev cX0_isBarred : ByteArray := prog_1_method_31_code
def yX0_isBarred : MethodName := ⟨RX0, "isBarred", "(I)Z"⟩
abbrev cX0_cell : ByteArray := prog_1_method_32_code
def yX0_cell : MethodName := ⟨RX0, "cell", "(II)I"⟩
abbrev cX0_place : ByteArray := prog_1_method_33_code
def yX0_place : MethodName := ⟨RX0, "place", "(III)I"⟩
abbrev cX0_truthPlace : ByteArray := prog_1_method_34_code
def yX0_truthPlace : MethodName := ⟨RX0, "truthPlace", "(III)I"⟩
abbrev cX0_layBoard : ByteArray := prog_1_method_35_code
def yX0_layBoard : MethodName := ⟨RX0, "layBoard", "(III)V"⟩
abbrev cX0_boardAt : ByteArray := prog_1_method_36_code
def yX0_boardAt : MethodName := ⟨RX0, "boardAt", "(II)I"⟩
abbrev cX0_productAt : ByteArray := prog_1_method_37_code
def yX0_productAt : MethodName := ⟨RX0, "productAt", "(III)I"⟩
abbrev cX0_sumAt : ByteArray := prog_1_method_38_code
def yX0_sumAt : MethodName := ⟨RX0, "sumAt", "(II)I"⟩
abbrev cX0_costBy : ByteArray := prog_1_method_39_code
def yX0_costBy : MethodName := ⟨RX0, "costBy", "(II)I"⟩
abbrev cX0_traceOfKind : ByteArray := prog_1_method_40_code
def yX0_traceOfKind : MethodName := ⟨RX0, "traceOfKind", "(I)I"⟩
abbrev cX0_costAt : ByteArray := prog_1_method_41_code
def yX0_costAt : MethodName := ⟨RX0, "costAt", "(II)I"⟩
abbrev cX0_missAlong : ByteArray := prog_1_method_42_code
def yX0_missAlong : MethodName := ⟨RX0, "missAlong", "(II)I"⟩
abbrev cX0_playRound : ByteArray := prog_1_method_43_code
def yX0_playRound : MethodName := ⟨RX0, "playRound", "()V"⟩
abbrev cX0_stepNumber : ByteArray := prog_1_method_44_code
def yX0_stepNumber : MethodName := ⟨RX0, "stepNumber", "(III)V"⟩
abbrev cX0_shareAt : ByteArray := prog_1_method_45_code
def yX0_shareAt : MethodName := ⟨RX0, "shareAt", "(III)I"⟩
abbrev cX0_areInStep : ByteArray := prog_1_method_46_code
def yX0_areInStep : MethodName := ⟨RX0, "areInStep", "(III)Z"⟩
abbrev cX0_backgroundAt : ByteArray := prog_1_method_47_code
def yX0_backgroundAt : MethodName := ⟨RX0, "backgroundAt", "(III)I"⟩
abbrev cX0_howManyAhead : ByteArray := prog_1_method_48_code
def yX0_howManyAhead : MethodName := ⟨RX0, "howManyAhead", "(III)I"⟩
abbrev cX0_priceOfPeriod : ByteArray := prog_1_method_49_code
def yX0_priceOfPeriod : MethodName := ⟨RX0, "priceOfPeriod", "(I)I"⟩
abbrev cX0_bestPeriod : ByteArray := prog_1_method_50_code
def yX0_bestPeriod : MethodName := ⟨RX0, "bestPeriod", "()I"⟩
abbrev cX0_filledRowAt : ByteArray := prog_1_method_51_code
def yX0_filledRowAt : MethodName := ⟨RX0, "filledRowAt", "(I)I"⟩
abbrev cX0_productsAt : ByteArray := prog_1_method_52_code
def yX0_productsAt : MethodName := ⟨RX0, "productsAt", "(I)I"⟩
abbrev cX0_sign : ByteArray := prog_1_method_53_code
def yX0_sign : MethodName := ⟨RX0, "sign", "(II)I"⟩
abbrev cX0_turnedAt : ByteArray := prog_1_method_54_code
def yX0_turnedAt : MethodName := ⟨RX0, "turnedAt", "(I)I"⟩
abbrev cX0_backAt : ByteArray := prog_1_method_55_code
def yX0_backAt : MethodName := ⟨RX0, "backAt", "(I)I"⟩
abbrev cX0_howManyOrders : ByteArray := prog_1_method_56_code
def yX0_howManyOrders : MethodName := ⟨RX0, "howManyOrders", "()I"⟩
abbrev cX0_voiceInOrder : ByteArray := prog_1_method_57_code
def yX0_voiceInOrder : MethodName := ⟨RX0, "voiceInOrder", "(II)I"⟩
abbrev cX0_apartBy : ByteArray := prog_1_method_58_code
def yX0_apartBy : MethodName := ⟨RX0, "apartBy", "(I)I"⟩
abbrev cX0_apartOfVoice : ByteArray := prog_1_method_59_code
def yX0_apartOfVoice : MethodName := ⟨RX0, "apartOfVoice", "(II)I"⟩
def RX1 : String := "VoicePartsModel"
def TX1 : u_T := fun k => match k with
  | 0 => ("VoicePartsModel", "tones", "I", false)
  | 1 => ("VoicePartsModel", "times", "I", false)
  | 2 => ("VoicePartsModel", "voices", "I", false)
  | 3 => ("VoicePartsModel", "board", "[I", true)
  | 4 => ("VoicePartsModel", "number", "[I", true)
  | 5 => ("VoicePartsModel", "isBarred", "[Z", true)
  | 6 => ("VoicePartsModel", "truth", "[I", true)
  | 7 => ("VoicePartsModel", "judge", "I", false)
  | 8 => ("VoicePartsModel", "roundsDone", "I", false)
  | 9 => ("VoicePartsModel", "heard", "[I", true)
  | 10 => ("VoicePartsModel", "row", "[I", true)
  | 11 => ("VoicePartsModel", "trace", "J", false)
  | _ => ("VoicePartsModel", "middle", "[I", true)
def tyX1 : Nat → FieldType := fun k => match k with
  | 0 => .int
  | 1 => .int
  | 2 => .int
  | 3 => .array .int
  | 4 => .array .int
  | 5 => .array .boolean
  | 6 => .array .int
  | 7 => .int
  | 8 => .int
  | 9 => .array .int
  | 10 => .array .int
  | 11 => .long
  | _ => .array .int
abbrev wsX10 : List Cond := u_ws RX1 TX1 13
theorem nmX1 : ∀ a, a < 13 → ∀ b, b < 13 → a ≠ b → (TX1 a).2.1 ≠ (TX1 b).2.1 := by decide +kernel
theorem tyX1_ok : ∀ k, k < 13 → parseFieldDescriptor (TX1 k).2.2.1 = some (tyX1 k) := by decide +kernel
abbrev cX1_init : ByteArray := prog_3_method_1_code
def yX1_init : MethodName := ⟨RX1, "<init>", "()V"⟩
abbrev cX1_in : ByteArray := prog_3_method_3_code
def yX1_in : MethodName := ⟨RX1, "in", "(III)Z"⟩
abbrev cX1_begins : ByteArray := prog_3_method_4_code
def yX1_begins : MethodName := ⟨RX1, "begins", "(III)V"⟩
abbrev cX1_isPlace : ByteArray := prog_3_method_5_code
def yX1_isPlace : MethodName := ⟨RX1, "isPlace", "(II)Z"⟩
abbrev cX1_isVoice : ByteArray := prog_3_method_6_code
def yX1_isVoice : MethodName := ⟨RX1, "isVoice", "(I)Z"⟩
abbrev cX1_board : ByteArray := prog_3_method_7_code
def yX1_board : MethodName := ⟨RX1, "board", "(III)I"⟩
abbrev cX1_set : ByteArray := prog_3_method_8_code
def yX1_set : MethodName := ⟨RX1, "set", "(III)I"⟩
abbrev cX1_part : ByteArray := prog_3_method_9_code
def yX1_part : MethodName := ⟨RX1, "part", "(III)I"⟩
abbrev cX1_sumAt : ByteArray := prog_3_method_10_code
def yX1_sumAt : MethodName := ⟨RX1, "sumAt", "(II)I"⟩
abbrev cX1_at : ByteArray := prog_3_method_11_code
def yX1_at : MethodName := ⟨RX1, "at", "(III)I"⟩
abbrev cX1_placeOf : ByteArray := prog_3_method_12_code
def yX1_placeOf : MethodName := ⟨RX1, "placeOf", "(III)I"⟩
abbrev cX1_number : ByteArray := prog_3_method_13_code
def yX1_number : MethodName := ⟨RX1, "number", "(III)I"⟩
abbrev cX1_begin : ByteArray := prog_3_method_14_code
def yX1_begin : MethodName := ⟨RX1, "begin", "(IIII)I"⟩
abbrev cX1_bar : ByteArray := prog_3_method_15_code
def yX1_bar : MethodName := ⟨RX1, "bar", "(III)I"⟩
abbrev cX1_judge : ByteArray := prog_3_method_16_code
def yX1_judge : MethodName := ⟨RX1, "judge", "(I)I"⟩
abbrev cX1_costOf : ByteArray := prog_3_method_17_code
def yX1_costOf : MethodName := ⟨RX1, "costOf", "(II)I"⟩
abbrev cX1_cost : ByteArray := prog_3_method_18_code
def yX1_cost : MethodName := ⟨RX1, "cost", "(II)I"⟩
abbrev cX1_size : ByteArray := prog_3_method_19_code
def yX1_size : MethodName := ⟨RX1, "size", "(I)I"⟩
abbrev cX1_missNow : ByteArray := prog_3_method_20_code
def yX1_missNow : MethodName := ⟨RX1, "missNow", "()I"⟩
abbrev cX1_miss : ByteArray := prog_3_method_21_code
def yX1_miss : MethodName := ⟨RX1, "miss", "()I"⟩
abbrev cX1_better : ByteArray := prog_3_method_22_code
def yX1_better : MethodName := ⟨RX1, "better", "(I)V"⟩
abbrev cX1_rounds : ByteArray := prog_3_method_23_code
def yX1_rounds : MethodName := ⟨RX1, "rounds", "(I)I"⟩
abbrev cX1_shareOf : ByteArray := prog_3_method_24_code
def yX1_shareOf : MethodName := ⟨RX1, "shareOf", "(III)I"⟩
abbrev cX1_share : ByteArray := prog_3_method_25_code
def yX1_share : MethodName := ⟨RX1, "share", "(III)I"⟩
abbrev cX1_backgroundOf : ByteArray := prog_3_method_26_code
def yX1_backgroundOf : MethodName := ⟨RX1, "backgroundOf", "(III)I"⟩
abbrev cX1_background : ByteArray := prog_3_method_27_code
def yX1_background : MethodName := ⟨RX1, "background", "(III)I"⟩
abbrev cX1_bestPeriod : ByteArray := prog_3_method_28_code
def yX1_bestPeriod : MethodName := ⟨RX1, "bestPeriod", "()I"⟩
abbrev cX1_period : ByteArray := prog_3_method_29_code
def yX1_period : MethodName := ⟨RX1, "period", "()I"⟩
abbrev cX1_hear : ByteArray := prog_3_method_30_code
def yX1_hear : MethodName := ⟨RX1, "hear", "(II)I"⟩
abbrev cX1_clear : ByteArray := prog_3_method_31_code
def yX1_clear : MethodName := ⟨RX1, "clear", "(I)I"⟩
abbrev cX1_productBy : ByteArray := prog_3_method_32_code
def yX1_productBy : MethodName := ⟨RX1, "productBy", "(I)I"⟩
abbrev cX1_later : ByteArray := prog_3_method_33_code
def yX1_later : MethodName := ⟨RX1, "later", "()I"⟩
abbrev cX1_numberAt : ByteArray := prog_3_method_34_code
def yX1_numberAt : MethodName := ⟨RX1, "numberAt", "(I)I"⟩
abbrev cX1_turned : ByteArray := prog_3_method_35_code
def yX1_turned : MethodName := ⟨RX1, "turned", "(II)I"⟩
abbrev cX1_truth : ByteArray := prog_3_method_36_code
def yX1_truth : MethodName := ⟨RX1, "truth", "(IIII)I"⟩
abbrev cX1_orders : ByteArray := prog_3_method_37_code
def yX1_orders : MethodName := ⟨RX1, "orders", "()I"⟩
abbrev cX1_ofOrder : ByteArray := prog_3_method_38_code
def yX1_ofOrder : MethodName := ⟨RX1, "ofOrder", "(II)I"⟩
abbrev cX1_apartBy : ByteArray := prog_3_method_39_code
def yX1_apartBy : MethodName := ⟨RX1, "apartBy", "(I)I"⟩
abbrev cX1_apart : ByteArray := prog_3_method_40_code
def yX1_apart : MethodName := ⟨RX1, "apart", "(I)I"⟩
abbrev cX1_order : ByteArray := prog_3_method_41_code
def yX1_order : MethodName := ⟨RX1, "order", "()I"⟩
abbrev cX1_count : ByteArray := prog_3_method_42_code
def yX1_count : MethodName := ⟨RX1, "count", "(I)I"⟩
abbrev cX1_trace : ByteArray := prog_3_method_43_code
def yX1_trace : MethodName := ⟨RX1, "trace", "()J"⟩
def RJ6 : String := "java/lang/Integer"
def TJ6 : u_T := fun k => match k with
  | _ => ("", "", "", false)
def tyJ6 : Nat → FieldType := fun k => match k with
  | _ => .int
abbrev wsJ60 : List Cond := u_ws RJ6 TJ6 0
theorem nmJ6 : ∀ a, a < 0 → ∀ b, b < 0 → a ≠ b → (TJ6 a).2.1 ≠ (TJ6 b).2.1 := by decide +kernel
theorem tyJ6_ok : ∀ k, k < 0 → parseFieldDescriptor (TJ6 k).2.2.1 = some (tyJ6 k) := by decide +kernel
abbrev cJ6_bitCount_0f7a4 : ByteArray := prog_4_method_49_code
def yJ6_bitCount_0f7a4 : MethodName := ⟨RJ6, "bitCount", "(I)I"⟩
def RJ13 : String := "java/lang/Long"
def TJ13 : u_T := fun k => match k with
  | _ => ("", "", "", false)
def tyJ13 : Nat → FieldType := fun k => match k with
  | _ => .int
abbrev wsJ130 : List Cond := u_ws RJ13 TJ13 0
theorem nmJ13 : ∀ a, a < 0 → ∀ b, b < 0 → a ≠ b → (TJ13 a).2.1 ≠ (TJ13 b).2.1 := by decide +kernel
theorem tyJ13_ok : ∀ k, k < 0 → parseFieldDescriptor (TJ13 k).2.2.1 = some (tyJ13 k) := by decide +kernel
abbrev cJ13_bitCount_95d88 : ByteArray := prog_5_method_50_code
def yJ13_bitCount_95d88 : MethodName := ⟨RJ13, "bitCount", "(J)I"⟩
def RJ9 : String := "java/lang/Math"
def TJ9 : u_T := fun k => match k with
  | _ => ("", "", "", false)
def tyJ9 : Nat → FieldType := fun k => match k with
  | _ => .int
abbrev wsJ90 : List Cond := u_ws RJ9 TJ9 0
theorem nmJ9 : ∀ a, a < 0 → ∀ b, b < 0 → a ≠ b → (TJ9 a).2.1 ≠ (TJ9 b).2.1 := by decide +kernel
theorem tyJ9_ok : ∀ k, k < 0 → parseFieldDescriptor (TJ9 k).2.2.1 = some (tyJ9 k) := by decide +kernel
abbrev cJ9_abs_0f7a4 : ByteArray := prog_6_method_59_code
def yJ9_abs_0f7a4 : MethodName := ⟨RJ9, "abs", "(I)I"⟩
def RJ7 : String := "java/util/Arrays"
def TJ7 : u_T := fun k => match k with
  | _ => ("", "", "", false)
def tyJ7 : Nat → FieldType := fun k => match k with
  | _ => .int
abbrev wsJ70 : List Cond := u_ws RJ7 TJ7 0
theorem nmJ7 : ∀ a, a < 0 → ∀ b, b < 0 → a ≠ b → (TJ7 a).2.1 ≠ (TJ7 b).2.1 := by decide +kernel
theorem tyJ7_ok : ∀ k, k < 0 → parseFieldDescriptor (TJ7 k).2.2.1 = some (tyJ7 k) := by decide +kernel
abbrev cJ7_fill_53178 : ByteArray := prog_7_method_103_code
def yJ7_fill_53178 : MethodName := ⟨RJ7, "fill", "([II)V"⟩
def RL : String := "VoicePartsLaw"
abbrev cL_law : ByteArray := code
def yL_law : MethodName := ⟨RL, "law", "([I)Z"⟩
def wsJ7_fill_53178 : List Cond := .code yJ7_fill_53178 cJ7_fill_53178 4 none :: ([])
def wsX0_layBoard : List Cond := .code yX0_layBoard cX0_layBoard 4 none :: ([.fieldLink RX0 86 "VoiceParts" "tones" "I", .fieldLink RX0 107 "VoiceParts" "times" "I", .fieldLink RX0 137 "VoiceParts" "voices" "I", .fieldLink RX0 9 "VoiceParts" "boardNumbers" "[I", .fieldLink RX0 13 "VoiceParts" "voiceNumbers" "[I", .fieldLink RX0 16 "VoiceParts" "truthNumbers" "[I", .fieldLink RX0 69 "VoiceParts" "barred" "J", .methodLink RX0 149 yJ7_fill_53178, .static yJ7_fill_53178, .initialized RJ7, .code yJ7_fill_53178 cJ7_fill_53178 4 none] ++ wsX00)
def wsX0_init : List Cond := .code yX0_init cX0_init 1 none :: ([.methodLink RX0 3 objectInit, .instanceMethod objectInit, .code objectInit ⟨#[0xb1]⟩ 1 none, .arrayClass .int, .fieldLink RX0 9 "VoiceParts" "boardNumbers" "[I", .fieldLink RX0 13 "VoiceParts" "voiceNumbers" "[I", .fieldLink RX0 16 "VoiceParts" "truthNumbers" "[I", .fieldLink RX0 19 "VoiceParts" "rowNumbers" "[I", .fieldLink RX0 22 "VoiceParts" "rowSizes" "[I", .fieldLink RX0 29 "VoiceParts" "judgeKind" "I", .methodLink RX0 25 yX0_layBoard, .instanceMethod yX0_layBoard, .selects RX0 yX0_layBoard yX0_layBoard, .initialized RX0, .code yX0_layBoard cX0_layBoard 4 none, .fieldLink RX0 86 "VoiceParts" "tones" "I", .fieldLink RX0 107 "VoiceParts" "times" "I", .fieldLink RX0 137 "VoiceParts" "voices" "I", .fieldLink RX0 69 "VoiceParts" "barred" "J", .methodLink RX0 149 yJ7_fill_53178, .static yJ7_fill_53178, .initialized RJ7, .code yJ7_fill_53178 cJ7_fill_53178 4 none] ++ wsX00)
def wsX0_within : List Cond := .code yX0_within cX0_within 3 (some .boolean) :: ([])
def wsX0_board : List Cond := .code yX0_board cX0_board 4 (some .int) :: ([.methodLink RX0 33 yX0_within, .static yX0_within, .initialized RX0, .code yX0_within cX0_within 3 (some .boolean), .methodLink RX0 25 yX0_layBoard, .instanceMethod yX0_layBoard, .selects RX0 yX0_layBoard yX0_layBoard, .code yX0_layBoard cX0_layBoard 4 none, .fieldLink RX0 86 "VoiceParts" "tones" "I", .fieldLink RX0 107 "VoiceParts" "times" "I", .fieldLink RX0 137 "VoiceParts" "voices" "I", .fieldLink RX0 9 "VoiceParts" "boardNumbers" "[I", .fieldLink RX0 13 "VoiceParts" "voiceNumbers" "[I", .fieldLink RX0 16 "VoiceParts" "truthNumbers" "[I", .fieldLink RX0 69 "VoiceParts" "barred" "J", .methodLink RX0 149 yJ7_fill_53178, .static yJ7_fill_53178, .initialized RJ7, .code yJ7_fill_53178 cJ7_fill_53178 4 none] ++ wsX00)
def wsX0_isCell : List Cond := .code yX0_isCell cX0_isCell 3 (some .boolean) :: ([.fieldLink RX0 86 "VoiceParts" "tones" "I", .fieldLink RX0 107 "VoiceParts" "times" "I", .methodLink RX0 33 yX0_within, .static yX0_within, .initialized RX0, .code yX0_within cX0_within 3 (some .boolean)] ++ wsX00)
def wsX0_cell : List Cond := .code yX0_cell cX0_cell 2 (some .int) :: ([])
def wsX0_boardAt : List Cond := .code yX0_boardAt cX0_boardAt 3 (some .int) :: ([.fieldLink RX0 9 "VoiceParts" "boardNumbers" "[I", .methodLink RX0 45 yX0_cell, .static yX0_cell, .initialized RX0, .code yX0_cell cX0_cell 2 (some .int)] ++ wsX00)
def wsX0_set : List Cond := .code yX0_set cX0_set 5 (some .int) :: ([.fieldLink RX0 9 "VoiceParts" "boardNumbers" "[I", .methodLink RX0 37 yX0_isCell, .instanceMethod yX0_isCell, .selects RX0 yX0_isCell yX0_isCell, .initialized RX0, .code yX0_isCell cX0_isCell 3 (some .boolean), .fieldLink RX0 86 "VoiceParts" "tones" "I", .fieldLink RX0 107 "VoiceParts" "times" "I", .methodLink RX0 33 yX0_within, .static yX0_within, .code yX0_within cX0_within 3 (some .boolean), .methodLink RX0 41 yX0_boardAt, .instanceMethod yX0_boardAt, .selects RX0 yX0_boardAt yX0_boardAt, .code yX0_boardAt cX0_boardAt 3 (some .int), .methodLink RX0 45 yX0_cell, .static yX0_cell, .code yX0_cell cX0_cell 2 (some .int)] ++ wsX00)
def wsX0_productAt : List Cond := .code yX0_productAt cX0_productAt 5 (some .int) :: ([.fieldLink RX0 13 "VoiceParts" "voiceNumbers" "[I"] ++ wsX00)
def wsX0_sumAt : List Cond := .code yX0_sumAt cX0_sumAt 5 (some .int) :: ([.fieldLink RX0 137 "VoiceParts" "voices" "I", .methodLink RX0 155 yX0_productAt, .instanceMethod yX0_productAt, .selects RX0 yX0_productAt yX0_productAt, .initialized RX0, .code yX0_productAt cX0_productAt 5 (some .int), .fieldLink RX0 13 "VoiceParts" "voiceNumbers" "[I"] ++ wsX00)
def wsX0_areInStep : List Cond := .code yX0_areInStep cX0_areInStep 3 (some .boolean) :: ([])
def wsX0_howManyAhead : List Cond := .code yX0_howManyAhead cX0_howManyAhead 8 (some .int) :: ([.fieldLink RX0 107 "VoiceParts" "times" "I", .methodLink RX0 41 yX0_boardAt, .instanceMethod yX0_boardAt, .selects RX0 yX0_boardAt yX0_boardAt, .initialized RX0, .code yX0_boardAt cX0_boardAt 3 (some .int), .fieldLink RX0 9 "VoiceParts" "boardNumbers" "[I", .methodLink RX0 45 yX0_cell, .static yX0_cell, .code yX0_cell cX0_cell 2 (some .int), .methodLink RX0 164 yX0_areInStep, .static yX0_areInStep, .code yX0_areInStep cX0_areInStep 3 (some .boolean)] ++ wsX00)
def wsX0_backgroundAt : List Cond := .code yX0_backgroundAt cX0_backgroundAt 7 (some .int) :: ([.fieldLink RX0 107 "VoiceParts" "times" "I", .methodLink RX0 164 yX0_areInStep, .static yX0_areInStep, .initialized RX0, .code yX0_areInStep cX0_areInStep 3 (some .boolean), .methodLink RX0 167 yX0_howManyAhead, .instanceMethod yX0_howManyAhead, .selects RX0 yX0_howManyAhead yX0_howManyAhead, .code yX0_howManyAhead cX0_howManyAhead 8 (some .int), .methodLink RX0 41 yX0_boardAt, .instanceMethod yX0_boardAt, .selects RX0 yX0_boardAt yX0_boardAt, .code yX0_boardAt cX0_boardAt 3 (some .int), .fieldLink RX0 9 "VoiceParts" "boardNumbers" "[I", .methodLink RX0 45 yX0_cell, .static yX0_cell, .code yX0_cell cX0_cell 2 (some .int)] ++ wsX00)
def wsX0_priceOfPeriod_r1 : List Cond := [Cond.fieldLink RX0 86 "VoiceParts" "tones" "I", Cond.fieldLink RX0 107 "VoiceParts" "times" "I", Cond.methodLink RX0 116 Lib.Math.abs.name, Cond.static Lib.Math.abs.name, Cond.initialized "java/lang/Math", Cond.code Lib.Math.abs.name Lib.Math.abs.code 1 (some .int), Cond.methodLink RX0 41 yX0_boardAt, Cond.instanceMethod yX0_boardAt, Cond.selects RX0 yX0_boardAt yX0_boardAt, Cond.initialized RX0, Cond.code yX0_boardAt cX0_boardAt 3 (some .int), Cond.fieldLink RX0 9 "VoiceParts" "boardNumbers" "[I", Cond.methodLink RX0 45 yX0_cell, Cond.static yX0_cell, Cond.code yX0_cell cX0_cell 2 (some .int), Cond.methodLink RX0 55 yX0_backgroundAt, Cond.instanceMethod yX0_backgroundAt, Cond.selects RX0 yX0_backgroundAt yX0_backgroundAt, Cond.code yX0_backgroundAt cX0_backgroundAt 7 (some .int), Cond.methodLink RX0 164 yX0_areInStep, Cond.static yX0_areInStep, Cond.code yX0_areInStep cX0_areInStep 3 (some .boolean), Cond.methodLink RX0 167 yX0_howManyAhead, Cond.instanceMethod yX0_howManyAhead]
def wsX0_priceOfPeriod_r2 : List Cond := [Cond.selects RX0 yX0_howManyAhead yX0_howManyAhead, Cond.code yX0_howManyAhead cX0_howManyAhead 8 (some .int)]
def wsX0_priceOfPeriod : List Cond := .code yX0_priceOfPeriod cX0_priceOfPeriod 5 (some .int) :: ((wsX0_priceOfPeriod_r1 ++ wsX0_priceOfPeriod_r2) ++ wsX00)
def wsX0_bestPeriod_r1 : List Cond := [Cond.fieldLink RX0 107 "VoiceParts" "times" "I", Cond.methodLink RX0 170 yX0_priceOfPeriod, Cond.instanceMethod yX0_priceOfPeriod, Cond.selects RX0 yX0_priceOfPeriod yX0_priceOfPeriod, Cond.initialized RX0, Cond.code yX0_priceOfPeriod cX0_priceOfPeriod 5 (some .int), Cond.fieldLink RX0 86 "VoiceParts" "tones" "I", Cond.methodLink RX0 116 Lib.Math.abs.name, Cond.static Lib.Math.abs.name, Cond.initialized "java/lang/Math", Cond.code Lib.Math.abs.name Lib.Math.abs.code 1 (some .int), Cond.methodLink RX0 41 yX0_boardAt, Cond.instanceMethod yX0_boardAt, Cond.selects RX0 yX0_boardAt yX0_boardAt, Cond.code yX0_boardAt cX0_boardAt 3 (some .int), Cond.fieldLink RX0 9 "VoiceParts" "boardNumbers" "[I", Cond.methodLink RX0 45 yX0_cell, Cond.static yX0_cell, Cond.code yX0_cell cX0_cell 2 (some .int), Cond.methodLink RX0 55 yX0_backgroundAt, Cond.instanceMethod yX0_backgroundAt, Cond.selects RX0 yX0_backgroundAt yX0_backgroundAt, Cond.code yX0_backgroundAt cX0_backgroundAt 7 (some .int), Cond.methodLink RX0 164 yX0_areInStep]
def wsX0_bestPeriod_r2 : List Cond := [Cond.static yX0_areInStep, Cond.code yX0_areInStep cX0_areInStep 3 (some .boolean), Cond.methodLink RX0 167 yX0_howManyAhead, Cond.instanceMethod yX0_howManyAhead, Cond.selects RX0 yX0_howManyAhead yX0_howManyAhead, Cond.code yX0_howManyAhead cX0_howManyAhead 8 (some .int)]
def wsX0_bestPeriod : List Cond := .code yX0_bestPeriod cX0_bestPeriod 5 (some .int) :: ((wsX0_bestPeriod_r1 ++ wsX0_bestPeriod_r2) ++ wsX00)
def wsX0_at_r1 : List Cond := [Cond.methodLink RX0 37 yX0_isCell, Cond.instanceMethod yX0_isCell, Cond.selects RX0 yX0_isCell yX0_isCell, Cond.initialized RX0, Cond.code yX0_isCell cX0_isCell 3 (some .boolean), Cond.fieldLink RX0 86 "VoiceParts" "tones" "I", Cond.fieldLink RX0 107 "VoiceParts" "times" "I", Cond.methodLink RX0 33 yX0_within, Cond.static yX0_within, Cond.code yX0_within cX0_within 3 (some .boolean), Cond.methodLink RX0 41 yX0_boardAt, Cond.instanceMethod yX0_boardAt, Cond.selects RX0 yX0_boardAt yX0_boardAt, Cond.code yX0_boardAt cX0_boardAt 3 (some .int), Cond.fieldLink RX0 9 "VoiceParts" "boardNumbers" "[I", Cond.methodLink RX0 45 yX0_cell, Cond.static yX0_cell, Cond.code yX0_cell cX0_cell 2 (some .int), Cond.methodLink RX0 48 yX0_sumAt, Cond.instanceMethod yX0_sumAt, Cond.selects RX0 yX0_sumAt yX0_sumAt, Cond.code yX0_sumAt cX0_sumAt 5 (some .int), Cond.fieldLink RX0 137 "VoiceParts" "voices" "I", Cond.methodLink RX0 155 yX0_productAt]
def wsX0_at_r2 : List Cond := [Cond.instanceMethod yX0_productAt, Cond.selects RX0 yX0_productAt yX0_productAt, Cond.code yX0_productAt cX0_productAt 5 (some .int), Cond.fieldLink RX0 13 "VoiceParts" "voiceNumbers" "[I", Cond.methodLink RX0 51 yX0_bestPeriod, Cond.instanceMethod yX0_bestPeriod, Cond.selects RX0 yX0_bestPeriod yX0_bestPeriod, Cond.code yX0_bestPeriod cX0_bestPeriod 5 (some .int), Cond.methodLink RX0 170 yX0_priceOfPeriod, Cond.instanceMethod yX0_priceOfPeriod, Cond.selects RX0 yX0_priceOfPeriod yX0_priceOfPeriod, Cond.code yX0_priceOfPeriod cX0_priceOfPeriod 5 (some .int), Cond.methodLink RX0 116 Lib.Math.abs.name, Cond.static Lib.Math.abs.name, Cond.initialized "java/lang/Math", Cond.code Lib.Math.abs.name Lib.Math.abs.code 1 (some .int), Cond.methodLink RX0 55 yX0_backgroundAt, Cond.instanceMethod yX0_backgroundAt, Cond.selects RX0 yX0_backgroundAt yX0_backgroundAt, Cond.code yX0_backgroundAt cX0_backgroundAt 7 (some .int), Cond.methodLink RX0 164 yX0_areInStep, Cond.static yX0_areInStep, Cond.code yX0_areInStep cX0_areInStep 3 (some .boolean), Cond.methodLink RX0 167 yX0_howManyAhead]
def wsX0_at_r3 : List Cond := [Cond.instanceMethod yX0_howManyAhead, Cond.selects RX0 yX0_howManyAhead yX0_howManyAhead, Cond.code yX0_howManyAhead cX0_howManyAhead 8 (some .int)]
def wsX0_at : List Cond := .code yX0_at cX0_at 4 (some .int) :: ((wsX0_at_r1 ++ (wsX0_at_r2 ++ wsX0_at_r3)) ++ wsX00)
def wsX0_isVoice : List Cond := .code yX0_isVoice cX0_isVoice 2 (some .boolean) :: ([.fieldLink RX0 137 "VoiceParts" "voices" "I", .methodLink RX0 33 yX0_within, .static yX0_within, .initialized RX0, .code yX0_within cX0_within 3 (some .boolean)] ++ wsX00)
def wsX0_howManyOf : List Cond := .code yX0_howManyOf cX0_howManyOf 2 (some .int) :: ([.fieldLink RX0 86 "VoiceParts" "tones" "I", .fieldLink RX0 107 "VoiceParts" "times" "I"] ++ wsX00)
def wsX0_isNumber : List Cond := .code yX0_isNumber cX0_isNumber 4 (some .boolean) :: ([.methodLink RX0 101 yX0_isVoice, .instanceMethod yX0_isVoice, .selects RX0 yX0_isVoice yX0_isVoice, .initialized RX0, .code yX0_isVoice cX0_isVoice 2 (some .boolean), .fieldLink RX0 137 "VoiceParts" "voices" "I", .methodLink RX0 33 yX0_within, .static yX0_within, .code yX0_within cX0_within 3 (some .boolean), .methodLink RX0 146 yX0_howManyOf, .instanceMethod yX0_howManyOf, .selects RX0 yX0_howManyOf yX0_howManyOf, .code yX0_howManyOf cX0_howManyOf 2 (some .int), .fieldLink RX0 86 "VoiceParts" "tones" "I", .fieldLink RX0 107 "VoiceParts" "times" "I"] ++ wsX00)
def wsX0_place : List Cond := .code yX0_place cX0_place 3 (some .int) :: ([])
def wsX0_number : List Cond := .code yX0_number cX0_number 4 (some .int) :: ([.fieldLink RX0 13 "VoiceParts" "voiceNumbers" "[I", .methodLink RX0 59 yX0_isNumber, .instanceMethod yX0_isNumber, .selects RX0 yX0_isNumber yX0_isNumber, .initialized RX0, .code yX0_isNumber cX0_isNumber 4 (some .boolean), .methodLink RX0 101 yX0_isVoice, .instanceMethod yX0_isVoice, .selects RX0 yX0_isVoice yX0_isVoice, .code yX0_isVoice cX0_isVoice 2 (some .boolean), .fieldLink RX0 137 "VoiceParts" "voices" "I", .methodLink RX0 33 yX0_within, .static yX0_within, .code yX0_within cX0_within 3 (some .boolean), .methodLink RX0 146 yX0_howManyOf, .instanceMethod yX0_howManyOf, .selects RX0 yX0_howManyOf yX0_howManyOf, .code yX0_howManyOf cX0_howManyOf 2 (some .int), .fieldLink RX0 86 "VoiceParts" "tones" "I", .fieldLink RX0 107 "VoiceParts" "times" "I", .methodLink RX0 62 yX0_place, .static yX0_place, .code yX0_place cX0_place 3 (some .int)] ++ wsX00)
def wsX0_isBarred : List Cond := .code yX0_isBarred cX0_isBarred 2 (some .boolean) :: ([.fieldLink RX0 69 "VoiceParts" "barred" "J"] ++ wsX00)
def wsX0_begin_r1 : List Cond := [Cond.fieldLink RX0 13 "VoiceParts" "voiceNumbers" "[I", Cond.methodLink RX0 59 yX0_isNumber, Cond.instanceMethod yX0_isNumber, Cond.selects RX0 yX0_isNumber yX0_isNumber, Cond.initialized RX0, Cond.code yX0_isNumber cX0_isNumber 4 (some .boolean), Cond.methodLink RX0 101 yX0_isVoice, Cond.instanceMethod yX0_isVoice, Cond.selects RX0 yX0_isVoice yX0_isVoice, Cond.code yX0_isVoice cX0_isVoice 2 (some .boolean), Cond.fieldLink RX0 137 "VoiceParts" "voices" "I", Cond.methodLink RX0 33 yX0_within, Cond.static yX0_within, Cond.code yX0_within cX0_within 3 (some .boolean), Cond.methodLink RX0 146 yX0_howManyOf, Cond.instanceMethod yX0_howManyOf, Cond.selects RX0 yX0_howManyOf yX0_howManyOf, Cond.code yX0_howManyOf cX0_howManyOf 2 (some .int), Cond.fieldLink RX0 86 "VoiceParts" "tones" "I", Cond.fieldLink RX0 107 "VoiceParts" "times" "I", Cond.methodLink RX0 62 yX0_place, Cond.static yX0_place, Cond.code yX0_place cX0_place 3 (some .int), Cond.methodLink RX0 65 yX0_isBarred]
def wsX0_begin_r2 : List Cond := [Cond.instanceMethod yX0_isBarred, Cond.selects RX0 yX0_isBarred yX0_isBarred, Cond.code yX0_isBarred cX0_isBarred 2 (some .boolean), Cond.fieldLink RX0 69 "VoiceParts" "barred" "J"]
def wsX0_begin : List Cond := .code yX0_begin cX0_begin 7 (some .int) :: ((wsX0_begin_r1 ++ wsX0_begin_r2) ++ wsX00)
def wsX0_bar_r1 : List Cond := [Cond.fieldLink RX0 13 "VoiceParts" "voiceNumbers" "[I", Cond.fieldLink RX0 69 "VoiceParts" "barred" "J", Cond.methodLink RX0 59 yX0_isNumber, Cond.instanceMethod yX0_isNumber, Cond.selects RX0 yX0_isNumber yX0_isNumber, Cond.initialized RX0, Cond.code yX0_isNumber cX0_isNumber 4 (some .boolean), Cond.methodLink RX0 101 yX0_isVoice, Cond.instanceMethod yX0_isVoice, Cond.selects RX0 yX0_isVoice yX0_isVoice, Cond.code yX0_isVoice cX0_isVoice 2 (some .boolean), Cond.fieldLink RX0 137 "VoiceParts" "voices" "I", Cond.methodLink RX0 33 yX0_within, Cond.static yX0_within, Cond.code yX0_within cX0_within 3 (some .boolean), Cond.methodLink RX0 146 yX0_howManyOf, Cond.instanceMethod yX0_howManyOf, Cond.selects RX0 yX0_howManyOf yX0_howManyOf, Cond.code yX0_howManyOf cX0_howManyOf 2 (some .int), Cond.fieldLink RX0 86 "VoiceParts" "tones" "I", Cond.fieldLink RX0 107 "VoiceParts" "times" "I", Cond.methodLink RX0 62 yX0_place, Cond.static yX0_place, Cond.code yX0_place cX0_place 3 (some .int)]
def wsX0_bar_r2 : List Cond := [Cond.methodLink RX0 65 yX0_isBarred, Cond.instanceMethod yX0_isBarred, Cond.selects RX0 yX0_isBarred yX0_isBarred, Cond.code yX0_isBarred cX0_isBarred 2 (some .boolean)]
def wsX0_bar : List Cond := .code yX0_bar cX0_bar 6 (some .int) :: ((wsX0_bar_r1 ++ wsX0_bar_r2) ++ wsX00)
def wsX0_isKind : List Cond := .code yX0_isKind cX0_isKind 1 (some .boolean) :: ([.methodLink RX0 33 yX0_within, .static yX0_within, .initialized RX0, .code yX0_within cX0_within 3 (some .boolean)])
def wsX0_judge : List Cond := .code yX0_judge cX0_judge 3 (some .int) :: ([.fieldLink RX0 29 "VoiceParts" "judgeKind" "I", .methodLink RX0 73 yX0_isKind, .static yX0_isKind, .initialized RX0, .code yX0_isKind cX0_isKind 1 (some .boolean), .methodLink RX0 33 yX0_within, .static yX0_within, .code yX0_within cX0_within 3 (some .boolean)] ++ wsX00)
def wsX0_traceOfKind : List Cond := .code yX0_traceOfKind cX0_traceOfKind 1 (some .int) :: ([])
def wsX0_costBy : List Cond := .code yX0_costBy cX0_costBy 3 (some .int) :: ([])
def wsX0_cost : List Cond := .code yX0_cost cX0_cost 3 (some .int) :: ([.fieldLink RX0 76 "VoiceParts" "traceSum" "J", .methodLink RX0 73 yX0_isKind, .static yX0_isKind, .initialized RX0, .code yX0_isKind cX0_isKind 1 (some .boolean), .methodLink RX0 33 yX0_within, .static yX0_within, .code yX0_within cX0_within 3 (some .boolean), .methodLink RX0 79 yX0_traceOfKind, .static yX0_traceOfKind, .code yX0_traceOfKind cX0_traceOfKind 1 (some .int), .methodLink RX0 83 yX0_costBy, .static yX0_costBy, .code yX0_costBy cX0_costBy 3 (some .int)] ++ wsX00)
def wsX0_costAt_r1 : List Cond := [Cond.fieldLink RX0 29 "VoiceParts" "judgeKind" "I", Cond.methodLink RX0 116 Lib.Math.abs.name, Cond.static Lib.Math.abs.name, Cond.initialized "java/lang/Math", Cond.code Lib.Math.abs.name Lib.Math.abs.code 1 (some .int), Cond.methodLink RX0 41 yX0_boardAt, Cond.instanceMethod yX0_boardAt, Cond.selects RX0 yX0_boardAt yX0_boardAt, Cond.initialized RX0, Cond.code yX0_boardAt cX0_boardAt 3 (some .int), Cond.fieldLink RX0 9 "VoiceParts" "boardNumbers" "[I", Cond.methodLink RX0 45 yX0_cell, Cond.static yX0_cell, Cond.code yX0_cell cX0_cell 2 (some .int), Cond.methodLink RX0 48 yX0_sumAt, Cond.instanceMethod yX0_sumAt, Cond.selects RX0 yX0_sumAt yX0_sumAt, Cond.code yX0_sumAt cX0_sumAt 5 (some .int), Cond.fieldLink RX0 137 "VoiceParts" "voices" "I", Cond.methodLink RX0 155 yX0_productAt, Cond.instanceMethod yX0_productAt, Cond.selects RX0 yX0_productAt yX0_productAt, Cond.code yX0_productAt cX0_productAt 5 (some .int), Cond.fieldLink RX0 13 "VoiceParts" "voiceNumbers" "[I"]
def wsX0_costAt_r2 : List Cond := [Cond.methodLink RX0 83 yX0_costBy, Cond.static yX0_costBy, Cond.code yX0_costBy cX0_costBy 3 (some .int)]
def wsX0_costAt : List Cond := .code yX0_costAt cX0_costAt 3 (some .int) :: ((wsX0_costAt_r1 ++ wsX0_costAt_r2) ++ wsX00)
def wsX0_missAlong_r1 : List Cond := [Cond.methodLink RX0 146 yX0_howManyOf, Cond.instanceMethod yX0_howManyOf, Cond.selects RX0 yX0_howManyOf yX0_howManyOf, Cond.initialized RX0, Cond.code yX0_howManyOf cX0_howManyOf 2 (some .int), Cond.fieldLink RX0 86 "VoiceParts" "tones" "I", Cond.fieldLink RX0 107 "VoiceParts" "times" "I", Cond.methodLink RX0 158 yX0_costAt, Cond.instanceMethod yX0_costAt, Cond.selects RX0 yX0_costAt yX0_costAt, Cond.code yX0_costAt cX0_costAt 3 (some .int), Cond.fieldLink RX0 29 "VoiceParts" "judgeKind" "I", Cond.methodLink RX0 116 Lib.Math.abs.name, Cond.static Lib.Math.abs.name, Cond.initialized "java/lang/Math", Cond.code Lib.Math.abs.name Lib.Math.abs.code 1 (some .int), Cond.methodLink RX0 41 yX0_boardAt, Cond.instanceMethod yX0_boardAt, Cond.selects RX0 yX0_boardAt yX0_boardAt, Cond.code yX0_boardAt cX0_boardAt 3 (some .int), Cond.fieldLink RX0 9 "VoiceParts" "boardNumbers" "[I", Cond.methodLink RX0 45 yX0_cell, Cond.static yX0_cell, Cond.code yX0_cell cX0_cell 2 (some .int)]
def wsX0_missAlong_r2 : List Cond := [Cond.methodLink RX0 48 yX0_sumAt, Cond.instanceMethod yX0_sumAt, Cond.selects RX0 yX0_sumAt yX0_sumAt, Cond.code yX0_sumAt cX0_sumAt 5 (some .int), Cond.fieldLink RX0 137 "VoiceParts" "voices" "I", Cond.methodLink RX0 155 yX0_productAt, Cond.instanceMethod yX0_productAt, Cond.selects RX0 yX0_productAt yX0_productAt, Cond.code yX0_productAt cX0_productAt 5 (some .int), Cond.fieldLink RX0 13 "VoiceParts" "voiceNumbers" "[I", Cond.methodLink RX0 83 yX0_costBy, Cond.static yX0_costBy, Cond.code yX0_costBy cX0_costBy 3 (some .int)]
def wsX0_missAlong : List Cond := .code yX0_missAlong cX0_missAlong 6 (some .int) :: ((wsX0_missAlong_r1 ++ wsX0_missAlong_r2) ++ wsX00)
def wsX0_miss_r1 : List Cond := [Cond.fieldLink RX0 86 "VoiceParts" "tones" "I", Cond.methodLink RX0 89 yX0_missAlong, Cond.instanceMethod yX0_missAlong, Cond.selects RX0 yX0_missAlong yX0_missAlong, Cond.initialized RX0, Cond.code yX0_missAlong cX0_missAlong 6 (some .int), Cond.methodLink RX0 146 yX0_howManyOf, Cond.instanceMethod yX0_howManyOf, Cond.selects RX0 yX0_howManyOf yX0_howManyOf, Cond.code yX0_howManyOf cX0_howManyOf 2 (some .int), Cond.fieldLink RX0 107 "VoiceParts" "times" "I", Cond.methodLink RX0 158 yX0_costAt, Cond.instanceMethod yX0_costAt, Cond.selects RX0 yX0_costAt yX0_costAt, Cond.code yX0_costAt cX0_costAt 3 (some .int), Cond.fieldLink RX0 29 "VoiceParts" "judgeKind" "I", Cond.methodLink RX0 116 Lib.Math.abs.name, Cond.static Lib.Math.abs.name, Cond.initialized "java/lang/Math", Cond.code Lib.Math.abs.name Lib.Math.abs.code 1 (some .int), Cond.methodLink RX0 41 yX0_boardAt, Cond.instanceMethod yX0_boardAt, Cond.selects RX0 yX0_boardAt yX0_boardAt, Cond.code yX0_boardAt cX0_boardAt 3 (some .int)]
def wsX0_miss_r2 : List Cond := [Cond.fieldLink RX0 9 "VoiceParts" "boardNumbers" "[I", Cond.methodLink RX0 45 yX0_cell, Cond.static yX0_cell, Cond.code yX0_cell cX0_cell 2 (some .int), Cond.methodLink RX0 48 yX0_sumAt, Cond.instanceMethod yX0_sumAt, Cond.selects RX0 yX0_sumAt yX0_sumAt, Cond.code yX0_sumAt cX0_sumAt 5 (some .int), Cond.fieldLink RX0 137 "VoiceParts" "voices" "I", Cond.methodLink RX0 155 yX0_productAt, Cond.instanceMethod yX0_productAt, Cond.selects RX0 yX0_productAt yX0_productAt, Cond.code yX0_productAt cX0_productAt 5 (some .int), Cond.fieldLink RX0 13 "VoiceParts" "voiceNumbers" "[I", Cond.methodLink RX0 83 yX0_costBy, Cond.static yX0_costBy, Cond.code yX0_costBy cX0_costBy 3 (some .int)]
def wsX0_miss : List Cond := .code yX0_miss cX0_miss 3 (some .int) :: ((wsX0_miss_r1 ++ wsX0_miss_r2) ++ wsX00)
def wsX0_stepNumber_r1 : List Cond := [Cond.fieldLink RX0 13 "VoiceParts" "voiceNumbers" "[I", Cond.methodLink RX0 62 yX0_place, Cond.static yX0_place, Cond.initialized RX0, Cond.code yX0_place cX0_place 3 (some .int), Cond.methodLink RX0 65 yX0_isBarred, Cond.instanceMethod yX0_isBarred, Cond.selects RX0 yX0_isBarred yX0_isBarred, Cond.code yX0_isBarred cX0_isBarred 2 (some .boolean), Cond.fieldLink RX0 69 "VoiceParts" "barred" "J", Cond.methodLink RX0 89 yX0_missAlong, Cond.instanceMethod yX0_missAlong, Cond.selects RX0 yX0_missAlong yX0_missAlong, Cond.code yX0_missAlong cX0_missAlong 6 (some .int), Cond.methodLink RX0 146 yX0_howManyOf, Cond.instanceMethod yX0_howManyOf, Cond.selects RX0 yX0_howManyOf yX0_howManyOf, Cond.code yX0_howManyOf cX0_howManyOf 2 (some .int), Cond.fieldLink RX0 86 "VoiceParts" "tones" "I", Cond.fieldLink RX0 107 "VoiceParts" "times" "I", Cond.methodLink RX0 158 yX0_costAt, Cond.instanceMethod yX0_costAt, Cond.selects RX0 yX0_costAt yX0_costAt, Cond.code yX0_costAt cX0_costAt 3 (some .int)]
def wsX0_stepNumber_r2 : List Cond := [Cond.fieldLink RX0 29 "VoiceParts" "judgeKind" "I", Cond.methodLink RX0 116 Lib.Math.abs.name, Cond.static Lib.Math.abs.name, Cond.initialized "java/lang/Math", Cond.code Lib.Math.abs.name Lib.Math.abs.code 1 (some .int), Cond.methodLink RX0 41 yX0_boardAt, Cond.instanceMethod yX0_boardAt, Cond.selects RX0 yX0_boardAt yX0_boardAt, Cond.code yX0_boardAt cX0_boardAt 3 (some .int), Cond.fieldLink RX0 9 "VoiceParts" "boardNumbers" "[I", Cond.methodLink RX0 45 yX0_cell, Cond.static yX0_cell, Cond.code yX0_cell cX0_cell 2 (some .int), Cond.methodLink RX0 48 yX0_sumAt, Cond.instanceMethod yX0_sumAt, Cond.selects RX0 yX0_sumAt yX0_sumAt, Cond.code yX0_sumAt cX0_sumAt 5 (some .int), Cond.fieldLink RX0 137 "VoiceParts" "voices" "I", Cond.methodLink RX0 155 yX0_productAt, Cond.instanceMethod yX0_productAt, Cond.selects RX0 yX0_productAt yX0_productAt, Cond.code yX0_productAt cX0_productAt 5 (some .int), Cond.methodLink RX0 83 yX0_costBy, Cond.static yX0_costBy]
def wsX0_stepNumber_r3 : List Cond := [Cond.code yX0_costBy cX0_costBy 3 (some .int), Cond.methodLink RX0 33 yX0_within, Cond.static yX0_within, Cond.code yX0_within cX0_within 3 (some .boolean)]
def wsX0_stepNumber : List Cond := .code yX0_stepNumber cX0_stepNumber 10 none :: ((wsX0_stepNumber_r1 ++ (wsX0_stepNumber_r2 ++ wsX0_stepNumber_r3)) ++ wsX00)
def wsX0_playRound_r1 : List Cond := [Cond.fieldLink RX0 137 "VoiceParts" "voices" "I", Cond.methodLink RX0 146 yX0_howManyOf, Cond.instanceMethod yX0_howManyOf, Cond.selects RX0 yX0_howManyOf yX0_howManyOf, Cond.initialized RX0, Cond.code yX0_howManyOf cX0_howManyOf 2 (some .int), Cond.fieldLink RX0 86 "VoiceParts" "tones" "I", Cond.fieldLink RX0 107 "VoiceParts" "times" "I", Cond.methodLink RX0 161 yX0_stepNumber, Cond.instanceMethod yX0_stepNumber, Cond.selects RX0 yX0_stepNumber yX0_stepNumber, Cond.code yX0_stepNumber cX0_stepNumber 10 none, Cond.fieldLink RX0 13 "VoiceParts" "voiceNumbers" "[I", Cond.methodLink RX0 62 yX0_place, Cond.static yX0_place, Cond.code yX0_place cX0_place 3 (some .int), Cond.methodLink RX0 65 yX0_isBarred, Cond.instanceMethod yX0_isBarred, Cond.selects RX0 yX0_isBarred yX0_isBarred, Cond.code yX0_isBarred cX0_isBarred 2 (some .boolean), Cond.fieldLink RX0 69 "VoiceParts" "barred" "J", Cond.methodLink RX0 89 yX0_missAlong, Cond.instanceMethod yX0_missAlong, Cond.selects RX0 yX0_missAlong yX0_missAlong]
def wsX0_playRound_r2 : List Cond := [Cond.code yX0_missAlong cX0_missAlong 6 (some .int), Cond.methodLink RX0 158 yX0_costAt, Cond.instanceMethod yX0_costAt, Cond.selects RX0 yX0_costAt yX0_costAt, Cond.code yX0_costAt cX0_costAt 3 (some .int), Cond.fieldLink RX0 29 "VoiceParts" "judgeKind" "I", Cond.methodLink RX0 116 Lib.Math.abs.name, Cond.static Lib.Math.abs.name, Cond.initialized "java/lang/Math", Cond.code Lib.Math.abs.name Lib.Math.abs.code 1 (some .int), Cond.methodLink RX0 41 yX0_boardAt, Cond.instanceMethod yX0_boardAt, Cond.selects RX0 yX0_boardAt yX0_boardAt, Cond.code yX0_boardAt cX0_boardAt 3 (some .int), Cond.fieldLink RX0 9 "VoiceParts" "boardNumbers" "[I", Cond.methodLink RX0 45 yX0_cell, Cond.static yX0_cell, Cond.code yX0_cell cX0_cell 2 (some .int), Cond.methodLink RX0 48 yX0_sumAt, Cond.instanceMethod yX0_sumAt, Cond.selects RX0 yX0_sumAt yX0_sumAt, Cond.code yX0_sumAt cX0_sumAt 5 (some .int), Cond.methodLink RX0 155 yX0_productAt, Cond.instanceMethod yX0_productAt]
def wsX0_playRound_r3 : List Cond := [Cond.selects RX0 yX0_productAt yX0_productAt, Cond.code yX0_productAt cX0_productAt 5 (some .int), Cond.methodLink RX0 83 yX0_costBy, Cond.static yX0_costBy, Cond.code yX0_costBy cX0_costBy 3 (some .int), Cond.methodLink RX0 33 yX0_within, Cond.static yX0_within, Cond.code yX0_within cX0_within 3 (some .boolean)]
def wsX0_playRound : List Cond := .code yX0_playRound cX0_playRound 5 none :: ((wsX0_playRound_r1 ++ (wsX0_playRound_r2 ++ wsX0_playRound_r3)) ++ wsX00)
def wsX0_rounds_r1 : List Cond := [Cond.fieldLink RX0 95 "VoiceParts" "roundsEver" "I", Cond.methodLink RX0 33 yX0_within, Cond.static yX0_within, Cond.initialized RX0, Cond.code yX0_within cX0_within 3 (some .boolean), Cond.methodLink RX0 92 yX0_playRound, Cond.instanceMethod yX0_playRound, Cond.selects RX0 yX0_playRound yX0_playRound, Cond.code yX0_playRound cX0_playRound 5 none, Cond.fieldLink RX0 137 "VoiceParts" "voices" "I", Cond.methodLink RX0 146 yX0_howManyOf, Cond.instanceMethod yX0_howManyOf, Cond.selects RX0 yX0_howManyOf yX0_howManyOf, Cond.code yX0_howManyOf cX0_howManyOf 2 (some .int), Cond.fieldLink RX0 86 "VoiceParts" "tones" "I", Cond.fieldLink RX0 107 "VoiceParts" "times" "I", Cond.methodLink RX0 161 yX0_stepNumber, Cond.instanceMethod yX0_stepNumber, Cond.selects RX0 yX0_stepNumber yX0_stepNumber, Cond.code yX0_stepNumber cX0_stepNumber 10 none, Cond.fieldLink RX0 13 "VoiceParts" "voiceNumbers" "[I", Cond.methodLink RX0 62 yX0_place, Cond.static yX0_place, Cond.code yX0_place cX0_place 3 (some .int)]
def wsX0_rounds_r2 : List Cond := [Cond.methodLink RX0 65 yX0_isBarred, Cond.instanceMethod yX0_isBarred, Cond.selects RX0 yX0_isBarred yX0_isBarred, Cond.code yX0_isBarred cX0_isBarred 2 (some .boolean), Cond.fieldLink RX0 69 "VoiceParts" "barred" "J", Cond.methodLink RX0 89 yX0_missAlong, Cond.instanceMethod yX0_missAlong, Cond.selects RX0 yX0_missAlong yX0_missAlong, Cond.code yX0_missAlong cX0_missAlong 6 (some .int), Cond.methodLink RX0 158 yX0_costAt, Cond.instanceMethod yX0_costAt, Cond.selects RX0 yX0_costAt yX0_costAt, Cond.code yX0_costAt cX0_costAt 3 (some .int), Cond.fieldLink RX0 29 "VoiceParts" "judgeKind" "I", Cond.methodLink RX0 116 Lib.Math.abs.name, Cond.static Lib.Math.abs.name, Cond.initialized "java/lang/Math", Cond.code Lib.Math.abs.name Lib.Math.abs.code 1 (some .int), Cond.methodLink RX0 41 yX0_boardAt, Cond.instanceMethod yX0_boardAt, Cond.selects RX0 yX0_boardAt yX0_boardAt, Cond.code yX0_boardAt cX0_boardAt 3 (some .int), Cond.fieldLink RX0 9 "VoiceParts" "boardNumbers" "[I", Cond.methodLink RX0 45 yX0_cell]
def wsX0_rounds_r3 : List Cond := [Cond.static yX0_cell, Cond.code yX0_cell cX0_cell 2 (some .int), Cond.methodLink RX0 48 yX0_sumAt, Cond.instanceMethod yX0_sumAt, Cond.selects RX0 yX0_sumAt yX0_sumAt, Cond.code yX0_sumAt cX0_sumAt 5 (some .int), Cond.methodLink RX0 155 yX0_productAt, Cond.instanceMethod yX0_productAt, Cond.selects RX0 yX0_productAt yX0_productAt, Cond.code yX0_productAt cX0_productAt 5 (some .int), Cond.methodLink RX0 83 yX0_costBy, Cond.static yX0_costBy, Cond.code yX0_costBy cX0_costBy 3 (some .int), Cond.methodLink RX0 98 yX0_miss, Cond.instanceMethod yX0_miss, Cond.selects RX0 yX0_miss yX0_miss, Cond.code yX0_miss cX0_miss 3 (some .int)]
def wsX0_rounds : List Cond := .code yX0_rounds cX0_rounds 3 (some .int) :: ((wsX0_rounds_r1 ++ (wsX0_rounds_r2 ++ wsX0_rounds_r3)) ++ wsX00)
def wsX0_shareAt : List Cond := .code yX0_shareAt cX0_shareAt 11 (some .int) :: ([.fieldLink RX0 137 "VoiceParts" "voices" "I", .methodLink RX0 41 yX0_boardAt, .instanceMethod yX0_boardAt, .selects RX0 yX0_boardAt yX0_boardAt, .initialized RX0, .code yX0_boardAt cX0_boardAt 3 (some .int), .fieldLink RX0 9 "VoiceParts" "boardNumbers" "[I", .methodLink RX0 45 yX0_cell, .static yX0_cell, .code yX0_cell cX0_cell 2 (some .int), .methodLink RX0 48 yX0_sumAt, .instanceMethod yX0_sumAt, .selects RX0 yX0_sumAt yX0_sumAt, .code yX0_sumAt cX0_sumAt 5 (some .int), .methodLink RX0 155 yX0_productAt, .instanceMethod yX0_productAt, .selects RX0 yX0_productAt yX0_productAt, .code yX0_productAt cX0_productAt 5 (some .int), .fieldLink RX0 13 "VoiceParts" "voiceNumbers" "[I"] ++ wsX00)
def wsX0_share_r1 : List Cond := [Cond.methodLink RX0 101 yX0_isVoice, Cond.instanceMethod yX0_isVoice, Cond.selects RX0 yX0_isVoice yX0_isVoice, Cond.initialized RX0, Cond.code yX0_isVoice cX0_isVoice 2 (some .boolean), Cond.fieldLink RX0 137 "VoiceParts" "voices" "I", Cond.methodLink RX0 33 yX0_within, Cond.static yX0_within, Cond.code yX0_within cX0_within 3 (some .boolean), Cond.methodLink RX0 37 yX0_isCell, Cond.instanceMethod yX0_isCell, Cond.selects RX0 yX0_isCell yX0_isCell, Cond.code yX0_isCell cX0_isCell 3 (some .boolean), Cond.fieldLink RX0 86 "VoiceParts" "tones" "I", Cond.fieldLink RX0 107 "VoiceParts" "times" "I", Cond.methodLink RX0 104 yX0_shareAt, Cond.instanceMethod yX0_shareAt, Cond.selects RX0 yX0_shareAt yX0_shareAt, Cond.code yX0_shareAt cX0_shareAt 11 (some .int), Cond.methodLink RX0 41 yX0_boardAt, Cond.instanceMethod yX0_boardAt, Cond.selects RX0 yX0_boardAt yX0_boardAt, Cond.code yX0_boardAt cX0_boardAt 3 (some .int), Cond.fieldLink RX0 9 "VoiceParts" "boardNumbers" "[I"]
def wsX0_share_r2 : List Cond := [Cond.methodLink RX0 45 yX0_cell, Cond.static yX0_cell, Cond.code yX0_cell cX0_cell 2 (some .int), Cond.methodLink RX0 48 yX0_sumAt, Cond.instanceMethod yX0_sumAt, Cond.selects RX0 yX0_sumAt yX0_sumAt, Cond.code yX0_sumAt cX0_sumAt 5 (some .int), Cond.methodLink RX0 155 yX0_productAt, Cond.instanceMethod yX0_productAt, Cond.selects RX0 yX0_productAt yX0_productAt, Cond.code yX0_productAt cX0_productAt 5 (some .int), Cond.fieldLink RX0 13 "VoiceParts" "voiceNumbers" "[I"]
def wsX0_share : List Cond := .code yX0_share cX0_share 4 (some .int) :: ((wsX0_share_r1 ++ wsX0_share_r2) ++ wsX00)
def wsX0_background_r1 : List Cond := [Cond.fieldLink RX0 107 "VoiceParts" "times" "I", Cond.methodLink RX0 33 yX0_within, Cond.static yX0_within, Cond.initialized RX0, Cond.code yX0_within cX0_within 3 (some .boolean), Cond.methodLink RX0 37 yX0_isCell, Cond.instanceMethod yX0_isCell, Cond.selects RX0 yX0_isCell yX0_isCell, Cond.code yX0_isCell cX0_isCell 3 (some .boolean), Cond.fieldLink RX0 86 "VoiceParts" "tones" "I", Cond.methodLink RX0 55 yX0_backgroundAt, Cond.instanceMethod yX0_backgroundAt, Cond.selects RX0 yX0_backgroundAt yX0_backgroundAt, Cond.code yX0_backgroundAt cX0_backgroundAt 7 (some .int), Cond.methodLink RX0 164 yX0_areInStep, Cond.static yX0_areInStep, Cond.code yX0_areInStep cX0_areInStep 3 (some .boolean), Cond.methodLink RX0 167 yX0_howManyAhead, Cond.instanceMethod yX0_howManyAhead, Cond.selects RX0 yX0_howManyAhead yX0_howManyAhead, Cond.code yX0_howManyAhead cX0_howManyAhead 8 (some .int), Cond.methodLink RX0 41 yX0_boardAt, Cond.instanceMethod yX0_boardAt, Cond.selects RX0 yX0_boardAt yX0_boardAt]
def wsX0_background_r2 : List Cond := [Cond.code yX0_boardAt cX0_boardAt 3 (some .int), Cond.fieldLink RX0 9 "VoiceParts" "boardNumbers" "[I", Cond.methodLink RX0 45 yX0_cell, Cond.static yX0_cell, Cond.code yX0_cell cX0_cell 2 (some .int)]
def wsX0_background : List Cond := .code yX0_background cX0_background 4 (some .int) :: ((wsX0_background_r1 ++ wsX0_background_r2) ++ wsX00)
def wsX0_period_r1 : List Cond := [Cond.methodLink RX0 51 yX0_bestPeriod, Cond.instanceMethod yX0_bestPeriod, Cond.selects RX0 yX0_bestPeriod yX0_bestPeriod, Cond.initialized RX0, Cond.code yX0_bestPeriod cX0_bestPeriod 5 (some .int), Cond.fieldLink RX0 107 "VoiceParts" "times" "I", Cond.methodLink RX0 170 yX0_priceOfPeriod, Cond.instanceMethod yX0_priceOfPeriod, Cond.selects RX0 yX0_priceOfPeriod yX0_priceOfPeriod, Cond.code yX0_priceOfPeriod cX0_priceOfPeriod 5 (some .int), Cond.fieldLink RX0 86 "VoiceParts" "tones" "I", Cond.methodLink RX0 116 Lib.Math.abs.name, Cond.static Lib.Math.abs.name, Cond.initialized "java/lang/Math", Cond.code Lib.Math.abs.name Lib.Math.abs.code 1 (some .int), Cond.methodLink RX0 41 yX0_boardAt, Cond.instanceMethod yX0_boardAt, Cond.selects RX0 yX0_boardAt yX0_boardAt, Cond.code yX0_boardAt cX0_boardAt 3 (some .int), Cond.fieldLink RX0 9 "VoiceParts" "boardNumbers" "[I", Cond.methodLink RX0 45 yX0_cell, Cond.static yX0_cell, Cond.code yX0_cell cX0_cell 2 (some .int), Cond.methodLink RX0 55 yX0_backgroundAt]
def wsX0_period_r2 : List Cond := [Cond.instanceMethod yX0_backgroundAt, Cond.selects RX0 yX0_backgroundAt yX0_backgroundAt, Cond.code yX0_backgroundAt cX0_backgroundAt 7 (some .int), Cond.methodLink RX0 164 yX0_areInStep, Cond.static yX0_areInStep, Cond.code yX0_areInStep cX0_areInStep 3 (some .boolean), Cond.methodLink RX0 167 yX0_howManyAhead, Cond.instanceMethod yX0_howManyAhead, Cond.selects RX0 yX0_howManyAhead yX0_howManyAhead, Cond.code yX0_howManyAhead cX0_howManyAhead 8 (some .int)]
def wsX0_period : List Cond := .code yX0_period cX0_period 1 (some .int) :: ((wsX0_period_r1 ++ wsX0_period_r2) ++ wsX00)
def wsX0_isRow : List Cond := .code yX0_isRow cX0_isRow 1 (some .boolean) :: ([.methodLink RX0 33 yX0_within, .static yX0_within, .initialized RX0, .code yX0_within cX0_within 3 (some .boolean)])
def wsX0_hear : List Cond := .code yX0_hear cX0_hear 4 (some .int) :: ([.fieldLink RX0 22 "VoiceParts" "rowSizes" "[I", .fieldLink RX0 19 "VoiceParts" "rowNumbers" "[I", .methodLink RX0 110 yX0_isRow, .static yX0_isRow, .initialized RX0, .code yX0_isRow cX0_isRow 1 (some .boolean), .methodLink RX0 33 yX0_within, .static yX0_within, .code yX0_within cX0_within 3 (some .boolean)] ++ wsX00)
def wsX0_clear : List Cond := .code yX0_clear cX0_clear 3 (some .int) :: ([.fieldLink RX0 22 "VoiceParts" "rowSizes" "[I", .methodLink RX0 110 yX0_isRow, .static yX0_isRow, .initialized RX0, .code yX0_isRow cX0_isRow 1 (some .boolean), .methodLink RX0 33 yX0_within, .static yX0_within, .code yX0_within cX0_within 3 (some .boolean)] ++ wsX00)
def wsX0_productsAt : List Cond := .code yX0_productsAt cX0_productsAt 5 (some .int) :: ([.fieldLink RX0 22 "VoiceParts" "rowSizes" "[I", .fieldLink RX0 19 "VoiceParts" "rowNumbers" "[I", .methodLink RX0 33 yX0_within, .static yX0_within, .initialized RX0, .code yX0_within cX0_within 3 (some .boolean)] ++ wsX00)
def wsX0_later : List Cond := .code yX0_later cX0_later 6 (some .int) :: ([.fieldLink RX0 22 "VoiceParts" "rowSizes" "[I", .methodLink RX0 116 Lib.Math.abs.name, .static Lib.Math.abs.name, .initialized "java/lang/Math", .code Lib.Math.abs.name Lib.Math.abs.code 1 (some .int), .methodLink RX0 113 yX0_productsAt, .instanceMethod yX0_productsAt, .selects RX0 yX0_productsAt yX0_productsAt, .initialized RX0, .code yX0_productsAt cX0_productsAt 5 (some .int), .fieldLink RX0 19 "VoiceParts" "rowNumbers" "[I", .methodLink RX0 33 yX0_within, .static yX0_within, .code yX0_within cX0_within 3 (some .boolean)] ++ wsX00)
def wsJ6_bitCount_0f7a4 : List Cond := .code yJ6_bitCount_0f7a4 cJ6_bitCount_0f7a4 1 (some .int) :: ([.constant RJ6 265 (1431655765), .constant RJ6 266 (858993459), .constant RJ6 267 (252645135)])
def wsX0_sign : List Cond := .code yX0_sign cX0_sign 2 (some .int) :: ([.methodLink RX0 173 yJ6_bitCount_0f7a4, .static yJ6_bitCount_0f7a4, .initialized RJ6, .code yJ6_bitCount_0f7a4 cJ6_bitCount_0f7a4 1 (some .int), .constant RJ6 265 (1431655765), .constant RJ6 266 (858993459), .constant RJ6 267 (252645135)])
def wsX0_filledRowAt : List Cond := .code yX0_filledRowAt cX0_filledRowAt 2 (some .int) :: ([.fieldLink RX0 22 "VoiceParts" "rowSizes" "[I", .fieldLink RX0 19 "VoiceParts" "rowNumbers" "[I"] ++ wsX00)
def wsX0_turnedAt : List Cond := .code yX0_turnedAt cX0_turnedAt 4 (some .int) :: ([.methodLink RX0 177 yX0_sign, .static yX0_sign, .initialized RX0, .code yX0_sign cX0_sign 2 (some .int), .methodLink RX0 173 yJ6_bitCount_0f7a4, .static yJ6_bitCount_0f7a4, .initialized RJ6, .code yJ6_bitCount_0f7a4 cJ6_bitCount_0f7a4 1 (some .int), .constant RJ6 265 (1431655765), .constant RJ6 266 (858993459), .constant RJ6 267 (252645135), .methodLink RX0 180 yX0_filledRowAt, .instanceMethod yX0_filledRowAt, .selects RX0 yX0_filledRowAt yX0_filledRowAt, .code yX0_filledRowAt cX0_filledRowAt 2 (some .int), .fieldLink RX0 22 "VoiceParts" "rowSizes" "[I", .fieldLink RX0 19 "VoiceParts" "rowNumbers" "[I"] ++ wsX00)
def wsX0_backAt : List Cond := .code yX0_backAt cX0_backAt 4 (some .int) :: ([.methodLink RX0 177 yX0_sign, .static yX0_sign, .initialized RX0, .code yX0_sign cX0_sign 2 (some .int), .methodLink RX0 173 yJ6_bitCount_0f7a4, .static yJ6_bitCount_0f7a4, .initialized RJ6, .code yJ6_bitCount_0f7a4 cJ6_bitCount_0f7a4 1 (some .int), .constant RJ6 265 (1431655765), .constant RJ6 266 (858993459), .constant RJ6 267 (252645135), .methodLink RX0 122 yX0_turnedAt, .instanceMethod yX0_turnedAt, .selects RX0 yX0_turnedAt yX0_turnedAt, .code yX0_turnedAt cX0_turnedAt 4 (some .int), .methodLink RX0 180 yX0_filledRowAt, .instanceMethod yX0_filledRowAt, .selects RX0 yX0_filledRowAt yX0_filledRowAt, .code yX0_filledRowAt cX0_filledRowAt 2 (some .int), .fieldLink RX0 22 "VoiceParts" "rowSizes" "[I", .fieldLink RX0 19 "VoiceParts" "rowNumbers" "[I"] ++ wsX00)
def wsX0_turned_r1 : List Cond := [Cond.constant RX0 121 (-1000000), Cond.methodLink RX0 33 yX0_within, Cond.static yX0_within, Cond.initialized RX0, Cond.code yX0_within cX0_within 3 (some .boolean), Cond.methodLink RX0 122 yX0_turnedAt, Cond.instanceMethod yX0_turnedAt, Cond.selects RX0 yX0_turnedAt yX0_turnedAt, Cond.code yX0_turnedAt cX0_turnedAt 4 (some .int), Cond.methodLink RX0 177 yX0_sign, Cond.static yX0_sign, Cond.code yX0_sign cX0_sign 2 (some .int), Cond.methodLink RX0 173 yJ6_bitCount_0f7a4, Cond.static yJ6_bitCount_0f7a4, Cond.initialized RJ6, Cond.code yJ6_bitCount_0f7a4 cJ6_bitCount_0f7a4 1 (some .int), Cond.constant RJ6 265 (1431655765), Cond.constant RJ6 266 (858993459), Cond.constant RJ6 267 (252645135), Cond.methodLink RX0 180 yX0_filledRowAt, Cond.instanceMethod yX0_filledRowAt, Cond.selects RX0 yX0_filledRowAt yX0_filledRowAt, Cond.code yX0_filledRowAt cX0_filledRowAt 2 (some .int), Cond.fieldLink RX0 22 "VoiceParts" "rowSizes" "[I"]
def wsX0_turned_r2 : List Cond := [Cond.fieldLink RX0 19 "VoiceParts" "rowNumbers" "[I", Cond.methodLink RX0 125 yX0_backAt, Cond.instanceMethod yX0_backAt, Cond.selects RX0 yX0_backAt yX0_backAt, Cond.code yX0_backAt cX0_backAt 4 (some .int)]
def wsX0_turned : List Cond := .code yX0_turned cX0_turned 3 (some .int) :: ((wsX0_turned_r1 ++ wsX0_turned_r2) ++ wsX00)
def wsX0_truthPlace : List Cond := .code yX0_truthPlace cX0_truthPlace 3 (some .int) :: ([.methodLink RX0 45 yX0_cell, .static yX0_cell, .initialized RX0, .code yX0_cell cX0_cell 2 (some .int)])
def wsX0_truth : List Cond := .code yX0_truth cX0_truth 7 (some .int) :: ([.fieldLink RX0 16 "VoiceParts" "truthNumbers" "[I", .methodLink RX0 101 yX0_isVoice, .instanceMethod yX0_isVoice, .selects RX0 yX0_isVoice yX0_isVoice, .initialized RX0, .code yX0_isVoice cX0_isVoice 2 (some .boolean), .fieldLink RX0 137 "VoiceParts" "voices" "I", .methodLink RX0 33 yX0_within, .static yX0_within, .code yX0_within cX0_within 3 (some .boolean), .methodLink RX0 37 yX0_isCell, .instanceMethod yX0_isCell, .selects RX0 yX0_isCell yX0_isCell, .code yX0_isCell cX0_isCell 3 (some .boolean), .fieldLink RX0 86 "VoiceParts" "tones" "I", .fieldLink RX0 107 "VoiceParts" "times" "I", .methodLink RX0 128 yX0_truthPlace, .static yX0_truthPlace, .code yX0_truthPlace cX0_truthPlace 3 (some .int), .methodLink RX0 45 yX0_cell, .static yX0_cell, .code yX0_cell cX0_cell 2 (some .int)] ++ wsX00)
def wsX0_howManyOrders : List Cond := .code yX0_howManyOrders cX0_howManyOrders 1 (some .int) :: ([.fieldLink RX0 137 "VoiceParts" "voices" "I"] ++ wsX00)
def wsX0_voiceInOrder : List Cond := .code yX0_voiceInOrder cX0_voiceInOrder 3 (some .int) :: ([.fieldLink RX0 137 "VoiceParts" "voices" "I", .fieldLink RX0 183 "VoiceParts" "ORDERS_OF_ONE" "[I", .fieldLink RX0 186 "VoiceParts" "ORDERS_OF_TWO" "[I", .fieldLink RX0 189 "VoiceParts" "ORDERS_OF_THREE" "[I"] ++ wsX00)
def wsX0_apartOfVoice_r1 : List Cond := [Cond.fieldLink RX0 86 "VoiceParts" "tones" "I", Cond.fieldLink RX0 107 "VoiceParts" "times" "I", Cond.fieldLink RX0 16 "VoiceParts" "truthNumbers" "[I", Cond.methodLink RX0 116 Lib.Math.abs.name, Cond.static Lib.Math.abs.name, Cond.initialized "java/lang/Math", Cond.code Lib.Math.abs.name Lib.Math.abs.code 1 (some .int), Cond.methodLink RX0 128 yX0_truthPlace, Cond.static yX0_truthPlace, Cond.initialized RX0, Cond.code yX0_truthPlace cX0_truthPlace 3 (some .int), Cond.methodLink RX0 45 yX0_cell, Cond.static yX0_cell, Cond.code yX0_cell cX0_cell 2 (some .int), Cond.methodLink RX0 104 yX0_shareAt, Cond.instanceMethod yX0_shareAt, Cond.selects RX0 yX0_shareAt yX0_shareAt, Cond.code yX0_shareAt cX0_shareAt 11 (some .int), Cond.fieldLink RX0 137 "VoiceParts" "voices" "I", Cond.methodLink RX0 41 yX0_boardAt, Cond.instanceMethod yX0_boardAt, Cond.selects RX0 yX0_boardAt yX0_boardAt, Cond.code yX0_boardAt cX0_boardAt 3 (some .int), Cond.fieldLink RX0 9 "VoiceParts" "boardNumbers" "[I"]
def wsX0_apartOfVoice_r2 : List Cond := [Cond.methodLink RX0 48 yX0_sumAt, Cond.instanceMethod yX0_sumAt, Cond.selects RX0 yX0_sumAt yX0_sumAt, Cond.code yX0_sumAt cX0_sumAt 5 (some .int), Cond.methodLink RX0 155 yX0_productAt, Cond.instanceMethod yX0_productAt, Cond.selects RX0 yX0_productAt yX0_productAt, Cond.code yX0_productAt cX0_productAt 5 (some .int), Cond.fieldLink RX0 13 "VoiceParts" "voiceNumbers" "[I"]
def wsX0_apartOfVoice : List Cond := .code yX0_apartOfVoice cX0_apartOfVoice 7 (some .int) :: ((wsX0_apartOfVoice_r1 ++ wsX0_apartOfVoice_r2) ++ wsX00)
def wsX0_apartBy_r1 : List Cond := [Cond.fieldLink RX0 137 "VoiceParts" "voices" "I", Cond.methodLink RX0 192 yX0_voiceInOrder, Cond.instanceMethod yX0_voiceInOrder, Cond.selects RX0 yX0_voiceInOrder yX0_voiceInOrder, Cond.initialized RX0, Cond.code yX0_voiceInOrder cX0_voiceInOrder 3 (some .int), Cond.fieldLink RX0 183 "VoiceParts" "ORDERS_OF_ONE" "[I", Cond.fieldLink RX0 186 "VoiceParts" "ORDERS_OF_TWO" "[I", Cond.fieldLink RX0 189 "VoiceParts" "ORDERS_OF_THREE" "[I", Cond.methodLink RX0 195 yX0_apartOfVoice, Cond.instanceMethod yX0_apartOfVoice, Cond.selects RX0 yX0_apartOfVoice yX0_apartOfVoice, Cond.code yX0_apartOfVoice cX0_apartOfVoice 7 (some .int), Cond.fieldLink RX0 86 "VoiceParts" "tones" "I", Cond.fieldLink RX0 107 "VoiceParts" "times" "I", Cond.fieldLink RX0 16 "VoiceParts" "truthNumbers" "[I", Cond.methodLink RX0 116 Lib.Math.abs.name, Cond.static Lib.Math.abs.name, Cond.initialized "java/lang/Math", Cond.code Lib.Math.abs.name Lib.Math.abs.code 1 (some .int), Cond.methodLink RX0 128 yX0_truthPlace, Cond.static yX0_truthPlace, Cond.code yX0_truthPlace cX0_truthPlace 3 (some .int), Cond.methodLink RX0 45 yX0_cell]
def wsX0_apartBy_r2 : List Cond := [Cond.static yX0_cell, Cond.code yX0_cell cX0_cell 2 (some .int), Cond.methodLink RX0 104 yX0_shareAt, Cond.instanceMethod yX0_shareAt, Cond.selects RX0 yX0_shareAt yX0_shareAt, Cond.code yX0_shareAt cX0_shareAt 11 (some .int), Cond.methodLink RX0 41 yX0_boardAt, Cond.instanceMethod yX0_boardAt, Cond.selects RX0 yX0_boardAt yX0_boardAt, Cond.code yX0_boardAt cX0_boardAt 3 (some .int), Cond.fieldLink RX0 9 "VoiceParts" "boardNumbers" "[I", Cond.methodLink RX0 48 yX0_sumAt, Cond.instanceMethod yX0_sumAt, Cond.selects RX0 yX0_sumAt yX0_sumAt, Cond.code yX0_sumAt cX0_sumAt 5 (some .int), Cond.methodLink RX0 155 yX0_productAt, Cond.instanceMethod yX0_productAt, Cond.selects RX0 yX0_productAt yX0_productAt, Cond.code yX0_productAt cX0_productAt 5 (some .int), Cond.fieldLink RX0 13 "VoiceParts" "voiceNumbers" "[I"]
def wsX0_apartBy : List Cond := .code yX0_apartBy cX0_apartBy 4 (some .int) :: ((wsX0_apartBy_r1 ++ wsX0_apartBy_r2) ++ wsX00)
def wsX0_apart_r1 : List Cond := [Cond.methodLink RX0 131 yX0_howManyOrders, Cond.instanceMethod yX0_howManyOrders, Cond.selects RX0 yX0_howManyOrders yX0_howManyOrders, Cond.initialized RX0, Cond.code yX0_howManyOrders cX0_howManyOrders 1 (some .int), Cond.fieldLink RX0 137 "VoiceParts" "voices" "I", Cond.methodLink RX0 33 yX0_within, Cond.static yX0_within, Cond.code yX0_within cX0_within 3 (some .boolean), Cond.methodLink RX0 134 yX0_apartBy, Cond.instanceMethod yX0_apartBy, Cond.selects RX0 yX0_apartBy yX0_apartBy, Cond.code yX0_apartBy cX0_apartBy 4 (some .int), Cond.methodLink RX0 192 yX0_voiceInOrder, Cond.instanceMethod yX0_voiceInOrder, Cond.selects RX0 yX0_voiceInOrder yX0_voiceInOrder, Cond.code yX0_voiceInOrder cX0_voiceInOrder 3 (some .int), Cond.fieldLink RX0 183 "VoiceParts" "ORDERS_OF_ONE" "[I", Cond.fieldLink RX0 186 "VoiceParts" "ORDERS_OF_TWO" "[I", Cond.fieldLink RX0 189 "VoiceParts" "ORDERS_OF_THREE" "[I", Cond.methodLink RX0 195 yX0_apartOfVoice, Cond.instanceMethod yX0_apartOfVoice, Cond.selects RX0 yX0_apartOfVoice yX0_apartOfVoice, Cond.code yX0_apartOfVoice cX0_apartOfVoice 7 (some .int)]
def wsX0_apart_r2 : List Cond := [Cond.fieldLink RX0 86 "VoiceParts" "tones" "I", Cond.fieldLink RX0 107 "VoiceParts" "times" "I", Cond.fieldLink RX0 16 "VoiceParts" "truthNumbers" "[I", Cond.methodLink RX0 116 Lib.Math.abs.name, Cond.static Lib.Math.abs.name, Cond.initialized "java/lang/Math", Cond.code Lib.Math.abs.name Lib.Math.abs.code 1 (some .int), Cond.methodLink RX0 128 yX0_truthPlace, Cond.static yX0_truthPlace, Cond.code yX0_truthPlace cX0_truthPlace 3 (some .int), Cond.methodLink RX0 45 yX0_cell, Cond.static yX0_cell, Cond.code yX0_cell cX0_cell 2 (some .int), Cond.methodLink RX0 104 yX0_shareAt, Cond.instanceMethod yX0_shareAt, Cond.selects RX0 yX0_shareAt yX0_shareAt, Cond.code yX0_shareAt cX0_shareAt 11 (some .int), Cond.methodLink RX0 41 yX0_boardAt, Cond.instanceMethod yX0_boardAt, Cond.selects RX0 yX0_boardAt yX0_boardAt, Cond.code yX0_boardAt cX0_boardAt 3 (some .int), Cond.fieldLink RX0 9 "VoiceParts" "boardNumbers" "[I", Cond.methodLink RX0 48 yX0_sumAt, Cond.instanceMethod yX0_sumAt]
def wsX0_apart_r3 : List Cond := [Cond.selects RX0 yX0_sumAt yX0_sumAt, Cond.code yX0_sumAt cX0_sumAt 5 (some .int), Cond.methodLink RX0 155 yX0_productAt, Cond.instanceMethod yX0_productAt, Cond.selects RX0 yX0_productAt yX0_productAt, Cond.code yX0_productAt cX0_productAt 5 (some .int), Cond.fieldLink RX0 13 "VoiceParts" "voiceNumbers" "[I"]
def wsX0_apart : List Cond := .code yX0_apart cX0_apart 2 (some .int) :: ((wsX0_apart_r1 ++ (wsX0_apart_r2 ++ wsX0_apart_r3)) ++ wsX00)
def wsX0_order_r1 : List Cond := [Cond.methodLink RX0 134 yX0_apartBy, Cond.instanceMethod yX0_apartBy, Cond.selects RX0 yX0_apartBy yX0_apartBy, Cond.initialized RX0, Cond.code yX0_apartBy cX0_apartBy 4 (some .int), Cond.fieldLink RX0 137 "VoiceParts" "voices" "I", Cond.methodLink RX0 192 yX0_voiceInOrder, Cond.instanceMethod yX0_voiceInOrder, Cond.selects RX0 yX0_voiceInOrder yX0_voiceInOrder, Cond.code yX0_voiceInOrder cX0_voiceInOrder 3 (some .int), Cond.fieldLink RX0 183 "VoiceParts" "ORDERS_OF_ONE" "[I", Cond.fieldLink RX0 186 "VoiceParts" "ORDERS_OF_TWO" "[I", Cond.fieldLink RX0 189 "VoiceParts" "ORDERS_OF_THREE" "[I", Cond.methodLink RX0 195 yX0_apartOfVoice, Cond.instanceMethod yX0_apartOfVoice, Cond.selects RX0 yX0_apartOfVoice yX0_apartOfVoice, Cond.code yX0_apartOfVoice cX0_apartOfVoice 7 (some .int), Cond.fieldLink RX0 86 "VoiceParts" "tones" "I", Cond.fieldLink RX0 107 "VoiceParts" "times" "I", Cond.fieldLink RX0 16 "VoiceParts" "truthNumbers" "[I", Cond.methodLink RX0 116 Lib.Math.abs.name, Cond.static Lib.Math.abs.name, Cond.initialized "java/lang/Math", Cond.code Lib.Math.abs.name Lib.Math.abs.code 1 (some .int)]
def wsX0_order_r2 : List Cond := [Cond.methodLink RX0 128 yX0_truthPlace, Cond.static yX0_truthPlace, Cond.code yX0_truthPlace cX0_truthPlace 3 (some .int), Cond.methodLink RX0 45 yX0_cell, Cond.static yX0_cell, Cond.code yX0_cell cX0_cell 2 (some .int), Cond.methodLink RX0 104 yX0_shareAt, Cond.instanceMethod yX0_shareAt, Cond.selects RX0 yX0_shareAt yX0_shareAt, Cond.code yX0_shareAt cX0_shareAt 11 (some .int), Cond.methodLink RX0 41 yX0_boardAt, Cond.instanceMethod yX0_boardAt, Cond.selects RX0 yX0_boardAt yX0_boardAt, Cond.code yX0_boardAt cX0_boardAt 3 (some .int), Cond.fieldLink RX0 9 "VoiceParts" "boardNumbers" "[I", Cond.methodLink RX0 48 yX0_sumAt, Cond.instanceMethod yX0_sumAt, Cond.selects RX0 yX0_sumAt yX0_sumAt, Cond.code yX0_sumAt cX0_sumAt 5 (some .int), Cond.methodLink RX0 155 yX0_productAt, Cond.instanceMethod yX0_productAt, Cond.selects RX0 yX0_productAt yX0_productAt, Cond.code yX0_productAt cX0_productAt 5 (some .int), Cond.fieldLink RX0 13 "VoiceParts" "voiceNumbers" "[I"]
def wsX0_order_r3 : List Cond := [Cond.methodLink RX0 131 yX0_howManyOrders, Cond.instanceMethod yX0_howManyOrders, Cond.selects RX0 yX0_howManyOrders yX0_howManyOrders, Cond.code yX0_howManyOrders cX0_howManyOrders 1 (some .int)]
def wsX0_order : List Cond := .code yX0_order cX0_order 6 (some .int) :: ((wsX0_order_r1 ++ (wsX0_order_r2 ++ wsX0_order_r3)) ++ wsX00)
def wsJ13_bitCount_95d88 : List Cond := .code yJ13_bitCount_95d88 cJ13_bitCount_95d88 2 (some .int) :: ([.constantLong RJ13 314 (6148914691236517205), .constantLong RJ13 316 (3689348814741910323), .constantLong RJ13 318 (1085102592571150095)])
def wsX0_count : List Cond := .code yX0_count cX0_count 2 (some .int) :: ([.fieldLink RX0 86 "VoiceParts" "tones" "I", .fieldLink RX0 107 "VoiceParts" "times" "I", .fieldLink RX0 137 "VoiceParts" "voices" "I", .fieldLink RX0 29 "VoiceParts" "judgeKind" "I", .fieldLink RX0 69 "VoiceParts" "barred" "J", .fieldLink RX0 22 "VoiceParts" "rowSizes" "[I", .fieldLink RX0 95 "VoiceParts" "roundsEver" "I", .methodLink RX0 140 yJ13_bitCount_95d88, .static yJ13_bitCount_95d88, .initialized RJ13, .code yJ13_bitCount_95d88 cJ13_bitCount_95d88 2 (some .int), .constantLong RJ13 314 (6148914691236517205), .constantLong RJ13 316 (3689348814741910323), .constantLong RJ13 318 (1085102592571150095)] ++ wsX00)
def wsX0_trace : List Cond := .code yX0_trace cX0_trace 1 (some .long) :: ([.fieldLink RX0 76 "VoiceParts" "traceSum" "J"] ++ wsX00)
def wsX1_begins : List Cond := .code yX1_begins cX1_begins 5 none :: ([.fieldLink RX1 36 "VoicePartsModel" "tones" "I", .fieldLink RX1 40 "VoicePartsModel" "times" "I", .fieldLink RX1 43 "VoicePartsModel" "voices" "I", .fieldLink RX1 7 "VoicePartsModel" "board" "[I", .fieldLink RX1 13 "VoicePartsModel" "number" "[I", .fieldLink RX1 16 "VoicePartsModel" "isBarred" "[Z", .fieldLink RX1 20 "VoicePartsModel" "truth" "[I"] ++ wsX10)
def wsX1_init : List Cond := .code yX1_init cX1_init 1 none :: ([.methodLink RX1 1 objectInit, .instanceMethod objectInit, .code objectInit ⟨#[0xb1]⟩ 1 none, .arrayClass .int, .fieldLink RX1 7 "VoicePartsModel" "board" "[I", .fieldLink RX1 13 "VoicePartsModel" "number" "[I", .arrayClass .boolean, .fieldLink RX1 16 "VoicePartsModel" "isBarred" "[Z", .fieldLink RX1 20 "VoicePartsModel" "truth" "[I", .fieldLink RX1 23 "VoicePartsModel" "heard" "[I", .fieldLink RX1 26 "VoicePartsModel" "row" "[I", .fieldLink RX1 29 "VoicePartsModel" "middle" "[I", .methodLink RX1 32 yX1_begins, .instanceMethod yX1_begins, .selects RX1 yX1_begins yX1_begins, .initialized RX1, .code yX1_begins cX1_begins 5 none, .fieldLink RX1 36 "VoicePartsModel" "tones" "I", .fieldLink RX1 40 "VoicePartsModel" "times" "I", .fieldLink RX1 43 "VoicePartsModel" "voices" "I"] ++ wsX10)
def wsX1_in : List Cond := .code yX1_in cX1_in 3 (some .boolean) :: ([])
def wsX1_isPlace : List Cond := .code yX1_isPlace cX1_isPlace 3 (some .boolean) :: ([.fieldLink RX1 36 "VoicePartsModel" "tones" "I", .fieldLink RX1 40 "VoicePartsModel" "times" "I", .methodLink RX1 46 yX1_in, .static yX1_in, .initialized RX1, .code yX1_in cX1_in 3 (some .boolean)] ++ wsX10)
def wsX1_isVoice : List Cond := .code yX1_isVoice cX1_isVoice 2 (some .boolean) :: ([.fieldLink RX1 43 "VoicePartsModel" "voices" "I", .methodLink RX1 46 yX1_in, .static yX1_in, .initialized RX1, .code yX1_in cX1_in 3 (some .boolean)] ++ wsX10)
def wsX1_board : List Cond := .code yX1_board cX1_board 4 (some .int) :: ([.methodLink RX1 46 yX1_in, .static yX1_in, .initialized RX1, .code yX1_in cX1_in 3 (some .boolean), .methodLink RX1 32 yX1_begins, .instanceMethod yX1_begins, .selects RX1 yX1_begins yX1_begins, .code yX1_begins cX1_begins 5 none, .fieldLink RX1 36 "VoicePartsModel" "tones" "I", .fieldLink RX1 40 "VoicePartsModel" "times" "I", .fieldLink RX1 43 "VoicePartsModel" "voices" "I", .fieldLink RX1 7 "VoicePartsModel" "board" "[I", .fieldLink RX1 13 "VoicePartsModel" "number" "[I", .fieldLink RX1 16 "VoicePartsModel" "isBarred" "[Z", .fieldLink RX1 20 "VoicePartsModel" "truth" "[I"] ++ wsX10)
def wsX1_set : List Cond := .code yX1_set cX1_set 5 (some .int) :: ([.fieldLink RX1 7 "VoicePartsModel" "board" "[I", .methodLink RX1 50 yX1_isPlace, .instanceMethod yX1_isPlace, .selects RX1 yX1_isPlace yX1_isPlace, .initialized RX1, .code yX1_isPlace cX1_isPlace 3 (some .boolean), .fieldLink RX1 36 "VoicePartsModel" "tones" "I", .fieldLink RX1 40 "VoicePartsModel" "times" "I", .methodLink RX1 46 yX1_in, .static yX1_in, .code yX1_in cX1_in 3 (some .boolean)] ++ wsX10)
def wsX1_part : List Cond := .code yX1_part cX1_part 4 (some .int) :: ([.fieldLink RX1 13 "VoicePartsModel" "number" "[I"] ++ wsX10)
def wsX1_sumAt : List Cond := .code yX1_sumAt cX1_sumAt 5 (some .int) :: ([.fieldLink RX1 43 "VoicePartsModel" "voices" "I", .methodLink RX1 54 yX1_part, .instanceMethod yX1_part, .selects RX1 yX1_part yX1_part, .initialized RX1, .code yX1_part cX1_part 4 (some .int), .fieldLink RX1 13 "VoicePartsModel" "number" "[I"] ++ wsX10)
def wsX1_backgroundOf : List Cond := .code yX1_backgroundOf cX1_backgroundOf 8 (some .int) :: ([.fieldLink RX1 40 "VoicePartsModel" "times" "I", .fieldLink RX1 7 "VoicePartsModel" "board" "[I", .fieldLink RX1 29 "VoicePartsModel" "middle" "[I"] ++ wsX10)
def wsX1_size : List Cond := .code yX1_size cX1_size 1 (some .int) :: ([])
def wsX1_bestPeriod : List Cond := .code yX1_bestPeriod cX1_bestPeriod 7 (some .int) :: ([.fieldLink RX1 40 "VoicePartsModel" "times" "I", .fieldLink RX1 36 "VoicePartsModel" "tones" "I", .fieldLink RX1 7 "VoicePartsModel" "board" "[I", .methodLink RX1 66 yX1_backgroundOf, .instanceMethod yX1_backgroundOf, .selects RX1 yX1_backgroundOf yX1_backgroundOf, .initialized RX1, .code yX1_backgroundOf cX1_backgroundOf 8 (some .int), .fieldLink RX1 29 "VoicePartsModel" "middle" "[I", .methodLink RX1 90 yX1_size, .static yX1_size, .code yX1_size cX1_size 1 (some .int)] ++ wsX10)
def wsX1_at_r1 : List Cond := [Cond.fieldLink RX1 7 "VoicePartsModel" "board" "[I", Cond.methodLink RX1 50 yX1_isPlace, Cond.instanceMethod yX1_isPlace, Cond.selects RX1 yX1_isPlace yX1_isPlace, Cond.initialized RX1, Cond.code yX1_isPlace cX1_isPlace 3 (some .boolean), Cond.fieldLink RX1 36 "VoicePartsModel" "tones" "I", Cond.fieldLink RX1 40 "VoicePartsModel" "times" "I", Cond.methodLink RX1 46 yX1_in, Cond.static yX1_in, Cond.code yX1_in cX1_in 3 (some .boolean), Cond.methodLink RX1 58 yX1_sumAt, Cond.instanceMethod yX1_sumAt, Cond.selects RX1 yX1_sumAt yX1_sumAt, Cond.code yX1_sumAt cX1_sumAt 5 (some .int), Cond.fieldLink RX1 43 "VoicePartsModel" "voices" "I", Cond.methodLink RX1 54 yX1_part, Cond.instanceMethod yX1_part, Cond.selects RX1 yX1_part yX1_part, Cond.code yX1_part cX1_part 4 (some .int), Cond.fieldLink RX1 13 "VoicePartsModel" "number" "[I", Cond.methodLink RX1 62 yX1_bestPeriod, Cond.instanceMethod yX1_bestPeriod, Cond.selects RX1 yX1_bestPeriod yX1_bestPeriod]
def wsX1_at_r2 : List Cond := [Cond.code yX1_bestPeriod cX1_bestPeriod 7 (some .int), Cond.methodLink RX1 66 yX1_backgroundOf, Cond.instanceMethod yX1_backgroundOf, Cond.selects RX1 yX1_backgroundOf yX1_backgroundOf, Cond.code yX1_backgroundOf cX1_backgroundOf 8 (some .int), Cond.fieldLink RX1 29 "VoicePartsModel" "middle" "[I", Cond.methodLink RX1 90 yX1_size, Cond.static yX1_size, Cond.code yX1_size cX1_size 1 (some .int)]
def wsX1_at : List Cond := .code yX1_at cX1_at 4 (some .int) :: ((wsX1_at_r1 ++ wsX1_at_r2) ++ wsX10)
def wsX1_placeOf : List Cond := .code yX1_placeOf cX1_placeOf 5 (some .int) :: ([.fieldLink RX1 36 "VoicePartsModel" "tones" "I", .fieldLink RX1 40 "VoicePartsModel" "times" "I", .methodLink RX1 69 yX1_isVoice, .instanceMethod yX1_isVoice, .selects RX1 yX1_isVoice yX1_isVoice, .initialized RX1, .code yX1_isVoice cX1_isVoice 2 (some .boolean), .fieldLink RX1 43 "VoicePartsModel" "voices" "I", .methodLink RX1 46 yX1_in, .static yX1_in, .code yX1_in cX1_in 3 (some .boolean)] ++ wsX10)
def wsX1_number : List Cond := .code yX1_number cX1_number 5 (some .int) :: ([.fieldLink RX1 13 "VoicePartsModel" "number" "[I", .methodLink RX1 73 yX1_placeOf, .instanceMethod yX1_placeOf, .selects RX1 yX1_placeOf yX1_placeOf, .initialized RX1, .code yX1_placeOf cX1_placeOf 5 (some .int), .fieldLink RX1 36 "VoicePartsModel" "tones" "I", .fieldLink RX1 40 "VoicePartsModel" "times" "I", .methodLink RX1 69 yX1_isVoice, .instanceMethod yX1_isVoice, .selects RX1 yX1_isVoice yX1_isVoice, .code yX1_isVoice cX1_isVoice 2 (some .boolean), .fieldLink RX1 43 "VoicePartsModel" "voices" "I", .methodLink RX1 46 yX1_in, .static yX1_in, .code yX1_in cX1_in 3 (some .boolean)] ++ wsX10)
def wsX1_begin : List Cond := .code yX1_begin cX1_begin 7 (some .int) :: ([.fieldLink RX1 16 "VoicePartsModel" "isBarred" "[Z", .fieldLink RX1 13 "VoicePartsModel" "number" "[I", .methodLink RX1 73 yX1_placeOf, .instanceMethod yX1_placeOf, .selects RX1 yX1_placeOf yX1_placeOf, .initialized RX1, .code yX1_placeOf cX1_placeOf 5 (some .int), .fieldLink RX1 36 "VoicePartsModel" "tones" "I", .fieldLink RX1 40 "VoicePartsModel" "times" "I", .methodLink RX1 69 yX1_isVoice, .instanceMethod yX1_isVoice, .selects RX1 yX1_isVoice yX1_isVoice, .code yX1_isVoice cX1_isVoice 2 (some .boolean), .fieldLink RX1 43 "VoicePartsModel" "voices" "I", .methodLink RX1 46 yX1_in, .static yX1_in, .code yX1_in cX1_in 3 (some .boolean)] ++ wsX10)
def wsX1_bar : List Cond := .code yX1_bar cX1_bar 6 (some .int) :: ([.fieldLink RX1 16 "VoicePartsModel" "isBarred" "[Z", .fieldLink RX1 13 "VoicePartsModel" "number" "[I", .methodLink RX1 73 yX1_placeOf, .instanceMethod yX1_placeOf, .selects RX1 yX1_placeOf yX1_placeOf, .initialized RX1, .code yX1_placeOf cX1_placeOf 5 (some .int), .fieldLink RX1 36 "VoicePartsModel" "tones" "I", .fieldLink RX1 40 "VoicePartsModel" "times" "I", .methodLink RX1 69 yX1_isVoice, .instanceMethod yX1_isVoice, .selects RX1 yX1_isVoice yX1_isVoice, .code yX1_isVoice cX1_isVoice 2 (some .boolean), .fieldLink RX1 43 "VoicePartsModel" "voices" "I", .methodLink RX1 46 yX1_in, .static yX1_in, .code yX1_in cX1_in 3 (some .boolean)] ++ wsX10)
def wsX1_judge : List Cond := .code yX1_judge cX1_judge 3 (some .int) :: ([.fieldLink RX1 76 "VoicePartsModel" "judge" "I", .methodLink RX1 46 yX1_in, .static yX1_in, .initialized RX1, .code yX1_in cX1_in 3 (some .boolean)] ++ wsX10)
def wsX1_costOf : List Cond := .code yX1_costOf cX1_costOf 3 (some .int) :: ([])
def wsX1_cost : List Cond := .code yX1_cost cX1_cost 3 (some .int) :: ([.fieldLink RX1 79 "VoicePartsModel" "trace" "J", .constantLong RX1 83 (11), .constantLong RX1 85 (111), .methodLink RX1 46 yX1_in, .static yX1_in, .initialized RX1, .code yX1_in cX1_in 3 (some .boolean), .methodLink RX1 87 yX1_costOf, .static yX1_costOf, .code yX1_costOf cX1_costOf 3 (some .int)] ++ wsX10)
def wsX1_missNow : List Cond := .code yX1_missNow cX1_missNow 4 (some .int) :: ([.fieldLink RX1 36 "VoicePartsModel" "tones" "I", .fieldLink RX1 40 "VoicePartsModel" "times" "I", .fieldLink RX1 76 "VoicePartsModel" "judge" "I", .fieldLink RX1 7 "VoicePartsModel" "board" "[I", .methodLink RX1 58 yX1_sumAt, .instanceMethod yX1_sumAt, .selects RX1 yX1_sumAt yX1_sumAt, .initialized RX1, .code yX1_sumAt cX1_sumAt 5 (some .int), .fieldLink RX1 43 "VoicePartsModel" "voices" "I", .methodLink RX1 54 yX1_part, .instanceMethod yX1_part, .selects RX1 yX1_part yX1_part, .code yX1_part cX1_part 4 (some .int), .fieldLink RX1 13 "VoicePartsModel" "number" "[I", .methodLink RX1 90 yX1_size, .static yX1_size, .code yX1_size cX1_size 1 (some .int), .methodLink RX1 87 yX1_costOf, .static yX1_costOf, .code yX1_costOf cX1_costOf 3 (some .int)] ++ wsX10)
def wsX1_miss_r1 : List Cond := [Cond.methodLink RX1 94 yX1_missNow, Cond.instanceMethod yX1_missNow, Cond.selects RX1 yX1_missNow yX1_missNow, Cond.initialized RX1, Cond.code yX1_missNow cX1_missNow 4 (some .int), Cond.fieldLink RX1 36 "VoicePartsModel" "tones" "I", Cond.fieldLink RX1 40 "VoicePartsModel" "times" "I", Cond.fieldLink RX1 76 "VoicePartsModel" "judge" "I", Cond.fieldLink RX1 7 "VoicePartsModel" "board" "[I", Cond.methodLink RX1 58 yX1_sumAt, Cond.instanceMethod yX1_sumAt, Cond.selects RX1 yX1_sumAt yX1_sumAt, Cond.code yX1_sumAt cX1_sumAt 5 (some .int), Cond.fieldLink RX1 43 "VoicePartsModel" "voices" "I", Cond.methodLink RX1 54 yX1_part, Cond.instanceMethod yX1_part, Cond.selects RX1 yX1_part yX1_part, Cond.code yX1_part cX1_part 4 (some .int), Cond.fieldLink RX1 13 "VoicePartsModel" "number" "[I", Cond.methodLink RX1 90 yX1_size, Cond.static yX1_size, Cond.code yX1_size cX1_size 1 (some .int), Cond.methodLink RX1 87 yX1_costOf, Cond.static yX1_costOf]
def wsX1_miss_r2 : List Cond := [Cond.code yX1_costOf cX1_costOf 3 (some .int)]
def wsX1_miss : List Cond := .code yX1_miss cX1_miss 1 (some .int) :: ((wsX1_miss_r1 ++ wsX1_miss_r2) ++ wsX10)
def wsX1_better_r1 : List Cond := [Cond.fieldLink RX1 16 "VoicePartsModel" "isBarred" "[Z", Cond.fieldLink RX1 13 "VoicePartsModel" "number" "[I", Cond.methodLink RX1 94 yX1_missNow, Cond.instanceMethod yX1_missNow, Cond.selects RX1 yX1_missNow yX1_missNow, Cond.initialized RX1, Cond.code yX1_missNow cX1_missNow 4 (some .int), Cond.fieldLink RX1 36 "VoicePartsModel" "tones" "I", Cond.fieldLink RX1 40 "VoicePartsModel" "times" "I", Cond.fieldLink RX1 76 "VoicePartsModel" "judge" "I", Cond.fieldLink RX1 7 "VoicePartsModel" "board" "[I", Cond.methodLink RX1 58 yX1_sumAt, Cond.instanceMethod yX1_sumAt, Cond.selects RX1 yX1_sumAt yX1_sumAt, Cond.code yX1_sumAt cX1_sumAt 5 (some .int), Cond.fieldLink RX1 43 "VoicePartsModel" "voices" "I", Cond.methodLink RX1 54 yX1_part, Cond.instanceMethod yX1_part, Cond.selects RX1 yX1_part yX1_part, Cond.code yX1_part cX1_part 4 (some .int), Cond.methodLink RX1 90 yX1_size, Cond.static yX1_size, Cond.code yX1_size cX1_size 1 (some .int), Cond.methodLink RX1 87 yX1_costOf]
def wsX1_better_r2 : List Cond := [Cond.static yX1_costOf, Cond.code yX1_costOf cX1_costOf 3 (some .int), Cond.methodLink RX1 46 yX1_in, Cond.static yX1_in, Cond.code yX1_in cX1_in 3 (some .boolean)]
def wsX1_better : List Cond := .code yX1_better cX1_better 7 none :: ((wsX1_better_r1 ++ wsX1_better_r2) ++ wsX10)
def wsX1_rounds_r1 : List Cond := [Cond.fieldLink RX1 43 "VoicePartsModel" "voices" "I", Cond.fieldLink RX1 36 "VoicePartsModel" "tones" "I", Cond.fieldLink RX1 40 "VoicePartsModel" "times" "I", Cond.fieldLink RX1 101 "VoicePartsModel" "roundsDone" "I", Cond.methodLink RX1 46 yX1_in, Cond.static yX1_in, Cond.initialized RX1, Cond.code yX1_in cX1_in 3 (some .boolean), Cond.methodLink RX1 97 yX1_better, Cond.instanceMethod yX1_better, Cond.selects RX1 yX1_better yX1_better, Cond.code yX1_better cX1_better 7 none, Cond.fieldLink RX1 16 "VoicePartsModel" "isBarred" "[Z", Cond.fieldLink RX1 13 "VoicePartsModel" "number" "[I", Cond.methodLink RX1 94 yX1_missNow, Cond.instanceMethod yX1_missNow, Cond.selects RX1 yX1_missNow yX1_missNow, Cond.code yX1_missNow cX1_missNow 4 (some .int), Cond.fieldLink RX1 76 "VoicePartsModel" "judge" "I", Cond.fieldLink RX1 7 "VoicePartsModel" "board" "[I", Cond.methodLink RX1 58 yX1_sumAt, Cond.instanceMethod yX1_sumAt, Cond.selects RX1 yX1_sumAt yX1_sumAt, Cond.code yX1_sumAt cX1_sumAt 5 (some .int)]
def wsX1_rounds_r2 : List Cond := [Cond.methodLink RX1 54 yX1_part, Cond.instanceMethod yX1_part, Cond.selects RX1 yX1_part yX1_part, Cond.code yX1_part cX1_part 4 (some .int), Cond.methodLink RX1 90 yX1_size, Cond.static yX1_size, Cond.code yX1_size cX1_size 1 (some .int), Cond.methodLink RX1 87 yX1_costOf, Cond.static yX1_costOf, Cond.code yX1_costOf cX1_costOf 3 (some .int)]
def wsX1_rounds : List Cond := .code yX1_rounds cX1_rounds 5 (some .int) :: ((wsX1_rounds_r1 ++ wsX1_rounds_r2) ++ wsX10)
def wsX1_shareOf : List Cond := .code yX1_shareOf cX1_shareOf 11 (some .int) :: ([.fieldLink RX1 7 "VoicePartsModel" "board" "[I", .fieldLink RX1 43 "VoicePartsModel" "voices" "I", .methodLink RX1 58 yX1_sumAt, .instanceMethod yX1_sumAt, .selects RX1 yX1_sumAt yX1_sumAt, .initialized RX1, .code yX1_sumAt cX1_sumAt 5 (some .int), .methodLink RX1 54 yX1_part, .instanceMethod yX1_part, .selects RX1 yX1_part yX1_part, .code yX1_part cX1_part 4 (some .int), .fieldLink RX1 13 "VoicePartsModel" "number" "[I"] ++ wsX10)
def wsX1_share_r1 : List Cond := [Cond.methodLink RX1 69 yX1_isVoice, Cond.instanceMethod yX1_isVoice, Cond.selects RX1 yX1_isVoice yX1_isVoice, Cond.initialized RX1, Cond.code yX1_isVoice cX1_isVoice 2 (some .boolean), Cond.fieldLink RX1 43 "VoicePartsModel" "voices" "I", Cond.methodLink RX1 46 yX1_in, Cond.static yX1_in, Cond.code yX1_in cX1_in 3 (some .boolean), Cond.methodLink RX1 50 yX1_isPlace, Cond.instanceMethod yX1_isPlace, Cond.selects RX1 yX1_isPlace yX1_isPlace, Cond.code yX1_isPlace cX1_isPlace 3 (some .boolean), Cond.fieldLink RX1 36 "VoicePartsModel" "tones" "I", Cond.fieldLink RX1 40 "VoicePartsModel" "times" "I", Cond.methodLink RX1 104 yX1_shareOf, Cond.instanceMethod yX1_shareOf, Cond.selects RX1 yX1_shareOf yX1_shareOf, Cond.code yX1_shareOf cX1_shareOf 11 (some .int), Cond.fieldLink RX1 7 "VoicePartsModel" "board" "[I", Cond.methodLink RX1 58 yX1_sumAt, Cond.instanceMethod yX1_sumAt, Cond.selects RX1 yX1_sumAt yX1_sumAt, Cond.code yX1_sumAt cX1_sumAt 5 (some .int)]
def wsX1_share_r2 : List Cond := [Cond.methodLink RX1 54 yX1_part, Cond.instanceMethod yX1_part, Cond.selects RX1 yX1_part yX1_part, Cond.code yX1_part cX1_part 4 (some .int), Cond.fieldLink RX1 13 "VoicePartsModel" "number" "[I"]
def wsX1_share : List Cond := .code yX1_share cX1_share 4 (some .int) :: ((wsX1_share_r1 ++ wsX1_share_r2) ++ wsX10)
def wsX1_background : List Cond := .code yX1_background cX1_background 4 (some .int) :: ([.fieldLink RX1 40 "VoicePartsModel" "times" "I", .methodLink RX1 46 yX1_in, .static yX1_in, .initialized RX1, .code yX1_in cX1_in 3 (some .boolean), .methodLink RX1 50 yX1_isPlace, .instanceMethod yX1_isPlace, .selects RX1 yX1_isPlace yX1_isPlace, .code yX1_isPlace cX1_isPlace 3 (some .boolean), .fieldLink RX1 36 "VoicePartsModel" "tones" "I", .methodLink RX1 66 yX1_backgroundOf, .instanceMethod yX1_backgroundOf, .selects RX1 yX1_backgroundOf yX1_backgroundOf, .code yX1_backgroundOf cX1_backgroundOf 8 (some .int), .fieldLink RX1 7 "VoicePartsModel" "board" "[I", .fieldLink RX1 29 "VoicePartsModel" "middle" "[I"] ++ wsX10)
def wsX1_period : List Cond := .code yX1_period cX1_period 1 (some .int) :: ([.methodLink RX1 62 yX1_bestPeriod, .instanceMethod yX1_bestPeriod, .selects RX1 yX1_bestPeriod yX1_bestPeriod, .initialized RX1, .code yX1_bestPeriod cX1_bestPeriod 7 (some .int), .fieldLink RX1 40 "VoicePartsModel" "times" "I", .fieldLink RX1 36 "VoicePartsModel" "tones" "I", .fieldLink RX1 7 "VoicePartsModel" "board" "[I", .methodLink RX1 66 yX1_backgroundOf, .instanceMethod yX1_backgroundOf, .selects RX1 yX1_backgroundOf yX1_backgroundOf, .code yX1_backgroundOf cX1_backgroundOf 8 (some .int), .fieldLink RX1 29 "VoicePartsModel" "middle" "[I", .methodLink RX1 90 yX1_size, .static yX1_size, .code yX1_size cX1_size 1 (some .int)] ++ wsX10)
def wsX1_hear : List Cond := .code yX1_hear cX1_hear 3 (some .int) :: ([.fieldLink RX1 23 "VoicePartsModel" "heard" "[I", .fieldLink RX1 26 "VoicePartsModel" "row" "[I", .methodLink RX1 46 yX1_in, .static yX1_in, .initialized RX1, .code yX1_in cX1_in 3 (some .boolean)] ++ wsX10)
def wsX1_clear : List Cond := .code yX1_clear cX1_clear 3 (some .int) :: ([.fieldLink RX1 23 "VoicePartsModel" "heard" "[I", .methodLink RX1 46 yX1_in, .static yX1_in, .initialized RX1, .code yX1_in cX1_in 3 (some .boolean)] ++ wsX10)
def wsX1_productBy : List Cond := .code yX1_productBy cX1_productBy 4 (some .int) :: ([.fieldLink RX1 23 "VoicePartsModel" "heard" "[I", .fieldLink RX1 26 "VoicePartsModel" "row" "[I", .methodLink RX1 46 yX1_in, .static yX1_in, .initialized RX1, .code yX1_in cX1_in 3 (some .boolean)] ++ wsX10)
def wsX1_later : List Cond := .code yX1_later cX1_later 3 (some .int) :: ([.fieldLink RX1 23 "VoicePartsModel" "heard" "[I", .methodLink RX1 107 yX1_productBy, .instanceMethod yX1_productBy, .selects RX1 yX1_productBy yX1_productBy, .initialized RX1, .code yX1_productBy cX1_productBy 4 (some .int), .fieldLink RX1 26 "VoicePartsModel" "row" "[I", .methodLink RX1 46 yX1_in, .static yX1_in, .code yX1_in cX1_in 3 (some .boolean)] ++ wsX10)
def wsX1_numberAt : List Cond := .code yX1_numberAt cX1_numberAt 2 (some .int) :: ([.fieldLink RX1 23 "VoicePartsModel" "heard" "[I", .fieldLink RX1 26 "VoicePartsModel" "row" "[I"] ++ wsX10)
def wsX1_turned : List Cond := .code yX1_turned cX1_turned 7 (some .int) :: ([.constant RX1 110 (-1000000), .methodLink RX1 46 yX1_in, .static yX1_in, .initialized RX1, .code yX1_in cX1_in 3 (some .boolean), .methodLink RX1 111 yX1_numberAt, .instanceMethod yX1_numberAt, .selects RX1 yX1_numberAt yX1_numberAt, .code yX1_numberAt cX1_numberAt 2 (some .int), .fieldLink RX1 23 "VoicePartsModel" "heard" "[I", .fieldLink RX1 26 "VoicePartsModel" "row" "[I"] ++ wsX10)
def wsX1_truth : List Cond := .code yX1_truth cX1_truth 7 (some .int) :: ([.fieldLink RX1 20 "VoicePartsModel" "truth" "[I", .methodLink RX1 69 yX1_isVoice, .instanceMethod yX1_isVoice, .selects RX1 yX1_isVoice yX1_isVoice, .initialized RX1, .code yX1_isVoice cX1_isVoice 2 (some .boolean), .fieldLink RX1 43 "VoicePartsModel" "voices" "I", .methodLink RX1 46 yX1_in, .static yX1_in, .code yX1_in cX1_in 3 (some .boolean), .methodLink RX1 50 yX1_isPlace, .instanceMethod yX1_isPlace, .selects RX1 yX1_isPlace yX1_isPlace, .code yX1_isPlace cX1_isPlace 3 (some .boolean), .fieldLink RX1 36 "VoicePartsModel" "tones" "I", .fieldLink RX1 40 "VoicePartsModel" "times" "I"] ++ wsX10)
def wsX1_orders : List Cond := .code yX1_orders cX1_orders 1 (some .int) :: ([.fieldLink RX1 43 "VoicePartsModel" "voices" "I"] ++ wsX10)
def wsX1_ofOrder : List Cond := .code yX1_ofOrder cX1_ofOrder 6 (some .int) :: ([.fieldLink RX1 43 "VoicePartsModel" "voices" "I"] ++ wsX10)
def wsX1_apartBy_r1 : List Cond := [Cond.fieldLink RX1 43 "VoicePartsModel" "voices" "I", Cond.fieldLink RX1 36 "VoicePartsModel" "tones" "I", Cond.fieldLink RX1 40 "VoicePartsModel" "times" "I", Cond.fieldLink RX1 20 "VoicePartsModel" "truth" "[I", Cond.methodLink RX1 104 yX1_shareOf, Cond.instanceMethod yX1_shareOf, Cond.selects RX1 yX1_shareOf yX1_shareOf, Cond.initialized RX1, Cond.code yX1_shareOf cX1_shareOf 11 (some .int), Cond.fieldLink RX1 7 "VoicePartsModel" "board" "[I", Cond.methodLink RX1 58 yX1_sumAt, Cond.instanceMethod yX1_sumAt, Cond.selects RX1 yX1_sumAt yX1_sumAt, Cond.code yX1_sumAt cX1_sumAt 5 (some .int), Cond.methodLink RX1 54 yX1_part, Cond.instanceMethod yX1_part, Cond.selects RX1 yX1_part yX1_part, Cond.code yX1_part cX1_part 4 (some .int), Cond.fieldLink RX1 13 "VoicePartsModel" "number" "[I", Cond.methodLink RX1 114 yX1_ofOrder, Cond.instanceMethod yX1_ofOrder, Cond.selects RX1 yX1_ofOrder yX1_ofOrder, Cond.code yX1_ofOrder cX1_ofOrder 6 (some .int), Cond.methodLink RX1 90 yX1_size]
def wsX1_apartBy_r2 : List Cond := [Cond.static yX1_size, Cond.code yX1_size cX1_size 1 (some .int)]
def wsX1_apartBy : List Cond := .code yX1_apartBy cX1_apartBy 6 (some .int) :: ((wsX1_apartBy_r1 ++ wsX1_apartBy_r2) ++ wsX10)
def wsX1_apart_r1 : List Cond := [Cond.methodLink RX1 117 yX1_orders, Cond.instanceMethod yX1_orders, Cond.selects RX1 yX1_orders yX1_orders, Cond.initialized RX1, Cond.code yX1_orders cX1_orders 1 (some .int), Cond.fieldLink RX1 43 "VoicePartsModel" "voices" "I", Cond.methodLink RX1 46 yX1_in, Cond.static yX1_in, Cond.code yX1_in cX1_in 3 (some .boolean), Cond.methodLink RX1 120 yX1_apartBy, Cond.instanceMethod yX1_apartBy, Cond.selects RX1 yX1_apartBy yX1_apartBy, Cond.code yX1_apartBy cX1_apartBy 6 (some .int), Cond.fieldLink RX1 36 "VoicePartsModel" "tones" "I", Cond.fieldLink RX1 40 "VoicePartsModel" "times" "I", Cond.fieldLink RX1 20 "VoicePartsModel" "truth" "[I", Cond.methodLink RX1 104 yX1_shareOf, Cond.instanceMethod yX1_shareOf, Cond.selects RX1 yX1_shareOf yX1_shareOf, Cond.code yX1_shareOf cX1_shareOf 11 (some .int), Cond.fieldLink RX1 7 "VoicePartsModel" "board" "[I", Cond.methodLink RX1 58 yX1_sumAt, Cond.instanceMethod yX1_sumAt, Cond.selects RX1 yX1_sumAt yX1_sumAt]
def wsX1_apart_r2 : List Cond := [Cond.code yX1_sumAt cX1_sumAt 5 (some .int), Cond.methodLink RX1 54 yX1_part, Cond.instanceMethod yX1_part, Cond.selects RX1 yX1_part yX1_part, Cond.code yX1_part cX1_part 4 (some .int), Cond.fieldLink RX1 13 "VoicePartsModel" "number" "[I", Cond.methodLink RX1 114 yX1_ofOrder, Cond.instanceMethod yX1_ofOrder, Cond.selects RX1 yX1_ofOrder yX1_ofOrder, Cond.code yX1_ofOrder cX1_ofOrder 6 (some .int), Cond.methodLink RX1 90 yX1_size, Cond.static yX1_size, Cond.code yX1_size cX1_size 1 (some .int)]
def wsX1_apart : List Cond := .code yX1_apart cX1_apart 2 (some .int) :: ((wsX1_apart_r1 ++ wsX1_apart_r2) ++ wsX10)
def wsX1_order_r1 : List Cond := [Cond.methodLink RX1 117 yX1_orders, Cond.instanceMethod yX1_orders, Cond.selects RX1 yX1_orders yX1_orders, Cond.initialized RX1, Cond.code yX1_orders cX1_orders 1 (some .int), Cond.fieldLink RX1 43 "VoicePartsModel" "voices" "I", Cond.methodLink RX1 120 yX1_apartBy, Cond.instanceMethod yX1_apartBy, Cond.selects RX1 yX1_apartBy yX1_apartBy, Cond.code yX1_apartBy cX1_apartBy 6 (some .int), Cond.fieldLink RX1 36 "VoicePartsModel" "tones" "I", Cond.fieldLink RX1 40 "VoicePartsModel" "times" "I", Cond.fieldLink RX1 20 "VoicePartsModel" "truth" "[I", Cond.methodLink RX1 104 yX1_shareOf, Cond.instanceMethod yX1_shareOf, Cond.selects RX1 yX1_shareOf yX1_shareOf, Cond.code yX1_shareOf cX1_shareOf 11 (some .int), Cond.fieldLink RX1 7 "VoicePartsModel" "board" "[I", Cond.methodLink RX1 58 yX1_sumAt, Cond.instanceMethod yX1_sumAt, Cond.selects RX1 yX1_sumAt yX1_sumAt, Cond.code yX1_sumAt cX1_sumAt 5 (some .int), Cond.methodLink RX1 54 yX1_part, Cond.instanceMethod yX1_part]
def wsX1_order_r2 : List Cond := [Cond.selects RX1 yX1_part yX1_part, Cond.code yX1_part cX1_part 4 (some .int), Cond.fieldLink RX1 13 "VoicePartsModel" "number" "[I", Cond.methodLink RX1 114 yX1_ofOrder, Cond.instanceMethod yX1_ofOrder, Cond.selects RX1 yX1_ofOrder yX1_ofOrder, Cond.code yX1_ofOrder cX1_ofOrder 6 (some .int), Cond.methodLink RX1 90 yX1_size, Cond.static yX1_size, Cond.code yX1_size cX1_size 1 (some .int)]
def wsX1_order : List Cond := .code yX1_order cX1_order 3 (some .int) :: ((wsX1_order_r1 ++ wsX1_order_r2) ++ wsX10)
def wsX1_count : List Cond := .code yX1_count cX1_count 4 (some .int) :: ([.fieldLink RX1 36 "VoicePartsModel" "tones" "I", .fieldLink RX1 40 "VoicePartsModel" "times" "I", .fieldLink RX1 43 "VoicePartsModel" "voices" "I", .fieldLink RX1 76 "VoicePartsModel" "judge" "I", .fieldLink RX1 16 "VoicePartsModel" "isBarred" "[Z", .fieldLink RX1 23 "VoicePartsModel" "heard" "[I", .fieldLink RX1 101 "VoicePartsModel" "roundsDone" "I"] ++ wsX10)
def wsX1_trace : List Cond := .code yX1_trace cX1_trace 1 (some .long) :: ([.fieldLink RX1 79 "VoicePartsModel" "trace" "J"] ++ wsX10)
def wsJ9_abs_0f7a4 : List Cond := .code yJ9_abs_0f7a4 cJ9_abs_0f7a4 1 (some .int) :: ([])
abbrev vwCl : List vw_C := [(RX0, TX0, 12), (RX1, TX1, 13)]
end
section
theorem dJ6_bitCount_0f7a4_0 : decode cJ6_bitCount_0f7a4 0 = .ok (.iload_n 0, 1) := by decide +kernel
theorem dJ6_bitCount_0f7a4_1 : decode cJ6_bitCount_0f7a4 1 = .ok (.iload_n 0, 1) := by decide +kernel
theorem dJ6_bitCount_0f7a4_2 : decode cJ6_bitCount_0f7a4 2 = .ok (.iconst 1, 1) := by decide +kernel
theorem dJ6_bitCount_0f7a4_3 : decode cJ6_bitCount_0f7a4 3 = .ok (.iushr, 1) := by decide +kernel
theorem dJ6_bitCount_0f7a4_4 : decode cJ6_bitCount_0f7a4 4 = .ok (.ldc_w 265, 3) := by decide +kernel
theorem dJ6_bitCount_0f7a4_7 : decode cJ6_bitCount_0f7a4 7 = .ok (.iand, 1) := by decide +kernel
theorem dJ6_bitCount_0f7a4_8 : decode cJ6_bitCount_0f7a4 8 = .ok (.isub, 1) := by decide +kernel
theorem dJ6_bitCount_0f7a4_9 : decode cJ6_bitCount_0f7a4 9 = .ok (.istore_n 0, 1) := by decide +kernel
theorem dJ6_bitCount_0f7a4_10 : decode cJ6_bitCount_0f7a4 10 = .ok (.iload_n 0, 1) := by decide +kernel
theorem dJ6_bitCount_0f7a4_11 : decode cJ6_bitCount_0f7a4 11 = .ok (.ldc_w 266, 3) := by decide +kernel
theorem dJ6_bitCount_0f7a4_14 : decode cJ6_bitCount_0f7a4 14 = .ok (.iand, 1) := by decide +kernel
theorem dJ6_bitCount_0f7a4_15 : decode cJ6_bitCount_0f7a4 15 = .ok (.iload_n 0, 1) := by decide +kernel
theorem dJ6_bitCount_0f7a4_16 : decode cJ6_bitCount_0f7a4 16 = .ok (.iconst 2, 1) := by decide +kernel
theorem dJ6_bitCount_0f7a4_17 : decode cJ6_bitCount_0f7a4 17 = .ok (.iushr, 1) := by decide +kernel
theorem dJ6_bitCount_0f7a4_18 : decode cJ6_bitCount_0f7a4 18 = .ok (.ldc_w 266, 3) := by decide +kernel
theorem dJ6_bitCount_0f7a4_21 : decode cJ6_bitCount_0f7a4 21 = .ok (.iand, 1) := by decide +kernel
theorem dJ6_bitCount_0f7a4_22 : decode cJ6_bitCount_0f7a4 22 = .ok (.iadd, 1) := by decide +kernel
theorem dJ6_bitCount_0f7a4_23 : decode cJ6_bitCount_0f7a4 23 = .ok (.istore_n 0, 1) := by decide +kernel
theorem dJ6_bitCount_0f7a4_24 : decode cJ6_bitCount_0f7a4 24 = .ok (.iload_n 0, 1) := by decide +kernel
theorem dJ6_bitCount_0f7a4_25 : decode cJ6_bitCount_0f7a4 25 = .ok (.iload_n 0, 1) := by decide +kernel
theorem dJ6_bitCount_0f7a4_26 : decode cJ6_bitCount_0f7a4 26 = .ok (.iconst 4, 1) := by decide +kernel
theorem dJ6_bitCount_0f7a4_27 : decode cJ6_bitCount_0f7a4 27 = .ok (.iushr, 1) := by decide +kernel
theorem dJ6_bitCount_0f7a4_28 : decode cJ6_bitCount_0f7a4 28 = .ok (.iadd, 1) := by decide +kernel
theorem dJ6_bitCount_0f7a4_29 : decode cJ6_bitCount_0f7a4 29 = .ok (.ldc_w 267, 3) := by decide +kernel
theorem dJ6_bitCount_0f7a4_32 : decode cJ6_bitCount_0f7a4 32 = .ok (.iand, 1) := by decide +kernel
theorem dJ6_bitCount_0f7a4_33 : decode cJ6_bitCount_0f7a4 33 = .ok (.istore_n 0, 1) := by decide +kernel
theorem dJ6_bitCount_0f7a4_34 : decode cJ6_bitCount_0f7a4 34 = .ok (.iload_n 0, 1) := by decide +kernel
theorem dJ6_bitCount_0f7a4_35 : decode cJ6_bitCount_0f7a4 35 = .ok (.iload_n 0, 1) := by decide +kernel
theorem dJ6_bitCount_0f7a4_36 : decode cJ6_bitCount_0f7a4 36 = .ok (.bipush 8, 2) := by decide +kernel
theorem dJ6_bitCount_0f7a4_38 : decode cJ6_bitCount_0f7a4 38 = .ok (.iushr, 1) := by decide +kernel
theorem dJ6_bitCount_0f7a4_39 : decode cJ6_bitCount_0f7a4 39 = .ok (.iadd, 1) := by decide +kernel
theorem dJ6_bitCount_0f7a4_40 : decode cJ6_bitCount_0f7a4 40 = .ok (.istore_n 0, 1) := by decide +kernel
theorem dJ6_bitCount_0f7a4_41 : decode cJ6_bitCount_0f7a4 41 = .ok (.iload_n 0, 1) := by decide +kernel
theorem dJ6_bitCount_0f7a4_42 : decode cJ6_bitCount_0f7a4 42 = .ok (.iload_n 0, 1) := by decide +kernel
theorem dJ6_bitCount_0f7a4_43 : decode cJ6_bitCount_0f7a4 43 = .ok (.bipush 16, 2) := by decide +kernel
theorem dJ6_bitCount_0f7a4_45 : decode cJ6_bitCount_0f7a4 45 = .ok (.iushr, 1) := by decide +kernel
theorem dJ6_bitCount_0f7a4_46 : decode cJ6_bitCount_0f7a4 46 = .ok (.iadd, 1) := by decide +kernel
theorem dJ6_bitCount_0f7a4_47 : decode cJ6_bitCount_0f7a4 47 = .ok (.istore_n 0, 1) := by decide +kernel
theorem dJ6_bitCount_0f7a4_48 : decode cJ6_bitCount_0f7a4 48 = .ok (.iload_n 0, 1) := by decide +kernel
theorem dJ6_bitCount_0f7a4_49 : decode cJ6_bitCount_0f7a4 49 = .ok (.bipush 63, 2) := by decide +kernel
theorem dJ6_bitCount_0f7a4_51 : decode cJ6_bitCount_0f7a4 51 = .ok (.iand, 1) := by decide +kernel
theorem dJ6_bitCount_0f7a4_52 : decode cJ6_bitCount_0f7a4 52 = .ok (.ireturn, 1) := by decide +kernel
theorem dJ13_bitCount_95d88_0 : decode cJ13_bitCount_95d88 0 = .ok (.lload_n 0, 1) := by decide +kernel
theorem dJ13_bitCount_95d88_1 : decode cJ13_bitCount_95d88 1 = .ok (.lload_n 0, 1) := by decide +kernel
theorem dJ13_bitCount_95d88_2 : decode cJ13_bitCount_95d88 2 = .ok (.iconst 1, 1) := by decide +kernel
theorem dJ13_bitCount_95d88_3 : decode cJ13_bitCount_95d88 3 = .ok (.lushr, 1) := by decide +kernel
theorem dJ13_bitCount_95d88_4 : decode cJ13_bitCount_95d88 4 = .ok (.ldc2_w 314, 3) := by decide +kernel
theorem dJ13_bitCount_95d88_7 : decode cJ13_bitCount_95d88 7 = .ok (.land, 1) := by decide +kernel
theorem dJ13_bitCount_95d88_8 : decode cJ13_bitCount_95d88 8 = .ok (.lsub, 1) := by decide +kernel
theorem dJ13_bitCount_95d88_9 : decode cJ13_bitCount_95d88 9 = .ok (.lstore_n 0, 1) := by decide +kernel
theorem dJ13_bitCount_95d88_10 : decode cJ13_bitCount_95d88 10 = .ok (.lload_n 0, 1) := by decide +kernel
theorem dJ13_bitCount_95d88_11 : decode cJ13_bitCount_95d88 11 = .ok (.ldc2_w 316, 3) := by decide +kernel
theorem dJ13_bitCount_95d88_14 : decode cJ13_bitCount_95d88 14 = .ok (.land, 1) := by decide +kernel
theorem dJ13_bitCount_95d88_15 : decode cJ13_bitCount_95d88 15 = .ok (.lload_n 0, 1) := by decide +kernel
theorem dJ13_bitCount_95d88_16 : decode cJ13_bitCount_95d88 16 = .ok (.iconst 2, 1) := by decide +kernel
theorem dJ13_bitCount_95d88_17 : decode cJ13_bitCount_95d88 17 = .ok (.lushr, 1) := by decide +kernel
theorem dJ13_bitCount_95d88_18 : decode cJ13_bitCount_95d88 18 = .ok (.ldc2_w 316, 3) := by decide +kernel
theorem dJ13_bitCount_95d88_21 : decode cJ13_bitCount_95d88 21 = .ok (.land, 1) := by decide +kernel
theorem dJ13_bitCount_95d88_22 : decode cJ13_bitCount_95d88 22 = .ok (.ladd, 1) := by decide +kernel
theorem dJ13_bitCount_95d88_23 : decode cJ13_bitCount_95d88 23 = .ok (.lstore_n 0, 1) := by decide +kernel
theorem dJ13_bitCount_95d88_24 : decode cJ13_bitCount_95d88 24 = .ok (.lload_n 0, 1) := by decide +kernel
theorem dJ13_bitCount_95d88_25 : decode cJ13_bitCount_95d88 25 = .ok (.lload_n 0, 1) := by decide +kernel
theorem dJ13_bitCount_95d88_26 : decode cJ13_bitCount_95d88 26 = .ok (.iconst 4, 1) := by decide +kernel
theorem dJ13_bitCount_95d88_27 : decode cJ13_bitCount_95d88 27 = .ok (.lushr, 1) := by decide +kernel
theorem dJ13_bitCount_95d88_28 : decode cJ13_bitCount_95d88 28 = .ok (.ladd, 1) := by decide +kernel
theorem dJ13_bitCount_95d88_29 : decode cJ13_bitCount_95d88 29 = .ok (.ldc2_w 318, 3) := by decide +kernel
theorem dJ13_bitCount_95d88_32 : decode cJ13_bitCount_95d88 32 = .ok (.land, 1) := by decide +kernel
theorem dJ13_bitCount_95d88_33 : decode cJ13_bitCount_95d88 33 = .ok (.lstore_n 0, 1) := by decide +kernel
theorem dJ13_bitCount_95d88_34 : decode cJ13_bitCount_95d88 34 = .ok (.lload_n 0, 1) := by decide +kernel
theorem dJ13_bitCount_95d88_35 : decode cJ13_bitCount_95d88 35 = .ok (.lload_n 0, 1) := by decide +kernel
theorem dJ13_bitCount_95d88_36 : decode cJ13_bitCount_95d88 36 = .ok (.bipush 8, 2) := by decide +kernel
theorem dJ13_bitCount_95d88_38 : decode cJ13_bitCount_95d88 38 = .ok (.lushr, 1) := by decide +kernel
theorem dJ13_bitCount_95d88_39 : decode cJ13_bitCount_95d88 39 = .ok (.ladd, 1) := by decide +kernel
theorem dJ13_bitCount_95d88_40 : decode cJ13_bitCount_95d88 40 = .ok (.lstore_n 0, 1) := by decide +kernel
theorem dJ13_bitCount_95d88_41 : decode cJ13_bitCount_95d88 41 = .ok (.lload_n 0, 1) := by decide +kernel
theorem dJ13_bitCount_95d88_42 : decode cJ13_bitCount_95d88 42 = .ok (.lload_n 0, 1) := by decide +kernel
theorem dJ13_bitCount_95d88_43 : decode cJ13_bitCount_95d88 43 = .ok (.bipush 16, 2) := by decide +kernel
theorem dJ13_bitCount_95d88_45 : decode cJ13_bitCount_95d88 45 = .ok (.lushr, 1) := by decide +kernel
theorem dJ13_bitCount_95d88_46 : decode cJ13_bitCount_95d88 46 = .ok (.ladd, 1) := by decide +kernel
theorem dJ13_bitCount_95d88_47 : decode cJ13_bitCount_95d88 47 = .ok (.lstore_n 0, 1) := by decide +kernel
theorem dJ13_bitCount_95d88_48 : decode cJ13_bitCount_95d88 48 = .ok (.lload_n 0, 1) := by decide +kernel
theorem dJ13_bitCount_95d88_49 : decode cJ13_bitCount_95d88 49 = .ok (.lload_n 0, 1) := by decide +kernel
theorem dJ13_bitCount_95d88_50 : decode cJ13_bitCount_95d88 50 = .ok (.bipush 32, 2) := by decide +kernel
theorem dJ13_bitCount_95d88_52 : decode cJ13_bitCount_95d88 52 = .ok (.lushr, 1) := by decide +kernel
theorem dJ13_bitCount_95d88_53 : decode cJ13_bitCount_95d88 53 = .ok (.ladd, 1) := by decide +kernel
theorem dJ13_bitCount_95d88_54 : decode cJ13_bitCount_95d88 54 = .ok (.lstore_n 0, 1) := by decide +kernel
theorem dJ13_bitCount_95d88_55 : decode cJ13_bitCount_95d88 55 = .ok (.lload_n 0, 1) := by decide +kernel
theorem dJ13_bitCount_95d88_56 : decode cJ13_bitCount_95d88 56 = .ok (.l2i, 1) := by decide +kernel
theorem dJ13_bitCount_95d88_57 : decode cJ13_bitCount_95d88 57 = .ok (.bipush 127, 2) := by decide +kernel
theorem dJ13_bitCount_95d88_59 : decode cJ13_bitCount_95d88 59 = .ok (.iand, 1) := by decide +kernel
theorem dJ13_bitCount_95d88_60 : decode cJ13_bitCount_95d88 60 = .ok (.ireturn, 1) := by decide +kernel
theorem dJ9_abs_0f7a4_0 : decode cJ9_abs_0f7a4 0 = .ok (.iload_n 0, 1) := by decide +kernel
theorem dJ9_abs_0f7a4_1 : decode cJ9_abs_0f7a4 1 = .ok (.ifCond .ge 8, 3) := by decide +kernel
theorem dJ9_abs_0f7a4_4 : decode cJ9_abs_0f7a4 4 = .ok (.iload_n 0, 1) := by decide +kernel
theorem dJ9_abs_0f7a4_5 : decode cJ9_abs_0f7a4 5 = .ok (.ineg, 1) := by decide +kernel
theorem dJ9_abs_0f7a4_6 : decode cJ9_abs_0f7a4 6 = .ok (.goto 4, 3) := by decide +kernel
theorem dJ9_abs_0f7a4_9 : decode cJ9_abs_0f7a4 9 = .ok (.iload_n 0, 1) := by decide +kernel
theorem dJ9_abs_0f7a4_10 : decode cJ9_abs_0f7a4 10 = .ok (.ireturn, 1) := by decide +kernel
theorem dJ7_fill_53178_0 : decode cJ7_fill_53178 0 = .ok (.iconst 0, 1) := by decide +kernel
theorem dJ7_fill_53178_1 : decode cJ7_fill_53178 1 = .ok (.istore_n 2, 1) := by decide +kernel
theorem dJ7_fill_53178_2 : decode cJ7_fill_53178 2 = .ok (.aload_n 0, 1) := by decide +kernel
theorem dJ7_fill_53178_3 : decode cJ7_fill_53178 3 = .ok (.arraylength, 1) := by decide +kernel
theorem dJ7_fill_53178_4 : decode cJ7_fill_53178 4 = .ok (.istore_n 3, 1) := by decide +kernel
theorem dJ7_fill_53178_5 : decode cJ7_fill_53178 5 = .ok (.iload_n 2, 1) := by decide +kernel
theorem dJ7_fill_53178_6 : decode cJ7_fill_53178 6 = .ok (.iload_n 3, 1) := by decide +kernel
theorem dJ7_fill_53178_7 : decode cJ7_fill_53178 7 = .ok (.if_icmp .ge 13, 3) := by decide +kernel
theorem dJ7_fill_53178_10 : decode cJ7_fill_53178 10 = .ok (.aload_n 0, 1) := by decide +kernel
theorem dJ7_fill_53178_11 : decode cJ7_fill_53178 11 = .ok (.iload_n 2, 1) := by decide +kernel
theorem dJ7_fill_53178_12 : decode cJ7_fill_53178 12 = .ok (.iload_n 1, 1) := by decide +kernel
theorem dJ7_fill_53178_13 : decode cJ7_fill_53178 13 = .ok (.iastore, 1) := by decide +kernel
theorem dJ7_fill_53178_14 : decode cJ7_fill_53178 14 = .ok (.iinc 2 1, 3) := by decide +kernel
theorem dJ7_fill_53178_17 : decode cJ7_fill_53178 17 = .ok (.goto (-12), 3) := by decide +kernel
theorem dJ7_fill_53178_20 : decode cJ7_fill_53178 20 = .ok (.return_, 1) := by decide +kernel
set_option maxRecDepth 20000 in
theorem ggX0_init_X0_layBoard : GoodIn wsX0_init wsX0_layBoard := goodIn_r _ [15, 16, 17, 18, 5, 6, 7, 19, 20, 21, 22, 23, 24, 25, 26, 27, 28, 29, 30, 31, 32, 33, 34, 35] (by decide +kernel) (by decide +kernel)
set_option maxRecDepth 20000 in
theorem gX0_init_X0_layBoard : GoodIn wsX0_init (wsV RX0 25 RX0 yX0_layBoard wsX0_layBoard) := goodIn_app (goodIn_of _ (by decide +kernel)) ggX0_init_X0_layBoard
theorem dX0_init_0 : decode cX0_init 0 = .ok (.aload_n 0, 1) := by decide +kernel
theorem dX0_init_1 : decode cX0_init 1 = .ok (.invokespecial 3, 3) := by decide +kernel
theorem dX0_init_4 : decode cX0_init 4 = .ok (.aload_n 0, 1) := by decide +kernel
theorem dX0_init_5 : decode cX0_init 5 = .ok (.bipush 48, 2) := by decide +kernel
theorem dX0_init_7 : decode cX0_init 7 = .ok (.newarray .int, 2) := by decide +kernel
theorem dX0_init_9 : decode cX0_init 9 = .ok (.putfield 9, 3) := by decide +kernel
theorem dX0_init_12 : decode cX0_init 12 = .ok (.aload_n 0, 1) := by decide +kernel
theorem dX0_init_13 : decode cX0_init 13 = .ok (.bipush 42, 2) := by decide +kernel
theorem dX0_init_15 : decode cX0_init 15 = .ok (.newarray .int, 2) := by decide +kernel
theorem dX0_init_17 : decode cX0_init 17 = .ok (.putfield 13, 3) := by decide +kernel
theorem dX0_init_20 : decode cX0_init 20 = .ok (.aload_n 0, 1) := by decide +kernel
theorem dX0_init_21 : decode cX0_init 21 = .ok (.sipush 144, 3) := by decide +kernel
theorem dX0_init_24 : decode cX0_init 24 = .ok (.newarray .int, 2) := by decide +kernel
theorem dX0_init_26 : decode cX0_init 26 = .ok (.putfield 16, 3) := by decide +kernel
theorem dX0_init_29 : decode cX0_init 29 = .ok (.aload_n 0, 1) := by decide +kernel
theorem dX0_init_30 : decode cX0_init 30 = .ok (.bipush 16, 2) := by decide +kernel
theorem dX0_init_32 : decode cX0_init 32 = .ok (.newarray .int, 2) := by decide +kernel
theorem dX0_init_34 : decode cX0_init 34 = .ok (.putfield 19, 3) := by decide +kernel
theorem dX0_init_37 : decode cX0_init 37 = .ok (.aload_n 0, 1) := by decide +kernel
theorem dX0_init_38 : decode cX0_init 38 = .ok (.iconst 2, 1) := by decide +kernel
theorem dX0_init_39 : decode cX0_init 39 = .ok (.newarray .int, 2) := by decide +kernel
theorem dX0_init_41 : decode cX0_init 41 = .ok (.putfield 22, 3) := by decide +kernel
theorem dX0_init_44 : decode cX0_init 44 = .ok (.aload_n 0, 1) := by decide +kernel
theorem dX0_init_45 : decode cX0_init 45 = .ok (.iconst 4, 1) := by decide +kernel
theorem dX0_init_46 : decode cX0_init 46 = .ok (.iconst 4, 1) := by decide +kernel
theorem dX0_init_47 : decode cX0_init 47 = .ok (.iconst 2, 1) := by decide +kernel
theorem dX0_init_48 : decode cX0_init 48 = .ok (.invokevirtual 25, 3) := by decide +kernel
theorem dX0_init_51 : decode cX0_init 51 = .ok (.aload_n 0, 1) := by decide +kernel
theorem dX0_init_52 : decode cX0_init 52 = .ok (.iconst 0, 1) := by decide +kernel
theorem dX0_init_53 : decode cX0_init 53 = .ok (.putfield 29, 3) := by decide +kernel
theorem dX0_init_56 : decode cX0_init 56 = .ok (.return_, 1) := by decide +kernel
set_option maxRecDepth 20000 in
theorem ggX0_board_X0_within : GoodIn wsX0_board wsX0_within := goodIn_r _ [4] (by decide +kernel) (by decide +kernel)
set_option maxRecDepth 20000 in
theorem gX0_board_X0_within : GoodIn wsX0_board (va_wsS RX0 33 yX0_within wsX0_within) := goodIn_app (goodIn_of _ (by decide +kernel)) ggX0_board_X0_within
set_option maxRecDepth 20000 in
theorem ggX0_board_X0_layBoard : GoodIn wsX0_board wsX0_layBoard := goodIn_r _ [8, 9, 10, 11, 12, 13, 14, 15, 16, 17, 18, 19, 20, 21, 22, 23, 24, 25, 26, 27, 28, 29, 30, 31] (by decide +kernel) (by decide +kernel)
set_option maxRecDepth 20000 in
theorem gX0_board_X0_layBoard : GoodIn wsX0_board (wsV RX0 25 RX0 yX0_layBoard wsX0_layBoard) := goodIn_app (goodIn_of _ (by decide +kernel)) ggX0_board_X0_layBoard
theorem dX0_board_0 : decode cX0_board 0 = .ok (.iload_n 1, 1) := by decide +kernel
theorem dX0_board_1 : decode cX0_board 1 = .ok (.iconst 1, 1) := by decide +kernel
theorem dX0_board_2 : decode cX0_board 2 = .ok (.bipush 6, 2) := by decide +kernel
theorem dX0_board_4 : decode cX0_board 4 = .ok (.invokestatic 33, 3) := by decide +kernel
theorem dX0_board_7 : decode cX0_board 7 = .ok (.ifCond .eq 22, 3) := by decide +kernel
theorem dX0_board_10 : decode cX0_board 10 = .ok (.iload_n 2, 1) := by decide +kernel
theorem dX0_board_11 : decode cX0_board 11 = .ok (.iconst 1, 1) := by decide +kernel
theorem dX0_board_12 : decode cX0_board 12 = .ok (.bipush 8, 2) := by decide +kernel
theorem dX0_board_14 : decode cX0_board 14 = .ok (.invokestatic 33, 3) := by decide +kernel
theorem dX0_board_17 : decode cX0_board 17 = .ok (.ifCond .eq 12, 3) := by decide +kernel
theorem dX0_board_20 : decode cX0_board 20 = .ok (.iload_n 3, 1) := by decide +kernel
theorem dX0_board_21 : decode cX0_board 21 = .ok (.iconst 1, 1) := by decide +kernel
theorem dX0_board_22 : decode cX0_board 22 = .ok (.iconst 3, 1) := by decide +kernel
theorem dX0_board_23 : decode cX0_board 23 = .ok (.invokestatic 33, 3) := by decide +kernel
theorem dX0_board_26 : decode cX0_board 26 = .ok (.ifCond .ne 5, 3) := by decide +kernel
theorem dX0_board_29 : decode cX0_board 29 = .ok (.iconst (-1), 1) := by decide +kernel
theorem dX0_board_30 : decode cX0_board 30 = .ok (.ireturn, 1) := by decide +kernel
theorem dX0_board_31 : decode cX0_board 31 = .ok (.aload_n 0, 1) := by decide +kernel
theorem dX0_board_32 : decode cX0_board 32 = .ok (.iload_n 1, 1) := by decide +kernel
theorem dX0_board_33 : decode cX0_board 33 = .ok (.iload_n 2, 1) := by decide +kernel
theorem dX0_board_34 : decode cX0_board 34 = .ok (.iload_n 3, 1) := by decide +kernel
theorem dX0_board_35 : decode cX0_board 35 = .ok (.invokevirtual 25, 3) := by decide +kernel
theorem dX0_board_38 : decode cX0_board 38 = .ok (.iload_n 1, 1) := by decide +kernel
theorem dX0_board_39 : decode cX0_board 39 = .ok (.iload_n 2, 1) := by decide +kernel
theorem dX0_board_40 : decode cX0_board 40 = .ok (.imul, 1) := by decide +kernel
theorem dX0_board_41 : decode cX0_board 41 = .ok (.ireturn, 1) := by decide +kernel
set_option maxRecDepth 20000 in
theorem ggX0_set_X0_isCell : GoodIn wsX0_set wsX0_isCell := goodIn_r _ [6, 7, 8, 9, 10, 5, 11, 19, 20, 21, 22, 23, 24, 25, 26, 27, 28, 29, 30] (by decide +kernel) (by decide +kernel)
set_option maxRecDepth 20000 in
theorem gX0_set_X0_isCell : GoodIn wsX0_set (wsV RX0 37 RX0 yX0_isCell wsX0_isCell) := goodIn_app (goodIn_of _ (by decide +kernel)) ggX0_set_X0_isCell
set_option maxRecDepth 20000 in
theorem ggX0_set_X0_within : GoodIn wsX0_set wsX0_within := goodIn_r _ [11] (by decide +kernel) (by decide +kernel)
set_option maxRecDepth 20000 in
theorem gX0_set_X0_within : GoodIn wsX0_set (va_wsS RX0 33 yX0_within wsX0_within) := goodIn_app (goodIn_of _ (by decide +kernel)) ggX0_set_X0_within
set_option maxRecDepth 20000 in
theorem ggX0_set_X0_boardAt : GoodIn wsX0_set wsX0_boardAt := goodIn_r _ [15, 1, 16, 17, 5, 18, 19, 20, 21, 22, 23, 24, 25, 26, 27, 28, 29, 30] (by decide +kernel) (by decide +kernel)
set_option maxRecDepth 20000 in
theorem gX0_set_X0_boardAt : GoodIn wsX0_set (wsV RX0 41 RX0 yX0_boardAt wsX0_boardAt) := goodIn_app (goodIn_of _ (by decide +kernel)) ggX0_set_X0_boardAt
set_option maxRecDepth 20000 in
theorem ggX0_set_X0_cell : GoodIn wsX0_set wsX0_cell := goodIn_r _ [18] (by decide +kernel) (by decide +kernel)
set_option maxRecDepth 20000 in
theorem gX0_set_X0_cell : GoodIn wsX0_set (va_wsS RX0 45 yX0_cell wsX0_cell) := goodIn_app (goodIn_of _ (by decide +kernel)) ggX0_set_X0_cell
theorem dX0_set_0 : decode cX0_set 0 = .ok (.aload_n 0, 1) := by decide +kernel
theorem dX0_set_1 : decode cX0_set 1 = .ok (.iload_n 1, 1) := by decide +kernel
theorem dX0_set_2 : decode cX0_set 2 = .ok (.iload_n 2, 1) := by decide +kernel
theorem dX0_set_3 : decode cX0_set 3 = .ok (.invokevirtual 37, 3) := by decide +kernel
theorem dX0_set_6 : decode cX0_set 6 = .ok (.ifCond .eq 13, 3) := by decide +kernel
theorem dX0_set_9 : decode cX0_set 9 = .ok (.iload_n 3, 1) := by decide +kernel
theorem dX0_set_10 : decode cX0_set 10 = .ok (.iconst 0, 1) := by decide +kernel
theorem dX0_set_11 : decode cX0_set 11 = .ok (.bipush 99, 2) := by decide +kernel
theorem dX0_set_13 : decode cX0_set 13 = .ok (.invokestatic 33, 3) := by decide +kernel
theorem dX0_set_16 : decode cX0_set 16 = .ok (.ifCond .ne 5, 3) := by decide +kernel
theorem dX0_set_19 : decode cX0_set 19 = .ok (.iconst (-1), 1) := by decide +kernel
theorem dX0_set_20 : decode cX0_set 20 = .ok (.ireturn, 1) := by decide +kernel
theorem dX0_set_21 : decode cX0_set 21 = .ok (.aload_n 0, 1) := by decide +kernel
theorem dX0_set_22 : decode cX0_set 22 = .ok (.iload_n 1, 1) := by decide +kernel
theorem dX0_set_23 : decode cX0_set 23 = .ok (.iload_n 2, 1) := by decide +kernel
theorem dX0_set_24 : decode cX0_set 24 = .ok (.invokevirtual 41, 3) := by decide +kernel
theorem dX0_set_27 : decode cX0_set 27 = .ok (.istore 4, 2) := by decide +kernel
theorem dX0_set_29 : decode cX0_set 29 = .ok (.aload_n 0, 1) := by decide +kernel
theorem dX0_set_30 : decode cX0_set 30 = .ok (.getfield 9, 3) := by decide +kernel
theorem dX0_set_33 : decode cX0_set 33 = .ok (.iload_n 1, 1) := by decide +kernel
theorem dX0_set_34 : decode cX0_set 34 = .ok (.iload_n 2, 1) := by decide +kernel
theorem dX0_set_35 : decode cX0_set 35 = .ok (.invokestatic 45, 3) := by decide +kernel
theorem dX0_set_38 : decode cX0_set 38 = .ok (.iload_n 3, 1) := by decide +kernel
theorem dX0_set_39 : decode cX0_set 39 = .ok (.iastore, 1) := by decide +kernel
theorem dX0_set_40 : decode cX0_set 40 = .ok (.iload 4, 2) := by decide +kernel
theorem dX0_set_42 : decode cX0_set 42 = .ok (.ireturn, 1) := by decide +kernel
set_option maxRecDepth 20000 in
theorem ggX0_at_X0_isCell : GoodIn wsX0_at wsX0_isCell := goodIn_r _ [5, 6, 7, 8, 9, 4, 10, 52, 53, 54, 55, 56, 57, 58, 59, 60, 61, 62, 63] (by decide +kernel) (by decide +kernel)
set_option maxRecDepth 20000 in
theorem gX0_at_X0_isCell : GoodIn wsX0_at (wsV RX0 37 RX0 yX0_isCell wsX0_isCell) := goodIn_app (goodIn_of _ (by decide +kernel)) ggX0_at_X0_isCell
set_option maxRecDepth 20000 in
theorem ggX0_at_X0_boardAt : GoodIn wsX0_at wsX0_boardAt := goodIn_r _ [14, 15, 16, 17, 4, 18, 52, 53, 54, 55, 56, 57, 58, 59, 60, 61, 62, 63] (by decide +kernel) (by decide +kernel)
set_option maxRecDepth 20000 in
theorem gX0_at_X0_boardAt : GoodIn wsX0_at (wsV RX0 41 RX0 yX0_boardAt wsX0_boardAt) := goodIn_app (goodIn_of _ (by decide +kernel)) ggX0_at_X0_boardAt
set_option maxRecDepth 20000 in
theorem ggX0_at_X0_sumAt : GoodIn wsX0_at wsX0_sumAt := goodIn_r _ [22, 23, 24, 25, 26, 4, 27, 28, 52, 53, 54, 55, 56, 57, 58, 59, 60, 61, 62, 63] (by decide +kernel) (by decide +kernel)
set_option maxRecDepth 20000 in
theorem gX0_at_X0_sumAt : GoodIn wsX0_at (wsV RX0 48 RX0 yX0_sumAt wsX0_sumAt) := goodIn_app (goodIn_of _ (by decide +kernel)) ggX0_at_X0_sumAt
set_option maxRecDepth 20000 in
theorem ggX0_at_X0_bestPeriod : GoodIn wsX0_at wsX0_bestPeriod := goodIn_r _ [32, 7, 33, 34, 35, 4, 36, 6, 37, 38, 39, 40, 11, 12, 13, 14, 15, 16, 17, 18, 41, 42, 43, 44, 45, 46, 47, 48, 49, 50, 51, 52, 53, 54, 55, 56, 57, 58, 59, 60, 61, 62, 63] (by decide +kernel) (by decide +kernel)
set_option maxRecDepth 20000 in
theorem gX0_at_X0_bestPeriod : GoodIn wsX0_at (wsV RX0 51 RX0 yX0_bestPeriod wsX0_bestPeriod) := goodIn_app (goodIn_of _ (by decide +kernel)) ggX0_at_X0_bestPeriod
set_option maxRecDepth 20000 in
theorem ggX0_at_X0_backgroundAt : GoodIn wsX0_at wsX0_backgroundAt := goodIn_r _ [44, 7, 45, 46, 4, 47, 48, 49, 50, 51, 11, 12, 13, 14, 15, 16, 17, 18, 52, 53, 54, 55, 56, 57, 58, 59, 60, 61, 62, 63] (by decide +kernel) (by decide +kernel)
set_option maxRecDepth 20000 in
theorem gX0_at_X0_backgroundAt : GoodIn wsX0_at (wsV RX0 55 RX0 yX0_backgroundAt wsX0_backgroundAt) := goodIn_app (goodIn_of _ (by decide +kernel)) ggX0_at_X0_backgroundAt
theorem dX0_at_0 : decode cX0_at 0 = .ok (.aload_n 0, 1) := by decide +kernel
theorem dX0_at_1 : decode cX0_at 1 = .ok (.iload_n 1, 1) := by decide +kernel
theorem dX0_at_2 : decode cX0_at 2 = .ok (.iload_n 2, 1) := by decide +kernel
theorem dX0_at_3 : decode cX0_at 3 = .ok (.invokevirtual 37, 3) := by decide +kernel
theorem dX0_at_6 : decode cX0_at 6 = .ok (.ifCond .ne 5, 3) := by decide +kernel
theorem dX0_at_9 : decode cX0_at 9 = .ok (.iconst (-1), 1) := by decide +kernel
theorem dX0_at_10 : decode cX0_at 10 = .ok (.ireturn, 1) := by decide +kernel
theorem dX0_at_11 : decode cX0_at 11 = .ok (.iload_n 3, 1) := by decide +kernel
theorem dX0_at_12 : decode cX0_at 12 = .ok (.tableswitch 53 0 2 #[28, 35, 42], 28) := by decide +kernel
theorem dX0_at_40 : decode cX0_at 40 = .ok (.aload_n 0, 1) := by decide +kernel
theorem dX0_at_41 : decode cX0_at 41 = .ok (.iload_n 1, 1) := by decide +kernel
theorem dX0_at_42 : decode cX0_at 42 = .ok (.iload_n 2, 1) := by decide +kernel
theorem dX0_at_43 : decode cX0_at 43 = .ok (.invokevirtual 41, 3) := by decide +kernel
theorem dX0_at_46 : decode cX0_at 46 = .ok (.ireturn, 1) := by decide +kernel
theorem dX0_at_47 : decode cX0_at 47 = .ok (.aload_n 0, 1) := by decide +kernel
theorem dX0_at_48 : decode cX0_at 48 = .ok (.iload_n 1, 1) := by decide +kernel
theorem dX0_at_49 : decode cX0_at 49 = .ok (.iload_n 2, 1) := by decide +kernel
theorem dX0_at_50 : decode cX0_at 50 = .ok (.invokevirtual 48, 3) := by decide +kernel
theorem dX0_at_53 : decode cX0_at 53 = .ok (.ireturn, 1) := by decide +kernel
theorem dX0_at_54 : decode cX0_at 54 = .ok (.aload_n 0, 1) := by decide +kernel
theorem dX0_at_55 : decode cX0_at 55 = .ok (.aload_n 0, 1) := by decide +kernel
theorem dX0_at_56 : decode cX0_at 56 = .ok (.invokevirtual 51, 3) := by decide +kernel
theorem dX0_at_59 : decode cX0_at 59 = .ok (.iload_n 1, 1) := by decide +kernel
theorem dX0_at_60 : decode cX0_at 60 = .ok (.iload_n 2, 1) := by decide +kernel
theorem dX0_at_61 : decode cX0_at 61 = .ok (.invokevirtual 55, 3) := by decide +kernel
theorem dX0_at_64 : decode cX0_at 64 = .ok (.ireturn, 1) := by decide +kernel
theorem dX0_at_65 : decode cX0_at 65 = .ok (.iconst (-1), 1) := by decide +kernel
theorem dX0_at_66 : decode cX0_at 66 = .ok (.ireturn, 1) := by decide +kernel
set_option maxRecDepth 20000 in
theorem ggX0_number_X0_isNumber : GoodIn wsX0_number wsX0_isNumber := goodIn_r _ [6, 7, 8, 9, 5, 10, 11, 12, 13, 14, 15, 16, 17, 18, 19, 20, 24, 25, 26, 27, 28, 29, 30, 31, 32, 33, 34, 35] (by decide +kernel) (by decide +kernel)
set_option maxRecDepth 20000 in
theorem gX0_number_X0_isNumber : GoodIn wsX0_number (wsV RX0 59 RX0 yX0_isNumber wsX0_isNumber) := goodIn_app (goodIn_of _ (by decide +kernel)) ggX0_number_X0_isNumber
set_option maxRecDepth 20000 in
theorem ggX0_number_X0_place : GoodIn wsX0_number wsX0_place := goodIn_r _ [23] (by decide +kernel) (by decide +kernel)
set_option maxRecDepth 20000 in
theorem gX0_number_X0_place : GoodIn wsX0_number (va_wsS RX0 62 yX0_place wsX0_place) := goodIn_app (goodIn_of _ (by decide +kernel)) ggX0_number_X0_place
theorem dX0_number_0 : decode cX0_number 0 = .ok (.aload_n 0, 1) := by decide +kernel
theorem dX0_number_1 : decode cX0_number 1 = .ok (.iload_n 1, 1) := by decide +kernel
theorem dX0_number_2 : decode cX0_number 2 = .ok (.iload_n 2, 1) := by decide +kernel
theorem dX0_number_3 : decode cX0_number 3 = .ok (.iload_n 3, 1) := by decide +kernel
theorem dX0_number_4 : decode cX0_number 4 = .ok (.invokevirtual 59, 3) := by decide +kernel
theorem dX0_number_7 : decode cX0_number 7 = .ok (.ifCond .ne 5, 3) := by decide +kernel
theorem dX0_number_10 : decode cX0_number 10 = .ok (.iconst (-1), 1) := by decide +kernel
theorem dX0_number_11 : decode cX0_number 11 = .ok (.ireturn, 1) := by decide +kernel
theorem dX0_number_12 : decode cX0_number 12 = .ok (.aload_n 0, 1) := by decide +kernel
theorem dX0_number_13 : decode cX0_number 13 = .ok (.getfield 13, 3) := by decide +kernel
theorem dX0_number_16 : decode cX0_number 16 = .ok (.iload_n 1, 1) := by decide +kernel
theorem dX0_number_17 : decode cX0_number 17 = .ok (.iload_n 2, 1) := by decide +kernel
theorem dX0_number_18 : decode cX0_number 18 = .ok (.iload_n 3, 1) := by decide +kernel
theorem dX0_number_19 : decode cX0_number 19 = .ok (.invokestatic 62, 3) := by decide +kernel
theorem dX0_number_22 : decode cX0_number 22 = .ok (.iaload, 1) := by decide +kernel
theorem dX0_number_23 : decode cX0_number 23 = .ok (.ireturn, 1) := by decide +kernel
set_option maxRecDepth 20000 in
theorem ggX0_begin_X0_isNumber : GoodIn wsX0_begin wsX0_isNumber := goodIn_r _ [6, 7, 8, 9, 5, 10, 11, 12, 13, 14, 15, 16, 17, 18, 19, 20, 29, 30, 31, 32, 33, 34, 35, 36, 37, 38, 39, 40] (by decide +kernel) (by decide +kernel)
set_option maxRecDepth 20000 in
theorem gX0_begin_X0_isNumber : GoodIn wsX0_begin (wsV RX0 59 RX0 yX0_isNumber wsX0_isNumber) := goodIn_app (goodIn_of _ (by decide +kernel)) ggX0_begin_X0_isNumber
set_option maxRecDepth 20000 in
theorem ggX0_begin_X0_within : GoodIn wsX0_begin wsX0_within := goodIn_r _ [14] (by decide +kernel) (by decide +kernel)
set_option maxRecDepth 20000 in
theorem gX0_begin_X0_within : GoodIn wsX0_begin (va_wsS RX0 33 yX0_within wsX0_within) := goodIn_app (goodIn_of _ (by decide +kernel)) ggX0_begin_X0_within
set_option maxRecDepth 20000 in
theorem ggX0_begin_X0_place : GoodIn wsX0_begin wsX0_place := goodIn_r _ [23] (by decide +kernel) (by decide +kernel)
set_option maxRecDepth 20000 in
theorem gX0_begin_X0_place : GoodIn wsX0_begin (va_wsS RX0 62 yX0_place wsX0_place) := goodIn_app (goodIn_of _ (by decide +kernel)) ggX0_begin_X0_place
set_option maxRecDepth 20000 in
theorem ggX0_begin_X0_isBarred : GoodIn wsX0_begin wsX0_isBarred := goodIn_r _ [27, 28, 29, 30, 31, 32, 33, 34, 35, 36, 37, 38, 39, 40] (by decide +kernel) (by decide +kernel)
set_option maxRecDepth 20000 in
theorem gX0_begin_X0_isBarred : GoodIn wsX0_begin (wsV RX0 65 RX0 yX0_isBarred wsX0_isBarred) := goodIn_app (goodIn_of _ (by decide +kernel)) ggX0_begin_X0_isBarred
theorem dX0_begin_0 : decode cX0_begin 0 = .ok (.aload_n 0, 1) := by decide +kernel
theorem dX0_begin_1 : decode cX0_begin 1 = .ok (.iload_n 1, 1) := by decide +kernel
theorem dX0_begin_2 : decode cX0_begin 2 = .ok (.iload_n 2, 1) := by decide +kernel
theorem dX0_begin_3 : decode cX0_begin 3 = .ok (.iload_n 3, 1) := by decide +kernel
theorem dX0_begin_4 : decode cX0_begin 4 = .ok (.invokevirtual 59, 3) := by decide +kernel
theorem dX0_begin_7 : decode cX0_begin 7 = .ok (.ifCond .eq 14, 3) := by decide +kernel
theorem dX0_begin_10 : decode cX0_begin 10 = .ok (.iload 4, 2) := by decide +kernel
theorem dX0_begin_12 : decode cX0_begin 12 = .ok (.iconst 0, 1) := by decide +kernel
theorem dX0_begin_13 : decode cX0_begin 13 = .ok (.bipush 20, 2) := by decide +kernel
theorem dX0_begin_15 : decode cX0_begin 15 = .ok (.invokestatic 33, 3) := by decide +kernel
theorem dX0_begin_18 : decode cX0_begin 18 = .ok (.ifCond .ne 5, 3) := by decide +kernel
theorem dX0_begin_21 : decode cX0_begin 21 = .ok (.iconst (-1), 1) := by decide +kernel
theorem dX0_begin_22 : decode cX0_begin 22 = .ok (.ireturn, 1) := by decide +kernel
theorem dX0_begin_23 : decode cX0_begin 23 = .ok (.iload_n 1, 1) := by decide +kernel
theorem dX0_begin_24 : decode cX0_begin 24 = .ok (.iload_n 2, 1) := by decide +kernel
theorem dX0_begin_25 : decode cX0_begin 25 = .ok (.iload_n 3, 1) := by decide +kernel
theorem dX0_begin_26 : decode cX0_begin 26 = .ok (.invokestatic 62, 3) := by decide +kernel
theorem dX0_begin_29 : decode cX0_begin 29 = .ok (.istore 5, 2) := by decide +kernel
theorem dX0_begin_31 : decode cX0_begin 31 = .ok (.aload_n 0, 1) := by decide +kernel
theorem dX0_begin_32 : decode cX0_begin 32 = .ok (.iload 5, 2) := by decide +kernel
theorem dX0_begin_34 : decode cX0_begin 34 = .ok (.invokevirtual 65, 3) := by decide +kernel
theorem dX0_begin_37 : decode cX0_begin 37 = .ok (.ifCond .eq 6, 3) := by decide +kernel
theorem dX0_begin_40 : decode cX0_begin 40 = .ok (.bipush (-2), 2) := by decide +kernel
theorem dX0_begin_42 : decode cX0_begin 42 = .ok (.ireturn, 1) := by decide +kernel
theorem dX0_begin_43 : decode cX0_begin 43 = .ok (.aload_n 0, 1) := by decide +kernel
theorem dX0_begin_44 : decode cX0_begin 44 = .ok (.getfield 13, 3) := by decide +kernel
theorem dX0_begin_47 : decode cX0_begin 47 = .ok (.iload 5, 2) := by decide +kernel
theorem dX0_begin_49 : decode cX0_begin 49 = .ok (.iaload, 1) := by decide +kernel
theorem dX0_begin_50 : decode cX0_begin 50 = .ok (.istore 6, 2) := by decide +kernel
theorem dX0_begin_52 : decode cX0_begin 52 = .ok (.aload_n 0, 1) := by decide +kernel
theorem dX0_begin_53 : decode cX0_begin 53 = .ok (.getfield 13, 3) := by decide +kernel
theorem dX0_begin_56 : decode cX0_begin 56 = .ok (.iload 5, 2) := by decide +kernel
theorem dX0_begin_58 : decode cX0_begin 58 = .ok (.iload 4, 2) := by decide +kernel
theorem dX0_begin_60 : decode cX0_begin 60 = .ok (.iastore, 1) := by decide +kernel
theorem dX0_begin_61 : decode cX0_begin 61 = .ok (.iload 6, 2) := by decide +kernel
theorem dX0_begin_63 : decode cX0_begin 63 = .ok (.ireturn, 1) := by decide +kernel
set_option maxRecDepth 20000 in
theorem ggX0_bar_X0_isNumber : GoodIn wsX0_bar wsX0_isNumber := goodIn_r _ [7, 8, 9, 10, 6, 11, 12, 13, 14, 15, 16, 17, 18, 19, 20, 21, 29, 30, 31, 32, 33, 34, 35, 36, 37, 38, 39, 40] (by decide +kernel) (by decide +kernel)
set_option maxRecDepth 20000 in
theorem gX0_bar_X0_isNumber : GoodIn wsX0_bar (wsV RX0 59 RX0 yX0_isNumber wsX0_isNumber) := goodIn_app (goodIn_of _ (by decide +kernel)) ggX0_bar_X0_isNumber
set_option maxRecDepth 20000 in
theorem ggX0_bar_X0_place : GoodIn wsX0_bar wsX0_place := goodIn_r _ [24] (by decide +kernel) (by decide +kernel)
set_option maxRecDepth 20000 in
theorem gX0_bar_X0_place : GoodIn wsX0_bar (va_wsS RX0 62 yX0_place wsX0_place) := goodIn_app (goodIn_of _ (by decide +kernel)) ggX0_bar_X0_place
set_option maxRecDepth 20000 in
theorem ggX0_bar_X0_isBarred : GoodIn wsX0_bar wsX0_isBarred := goodIn_r _ [28, 2, 29, 30, 31, 32, 33, 34, 35, 36, 37, 38, 39, 40] (by decide +kernel) (by decide +kernel)
set_option maxRecDepth 20000 in
theorem gX0_bar_X0_isBarred : GoodIn wsX0_bar (wsV RX0 65 RX0 yX0_isBarred wsX0_isBarred) := goodIn_app (goodIn_of _ (by decide +kernel)) ggX0_bar_X0_isBarred
theorem dX0_bar_0 : decode cX0_bar 0 = .ok (.aload_n 0, 1) := by decide +kernel
theorem dX0_bar_1 : decode cX0_bar 1 = .ok (.iload_n 1, 1) := by decide +kernel
theorem dX0_bar_2 : decode cX0_bar 2 = .ok (.iload_n 2, 1) := by decide +kernel
theorem dX0_bar_3 : decode cX0_bar 3 = .ok (.iload_n 3, 1) := by decide +kernel
theorem dX0_bar_4 : decode cX0_bar 4 = .ok (.invokevirtual 59, 3) := by decide +kernel
theorem dX0_bar_7 : decode cX0_bar 7 = .ok (.ifCond .ne 5, 3) := by decide +kernel
theorem dX0_bar_10 : decode cX0_bar 10 = .ok (.iconst (-1), 1) := by decide +kernel
theorem dX0_bar_11 : decode cX0_bar 11 = .ok (.ireturn, 1) := by decide +kernel
theorem dX0_bar_12 : decode cX0_bar 12 = .ok (.iload_n 1, 1) := by decide +kernel
theorem dX0_bar_13 : decode cX0_bar 13 = .ok (.iload_n 2, 1) := by decide +kernel
theorem dX0_bar_14 : decode cX0_bar 14 = .ok (.iload_n 3, 1) := by decide +kernel
theorem dX0_bar_15 : decode cX0_bar 15 = .ok (.invokestatic 62, 3) := by decide +kernel
theorem dX0_bar_18 : decode cX0_bar 18 = .ok (.istore 4, 2) := by decide +kernel
theorem dX0_bar_20 : decode cX0_bar 20 = .ok (.aload_n 0, 1) := by decide +kernel
theorem dX0_bar_21 : decode cX0_bar 21 = .ok (.iload 4, 2) := by decide +kernel
theorem dX0_bar_23 : decode cX0_bar 23 = .ok (.invokevirtual 65, 3) := by decide +kernel
theorem dX0_bar_26 : decode cX0_bar 26 = .ok (.ifCond .eq 6, 3) := by decide +kernel
theorem dX0_bar_29 : decode cX0_bar 29 = .ok (.bipush (-2), 2) := by decide +kernel
theorem dX0_bar_31 : decode cX0_bar 31 = .ok (.ireturn, 1) := by decide +kernel
theorem dX0_bar_32 : decode cX0_bar 32 = .ok (.aload_n 0, 1) := by decide +kernel
theorem dX0_bar_33 : decode cX0_bar 33 = .ok (.getfield 13, 3) := by decide +kernel
theorem dX0_bar_36 : decode cX0_bar 36 = .ok (.iload 4, 2) := by decide +kernel
theorem dX0_bar_38 : decode cX0_bar 38 = .ok (.iaload, 1) := by decide +kernel
theorem dX0_bar_39 : decode cX0_bar 39 = .ok (.istore 5, 2) := by decide +kernel
theorem dX0_bar_41 : decode cX0_bar 41 = .ok (.aload_n 0, 1) := by decide +kernel
theorem dX0_bar_42 : decode cX0_bar 42 = .ok (.getfield 13, 3) := by decide +kernel
theorem dX0_bar_45 : decode cX0_bar 45 = .ok (.iload 4, 2) := by decide +kernel
theorem dX0_bar_47 : decode cX0_bar 47 = .ok (.iconst 0, 1) := by decide +kernel
theorem dX0_bar_48 : decode cX0_bar 48 = .ok (.iastore, 1) := by decide +kernel
theorem dX0_bar_49 : decode cX0_bar 49 = .ok (.aload_n 0, 1) := by decide +kernel
theorem dX0_bar_50 : decode cX0_bar 50 = .ok (.dup, 1) := by decide +kernel
theorem dX0_bar_51 : decode cX0_bar 51 = .ok (.getfield 69, 3) := by decide +kernel
theorem dX0_bar_54 : decode cX0_bar 54 = .ok (.lconst 1, 1) := by decide +kernel
theorem dX0_bar_55 : decode cX0_bar 55 = .ok (.iload 4, 2) := by decide +kernel
theorem dX0_bar_57 : decode cX0_bar 57 = .ok (.lshl, 1) := by decide +kernel
theorem dX0_bar_58 : decode cX0_bar 58 = .ok (.lor, 1) := by decide +kernel
theorem dX0_bar_59 : decode cX0_bar 59 = .ok (.putfield 69, 3) := by decide +kernel
theorem dX0_bar_62 : decode cX0_bar 62 = .ok (.iload 5, 2) := by decide +kernel
theorem dX0_bar_64 : decode cX0_bar 64 = .ok (.ireturn, 1) := by decide +kernel
set_option maxRecDepth 20000 in
theorem ggX0_judge_X0_isKind : GoodIn wsX0_judge wsX0_isKind := goodIn_r _ [5, 6, 7, 4, 8] (by decide +kernel) (by decide +kernel)
set_option maxRecDepth 20000 in
theorem gX0_judge_X0_isKind : GoodIn wsX0_judge (va_wsS RX0 73 yX0_isKind wsX0_isKind) := goodIn_app (goodIn_of _ (by decide +kernel)) ggX0_judge_X0_isKind
theorem dX0_judge_0 : decode cX0_judge 0 = .ok (.iload_n 1, 1) := by decide +kernel
theorem dX0_judge_1 : decode cX0_judge 1 = .ok (.invokestatic 73, 3) := by decide +kernel
theorem dX0_judge_4 : decode cX0_judge 4 = .ok (.ifCond .ne 5, 3) := by decide +kernel
theorem dX0_judge_7 : decode cX0_judge 7 = .ok (.iconst (-1), 1) := by decide +kernel
theorem dX0_judge_8 : decode cX0_judge 8 = .ok (.ireturn, 1) := by decide +kernel
theorem dX0_judge_9 : decode cX0_judge 9 = .ok (.aload_n 0, 1) := by decide +kernel
theorem dX0_judge_10 : decode cX0_judge 10 = .ok (.getfield 29, 3) := by decide +kernel
theorem dX0_judge_13 : decode cX0_judge 13 = .ok (.istore_n 2, 1) := by decide +kernel
theorem dX0_judge_14 : decode cX0_judge 14 = .ok (.aload_n 0, 1) := by decide +kernel
theorem dX0_judge_15 : decode cX0_judge 15 = .ok (.iload_n 1, 1) := by decide +kernel
theorem dX0_judge_16 : decode cX0_judge 16 = .ok (.putfield 29, 3) := by decide +kernel
theorem dX0_judge_19 : decode cX0_judge 19 = .ok (.iload_n 2, 1) := by decide +kernel
theorem dX0_judge_20 : decode cX0_judge 20 = .ok (.ireturn, 1) := by decide +kernel
set_option maxRecDepth 20000 in
theorem ggX0_cost_X0_isKind : GoodIn wsX0_cost wsX0_isKind := goodIn_r _ [5, 6, 7, 4, 8] (by decide +kernel) (by decide +kernel)
set_option maxRecDepth 20000 in
theorem gX0_cost_X0_isKind : GoodIn wsX0_cost (va_wsS RX0 73 yX0_isKind wsX0_isKind) := goodIn_app (goodIn_of _ (by decide +kernel)) ggX0_cost_X0_isKind
set_option maxRecDepth 20000 in
theorem ggX0_cost_X0_within : GoodIn wsX0_cost wsX0_within := goodIn_r _ [8] (by decide +kernel) (by decide +kernel)
set_option maxRecDepth 20000 in
theorem gX0_cost_X0_within : GoodIn wsX0_cost (va_wsS RX0 33 yX0_within wsX0_within) := goodIn_app (goodIn_of _ (by decide +kernel)) ggX0_cost_X0_within
set_option maxRecDepth 20000 in
theorem ggX0_cost_X0_traceOfKind : GoodIn wsX0_cost wsX0_traceOfKind := goodIn_r _ [11] (by decide +kernel) (by decide +kernel)
set_option maxRecDepth 20000 in
theorem gX0_cost_X0_traceOfKind : GoodIn wsX0_cost (va_wsS RX0 79 yX0_traceOfKind wsX0_traceOfKind) := goodIn_app (goodIn_of _ (by decide +kernel)) ggX0_cost_X0_traceOfKind
set_option maxRecDepth 20000 in
theorem ggX0_cost_X0_costBy : GoodIn wsX0_cost wsX0_costBy := goodIn_r _ [14] (by decide +kernel) (by decide +kernel)
set_option maxRecDepth 20000 in
theorem gX0_cost_X0_costBy : GoodIn wsX0_cost (va_wsS RX0 83 yX0_costBy wsX0_costBy) := goodIn_app (goodIn_of _ (by decide +kernel)) ggX0_cost_X0_costBy
theorem dX0_cost_0 : decode cX0_cost 0 = .ok (.iload_n 1, 1) := by decide +kernel
theorem dX0_cost_1 : decode cX0_cost 1 = .ok (.invokestatic 73, 3) := by decide +kernel
theorem dX0_cost_4 : decode cX0_cost 4 = .ok (.ifCond .eq 14, 3) := by decide +kernel
theorem dX0_cost_7 : decode cX0_cost 7 = .ok (.iload_n 2, 1) := by decide +kernel
theorem dX0_cost_8 : decode cX0_cost 8 = .ok (.iconst 0, 1) := by decide +kernel
theorem dX0_cost_9 : decode cX0_cost 9 = .ok (.sipush 2000, 3) := by decide +kernel
theorem dX0_cost_12 : decode cX0_cost 12 = .ok (.invokestatic 33, 3) := by decide +kernel
theorem dX0_cost_15 : decode cX0_cost 15 = .ok (.ifCond .ne 5, 3) := by decide +kernel
theorem dX0_cost_18 : decode cX0_cost 18 = .ok (.iconst (-1), 1) := by decide +kernel
theorem dX0_cost_19 : decode cX0_cost 19 = .ok (.ireturn, 1) := by decide +kernel
theorem dX0_cost_20 : decode cX0_cost 20 = .ok (.aload_n 0, 1) := by decide +kernel
theorem dX0_cost_21 : decode cX0_cost 21 = .ok (.dup, 1) := by decide +kernel
theorem dX0_cost_22 : decode cX0_cost 22 = .ok (.getfield 76, 3) := by decide +kernel
theorem dX0_cost_25 : decode cX0_cost 25 = .ok (.iload_n 1, 1) := by decide +kernel
theorem dX0_cost_26 : decode cX0_cost 26 = .ok (.invokestatic 79, 3) := by decide +kernel
theorem dX0_cost_29 : decode cX0_cost 29 = .ok (.i2l, 1) := by decide +kernel
theorem dX0_cost_30 : decode cX0_cost 30 = .ok (.ladd, 1) := by decide +kernel
theorem dX0_cost_31 : decode cX0_cost 31 = .ok (.putfield 76, 3) := by decide +kernel
theorem dX0_cost_34 : decode cX0_cost 34 = .ok (.iload_n 1, 1) := by decide +kernel
theorem dX0_cost_35 : decode cX0_cost 35 = .ok (.iload_n 2, 1) := by decide +kernel
theorem dX0_cost_36 : decode cX0_cost 36 = .ok (.invokestatic 83, 3) := by decide +kernel
theorem dX0_cost_39 : decode cX0_cost 39 = .ok (.ireturn, 1) := by decide +kernel
set_option maxRecDepth 20000 in
theorem ggX0_miss_X0_missAlong : GoodIn wsX0_miss wsX0_missAlong := goodIn_r _ [6, 7, 8, 9, 5, 10, 1, 11, 12, 13, 14, 15, 16, 17, 18, 19, 20, 21, 22, 23, 24, 25, 26, 27, 28, 29, 30, 31, 32, 33, 34, 35, 36, 37, 38, 39, 40, 41, 42, 43, 44, 45, 46, 47, 48, 49, 50, 51, 52, 53] (by decide +kernel) (by decide +kernel)
set_option maxRecDepth 20000 in
theorem gX0_miss_X0_missAlong : GoodIn wsX0_miss (wsV RX0 89 RX0 yX0_missAlong wsX0_missAlong) := goodIn_app (goodIn_of _ (by decide +kernel)) ggX0_miss_X0_missAlong
theorem dX0_miss_0 : decode cX0_miss 0 = .ok (.iconst 0, 1) := by decide +kernel
theorem dX0_miss_1 : decode cX0_miss 1 = .ok (.istore_n 1, 1) := by decide +kernel
theorem dX0_miss_2 : decode cX0_miss 2 = .ok (.iconst 0, 1) := by decide +kernel
theorem dX0_miss_3 : decode cX0_miss 3 = .ok (.istore_n 2, 1) := by decide +kernel
theorem dX0_miss_4 : decode cX0_miss 4 = .ok (.iload_n 2, 1) := by decide +kernel
theorem dX0_miss_5 : decode cX0_miss 5 = .ok (.aload_n 0, 1) := by decide +kernel
theorem dX0_miss_6 : decode cX0_miss 6 = .ok (.getfield 86, 3) := by decide +kernel
theorem dX0_miss_9 : decode cX0_miss 9 = .ok (.if_icmp .ge 18, 3) := by decide +kernel
theorem dX0_miss_12 : decode cX0_miss 12 = .ok (.iload_n 1, 1) := by decide +kernel
theorem dX0_miss_13 : decode cX0_miss 13 = .ok (.aload_n 0, 1) := by decide +kernel
theorem dX0_miss_14 : decode cX0_miss 14 = .ok (.iconst 0, 1) := by decide +kernel
theorem dX0_miss_15 : decode cX0_miss 15 = .ok (.iload_n 2, 1) := by decide +kernel
theorem dX0_miss_16 : decode cX0_miss 16 = .ok (.invokevirtual 89, 3) := by decide +kernel
theorem dX0_miss_19 : decode cX0_miss 19 = .ok (.iadd, 1) := by decide +kernel
theorem dX0_miss_20 : decode cX0_miss 20 = .ok (.istore_n 1, 1) := by decide +kernel
theorem dX0_miss_21 : decode cX0_miss 21 = .ok (.iinc 2 1, 3) := by decide +kernel
theorem dX0_miss_24 : decode cX0_miss 24 = .ok (.goto (-20), 3) := by decide +kernel
theorem dX0_miss_27 : decode cX0_miss 27 = .ok (.iload_n 1, 1) := by decide +kernel
theorem dX0_miss_28 : decode cX0_miss 28 = .ok (.ireturn, 1) := by decide +kernel
set_option maxRecDepth 20000 in
theorem ggX0_rounds_X0_within : GoodIn wsX0_rounds wsX0_within := goodIn_r _ [5] (by decide +kernel) (by decide +kernel)
set_option maxRecDepth 20000 in
theorem gX0_rounds_X0_within : GoodIn wsX0_rounds (va_wsS RX0 33 yX0_within wsX0_within) := goodIn_app (goodIn_of _ (by decide +kernel)) ggX0_rounds_X0_within
set_option maxRecDepth 20000 in
theorem ggX0_rounds_X0_playRound : GoodIn wsX0_rounds wsX0_playRound := goodIn_r _ [9, 10, 11, 12, 13, 4, 14, 15, 16, 17, 18, 19, 20, 21, 22, 23, 24, 25, 26, 27, 28, 29, 30, 31, 32, 33, 34, 35, 36, 37, 38, 39, 40, 41, 42, 43, 44, 45, 46, 47, 48, 49, 50, 51, 52, 53, 54, 55, 56, 57, 58, 59, 60, 61, 2, 3, 5, 66, 67, 68, 69, 70, 71, 72, 73, 74, 75, 76, 77] (by decide +kernel) (by decide +kernel)
set_option maxRecDepth 20000 in
theorem gX0_rounds_X0_playRound : GoodIn wsX0_rounds (wsV RX0 92 RX0 yX0_playRound wsX0_playRound) := goodIn_app (goodIn_of _ (by decide +kernel)) ggX0_rounds_X0_playRound
set_option maxRecDepth 20000 in
theorem ggX0_rounds_X0_miss : GoodIn wsX0_rounds wsX0_miss := goodIn_r _ [65, 15, 30, 31, 32, 4, 33, 11, 12, 13, 14, 16, 34, 35, 36, 37, 38, 39, 40, 41, 42, 43, 44, 45, 46, 47, 48, 49, 50, 51, 52, 53, 54, 10, 55, 56, 57, 58, 21, 59, 60, 61, 66, 67, 68, 69, 70, 71, 72, 73, 74, 75, 76, 77] (by decide +kernel) (by decide +kernel)
set_option maxRecDepth 20000 in
theorem gX0_rounds_X0_miss : GoodIn wsX0_rounds (wsV RX0 98 RX0 yX0_miss wsX0_miss) := goodIn_app (goodIn_of _ (by decide +kernel)) ggX0_rounds_X0_miss
theorem dX0_rounds_0 : decode cX0_rounds 0 = .ok (.iload_n 1, 1) := by decide +kernel
theorem dX0_rounds_1 : decode cX0_rounds 1 = .ok (.iconst 1, 1) := by decide +kernel
theorem dX0_rounds_2 : decode cX0_rounds 2 = .ok (.bipush 10, 2) := by decide +kernel
theorem dX0_rounds_4 : decode cX0_rounds 4 = .ok (.invokestatic 33, 3) := by decide +kernel
theorem dX0_rounds_7 : decode cX0_rounds 7 = .ok (.ifCond .ne 5, 3) := by decide +kernel
theorem dX0_rounds_10 : decode cX0_rounds 10 = .ok (.iconst (-1), 1) := by decide +kernel
theorem dX0_rounds_11 : decode cX0_rounds 11 = .ok (.ireturn, 1) := by decide +kernel
theorem dX0_rounds_12 : decode cX0_rounds 12 = .ok (.iconst 0, 1) := by decide +kernel
theorem dX0_rounds_13 : decode cX0_rounds 13 = .ok (.istore_n 2, 1) := by decide +kernel
theorem dX0_rounds_14 : decode cX0_rounds 14 = .ok (.iload_n 2, 1) := by decide +kernel
theorem dX0_rounds_15 : decode cX0_rounds 15 = .ok (.iload_n 1, 1) := by decide +kernel
theorem dX0_rounds_16 : decode cX0_rounds 16 = .ok (.if_icmp .ge 13, 3) := by decide +kernel
theorem dX0_rounds_19 : decode cX0_rounds 19 = .ok (.aload_n 0, 1) := by decide +kernel
theorem dX0_rounds_20 : decode cX0_rounds 20 = .ok (.invokevirtual 92, 3) := by decide +kernel
theorem dX0_rounds_23 : decode cX0_rounds 23 = .ok (.iinc 2 1, 3) := by decide +kernel
theorem dX0_rounds_26 : decode cX0_rounds 26 = .ok (.goto (-12), 3) := by decide +kernel
theorem dX0_rounds_29 : decode cX0_rounds 29 = .ok (.aload_n 0, 1) := by decide +kernel
theorem dX0_rounds_30 : decode cX0_rounds 30 = .ok (.dup, 1) := by decide +kernel
theorem dX0_rounds_31 : decode cX0_rounds 31 = .ok (.getfield 95, 3) := by decide +kernel
theorem dX0_rounds_34 : decode cX0_rounds 34 = .ok (.iload_n 1, 1) := by decide +kernel
theorem dX0_rounds_35 : decode cX0_rounds 35 = .ok (.iadd, 1) := by decide +kernel
theorem dX0_rounds_36 : decode cX0_rounds 36 = .ok (.putfield 95, 3) := by decide +kernel
theorem dX0_rounds_39 : decode cX0_rounds 39 = .ok (.aload_n 0, 1) := by decide +kernel
theorem dX0_rounds_40 : decode cX0_rounds 40 = .ok (.invokevirtual 98, 3) := by decide +kernel
theorem dX0_rounds_43 : decode cX0_rounds 43 = .ok (.ireturn, 1) := by decide +kernel
set_option maxRecDepth 20000 in
theorem ggX0_share_X0_isVoice : GoodIn wsX0_share wsX0_isVoice := goodIn_r _ [5, 6, 7, 8, 4, 9, 37, 38, 39, 40, 41, 42, 43, 44, 45, 46, 47, 48] (by decide +kernel) (by decide +kernel)
set_option maxRecDepth 20000 in
theorem gX0_share_X0_isVoice : GoodIn wsX0_share (wsV RX0 101 RX0 yX0_isVoice wsX0_isVoice) := goodIn_app (goodIn_of _ (by decide +kernel)) ggX0_share_X0_isVoice
set_option maxRecDepth 20000 in
theorem ggX0_share_X0_isCell : GoodIn wsX0_share wsX0_isCell := goodIn_r _ [13, 14, 15, 7, 8, 4, 9, 37, 38, 39, 40, 41, 42, 43, 44, 45, 46, 47, 48] (by decide +kernel) (by decide +kernel)
set_option maxRecDepth 20000 in
theorem gX0_share_X0_isCell : GoodIn wsX0_share (wsV RX0 37 RX0 yX0_isCell wsX0_isCell) := goodIn_app (goodIn_of _ (by decide +kernel)) ggX0_share_X0_isCell
set_option maxRecDepth 20000 in
theorem ggX0_share_X0_shareAt : GoodIn wsX0_share wsX0_shareAt := goodIn_r _ [19, 6, 20, 21, 22, 4, 23, 24, 25, 26, 27, 28, 29, 30, 31, 32, 33, 34, 35, 36, 37, 38, 39, 40, 41, 42, 43, 44, 45, 46, 47, 48] (by decide +kernel) (by decide +kernel)
set_option maxRecDepth 20000 in
theorem gX0_share_X0_shareAt : GoodIn wsX0_share (wsV RX0 104 RX0 yX0_shareAt wsX0_shareAt) := goodIn_app (goodIn_of _ (by decide +kernel)) ggX0_share_X0_shareAt
theorem dX0_share_0 : decode cX0_share 0 = .ok (.aload_n 0, 1) := by decide +kernel
theorem dX0_share_1 : decode cX0_share 1 = .ok (.iload_n 1, 1) := by decide +kernel
theorem dX0_share_2 : decode cX0_share 2 = .ok (.invokevirtual 101, 3) := by decide +kernel
theorem dX0_share_5 : decode cX0_share 5 = .ok (.ifCond .eq 12, 3) := by decide +kernel
theorem dX0_share_8 : decode cX0_share 8 = .ok (.aload_n 0, 1) := by decide +kernel
theorem dX0_share_9 : decode cX0_share 9 = .ok (.iload_n 2, 1) := by decide +kernel
theorem dX0_share_10 : decode cX0_share 10 = .ok (.iload_n 3, 1) := by decide +kernel
theorem dX0_share_11 : decode cX0_share 11 = .ok (.invokevirtual 37, 3) := by decide +kernel
theorem dX0_share_14 : decode cX0_share 14 = .ok (.ifCond .ne 5, 3) := by decide +kernel
theorem dX0_share_17 : decode cX0_share 17 = .ok (.iconst (-1), 1) := by decide +kernel
theorem dX0_share_18 : decode cX0_share 18 = .ok (.ireturn, 1) := by decide +kernel
theorem dX0_share_19 : decode cX0_share 19 = .ok (.aload_n 0, 1) := by decide +kernel
theorem dX0_share_20 : decode cX0_share 20 = .ok (.iload_n 1, 1) := by decide +kernel
theorem dX0_share_21 : decode cX0_share 21 = .ok (.iload_n 2, 1) := by decide +kernel
theorem dX0_share_22 : decode cX0_share 22 = .ok (.iload_n 3, 1) := by decide +kernel
theorem dX0_share_23 : decode cX0_share 23 = .ok (.invokevirtual 104, 3) := by decide +kernel
theorem dX0_share_26 : decode cX0_share 26 = .ok (.ireturn, 1) := by decide +kernel
set_option maxRecDepth 20000 in
theorem ggX0_background_X0_within : GoodIn wsX0_background wsX0_within := goodIn_r _ [5] (by decide +kernel) (by decide +kernel)
set_option maxRecDepth 20000 in
theorem gX0_background_X0_within : GoodIn wsX0_background (va_wsS RX0 33 yX0_within wsX0_within) := goodIn_app (goodIn_of _ (by decide +kernel)) ggX0_background_X0_within
set_option maxRecDepth 20000 in
theorem ggX0_background_X0_isCell : GoodIn wsX0_background wsX0_isCell := goodIn_r _ [9, 10, 1, 2, 3, 4, 5, 30, 31, 32, 33, 34, 35, 36, 37, 38, 39, 40, 41] (by decide +kernel) (by decide +kernel)
set_option maxRecDepth 20000 in
theorem gX0_background_X0_isCell : GoodIn wsX0_background (wsV RX0 37 RX0 yX0_isCell wsX0_isCell) := goodIn_app (goodIn_of _ (by decide +kernel)) ggX0_background_X0_isCell
set_option maxRecDepth 20000 in
theorem ggX0_background_X0_backgroundAt : GoodIn wsX0_background wsX0_backgroundAt := goodIn_r _ [14, 1, 15, 16, 4, 17, 18, 19, 20, 21, 22, 23, 24, 25, 26, 27, 28, 29, 30, 31, 32, 33, 34, 35, 36, 37, 38, 39, 40, 41] (by decide +kernel) (by decide +kernel)
set_option maxRecDepth 20000 in
theorem gX0_background_X0_backgroundAt : GoodIn wsX0_background (wsV RX0 55 RX0 yX0_backgroundAt wsX0_backgroundAt) := goodIn_app (goodIn_of _ (by decide +kernel)) ggX0_background_X0_backgroundAt
theorem dX0_background_0 : decode cX0_background 0 = .ok (.iload_n 1, 1) := by decide +kernel
theorem dX0_background_1 : decode cX0_background 1 = .ok (.iconst 1, 1) := by decide +kernel
theorem dX0_background_2 : decode cX0_background 2 = .ok (.aload_n 0, 1) := by decide +kernel
theorem dX0_background_3 : decode cX0_background 3 = .ok (.getfield 107, 3) := by decide +kernel
theorem dX0_background_6 : decode cX0_background 6 = .ok (.invokestatic 33, 3) := by decide +kernel
theorem dX0_background_9 : decode cX0_background 9 = .ok (.ifCond .eq 12, 3) := by decide +kernel
theorem dX0_background_12 : decode cX0_background 12 = .ok (.aload_n 0, 1) := by decide +kernel
theorem dX0_background_13 : decode cX0_background 13 = .ok (.iload_n 2, 1) := by decide +kernel
theorem dX0_background_14 : decode cX0_background 14 = .ok (.iload_n 3, 1) := by decide +kernel
theorem dX0_background_15 : decode cX0_background 15 = .ok (.invokevirtual 37, 3) := by decide +kernel
theorem dX0_background_18 : decode cX0_background 18 = .ok (.ifCond .ne 5, 3) := by decide +kernel
theorem dX0_background_21 : decode cX0_background 21 = .ok (.iconst (-1), 1) := by decide +kernel
theorem dX0_background_22 : decode cX0_background 22 = .ok (.ireturn, 1) := by decide +kernel
theorem dX0_background_23 : decode cX0_background 23 = .ok (.aload_n 0, 1) := by decide +kernel
theorem dX0_background_24 : decode cX0_background 24 = .ok (.iload_n 1, 1) := by decide +kernel
theorem dX0_background_25 : decode cX0_background 25 = .ok (.iload_n 2, 1) := by decide +kernel
theorem dX0_background_26 : decode cX0_background 26 = .ok (.iload_n 3, 1) := by decide +kernel
theorem dX0_background_27 : decode cX0_background 27 = .ok (.invokevirtual 55, 3) := by decide +kernel
theorem dX0_background_30 : decode cX0_background 30 = .ok (.ireturn, 1) := by decide +kernel
set_option maxRecDepth 20000 in
theorem ggX0_period_X0_bestPeriod : GoodIn wsX0_period wsX0_bestPeriod := goodIn_r _ [5, 6, 7, 8, 9, 4, 10, 11, 12, 13, 14, 15, 16, 17, 18, 19, 20, 21, 22, 23, 24, 25, 26, 27, 28, 29, 30, 31, 32, 33, 34, 35, 36, 37, 38, 39, 40, 41, 42, 43, 44, 45, 46] (by decide +kernel) (by decide +kernel)
set_option maxRecDepth 20000 in
theorem gX0_period_X0_bestPeriod : GoodIn wsX0_period (wsV RX0 51 RX0 yX0_bestPeriod wsX0_bestPeriod) := goodIn_app (goodIn_of _ (by decide +kernel)) ggX0_period_X0_bestPeriod
theorem dX0_period_0 : decode cX0_period 0 = .ok (.aload_n 0, 1) := by decide +kernel
theorem dX0_period_1 : decode cX0_period 1 = .ok (.invokevirtual 51, 3) := by decide +kernel
theorem dX0_period_4 : decode cX0_period 4 = .ok (.ireturn, 1) := by decide +kernel
set_option maxRecDepth 20000 in
theorem ggX0_hear_X0_isRow : GoodIn wsX0_hear wsX0_isRow := goodIn_r _ [6, 7, 8, 5, 9] (by decide +kernel) (by decide +kernel)
set_option maxRecDepth 20000 in
theorem gX0_hear_X0_isRow : GoodIn wsX0_hear (va_wsS RX0 110 yX0_isRow wsX0_isRow) := goodIn_app (goodIn_of _ (by decide +kernel)) ggX0_hear_X0_isRow
set_option maxRecDepth 20000 in
theorem ggX0_hear_X0_within : GoodIn wsX0_hear wsX0_within := goodIn_r _ [9] (by decide +kernel) (by decide +kernel)
set_option maxRecDepth 20000 in
theorem gX0_hear_X0_within : GoodIn wsX0_hear (va_wsS RX0 33 yX0_within wsX0_within) := goodIn_app (goodIn_of _ (by decide +kernel)) ggX0_hear_X0_within
theorem dX0_hear_0 : decode cX0_hear 0 = .ok (.iload_n 1, 1) := by decide +kernel
theorem dX0_hear_1 : decode cX0_hear 1 = .ok (.invokestatic 110, 3) := by decide +kernel
theorem dX0_hear_4 : decode cX0_hear 4 = .ok (.ifCond .eq 16, 3) := by decide +kernel
theorem dX0_hear_7 : decode cX0_hear 7 = .ok (.iload_n 2, 1) := by decide +kernel
theorem dX0_hear_8 : decode cX0_hear 8 = .ok (.sipush (-1000), 3) := by decide +kernel
theorem dX0_hear_11 : decode cX0_hear 11 = .ok (.sipush 1000, 3) := by decide +kernel
theorem dX0_hear_14 : decode cX0_hear 14 = .ok (.invokestatic 33, 3) := by decide +kernel
theorem dX0_hear_17 : decode cX0_hear 17 = .ok (.ifCond .ne 5, 3) := by decide +kernel
theorem dX0_hear_20 : decode cX0_hear 20 = .ok (.iconst (-1), 1) := by decide +kernel
theorem dX0_hear_21 : decode cX0_hear 21 = .ok (.ireturn, 1) := by decide +kernel
theorem dX0_hear_22 : decode cX0_hear 22 = .ok (.aload_n 0, 1) := by decide +kernel
theorem dX0_hear_23 : decode cX0_hear 23 = .ok (.getfield 22, 3) := by decide +kernel
theorem dX0_hear_26 : decode cX0_hear 26 = .ok (.iload_n 1, 1) := by decide +kernel
theorem dX0_hear_27 : decode cX0_hear 27 = .ok (.iaload, 1) := by decide +kernel
theorem dX0_hear_28 : decode cX0_hear 28 = .ok (.istore_n 3, 1) := by decide +kernel
theorem dX0_hear_29 : decode cX0_hear 29 = .ok (.iload_n 3, 1) := by decide +kernel
theorem dX0_hear_30 : decode cX0_hear 30 = .ok (.bipush 8, 2) := by decide +kernel
theorem dX0_hear_32 : decode cX0_hear 32 = .ok (.if_icmp .lt 6, 3) := by decide +kernel
theorem dX0_hear_35 : decode cX0_hear 35 = .ok (.bipush (-3), 2) := by decide +kernel
theorem dX0_hear_37 : decode cX0_hear 37 = .ok (.ireturn, 1) := by decide +kernel
theorem dX0_hear_38 : decode cX0_hear 38 = .ok (.aload_n 0, 1) := by decide +kernel
theorem dX0_hear_39 : decode cX0_hear 39 = .ok (.getfield 19, 3) := by decide +kernel
theorem dX0_hear_42 : decode cX0_hear 42 = .ok (.iload_n 1, 1) := by decide +kernel
theorem dX0_hear_43 : decode cX0_hear 43 = .ok (.bipush 8, 2) := by decide +kernel
theorem dX0_hear_45 : decode cX0_hear 45 = .ok (.imul, 1) := by decide +kernel
theorem dX0_hear_46 : decode cX0_hear 46 = .ok (.iload_n 3, 1) := by decide +kernel
theorem dX0_hear_47 : decode cX0_hear 47 = .ok (.iadd, 1) := by decide +kernel
theorem dX0_hear_48 : decode cX0_hear 48 = .ok (.iload_n 2, 1) := by decide +kernel
theorem dX0_hear_49 : decode cX0_hear 49 = .ok (.iastore, 1) := by decide +kernel
theorem dX0_hear_50 : decode cX0_hear 50 = .ok (.aload_n 0, 1) := by decide +kernel
theorem dX0_hear_51 : decode cX0_hear 51 = .ok (.getfield 22, 3) := by decide +kernel
theorem dX0_hear_54 : decode cX0_hear 54 = .ok (.iload_n 1, 1) := by decide +kernel
theorem dX0_hear_55 : decode cX0_hear 55 = .ok (.iload_n 3, 1) := by decide +kernel
theorem dX0_hear_56 : decode cX0_hear 56 = .ok (.iconst 1, 1) := by decide +kernel
theorem dX0_hear_57 : decode cX0_hear 57 = .ok (.iadd, 1) := by decide +kernel
theorem dX0_hear_58 : decode cX0_hear 58 = .ok (.iastore, 1) := by decide +kernel
theorem dX0_hear_59 : decode cX0_hear 59 = .ok (.iload_n 3, 1) := by decide +kernel
theorem dX0_hear_60 : decode cX0_hear 60 = .ok (.iconst 1, 1) := by decide +kernel
theorem dX0_hear_61 : decode cX0_hear 61 = .ok (.iadd, 1) := by decide +kernel
theorem dX0_hear_62 : decode cX0_hear 62 = .ok (.ireturn, 1) := by decide +kernel
set_option maxRecDepth 20000 in
theorem ggX0_clear_X0_isRow : GoodIn wsX0_clear wsX0_isRow := goodIn_r _ [5, 6, 7, 4, 8] (by decide +kernel) (by decide +kernel)
set_option maxRecDepth 20000 in
theorem gX0_clear_X0_isRow : GoodIn wsX0_clear (va_wsS RX0 110 yX0_isRow wsX0_isRow) := goodIn_app (goodIn_of _ (by decide +kernel)) ggX0_clear_X0_isRow
theorem dX0_clear_0 : decode cX0_clear 0 = .ok (.iload_n 1, 1) := by decide +kernel
theorem dX0_clear_1 : decode cX0_clear 1 = .ok (.invokestatic 110, 3) := by decide +kernel
theorem dX0_clear_4 : decode cX0_clear 4 = .ok (.ifCond .ne 5, 3) := by decide +kernel
theorem dX0_clear_7 : decode cX0_clear 7 = .ok (.iconst (-1), 1) := by decide +kernel
theorem dX0_clear_8 : decode cX0_clear 8 = .ok (.ireturn, 1) := by decide +kernel
theorem dX0_clear_9 : decode cX0_clear 9 = .ok (.aload_n 0, 1) := by decide +kernel
theorem dX0_clear_10 : decode cX0_clear 10 = .ok (.getfield 22, 3) := by decide +kernel
theorem dX0_clear_13 : decode cX0_clear 13 = .ok (.iload_n 1, 1) := by decide +kernel
theorem dX0_clear_14 : decode cX0_clear 14 = .ok (.iaload, 1) := by decide +kernel
theorem dX0_clear_15 : decode cX0_clear 15 = .ok (.istore_n 2, 1) := by decide +kernel
theorem dX0_clear_16 : decode cX0_clear 16 = .ok (.aload_n 0, 1) := by decide +kernel
theorem dX0_clear_17 : decode cX0_clear 17 = .ok (.getfield 22, 3) := by decide +kernel
theorem dX0_clear_20 : decode cX0_clear 20 = .ok (.iload_n 1, 1) := by decide +kernel
theorem dX0_clear_21 : decode cX0_clear 21 = .ok (.iconst 0, 1) := by decide +kernel
theorem dX0_clear_22 : decode cX0_clear 22 = .ok (.iastore, 1) := by decide +kernel
theorem dX0_clear_23 : decode cX0_clear 23 = .ok (.iload_n 2, 1) := by decide +kernel
theorem dX0_clear_24 : decode cX0_clear 24 = .ok (.ireturn, 1) := by decide +kernel
set_option maxRecDepth 20000 in
theorem ggX0_later_X0_productsAt : GoodIn wsX0_later wsX0_productsAt := goodIn_r _ [10, 1, 11, 12, 13, 9, 14, 15, 16, 17, 18, 19, 20, 21, 22, 23, 24, 25, 26] (by decide +kernel) (by decide +kernel)
set_option maxRecDepth 20000 in
theorem gX0_later_X0_productsAt : GoodIn wsX0_later (wsV RX0 113 RX0 yX0_productsAt wsX0_productsAt) := goodIn_app (goodIn_of _ (by decide +kernel)) ggX0_later_X0_productsAt
theorem dX0_later_0 : decode cX0_later 0 = .ok (.aload_n 0, 1) := by decide +kernel
theorem dX0_later_1 : decode cX0_later 1 = .ok (.getfield 22, 3) := by decide +kernel
theorem dX0_later_4 : decode cX0_later 4 = .ok (.iconst 0, 1) := by decide +kernel
theorem dX0_later_5 : decode cX0_later 5 = .ok (.iaload, 1) := by decide +kernel
theorem dX0_later_6 : decode cX0_later 6 = .ok (.ifCond .eq 12, 3) := by decide +kernel
theorem dX0_later_9 : decode cX0_later 9 = .ok (.aload_n 0, 1) := by decide +kernel
theorem dX0_later_10 : decode cX0_later 10 = .ok (.getfield 22, 3) := by decide +kernel
theorem dX0_later_13 : decode cX0_later 13 = .ok (.iconst 1, 1) := by decide +kernel
theorem dX0_later_14 : decode cX0_later 14 = .ok (.iaload, 1) := by decide +kernel
theorem dX0_later_15 : decode cX0_later 15 = .ok (.ifCond .ne 6, 3) := by decide +kernel
theorem dX0_later_18 : decode cX0_later 18 = .ok (.bipush (-9), 2) := by decide +kernel
theorem dX0_later_20 : decode cX0_later 20 = .ok (.ireturn, 1) := by decide +kernel
theorem dX0_later_21 : decode cX0_later 21 = .ok (.bipush (-7), 2) := by decide +kernel
theorem dX0_later_23 : decode cX0_later 23 = .ok (.istore_n 1, 1) := by decide +kernel
theorem dX0_later_24 : decode cX0_later 24 = .ok (.aload_n 0, 1) := by decide +kernel
theorem dX0_later_25 : decode cX0_later 25 = .ok (.iload_n 1, 1) := by decide +kernel
theorem dX0_later_26 : decode cX0_later 26 = .ok (.invokevirtual 113, 3) := by decide +kernel
theorem dX0_later_29 : decode cX0_later 29 = .ok (.istore_n 2, 1) := by decide +kernel
theorem dX0_later_30 : decode cX0_later 30 = .ok (.iload_n 1, 1) := by decide +kernel
theorem dX0_later_31 : decode cX0_later 31 = .ok (.iconst 1, 1) := by decide +kernel
theorem dX0_later_32 : decode cX0_later 32 = .ok (.iadd, 1) := by decide +kernel
theorem dX0_later_33 : decode cX0_later 33 = .ok (.istore_n 3, 1) := by decide +kernel
theorem dX0_later_34 : decode cX0_later 34 = .ok (.iload_n 3, 1) := by decide +kernel
theorem dX0_later_35 : decode cX0_later 35 = .ok (.bipush 7, 2) := by decide +kernel
theorem dX0_later_37 : decode cX0_later 37 = .ok (.if_icmp .gt 56, 3) := by decide +kernel
theorem dX0_later_40 : decode cX0_later 40 = .ok (.aload_n 0, 1) := by decide +kernel
theorem dX0_later_41 : decode cX0_later 41 = .ok (.iload_n 3, 1) := by decide +kernel
theorem dX0_later_42 : decode cX0_later 42 = .ok (.invokevirtual 113, 3) := by decide +kernel
theorem dX0_later_45 : decode cX0_later 45 = .ok (.istore 4, 2) := by decide +kernel
theorem dX0_later_47 : decode cX0_later 47 = .ok (.iload_n 3, 1) := by decide +kernel
theorem dX0_later_48 : decode cX0_later 48 = .ok (.invokestatic 116, 3) := by decide +kernel
theorem dX0_later_51 : decode cX0_later 51 = .ok (.iload_n 1, 1) := by decide +kernel
theorem dX0_later_52 : decode cX0_later 52 = .ok (.invokestatic 116, 3) := by decide +kernel
theorem dX0_later_55 : decode cX0_later 55 = .ok (.if_icmp .ge 7, 3) := by decide +kernel
theorem dX0_later_58 : decode cX0_later 58 = .ok (.iconst 1, 1) := by decide +kernel
theorem dX0_later_59 : decode cX0_later 59 = .ok (.goto 4, 3) := by decide +kernel
theorem dX0_later_62 : decode cX0_later 62 = .ok (.iconst 0, 1) := by decide +kernel
theorem dX0_later_63 : decode cX0_later 63 = .ok (.istore 5, 2) := by decide +kernel
theorem dX0_later_65 : decode cX0_later 65 = .ok (.iload 4, 2) := by decide +kernel
theorem dX0_later_67 : decode cX0_later 67 = .ok (.iload_n 2, 1) := by decide +kernel
theorem dX0_later_68 : decode cX0_later 68 = .ok (.if_icmp .gt 14, 3) := by decide +kernel
theorem dX0_later_71 : decode cX0_later 71 = .ok (.iload 4, 2) := by decide +kernel
theorem dX0_later_73 : decode cX0_later 73 = .ok (.iload_n 2, 1) := by decide +kernel
theorem dX0_later_74 : decode cX0_later 74 = .ok (.if_icmp .ne 13, 3) := by decide +kernel
theorem dX0_later_77 : decode cX0_later 77 = .ok (.iload 5, 2) := by decide +kernel
theorem dX0_later_79 : decode cX0_later 79 = .ok (.ifCond .eq 8, 3) := by decide +kernel
theorem dX0_later_82 : decode cX0_later 82 = .ok (.iload 4, 2) := by decide +kernel
theorem dX0_later_84 : decode cX0_later 84 = .ok (.istore_n 2, 1) := by decide +kernel
theorem dX0_later_85 : decode cX0_later 85 = .ok (.iload_n 3, 1) := by decide +kernel
theorem dX0_later_86 : decode cX0_later 86 = .ok (.istore_n 1, 1) := by decide +kernel
theorem dX0_later_87 : decode cX0_later 87 = .ok (.iinc 3 1, 3) := by decide +kernel
theorem dX0_later_90 : decode cX0_later 90 = .ok (.goto (-56), 3) := by decide +kernel
theorem dX0_later_93 : decode cX0_later 93 = .ok (.iload_n 1, 1) := by decide +kernel
theorem dX0_later_94 : decode cX0_later 94 = .ok (.ireturn, 1) := by decide +kernel
set_option maxRecDepth 20000 in
theorem ggX0_turned_X0_within : GoodIn wsX0_turned wsX0_within := goodIn_r _ [5] (by decide +kernel) (by decide +kernel)
set_option maxRecDepth 20000 in
theorem gX0_turned_X0_within : GoodIn wsX0_turned (va_wsS RX0 33 yX0_within wsX0_within) := goodIn_app (goodIn_of _ (by decide +kernel)) ggX0_turned_X0_within
set_option maxRecDepth 20000 in
theorem ggX0_turned_X0_turnedAt : GoodIn wsX0_turned wsX0_turnedAt := goodIn_r _ [9, 10, 11, 4, 12, 13, 14, 15, 16, 17, 18, 19, 20, 21, 22, 23, 24, 25, 30, 31, 32, 33, 34, 35, 36, 37, 38, 39, 40, 41] (by decide +kernel) (by decide +kernel)
set_option maxRecDepth 20000 in
theorem gX0_turned_X0_turnedAt : GoodIn wsX0_turned (wsV RX0 122 RX0 yX0_turnedAt wsX0_turnedAt) := goodIn_app (goodIn_of _ (by decide +kernel)) ggX0_turned_X0_turnedAt
set_option maxRecDepth 20000 in
theorem ggX0_turned_X0_backAt : GoodIn wsX0_turned wsX0_backAt := goodIn_r _ [29, 10, 11, 4, 12, 13, 14, 15, 16, 17, 18, 19, 6, 7, 8, 9, 20, 21, 22, 23, 24, 25, 30, 31, 32, 33, 34, 35, 36, 37, 38, 39, 40, 41] (by decide +kernel) (by decide +kernel)
set_option maxRecDepth 20000 in
theorem gX0_turned_X0_backAt : GoodIn wsX0_turned (wsV RX0 125 RX0 yX0_backAt wsX0_backAt) := goodIn_app (goodIn_of _ (by decide +kernel)) ggX0_turned_X0_backAt
theorem dX0_turned_0 : decode cX0_turned 0 = .ok (.iload_n 1, 1) := by decide +kernel
theorem dX0_turned_1 : decode cX0_turned 1 = .ok (.iconst 0, 1) := by decide +kernel
theorem dX0_turned_2 : decode cX0_turned 2 = .ok (.bipush 7, 2) := by decide +kernel
theorem dX0_turned_4 : decode cX0_turned 4 = .ok (.invokestatic 33, 3) := by decide +kernel
theorem dX0_turned_7 : decode cX0_turned 7 = .ok (.ifCond .ne 6, 3) := by decide +kernel
theorem dX0_turned_10 : decode cX0_turned 10 = .ok (.ldc 121, 2) := by decide +kernel
theorem dX0_turned_12 : decode cX0_turned 12 = .ok (.ireturn, 1) := by decide +kernel
theorem dX0_turned_13 : decode cX0_turned 13 = .ok (.iload_n 2, 1) := by decide +kernel
theorem dX0_turned_14 : decode cX0_turned 14 = .ok (.lookupswitch 38 #[(0, 26), (1, 32)], 26) := by decide +kernel
theorem dX0_turned_40 : decode cX0_turned 40 = .ok (.aload_n 0, 1) := by decide +kernel
theorem dX0_turned_41 : decode cX0_turned 41 = .ok (.iload_n 1, 1) := by decide +kernel
theorem dX0_turned_42 : decode cX0_turned 42 = .ok (.invokevirtual 122, 3) := by decide +kernel
theorem dX0_turned_45 : decode cX0_turned 45 = .ok (.ireturn, 1) := by decide +kernel
theorem dX0_turned_46 : decode cX0_turned 46 = .ok (.aload_n 0, 1) := by decide +kernel
theorem dX0_turned_47 : decode cX0_turned 47 = .ok (.iload_n 1, 1) := by decide +kernel
theorem dX0_turned_48 : decode cX0_turned 48 = .ok (.invokevirtual 125, 3) := by decide +kernel
theorem dX0_turned_51 : decode cX0_turned 51 = .ok (.ireturn, 1) := by decide +kernel
theorem dX0_turned_52 : decode cX0_turned 52 = .ok (.ldc 121, 2) := by decide +kernel
theorem dX0_turned_54 : decode cX0_turned 54 = .ok (.ireturn, 1) := by decide +kernel
set_option maxRecDepth 20000 in
theorem ggX0_truth_X0_isVoice : GoodIn wsX0_truth wsX0_isVoice := goodIn_r _ [6, 7, 8, 9, 5, 10, 23, 24, 25, 26, 27, 28, 29, 30, 31, 32, 33, 34] (by decide +kernel) (by decide +kernel)
set_option maxRecDepth 20000 in
theorem gX0_truth_X0_isVoice : GoodIn wsX0_truth (wsV RX0 101 RX0 yX0_isVoice wsX0_isVoice) := goodIn_app (goodIn_of _ (by decide +kernel)) ggX0_truth_X0_isVoice
set_option maxRecDepth 20000 in
theorem ggX0_truth_X0_isCell : GoodIn wsX0_truth wsX0_isCell := goodIn_r _ [14, 15, 16, 8, 9, 5, 10, 23, 24, 25, 26, 27, 28, 29, 30, 31, 32, 33, 34] (by decide +kernel) (by decide +kernel)
set_option maxRecDepth 20000 in
theorem gX0_truth_X0_isCell : GoodIn wsX0_truth (wsV RX0 37 RX0 yX0_isCell wsX0_isCell) := goodIn_app (goodIn_of _ (by decide +kernel)) ggX0_truth_X0_isCell
set_option maxRecDepth 20000 in
theorem ggX0_truth_X0_within : GoodIn wsX0_truth wsX0_within := goodIn_r _ [10] (by decide +kernel) (by decide +kernel)
set_option maxRecDepth 20000 in
theorem gX0_truth_X0_within : GoodIn wsX0_truth (va_wsS RX0 33 yX0_within wsX0_within) := goodIn_app (goodIn_of _ (by decide +kernel)) ggX0_truth_X0_within
set_option maxRecDepth 20000 in
theorem ggX0_truth_X0_truthPlace : GoodIn wsX0_truth wsX0_truthPlace := goodIn_r _ [19, 20, 21, 5, 22] (by decide +kernel) (by decide +kernel)
set_option maxRecDepth 20000 in
theorem gX0_truth_X0_truthPlace : GoodIn wsX0_truth (va_wsS RX0 128 yX0_truthPlace wsX0_truthPlace) := goodIn_app (goodIn_of _ (by decide +kernel)) ggX0_truth_X0_truthPlace
theorem dX0_truth_0 : decode cX0_truth 0 = .ok (.aload_n 0, 1) := by decide +kernel
theorem dX0_truth_1 : decode cX0_truth 1 = .ok (.iload_n 1, 1) := by decide +kernel
theorem dX0_truth_2 : decode cX0_truth 2 = .ok (.invokevirtual 101, 3) := by decide +kernel
theorem dX0_truth_5 : decode cX0_truth 5 = .ok (.ifCond .eq 23, 3) := by decide +kernel
theorem dX0_truth_8 : decode cX0_truth 8 = .ok (.aload_n 0, 1) := by decide +kernel
theorem dX0_truth_9 : decode cX0_truth 9 = .ok (.iload_n 2, 1) := by decide +kernel
theorem dX0_truth_10 : decode cX0_truth 10 = .ok (.iload_n 3, 1) := by decide +kernel
theorem dX0_truth_11 : decode cX0_truth 11 = .ok (.invokevirtual 37, 3) := by decide +kernel
theorem dX0_truth_14 : decode cX0_truth 14 = .ok (.ifCond .eq 14, 3) := by decide +kernel
theorem dX0_truth_17 : decode cX0_truth 17 = .ok (.iload 4, 2) := by decide +kernel
theorem dX0_truth_19 : decode cX0_truth 19 = .ok (.iconst 0, 1) := by decide +kernel
theorem dX0_truth_20 : decode cX0_truth 20 = .ok (.bipush 99, 2) := by decide +kernel
theorem dX0_truth_22 : decode cX0_truth 22 = .ok (.invokestatic 33, 3) := by decide +kernel
theorem dX0_truth_25 : decode cX0_truth 25 = .ok (.ifCond .ne 5, 3) := by decide +kernel
theorem dX0_truth_28 : decode cX0_truth 28 = .ok (.iconst (-1), 1) := by decide +kernel
theorem dX0_truth_29 : decode cX0_truth 29 = .ok (.ireturn, 1) := by decide +kernel
theorem dX0_truth_30 : decode cX0_truth 30 = .ok (.iload_n 1, 1) := by decide +kernel
theorem dX0_truth_31 : decode cX0_truth 31 = .ok (.iload_n 2, 1) := by decide +kernel
theorem dX0_truth_32 : decode cX0_truth 32 = .ok (.iload_n 3, 1) := by decide +kernel
theorem dX0_truth_33 : decode cX0_truth 33 = .ok (.invokestatic 128, 3) := by decide +kernel
theorem dX0_truth_36 : decode cX0_truth 36 = .ok (.istore 5, 2) := by decide +kernel
theorem dX0_truth_38 : decode cX0_truth 38 = .ok (.aload_n 0, 1) := by decide +kernel
theorem dX0_truth_39 : decode cX0_truth 39 = .ok (.getfield 16, 3) := by decide +kernel
theorem dX0_truth_42 : decode cX0_truth 42 = .ok (.iload 5, 2) := by decide +kernel
theorem dX0_truth_44 : decode cX0_truth 44 = .ok (.iaload, 1) := by decide +kernel
theorem dX0_truth_45 : decode cX0_truth 45 = .ok (.istore 6, 2) := by decide +kernel
theorem dX0_truth_47 : decode cX0_truth 47 = .ok (.aload_n 0, 1) := by decide +kernel
theorem dX0_truth_48 : decode cX0_truth 48 = .ok (.getfield 16, 3) := by decide +kernel
theorem dX0_truth_51 : decode cX0_truth 51 = .ok (.iload 5, 2) := by decide +kernel
theorem dX0_truth_53 : decode cX0_truth 53 = .ok (.iload 4, 2) := by decide +kernel
theorem dX0_truth_55 : decode cX0_truth 55 = .ok (.iastore, 1) := by decide +kernel
theorem dX0_truth_56 : decode cX0_truth 56 = .ok (.iload 6, 2) := by decide +kernel
theorem dX0_truth_58 : decode cX0_truth 58 = .ok (.ireturn, 1) := by decide +kernel
set_option maxRecDepth 20000 in
theorem ggX0_apart_X0_howManyOrders : GoodIn wsX0_apart wsX0_howManyOrders := goodIn_r _ [5, 6, 56, 57, 58, 59, 60, 61, 62, 63, 64, 65, 66, 67] (by decide +kernel) (by decide +kernel)
set_option maxRecDepth 20000 in
theorem gX0_apart_X0_howManyOrders : GoodIn wsX0_apart (wsV RX0 131 RX0 yX0_howManyOrders wsX0_howManyOrders) := goodIn_app (goodIn_of _ (by decide +kernel)) ggX0_apart_X0_howManyOrders
set_option maxRecDepth 20000 in
theorem ggX0_apart_X0_within : GoodIn wsX0_apart wsX0_within := goodIn_r _ [9] (by decide +kernel) (by decide +kernel)
set_option maxRecDepth 20000 in
theorem gX0_apart_X0_within : GoodIn wsX0_apart (va_wsS RX0 33 yX0_within wsX0_within) := goodIn_app (goodIn_of _ (by decide +kernel)) ggX0_apart_X0_within
set_option maxRecDepth 20000 in
theorem ggX0_apart_X0_apartBy : GoodIn wsX0_apart wsX0_apartBy := goodIn_r _ [13, 6, 14, 15, 16, 4, 17, 18, 19, 20, 21, 22, 23, 24, 25, 26, 27, 28, 29, 30, 31, 32, 33, 34, 35, 36, 37, 38, 39, 40, 41, 42, 43, 44, 45, 46, 47, 48, 49, 50, 51, 52, 53, 54, 55, 56, 57, 58, 59, 60, 61, 62, 63, 64, 65, 66, 67] (by decide +kernel) (by decide +kernel)
set_option maxRecDepth 20000 in
theorem gX0_apart_X0_apartBy : GoodIn wsX0_apart (wsV RX0 134 RX0 yX0_apartBy wsX0_apartBy) := goodIn_app (goodIn_of _ (by decide +kernel)) ggX0_apart_X0_apartBy
theorem dX0_apart_0 : decode cX0_apart 0 = .ok (.iload_n 1, 1) := by decide +kernel
theorem dX0_apart_1 : decode cX0_apart 1 = .ok (.iconst 0, 1) := by decide +kernel
theorem dX0_apart_2 : decode cX0_apart 2 = .ok (.aload_n 0, 1) := by decide +kernel
theorem dX0_apart_3 : decode cX0_apart 3 = .ok (.invokevirtual 131, 3) := by decide +kernel
theorem dX0_apart_6 : decode cX0_apart 6 = .ok (.iconst 1, 1) := by decide +kernel
theorem dX0_apart_7 : decode cX0_apart 7 = .ok (.isub, 1) := by decide +kernel
theorem dX0_apart_8 : decode cX0_apart 8 = .ok (.invokestatic 33, 3) := by decide +kernel
theorem dX0_apart_11 : decode cX0_apart 11 = .ok (.ifCond .ne 5, 3) := by decide +kernel
theorem dX0_apart_14 : decode cX0_apart 14 = .ok (.iconst (-1), 1) := by decide +kernel
theorem dX0_apart_15 : decode cX0_apart 15 = .ok (.ireturn, 1) := by decide +kernel
theorem dX0_apart_16 : decode cX0_apart 16 = .ok (.aload_n 0, 1) := by decide +kernel
theorem dX0_apart_17 : decode cX0_apart 17 = .ok (.iload_n 1, 1) := by decide +kernel
theorem dX0_apart_18 : decode cX0_apart 18 = .ok (.invokevirtual 134, 3) := by decide +kernel
theorem dX0_apart_21 : decode cX0_apart 21 = .ok (.ireturn, 1) := by decide +kernel
set_option maxRecDepth 20000 in
theorem ggX0_order_X0_apartBy : GoodIn wsX0_order wsX0_apartBy := goodIn_r _ [5, 6, 7, 8, 9, 4, 10, 11, 12, 13, 14, 15, 16, 17, 18, 19, 20, 21, 22, 23, 24, 25, 26, 27, 28, 29, 30, 31, 32, 33, 34, 35, 36, 37, 38, 39, 40, 41, 42, 43, 44, 45, 46, 47, 48, 53, 54, 55, 56, 57, 58, 59, 60, 61, 62, 63, 64] (by decide +kernel) (by decide +kernel)
set_option maxRecDepth 20000 in
theorem gX0_order_X0_apartBy : GoodIn wsX0_order (wsV RX0 134 RX0 yX0_apartBy wsX0_apartBy) := goodIn_app (goodIn_of _ (by decide +kernel)) ggX0_order_X0_apartBy
set_option maxRecDepth 20000 in
theorem ggX0_order_X0_howManyOrders : GoodIn wsX0_order wsX0_howManyOrders := goodIn_r _ [52, 6, 53, 54, 55, 56, 57, 58, 59, 60, 61, 62, 63, 64] (by decide +kernel) (by decide +kernel)
set_option maxRecDepth 20000 in
theorem gX0_order_X0_howManyOrders : GoodIn wsX0_order (wsV RX0 131 RX0 yX0_howManyOrders wsX0_howManyOrders) := goodIn_app (goodIn_of _ (by decide +kernel)) ggX0_order_X0_howManyOrders
theorem dX0_order_0 : decode cX0_order 0 = .ok (.iconst 0, 1) := by decide +kernel
theorem dX0_order_1 : decode cX0_order 1 = .ok (.istore_n 1, 1) := by decide +kernel
theorem dX0_order_2 : decode cX0_order 2 = .ok (.aload_n 0, 1) := by decide +kernel
theorem dX0_order_3 : decode cX0_order 3 = .ok (.iconst 0, 1) := by decide +kernel
theorem dX0_order_4 : decode cX0_order 4 = .ok (.invokevirtual 134, 3) := by decide +kernel
theorem dX0_order_7 : decode cX0_order 7 = .ok (.istore_n 2, 1) := by decide +kernel
theorem dX0_order_8 : decode cX0_order 8 = .ok (.aload_n 0, 1) := by decide +kernel
theorem dX0_order_9 : decode cX0_order 9 = .ok (.invokevirtual 131, 3) := by decide +kernel
theorem dX0_order_12 : decode cX0_order 12 = .ok (.istore_n 3, 1) := by decide +kernel
theorem dX0_order_13 : decode cX0_order 13 = .ok (.iconst 1, 1) := by decide +kernel
theorem dX0_order_14 : decode cX0_order 14 = .ok (.istore 4, 2) := by decide +kernel
theorem dX0_order_16 : decode cX0_order 16 = .ok (.iload 4, 2) := by decide +kernel
theorem dX0_order_18 : decode cX0_order 18 = .ok (.iload_n 3, 1) := by decide +kernel
theorem dX0_order_19 : decode cX0_order 19 = .ok (.if_icmp .ge 29, 3) := by decide +kernel
theorem dX0_order_22 : decode cX0_order 22 = .ok (.aload_n 0, 1) := by decide +kernel
theorem dX0_order_23 : decode cX0_order 23 = .ok (.iload 4, 2) := by decide +kernel
theorem dX0_order_25 : decode cX0_order 25 = .ok (.invokevirtual 134, 3) := by decide +kernel
theorem dX0_order_28 : decode cX0_order 28 = .ok (.istore 5, 2) := by decide +kernel
theorem dX0_order_30 : decode cX0_order 30 = .ok (.iload 5, 2) := by decide +kernel
theorem dX0_order_32 : decode cX0_order 32 = .ok (.iload_n 2, 1) := by decide +kernel
theorem dX0_order_33 : decode cX0_order 33 = .ok (.if_icmp .ge 9, 3) := by decide +kernel
theorem dX0_order_36 : decode cX0_order 36 = .ok (.iload 5, 2) := by decide +kernel
theorem dX0_order_38 : decode cX0_order 38 = .ok (.istore_n 2, 1) := by decide +kernel
theorem dX0_order_39 : decode cX0_order 39 = .ok (.iload 4, 2) := by decide +kernel
theorem dX0_order_41 : decode cX0_order 41 = .ok (.istore_n 1, 1) := by decide +kernel
theorem dX0_order_42 : decode cX0_order 42 = .ok (.iinc 4 1, 3) := by decide +kernel
theorem dX0_order_45 : decode cX0_order 45 = .ok (.goto (-29), 3) := by decide +kernel
theorem dX0_order_48 : decode cX0_order 48 = .ok (.iload_n 1, 1) := by decide +kernel
theorem dX0_order_49 : decode cX0_order 49 = .ok (.ireturn, 1) := by decide +kernel
set_option maxRecDepth 20000 in
theorem ggX0_count_J13_bitCount_95d88 : GoodIn wsX0_count wsJ13_bitCount_95d88 := goodIn_r _ [11, 12, 13, 14] (by decide +kernel) (by decide +kernel)
set_option maxRecDepth 20000 in
theorem gX0_count_J13_bitCount_95d88 : GoodIn wsX0_count (va_wsS RX0 140 yJ13_bitCount_95d88 wsJ13_bitCount_95d88) := goodIn_app (goodIn_of _ (by decide +kernel)) ggX0_count_J13_bitCount_95d88
theorem dX0_count_0 : decode cX0_count 0 = .ok (.iload_n 1, 1) := by decide +kernel
theorem dX0_count_1 : decode cX0_count 1 = .ok (.tableswitch 94 0 7 #[47, 52, 57, 62, 67, 75, 82, 89], 47) := by decide +kernel
theorem dX0_count_48 : decode cX0_count 48 = .ok (.aload_n 0, 1) := by decide +kernel
theorem dX0_count_49 : decode cX0_count 49 = .ok (.getfield 86, 3) := by decide +kernel
theorem dX0_count_52 : decode cX0_count 52 = .ok (.ireturn, 1) := by decide +kernel
theorem dX0_count_53 : decode cX0_count 53 = .ok (.aload_n 0, 1) := by decide +kernel
theorem dX0_count_54 : decode cX0_count 54 = .ok (.getfield 107, 3) := by decide +kernel
theorem dX0_count_57 : decode cX0_count 57 = .ok (.ireturn, 1) := by decide +kernel
theorem dX0_count_58 : decode cX0_count 58 = .ok (.aload_n 0, 1) := by decide +kernel
theorem dX0_count_59 : decode cX0_count 59 = .ok (.getfield 137, 3) := by decide +kernel
theorem dX0_count_62 : decode cX0_count 62 = .ok (.ireturn, 1) := by decide +kernel
theorem dX0_count_63 : decode cX0_count 63 = .ok (.aload_n 0, 1) := by decide +kernel
theorem dX0_count_64 : decode cX0_count 64 = .ok (.getfield 29, 3) := by decide +kernel
theorem dX0_count_67 : decode cX0_count 67 = .ok (.ireturn, 1) := by decide +kernel
theorem dX0_count_68 : decode cX0_count 68 = .ok (.aload_n 0, 1) := by decide +kernel
theorem dX0_count_69 : decode cX0_count 69 = .ok (.getfield 69, 3) := by decide +kernel
theorem dX0_count_72 : decode cX0_count 72 = .ok (.invokestatic 140, 3) := by decide +kernel
theorem dX0_count_75 : decode cX0_count 75 = .ok (.ireturn, 1) := by decide +kernel
theorem dX0_count_76 : decode cX0_count 76 = .ok (.aload_n 0, 1) := by decide +kernel
theorem dX0_count_77 : decode cX0_count 77 = .ok (.getfield 22, 3) := by decide +kernel
theorem dX0_count_80 : decode cX0_count 80 = .ok (.iconst 0, 1) := by decide +kernel
theorem dX0_count_81 : decode cX0_count 81 = .ok (.iaload, 1) := by decide +kernel
theorem dX0_count_82 : decode cX0_count 82 = .ok (.ireturn, 1) := by decide +kernel
theorem dX0_count_83 : decode cX0_count 83 = .ok (.aload_n 0, 1) := by decide +kernel
theorem dX0_count_84 : decode cX0_count 84 = .ok (.getfield 22, 3) := by decide +kernel
theorem dX0_count_87 : decode cX0_count 87 = .ok (.iconst 1, 1) := by decide +kernel
theorem dX0_count_88 : decode cX0_count 88 = .ok (.iaload, 1) := by decide +kernel
theorem dX0_count_89 : decode cX0_count 89 = .ok (.ireturn, 1) := by decide +kernel
theorem dX0_count_90 : decode cX0_count 90 = .ok (.aload_n 0, 1) := by decide +kernel
theorem dX0_count_91 : decode cX0_count 91 = .ok (.getfield 95, 3) := by decide +kernel
theorem dX0_count_94 : decode cX0_count 94 = .ok (.ireturn, 1) := by decide +kernel
theorem dX0_count_95 : decode cX0_count 95 = .ok (.iconst (-1), 1) := by decide +kernel
theorem dX0_count_96 : decode cX0_count 96 = .ok (.ireturn, 1) := by decide +kernel
theorem dX0_trace_0 : decode cX0_trace 0 = .ok (.aload_n 0, 1) := by decide +kernel
theorem dX0_trace_1 : decode cX0_trace 1 = .ok (.getfield 76, 3) := by decide +kernel
theorem dX0_trace_4 : decode cX0_trace 4 = .ok (.lreturn, 1) := by decide +kernel
theorem dX0_within_0 : decode cX0_within 0 = .ok (.iload_n 0, 1) := by decide +kernel
theorem dX0_within_1 : decode cX0_within 1 = .ok (.iload_n 1, 1) := by decide +kernel
theorem dX0_within_2 : decode cX0_within 2 = .ok (.if_icmp .lt 12, 3) := by decide +kernel
theorem dX0_within_5 : decode cX0_within 5 = .ok (.iload_n 0, 1) := by decide +kernel
theorem dX0_within_6 : decode cX0_within 6 = .ok (.iload_n 2, 1) := by decide +kernel
theorem dX0_within_7 : decode cX0_within 7 = .ok (.if_icmp .gt 7, 3) := by decide +kernel
theorem dX0_within_10 : decode cX0_within 10 = .ok (.iconst 1, 1) := by decide +kernel
theorem dX0_within_11 : decode cX0_within 11 = .ok (.goto 4, 3) := by decide +kernel
theorem dX0_within_14 : decode cX0_within 14 = .ok (.iconst 0, 1) := by decide +kernel
theorem dX0_within_15 : decode cX0_within 15 = .ok (.ireturn, 1) := by decide +kernel
set_option maxRecDepth 20000 in
theorem ggX0_isKind_X0_within : GoodIn wsX0_isKind wsX0_within := goodIn_r _ [4] (by decide +kernel) (by decide +kernel)
set_option maxRecDepth 20000 in
theorem gX0_isKind_X0_within : GoodIn wsX0_isKind (va_wsS RX0 33 yX0_within wsX0_within) := goodIn_app (goodIn_of _ (by decide +kernel)) ggX0_isKind_X0_within
theorem dX0_isKind_0 : decode cX0_isKind 0 = .ok (.iload_n 0, 1) := by decide +kernel
theorem dX0_isKind_1 : decode cX0_isKind 1 = .ok (.iconst 0, 1) := by decide +kernel
theorem dX0_isKind_2 : decode cX0_isKind 2 = .ok (.iconst 2, 1) := by decide +kernel
theorem dX0_isKind_3 : decode cX0_isKind 3 = .ok (.invokestatic 33, 3) := by decide +kernel
theorem dX0_isKind_6 : decode cX0_isKind 6 = .ok (.ireturn, 1) := by decide +kernel
set_option maxRecDepth 20000 in
theorem ggX0_isRow_X0_within : GoodIn wsX0_isRow wsX0_within := goodIn_r _ [4] (by decide +kernel) (by decide +kernel)
set_option maxRecDepth 20000 in
theorem gX0_isRow_X0_within : GoodIn wsX0_isRow (va_wsS RX0 33 yX0_within wsX0_within) := goodIn_app (goodIn_of _ (by decide +kernel)) ggX0_isRow_X0_within
theorem dX0_isRow_0 : decode cX0_isRow 0 = .ok (.iload_n 0, 1) := by decide +kernel
theorem dX0_isRow_1 : decode cX0_isRow 1 = .ok (.iconst 0, 1) := by decide +kernel
theorem dX0_isRow_2 : decode cX0_isRow 2 = .ok (.iconst 1, 1) := by decide +kernel
theorem dX0_isRow_3 : decode cX0_isRow 3 = .ok (.invokestatic 33, 3) := by decide +kernel
theorem dX0_isRow_6 : decode cX0_isRow 6 = .ok (.ireturn, 1) := by decide +kernel
set_option maxRecDepth 20000 in
theorem ggX0_isVoice_X0_within : GoodIn wsX0_isVoice wsX0_within := goodIn_r _ [5] (by decide +kernel) (by decide +kernel)
set_option maxRecDepth 20000 in
theorem gX0_isVoice_X0_within : GoodIn wsX0_isVoice (va_wsS RX0 33 yX0_within wsX0_within) := goodIn_app (goodIn_of _ (by decide +kernel)) ggX0_isVoice_X0_within
theorem dX0_isVoice_0 : decode cX0_isVoice 0 = .ok (.iload_n 1, 1) := by decide +kernel
theorem dX0_isVoice_1 : decode cX0_isVoice 1 = .ok (.iconst 0, 1) := by decide +kernel
theorem dX0_isVoice_2 : decode cX0_isVoice 2 = .ok (.aload_n 0, 1) := by decide +kernel
theorem dX0_isVoice_3 : decode cX0_isVoice 3 = .ok (.getfield 137, 3) := by decide +kernel
theorem dX0_isVoice_6 : decode cX0_isVoice 6 = .ok (.iconst 1, 1) := by decide +kernel
theorem dX0_isVoice_7 : decode cX0_isVoice 7 = .ok (.isub, 1) := by decide +kernel
theorem dX0_isVoice_8 : decode cX0_isVoice 8 = .ok (.invokestatic 33, 3) := by decide +kernel
theorem dX0_isVoice_11 : decode cX0_isVoice 11 = .ok (.ireturn, 1) := by decide +kernel
set_option maxRecDepth 20000 in
theorem ggX0_isCell_X0_within : GoodIn wsX0_isCell wsX0_within := goodIn_r _ [6] (by decide +kernel) (by decide +kernel)
set_option maxRecDepth 20000 in
theorem gX0_isCell_X0_within : GoodIn wsX0_isCell (va_wsS RX0 33 yX0_within wsX0_within) := goodIn_app (goodIn_of _ (by decide +kernel)) ggX0_isCell_X0_within
theorem dX0_isCell_0 : decode cX0_isCell 0 = .ok (.iload_n 1, 1) := by decide +kernel
theorem dX0_isCell_1 : decode cX0_isCell 1 = .ok (.iconst 0, 1) := by decide +kernel
theorem dX0_isCell_2 : decode cX0_isCell 2 = .ok (.aload_n 0, 1) := by decide +kernel
theorem dX0_isCell_3 : decode cX0_isCell 3 = .ok (.getfield 86, 3) := by decide +kernel
theorem dX0_isCell_6 : decode cX0_isCell 6 = .ok (.iconst 1, 1) := by decide +kernel
theorem dX0_isCell_7 : decode cX0_isCell 7 = .ok (.isub, 1) := by decide +kernel
theorem dX0_isCell_8 : decode cX0_isCell 8 = .ok (.invokestatic 33, 3) := by decide +kernel
theorem dX0_isCell_11 : decode cX0_isCell 11 = .ok (.ifCond .eq 21, 3) := by decide +kernel
theorem dX0_isCell_14 : decode cX0_isCell 14 = .ok (.iload_n 2, 1) := by decide +kernel
theorem dX0_isCell_15 : decode cX0_isCell 15 = .ok (.iconst 0, 1) := by decide +kernel
theorem dX0_isCell_16 : decode cX0_isCell 16 = .ok (.aload_n 0, 1) := by decide +kernel
theorem dX0_isCell_17 : decode cX0_isCell 17 = .ok (.getfield 107, 3) := by decide +kernel
theorem dX0_isCell_20 : decode cX0_isCell 20 = .ok (.iconst 1, 1) := by decide +kernel
theorem dX0_isCell_21 : decode cX0_isCell 21 = .ok (.isub, 1) := by decide +kernel
theorem dX0_isCell_22 : decode cX0_isCell 22 = .ok (.invokestatic 33, 3) := by decide +kernel
theorem dX0_isCell_25 : decode cX0_isCell 25 = .ok (.ifCond .eq 7, 3) := by decide +kernel
theorem dX0_isCell_28 : decode cX0_isCell 28 = .ok (.iconst 1, 1) := by decide +kernel
theorem dX0_isCell_29 : decode cX0_isCell 29 = .ok (.goto 4, 3) := by decide +kernel
theorem dX0_isCell_32 : decode cX0_isCell 32 = .ok (.iconst 0, 1) := by decide +kernel
theorem dX0_isCell_33 : decode cX0_isCell 33 = .ok (.ireturn, 1) := by decide +kernel
set_option maxRecDepth 20000 in
theorem ggX0_isNumber_X0_isVoice : GoodIn wsX0_isNumber wsX0_isVoice := goodIn_r _ [5, 6, 7, 8, 4, 9, 16, 17, 18, 19, 20, 21, 22, 23, 24, 25, 26, 27] (by decide +kernel) (by decide +kernel)
set_option maxRecDepth 20000 in
theorem gX0_isNumber_X0_isVoice : GoodIn wsX0_isNumber (wsV RX0 101 RX0 yX0_isVoice wsX0_isVoice) := goodIn_app (goodIn_of _ (by decide +kernel)) ggX0_isNumber_X0_isVoice
set_option maxRecDepth 20000 in
theorem ggX0_isNumber_X0_within : GoodIn wsX0_isNumber wsX0_within := goodIn_r _ [9] (by decide +kernel) (by decide +kernel)
set_option maxRecDepth 20000 in
theorem gX0_isNumber_X0_within : GoodIn wsX0_isNumber (va_wsS RX0 33 yX0_within wsX0_within) := goodIn_app (goodIn_of _ (by decide +kernel)) ggX0_isNumber_X0_within
set_option maxRecDepth 20000 in
theorem ggX0_isNumber_X0_howManyOf : GoodIn wsX0_isNumber wsX0_howManyOf := goodIn_r _ [13, 14, 15, 16, 17, 18, 19, 20, 21, 22, 23, 24, 25, 26, 27] (by decide +kernel) (by decide +kernel)
set_option maxRecDepth 20000 in
theorem gX0_isNumber_X0_howManyOf : GoodIn wsX0_isNumber (wsV RX0 146 RX0 yX0_howManyOf wsX0_howManyOf) := goodIn_app (goodIn_of _ (by decide +kernel)) ggX0_isNumber_X0_howManyOf
theorem dX0_isNumber_0 : decode cX0_isNumber 0 = .ok (.aload_n 0, 1) := by decide +kernel
theorem dX0_isNumber_1 : decode cX0_isNumber 1 = .ok (.iload_n 1, 1) := by decide +kernel
theorem dX0_isNumber_2 : decode cX0_isNumber 2 = .ok (.invokevirtual 101, 3) := by decide +kernel
theorem dX0_isNumber_5 : decode cX0_isNumber 5 = .ok (.ifCond .eq 31, 3) := by decide +kernel
theorem dX0_isNumber_8 : decode cX0_isNumber 8 = .ok (.iload_n 2, 1) := by decide +kernel
theorem dX0_isNumber_9 : decode cX0_isNumber 9 = .ok (.iconst 0, 1) := by decide +kernel
theorem dX0_isNumber_10 : decode cX0_isNumber 10 = .ok (.iconst 1, 1) := by decide +kernel
theorem dX0_isNumber_11 : decode cX0_isNumber 11 = .ok (.invokestatic 33, 3) := by decide +kernel
theorem dX0_isNumber_14 : decode cX0_isNumber 14 = .ok (.ifCond .eq 22, 3) := by decide +kernel
theorem dX0_isNumber_17 : decode cX0_isNumber 17 = .ok (.iload_n 3, 1) := by decide +kernel
theorem dX0_isNumber_18 : decode cX0_isNumber 18 = .ok (.iconst 0, 1) := by decide +kernel
theorem dX0_isNumber_19 : decode cX0_isNumber 19 = .ok (.aload_n 0, 1) := by decide +kernel
theorem dX0_isNumber_20 : decode cX0_isNumber 20 = .ok (.iload_n 2, 1) := by decide +kernel
theorem dX0_isNumber_21 : decode cX0_isNumber 21 = .ok (.invokevirtual 146, 3) := by decide +kernel
theorem dX0_isNumber_24 : decode cX0_isNumber 24 = .ok (.iconst 1, 1) := by decide +kernel
theorem dX0_isNumber_25 : decode cX0_isNumber 25 = .ok (.isub, 1) := by decide +kernel
theorem dX0_isNumber_26 : decode cX0_isNumber 26 = .ok (.invokestatic 33, 3) := by decide +kernel
theorem dX0_isNumber_29 : decode cX0_isNumber 29 = .ok (.ifCond .eq 7, 3) := by decide +kernel
theorem dX0_isNumber_32 : decode cX0_isNumber 32 = .ok (.iconst 1, 1) := by decide +kernel
theorem dX0_isNumber_33 : decode cX0_isNumber 33 = .ok (.goto 4, 3) := by decide +kernel
theorem dX0_isNumber_36 : decode cX0_isNumber 36 = .ok (.iconst 0, 1) := by decide +kernel
theorem dX0_isNumber_37 : decode cX0_isNumber 37 = .ok (.ireturn, 1) := by decide +kernel
theorem dX0_howManyOf_0 : decode cX0_howManyOf 0 = .ok (.iload_n 1, 1) := by decide +kernel
theorem dX0_howManyOf_1 : decode cX0_howManyOf 1 = .ok (.ifCond .ne 10, 3) := by decide +kernel
theorem dX0_howManyOf_4 : decode cX0_howManyOf 4 = .ok (.aload_n 0, 1) := by decide +kernel
theorem dX0_howManyOf_5 : decode cX0_howManyOf 5 = .ok (.getfield 86, 3) := by decide +kernel
theorem dX0_howManyOf_8 : decode cX0_howManyOf 8 = .ok (.goto 7, 3) := by decide +kernel
theorem dX0_howManyOf_11 : decode cX0_howManyOf 11 = .ok (.aload_n 0, 1) := by decide +kernel
theorem dX0_howManyOf_12 : decode cX0_howManyOf 12 = .ok (.getfield 107, 3) := by decide +kernel
theorem dX0_howManyOf_15 : decode cX0_howManyOf 15 = .ok (.ireturn, 1) := by decide +kernel
theorem dX0_isBarred_0 : decode cX0_isBarred 0 = .ok (.aload_n 0, 1) := by decide +kernel
theorem dX0_isBarred_1 : decode cX0_isBarred 1 = .ok (.getfield 69, 3) := by decide +kernel
theorem dX0_isBarred_4 : decode cX0_isBarred 4 = .ok (.iload_n 1, 1) := by decide +kernel
theorem dX0_isBarred_5 : decode cX0_isBarred 5 = .ok (.lushr, 1) := by decide +kernel
theorem dX0_isBarred_6 : decode cX0_isBarred 6 = .ok (.lconst 1, 1) := by decide +kernel
theorem dX0_isBarred_7 : decode cX0_isBarred 7 = .ok (.land, 1) := by decide +kernel
theorem dX0_isBarred_8 : decode cX0_isBarred 8 = .ok (.lconst 0, 1) := by decide +kernel
theorem dX0_isBarred_9 : decode cX0_isBarred 9 = .ok (.lcmp, 1) := by decide +kernel
theorem dX0_isBarred_10 : decode cX0_isBarred 10 = .ok (.ifCond .eq 7, 3) := by decide +kernel
theorem dX0_isBarred_13 : decode cX0_isBarred 13 = .ok (.iconst 1, 1) := by decide +kernel
theorem dX0_isBarred_14 : decode cX0_isBarred 14 = .ok (.goto 4, 3) := by decide +kernel
theorem dX0_isBarred_17 : decode cX0_isBarred 17 = .ok (.iconst 0, 1) := by decide +kernel
theorem dX0_isBarred_18 : decode cX0_isBarred 18 = .ok (.ireturn, 1) := by decide +kernel
theorem dX0_cell_0 : decode cX0_cell 0 = .ok (.iload_n 0, 1) := by decide +kernel
theorem dX0_cell_1 : decode cX0_cell 1 = .ok (.bipush 8, 2) := by decide +kernel
theorem dX0_cell_3 : decode cX0_cell 3 = .ok (.imul, 1) := by decide +kernel
theorem dX0_cell_4 : decode cX0_cell 4 = .ok (.iload_n 1, 1) := by decide +kernel
theorem dX0_cell_5 : decode cX0_cell 5 = .ok (.iadd, 1) := by decide +kernel
theorem dX0_cell_6 : decode cX0_cell 6 = .ok (.ireturn, 1) := by decide +kernel
theorem dX0_place_0 : decode cX0_place 0 = .ok (.iload_n 0, 1) := by decide +kernel
theorem dX0_place_1 : decode cX0_place 1 = .ok (.bipush 14, 2) := by decide +kernel
theorem dX0_place_3 : decode cX0_place 3 = .ok (.imul, 1) := by decide +kernel
theorem dX0_place_4 : decode cX0_place 4 = .ok (.iload_n 1, 1) := by decide +kernel
theorem dX0_place_5 : decode cX0_place 5 = .ok (.ifCond .ne 7, 3) := by decide +kernel
theorem dX0_place_8 : decode cX0_place 8 = .ok (.iload_n 2, 1) := by decide +kernel
theorem dX0_place_9 : decode cX0_place 9 = .ok (.goto 7, 3) := by decide +kernel
theorem dX0_place_12 : decode cX0_place 12 = .ok (.bipush 6, 2) := by decide +kernel
theorem dX0_place_14 : decode cX0_place 14 = .ok (.iload_n 2, 1) := by decide +kernel
theorem dX0_place_15 : decode cX0_place 15 = .ok (.iadd, 1) := by decide +kernel
theorem dX0_place_16 : decode cX0_place 16 = .ok (.iadd, 1) := by decide +kernel
theorem dX0_place_17 : decode cX0_place 17 = .ok (.ireturn, 1) := by decide +kernel
set_option maxRecDepth 20000 in
theorem ggX0_truthPlace_X0_cell : GoodIn wsX0_truthPlace wsX0_cell := goodIn_r _ [4] (by decide +kernel) (by decide +kernel)
set_option maxRecDepth 20000 in
theorem gX0_truthPlace_X0_cell : GoodIn wsX0_truthPlace (va_wsS RX0 45 yX0_cell wsX0_cell) := goodIn_app (goodIn_of _ (by decide +kernel)) ggX0_truthPlace_X0_cell
theorem dX0_truthPlace_0 : decode cX0_truthPlace 0 = .ok (.iload_n 0, 1) := by decide +kernel
theorem dX0_truthPlace_1 : decode cX0_truthPlace 1 = .ok (.bipush 48, 2) := by decide +kernel
theorem dX0_truthPlace_3 : decode cX0_truthPlace 3 = .ok (.imul, 1) := by decide +kernel
theorem dX0_truthPlace_4 : decode cX0_truthPlace 4 = .ok (.iload_n 1, 1) := by decide +kernel
theorem dX0_truthPlace_5 : decode cX0_truthPlace 5 = .ok (.iload_n 2, 1) := by decide +kernel
theorem dX0_truthPlace_6 : decode cX0_truthPlace 6 = .ok (.invokestatic 45, 3) := by decide +kernel
theorem dX0_truthPlace_9 : decode cX0_truthPlace 9 = .ok (.iadd, 1) := by decide +kernel
theorem dX0_truthPlace_10 : decode cX0_truthPlace 10 = .ok (.ireturn, 1) := by decide +kernel
set_option maxRecDepth 20000 in
theorem ggX0_layBoard_J7_fill_53178 : GoodIn wsX0_layBoard wsJ7_fill_53178 := goodIn_r _ [11] (by decide +kernel) (by decide +kernel)
set_option maxRecDepth 20000 in
theorem gX0_layBoard_J7_fill_53178 : GoodIn wsX0_layBoard (va_wsS RX0 149 yJ7_fill_53178 wsJ7_fill_53178) := goodIn_app (goodIn_of _ (by decide +kernel)) ggX0_layBoard_J7_fill_53178
theorem dX0_layBoard_0 : decode cX0_layBoard 0 = .ok (.aload_n 0, 1) := by decide +kernel
theorem dX0_layBoard_1 : decode cX0_layBoard 1 = .ok (.iload_n 1, 1) := by decide +kernel
theorem dX0_layBoard_2 : decode cX0_layBoard 2 = .ok (.putfield 86, 3) := by decide +kernel
theorem dX0_layBoard_5 : decode cX0_layBoard 5 = .ok (.aload_n 0, 1) := by decide +kernel
theorem dX0_layBoard_6 : decode cX0_layBoard 6 = .ok (.iload_n 2, 1) := by decide +kernel
theorem dX0_layBoard_7 : decode cX0_layBoard 7 = .ok (.putfield 107, 3) := by decide +kernel
theorem dX0_layBoard_10 : decode cX0_layBoard 10 = .ok (.aload_n 0, 1) := by decide +kernel
theorem dX0_layBoard_11 : decode cX0_layBoard 11 = .ok (.iload_n 3, 1) := by decide +kernel
theorem dX0_layBoard_12 : decode cX0_layBoard 12 = .ok (.putfield 137, 3) := by decide +kernel
theorem dX0_layBoard_15 : decode cX0_layBoard 15 = .ok (.aload_n 0, 1) := by decide +kernel
theorem dX0_layBoard_16 : decode cX0_layBoard 16 = .ok (.getfield 9, 3) := by decide +kernel
theorem dX0_layBoard_19 : decode cX0_layBoard 19 = .ok (.iconst 0, 1) := by decide +kernel
theorem dX0_layBoard_20 : decode cX0_layBoard 20 = .ok (.invokestatic 149, 3) := by decide +kernel
theorem dX0_layBoard_23 : decode cX0_layBoard 23 = .ok (.aload_n 0, 1) := by decide +kernel
theorem dX0_layBoard_24 : decode cX0_layBoard 24 = .ok (.getfield 13, 3) := by decide +kernel
theorem dX0_layBoard_27 : decode cX0_layBoard 27 = .ok (.iconst 1, 1) := by decide +kernel
theorem dX0_layBoard_28 : decode cX0_layBoard 28 = .ok (.invokestatic 149, 3) := by decide +kernel
theorem dX0_layBoard_31 : decode cX0_layBoard 31 = .ok (.aload_n 0, 1) := by decide +kernel
theorem dX0_layBoard_32 : decode cX0_layBoard 32 = .ok (.getfield 16, 3) := by decide +kernel
theorem dX0_layBoard_35 : decode cX0_layBoard 35 = .ok (.iconst 0, 1) := by decide +kernel
theorem dX0_layBoard_36 : decode cX0_layBoard 36 = .ok (.invokestatic 149, 3) := by decide +kernel
theorem dX0_layBoard_39 : decode cX0_layBoard 39 = .ok (.aload_n 0, 1) := by decide +kernel
theorem dX0_layBoard_40 : decode cX0_layBoard 40 = .ok (.lconst 0, 1) := by decide +kernel
theorem dX0_layBoard_41 : decode cX0_layBoard 41 = .ok (.putfield 69, 3) := by decide +kernel
theorem dX0_layBoard_44 : decode cX0_layBoard 44 = .ok (.return_, 1) := by decide +kernel
set_option maxRecDepth 20000 in
theorem ggX0_boardAt_X0_cell : GoodIn wsX0_boardAt wsX0_cell := goodIn_r _ [5] (by decide +kernel) (by decide +kernel)
set_option maxRecDepth 20000 in
theorem gX0_boardAt_X0_cell : GoodIn wsX0_boardAt (va_wsS RX0 45 yX0_cell wsX0_cell) := goodIn_app (goodIn_of _ (by decide +kernel)) ggX0_boardAt_X0_cell
theorem dX0_boardAt_0 : decode cX0_boardAt 0 = .ok (.aload_n 0, 1) := by decide +kernel
theorem dX0_boardAt_1 : decode cX0_boardAt 1 = .ok (.getfield 9, 3) := by decide +kernel
theorem dX0_boardAt_4 : decode cX0_boardAt 4 = .ok (.iload_n 1, 1) := by decide +kernel
theorem dX0_boardAt_5 : decode cX0_boardAt 5 = .ok (.iload_n 2, 1) := by decide +kernel
theorem dX0_boardAt_6 : decode cX0_boardAt 6 = .ok (.invokestatic 45, 3) := by decide +kernel
theorem dX0_boardAt_9 : decode cX0_boardAt 9 = .ok (.iaload, 1) := by decide +kernel
theorem dX0_boardAt_10 : decode cX0_boardAt 10 = .ok (.ireturn, 1) := by decide +kernel
theorem dX0_productAt_0 : decode cX0_productAt 0 = .ok (.iload_n 1, 1) := by decide +kernel
theorem dX0_productAt_1 : decode cX0_productAt 1 = .ok (.bipush 14, 2) := by decide +kernel
theorem dX0_productAt_3 : decode cX0_productAt 3 = .ok (.imul, 1) := by decide +kernel
theorem dX0_productAt_4 : decode cX0_productAt 4 = .ok (.istore 4, 2) := by decide +kernel
theorem dX0_productAt_6 : decode cX0_productAt 6 = .ok (.aload_n 0, 1) := by decide +kernel
theorem dX0_productAt_7 : decode cX0_productAt 7 = .ok (.getfield 13, 3) := by decide +kernel
theorem dX0_productAt_10 : decode cX0_productAt 10 = .ok (.iload 4, 2) := by decide +kernel
theorem dX0_productAt_12 : decode cX0_productAt 12 = .ok (.iload_n 2, 1) := by decide +kernel
theorem dX0_productAt_13 : decode cX0_productAt 13 = .ok (.iadd, 1) := by decide +kernel
theorem dX0_productAt_14 : decode cX0_productAt 14 = .ok (.iaload, 1) := by decide +kernel
theorem dX0_productAt_15 : decode cX0_productAt 15 = .ok (.aload_n 0, 1) := by decide +kernel
theorem dX0_productAt_16 : decode cX0_productAt 16 = .ok (.getfield 13, 3) := by decide +kernel
theorem dX0_productAt_19 : decode cX0_productAt 19 = .ok (.iload 4, 2) := by decide +kernel
theorem dX0_productAt_21 : decode cX0_productAt 21 = .ok (.bipush 6, 2) := by decide +kernel
theorem dX0_productAt_23 : decode cX0_productAt 23 = .ok (.iadd, 1) := by decide +kernel
theorem dX0_productAt_24 : decode cX0_productAt 24 = .ok (.iload_n 3, 1) := by decide +kernel
theorem dX0_productAt_25 : decode cX0_productAt 25 = .ok (.iadd, 1) := by decide +kernel
theorem dX0_productAt_26 : decode cX0_productAt 26 = .ok (.iaload, 1) := by decide +kernel
theorem dX0_productAt_27 : decode cX0_productAt 27 = .ok (.imul, 1) := by decide +kernel
theorem dX0_productAt_28 : decode cX0_productAt 28 = .ok (.ireturn, 1) := by decide +kernel
set_option maxRecDepth 20000 in
theorem ggX0_sumAt_X0_productAt : GoodIn wsX0_sumAt wsX0_productAt := goodIn_r _ [6, 7, 8, 9, 10, 11, 12, 13, 14, 15, 16, 17, 18, 19] (by decide +kernel) (by decide +kernel)
set_option maxRecDepth 20000 in
theorem gX0_sumAt_X0_productAt : GoodIn wsX0_sumAt (wsV RX0 155 RX0 yX0_productAt wsX0_productAt) := goodIn_app (goodIn_of _ (by decide +kernel)) ggX0_sumAt_X0_productAt
theorem dX0_sumAt_0 : decode cX0_sumAt 0 = .ok (.iconst 0, 1) := by decide +kernel
theorem dX0_sumAt_1 : decode cX0_sumAt 1 = .ok (.istore_n 3, 1) := by decide +kernel
theorem dX0_sumAt_2 : decode cX0_sumAt 2 = .ok (.iconst 0, 1) := by decide +kernel
theorem dX0_sumAt_3 : decode cX0_sumAt 3 = .ok (.istore 4, 2) := by decide +kernel
theorem dX0_sumAt_5 : decode cX0_sumAt 5 = .ok (.iload 4, 2) := by decide +kernel
theorem dX0_sumAt_7 : decode cX0_sumAt 7 = .ok (.aload_n 0, 1) := by decide +kernel
theorem dX0_sumAt_8 : decode cX0_sumAt 8 = .ok (.getfield 137, 3) := by decide +kernel
theorem dX0_sumAt_11 : decode cX0_sumAt 11 = .ok (.if_icmp .ge 20, 3) := by decide +kernel
theorem dX0_sumAt_14 : decode cX0_sumAt 14 = .ok (.iload_n 3, 1) := by decide +kernel
theorem dX0_sumAt_15 : decode cX0_sumAt 15 = .ok (.aload_n 0, 1) := by decide +kernel
theorem dX0_sumAt_16 : decode cX0_sumAt 16 = .ok (.iload 4, 2) := by decide +kernel
theorem dX0_sumAt_18 : decode cX0_sumAt 18 = .ok (.iload_n 1, 1) := by decide +kernel
theorem dX0_sumAt_19 : decode cX0_sumAt 19 = .ok (.iload_n 2, 1) := by decide +kernel
theorem dX0_sumAt_20 : decode cX0_sumAt 20 = .ok (.invokevirtual 155, 3) := by decide +kernel
theorem dX0_sumAt_23 : decode cX0_sumAt 23 = .ok (.iadd, 1) := by decide +kernel
theorem dX0_sumAt_24 : decode cX0_sumAt 24 = .ok (.istore_n 3, 1) := by decide +kernel
theorem dX0_sumAt_25 : decode cX0_sumAt 25 = .ok (.iinc 4 1, 3) := by decide +kernel
theorem dX0_sumAt_28 : decode cX0_sumAt 28 = .ok (.goto (-23), 3) := by decide +kernel
theorem dX0_sumAt_31 : decode cX0_sumAt 31 = .ok (.iload_n 3, 1) := by decide +kernel
theorem dX0_sumAt_32 : decode cX0_sumAt 32 = .ok (.ireturn, 1) := by decide +kernel
theorem dX0_costBy_0 : decode cX0_costBy 0 = .ok (.iload_n 1, 1) := by decide +kernel
theorem dX0_costBy_1 : decode cX0_costBy 1 = .ok (.istore_n 2, 1) := by decide +kernel
theorem dX0_costBy_2 : decode cX0_costBy 2 = .ok (.iload_n 0, 1) := by decide +kernel
theorem dX0_costBy_3 : decode cX0_costBy 3 = .ok (.iconst 1, 1) := by decide +kernel
theorem dX0_costBy_4 : decode cX0_costBy 4 = .ok (.if_icmp .lt 7, 3) := by decide +kernel
theorem dX0_costBy_7 : decode cX0_costBy 7 = .ok (.iload_n 2, 1) := by decide +kernel
theorem dX0_costBy_8 : decode cX0_costBy 8 = .ok (.iload_n 2, 1) := by decide +kernel
theorem dX0_costBy_9 : decode cX0_costBy 9 = .ok (.imul, 1) := by decide +kernel
theorem dX0_costBy_10 : decode cX0_costBy 10 = .ok (.istore_n 2, 1) := by decide +kernel
theorem dX0_costBy_11 : decode cX0_costBy 11 = .ok (.iload_n 0, 1) := by decide +kernel
theorem dX0_costBy_12 : decode cX0_costBy 12 = .ok (.iconst 2, 1) := by decide +kernel
theorem dX0_costBy_13 : decode cX0_costBy 13 = .ok (.if_icmp .lt 17, 3) := by decide +kernel
theorem dX0_costBy_16 : decode cX0_costBy 16 = .ok (.iload_n 2, 1) := by decide +kernel
theorem dX0_costBy_17 : decode cX0_costBy 17 = .ok (.bipush 100, 2) := by decide +kernel
theorem dX0_costBy_19 : decode cX0_costBy 19 = .ok (.if_icmp .le 11, 3) := by decide +kernel
theorem dX0_costBy_22 : decode cX0_costBy 22 = .ok (.bipush 90, 2) := by decide +kernel
theorem dX0_costBy_24 : decode cX0_costBy 24 = .ok (.iload_n 2, 1) := by decide +kernel
theorem dX0_costBy_25 : decode cX0_costBy 25 = .ok (.bipush 10, 2) := by decide +kernel
theorem dX0_costBy_27 : decode cX0_costBy 27 = .ok (.idiv, 1) := by decide +kernel
theorem dX0_costBy_28 : decode cX0_costBy 28 = .ok (.iadd, 1) := by decide +kernel
theorem dX0_costBy_29 : decode cX0_costBy 29 = .ok (.istore_n 2, 1) := by decide +kernel
theorem dX0_costBy_30 : decode cX0_costBy 30 = .ok (.iload_n 2, 1) := by decide +kernel
theorem dX0_costBy_31 : decode cX0_costBy 31 = .ok (.ireturn, 1) := by decide +kernel
theorem dX0_traceOfKind_0 : decode cX0_traceOfKind 0 = .ok (.iload_n 0, 1) := by decide +kernel
theorem dX0_traceOfKind_1 : decode cX0_traceOfKind 1 = .ok (.lookupswitch 32 #[(0, 27), (1, 29)], 27) := by decide +kernel
theorem dX0_traceOfKind_28 : decode cX0_traceOfKind 28 = .ok (.iconst 1, 1) := by decide +kernel
theorem dX0_traceOfKind_29 : decode cX0_traceOfKind 29 = .ok (.ireturn, 1) := by decide +kernel
theorem dX0_traceOfKind_30 : decode cX0_traceOfKind 30 = .ok (.bipush 11, 2) := by decide +kernel
theorem dX0_traceOfKind_32 : decode cX0_traceOfKind 32 = .ok (.ireturn, 1) := by decide +kernel
theorem dX0_traceOfKind_33 : decode cX0_traceOfKind 33 = .ok (.bipush 111, 2) := by decide +kernel
theorem dX0_traceOfKind_35 : decode cX0_traceOfKind 35 = .ok (.ireturn, 1) := by decide +kernel
set_option maxRecDepth 20000 in
theorem ggX0_costAt_X0_boardAt : GoodIn wsX0_costAt wsX0_boardAt := goodIn_r _ [10, 11, 12, 13, 9, 14, 28, 29, 30, 31, 32, 33, 34, 35, 36, 37, 38, 39] (by decide +kernel) (by decide +kernel)
set_option maxRecDepth 20000 in
theorem gX0_costAt_X0_boardAt : GoodIn wsX0_costAt (wsV RX0 41 RX0 yX0_boardAt wsX0_boardAt) := goodIn_app (goodIn_of _ (by decide +kernel)) ggX0_costAt_X0_boardAt
set_option maxRecDepth 20000 in
theorem ggX0_costAt_X0_sumAt : GoodIn wsX0_costAt wsX0_sumAt := goodIn_r _ [18, 19, 20, 21, 22, 9, 23, 24, 28, 29, 30, 31, 32, 33, 34, 35, 36, 37, 38, 39] (by decide +kernel) (by decide +kernel)
set_option maxRecDepth 20000 in
theorem gX0_costAt_X0_sumAt : GoodIn wsX0_costAt (wsV RX0 48 RX0 yX0_sumAt wsX0_sumAt) := goodIn_app (goodIn_of _ (by decide +kernel)) ggX0_costAt_X0_sumAt
set_option maxRecDepth 20000 in
theorem ggX0_costAt_X0_costBy : GoodIn wsX0_costAt wsX0_costBy := goodIn_r _ [27] (by decide +kernel) (by decide +kernel)
set_option maxRecDepth 20000 in
theorem gX0_costAt_X0_costBy : GoodIn wsX0_costAt (va_wsS RX0 83 yX0_costBy wsX0_costBy) := goodIn_app (goodIn_of _ (by decide +kernel)) ggX0_costAt_X0_costBy
theorem dX0_costAt_0 : decode cX0_costAt 0 = .ok (.aload_n 0, 1) := by decide +kernel
theorem dX0_costAt_1 : decode cX0_costAt 1 = .ok (.getfield 29, 3) := by decide +kernel
theorem dX0_costAt_4 : decode cX0_costAt 4 = .ok (.aload_n 0, 1) := by decide +kernel
theorem dX0_costAt_5 : decode cX0_costAt 5 = .ok (.iload_n 1, 1) := by decide +kernel
theorem dX0_costAt_6 : decode cX0_costAt 6 = .ok (.iload_n 2, 1) := by decide +kernel
theorem dX0_costAt_7 : decode cX0_costAt 7 = .ok (.invokevirtual 41, 3) := by decide +kernel
theorem dX0_costAt_10 : decode cX0_costAt 10 = .ok (.aload_n 0, 1) := by decide +kernel
theorem dX0_costAt_11 : decode cX0_costAt 11 = .ok (.iload_n 1, 1) := by decide +kernel
theorem dX0_costAt_12 : decode cX0_costAt 12 = .ok (.iload_n 2, 1) := by decide +kernel
theorem dX0_costAt_13 : decode cX0_costAt 13 = .ok (.invokevirtual 48, 3) := by decide +kernel
theorem dX0_costAt_16 : decode cX0_costAt 16 = .ok (.isub, 1) := by decide +kernel
theorem dX0_costAt_17 : decode cX0_costAt 17 = .ok (.invokestatic 116, 3) := by decide +kernel
theorem dX0_costAt_20 : decode cX0_costAt 20 = .ok (.invokestatic 83, 3) := by decide +kernel
theorem dX0_costAt_23 : decode cX0_costAt 23 = .ok (.ireturn, 1) := by decide +kernel
set_option maxRecDepth 20000 in
theorem ggX0_missAlong_X0_howManyOf : GoodIn wsX0_missAlong wsX0_howManyOf := goodIn_r _ [5, 6, 7, 38, 39, 40, 41, 42, 43, 44, 45, 46, 47, 48, 49] (by decide +kernel) (by decide +kernel)
set_option maxRecDepth 20000 in
theorem gX0_missAlong_X0_howManyOf : GoodIn wsX0_missAlong (wsV RX0 146 RX0 yX0_howManyOf wsX0_howManyOf) := goodIn_app (goodIn_of _ (by decide +kernel)) ggX0_missAlong_X0_howManyOf
set_option maxRecDepth 20000 in
theorem ggX0_missAlong_X0_costAt : GoodIn wsX0_missAlong wsX0_costAt := goodIn_r _ [11, 12, 13, 14, 15, 16, 17, 18, 19, 4, 20, 21, 22, 23, 24, 25, 26, 27, 28, 29, 30, 31, 32, 33, 34, 35, 36, 37, 38, 39, 40, 41, 42, 43, 44, 45, 46, 47, 48, 49] (by decide +kernel) (by decide +kernel)
set_option maxRecDepth 20000 in
theorem gX0_missAlong_X0_costAt : GoodIn wsX0_missAlong (wsV RX0 158 RX0 yX0_costAt wsX0_costAt) := goodIn_app (goodIn_of _ (by decide +kernel)) ggX0_missAlong_X0_costAt
theorem dX0_missAlong_0 : decode cX0_missAlong 0 = .ok (.aload_n 0, 1) := by decide +kernel
theorem dX0_missAlong_1 : decode cX0_missAlong 1 = .ok (.iload_n 1, 1) := by decide +kernel
theorem dX0_missAlong_2 : decode cX0_missAlong 2 = .ok (.ifCond .ne 7, 3) := by decide +kernel
theorem dX0_missAlong_5 : decode cX0_missAlong 5 = .ok (.iconst 1, 1) := by decide +kernel
theorem dX0_missAlong_6 : decode cX0_missAlong 6 = .ok (.goto 4, 3) := by decide +kernel
theorem dX0_missAlong_9 : decode cX0_missAlong 9 = .ok (.iconst 0, 1) := by decide +kernel
theorem dX0_missAlong_10 : decode cX0_missAlong 10 = .ok (.invokevirtual 146, 3) := by decide +kernel
theorem dX0_missAlong_13 : decode cX0_missAlong 13 = .ok (.istore_n 3, 1) := by decide +kernel
theorem dX0_missAlong_14 : decode cX0_missAlong 14 = .ok (.iconst 0, 1) := by decide +kernel
theorem dX0_missAlong_15 : decode cX0_missAlong 15 = .ok (.istore 4, 2) := by decide +kernel
theorem dX0_missAlong_17 : decode cX0_missAlong 17 = .ok (.iconst 0, 1) := by decide +kernel
theorem dX0_missAlong_18 : decode cX0_missAlong 18 = .ok (.istore 5, 2) := by decide +kernel
theorem dX0_missAlong_20 : decode cX0_missAlong 20 = .ok (.iload 5, 2) := by decide +kernel
theorem dX0_missAlong_22 : decode cX0_missAlong 22 = .ok (.iload_n 3, 1) := by decide +kernel
theorem dX0_missAlong_23 : decode cX0_missAlong 23 = .ok (.if_icmp .ge 35, 3) := by decide +kernel
theorem dX0_missAlong_26 : decode cX0_missAlong 26 = .ok (.iload 4, 2) := by decide +kernel
theorem dX0_missAlong_28 : decode cX0_missAlong 28 = .ok (.iload_n 1, 1) := by decide +kernel
theorem dX0_missAlong_29 : decode cX0_missAlong 29 = .ok (.ifCond .ne 13, 3) := by decide +kernel
theorem dX0_missAlong_32 : decode cX0_missAlong 32 = .ok (.aload_n 0, 1) := by decide +kernel
theorem dX0_missAlong_33 : decode cX0_missAlong 33 = .ok (.iload_n 2, 1) := by decide +kernel
theorem dX0_missAlong_34 : decode cX0_missAlong 34 = .ok (.iload 5, 2) := by decide +kernel
theorem dX0_missAlong_36 : decode cX0_missAlong 36 = .ok (.invokevirtual 158, 3) := by decide +kernel
theorem dX0_missAlong_39 : decode cX0_missAlong 39 = .ok (.goto 10, 3) := by decide +kernel
theorem dX0_missAlong_42 : decode cX0_missAlong 42 = .ok (.aload_n 0, 1) := by decide +kernel
theorem dX0_missAlong_43 : decode cX0_missAlong 43 = .ok (.iload 5, 2) := by decide +kernel
theorem dX0_missAlong_45 : decode cX0_missAlong 45 = .ok (.iload_n 2, 1) := by decide +kernel
theorem dX0_missAlong_46 : decode cX0_missAlong 46 = .ok (.invokevirtual 158, 3) := by decide +kernel
theorem dX0_missAlong_49 : decode cX0_missAlong 49 = .ok (.iadd, 1) := by decide +kernel
theorem dX0_missAlong_50 : decode cX0_missAlong 50 = .ok (.istore 4, 2) := by decide +kernel
theorem dX0_missAlong_52 : decode cX0_missAlong 52 = .ok (.iinc 5 1, 3) := by decide +kernel
theorem dX0_missAlong_55 : decode cX0_missAlong 55 = .ok (.goto (-35), 3) := by decide +kernel
theorem dX0_missAlong_58 : decode cX0_missAlong 58 = .ok (.iload 4, 2) := by decide +kernel
theorem dX0_missAlong_60 : decode cX0_missAlong 60 = .ok (.ireturn, 1) := by decide +kernel
set_option maxRecDepth 20000 in
theorem ggX0_playRound_X0_howManyOf : GoodIn wsX0_playRound wsX0_howManyOf := goodIn_r _ [6, 7, 8, 57, 58, 59, 60, 61, 62, 63, 64, 65, 66, 67, 68] (by decide +kernel) (by decide +kernel)
set_option maxRecDepth 20000 in
theorem gX0_playRound_X0_howManyOf : GoodIn wsX0_playRound (wsV RX0 146 RX0 yX0_howManyOf wsX0_howManyOf) := goodIn_app (goodIn_of _ (by decide +kernel)) ggX0_playRound_X0_howManyOf
set_option maxRecDepth 20000 in
theorem ggX0_playRound_X0_stepNumber : GoodIn wsX0_playRound wsX0_stepNumber := goodIn_r _ [12, 13, 14, 15, 5, 16, 17, 18, 19, 20, 21, 22, 23, 24, 25, 2, 3, 4, 6, 7, 8, 26, 27, 28, 29, 30, 31, 32, 33, 34, 35, 36, 37, 38, 39, 40, 41, 42, 43, 44, 45, 46, 1, 47, 48, 49, 50, 51, 52, 53, 54, 55, 56, 57, 58, 59, 60, 61, 62, 63, 64, 65, 66, 67, 68] (by decide +kernel) (by decide +kernel)
set_option maxRecDepth 20000 in
theorem gX0_playRound_X0_stepNumber : GoodIn wsX0_playRound (wsV RX0 161 RX0 yX0_stepNumber wsX0_stepNumber) := goodIn_app (goodIn_of _ (by decide +kernel)) ggX0_playRound_X0_stepNumber
theorem dX0_playRound_0 : decode cX0_playRound 0 = .ok (.iconst 0, 1) := by decide +kernel
theorem dX0_playRound_1 : decode cX0_playRound 1 = .ok (.istore_n 1, 1) := by decide +kernel
theorem dX0_playRound_2 : decode cX0_playRound 2 = .ok (.iload_n 1, 1) := by decide +kernel
theorem dX0_playRound_3 : decode cX0_playRound 3 = .ok (.aload_n 0, 1) := by decide +kernel
theorem dX0_playRound_4 : decode cX0_playRound 4 = .ok (.getfield 137, 3) := by decide +kernel
theorem dX0_playRound_7 : decode cX0_playRound 7 = .ok (.if_icmp .ge 51, 3) := by decide +kernel
theorem dX0_playRound_10 : decode cX0_playRound 10 = .ok (.iconst 0, 1) := by decide +kernel
theorem dX0_playRound_11 : decode cX0_playRound 11 = .ok (.istore_n 2, 1) := by decide +kernel
theorem dX0_playRound_12 : decode cX0_playRound 12 = .ok (.iload_n 2, 1) := by decide +kernel
theorem dX0_playRound_13 : decode cX0_playRound 13 = .ok (.iconst 1, 1) := by decide +kernel
theorem dX0_playRound_14 : decode cX0_playRound 14 = .ok (.if_icmp .gt 38, 3) := by decide +kernel
theorem dX0_playRound_17 : decode cX0_playRound 17 = .ok (.aload_n 0, 1) := by decide +kernel
theorem dX0_playRound_18 : decode cX0_playRound 18 = .ok (.iload_n 2, 1) := by decide +kernel
theorem dX0_playRound_19 : decode cX0_playRound 19 = .ok (.invokevirtual 146, 3) := by decide +kernel
theorem dX0_playRound_22 : decode cX0_playRound 22 = .ok (.istore_n 3, 1) := by decide +kernel
theorem dX0_playRound_23 : decode cX0_playRound 23 = .ok (.iconst 0, 1) := by decide +kernel
theorem dX0_playRound_24 : decode cX0_playRound 24 = .ok (.istore 4, 2) := by decide +kernel
theorem dX0_playRound_26 : decode cX0_playRound 26 = .ok (.iload 4, 2) := by decide +kernel
theorem dX0_playRound_28 : decode cX0_playRound 28 = .ok (.iload_n 3, 1) := by decide +kernel
theorem dX0_playRound_29 : decode cX0_playRound 29 = .ok (.if_icmp .ge 17, 3) := by decide +kernel
theorem dX0_playRound_32 : decode cX0_playRound 32 = .ok (.aload_n 0, 1) := by decide +kernel
theorem dX0_playRound_33 : decode cX0_playRound 33 = .ok (.iload_n 1, 1) := by decide +kernel
theorem dX0_playRound_34 : decode cX0_playRound 34 = .ok (.iload_n 2, 1) := by decide +kernel
theorem dX0_playRound_35 : decode cX0_playRound 35 = .ok (.iload 4, 2) := by decide +kernel
theorem dX0_playRound_37 : decode cX0_playRound 37 = .ok (.invokevirtual 161, 3) := by decide +kernel
theorem dX0_playRound_40 : decode cX0_playRound 40 = .ok (.iinc 4 1, 3) := by decide +kernel
theorem dX0_playRound_43 : decode cX0_playRound 43 = .ok (.goto (-17), 3) := by decide +kernel
theorem dX0_playRound_46 : decode cX0_playRound 46 = .ok (.iinc 2 1, 3) := by decide +kernel
theorem dX0_playRound_49 : decode cX0_playRound 49 = .ok (.goto (-37), 3) := by decide +kernel
theorem dX0_playRound_52 : decode cX0_playRound 52 = .ok (.iinc 1 1, 3) := by decide +kernel
theorem dX0_playRound_55 : decode cX0_playRound 55 = .ok (.goto (-53), 3) := by decide +kernel
theorem dX0_playRound_58 : decode cX0_playRound 58 = .ok (.return_, 1) := by decide +kernel
set_option maxRecDepth 20000 in
theorem ggX0_stepNumber_X0_place : GoodIn wsX0_stepNumber wsX0_place := goodIn_r _ [5] (by decide +kernel) (by decide +kernel)
set_option maxRecDepth 20000 in
theorem gX0_stepNumber_X0_place : GoodIn wsX0_stepNumber (va_wsS RX0 62 yX0_place wsX0_place) := goodIn_app (goodIn_of _ (by decide +kernel)) ggX0_stepNumber_X0_place
set_option maxRecDepth 20000 in
theorem ggX0_stepNumber_X0_isBarred : GoodIn wsX0_stepNumber wsX0_isBarred := goodIn_r _ [9, 10, 53, 54, 55, 56, 57, 58, 59, 60, 61, 62, 63, 64] (by decide +kernel) (by decide +kernel)
set_option maxRecDepth 20000 in
theorem gX0_stepNumber_X0_isBarred : GoodIn wsX0_stepNumber (wsV RX0 65 RX0 yX0_isBarred wsX0_isBarred) := goodIn_app (goodIn_of _ (by decide +kernel)) ggX0_stepNumber_X0_isBarred
set_option maxRecDepth 20000 in
theorem ggX0_stepNumber_X0_missAlong : GoodIn wsX0_stepNumber wsX0_missAlong := goodIn_r _ [14, 15, 16, 17, 4, 18, 19, 20, 21, 22, 23, 24, 25, 26, 27, 28, 29, 30, 31, 32, 33, 34, 35, 36, 37, 38, 39, 40, 41, 42, 43, 44, 45, 46, 1, 47, 48, 49, 53, 54, 55, 56, 57, 58, 59, 60, 61, 62, 63, 64] (by decide +kernel) (by decide +kernel)
set_option maxRecDepth 20000 in
theorem gX0_stepNumber_X0_missAlong : GoodIn wsX0_stepNumber (wsV RX0 89 RX0 yX0_missAlong wsX0_missAlong) := goodIn_app (goodIn_of _ (by decide +kernel)) ggX0_stepNumber_X0_missAlong
set_option maxRecDepth 20000 in
theorem ggX0_stepNumber_X0_within : GoodIn wsX0_stepNumber wsX0_within := goodIn_r _ [52] (by decide +kernel) (by decide +kernel)
set_option maxRecDepth 20000 in
theorem gX0_stepNumber_X0_within : GoodIn wsX0_stepNumber (va_wsS RX0 33 yX0_within wsX0_within) := goodIn_app (goodIn_of _ (by decide +kernel)) ggX0_stepNumber_X0_within
theorem dX0_stepNumber_0 : decode cX0_stepNumber 0 = .ok (.iload_n 1, 1) := by decide +kernel
theorem dX0_stepNumber_1 : decode cX0_stepNumber 1 = .ok (.iload_n 2, 1) := by decide +kernel
theorem dX0_stepNumber_2 : decode cX0_stepNumber 2 = .ok (.iload_n 3, 1) := by decide +kernel
theorem dX0_stepNumber_3 : decode cX0_stepNumber 3 = .ok (.invokestatic 62, 3) := by decide +kernel
theorem dX0_stepNumber_6 : decode cX0_stepNumber 6 = .ok (.istore 4, 2) := by decide +kernel
theorem dX0_stepNumber_8 : decode cX0_stepNumber 8 = .ok (.aload_n 0, 1) := by decide +kernel
theorem dX0_stepNumber_9 : decode cX0_stepNumber 9 = .ok (.iload 4, 2) := by decide +kernel
theorem dX0_stepNumber_11 : decode cX0_stepNumber 11 = .ok (.invokevirtual 65, 3) := by decide +kernel
theorem dX0_stepNumber_14 : decode cX0_stepNumber 14 = .ok (.ifCond .eq 4, 3) := by decide +kernel
theorem dX0_stepNumber_17 : decode cX0_stepNumber 17 = .ok (.return_, 1) := by decide +kernel
theorem dX0_stepNumber_18 : decode cX0_stepNumber 18 = .ok (.aload_n 0, 1) := by decide +kernel
theorem dX0_stepNumber_19 : decode cX0_stepNumber 19 = .ok (.getfield 13, 3) := by decide +kernel
theorem dX0_stepNumber_22 : decode cX0_stepNumber 22 = .ok (.iload 4, 2) := by decide +kernel
theorem dX0_stepNumber_24 : decode cX0_stepNumber 24 = .ok (.iaload, 1) := by decide +kernel
theorem dX0_stepNumber_25 : decode cX0_stepNumber 25 = .ok (.istore 5, 2) := by decide +kernel
theorem dX0_stepNumber_27 : decode cX0_stepNumber 27 = .ok (.iload 5, 2) := by decide +kernel
theorem dX0_stepNumber_29 : decode cX0_stepNumber 29 = .ok (.istore 6, 2) := by decide +kernel
theorem dX0_stepNumber_31 : decode cX0_stepNumber 31 = .ok (.aload_n 0, 1) := by decide +kernel
theorem dX0_stepNumber_32 : decode cX0_stepNumber 32 = .ok (.iload_n 2, 1) := by decide +kernel
theorem dX0_stepNumber_33 : decode cX0_stepNumber 33 = .ok (.iload_n 3, 1) := by decide +kernel
theorem dX0_stepNumber_34 : decode cX0_stepNumber 34 = .ok (.invokevirtual 89, 3) := by decide +kernel
theorem dX0_stepNumber_37 : decode cX0_stepNumber 37 = .ok (.istore 7, 2) := by decide +kernel
theorem dX0_stepNumber_39 : decode cX0_stepNumber 39 = .ok (.iload 5, 2) := by decide +kernel
theorem dX0_stepNumber_41 : decode cX0_stepNumber 41 = .ok (.iconst 1, 1) := by decide +kernel
theorem dX0_stepNumber_42 : decode cX0_stepNumber 42 = .ok (.isub, 1) := by decide +kernel
theorem dX0_stepNumber_43 : decode cX0_stepNumber 43 = .ok (.istore 8, 2) := by decide +kernel
theorem dX0_stepNumber_45 : decode cX0_stepNumber 45 = .ok (.iload 8, 2) := by decide +kernel
theorem dX0_stepNumber_47 : decode cX0_stepNumber 47 = .ok (.iload 5, 2) := by decide +kernel
theorem dX0_stepNumber_49 : decode cX0_stepNumber 49 = .ok (.iconst 1, 1) := by decide +kernel
theorem dX0_stepNumber_50 : decode cX0_stepNumber 50 = .ok (.iadd, 1) := by decide +kernel
theorem dX0_stepNumber_51 : decode cX0_stepNumber 51 = .ok (.if_icmp .gt 52, 3) := by decide +kernel
theorem dX0_stepNumber_54 : decode cX0_stepNumber 54 = .ok (.iload 8, 2) := by decide +kernel
theorem dX0_stepNumber_56 : decode cX0_stepNumber 56 = .ok (.iconst 0, 1) := by decide +kernel
theorem dX0_stepNumber_57 : decode cX0_stepNumber 57 = .ok (.bipush 20, 2) := by decide +kernel
theorem dX0_stepNumber_59 : decode cX0_stepNumber 59 = .ok (.invokestatic 33, 3) := by decide +kernel
theorem dX0_stepNumber_62 : decode cX0_stepNumber 62 = .ok (.ifCond .eq 35, 3) := by decide +kernel
theorem dX0_stepNumber_65 : decode cX0_stepNumber 65 = .ok (.aload_n 0, 1) := by decide +kernel
theorem dX0_stepNumber_66 : decode cX0_stepNumber 66 = .ok (.getfield 13, 3) := by decide +kernel
theorem dX0_stepNumber_69 : decode cX0_stepNumber 69 = .ok (.iload 4, 2) := by decide +kernel
theorem dX0_stepNumber_71 : decode cX0_stepNumber 71 = .ok (.iload 8, 2) := by decide +kernel
theorem dX0_stepNumber_73 : decode cX0_stepNumber 73 = .ok (.iastore, 1) := by decide +kernel
theorem dX0_stepNumber_74 : decode cX0_stepNumber 74 = .ok (.aload_n 0, 1) := by decide +kernel
theorem dX0_stepNumber_75 : decode cX0_stepNumber 75 = .ok (.iload_n 2, 1) := by decide +kernel
theorem dX0_stepNumber_76 : decode cX0_stepNumber 76 = .ok (.iload_n 3, 1) := by decide +kernel
theorem dX0_stepNumber_77 : decode cX0_stepNumber 77 = .ok (.invokevirtual 89, 3) := by decide +kernel
theorem dX0_stepNumber_80 : decode cX0_stepNumber 80 = .ok (.istore 9, 2) := by decide +kernel
theorem dX0_stepNumber_82 : decode cX0_stepNumber 82 = .ok (.iload 9, 2) := by decide +kernel
theorem dX0_stepNumber_84 : decode cX0_stepNumber 84 = .ok (.iload 7, 2) := by decide +kernel
theorem dX0_stepNumber_86 : decode cX0_stepNumber 86 = .ok (.if_icmp .ge 11, 3) := by decide +kernel
theorem dX0_stepNumber_89 : decode cX0_stepNumber 89 = .ok (.iload 9, 2) := by decide +kernel
theorem dX0_stepNumber_91 : decode cX0_stepNumber 91 = .ok (.istore 7, 2) := by decide +kernel
theorem dX0_stepNumber_93 : decode cX0_stepNumber 93 = .ok (.iload 8, 2) := by decide +kernel
theorem dX0_stepNumber_95 : decode cX0_stepNumber 95 = .ok (.istore 6, 2) := by decide +kernel
theorem dX0_stepNumber_97 : decode cX0_stepNumber 97 = .ok (.iinc 8 2, 3) := by decide +kernel
theorem dX0_stepNumber_100 : decode cX0_stepNumber 100 = .ok (.goto (-55), 3) := by decide +kernel
theorem dX0_stepNumber_103 : decode cX0_stepNumber 103 = .ok (.aload_n 0, 1) := by decide +kernel
theorem dX0_stepNumber_104 : decode cX0_stepNumber 104 = .ok (.getfield 13, 3) := by decide +kernel
theorem dX0_stepNumber_107 : decode cX0_stepNumber 107 = .ok (.iload 4, 2) := by decide +kernel
theorem dX0_stepNumber_109 : decode cX0_stepNumber 109 = .ok (.iload 6, 2) := by decide +kernel
theorem dX0_stepNumber_111 : decode cX0_stepNumber 111 = .ok (.iastore, 1) := by decide +kernel
theorem dX0_stepNumber_112 : decode cX0_stepNumber 112 = .ok (.return_, 1) := by decide +kernel
set_option maxRecDepth 20000 in
theorem ggX0_shareAt_X0_boardAt : GoodIn wsX0_shareAt wsX0_boardAt := goodIn_r _ [6, 7, 8, 9, 5, 10, 20, 21, 22, 23, 24, 25, 26, 27, 28, 29, 30, 31] (by decide +kernel) (by decide +kernel)
set_option maxRecDepth 20000 in
theorem gX0_shareAt_X0_boardAt : GoodIn wsX0_shareAt (wsV RX0 41 RX0 yX0_boardAt wsX0_boardAt) := goodIn_app (goodIn_of _ (by decide +kernel)) ggX0_shareAt_X0_boardAt
set_option maxRecDepth 20000 in
theorem ggX0_shareAt_X0_sumAt : GoodIn wsX0_shareAt wsX0_sumAt := goodIn_r _ [14, 1, 15, 16, 17, 5, 18, 19, 20, 21, 22, 23, 24, 25, 26, 27, 28, 29, 30, 31] (by decide +kernel) (by decide +kernel)
set_option maxRecDepth 20000 in
theorem gX0_shareAt_X0_sumAt : GoodIn wsX0_shareAt (wsV RX0 48 RX0 yX0_sumAt wsX0_sumAt) := goodIn_app (goodIn_of _ (by decide +kernel)) ggX0_shareAt_X0_sumAt
set_option maxRecDepth 20000 in
theorem ggX0_shareAt_X0_productAt : GoodIn wsX0_shareAt wsX0_productAt := goodIn_r _ [18, 19, 20, 21, 22, 23, 24, 25, 26, 27, 28, 29, 30, 31] (by decide +kernel) (by decide +kernel)
set_option maxRecDepth 20000 in
theorem gX0_shareAt_X0_productAt : GoodIn wsX0_shareAt (wsV RX0 155 RX0 yX0_productAt wsX0_productAt) := goodIn_app (goodIn_of _ (by decide +kernel)) ggX0_shareAt_X0_productAt
theorem dX0_shareAt_0 : decode cX0_shareAt 0 = .ok (.aload_n 0, 1) := by decide +kernel
theorem dX0_shareAt_1 : decode cX0_shareAt 1 = .ok (.iload_n 2, 1) := by decide +kernel
theorem dX0_shareAt_2 : decode cX0_shareAt 2 = .ok (.iload_n 3, 1) := by decide +kernel
theorem dX0_shareAt_3 : decode cX0_shareAt 3 = .ok (.invokevirtual 41, 3) := by decide +kernel
theorem dX0_shareAt_6 : decode cX0_shareAt 6 = .ok (.istore 4, 2) := by decide +kernel
theorem dX0_shareAt_8 : decode cX0_shareAt 8 = .ok (.aload_n 0, 1) := by decide +kernel
theorem dX0_shareAt_9 : decode cX0_shareAt 9 = .ok (.iload_n 2, 1) := by decide +kernel
theorem dX0_shareAt_10 : decode cX0_shareAt 10 = .ok (.iload_n 3, 1) := by decide +kernel
theorem dX0_shareAt_11 : decode cX0_shareAt 11 = .ok (.invokevirtual 48, 3) := by decide +kernel
theorem dX0_shareAt_14 : decode cX0_shareAt 14 = .ok (.istore 5, 2) := by decide +kernel
theorem dX0_shareAt_16 : decode cX0_shareAt 16 = .ok (.iload 5, 2) := by decide +kernel
theorem dX0_shareAt_18 : decode cX0_shareAt 18 = .ok (.ifCond .gt 14, 3) := by decide +kernel
theorem dX0_shareAt_21 : decode cX0_shareAt 21 = .ok (.iload_n 1, 1) := by decide +kernel
theorem dX0_shareAt_22 : decode cX0_shareAt 22 = .ok (.ifCond .ne 8, 3) := by decide +kernel
theorem dX0_shareAt_25 : decode cX0_shareAt 25 = .ok (.iload 4, 2) := by decide +kernel
theorem dX0_shareAt_27 : decode cX0_shareAt 27 = .ok (.goto 4, 3) := by decide +kernel
theorem dX0_shareAt_30 : decode cX0_shareAt 30 = .ok (.iconst 0, 1) := by decide +kernel
theorem dX0_shareAt_31 : decode cX0_shareAt 31 = .ok (.ireturn, 1) := by decide +kernel
theorem dX0_shareAt_32 : decode cX0_shareAt 32 = .ok (.iload 4, 2) := by decide +kernel
theorem dX0_shareAt_34 : decode cX0_shareAt 34 = .ok (.aload_n 0, 1) := by decide +kernel
theorem dX0_shareAt_35 : decode cX0_shareAt 35 = .ok (.iload_n 1, 1) := by decide +kernel
theorem dX0_shareAt_36 : decode cX0_shareAt 36 = .ok (.iload_n 2, 1) := by decide +kernel
theorem dX0_shareAt_37 : decode cX0_shareAt 37 = .ok (.iload_n 3, 1) := by decide +kernel
theorem dX0_shareAt_38 : decode cX0_shareAt 38 = .ok (.invokevirtual 155, 3) := by decide +kernel
theorem dX0_shareAt_41 : decode cX0_shareAt 41 = .ok (.imul, 1) := by decide +kernel
theorem dX0_shareAt_42 : decode cX0_shareAt 42 = .ok (.istore 6, 2) := by decide +kernel
theorem dX0_shareAt_44 : decode cX0_shareAt 44 = .ok (.iload 4, 2) := by decide +kernel
theorem dX0_shareAt_46 : decode cX0_shareAt 46 = .ok (.istore 7, 2) := by decide +kernel
theorem dX0_shareAt_48 : decode cX0_shareAt 48 = .ok (.iconst 0, 1) := by decide +kernel
theorem dX0_shareAt_49 : decode cX0_shareAt 49 = .ok (.istore 8, 2) := by decide +kernel
theorem dX0_shareAt_51 : decode cX0_shareAt 51 = .ok (.iconst 0, 1) := by decide +kernel
theorem dX0_shareAt_52 : decode cX0_shareAt 52 = .ok (.istore 9, 2) := by decide +kernel
theorem dX0_shareAt_54 : decode cX0_shareAt 54 = .ok (.iload 9, 2) := by decide +kernel
theorem dX0_shareAt_56 : decode cX0_shareAt 56 = .ok (.aload_n 0, 1) := by decide +kernel
theorem dX0_shareAt_57 : decode cX0_shareAt 57 = .ok (.getfield 137, 3) := by decide +kernel
theorem dX0_shareAt_60 : decode cX0_shareAt 60 = .ok (.if_icmp .ge 67, 3) := by decide +kernel
theorem dX0_shareAt_63 : decode cX0_shareAt 63 = .ok (.iload 4, 2) := by decide +kernel
theorem dX0_shareAt_65 : decode cX0_shareAt 65 = .ok (.aload_n 0, 1) := by decide +kernel
theorem dX0_shareAt_66 : decode cX0_shareAt 66 = .ok (.iload 9, 2) := by decide +kernel
theorem dX0_shareAt_68 : decode cX0_shareAt 68 = .ok (.iload_n 2, 1) := by decide +kernel
theorem dX0_shareAt_69 : decode cX0_shareAt 69 = .ok (.iload_n 3, 1) := by decide +kernel
theorem dX0_shareAt_70 : decode cX0_shareAt 70 = .ok (.invokevirtual 155, 3) := by decide +kernel
theorem dX0_shareAt_73 : decode cX0_shareAt 73 = .ok (.imul, 1) := by decide +kernel
theorem dX0_shareAt_74 : decode cX0_shareAt 74 = .ok (.istore 10, 2) := by decide +kernel
theorem dX0_shareAt_76 : decode cX0_shareAt 76 = .ok (.iload 7, 2) := by decide +kernel
theorem dX0_shareAt_78 : decode cX0_shareAt 78 = .ok (.iload 10, 2) := by decide +kernel
theorem dX0_shareAt_80 : decode cX0_shareAt 80 = .ok (.iload 5, 2) := by decide +kernel
theorem dX0_shareAt_82 : decode cX0_shareAt 82 = .ok (.idiv, 1) := by decide +kernel
theorem dX0_shareAt_83 : decode cX0_shareAt 83 = .ok (.isub, 1) := by decide +kernel
theorem dX0_shareAt_84 : decode cX0_shareAt 84 = .ok (.istore 7, 2) := by decide +kernel
theorem dX0_shareAt_86 : decode cX0_shareAt 86 = .ok (.iload 10, 2) := by decide +kernel
theorem dX0_shareAt_88 : decode cX0_shareAt 88 = .ok (.iload 5, 2) := by decide +kernel
theorem dX0_shareAt_90 : decode cX0_shareAt 90 = .ok (.irem, 1) := by decide +kernel
theorem dX0_shareAt_91 : decode cX0_shareAt 91 = .ok (.iload 6, 2) := by decide +kernel
theorem dX0_shareAt_93 : decode cX0_shareAt 93 = .ok (.iload 5, 2) := by decide +kernel
theorem dX0_shareAt_95 : decode cX0_shareAt 95 = .ok (.irem, 1) := by decide +kernel
theorem dX0_shareAt_96 : decode cX0_shareAt 96 = .ok (.if_icmp .gt 22, 3) := by decide +kernel
theorem dX0_shareAt_99 : decode cX0_shareAt 99 = .ok (.iload 10, 2) := by decide +kernel
theorem dX0_shareAt_101 : decode cX0_shareAt 101 = .ok (.iload 5, 2) := by decide +kernel
theorem dX0_shareAt_103 : decode cX0_shareAt 103 = .ok (.irem, 1) := by decide +kernel
theorem dX0_shareAt_104 : decode cX0_shareAt 104 = .ok (.iload 6, 2) := by decide +kernel
theorem dX0_shareAt_106 : decode cX0_shareAt 106 = .ok (.iload 5, 2) := by decide +kernel
theorem dX0_shareAt_108 : decode cX0_shareAt 108 = .ok (.irem, 1) := by decide +kernel
theorem dX0_shareAt_109 : decode cX0_shareAt 109 = .ok (.if_icmp .ne 12, 3) := by decide +kernel
theorem dX0_shareAt_112 : decode cX0_shareAt 112 = .ok (.iload 9, 2) := by decide +kernel
theorem dX0_shareAt_114 : decode cX0_shareAt 114 = .ok (.iload_n 1, 1) := by decide +kernel
theorem dX0_shareAt_115 : decode cX0_shareAt 115 = .ok (.if_icmp .ge 6, 3) := by decide +kernel
theorem dX0_shareAt_118 : decode cX0_shareAt 118 = .ok (.iinc 8 1, 3) := by decide +kernel
theorem dX0_shareAt_121 : decode cX0_shareAt 121 = .ok (.iinc 9 1, 3) := by decide +kernel
theorem dX0_shareAt_124 : decode cX0_shareAt 124 = .ok (.goto (-70), 3) := by decide +kernel
theorem dX0_shareAt_127 : decode cX0_shareAt 127 = .ok (.iload 6, 2) := by decide +kernel
theorem dX0_shareAt_129 : decode cX0_shareAt 129 = .ok (.iload 5, 2) := by decide +kernel
theorem dX0_shareAt_131 : decode cX0_shareAt 131 = .ok (.idiv, 1) := by decide +kernel
theorem dX0_shareAt_132 : decode cX0_shareAt 132 = .ok (.iload 8, 2) := by decide +kernel
theorem dX0_shareAt_134 : decode cX0_shareAt 134 = .ok (.iload 7, 2) := by decide +kernel
theorem dX0_shareAt_136 : decode cX0_shareAt 136 = .ok (.if_icmp .ge 7, 3) := by decide +kernel
theorem dX0_shareAt_139 : decode cX0_shareAt 139 = .ok (.iconst 1, 1) := by decide +kernel
theorem dX0_shareAt_140 : decode cX0_shareAt 140 = .ok (.goto 4, 3) := by decide +kernel
theorem dX0_shareAt_143 : decode cX0_shareAt 143 = .ok (.iconst 0, 1) := by decide +kernel
theorem dX0_shareAt_144 : decode cX0_shareAt 144 = .ok (.iadd, 1) := by decide +kernel
theorem dX0_shareAt_145 : decode cX0_shareAt 145 = .ok (.ireturn, 1) := by decide +kernel
theorem dX0_areInStep_0 : decode cX0_areInStep 0 = .ok (.iload_n 2, 1) := by decide +kernel
theorem dX0_areInStep_1 : decode cX0_areInStep 1 = .ok (.ifCond .le 15, 3) := by decide +kernel
theorem dX0_areInStep_4 : decode cX0_areInStep 4 = .ok (.iload_n 0, 1) := by decide +kernel
theorem dX0_areInStep_5 : decode cX0_areInStep 5 = .ok (.iload_n 1, 1) := by decide +kernel
theorem dX0_areInStep_6 : decode cX0_areInStep 6 = .ok (.isub, 1) := by decide +kernel
theorem dX0_areInStep_7 : decode cX0_areInStep 7 = .ok (.iload_n 2, 1) := by decide +kernel
theorem dX0_areInStep_8 : decode cX0_areInStep 8 = .ok (.irem, 1) := by decide +kernel
theorem dX0_areInStep_9 : decode cX0_areInStep 9 = .ok (.ifCond .ne 7, 3) := by decide +kernel
theorem dX0_areInStep_12 : decode cX0_areInStep 12 = .ok (.iconst 1, 1) := by decide +kernel
theorem dX0_areInStep_13 : decode cX0_areInStep 13 = .ok (.goto 4, 3) := by decide +kernel
theorem dX0_areInStep_16 : decode cX0_areInStep 16 = .ok (.iconst 0, 1) := by decide +kernel
theorem dX0_areInStep_17 : decode cX0_areInStep 17 = .ok (.ireturn, 1) := by decide +kernel
set_option maxRecDepth 20000 in
theorem ggX0_backgroundAt_X0_areInStep : GoodIn wsX0_backgroundAt wsX0_areInStep := goodIn_r _ [5] (by decide +kernel) (by decide +kernel)
set_option maxRecDepth 20000 in
theorem gX0_backgroundAt_X0_areInStep : GoodIn wsX0_backgroundAt (va_wsS RX0 164 yX0_areInStep wsX0_areInStep) := goodIn_app (goodIn_of _ (by decide +kernel)) ggX0_backgroundAt_X0_areInStep
set_option maxRecDepth 20000 in
theorem ggX0_backgroundAt_X0_howManyAhead : GoodIn wsX0_backgroundAt wsX0_howManyAhead := goodIn_r _ [9, 1, 10, 11, 12, 4, 13, 14, 15, 16, 17, 2, 3, 5, 18, 19, 20, 21, 22, 23, 24, 25, 26, 27, 28, 29] (by decide +kernel) (by decide +kernel)
set_option maxRecDepth 20000 in
theorem gX0_backgroundAt_X0_howManyAhead : GoodIn wsX0_backgroundAt (wsV RX0 167 RX0 yX0_howManyAhead wsX0_howManyAhead) := goodIn_app (goodIn_of _ (by decide +kernel)) ggX0_backgroundAt_X0_howManyAhead
set_option maxRecDepth 20000 in
theorem ggX0_backgroundAt_X0_boardAt : GoodIn wsX0_backgroundAt wsX0_boardAt := goodIn_r _ [13, 14, 15, 16, 4, 17, 18, 19, 20, 21, 22, 23, 24, 25, 26, 27, 28, 29] (by decide +kernel) (by decide +kernel)
set_option maxRecDepth 20000 in
theorem gX0_backgroundAt_X0_boardAt : GoodIn wsX0_backgroundAt (wsV RX0 41 RX0 yX0_boardAt wsX0_boardAt) := goodIn_app (goodIn_of _ (by decide +kernel)) ggX0_backgroundAt_X0_boardAt
theorem dX0_backgroundAt_0 : decode cX0_backgroundAt 0 = .ok (.iconst 0, 1) := by decide +kernel
theorem dX0_backgroundAt_1 : decode cX0_backgroundAt 1 = .ok (.istore 4, 2) := by decide +kernel
theorem dX0_backgroundAt_3 : decode cX0_backgroundAt 3 = .ok (.iconst 0, 1) := by decide +kernel
theorem dX0_backgroundAt_4 : decode cX0_backgroundAt 4 = .ok (.istore 5, 2) := by decide +kernel
theorem dX0_backgroundAt_6 : decode cX0_backgroundAt 6 = .ok (.iload 5, 2) := by decide +kernel
theorem dX0_backgroundAt_8 : decode cX0_backgroundAt 8 = .ok (.aload_n 0, 1) := by decide +kernel
theorem dX0_backgroundAt_9 : decode cX0_backgroundAt 9 = .ok (.getfield 107, 3) := by decide +kernel
theorem dX0_backgroundAt_12 : decode cX0_backgroundAt 12 = .ok (.if_icmp .ge 22, 3) := by decide +kernel
theorem dX0_backgroundAt_15 : decode cX0_backgroundAt 15 = .ok (.iload_n 3, 1) := by decide +kernel
theorem dX0_backgroundAt_16 : decode cX0_backgroundAt 16 = .ok (.iload 5, 2) := by decide +kernel
theorem dX0_backgroundAt_18 : decode cX0_backgroundAt 18 = .ok (.iload_n 1, 1) := by decide +kernel
theorem dX0_backgroundAt_19 : decode cX0_backgroundAt 19 = .ok (.invokestatic 164, 3) := by decide +kernel
theorem dX0_backgroundAt_22 : decode cX0_backgroundAt 22 = .ok (.ifCond .eq 6, 3) := by decide +kernel
theorem dX0_backgroundAt_25 : decode cX0_backgroundAt 25 = .ok (.iinc 4 1, 3) := by decide +kernel
theorem dX0_backgroundAt_28 : decode cX0_backgroundAt 28 = .ok (.iinc 5 1, 3) := by decide +kernel
theorem dX0_backgroundAt_31 : decode cX0_backgroundAt 31 = .ok (.goto (-25), 3) := by decide +kernel
theorem dX0_backgroundAt_34 : decode cX0_backgroundAt 34 = .ok (.iload 4, 2) := by decide +kernel
theorem dX0_backgroundAt_36 : decode cX0_backgroundAt 36 = .ok (.iconst 1, 1) := by decide +kernel
theorem dX0_backgroundAt_37 : decode cX0_backgroundAt 37 = .ok (.isub, 1) := by decide +kernel
theorem dX0_backgroundAt_38 : decode cX0_backgroundAt 38 = .ok (.iconst 2, 1) := by decide +kernel
theorem dX0_backgroundAt_39 : decode cX0_backgroundAt 39 = .ok (.idiv, 1) := by decide +kernel
theorem dX0_backgroundAt_40 : decode cX0_backgroundAt 40 = .ok (.istore 5, 2) := by decide +kernel
theorem dX0_backgroundAt_42 : decode cX0_backgroundAt 42 = .ok (.iconst 0, 1) := by decide +kernel
theorem dX0_backgroundAt_43 : decode cX0_backgroundAt 43 = .ok (.istore 6, 2) := by decide +kernel
theorem dX0_backgroundAt_45 : decode cX0_backgroundAt 45 = .ok (.iload 6, 2) := by decide +kernel
theorem dX0_backgroundAt_47 : decode cX0_backgroundAt 47 = .ok (.aload_n 0, 1) := by decide +kernel
theorem dX0_backgroundAt_48 : decode cX0_backgroundAt 48 = .ok (.getfield 107, 3) := by decide +kernel
theorem dX0_backgroundAt_51 : decode cX0_backgroundAt 51 = .ok (.if_icmp .ge 40, 3) := by decide +kernel
theorem dX0_backgroundAt_54 : decode cX0_backgroundAt 54 = .ok (.iload_n 3, 1) := by decide +kernel
theorem dX0_backgroundAt_55 : decode cX0_backgroundAt 55 = .ok (.iload 6, 2) := by decide +kernel
theorem dX0_backgroundAt_57 : decode cX0_backgroundAt 57 = .ok (.iload_n 1, 1) := by decide +kernel
theorem dX0_backgroundAt_58 : decode cX0_backgroundAt 58 = .ok (.invokestatic 164, 3) := by decide +kernel
theorem dX0_backgroundAt_61 : decode cX0_backgroundAt 61 = .ok (.ifCond .eq 24, 3) := by decide +kernel
theorem dX0_backgroundAt_64 : decode cX0_backgroundAt 64 = .ok (.aload_n 0, 1) := by decide +kernel
theorem dX0_backgroundAt_65 : decode cX0_backgroundAt 65 = .ok (.iload_n 1, 1) := by decide +kernel
theorem dX0_backgroundAt_66 : decode cX0_backgroundAt 66 = .ok (.iload_n 2, 1) := by decide +kernel
theorem dX0_backgroundAt_67 : decode cX0_backgroundAt 67 = .ok (.iload 6, 2) := by decide +kernel
theorem dX0_backgroundAt_69 : decode cX0_backgroundAt 69 = .ok (.invokevirtual 167, 3) := by decide +kernel
theorem dX0_backgroundAt_72 : decode cX0_backgroundAt 72 = .ok (.iload 5, 2) := by decide +kernel
theorem dX0_backgroundAt_74 : decode cX0_backgroundAt 74 = .ok (.if_icmp .ne 11, 3) := by decide +kernel
theorem dX0_backgroundAt_77 : decode cX0_backgroundAt 77 = .ok (.aload_n 0, 1) := by decide +kernel
theorem dX0_backgroundAt_78 : decode cX0_backgroundAt 78 = .ok (.iload_n 2, 1) := by decide +kernel
theorem dX0_backgroundAt_79 : decode cX0_backgroundAt 79 = .ok (.iload 6, 2) := by decide +kernel
theorem dX0_backgroundAt_81 : decode cX0_backgroundAt 81 = .ok (.invokevirtual 41, 3) := by decide +kernel
theorem dX0_backgroundAt_84 : decode cX0_backgroundAt 84 = .ok (.ireturn, 1) := by decide +kernel
theorem dX0_backgroundAt_85 : decode cX0_backgroundAt 85 = .ok (.iinc 6 1, 3) := by decide +kernel
theorem dX0_backgroundAt_88 : decode cX0_backgroundAt 88 = .ok (.goto (-43), 3) := by decide +kernel
theorem dX0_backgroundAt_91 : decode cX0_backgroundAt 91 = .ok (.aload_n 0, 1) := by decide +kernel
theorem dX0_backgroundAt_92 : decode cX0_backgroundAt 92 = .ok (.iload_n 2, 1) := by decide +kernel
theorem dX0_backgroundAt_93 : decode cX0_backgroundAt 93 = .ok (.iload_n 3, 1) := by decide +kernel
theorem dX0_backgroundAt_94 : decode cX0_backgroundAt 94 = .ok (.invokevirtual 41, 3) := by decide +kernel
theorem dX0_backgroundAt_97 : decode cX0_backgroundAt 97 = .ok (.ireturn, 1) := by decide +kernel
set_option maxRecDepth 20000 in
theorem ggX0_howManyAhead_X0_boardAt : GoodIn wsX0_howManyAhead wsX0_boardAt := goodIn_r _ [6, 7, 8, 9, 5, 10, 14, 15, 16, 17, 18, 19, 20, 21, 22, 23, 24, 25] (by decide +kernel) (by decide +kernel)
set_option maxRecDepth 20000 in
theorem gX0_howManyAhead_X0_boardAt : GoodIn wsX0_howManyAhead (wsV RX0 41 RX0 yX0_boardAt wsX0_boardAt) := goodIn_app (goodIn_of _ (by decide +kernel)) ggX0_howManyAhead_X0_boardAt
set_option maxRecDepth 20000 in
theorem ggX0_howManyAhead_X0_areInStep : GoodIn wsX0_howManyAhead wsX0_areInStep := goodIn_r _ [13] (by decide +kernel) (by decide +kernel)
set_option maxRecDepth 20000 in
theorem gX0_howManyAhead_X0_areInStep : GoodIn wsX0_howManyAhead (va_wsS RX0 164 yX0_areInStep wsX0_areInStep) := goodIn_app (goodIn_of _ (by decide +kernel)) ggX0_howManyAhead_X0_areInStep
theorem dX0_howManyAhead_0 : decode cX0_howManyAhead 0 = .ok (.aload_n 0, 1) := by decide +kernel
theorem dX0_howManyAhead_1 : decode cX0_howManyAhead 1 = .ok (.iload_n 2, 1) := by decide +kernel
theorem dX0_howManyAhead_2 : decode cX0_howManyAhead 2 = .ok (.iload_n 3, 1) := by decide +kernel
theorem dX0_howManyAhead_3 : decode cX0_howManyAhead 3 = .ok (.invokevirtual 41, 3) := by decide +kernel
theorem dX0_howManyAhead_6 : decode cX0_howManyAhead 6 = .ok (.istore 4, 2) := by decide +kernel
theorem dX0_howManyAhead_8 : decode cX0_howManyAhead 8 = .ok (.iconst 0, 1) := by decide +kernel
theorem dX0_howManyAhead_9 : decode cX0_howManyAhead 9 = .ok (.istore 5, 2) := by decide +kernel
theorem dX0_howManyAhead_11 : decode cX0_howManyAhead 11 = .ok (.iconst 0, 1) := by decide +kernel
theorem dX0_howManyAhead_12 : decode cX0_howManyAhead 12 = .ok (.istore 6, 2) := by decide +kernel
theorem dX0_howManyAhead_14 : decode cX0_howManyAhead 14 = .ok (.iload 6, 2) := by decide +kernel
theorem dX0_howManyAhead_16 : decode cX0_howManyAhead 16 = .ok (.aload_n 0, 1) := by decide +kernel
theorem dX0_howManyAhead_17 : decode cX0_howManyAhead 17 = .ok (.getfield 107, 3) := by decide +kernel
theorem dX0_howManyAhead_20 : decode cX0_howManyAhead 20 = .ok (.if_icmp .ge 51, 3) := by decide +kernel
theorem dX0_howManyAhead_23 : decode cX0_howManyAhead 23 = .ok (.aload_n 0, 1) := by decide +kernel
theorem dX0_howManyAhead_24 : decode cX0_howManyAhead 24 = .ok (.iload_n 2, 1) := by decide +kernel
theorem dX0_howManyAhead_25 : decode cX0_howManyAhead 25 = .ok (.iload 6, 2) := by decide +kernel
theorem dX0_howManyAhead_27 : decode cX0_howManyAhead 27 = .ok (.invokevirtual 41, 3) := by decide +kernel
theorem dX0_howManyAhead_30 : decode cX0_howManyAhead 30 = .ok (.istore 7, 2) := by decide +kernel
theorem dX0_howManyAhead_32 : decode cX0_howManyAhead 32 = .ok (.iload_n 3, 1) := by decide +kernel
theorem dX0_howManyAhead_33 : decode cX0_howManyAhead 33 = .ok (.iload 6, 2) := by decide +kernel
theorem dX0_howManyAhead_35 : decode cX0_howManyAhead 35 = .ok (.iload_n 1, 1) := by decide +kernel
theorem dX0_howManyAhead_36 : decode cX0_howManyAhead 36 = .ok (.invokestatic 164, 3) := by decide +kernel
theorem dX0_howManyAhead_39 : decode cX0_howManyAhead 39 = .ok (.ifCond .eq 26, 3) := by decide +kernel
theorem dX0_howManyAhead_42 : decode cX0_howManyAhead 42 = .ok (.iload 7, 2) := by decide +kernel
theorem dX0_howManyAhead_44 : decode cX0_howManyAhead 44 = .ok (.iload 4, 2) := by decide +kernel
theorem dX0_howManyAhead_46 : decode cX0_howManyAhead 46 = .ok (.if_icmp .lt 16, 3) := by decide +kernel
theorem dX0_howManyAhead_49 : decode cX0_howManyAhead 49 = .ok (.iload 7, 2) := by decide +kernel
theorem dX0_howManyAhead_51 : decode cX0_howManyAhead 51 = .ok (.iload 4, 2) := by decide +kernel
theorem dX0_howManyAhead_53 : decode cX0_howManyAhead 53 = .ok (.if_icmp .ne 12, 3) := by decide +kernel
theorem dX0_howManyAhead_56 : decode cX0_howManyAhead 56 = .ok (.iload 6, 2) := by decide +kernel
theorem dX0_howManyAhead_58 : decode cX0_howManyAhead 58 = .ok (.iload_n 3, 1) := by decide +kernel
theorem dX0_howManyAhead_59 : decode cX0_howManyAhead 59 = .ok (.if_icmp .ge 6, 3) := by decide +kernel
theorem dX0_howManyAhead_62 : decode cX0_howManyAhead 62 = .ok (.iinc 5 1, 3) := by decide +kernel
theorem dX0_howManyAhead_65 : decode cX0_howManyAhead 65 = .ok (.iinc 6 1, 3) := by decide +kernel
theorem dX0_howManyAhead_68 : decode cX0_howManyAhead 68 = .ok (.goto (-54), 3) := by decide +kernel
theorem dX0_howManyAhead_71 : decode cX0_howManyAhead 71 = .ok (.iload 5, 2) := by decide +kernel
theorem dX0_howManyAhead_73 : decode cX0_howManyAhead 73 = .ok (.ireturn, 1) := by decide +kernel
set_option maxRecDepth 20000 in
theorem ggX0_priceOfPeriod_X0_boardAt : GoodIn wsX0_priceOfPeriod wsX0_boardAt := goodIn_r _ [11, 12, 13, 14, 10, 15, 27, 28, 29, 30, 31, 32, 33, 34, 35, 36, 37, 38] (by decide +kernel) (by decide +kernel)
set_option maxRecDepth 20000 in
theorem gX0_priceOfPeriod_X0_boardAt : GoodIn wsX0_priceOfPeriod (wsV RX0 41 RX0 yX0_boardAt wsX0_boardAt) := goodIn_app (goodIn_of _ (by decide +kernel)) ggX0_priceOfPeriod_X0_boardAt
set_option maxRecDepth 20000 in
theorem ggX0_priceOfPeriod_X0_backgroundAt : GoodIn wsX0_priceOfPeriod wsX0_backgroundAt := goodIn_r _ [19, 2, 20, 21, 10, 22, 23, 24, 25, 26, 7, 8, 9, 11, 12, 13, 14, 15, 27, 28, 29, 30, 31, 32, 33, 34, 35, 36, 37, 38] (by decide +kernel) (by decide +kernel)
set_option maxRecDepth 20000 in
theorem gX0_priceOfPeriod_X0_backgroundAt : GoodIn wsX0_priceOfPeriod (wsV RX0 55 RX0 yX0_backgroundAt wsX0_backgroundAt) := goodIn_app (goodIn_of _ (by decide +kernel)) ggX0_priceOfPeriod_X0_backgroundAt
theorem dX0_priceOfPeriod_0 : decode cX0_priceOfPeriod 0 = .ok (.iload_n 1, 1) := by decide +kernel
theorem dX0_priceOfPeriod_1 : decode cX0_priceOfPeriod 1 = .ok (.aload_n 0, 1) := by decide +kernel
theorem dX0_priceOfPeriod_2 : decode cX0_priceOfPeriod 2 = .ok (.getfield 86, 3) := by decide +kernel
theorem dX0_priceOfPeriod_5 : decode cX0_priceOfPeriod 5 = .ok (.imul, 1) := by decide +kernel
theorem dX0_priceOfPeriod_6 : decode cX0_priceOfPeriod 6 = .ok (.istore_n 2, 1) := by decide +kernel
theorem dX0_priceOfPeriod_7 : decode cX0_priceOfPeriod 7 = .ok (.iconst 0, 1) := by decide +kernel
theorem dX0_priceOfPeriod_8 : decode cX0_priceOfPeriod 8 = .ok (.istore_n 3, 1) := by decide +kernel
theorem dX0_priceOfPeriod_9 : decode cX0_priceOfPeriod 9 = .ok (.iload_n 3, 1) := by decide +kernel
theorem dX0_priceOfPeriod_10 : decode cX0_priceOfPeriod 10 = .ok (.aload_n 0, 1) := by decide +kernel
theorem dX0_priceOfPeriod_11 : decode cX0_priceOfPeriod 11 = .ok (.getfield 86, 3) := by decide +kernel
theorem dX0_priceOfPeriod_14 : decode cX0_priceOfPeriod 14 = .ok (.if_icmp .ge 49, 3) := by decide +kernel
theorem dX0_priceOfPeriod_17 : decode cX0_priceOfPeriod 17 = .ok (.iconst 0, 1) := by decide +kernel
theorem dX0_priceOfPeriod_18 : decode cX0_priceOfPeriod 18 = .ok (.istore 4, 2) := by decide +kernel
theorem dX0_priceOfPeriod_20 : decode cX0_priceOfPeriod 20 = .ok (.iload 4, 2) := by decide +kernel
theorem dX0_priceOfPeriod_22 : decode cX0_priceOfPeriod 22 = .ok (.aload_n 0, 1) := by decide +kernel
theorem dX0_priceOfPeriod_23 : decode cX0_priceOfPeriod 23 = .ok (.getfield 107, 3) := by decide +kernel
theorem dX0_priceOfPeriod_26 : decode cX0_priceOfPeriod 26 = .ok (.if_icmp .ge 31, 3) := by decide +kernel
theorem dX0_priceOfPeriod_29 : decode cX0_priceOfPeriod 29 = .ok (.iload_n 2, 1) := by decide +kernel
theorem dX0_priceOfPeriod_30 : decode cX0_priceOfPeriod 30 = .ok (.aload_n 0, 1) := by decide +kernel
theorem dX0_priceOfPeriod_31 : decode cX0_priceOfPeriod 31 = .ok (.iload_n 3, 1) := by decide +kernel
theorem dX0_priceOfPeriod_32 : decode cX0_priceOfPeriod 32 = .ok (.iload 4, 2) := by decide +kernel
theorem dX0_priceOfPeriod_34 : decode cX0_priceOfPeriod 34 = .ok (.invokevirtual 41, 3) := by decide +kernel
theorem dX0_priceOfPeriod_37 : decode cX0_priceOfPeriod 37 = .ok (.aload_n 0, 1) := by decide +kernel
theorem dX0_priceOfPeriod_38 : decode cX0_priceOfPeriod 38 = .ok (.iload_n 1, 1) := by decide +kernel
theorem dX0_priceOfPeriod_39 : decode cX0_priceOfPeriod 39 = .ok (.iload_n 3, 1) := by decide +kernel
theorem dX0_priceOfPeriod_40 : decode cX0_priceOfPeriod 40 = .ok (.iload 4, 2) := by decide +kernel
theorem dX0_priceOfPeriod_42 : decode cX0_priceOfPeriod 42 = .ok (.invokevirtual 55, 3) := by decide +kernel
theorem dX0_priceOfPeriod_45 : decode cX0_priceOfPeriod 45 = .ok (.isub, 1) := by decide +kernel
theorem dX0_priceOfPeriod_46 : decode cX0_priceOfPeriod 46 = .ok (.invokestatic 116, 3) := by decide +kernel
theorem dX0_priceOfPeriod_49 : decode cX0_priceOfPeriod 49 = .ok (.iadd, 1) := by decide +kernel
theorem dX0_priceOfPeriod_50 : decode cX0_priceOfPeriod 50 = .ok (.istore_n 2, 1) := by decide +kernel
theorem dX0_priceOfPeriod_51 : decode cX0_priceOfPeriod 51 = .ok (.iinc 4 1, 3) := by decide +kernel
theorem dX0_priceOfPeriod_54 : decode cX0_priceOfPeriod 54 = .ok (.goto (-34), 3) := by decide +kernel
theorem dX0_priceOfPeriod_57 : decode cX0_priceOfPeriod 57 = .ok (.iinc 3 1, 3) := by decide +kernel
theorem dX0_priceOfPeriod_60 : decode cX0_priceOfPeriod 60 = .ok (.goto (-51), 3) := by decide +kernel
theorem dX0_priceOfPeriod_63 : decode cX0_priceOfPeriod 63 = .ok (.iload_n 2, 1) := by decide +kernel
theorem dX0_priceOfPeriod_64 : decode cX0_priceOfPeriod 64 = .ok (.ireturn, 1) := by decide +kernel
set_option maxRecDepth 20000 in
theorem ggX0_bestPeriod_X0_priceOfPeriod : GoodIn wsX0_bestPeriod wsX0_priceOfPeriod := goodIn_r _ [6, 7, 1, 8, 9, 10, 11, 12, 13, 14, 5, 15, 16, 17, 18, 19, 20, 21, 22, 23, 24, 25, 26, 27, 28, 29, 30, 31, 32, 33, 34, 35, 36, 37, 38, 39, 40, 41, 42] (by decide +kernel) (by decide +kernel)
set_option maxRecDepth 20000 in
theorem gX0_bestPeriod_X0_priceOfPeriod : GoodIn wsX0_bestPeriod (wsV RX0 170 RX0 yX0_priceOfPeriod wsX0_priceOfPeriod) := goodIn_app (goodIn_of _ (by decide +kernel)) ggX0_bestPeriod_X0_priceOfPeriod
theorem dX0_bestPeriod_0 : decode cX0_bestPeriod 0 = .ok (.iconst 1, 1) := by decide +kernel
theorem dX0_bestPeriod_1 : decode cX0_bestPeriod 1 = .ok (.istore_n 1, 1) := by decide +kernel
theorem dX0_bestPeriod_2 : decode cX0_bestPeriod 2 = .ok (.aload_n 0, 1) := by decide +kernel
theorem dX0_bestPeriod_3 : decode cX0_bestPeriod 3 = .ok (.iconst 1, 1) := by decide +kernel
theorem dX0_bestPeriod_4 : decode cX0_bestPeriod 4 = .ok (.invokevirtual 170, 3) := by decide +kernel
theorem dX0_bestPeriod_7 : decode cX0_bestPeriod 7 = .ok (.istore_n 2, 1) := by decide +kernel
theorem dX0_bestPeriod_8 : decode cX0_bestPeriod 8 = .ok (.iconst 2, 1) := by decide +kernel
theorem dX0_bestPeriod_9 : decode cX0_bestPeriod 9 = .ok (.istore_n 3, 1) := by decide +kernel
theorem dX0_bestPeriod_10 : decode cX0_bestPeriod 10 = .ok (.iload_n 3, 1) := by decide +kernel
theorem dX0_bestPeriod_11 : decode cX0_bestPeriod 11 = .ok (.aload_n 0, 1) := by decide +kernel
theorem dX0_bestPeriod_12 : decode cX0_bestPeriod 12 = .ok (.getfield 107, 3) := by decide +kernel
theorem dX0_bestPeriod_15 : decode cX0_bestPeriod 15 = .ok (.if_icmp .gt 27, 3) := by decide +kernel
theorem dX0_bestPeriod_18 : decode cX0_bestPeriod 18 = .ok (.aload_n 0, 1) := by decide +kernel
theorem dX0_bestPeriod_19 : decode cX0_bestPeriod 19 = .ok (.iload_n 3, 1) := by decide +kernel
theorem dX0_bestPeriod_20 : decode cX0_bestPeriod 20 = .ok (.invokevirtual 170, 3) := by decide +kernel
theorem dX0_bestPeriod_23 : decode cX0_bestPeriod 23 = .ok (.istore 4, 2) := by decide +kernel
theorem dX0_bestPeriod_25 : decode cX0_bestPeriod 25 = .ok (.iload 4, 2) := by decide +kernel
theorem dX0_bestPeriod_27 : decode cX0_bestPeriod 27 = .ok (.iload_n 2, 1) := by decide +kernel
theorem dX0_bestPeriod_28 : decode cX0_bestPeriod 28 = .ok (.if_icmp .ge 8, 3) := by decide +kernel
theorem dX0_bestPeriod_31 : decode cX0_bestPeriod 31 = .ok (.iload 4, 2) := by decide +kernel
theorem dX0_bestPeriod_33 : decode cX0_bestPeriod 33 = .ok (.istore_n 2, 1) := by decide +kernel
theorem dX0_bestPeriod_34 : decode cX0_bestPeriod 34 = .ok (.iload_n 3, 1) := by decide +kernel
theorem dX0_bestPeriod_35 : decode cX0_bestPeriod 35 = .ok (.istore_n 1, 1) := by decide +kernel
theorem dX0_bestPeriod_36 : decode cX0_bestPeriod 36 = .ok (.iinc 3 1, 3) := by decide +kernel
theorem dX0_bestPeriod_39 : decode cX0_bestPeriod 39 = .ok (.goto (-29), 3) := by decide +kernel
theorem dX0_bestPeriod_42 : decode cX0_bestPeriod 42 = .ok (.iload_n 1, 1) := by decide +kernel
theorem dX0_bestPeriod_43 : decode cX0_bestPeriod 43 = .ok (.ireturn, 1) := by decide +kernel
theorem dX0_filledRowAt_0 : decode cX0_filledRowAt 0 = .ok (.iload_n 1, 1) := by decide +kernel
theorem dX0_filledRowAt_1 : decode cX0_filledRowAt 1 = .ok (.aload_n 0, 1) := by decide +kernel
theorem dX0_filledRowAt_2 : decode cX0_filledRowAt 2 = .ok (.getfield 22, 3) := by decide +kernel
theorem dX0_filledRowAt_5 : decode cX0_filledRowAt 5 = .ok (.iconst 0, 1) := by decide +kernel
theorem dX0_filledRowAt_6 : decode cX0_filledRowAt 6 = .ok (.iaload, 1) := by decide +kernel
theorem dX0_filledRowAt_7 : decode cX0_filledRowAt 7 = .ok (.if_icmp .ge 12, 3) := by decide +kernel
theorem dX0_filledRowAt_10 : decode cX0_filledRowAt 10 = .ok (.aload_n 0, 1) := by decide +kernel
theorem dX0_filledRowAt_11 : decode cX0_filledRowAt 11 = .ok (.getfield 19, 3) := by decide +kernel
theorem dX0_filledRowAt_14 : decode cX0_filledRowAt 14 = .ok (.iload_n 1, 1) := by decide +kernel
theorem dX0_filledRowAt_15 : decode cX0_filledRowAt 15 = .ok (.iaload, 1) := by decide +kernel
theorem dX0_filledRowAt_16 : decode cX0_filledRowAt 16 = .ok (.goto 4, 3) := by decide +kernel
theorem dX0_filledRowAt_19 : decode cX0_filledRowAt 19 = .ok (.iconst 0, 1) := by decide +kernel
theorem dX0_filledRowAt_20 : decode cX0_filledRowAt 20 = .ok (.ireturn, 1) := by decide +kernel
set_option maxRecDepth 20000 in
theorem ggX0_productsAt_X0_within : GoodIn wsX0_productsAt wsX0_within := goodIn_r _ [6] (by decide +kernel) (by decide +kernel)
set_option maxRecDepth 20000 in
theorem gX0_productsAt_X0_within : GoodIn wsX0_productsAt (va_wsS RX0 33 yX0_within wsX0_within) := goodIn_app (goodIn_of _ (by decide +kernel)) ggX0_productsAt_X0_within
theorem dX0_productsAt_0 : decode cX0_productsAt 0 = .ok (.iconst 0, 1) := by decide +kernel
theorem dX0_productsAt_1 : decode cX0_productsAt 1 = .ok (.istore_n 2, 1) := by decide +kernel
theorem dX0_productsAt_2 : decode cX0_productsAt 2 = .ok (.iconst 0, 1) := by decide +kernel
theorem dX0_productsAt_3 : decode cX0_productsAt 3 = .ok (.istore_n 3, 1) := by decide +kernel
theorem dX0_productsAt_4 : decode cX0_productsAt 4 = .ok (.iload_n 3, 1) := by decide +kernel
theorem dX0_productsAt_5 : decode cX0_productsAt 5 = .ok (.aload_n 0, 1) := by decide +kernel
theorem dX0_productsAt_6 : decode cX0_productsAt 6 = .ok (.getfield 22, 3) := by decide +kernel
theorem dX0_productsAt_9 : decode cX0_productsAt 9 = .ok (.iconst 0, 1) := by decide +kernel
theorem dX0_productsAt_10 : decode cX0_productsAt 10 = .ok (.iaload, 1) := by decide +kernel
theorem dX0_productsAt_11 : decode cX0_productsAt 11 = .ok (.if_icmp .ge 51, 3) := by decide +kernel
theorem dX0_productsAt_14 : decode cX0_productsAt 14 = .ok (.iload_n 3, 1) := by decide +kernel
theorem dX0_productsAt_15 : decode cX0_productsAt 15 = .ok (.iload_n 1, 1) := by decide +kernel
theorem dX0_productsAt_16 : decode cX0_productsAt 16 = .ok (.iadd, 1) := by decide +kernel
theorem dX0_productsAt_17 : decode cX0_productsAt 17 = .ok (.istore 4, 2) := by decide +kernel
theorem dX0_productsAt_19 : decode cX0_productsAt 19 = .ok (.iload 4, 2) := by decide +kernel
theorem dX0_productsAt_21 : decode cX0_productsAt 21 = .ok (.iconst 0, 1) := by decide +kernel
theorem dX0_productsAt_22 : decode cX0_productsAt 22 = .ok (.aload_n 0, 1) := by decide +kernel
theorem dX0_productsAt_23 : decode cX0_productsAt 23 = .ok (.getfield 22, 3) := by decide +kernel
theorem dX0_productsAt_26 : decode cX0_productsAt 26 = .ok (.iconst 1, 1) := by decide +kernel
theorem dX0_productsAt_27 : decode cX0_productsAt 27 = .ok (.iaload, 1) := by decide +kernel
theorem dX0_productsAt_28 : decode cX0_productsAt 28 = .ok (.iconst 1, 1) := by decide +kernel
theorem dX0_productsAt_29 : decode cX0_productsAt 29 = .ok (.isub, 1) := by decide +kernel
theorem dX0_productsAt_30 : decode cX0_productsAt 30 = .ok (.invokestatic 33, 3) := by decide +kernel
theorem dX0_productsAt_33 : decode cX0_productsAt 33 = .ok (.ifCond .eq 23, 3) := by decide +kernel
theorem dX0_productsAt_36 : decode cX0_productsAt 36 = .ok (.iload_n 2, 1) := by decide +kernel
theorem dX0_productsAt_37 : decode cX0_productsAt 37 = .ok (.aload_n 0, 1) := by decide +kernel
theorem dX0_productsAt_38 : decode cX0_productsAt 38 = .ok (.getfield 19, 3) := by decide +kernel
theorem dX0_productsAt_41 : decode cX0_productsAt 41 = .ok (.iload_n 3, 1) := by decide +kernel
theorem dX0_productsAt_42 : decode cX0_productsAt 42 = .ok (.iaload, 1) := by decide +kernel
theorem dX0_productsAt_43 : decode cX0_productsAt 43 = .ok (.aload_n 0, 1) := by decide +kernel
theorem dX0_productsAt_44 : decode cX0_productsAt 44 = .ok (.getfield 19, 3) := by decide +kernel
theorem dX0_productsAt_47 : decode cX0_productsAt 47 = .ok (.bipush 8, 2) := by decide +kernel
theorem dX0_productsAt_49 : decode cX0_productsAt 49 = .ok (.iload 4, 2) := by decide +kernel
theorem dX0_productsAt_51 : decode cX0_productsAt 51 = .ok (.iadd, 1) := by decide +kernel
theorem dX0_productsAt_52 : decode cX0_productsAt 52 = .ok (.iaload, 1) := by decide +kernel
theorem dX0_productsAt_53 : decode cX0_productsAt 53 = .ok (.imul, 1) := by decide +kernel
theorem dX0_productsAt_54 : decode cX0_productsAt 54 = .ok (.iadd, 1) := by decide +kernel
theorem dX0_productsAt_55 : decode cX0_productsAt 55 = .ok (.istore_n 2, 1) := by decide +kernel
theorem dX0_productsAt_56 : decode cX0_productsAt 56 = .ok (.iinc 3 1, 3) := by decide +kernel
theorem dX0_productsAt_59 : decode cX0_productsAt 59 = .ok (.goto (-55), 3) := by decide +kernel
theorem dX0_productsAt_62 : decode cX0_productsAt 62 = .ok (.iload_n 2, 1) := by decide +kernel
theorem dX0_productsAt_63 : decode cX0_productsAt 63 = .ok (.ireturn, 1) := by decide +kernel
set_option maxRecDepth 20000 in
theorem ggX0_sign_J6_bitCount_0f7a4 : GoodIn wsX0_sign wsJ6_bitCount_0f7a4 := goodIn_r _ [4, 5, 6, 7] (by decide +kernel) (by decide +kernel)
set_option maxRecDepth 20000 in
theorem gX0_sign_J6_bitCount_0f7a4 : GoodIn wsX0_sign (va_wsS RX0 173 yJ6_bitCount_0f7a4 wsJ6_bitCount_0f7a4) := goodIn_app (goodIn_of _ (by decide +kernel)) ggX0_sign_J6_bitCount_0f7a4
theorem dX0_sign_0 : decode cX0_sign 0 = .ok (.iload_n 0, 1) := by decide +kernel
theorem dX0_sign_1 : decode cX0_sign 1 = .ok (.iload_n 1, 1) := by decide +kernel
theorem dX0_sign_2 : decode cX0_sign 2 = .ok (.iand, 1) := by decide +kernel
theorem dX0_sign_3 : decode cX0_sign 3 = .ok (.invokestatic 173, 3) := by decide +kernel
theorem dX0_sign_6 : decode cX0_sign 6 = .ok (.iconst 2, 1) := by decide +kernel
theorem dX0_sign_7 : decode cX0_sign 7 = .ok (.irem, 1) := by decide +kernel
theorem dX0_sign_8 : decode cX0_sign 8 = .ok (.ifCond .ne 7, 3) := by decide +kernel
theorem dX0_sign_11 : decode cX0_sign 11 = .ok (.iconst 1, 1) := by decide +kernel
theorem dX0_sign_12 : decode cX0_sign 12 = .ok (.goto 4, 3) := by decide +kernel
theorem dX0_sign_15 : decode cX0_sign 15 = .ok (.iconst (-1), 1) := by decide +kernel
theorem dX0_sign_16 : decode cX0_sign 16 = .ok (.ireturn, 1) := by decide +kernel
set_option maxRecDepth 20000 in
theorem ggX0_turnedAt_X0_sign : GoodIn wsX0_turnedAt wsX0_sign := goodIn_r _ [4, 5, 6, 7, 8, 9, 10, 11] (by decide +kernel) (by decide +kernel)
set_option maxRecDepth 20000 in
theorem gX0_turnedAt_X0_sign : GoodIn wsX0_turnedAt (va_wsS RX0 177 yX0_sign wsX0_sign) := goodIn_app (goodIn_of _ (by decide +kernel)) ggX0_turnedAt_X0_sign
set_option maxRecDepth 20000 in
theorem ggX0_turnedAt_X0_filledRowAt : GoodIn wsX0_turnedAt wsX0_filledRowAt := goodIn_r _ [15, 16, 17, 18, 19, 20, 21, 22, 23, 24, 25, 26, 27, 28, 29] (by decide +kernel) (by decide +kernel)
set_option maxRecDepth 20000 in
theorem gX0_turnedAt_X0_filledRowAt : GoodIn wsX0_turnedAt (wsV RX0 180 RX0 yX0_filledRowAt wsX0_filledRowAt) := goodIn_app (goodIn_of _ (by decide +kernel)) ggX0_turnedAt_X0_filledRowAt
theorem dX0_turnedAt_0 : decode cX0_turnedAt 0 = .ok (.iconst 0, 1) := by decide +kernel
theorem dX0_turnedAt_1 : decode cX0_turnedAt 1 = .ok (.istore_n 2, 1) := by decide +kernel
theorem dX0_turnedAt_2 : decode cX0_turnedAt 2 = .ok (.iconst 0, 1) := by decide +kernel
theorem dX0_turnedAt_3 : decode cX0_turnedAt 3 = .ok (.istore_n 3, 1) := by decide +kernel
theorem dX0_turnedAt_4 : decode cX0_turnedAt 4 = .ok (.iload_n 3, 1) := by decide +kernel
theorem dX0_turnedAt_5 : decode cX0_turnedAt 5 = .ok (.bipush 8, 2) := by decide +kernel
theorem dX0_turnedAt_7 : decode cX0_turnedAt 7 = .ok (.if_icmp .ge 23, 3) := by decide +kernel
theorem dX0_turnedAt_10 : decode cX0_turnedAt 10 = .ok (.iload_n 2, 1) := by decide +kernel
theorem dX0_turnedAt_11 : decode cX0_turnedAt 11 = .ok (.iload_n 1, 1) := by decide +kernel
theorem dX0_turnedAt_12 : decode cX0_turnedAt 12 = .ok (.iload_n 3, 1) := by decide +kernel
theorem dX0_turnedAt_13 : decode cX0_turnedAt 13 = .ok (.invokestatic 177, 3) := by decide +kernel
theorem dX0_turnedAt_16 : decode cX0_turnedAt 16 = .ok (.aload_n 0, 1) := by decide +kernel
theorem dX0_turnedAt_17 : decode cX0_turnedAt 17 = .ok (.iload_n 3, 1) := by decide +kernel
theorem dX0_turnedAt_18 : decode cX0_turnedAt 18 = .ok (.invokevirtual 180, 3) := by decide +kernel
theorem dX0_turnedAt_21 : decode cX0_turnedAt 21 = .ok (.imul, 1) := by decide +kernel
theorem dX0_turnedAt_22 : decode cX0_turnedAt 22 = .ok (.iadd, 1) := by decide +kernel
theorem dX0_turnedAt_23 : decode cX0_turnedAt 23 = .ok (.istore_n 2, 1) := by decide +kernel
theorem dX0_turnedAt_24 : decode cX0_turnedAt 24 = .ok (.iinc 3 1, 3) := by decide +kernel
theorem dX0_turnedAt_27 : decode cX0_turnedAt 27 = .ok (.goto (-23), 3) := by decide +kernel
theorem dX0_turnedAt_30 : decode cX0_turnedAt 30 = .ok (.iload_n 2, 1) := by decide +kernel
theorem dX0_turnedAt_31 : decode cX0_turnedAt 31 = .ok (.ireturn, 1) := by decide +kernel
set_option maxRecDepth 20000 in
theorem ggX0_backAt_X0_sign : GoodIn wsX0_backAt wsX0_sign := goodIn_r _ [4, 5, 6, 7, 8, 9, 10, 11] (by decide +kernel) (by decide +kernel)
set_option maxRecDepth 20000 in
theorem gX0_backAt_X0_sign : GoodIn wsX0_backAt (va_wsS RX0 177 yX0_sign wsX0_sign) := goodIn_app (goodIn_of _ (by decide +kernel)) ggX0_backAt_X0_sign
set_option maxRecDepth 20000 in
theorem ggX0_backAt_X0_turnedAt : GoodIn wsX0_backAt wsX0_turnedAt := goodIn_r _ [15, 1, 2, 3, 4, 5, 6, 7, 8, 9, 10, 11, 16, 17, 18, 19, 20, 21, 22, 23, 24, 25, 26, 27, 28, 29, 30, 31, 32, 33] (by decide +kernel) (by decide +kernel)
set_option maxRecDepth 20000 in
theorem gX0_backAt_X0_turnedAt : GoodIn wsX0_backAt (wsV RX0 122 RX0 yX0_turnedAt wsX0_turnedAt) := goodIn_app (goodIn_of _ (by decide +kernel)) ggX0_backAt_X0_turnedAt
theorem dX0_backAt_0 : decode cX0_backAt 0 = .ok (.iconst 0, 1) := by decide +kernel
theorem dX0_backAt_1 : decode cX0_backAt 1 = .ok (.istore_n 2, 1) := by decide +kernel
theorem dX0_backAt_2 : decode cX0_backAt 2 = .ok (.iconst 0, 1) := by decide +kernel
theorem dX0_backAt_3 : decode cX0_backAt 3 = .ok (.istore_n 3, 1) := by decide +kernel
theorem dX0_backAt_4 : decode cX0_backAt 4 = .ok (.iload_n 3, 1) := by decide +kernel
theorem dX0_backAt_5 : decode cX0_backAt 5 = .ok (.bipush 8, 2) := by decide +kernel
theorem dX0_backAt_7 : decode cX0_backAt 7 = .ok (.if_icmp .ge 23, 3) := by decide +kernel
theorem dX0_backAt_10 : decode cX0_backAt 10 = .ok (.iload_n 2, 1) := by decide +kernel
theorem dX0_backAt_11 : decode cX0_backAt 11 = .ok (.iload_n 1, 1) := by decide +kernel
theorem dX0_backAt_12 : decode cX0_backAt 12 = .ok (.iload_n 3, 1) := by decide +kernel
theorem dX0_backAt_13 : decode cX0_backAt 13 = .ok (.invokestatic 177, 3) := by decide +kernel
theorem dX0_backAt_16 : decode cX0_backAt 16 = .ok (.aload_n 0, 1) := by decide +kernel
theorem dX0_backAt_17 : decode cX0_backAt 17 = .ok (.iload_n 3, 1) := by decide +kernel
theorem dX0_backAt_18 : decode cX0_backAt 18 = .ok (.invokevirtual 122, 3) := by decide +kernel
theorem dX0_backAt_21 : decode cX0_backAt 21 = .ok (.imul, 1) := by decide +kernel
theorem dX0_backAt_22 : decode cX0_backAt 22 = .ok (.iadd, 1) := by decide +kernel
theorem dX0_backAt_23 : decode cX0_backAt 23 = .ok (.istore_n 2, 1) := by decide +kernel
theorem dX0_backAt_24 : decode cX0_backAt 24 = .ok (.iinc 3 1, 3) := by decide +kernel
theorem dX0_backAt_27 : decode cX0_backAt 27 = .ok (.goto (-23), 3) := by decide +kernel
theorem dX0_backAt_30 : decode cX0_backAt 30 = .ok (.iload_n 2, 1) := by decide +kernel
theorem dX0_backAt_31 : decode cX0_backAt 31 = .ok (.bipush 8, 2) := by decide +kernel
theorem dX0_backAt_33 : decode cX0_backAt 33 = .ok (.idiv, 1) := by decide +kernel
theorem dX0_backAt_34 : decode cX0_backAt 34 = .ok (.ireturn, 1) := by decide +kernel
theorem dX0_howManyOrders_0 : decode cX0_howManyOrders 0 = .ok (.aload_n 0, 1) := by decide +kernel
theorem dX0_howManyOrders_1 : decode cX0_howManyOrders 1 = .ok (.getfield 137, 3) := by decide +kernel
theorem dX0_howManyOrders_4 : decode cX0_howManyOrders 4 = .ok (.lookupswitch 32 #[(1, 28), (2, 30)], 28) := by decide +kernel
theorem dX0_howManyOrders_32 : decode cX0_howManyOrders 32 = .ok (.iconst 1, 1) := by decide +kernel
theorem dX0_howManyOrders_33 : decode cX0_howManyOrders 33 = .ok (.ireturn, 1) := by decide +kernel
theorem dX0_howManyOrders_34 : decode cX0_howManyOrders 34 = .ok (.iconst 2, 1) := by decide +kernel
theorem dX0_howManyOrders_35 : decode cX0_howManyOrders 35 = .ok (.ireturn, 1) := by decide +kernel
theorem dX0_howManyOrders_36 : decode cX0_howManyOrders 36 = .ok (.bipush 6, 2) := by decide +kernel
theorem dX0_howManyOrders_38 : decode cX0_howManyOrders 38 = .ok (.ireturn, 1) := by decide +kernel
theorem dX0_voiceInOrder_0 : decode cX0_voiceInOrder 0 = .ok (.aload_n 0, 1) := by decide +kernel
theorem dX0_voiceInOrder_1 : decode cX0_voiceInOrder 1 = .ok (.getfield 137, 3) := by decide +kernel
theorem dX0_voiceInOrder_4 : decode cX0_voiceInOrder 4 = .ok (.lookupswitch 46 #[(1, 28), (2, 36)], 28) := by decide +kernel
theorem dX0_voiceInOrder_32 : decode cX0_voiceInOrder 32 = .ok (.getstatic 183, 3) := by decide +kernel
theorem dX0_voiceInOrder_35 : decode cX0_voiceInOrder 35 = .ok (.iload_n 1, 1) := by decide +kernel
theorem dX0_voiceInOrder_36 : decode cX0_voiceInOrder 36 = .ok (.iload_n 2, 1) := by decide +kernel
theorem dX0_voiceInOrder_37 : decode cX0_voiceInOrder 37 = .ok (.iadd, 1) := by decide +kernel
theorem dX0_voiceInOrder_38 : decode cX0_voiceInOrder 38 = .ok (.iaload, 1) := by decide +kernel
theorem dX0_voiceInOrder_39 : decode cX0_voiceInOrder 39 = .ok (.ireturn, 1) := by decide +kernel
theorem dX0_voiceInOrder_40 : decode cX0_voiceInOrder 40 = .ok (.getstatic 186, 3) := by decide +kernel
theorem dX0_voiceInOrder_43 : decode cX0_voiceInOrder 43 = .ok (.iload_n 1, 1) := by decide +kernel
theorem dX0_voiceInOrder_44 : decode cX0_voiceInOrder 44 = .ok (.iconst 2, 1) := by decide +kernel
theorem dX0_voiceInOrder_45 : decode cX0_voiceInOrder 45 = .ok (.imul, 1) := by decide +kernel
theorem dX0_voiceInOrder_46 : decode cX0_voiceInOrder 46 = .ok (.iload_n 2, 1) := by decide +kernel
theorem dX0_voiceInOrder_47 : decode cX0_voiceInOrder 47 = .ok (.iadd, 1) := by decide +kernel
theorem dX0_voiceInOrder_48 : decode cX0_voiceInOrder 48 = .ok (.iaload, 1) := by decide +kernel
theorem dX0_voiceInOrder_49 : decode cX0_voiceInOrder 49 = .ok (.ireturn, 1) := by decide +kernel
theorem dX0_voiceInOrder_50 : decode cX0_voiceInOrder 50 = .ok (.getstatic 189, 3) := by decide +kernel
theorem dX0_voiceInOrder_53 : decode cX0_voiceInOrder 53 = .ok (.iload_n 1, 1) := by decide +kernel
theorem dX0_voiceInOrder_54 : decode cX0_voiceInOrder 54 = .ok (.iconst 3, 1) := by decide +kernel
theorem dX0_voiceInOrder_55 : decode cX0_voiceInOrder 55 = .ok (.imul, 1) := by decide +kernel
theorem dX0_voiceInOrder_56 : decode cX0_voiceInOrder 56 = .ok (.iload_n 2, 1) := by decide +kernel
theorem dX0_voiceInOrder_57 : decode cX0_voiceInOrder 57 = .ok (.iadd, 1) := by decide +kernel
theorem dX0_voiceInOrder_58 : decode cX0_voiceInOrder 58 = .ok (.iaload, 1) := by decide +kernel
theorem dX0_voiceInOrder_59 : decode cX0_voiceInOrder 59 = .ok (.ireturn, 1) := by decide +kernel
set_option maxRecDepth 20000 in
theorem ggX0_apartBy_X0_voiceInOrder : GoodIn wsX0_apartBy wsX0_voiceInOrder := goodIn_r _ [6, 1, 7, 8, 9, 45, 46, 47, 48, 49, 50, 51, 52, 53, 54, 55, 56] (by decide +kernel) (by decide +kernel)
set_option maxRecDepth 20000 in
theorem gX0_apartBy_X0_voiceInOrder : GoodIn wsX0_apartBy (wsV RX0 192 RX0 yX0_voiceInOrder wsX0_voiceInOrder) := goodIn_app (goodIn_of _ (by decide +kernel)) ggX0_apartBy_X0_voiceInOrder
set_option maxRecDepth 20000 in
theorem ggX0_apartBy_X0_apartOfVoice : GoodIn wsX0_apartBy wsX0_apartOfVoice := goodIn_r _ [13, 14, 15, 16, 17, 18, 19, 20, 21, 22, 5, 23, 24, 25, 26, 27, 28, 29, 30, 1, 31, 32, 33, 34, 35, 36, 37, 38, 39, 40, 41, 42, 43, 44, 45, 46, 47, 48, 49, 50, 51, 52, 53, 54, 55, 56] (by decide +kernel) (by decide +kernel)
set_option maxRecDepth 20000 in
theorem gX0_apartBy_X0_apartOfVoice : GoodIn wsX0_apartBy (wsV RX0 195 RX0 yX0_apartOfVoice wsX0_apartOfVoice) := goodIn_app (goodIn_of _ (by decide +kernel)) ggX0_apartBy_X0_apartOfVoice
theorem dX0_apartBy_0 : decode cX0_apartBy 0 = .ok (.iconst 0, 1) := by decide +kernel
theorem dX0_apartBy_1 : decode cX0_apartBy 1 = .ok (.istore_n 2, 1) := by decide +kernel
theorem dX0_apartBy_2 : decode cX0_apartBy 2 = .ok (.iconst 0, 1) := by decide +kernel
theorem dX0_apartBy_3 : decode cX0_apartBy 3 = .ok (.istore_n 3, 1) := by decide +kernel
theorem dX0_apartBy_4 : decode cX0_apartBy 4 = .ok (.iload_n 3, 1) := by decide +kernel
theorem dX0_apartBy_5 : decode cX0_apartBy 5 = .ok (.aload_n 0, 1) := by decide +kernel
theorem dX0_apartBy_6 : decode cX0_apartBy 6 = .ok (.getfield 137, 3) := by decide +kernel
theorem dX0_apartBy_9 : decode cX0_apartBy 9 = .ok (.if_icmp .ge 23, 3) := by decide +kernel
theorem dX0_apartBy_12 : decode cX0_apartBy 12 = .ok (.iload_n 2, 1) := by decide +kernel
theorem dX0_apartBy_13 : decode cX0_apartBy 13 = .ok (.aload_n 0, 1) := by decide +kernel
theorem dX0_apartBy_14 : decode cX0_apartBy 14 = .ok (.iload_n 3, 1) := by decide +kernel
theorem dX0_apartBy_15 : decode cX0_apartBy 15 = .ok (.aload_n 0, 1) := by decide +kernel
theorem dX0_apartBy_16 : decode cX0_apartBy 16 = .ok (.iload_n 1, 1) := by decide +kernel
theorem dX0_apartBy_17 : decode cX0_apartBy 17 = .ok (.iload_n 3, 1) := by decide +kernel
theorem dX0_apartBy_18 : decode cX0_apartBy 18 = .ok (.invokevirtual 192, 3) := by decide +kernel
theorem dX0_apartBy_21 : decode cX0_apartBy 21 = .ok (.invokevirtual 195, 3) := by decide +kernel
theorem dX0_apartBy_24 : decode cX0_apartBy 24 = .ok (.iadd, 1) := by decide +kernel
theorem dX0_apartBy_25 : decode cX0_apartBy 25 = .ok (.istore_n 2, 1) := by decide +kernel
theorem dX0_apartBy_26 : decode cX0_apartBy 26 = .ok (.iinc 3 1, 3) := by decide +kernel
theorem dX0_apartBy_29 : decode cX0_apartBy 29 = .ok (.goto (-25), 3) := by decide +kernel
theorem dX0_apartBy_32 : decode cX0_apartBy 32 = .ok (.iload_n 2, 1) := by decide +kernel
theorem dX0_apartBy_33 : decode cX0_apartBy 33 = .ok (.ireturn, 1) := by decide +kernel
set_option maxRecDepth 20000 in
theorem ggX0_apartOfVoice_X0_truthPlace : GoodIn wsX0_apartOfVoice wsX0_truthPlace := goodIn_r _ [11, 12, 13, 10, 14] (by decide +kernel) (by decide +kernel)
set_option maxRecDepth 20000 in
theorem gX0_apartOfVoice_X0_truthPlace : GoodIn wsX0_apartOfVoice (va_wsS RX0 128 yX0_truthPlace wsX0_truthPlace) := goodIn_app (goodIn_of _ (by decide +kernel)) ggX0_apartOfVoice_X0_truthPlace
set_option maxRecDepth 20000 in
theorem ggX0_apartOfVoice_X0_shareAt : GoodIn wsX0_apartOfVoice wsX0_shareAt := goodIn_r _ [18, 19, 20, 21, 22, 10, 23, 24, 12, 13, 14, 25, 26, 27, 28, 29, 30, 31, 32, 33, 34, 35, 36, 37, 38, 39, 40, 41, 42, 43, 44, 45] (by decide +kernel) (by decide +kernel)
set_option maxRecDepth 20000 in
theorem gX0_apartOfVoice_X0_shareAt : GoodIn wsX0_apartOfVoice (wsV RX0 104 RX0 yX0_shareAt wsX0_shareAt) := goodIn_app (goodIn_of _ (by decide +kernel)) ggX0_apartOfVoice_X0_shareAt
theorem dX0_apartOfVoice_0 : decode cX0_apartOfVoice 0 = .ok (.iconst 0, 1) := by decide +kernel
theorem dX0_apartOfVoice_1 : decode cX0_apartOfVoice 1 = .ok (.istore_n 3, 1) := by decide +kernel
theorem dX0_apartOfVoice_2 : decode cX0_apartOfVoice 2 = .ok (.iconst 0, 1) := by decide +kernel
theorem dX0_apartOfVoice_3 : decode cX0_apartOfVoice 3 = .ok (.istore 4, 2) := by decide +kernel
theorem dX0_apartOfVoice_5 : decode cX0_apartOfVoice 5 = .ok (.iload 4, 2) := by decide +kernel
theorem dX0_apartOfVoice_7 : decode cX0_apartOfVoice 7 = .ok (.aload_n 0, 1) := by decide +kernel
theorem dX0_apartOfVoice_8 : decode cX0_apartOfVoice 8 = .ok (.getfield 86, 3) := by decide +kernel
theorem dX0_apartOfVoice_11 : decode cX0_apartOfVoice 11 = .ok (.if_icmp .ge 60, 3) := by decide +kernel
theorem dX0_apartOfVoice_14 : decode cX0_apartOfVoice 14 = .ok (.iconst 0, 1) := by decide +kernel
theorem dX0_apartOfVoice_15 : decode cX0_apartOfVoice 15 = .ok (.istore 5, 2) := by decide +kernel
theorem dX0_apartOfVoice_17 : decode cX0_apartOfVoice 17 = .ok (.iload 5, 2) := by decide +kernel
theorem dX0_apartOfVoice_19 : decode cX0_apartOfVoice 19 = .ok (.aload_n 0, 1) := by decide +kernel
theorem dX0_apartOfVoice_20 : decode cX0_apartOfVoice 20 = .ok (.getfield 107, 3) := by decide +kernel
theorem dX0_apartOfVoice_23 : decode cX0_apartOfVoice 23 = .ok (.if_icmp .ge 42, 3) := by decide +kernel
theorem dX0_apartOfVoice_26 : decode cX0_apartOfVoice 26 = .ok (.aload_n 0, 1) := by decide +kernel
theorem dX0_apartOfVoice_27 : decode cX0_apartOfVoice 27 = .ok (.getfield 16, 3) := by decide +kernel
theorem dX0_apartOfVoice_30 : decode cX0_apartOfVoice 30 = .ok (.iload_n 2, 1) := by decide +kernel
theorem dX0_apartOfVoice_31 : decode cX0_apartOfVoice 31 = .ok (.iload 4, 2) := by decide +kernel
theorem dX0_apartOfVoice_33 : decode cX0_apartOfVoice 33 = .ok (.iload 5, 2) := by decide +kernel
theorem dX0_apartOfVoice_35 : decode cX0_apartOfVoice 35 = .ok (.invokestatic 128, 3) := by decide +kernel
theorem dX0_apartOfVoice_38 : decode cX0_apartOfVoice 38 = .ok (.iaload, 1) := by decide +kernel
theorem dX0_apartOfVoice_39 : decode cX0_apartOfVoice 39 = .ok (.istore 6, 2) := by decide +kernel
theorem dX0_apartOfVoice_41 : decode cX0_apartOfVoice 41 = .ok (.iload_n 3, 1) := by decide +kernel
theorem dX0_apartOfVoice_42 : decode cX0_apartOfVoice 42 = .ok (.aload_n 0, 1) := by decide +kernel
theorem dX0_apartOfVoice_43 : decode cX0_apartOfVoice 43 = .ok (.iload_n 1, 1) := by decide +kernel
theorem dX0_apartOfVoice_44 : decode cX0_apartOfVoice 44 = .ok (.iload 4, 2) := by decide +kernel
theorem dX0_apartOfVoice_46 : decode cX0_apartOfVoice 46 = .ok (.iload 5, 2) := by decide +kernel
theorem dX0_apartOfVoice_48 : decode cX0_apartOfVoice 48 = .ok (.invokevirtual 104, 3) := by decide +kernel
theorem dX0_apartOfVoice_51 : decode cX0_apartOfVoice 51 = .ok (.iload 6, 2) := by decide +kernel
theorem dX0_apartOfVoice_53 : decode cX0_apartOfVoice 53 = .ok (.isub, 1) := by decide +kernel
theorem dX0_apartOfVoice_54 : decode cX0_apartOfVoice 54 = .ok (.invokestatic 116, 3) := by decide +kernel
theorem dX0_apartOfVoice_57 : decode cX0_apartOfVoice 57 = .ok (.iadd, 1) := by decide +kernel
theorem dX0_apartOfVoice_58 : decode cX0_apartOfVoice 58 = .ok (.istore_n 3, 1) := by decide +kernel
theorem dX0_apartOfVoice_59 : decode cX0_apartOfVoice 59 = .ok (.iinc 5 1, 3) := by decide +kernel
theorem dX0_apartOfVoice_62 : decode cX0_apartOfVoice 62 = .ok (.goto (-45), 3) := by decide +kernel
theorem dX0_apartOfVoice_65 : decode cX0_apartOfVoice 65 = .ok (.iinc 4 1, 3) := by decide +kernel
theorem dX0_apartOfVoice_68 : decode cX0_apartOfVoice 68 = .ok (.goto (-63), 3) := by decide +kernel
theorem dX0_apartOfVoice_71 : decode cX0_apartOfVoice 71 = .ok (.iload_n 3, 1) := by decide +kernel
theorem dX0_apartOfVoice_72 : decode cX0_apartOfVoice 72 = .ok (.ireturn, 1) := by decide +kernel
end
section
set_option maxRecDepth 20000 in
theorem ggX1_init_X1_begins : GoodIn wsX1_init wsX1_begins := goodIn_r _ [17, 18, 19, 20, 5, 6, 8, 9, 21, 22, 23, 24, 25, 26, 27, 28, 29, 30, 31, 32, 33] (by decide +kernel) (by decide +kernel)
set_option maxRecDepth 20000 in
theorem gX1_init_X1_begins : GoodIn wsX1_init (wsV RX1 32 RX1 yX1_begins wsX1_begins) := goodIn_app (goodIn_of _ (by decide +kernel)) ggX1_init_X1_begins
theorem dX1_init_0 : decode cX1_init 0 = .ok (.aload_n 0, 1) := by decide +kernel
theorem dX1_init_1 : decode cX1_init 1 = .ok (.invokespecial 1, 3) := by decide +kernel
theorem dX1_init_4 : decode cX1_init 4 = .ok (.aload_n 0, 1) := by decide +kernel
theorem dX1_init_5 : decode cX1_init 5 = .ok (.bipush 48, 2) := by decide +kernel
theorem dX1_init_7 : decode cX1_init 7 = .ok (.newarray .int, 2) := by decide +kernel
theorem dX1_init_9 : decode cX1_init 9 = .ok (.putfield 7, 3) := by decide +kernel
theorem dX1_init_12 : decode cX1_init 12 = .ok (.aload_n 0, 1) := by decide +kernel
theorem dX1_init_13 : decode cX1_init 13 = .ok (.bipush 48, 2) := by decide +kernel
theorem dX1_init_15 : decode cX1_init 15 = .ok (.newarray .int, 2) := by decide +kernel
theorem dX1_init_17 : decode cX1_init 17 = .ok (.putfield 13, 3) := by decide +kernel
theorem dX1_init_20 : decode cX1_init 20 = .ok (.aload_n 0, 1) := by decide +kernel
theorem dX1_init_21 : decode cX1_init 21 = .ok (.bipush 48, 2) := by decide +kernel
theorem dX1_init_23 : decode cX1_init 23 = .ok (.newarray .boolean, 2) := by decide +kernel
theorem dX1_init_25 : decode cX1_init 25 = .ok (.putfield 16, 3) := by decide +kernel
theorem dX1_init_28 : decode cX1_init 28 = .ok (.aload_n 0, 1) := by decide +kernel
theorem dX1_init_29 : decode cX1_init 29 = .ok (.sipush 144, 3) := by decide +kernel
theorem dX1_init_32 : decode cX1_init 32 = .ok (.newarray .int, 2) := by decide +kernel
theorem dX1_init_34 : decode cX1_init 34 = .ok (.putfield 20, 3) := by decide +kernel
theorem dX1_init_37 : decode cX1_init 37 = .ok (.aload_n 0, 1) := by decide +kernel
theorem dX1_init_38 : decode cX1_init 38 = .ok (.iconst 2, 1) := by decide +kernel
theorem dX1_init_39 : decode cX1_init 39 = .ok (.newarray .int, 2) := by decide +kernel
theorem dX1_init_41 : decode cX1_init 41 = .ok (.putfield 23, 3) := by decide +kernel
theorem dX1_init_44 : decode cX1_init 44 = .ok (.aload_n 0, 1) := by decide +kernel
theorem dX1_init_45 : decode cX1_init 45 = .ok (.bipush 16, 2) := by decide +kernel
theorem dX1_init_47 : decode cX1_init 47 = .ok (.newarray .int, 2) := by decide +kernel
theorem dX1_init_49 : decode cX1_init 49 = .ok (.putfield 26, 3) := by decide +kernel
theorem dX1_init_52 : decode cX1_init 52 = .ok (.aload_n 0, 1) := by decide +kernel
theorem dX1_init_53 : decode cX1_init 53 = .ok (.bipush 8, 2) := by decide +kernel
theorem dX1_init_55 : decode cX1_init 55 = .ok (.newarray .int, 2) := by decide +kernel
theorem dX1_init_57 : decode cX1_init 57 = .ok (.putfield 29, 3) := by decide +kernel
theorem dX1_init_60 : decode cX1_init 60 = .ok (.aload_n 0, 1) := by decide +kernel
theorem dX1_init_61 : decode cX1_init 61 = .ok (.iconst 4, 1) := by decide +kernel
theorem dX1_init_62 : decode cX1_init 62 = .ok (.iconst 4, 1) := by decide +kernel
theorem dX1_init_63 : decode cX1_init 63 = .ok (.iconst 2, 1) := by decide +kernel
theorem dX1_init_64 : decode cX1_init 64 = .ok (.invokevirtual 32, 3) := by decide +kernel
theorem dX1_init_67 : decode cX1_init 67 = .ok (.return_, 1) := by decide +kernel
theorem dX1_in_0 : decode cX1_in 0 = .ok (.iload_n 0, 1) := by decide +kernel
theorem dX1_in_1 : decode cX1_in 1 = .ok (.iload_n 1, 1) := by decide +kernel
theorem dX1_in_2 : decode cX1_in 2 = .ok (.if_icmp .lt 12, 3) := by decide +kernel
theorem dX1_in_5 : decode cX1_in 5 = .ok (.iload_n 0, 1) := by decide +kernel
theorem dX1_in_6 : decode cX1_in 6 = .ok (.iload_n 2, 1) := by decide +kernel
theorem dX1_in_7 : decode cX1_in 7 = .ok (.if_icmp .gt 7, 3) := by decide +kernel
theorem dX1_in_10 : decode cX1_in 10 = .ok (.iconst 1, 1) := by decide +kernel
theorem dX1_in_11 : decode cX1_in 11 = .ok (.goto 4, 3) := by decide +kernel
theorem dX1_in_14 : decode cX1_in 14 = .ok (.iconst 0, 1) := by decide +kernel
theorem dX1_in_15 : decode cX1_in 15 = .ok (.ireturn, 1) := by decide +kernel
theorem dX1_begins_0 : decode cX1_begins 0 = .ok (.aload_n 0, 1) := by decide +kernel
theorem dX1_begins_1 : decode cX1_begins 1 = .ok (.iload_n 1, 1) := by decide +kernel
theorem dX1_begins_2 : decode cX1_begins 2 = .ok (.putfield 36, 3) := by decide +kernel
theorem dX1_begins_5 : decode cX1_begins 5 = .ok (.aload_n 0, 1) := by decide +kernel
theorem dX1_begins_6 : decode cX1_begins 6 = .ok (.iload_n 2, 1) := by decide +kernel
theorem dX1_begins_7 : decode cX1_begins 7 = .ok (.putfield 40, 3) := by decide +kernel
theorem dX1_begins_10 : decode cX1_begins 10 = .ok (.aload_n 0, 1) := by decide +kernel
theorem dX1_begins_11 : decode cX1_begins 11 = .ok (.iload_n 3, 1) := by decide +kernel
theorem dX1_begins_12 : decode cX1_begins 12 = .ok (.putfield 43, 3) := by decide +kernel
theorem dX1_begins_15 : decode cX1_begins 15 = .ok (.iconst 0, 1) := by decide +kernel
theorem dX1_begins_16 : decode cX1_begins 16 = .ok (.istore 4, 2) := by decide +kernel
theorem dX1_begins_18 : decode cX1_begins 18 = .ok (.iload 4, 2) := by decide +kernel
theorem dX1_begins_20 : decode cX1_begins 20 = .ok (.bipush 48, 2) := by decide +kernel
theorem dX1_begins_22 : decode cX1_begins 22 = .ok (.if_icmp .ge 33, 3) := by decide +kernel
theorem dX1_begins_25 : decode cX1_begins 25 = .ok (.aload_n 0, 1) := by decide +kernel
theorem dX1_begins_26 : decode cX1_begins 26 = .ok (.getfield 7, 3) := by decide +kernel
theorem dX1_begins_29 : decode cX1_begins 29 = .ok (.iload 4, 2) := by decide +kernel
theorem dX1_begins_31 : decode cX1_begins 31 = .ok (.iconst 0, 1) := by decide +kernel
theorem dX1_begins_32 : decode cX1_begins 32 = .ok (.iastore, 1) := by decide +kernel
theorem dX1_begins_33 : decode cX1_begins 33 = .ok (.aload_n 0, 1) := by decide +kernel
theorem dX1_begins_34 : decode cX1_begins 34 = .ok (.getfield 13, 3) := by decide +kernel
theorem dX1_begins_37 : decode cX1_begins 37 = .ok (.iload 4, 2) := by decide +kernel
theorem dX1_begins_39 : decode cX1_begins 39 = .ok (.iconst 1, 1) := by decide +kernel
theorem dX1_begins_40 : decode cX1_begins 40 = .ok (.iastore, 1) := by decide +kernel
theorem dX1_begins_41 : decode cX1_begins 41 = .ok (.aload_n 0, 1) := by decide +kernel
theorem dX1_begins_42 : decode cX1_begins 42 = .ok (.getfield 16, 3) := by decide +kernel
theorem dX1_begins_45 : decode cX1_begins 45 = .ok (.iload 4, 2) := by decide +kernel
theorem dX1_begins_47 : decode cX1_begins 47 = .ok (.iconst 0, 1) := by decide +kernel
theorem dX1_begins_48 : decode cX1_begins 48 = .ok (.bastore, 1) := by decide +kernel
theorem dX1_begins_49 : decode cX1_begins 49 = .ok (.iinc 4 1, 3) := by decide +kernel
theorem dX1_begins_52 : decode cX1_begins 52 = .ok (.goto (-34), 3) := by decide +kernel
theorem dX1_begins_55 : decode cX1_begins 55 = .ok (.iconst 0, 1) := by decide +kernel
theorem dX1_begins_56 : decode cX1_begins 56 = .ok (.istore 4, 2) := by decide +kernel
theorem dX1_begins_58 : decode cX1_begins 58 = .ok (.iload 4, 2) := by decide +kernel
theorem dX1_begins_60 : decode cX1_begins 60 = .ok (.sipush 144, 3) := by decide +kernel
theorem dX1_begins_63 : decode cX1_begins 63 = .ok (.if_icmp .ge 17, 3) := by decide +kernel
theorem dX1_begins_66 : decode cX1_begins 66 = .ok (.aload_n 0, 1) := by decide +kernel
theorem dX1_begins_67 : decode cX1_begins 67 = .ok (.getfield 20, 3) := by decide +kernel
theorem dX1_begins_70 : decode cX1_begins 70 = .ok (.iload 4, 2) := by decide +kernel
theorem dX1_begins_72 : decode cX1_begins 72 = .ok (.iconst 0, 1) := by decide +kernel
theorem dX1_begins_73 : decode cX1_begins 73 = .ok (.iastore, 1) := by decide +kernel
theorem dX1_begins_74 : decode cX1_begins 74 = .ok (.iinc 4 1, 3) := by decide +kernel
theorem dX1_begins_77 : decode cX1_begins 77 = .ok (.goto (-19), 3) := by decide +kernel
theorem dX1_begins_80 : decode cX1_begins 80 = .ok (.return_, 1) := by decide +kernel
set_option maxRecDepth 20000 in
theorem ggX1_isPlace_X1_in : GoodIn wsX1_isPlace wsX1_in := goodIn_r _ [6] (by decide +kernel) (by decide +kernel)
set_option maxRecDepth 20000 in
theorem gX1_isPlace_X1_in : GoodIn wsX1_isPlace (va_wsS RX1 46 yX1_in wsX1_in) := goodIn_app (goodIn_of _ (by decide +kernel)) ggX1_isPlace_X1_in
theorem dX1_isPlace_0 : decode cX1_isPlace 0 = .ok (.iload_n 1, 1) := by decide +kernel
theorem dX1_isPlace_1 : decode cX1_isPlace 1 = .ok (.iconst 0, 1) := by decide +kernel
theorem dX1_isPlace_2 : decode cX1_isPlace 2 = .ok (.aload_n 0, 1) := by decide +kernel
theorem dX1_isPlace_3 : decode cX1_isPlace 3 = .ok (.getfield 36, 3) := by decide +kernel
theorem dX1_isPlace_6 : decode cX1_isPlace 6 = .ok (.iconst 1, 1) := by decide +kernel
theorem dX1_isPlace_7 : decode cX1_isPlace 7 = .ok (.isub, 1) := by decide +kernel
theorem dX1_isPlace_8 : decode cX1_isPlace 8 = .ok (.invokestatic 46, 3) := by decide +kernel
theorem dX1_isPlace_11 : decode cX1_isPlace 11 = .ok (.ifCond .eq 21, 3) := by decide +kernel
theorem dX1_isPlace_14 : decode cX1_isPlace 14 = .ok (.iload_n 2, 1) := by decide +kernel
theorem dX1_isPlace_15 : decode cX1_isPlace 15 = .ok (.iconst 0, 1) := by decide +kernel
theorem dX1_isPlace_16 : decode cX1_isPlace 16 = .ok (.aload_n 0, 1) := by decide +kernel
theorem dX1_isPlace_17 : decode cX1_isPlace 17 = .ok (.getfield 40, 3) := by decide +kernel
theorem dX1_isPlace_20 : decode cX1_isPlace 20 = .ok (.iconst 1, 1) := by decide +kernel
theorem dX1_isPlace_21 : decode cX1_isPlace 21 = .ok (.isub, 1) := by decide +kernel
theorem dX1_isPlace_22 : decode cX1_isPlace 22 = .ok (.invokestatic 46, 3) := by decide +kernel
theorem dX1_isPlace_25 : decode cX1_isPlace 25 = .ok (.ifCond .eq 7, 3) := by decide +kernel
theorem dX1_isPlace_28 : decode cX1_isPlace 28 = .ok (.iconst 1, 1) := by decide +kernel
theorem dX1_isPlace_29 : decode cX1_isPlace 29 = .ok (.goto 4, 3) := by decide +kernel
theorem dX1_isPlace_32 : decode cX1_isPlace 32 = .ok (.iconst 0, 1) := by decide +kernel
theorem dX1_isPlace_33 : decode cX1_isPlace 33 = .ok (.ireturn, 1) := by decide +kernel
set_option maxRecDepth 20000 in
theorem ggX1_isVoice_X1_in : GoodIn wsX1_isVoice wsX1_in := goodIn_r _ [5] (by decide +kernel) (by decide +kernel)
set_option maxRecDepth 20000 in
theorem gX1_isVoice_X1_in : GoodIn wsX1_isVoice (va_wsS RX1 46 yX1_in wsX1_in) := goodIn_app (goodIn_of _ (by decide +kernel)) ggX1_isVoice_X1_in
theorem dX1_isVoice_0 : decode cX1_isVoice 0 = .ok (.iload_n 1, 1) := by decide +kernel
theorem dX1_isVoice_1 : decode cX1_isVoice 1 = .ok (.iconst 0, 1) := by decide +kernel
theorem dX1_isVoice_2 : decode cX1_isVoice 2 = .ok (.aload_n 0, 1) := by decide +kernel
theorem dX1_isVoice_3 : decode cX1_isVoice 3 = .ok (.getfield 43, 3) := by decide +kernel
theorem dX1_isVoice_6 : decode cX1_isVoice 6 = .ok (.iconst 1, 1) := by decide +kernel
theorem dX1_isVoice_7 : decode cX1_isVoice 7 = .ok (.isub, 1) := by decide +kernel
theorem dX1_isVoice_8 : decode cX1_isVoice 8 = .ok (.invokestatic 46, 3) := by decide +kernel
theorem dX1_isVoice_11 : decode cX1_isVoice 11 = .ok (.ireturn, 1) := by decide +kernel
set_option maxRecDepth 20000 in
theorem ggX1_board_X1_in : GoodIn wsX1_board wsX1_in := goodIn_r _ [4] (by decide +kernel) (by decide +kernel)
set_option maxRecDepth 20000 in
theorem gX1_board_X1_in : GoodIn wsX1_board (va_wsS RX1 46 yX1_in wsX1_in) := goodIn_app (goodIn_of _ (by decide +kernel)) ggX1_board_X1_in
set_option maxRecDepth 20000 in
theorem ggX1_board_X1_begins : GoodIn wsX1_board wsX1_begins := goodIn_r _ [8, 9, 10, 11, 12, 13, 14, 15, 16, 17, 18, 19, 20, 21, 22, 23, 24, 25, 26, 27, 28] (by decide +kernel) (by decide +kernel)
set_option maxRecDepth 20000 in
theorem gX1_board_X1_begins : GoodIn wsX1_board (wsV RX1 32 RX1 yX1_begins wsX1_begins) := goodIn_app (goodIn_of _ (by decide +kernel)) ggX1_board_X1_begins
theorem dX1_board_0 : decode cX1_board 0 = .ok (.iload_n 1, 1) := by decide +kernel
theorem dX1_board_1 : decode cX1_board 1 = .ok (.iconst 1, 1) := by decide +kernel
theorem dX1_board_2 : decode cX1_board 2 = .ok (.bipush 6, 2) := by decide +kernel
theorem dX1_board_4 : decode cX1_board 4 = .ok (.invokestatic 46, 3) := by decide +kernel
theorem dX1_board_7 : decode cX1_board 7 = .ok (.ifCond .eq 22, 3) := by decide +kernel
theorem dX1_board_10 : decode cX1_board 10 = .ok (.iload_n 2, 1) := by decide +kernel
theorem dX1_board_11 : decode cX1_board 11 = .ok (.iconst 1, 1) := by decide +kernel
theorem dX1_board_12 : decode cX1_board 12 = .ok (.bipush 8, 2) := by decide +kernel
theorem dX1_board_14 : decode cX1_board 14 = .ok (.invokestatic 46, 3) := by decide +kernel
theorem dX1_board_17 : decode cX1_board 17 = .ok (.ifCond .eq 12, 3) := by decide +kernel
theorem dX1_board_20 : decode cX1_board 20 = .ok (.iload_n 3, 1) := by decide +kernel
theorem dX1_board_21 : decode cX1_board 21 = .ok (.iconst 1, 1) := by decide +kernel
theorem dX1_board_22 : decode cX1_board 22 = .ok (.iconst 3, 1) := by decide +kernel
theorem dX1_board_23 : decode cX1_board 23 = .ok (.invokestatic 46, 3) := by decide +kernel
theorem dX1_board_26 : decode cX1_board 26 = .ok (.ifCond .ne 5, 3) := by decide +kernel
theorem dX1_board_29 : decode cX1_board 29 = .ok (.iconst (-1), 1) := by decide +kernel
theorem dX1_board_30 : decode cX1_board 30 = .ok (.ireturn, 1) := by decide +kernel
theorem dX1_board_31 : decode cX1_board 31 = .ok (.aload_n 0, 1) := by decide +kernel
theorem dX1_board_32 : decode cX1_board 32 = .ok (.iload_n 1, 1) := by decide +kernel
theorem dX1_board_33 : decode cX1_board 33 = .ok (.iload_n 2, 1) := by decide +kernel
theorem dX1_board_34 : decode cX1_board 34 = .ok (.iload_n 3, 1) := by decide +kernel
theorem dX1_board_35 : decode cX1_board 35 = .ok (.invokevirtual 32, 3) := by decide +kernel
theorem dX1_board_38 : decode cX1_board 38 = .ok (.iload_n 1, 1) := by decide +kernel
theorem dX1_board_39 : decode cX1_board 39 = .ok (.iload_n 2, 1) := by decide +kernel
theorem dX1_board_40 : decode cX1_board 40 = .ok (.imul, 1) := by decide +kernel
theorem dX1_board_41 : decode cX1_board 41 = .ok (.ireturn, 1) := by decide +kernel
set_option maxRecDepth 20000 in
theorem ggX1_set_X1_isPlace : GoodIn wsX1_set wsX1_isPlace := goodIn_r _ [6, 7, 8, 9, 10, 5, 11, 12, 13, 14, 15, 16, 17, 18, 19, 20, 21, 22, 23, 24] (by decide +kernel) (by decide +kernel)
set_option maxRecDepth 20000 in
theorem gX1_set_X1_isPlace : GoodIn wsX1_set (wsV RX1 50 RX1 yX1_isPlace wsX1_isPlace) := goodIn_app (goodIn_of _ (by decide +kernel)) ggX1_set_X1_isPlace
set_option maxRecDepth 20000 in
theorem ggX1_set_X1_in : GoodIn wsX1_set wsX1_in := goodIn_r _ [11] (by decide +kernel) (by decide +kernel)
set_option maxRecDepth 20000 in
theorem gX1_set_X1_in : GoodIn wsX1_set (va_wsS RX1 46 yX1_in wsX1_in) := goodIn_app (goodIn_of _ (by decide +kernel)) ggX1_set_X1_in
theorem dX1_set_0 : decode cX1_set 0 = .ok (.aload_n 0, 1) := by decide +kernel
theorem dX1_set_1 : decode cX1_set 1 = .ok (.iload_n 1, 1) := by decide +kernel
theorem dX1_set_2 : decode cX1_set 2 = .ok (.iload_n 2, 1) := by decide +kernel
theorem dX1_set_3 : decode cX1_set 3 = .ok (.invokevirtual 50, 3) := by decide +kernel
theorem dX1_set_6 : decode cX1_set 6 = .ok (.ifCond .eq 13, 3) := by decide +kernel
theorem dX1_set_9 : decode cX1_set 9 = .ok (.iload_n 3, 1) := by decide +kernel
theorem dX1_set_10 : decode cX1_set 10 = .ok (.iconst 0, 1) := by decide +kernel
theorem dX1_set_11 : decode cX1_set 11 = .ok (.bipush 99, 2) := by decide +kernel
theorem dX1_set_13 : decode cX1_set 13 = .ok (.invokestatic 46, 3) := by decide +kernel
theorem dX1_set_16 : decode cX1_set 16 = .ok (.ifCond .ne 5, 3) := by decide +kernel
theorem dX1_set_19 : decode cX1_set 19 = .ok (.iconst (-1), 1) := by decide +kernel
theorem dX1_set_20 : decode cX1_set 20 = .ok (.ireturn, 1) := by decide +kernel
theorem dX1_set_21 : decode cX1_set 21 = .ok (.aload_n 0, 1) := by decide +kernel
theorem dX1_set_22 : decode cX1_set 22 = .ok (.getfield 7, 3) := by decide +kernel
theorem dX1_set_25 : decode cX1_set 25 = .ok (.bipush 8, 2) := by decide +kernel
theorem dX1_set_27 : decode cX1_set 27 = .ok (.iload_n 1, 1) := by decide +kernel
theorem dX1_set_28 : decode cX1_set 28 = .ok (.imul, 1) := by decide +kernel
theorem dX1_set_29 : decode cX1_set 29 = .ok (.iload_n 2, 1) := by decide +kernel
theorem dX1_set_30 : decode cX1_set 30 = .ok (.iadd, 1) := by decide +kernel
theorem dX1_set_31 : decode cX1_set 31 = .ok (.iaload, 1) := by decide +kernel
theorem dX1_set_32 : decode cX1_set 32 = .ok (.istore 4, 2) := by decide +kernel
theorem dX1_set_34 : decode cX1_set 34 = .ok (.aload_n 0, 1) := by decide +kernel
theorem dX1_set_35 : decode cX1_set 35 = .ok (.getfield 7, 3) := by decide +kernel
theorem dX1_set_38 : decode cX1_set 38 = .ok (.bipush 8, 2) := by decide +kernel
theorem dX1_set_40 : decode cX1_set 40 = .ok (.iload_n 1, 1) := by decide +kernel
theorem dX1_set_41 : decode cX1_set 41 = .ok (.imul, 1) := by decide +kernel
theorem dX1_set_42 : decode cX1_set 42 = .ok (.iload_n 2, 1) := by decide +kernel
theorem dX1_set_43 : decode cX1_set 43 = .ok (.iadd, 1) := by decide +kernel
theorem dX1_set_44 : decode cX1_set 44 = .ok (.iload_n 3, 1) := by decide +kernel
theorem dX1_set_45 : decode cX1_set 45 = .ok (.iastore, 1) := by decide +kernel
theorem dX1_set_46 : decode cX1_set 46 = .ok (.iload 4, 2) := by decide +kernel
theorem dX1_set_48 : decode cX1_set 48 = .ok (.ireturn, 1) := by decide +kernel
theorem dX1_part_0 : decode cX1_part 0 = .ok (.aload_n 0, 1) := by decide +kernel
theorem dX1_part_1 : decode cX1_part 1 = .ok (.getfield 13, 3) := by decide +kernel
theorem dX1_part_4 : decode cX1_part 4 = .ok (.bipush 16, 2) := by decide +kernel
theorem dX1_part_6 : decode cX1_part 6 = .ok (.iload_n 1, 1) := by decide +kernel
theorem dX1_part_7 : decode cX1_part 7 = .ok (.imul, 1) := by decide +kernel
theorem dX1_part_8 : decode cX1_part 8 = .ok (.iload_n 2, 1) := by decide +kernel
theorem dX1_part_9 : decode cX1_part 9 = .ok (.iadd, 1) := by decide +kernel
theorem dX1_part_10 : decode cX1_part 10 = .ok (.iaload, 1) := by decide +kernel
theorem dX1_part_11 : decode cX1_part 11 = .ok (.aload_n 0, 1) := by decide +kernel
theorem dX1_part_12 : decode cX1_part 12 = .ok (.getfield 13, 3) := by decide +kernel
theorem dX1_part_15 : decode cX1_part 15 = .ok (.bipush 16, 2) := by decide +kernel
theorem dX1_part_17 : decode cX1_part 17 = .ok (.iload_n 1, 1) := by decide +kernel
theorem dX1_part_18 : decode cX1_part 18 = .ok (.imul, 1) := by decide +kernel
theorem dX1_part_19 : decode cX1_part 19 = .ok (.bipush 6, 2) := by decide +kernel
theorem dX1_part_21 : decode cX1_part 21 = .ok (.iadd, 1) := by decide +kernel
theorem dX1_part_22 : decode cX1_part 22 = .ok (.iload_n 3, 1) := by decide +kernel
theorem dX1_part_23 : decode cX1_part 23 = .ok (.iadd, 1) := by decide +kernel
theorem dX1_part_24 : decode cX1_part 24 = .ok (.iaload, 1) := by decide +kernel
theorem dX1_part_25 : decode cX1_part 25 = .ok (.imul, 1) := by decide +kernel
theorem dX1_part_26 : decode cX1_part 26 = .ok (.ireturn, 1) := by decide +kernel
set_option maxRecDepth 20000 in
theorem ggX1_sumAt_X1_part : GoodIn wsX1_sumAt wsX1_part := goodIn_r _ [6, 7, 8, 9, 10, 11, 12, 13, 14, 15, 16, 17, 18, 19, 20] (by decide +kernel) (by decide +kernel)
set_option maxRecDepth 20000 in
theorem gX1_sumAt_X1_part : GoodIn wsX1_sumAt (wsV RX1 54 RX1 yX1_part wsX1_part) := goodIn_app (goodIn_of _ (by decide +kernel)) ggX1_sumAt_X1_part
theorem dX1_sumAt_0 : decode cX1_sumAt 0 = .ok (.iconst 0, 1) := by decide +kernel
theorem dX1_sumAt_1 : decode cX1_sumAt 1 = .ok (.istore_n 3, 1) := by decide +kernel
theorem dX1_sumAt_2 : decode cX1_sumAt 2 = .ok (.iconst 0, 1) := by decide +kernel
theorem dX1_sumAt_3 : decode cX1_sumAt 3 = .ok (.istore 4, 2) := by decide +kernel
theorem dX1_sumAt_5 : decode cX1_sumAt 5 = .ok (.iload 4, 2) := by decide +kernel
theorem dX1_sumAt_7 : decode cX1_sumAt 7 = .ok (.aload_n 0, 1) := by decide +kernel
theorem dX1_sumAt_8 : decode cX1_sumAt 8 = .ok (.getfield 43, 3) := by decide +kernel
theorem dX1_sumAt_11 : decode cX1_sumAt 11 = .ok (.if_icmp .ge 20, 3) := by decide +kernel
theorem dX1_sumAt_14 : decode cX1_sumAt 14 = .ok (.iload_n 3, 1) := by decide +kernel
theorem dX1_sumAt_15 : decode cX1_sumAt 15 = .ok (.aload_n 0, 1) := by decide +kernel
theorem dX1_sumAt_16 : decode cX1_sumAt 16 = .ok (.iload 4, 2) := by decide +kernel
theorem dX1_sumAt_18 : decode cX1_sumAt 18 = .ok (.iload_n 1, 1) := by decide +kernel
theorem dX1_sumAt_19 : decode cX1_sumAt 19 = .ok (.iload_n 2, 1) := by decide +kernel
theorem dX1_sumAt_20 : decode cX1_sumAt 20 = .ok (.invokevirtual 54, 3) := by decide +kernel
theorem dX1_sumAt_23 : decode cX1_sumAt 23 = .ok (.iadd, 1) := by decide +kernel
theorem dX1_sumAt_24 : decode cX1_sumAt 24 = .ok (.istore_n 3, 1) := by decide +kernel
theorem dX1_sumAt_25 : decode cX1_sumAt 25 = .ok (.iinc 4 1, 3) := by decide +kernel
theorem dX1_sumAt_28 : decode cX1_sumAt 28 = .ok (.goto (-23), 3) := by decide +kernel
theorem dX1_sumAt_31 : decode cX1_sumAt 31 = .ok (.iload_n 3, 1) := by decide +kernel
theorem dX1_sumAt_32 : decode cX1_sumAt 32 = .ok (.ireturn, 1) := by decide +kernel
set_option maxRecDepth 20000 in
theorem ggX1_at_X1_isPlace : GoodIn wsX1_at wsX1_isPlace := goodIn_r _ [6, 7, 8, 9, 10, 5, 11, 34, 35, 36, 37, 38, 39, 40, 41, 42, 43, 44, 45, 46] (by decide +kernel) (by decide +kernel)
set_option maxRecDepth 20000 in
theorem gX1_at_X1_isPlace : GoodIn wsX1_at (wsV RX1 50 RX1 yX1_isPlace wsX1_isPlace) := goodIn_app (goodIn_of _ (by decide +kernel)) ggX1_at_X1_isPlace
set_option maxRecDepth 20000 in
theorem ggX1_at_X1_in : GoodIn wsX1_at wsX1_in := goodIn_r _ [11] (by decide +kernel) (by decide +kernel)
set_option maxRecDepth 20000 in
theorem gX1_at_X1_in : GoodIn wsX1_at (va_wsS RX1 46 yX1_in wsX1_in) := goodIn_app (goodIn_of _ (by decide +kernel)) ggX1_at_X1_in
set_option maxRecDepth 20000 in
theorem ggX1_at_X1_sumAt : GoodIn wsX1_at wsX1_sumAt := goodIn_r _ [15, 16, 17, 18, 19, 5, 20, 21, 34, 35, 36, 37, 38, 39, 40, 41, 42, 43, 44, 45, 46] (by decide +kernel) (by decide +kernel)
set_option maxRecDepth 20000 in
theorem gX1_at_X1_sumAt : GoodIn wsX1_at (wsV RX1 58 RX1 yX1_sumAt wsX1_sumAt) := goodIn_app (goodIn_of _ (by decide +kernel)) ggX1_at_X1_sumAt
set_option maxRecDepth 20000 in
theorem ggX1_at_X1_bestPeriod : GoodIn wsX1_at wsX1_bestPeriod := goodIn_r _ [25, 8, 7, 1, 26, 27, 28, 5, 29, 30, 31, 32, 33, 34, 35, 36, 37, 38, 39, 40, 41, 42, 43, 44, 45, 46] (by decide +kernel) (by decide +kernel)
set_option maxRecDepth 20000 in
theorem gX1_at_X1_bestPeriod : GoodIn wsX1_at (wsV RX1 62 RX1 yX1_bestPeriod wsX1_bestPeriod) := goodIn_app (goodIn_of _ (by decide +kernel)) ggX1_at_X1_bestPeriod
set_option maxRecDepth 20000 in
theorem ggX1_at_X1_backgroundOf : GoodIn wsX1_at wsX1_backgroundOf := goodIn_r _ [29, 8, 1, 30, 34, 35, 36, 37, 38, 39, 40, 41, 42, 43, 44, 45, 46] (by decide +kernel) (by decide +kernel)
set_option maxRecDepth 20000 in
theorem gX1_at_X1_backgroundOf : GoodIn wsX1_at (wsV RX1 66 RX1 yX1_backgroundOf wsX1_backgroundOf) := goodIn_app (goodIn_of _ (by decide +kernel)) ggX1_at_X1_backgroundOf
theorem dX1_at_0 : decode cX1_at 0 = .ok (.aload_n 0, 1) := by decide +kernel
theorem dX1_at_1 : decode cX1_at 1 = .ok (.iload_n 1, 1) := by decide +kernel
theorem dX1_at_2 : decode cX1_at 2 = .ok (.iload_n 2, 1) := by decide +kernel
theorem dX1_at_3 : decode cX1_at 3 = .ok (.invokevirtual 50, 3) := by decide +kernel
theorem dX1_at_6 : decode cX1_at 6 = .ok (.ifCond .eq 12, 3) := by decide +kernel
theorem dX1_at_9 : decode cX1_at 9 = .ok (.iload_n 3, 1) := by decide +kernel
theorem dX1_at_10 : decode cX1_at 10 = .ok (.iconst 0, 1) := by decide +kernel
theorem dX1_at_11 : decode cX1_at 11 = .ok (.iconst 2, 1) := by decide +kernel
theorem dX1_at_12 : decode cX1_at 12 = .ok (.invokestatic 46, 3) := by decide +kernel
theorem dX1_at_15 : decode cX1_at 15 = .ok (.ifCond .ne 5, 3) := by decide +kernel
theorem dX1_at_18 : decode cX1_at 18 = .ok (.iconst (-1), 1) := by decide +kernel
theorem dX1_at_19 : decode cX1_at 19 = .ok (.ireturn, 1) := by decide +kernel
theorem dX1_at_20 : decode cX1_at 20 = .ok (.iload_n 3, 1) := by decide +kernel
theorem dX1_at_21 : decode cX1_at 21 = .ok (.ifCond .ne 17, 3) := by decide +kernel
theorem dX1_at_24 : decode cX1_at 24 = .ok (.aload_n 0, 1) := by decide +kernel
theorem dX1_at_25 : decode cX1_at 25 = .ok (.getfield 7, 3) := by decide +kernel
theorem dX1_at_28 : decode cX1_at 28 = .ok (.bipush 8, 2) := by decide +kernel
theorem dX1_at_30 : decode cX1_at 30 = .ok (.iload_n 1, 1) := by decide +kernel
theorem dX1_at_31 : decode cX1_at 31 = .ok (.imul, 1) := by decide +kernel
theorem dX1_at_32 : decode cX1_at 32 = .ok (.iload_n 2, 1) := by decide +kernel
theorem dX1_at_33 : decode cX1_at 33 = .ok (.iadd, 1) := by decide +kernel
theorem dX1_at_34 : decode cX1_at 34 = .ok (.iaload, 1) := by decide +kernel
theorem dX1_at_35 : decode cX1_at 35 = .ok (.goto 27, 3) := by decide +kernel
theorem dX1_at_38 : decode cX1_at 38 = .ok (.iload_n 3, 1) := by decide +kernel
theorem dX1_at_39 : decode cX1_at 39 = .ok (.iconst 1, 1) := by decide +kernel
theorem dX1_at_40 : decode cX1_at 40 = .ok (.if_icmp .ne 12, 3) := by decide +kernel
theorem dX1_at_43 : decode cX1_at 43 = .ok (.aload_n 0, 1) := by decide +kernel
theorem dX1_at_44 : decode cX1_at 44 = .ok (.iload_n 1, 1) := by decide +kernel
theorem dX1_at_45 : decode cX1_at 45 = .ok (.iload_n 2, 1) := by decide +kernel
theorem dX1_at_46 : decode cX1_at 46 = .ok (.invokevirtual 58, 3) := by decide +kernel
theorem dX1_at_49 : decode cX1_at 49 = .ok (.goto 13, 3) := by decide +kernel
theorem dX1_at_52 : decode cX1_at 52 = .ok (.aload_n 0, 1) := by decide +kernel
theorem dX1_at_53 : decode cX1_at 53 = .ok (.aload_n 0, 1) := by decide +kernel
theorem dX1_at_54 : decode cX1_at 54 = .ok (.invokevirtual 62, 3) := by decide +kernel
theorem dX1_at_57 : decode cX1_at 57 = .ok (.iload_n 1, 1) := by decide +kernel
theorem dX1_at_58 : decode cX1_at 58 = .ok (.iload_n 2, 1) := by decide +kernel
theorem dX1_at_59 : decode cX1_at 59 = .ok (.invokevirtual 66, 3) := by decide +kernel
theorem dX1_at_62 : decode cX1_at 62 = .ok (.ireturn, 1) := by decide +kernel
set_option maxRecDepth 20000 in
theorem ggX1_placeOf_X1_isVoice : GoodIn wsX1_placeOf wsX1_isVoice := goodIn_r _ [7, 8, 9, 10, 6, 11, 12, 13, 14, 15, 16, 17, 18, 19, 20, 21, 22, 23, 24] (by decide +kernel) (by decide +kernel)
set_option maxRecDepth 20000 in
theorem gX1_placeOf_X1_isVoice : GoodIn wsX1_placeOf (wsV RX1 69 RX1 yX1_isVoice wsX1_isVoice) := goodIn_app (goodIn_of _ (by decide +kernel)) ggX1_placeOf_X1_isVoice
set_option maxRecDepth 20000 in
theorem ggX1_placeOf_X1_in : GoodIn wsX1_placeOf wsX1_in := goodIn_r _ [11] (by decide +kernel) (by decide +kernel)
set_option maxRecDepth 20000 in
theorem gX1_placeOf_X1_in : GoodIn wsX1_placeOf (va_wsS RX1 46 yX1_in wsX1_in) := goodIn_app (goodIn_of _ (by decide +kernel)) ggX1_placeOf_X1_in
theorem dX1_placeOf_0 : decode cX1_placeOf 0 = .ok (.aload_n 0, 1) := by decide +kernel
theorem dX1_placeOf_1 : decode cX1_placeOf 1 = .ok (.iload_n 1, 1) := by decide +kernel
theorem dX1_placeOf_2 : decode cX1_placeOf 2 = .ok (.invokevirtual 69, 3) := by decide +kernel
theorem dX1_placeOf_5 : decode cX1_placeOf 5 = .ok (.ifCond .eq 44, 3) := by decide +kernel
theorem dX1_placeOf_8 : decode cX1_placeOf 8 = .ok (.iload_n 2, 1) := by decide +kernel
theorem dX1_placeOf_9 : decode cX1_placeOf 9 = .ok (.ifCond .ne 17, 3) := by decide +kernel
theorem dX1_placeOf_12 : decode cX1_placeOf 12 = .ok (.iload_n 3, 1) := by decide +kernel
theorem dX1_placeOf_13 : decode cX1_placeOf 13 = .ok (.iconst 0, 1) := by decide +kernel
theorem dX1_placeOf_14 : decode cX1_placeOf 14 = .ok (.aload_n 0, 1) := by decide +kernel
theorem dX1_placeOf_15 : decode cX1_placeOf 15 = .ok (.getfield 36, 3) := by decide +kernel
theorem dX1_placeOf_18 : decode cX1_placeOf 18 = .ok (.iconst 1, 1) := by decide +kernel
theorem dX1_placeOf_19 : decode cX1_placeOf 19 = .ok (.isub, 1) := by decide +kernel
theorem dX1_placeOf_20 : decode cX1_placeOf 20 = .ok (.invokestatic 46, 3) := by decide +kernel
theorem dX1_placeOf_23 : decode cX1_placeOf 23 = .ok (.ifCond .ne 22, 3) := by decide +kernel
theorem dX1_placeOf_26 : decode cX1_placeOf 26 = .ok (.iload_n 2, 1) := by decide +kernel
theorem dX1_placeOf_27 : decode cX1_placeOf 27 = .ok (.iconst 1, 1) := by decide +kernel
theorem dX1_placeOf_28 : decode cX1_placeOf 28 = .ok (.if_icmp .ne 21, 3) := by decide +kernel
theorem dX1_placeOf_31 : decode cX1_placeOf 31 = .ok (.iload_n 3, 1) := by decide +kernel
theorem dX1_placeOf_32 : decode cX1_placeOf 32 = .ok (.iconst 0, 1) := by decide +kernel
theorem dX1_placeOf_33 : decode cX1_placeOf 33 = .ok (.aload_n 0, 1) := by decide +kernel
theorem dX1_placeOf_34 : decode cX1_placeOf 34 = .ok (.getfield 40, 3) := by decide +kernel
theorem dX1_placeOf_37 : decode cX1_placeOf 37 = .ok (.iconst 1, 1) := by decide +kernel
theorem dX1_placeOf_38 : decode cX1_placeOf 38 = .ok (.isub, 1) := by decide +kernel
theorem dX1_placeOf_39 : decode cX1_placeOf 39 = .ok (.invokestatic 46, 3) := by decide +kernel
theorem dX1_placeOf_42 : decode cX1_placeOf 42 = .ok (.ifCond .eq 7, 3) := by decide +kernel
theorem dX1_placeOf_45 : decode cX1_placeOf 45 = .ok (.iconst 1, 1) := by decide +kernel
theorem dX1_placeOf_46 : decode cX1_placeOf 46 = .ok (.goto 4, 3) := by decide +kernel
theorem dX1_placeOf_49 : decode cX1_placeOf 49 = .ok (.iconst 0, 1) := by decide +kernel
theorem dX1_placeOf_50 : decode cX1_placeOf 50 = .ok (.istore 4, 2) := by decide +kernel
theorem dX1_placeOf_52 : decode cX1_placeOf 52 = .ok (.iload 4, 2) := by decide +kernel
theorem dX1_placeOf_54 : decode cX1_placeOf 54 = .ok (.ifCond .eq 17, 3) := by decide +kernel
theorem dX1_placeOf_57 : decode cX1_placeOf 57 = .ok (.bipush 16, 2) := by decide +kernel
theorem dX1_placeOf_59 : decode cX1_placeOf 59 = .ok (.iload_n 1, 1) := by decide +kernel
theorem dX1_placeOf_60 : decode cX1_placeOf 60 = .ok (.imul, 1) := by decide +kernel
theorem dX1_placeOf_61 : decode cX1_placeOf 61 = .ok (.bipush 6, 2) := by decide +kernel
theorem dX1_placeOf_63 : decode cX1_placeOf 63 = .ok (.iload_n 2, 1) := by decide +kernel
theorem dX1_placeOf_64 : decode cX1_placeOf 64 = .ok (.imul, 1) := by decide +kernel
theorem dX1_placeOf_65 : decode cX1_placeOf 65 = .ok (.iadd, 1) := by decide +kernel
theorem dX1_placeOf_66 : decode cX1_placeOf 66 = .ok (.iload_n 3, 1) := by decide +kernel
theorem dX1_placeOf_67 : decode cX1_placeOf 67 = .ok (.iadd, 1) := by decide +kernel
theorem dX1_placeOf_68 : decode cX1_placeOf 68 = .ok (.goto 4, 3) := by decide +kernel
theorem dX1_placeOf_71 : decode cX1_placeOf 71 = .ok (.iconst (-1), 1) := by decide +kernel
theorem dX1_placeOf_72 : decode cX1_placeOf 72 = .ok (.ireturn, 1) := by decide +kernel
set_option maxRecDepth 20000 in
theorem ggX1_number_X1_placeOf : GoodIn wsX1_number wsX1_placeOf := goodIn_r _ [6, 7, 8, 9, 10, 11, 5, 12, 13, 14, 15, 16, 17, 18, 19, 20, 21, 22, 23, 24, 25, 26, 27, 28, 29] (by decide +kernel) (by decide +kernel)
set_option maxRecDepth 20000 in
theorem gX1_number_X1_placeOf : GoodIn wsX1_number (wsV RX1 73 RX1 yX1_placeOf wsX1_placeOf) := goodIn_app (goodIn_of _ (by decide +kernel)) ggX1_number_X1_placeOf
theorem dX1_number_0 : decode cX1_number 0 = .ok (.aload_n 0, 1) := by decide +kernel
theorem dX1_number_1 : decode cX1_number 1 = .ok (.iload_n 1, 1) := by decide +kernel
theorem dX1_number_2 : decode cX1_number 2 = .ok (.iload_n 2, 1) := by decide +kernel
theorem dX1_number_3 : decode cX1_number 3 = .ok (.iload_n 3, 1) := by decide +kernel
theorem dX1_number_4 : decode cX1_number 4 = .ok (.invokevirtual 73, 3) := by decide +kernel
theorem dX1_number_7 : decode cX1_number 7 = .ok (.istore 4, 2) := by decide +kernel
theorem dX1_number_9 : decode cX1_number 9 = .ok (.iload 4, 2) := by decide +kernel
theorem dX1_number_11 : decode cX1_number 11 = .ok (.ifCond .ge 7, 3) := by decide +kernel
theorem dX1_number_14 : decode cX1_number 14 = .ok (.iconst (-1), 1) := by decide +kernel
theorem dX1_number_15 : decode cX1_number 15 = .ok (.goto 10, 3) := by decide +kernel
theorem dX1_number_18 : decode cX1_number 18 = .ok (.aload_n 0, 1) := by decide +kernel
theorem dX1_number_19 : decode cX1_number 19 = .ok (.getfield 13, 3) := by decide +kernel
theorem dX1_number_22 : decode cX1_number 22 = .ok (.iload 4, 2) := by decide +kernel
theorem dX1_number_24 : decode cX1_number 24 = .ok (.iaload, 1) := by decide +kernel
theorem dX1_number_25 : decode cX1_number 25 = .ok (.ireturn, 1) := by decide +kernel
set_option maxRecDepth 20000 in
theorem ggX1_begin_X1_placeOf : GoodIn wsX1_begin wsX1_placeOf := goodIn_r _ [7, 8, 9, 10, 11, 12, 6, 13, 14, 15, 16, 17, 18, 19, 20, 21, 22, 23, 24, 25, 26, 27, 28, 29, 30] (by decide +kernel) (by decide +kernel)
set_option maxRecDepth 20000 in
theorem gX1_begin_X1_placeOf : GoodIn wsX1_begin (wsV RX1 73 RX1 yX1_placeOf wsX1_placeOf) := goodIn_app (goodIn_of _ (by decide +kernel)) ggX1_begin_X1_placeOf
set_option maxRecDepth 20000 in
theorem ggX1_begin_X1_in : GoodIn wsX1_begin wsX1_in := goodIn_r _ [17] (by decide +kernel) (by decide +kernel)
set_option maxRecDepth 20000 in
theorem gX1_begin_X1_in : GoodIn wsX1_begin (va_wsS RX1 46 yX1_in wsX1_in) := goodIn_app (goodIn_of _ (by decide +kernel)) ggX1_begin_X1_in
theorem dX1_begin_0 : decode cX1_begin 0 = .ok (.aload_n 0, 1) := by decide +kernel
theorem dX1_begin_1 : decode cX1_begin 1 = .ok (.iload_n 1, 1) := by decide +kernel
theorem dX1_begin_2 : decode cX1_begin 2 = .ok (.iload_n 2, 1) := by decide +kernel
theorem dX1_begin_3 : decode cX1_begin 3 = .ok (.iload_n 3, 1) := by decide +kernel
theorem dX1_begin_4 : decode cX1_begin 4 = .ok (.invokevirtual 73, 3) := by decide +kernel
theorem dX1_begin_7 : decode cX1_begin 7 = .ok (.istore 5, 2) := by decide +kernel
theorem dX1_begin_9 : decode cX1_begin 9 = .ok (.iload 5, 2) := by decide +kernel
theorem dX1_begin_11 : decode cX1_begin 11 = .ok (.ifCond .lt 14, 3) := by decide +kernel
theorem dX1_begin_14 : decode cX1_begin 14 = .ok (.iload 4, 2) := by decide +kernel
theorem dX1_begin_16 : decode cX1_begin 16 = .ok (.iconst 0, 1) := by decide +kernel
theorem dX1_begin_17 : decode cX1_begin 17 = .ok (.bipush 20, 2) := by decide +kernel
theorem dX1_begin_19 : decode cX1_begin 19 = .ok (.invokestatic 46, 3) := by decide +kernel
theorem dX1_begin_22 : decode cX1_begin 22 = .ok (.ifCond .ne 5, 3) := by decide +kernel
theorem dX1_begin_25 : decode cX1_begin 25 = .ok (.iconst (-1), 1) := by decide +kernel
theorem dX1_begin_26 : decode cX1_begin 26 = .ok (.ireturn, 1) := by decide +kernel
theorem dX1_begin_27 : decode cX1_begin 27 = .ok (.aload_n 0, 1) := by decide +kernel
theorem dX1_begin_28 : decode cX1_begin 28 = .ok (.getfield 16, 3) := by decide +kernel
theorem dX1_begin_31 : decode cX1_begin 31 = .ok (.iload 5, 2) := by decide +kernel
theorem dX1_begin_33 : decode cX1_begin 33 = .ok (.baload, 1) := by decide +kernel
theorem dX1_begin_34 : decode cX1_begin 34 = .ok (.ifCond .eq 6, 3) := by decide +kernel
theorem dX1_begin_37 : decode cX1_begin 37 = .ok (.bipush (-2), 2) := by decide +kernel
theorem dX1_begin_39 : decode cX1_begin 39 = .ok (.ireturn, 1) := by decide +kernel
theorem dX1_begin_40 : decode cX1_begin 40 = .ok (.aload_n 0, 1) := by decide +kernel
theorem dX1_begin_41 : decode cX1_begin 41 = .ok (.getfield 13, 3) := by decide +kernel
theorem dX1_begin_44 : decode cX1_begin 44 = .ok (.iload 5, 2) := by decide +kernel
theorem dX1_begin_46 : decode cX1_begin 46 = .ok (.iaload, 1) := by decide +kernel
theorem dX1_begin_47 : decode cX1_begin 47 = .ok (.istore 6, 2) := by decide +kernel
theorem dX1_begin_49 : decode cX1_begin 49 = .ok (.aload_n 0, 1) := by decide +kernel
theorem dX1_begin_50 : decode cX1_begin 50 = .ok (.getfield 13, 3) := by decide +kernel
theorem dX1_begin_53 : decode cX1_begin 53 = .ok (.iload 5, 2) := by decide +kernel
theorem dX1_begin_55 : decode cX1_begin 55 = .ok (.iload 4, 2) := by decide +kernel
theorem dX1_begin_57 : decode cX1_begin 57 = .ok (.iastore, 1) := by decide +kernel
theorem dX1_begin_58 : decode cX1_begin 58 = .ok (.iload 6, 2) := by decide +kernel
theorem dX1_begin_60 : decode cX1_begin 60 = .ok (.ireturn, 1) := by decide +kernel
set_option maxRecDepth 20000 in
theorem ggX1_bar_X1_placeOf : GoodIn wsX1_bar wsX1_placeOf := goodIn_r _ [7, 8, 9, 10, 11, 12, 6, 13, 14, 15, 16, 17, 18, 19, 20, 21, 22, 23, 24, 25, 26, 27, 28, 29, 30] (by decide +kernel) (by decide +kernel)
set_option maxRecDepth 20000 in
theorem gX1_bar_X1_placeOf : GoodIn wsX1_bar (wsV RX1 73 RX1 yX1_placeOf wsX1_placeOf) := goodIn_app (goodIn_of _ (by decide +kernel)) ggX1_bar_X1_placeOf
theorem dX1_bar_0 : decode cX1_bar 0 = .ok (.aload_n 0, 1) := by decide +kernel
theorem dX1_bar_1 : decode cX1_bar 1 = .ok (.iload_n 1, 1) := by decide +kernel
theorem dX1_bar_2 : decode cX1_bar 2 = .ok (.iload_n 2, 1) := by decide +kernel
theorem dX1_bar_3 : decode cX1_bar 3 = .ok (.iload_n 3, 1) := by decide +kernel
theorem dX1_bar_4 : decode cX1_bar 4 = .ok (.invokevirtual 73, 3) := by decide +kernel
theorem dX1_bar_7 : decode cX1_bar 7 = .ok (.istore 4, 2) := by decide +kernel
theorem dX1_bar_9 : decode cX1_bar 9 = .ok (.iload 4, 2) := by decide +kernel
theorem dX1_bar_11 : decode cX1_bar 11 = .ok (.ifCond .ge 5, 3) := by decide +kernel
theorem dX1_bar_14 : decode cX1_bar 14 = .ok (.iconst (-1), 1) := by decide +kernel
theorem dX1_bar_15 : decode cX1_bar 15 = .ok (.ireturn, 1) := by decide +kernel
theorem dX1_bar_16 : decode cX1_bar 16 = .ok (.aload_n 0, 1) := by decide +kernel
theorem dX1_bar_17 : decode cX1_bar 17 = .ok (.getfield 16, 3) := by decide +kernel
theorem dX1_bar_20 : decode cX1_bar 20 = .ok (.iload 4, 2) := by decide +kernel
theorem dX1_bar_22 : decode cX1_bar 22 = .ok (.baload, 1) := by decide +kernel
theorem dX1_bar_23 : decode cX1_bar 23 = .ok (.ifCond .eq 6, 3) := by decide +kernel
theorem dX1_bar_26 : decode cX1_bar 26 = .ok (.bipush (-2), 2) := by decide +kernel
theorem dX1_bar_28 : decode cX1_bar 28 = .ok (.ireturn, 1) := by decide +kernel
theorem dX1_bar_29 : decode cX1_bar 29 = .ok (.aload_n 0, 1) := by decide +kernel
theorem dX1_bar_30 : decode cX1_bar 30 = .ok (.getfield 13, 3) := by decide +kernel
theorem dX1_bar_33 : decode cX1_bar 33 = .ok (.iload 4, 2) := by decide +kernel
theorem dX1_bar_35 : decode cX1_bar 35 = .ok (.iaload, 1) := by decide +kernel
theorem dX1_bar_36 : decode cX1_bar 36 = .ok (.istore 5, 2) := by decide +kernel
theorem dX1_bar_38 : decode cX1_bar 38 = .ok (.aload_n 0, 1) := by decide +kernel
theorem dX1_bar_39 : decode cX1_bar 39 = .ok (.getfield 13, 3) := by decide +kernel
theorem dX1_bar_42 : decode cX1_bar 42 = .ok (.iload 4, 2) := by decide +kernel
theorem dX1_bar_44 : decode cX1_bar 44 = .ok (.iconst 0, 1) := by decide +kernel
theorem dX1_bar_45 : decode cX1_bar 45 = .ok (.iastore, 1) := by decide +kernel
theorem dX1_bar_46 : decode cX1_bar 46 = .ok (.aload_n 0, 1) := by decide +kernel
theorem dX1_bar_47 : decode cX1_bar 47 = .ok (.getfield 16, 3) := by decide +kernel
theorem dX1_bar_50 : decode cX1_bar 50 = .ok (.iload 4, 2) := by decide +kernel
theorem dX1_bar_52 : decode cX1_bar 52 = .ok (.iconst 1, 1) := by decide +kernel
theorem dX1_bar_53 : decode cX1_bar 53 = .ok (.bastore, 1) := by decide +kernel
theorem dX1_bar_54 : decode cX1_bar 54 = .ok (.iload 5, 2) := by decide +kernel
theorem dX1_bar_56 : decode cX1_bar 56 = .ok (.ireturn, 1) := by decide +kernel
set_option maxRecDepth 20000 in
theorem ggX1_judge_X1_in : GoodIn wsX1_judge wsX1_in := goodIn_r _ [5] (by decide +kernel) (by decide +kernel)
set_option maxRecDepth 20000 in
theorem gX1_judge_X1_in : GoodIn wsX1_judge (va_wsS RX1 46 yX1_in wsX1_in) := goodIn_app (goodIn_of _ (by decide +kernel)) ggX1_judge_X1_in
theorem dX1_judge_0 : decode cX1_judge 0 = .ok (.iload_n 1, 1) := by decide +kernel
theorem dX1_judge_1 : decode cX1_judge 1 = .ok (.iconst 0, 1) := by decide +kernel
theorem dX1_judge_2 : decode cX1_judge 2 = .ok (.iconst 2, 1) := by decide +kernel
theorem dX1_judge_3 : decode cX1_judge 3 = .ok (.invokestatic 46, 3) := by decide +kernel
theorem dX1_judge_6 : decode cX1_judge 6 = .ok (.ifCond .ne 5, 3) := by decide +kernel
theorem dX1_judge_9 : decode cX1_judge 9 = .ok (.iconst (-1), 1) := by decide +kernel
theorem dX1_judge_10 : decode cX1_judge 10 = .ok (.ireturn, 1) := by decide +kernel
theorem dX1_judge_11 : decode cX1_judge 11 = .ok (.aload_n 0, 1) := by decide +kernel
theorem dX1_judge_12 : decode cX1_judge 12 = .ok (.getfield 76, 3) := by decide +kernel
theorem dX1_judge_15 : decode cX1_judge 15 = .ok (.istore_n 2, 1) := by decide +kernel
theorem dX1_judge_16 : decode cX1_judge 16 = .ok (.aload_n 0, 1) := by decide +kernel
theorem dX1_judge_17 : decode cX1_judge 17 = .ok (.iload_n 1, 1) := by decide +kernel
theorem dX1_judge_18 : decode cX1_judge 18 = .ok (.putfield 76, 3) := by decide +kernel
theorem dX1_judge_21 : decode cX1_judge 21 = .ok (.iload_n 2, 1) := by decide +kernel
theorem dX1_judge_22 : decode cX1_judge 22 = .ok (.ireturn, 1) := by decide +kernel
theorem dX1_costOf_0 : decode cX1_costOf 0 = .ok (.iload_n 1, 1) := by decide +kernel
theorem dX1_costOf_1 : decode cX1_costOf 1 = .ok (.iload_n 1, 1) := by decide +kernel
theorem dX1_costOf_2 : decode cX1_costOf 2 = .ok (.imul, 1) := by decide +kernel
theorem dX1_costOf_3 : decode cX1_costOf 3 = .ok (.istore_n 2, 1) := by decide +kernel
theorem dX1_costOf_4 : decode cX1_costOf 4 = .ok (.iload_n 0, 1) := by decide +kernel
theorem dX1_costOf_5 : decode cX1_costOf 5 = .ok (.ifCond .ne 7, 3) := by decide +kernel
theorem dX1_costOf_8 : decode cX1_costOf 8 = .ok (.iload_n 1, 1) := by decide +kernel
theorem dX1_costOf_9 : decode cX1_costOf 9 = .ok (.goto 25, 3) := by decide +kernel
theorem dX1_costOf_12 : decode cX1_costOf 12 = .ok (.iload_n 0, 1) := by decide +kernel
theorem dX1_costOf_13 : decode cX1_costOf 13 = .ok (.iconst 1, 1) := by decide +kernel
theorem dX1_costOf_14 : decode cX1_costOf 14 = .ok (.if_icmp .eq 9, 3) := by decide +kernel
theorem dX1_costOf_17 : decode cX1_costOf 17 = .ok (.iload_n 2, 1) := by decide +kernel
theorem dX1_costOf_18 : decode cX1_costOf 18 = .ok (.bipush 100, 2) := by decide +kernel
theorem dX1_costOf_20 : decode cX1_costOf 20 = .ok (.if_icmp .gt 7, 3) := by decide +kernel
theorem dX1_costOf_23 : decode cX1_costOf 23 = .ok (.iload_n 2, 1) := by decide +kernel
theorem dX1_costOf_24 : decode cX1_costOf 24 = .ok (.goto 10, 3) := by decide +kernel
theorem dX1_costOf_27 : decode cX1_costOf 27 = .ok (.bipush 90, 2) := by decide +kernel
theorem dX1_costOf_29 : decode cX1_costOf 29 = .ok (.iload_n 2, 1) := by decide +kernel
theorem dX1_costOf_30 : decode cX1_costOf 30 = .ok (.bipush 10, 2) := by decide +kernel
theorem dX1_costOf_32 : decode cX1_costOf 32 = .ok (.idiv, 1) := by decide +kernel
theorem dX1_costOf_33 : decode cX1_costOf 33 = .ok (.iadd, 1) := by decide +kernel
theorem dX1_costOf_34 : decode cX1_costOf 34 = .ok (.ireturn, 1) := by decide +kernel
set_option maxRecDepth 20000 in
theorem ggX1_cost_X1_in : GoodIn wsX1_cost wsX1_in := goodIn_r _ [7] (by decide +kernel) (by decide +kernel)
set_option maxRecDepth 20000 in
theorem gX1_cost_X1_in : GoodIn wsX1_cost (va_wsS RX1 46 yX1_in wsX1_in) := goodIn_app (goodIn_of _ (by decide +kernel)) ggX1_cost_X1_in
set_option maxRecDepth 20000 in
theorem ggX1_cost_X1_costOf : GoodIn wsX1_cost wsX1_costOf := goodIn_r _ [10] (by decide +kernel) (by decide +kernel)
set_option maxRecDepth 20000 in
theorem gX1_cost_X1_costOf : GoodIn wsX1_cost (va_wsS RX1 87 yX1_costOf wsX1_costOf) := goodIn_app (goodIn_of _ (by decide +kernel)) ggX1_cost_X1_costOf
theorem dX1_cost_0 : decode cX1_cost 0 = .ok (.iload_n 1, 1) := by decide +kernel
theorem dX1_cost_1 : decode cX1_cost 1 = .ok (.iconst 0, 1) := by decide +kernel
theorem dX1_cost_2 : decode cX1_cost 2 = .ok (.iconst 2, 1) := by decide +kernel
theorem dX1_cost_3 : decode cX1_cost 3 = .ok (.invokestatic 46, 3) := by decide +kernel
theorem dX1_cost_6 : decode cX1_cost 6 = .ok (.ifCond .eq 14, 3) := by decide +kernel
theorem dX1_cost_9 : decode cX1_cost 9 = .ok (.iload_n 2, 1) := by decide +kernel
theorem dX1_cost_10 : decode cX1_cost 10 = .ok (.iconst 0, 1) := by decide +kernel
theorem dX1_cost_11 : decode cX1_cost 11 = .ok (.sipush 2000, 3) := by decide +kernel
theorem dX1_cost_14 : decode cX1_cost 14 = .ok (.invokestatic 46, 3) := by decide +kernel
theorem dX1_cost_17 : decode cX1_cost 17 = .ok (.ifCond .ne 5, 3) := by decide +kernel
theorem dX1_cost_20 : decode cX1_cost 20 = .ok (.iconst (-1), 1) := by decide +kernel
theorem dX1_cost_21 : decode cX1_cost 21 = .ok (.ireturn, 1) := by decide +kernel
theorem dX1_cost_22 : decode cX1_cost 22 = .ok (.aload_n 0, 1) := by decide +kernel
theorem dX1_cost_23 : decode cX1_cost 23 = .ok (.dup, 1) := by decide +kernel
theorem dX1_cost_24 : decode cX1_cost 24 = .ok (.getfield 79, 3) := by decide +kernel
theorem dX1_cost_27 : decode cX1_cost 27 = .ok (.iload_n 1, 1) := by decide +kernel
theorem dX1_cost_28 : decode cX1_cost 28 = .ok (.ifCond .ne 7, 3) := by decide +kernel
theorem dX1_cost_31 : decode cX1_cost 31 = .ok (.lconst 1, 1) := by decide +kernel
theorem dX1_cost_32 : decode cX1_cost 32 = .ok (.goto 17, 3) := by decide +kernel
theorem dX1_cost_35 : decode cX1_cost 35 = .ok (.iload_n 1, 1) := by decide +kernel
theorem dX1_cost_36 : decode cX1_cost 36 = .ok (.iconst 1, 1) := by decide +kernel
theorem dX1_cost_37 : decode cX1_cost 37 = .ok (.if_icmp .ne 9, 3) := by decide +kernel
theorem dX1_cost_40 : decode cX1_cost 40 = .ok (.ldc2_w 83, 3) := by decide +kernel
theorem dX1_cost_43 : decode cX1_cost 43 = .ok (.goto 6, 3) := by decide +kernel
theorem dX1_cost_46 : decode cX1_cost 46 = .ok (.ldc2_w 85, 3) := by decide +kernel
theorem dX1_cost_49 : decode cX1_cost 49 = .ok (.ladd, 1) := by decide +kernel
theorem dX1_cost_50 : decode cX1_cost 50 = .ok (.putfield 79, 3) := by decide +kernel
theorem dX1_cost_53 : decode cX1_cost 53 = .ok (.iload_n 1, 1) := by decide +kernel
theorem dX1_cost_54 : decode cX1_cost 54 = .ok (.iload_n 2, 1) := by decide +kernel
theorem dX1_cost_55 : decode cX1_cost 55 = .ok (.invokestatic 87, 3) := by decide +kernel
theorem dX1_cost_58 : decode cX1_cost 58 = .ok (.ireturn, 1) := by decide +kernel
theorem dX1_size_0 : decode cX1_size 0 = .ok (.iload_n 0, 1) := by decide +kernel
theorem dX1_size_1 : decode cX1_size 1 = .ok (.ifCond .ge 8, 3) := by decide +kernel
theorem dX1_size_4 : decode cX1_size 4 = .ok (.iload_n 0, 1) := by decide +kernel
theorem dX1_size_5 : decode cX1_size 5 = .ok (.ineg, 1) := by decide +kernel
theorem dX1_size_6 : decode cX1_size 6 = .ok (.goto 4, 3) := by decide +kernel
theorem dX1_size_9 : decode cX1_size 9 = .ok (.iload_n 0, 1) := by decide +kernel
theorem dX1_size_10 : decode cX1_size 10 = .ok (.ireturn, 1) := by decide +kernel
set_option maxRecDepth 20000 in
theorem ggX1_missNow_X1_sumAt : GoodIn wsX1_missNow wsX1_sumAt := goodIn_r _ [9, 10, 11, 12, 13, 8, 14, 15, 22, 23, 24, 25, 26, 27, 28, 29, 30, 31, 32, 33, 34] (by decide +kernel) (by decide +kernel)
set_option maxRecDepth 20000 in
theorem gX1_missNow_X1_sumAt : GoodIn wsX1_missNow (wsV RX1 58 RX1 yX1_sumAt wsX1_sumAt) := goodIn_app (goodIn_of _ (by decide +kernel)) ggX1_missNow_X1_sumAt
set_option maxRecDepth 20000 in
theorem ggX1_missNow_X1_size : GoodIn wsX1_missNow wsX1_size := goodIn_r _ [18] (by decide +kernel) (by decide +kernel)
set_option maxRecDepth 20000 in
theorem gX1_missNow_X1_size : GoodIn wsX1_missNow (va_wsS RX1 90 yX1_size wsX1_size) := goodIn_app (goodIn_of _ (by decide +kernel)) ggX1_missNow_X1_size
set_option maxRecDepth 20000 in
theorem ggX1_missNow_X1_costOf : GoodIn wsX1_missNow wsX1_costOf := goodIn_r _ [21] (by decide +kernel) (by decide +kernel)
set_option maxRecDepth 20000 in
theorem gX1_missNow_X1_costOf : GoodIn wsX1_missNow (va_wsS RX1 87 yX1_costOf wsX1_costOf) := goodIn_app (goodIn_of _ (by decide +kernel)) ggX1_missNow_X1_costOf
theorem dX1_missNow_0 : decode cX1_missNow 0 = .ok (.iconst 0, 1) := by decide +kernel
theorem dX1_missNow_1 : decode cX1_missNow 1 = .ok (.istore_n 1, 1) := by decide +kernel
theorem dX1_missNow_2 : decode cX1_missNow 2 = .ok (.iconst 0, 1) := by decide +kernel
theorem dX1_missNow_3 : decode cX1_missNow 3 = .ok (.istore_n 2, 1) := by decide +kernel
theorem dX1_missNow_4 : decode cX1_missNow 4 = .ok (.iload_n 2, 1) := by decide +kernel
theorem dX1_missNow_5 : decode cX1_missNow 5 = .ok (.aload_n 0, 1) := by decide +kernel
theorem dX1_missNow_6 : decode cX1_missNow 6 = .ok (.getfield 36, 3) := by decide +kernel
theorem dX1_missNow_9 : decode cX1_missNow 9 = .ok (.if_icmp .ge 56, 3) := by decide +kernel
theorem dX1_missNow_12 : decode cX1_missNow 12 = .ok (.iconst 0, 1) := by decide +kernel
theorem dX1_missNow_13 : decode cX1_missNow 13 = .ok (.istore_n 3, 1) := by decide +kernel
theorem dX1_missNow_14 : decode cX1_missNow 14 = .ok (.iload_n 3, 1) := by decide +kernel
theorem dX1_missNow_15 : decode cX1_missNow 15 = .ok (.aload_n 0, 1) := by decide +kernel
theorem dX1_missNow_16 : decode cX1_missNow 16 = .ok (.getfield 40, 3) := by decide +kernel
theorem dX1_missNow_19 : decode cX1_missNow 19 = .ok (.if_icmp .ge 40, 3) := by decide +kernel
theorem dX1_missNow_22 : decode cX1_missNow 22 = .ok (.iload_n 1, 1) := by decide +kernel
theorem dX1_missNow_23 : decode cX1_missNow 23 = .ok (.aload_n 0, 1) := by decide +kernel
theorem dX1_missNow_24 : decode cX1_missNow 24 = .ok (.getfield 76, 3) := by decide +kernel
theorem dX1_missNow_27 : decode cX1_missNow 27 = .ok (.aload_n 0, 1) := by decide +kernel
theorem dX1_missNow_28 : decode cX1_missNow 28 = .ok (.getfield 7, 3) := by decide +kernel
theorem dX1_missNow_31 : decode cX1_missNow 31 = .ok (.bipush 8, 2) := by decide +kernel
theorem dX1_missNow_33 : decode cX1_missNow 33 = .ok (.iload_n 2, 1) := by decide +kernel
theorem dX1_missNow_34 : decode cX1_missNow 34 = .ok (.imul, 1) := by decide +kernel
theorem dX1_missNow_35 : decode cX1_missNow 35 = .ok (.iload_n 3, 1) := by decide +kernel
theorem dX1_missNow_36 : decode cX1_missNow 36 = .ok (.iadd, 1) := by decide +kernel
theorem dX1_missNow_37 : decode cX1_missNow 37 = .ok (.iaload, 1) := by decide +kernel
theorem dX1_missNow_38 : decode cX1_missNow 38 = .ok (.aload_n 0, 1) := by decide +kernel
theorem dX1_missNow_39 : decode cX1_missNow 39 = .ok (.iload_n 2, 1) := by decide +kernel
theorem dX1_missNow_40 : decode cX1_missNow 40 = .ok (.iload_n 3, 1) := by decide +kernel
theorem dX1_missNow_41 : decode cX1_missNow 41 = .ok (.invokevirtual 58, 3) := by decide +kernel
theorem dX1_missNow_44 : decode cX1_missNow 44 = .ok (.isub, 1) := by decide +kernel
theorem dX1_missNow_45 : decode cX1_missNow 45 = .ok (.invokestatic 90, 3) := by decide +kernel
theorem dX1_missNow_48 : decode cX1_missNow 48 = .ok (.invokestatic 87, 3) := by decide +kernel
theorem dX1_missNow_51 : decode cX1_missNow 51 = .ok (.iadd, 1) := by decide +kernel
theorem dX1_missNow_52 : decode cX1_missNow 52 = .ok (.istore_n 1, 1) := by decide +kernel
theorem dX1_missNow_53 : decode cX1_missNow 53 = .ok (.iinc 3 1, 3) := by decide +kernel
theorem dX1_missNow_56 : decode cX1_missNow 56 = .ok (.goto (-42), 3) := by decide +kernel
theorem dX1_missNow_59 : decode cX1_missNow 59 = .ok (.iinc 2 1, 3) := by decide +kernel
theorem dX1_missNow_62 : decode cX1_missNow 62 = .ok (.goto (-58), 3) := by decide +kernel
theorem dX1_missNow_65 : decode cX1_missNow 65 = .ok (.iload_n 1, 1) := by decide +kernel
theorem dX1_missNow_66 : decode cX1_missNow 66 = .ok (.ireturn, 1) := by decide +kernel
set_option maxRecDepth 20000 in
theorem ggX1_miss_X1_missNow : GoodIn wsX1_miss wsX1_missNow := goodIn_r _ [5, 6, 7, 8, 9, 10, 11, 12, 4, 13, 14, 15, 16, 17, 18, 19, 20, 21, 22, 23, 24, 25, 26, 27, 28, 29, 30, 31, 32, 33, 34, 35, 36, 37, 38] (by decide +kernel) (by decide +kernel)
set_option maxRecDepth 20000 in
theorem gX1_miss_X1_missNow : GoodIn wsX1_miss (wsV RX1 94 RX1 yX1_missNow wsX1_missNow) := goodIn_app (goodIn_of _ (by decide +kernel)) ggX1_miss_X1_missNow
theorem dX1_miss_0 : decode cX1_miss 0 = .ok (.aload_n 0, 1) := by decide +kernel
theorem dX1_miss_1 : decode cX1_miss 1 = .ok (.invokevirtual 94, 3) := by decide +kernel
theorem dX1_miss_4 : decode cX1_miss 4 = .ok (.ireturn, 1) := by decide +kernel
set_option maxRecDepth 20000 in
theorem ggX1_better_X1_missNow : GoodIn wsX1_better wsX1_missNow := goodIn_r _ [7, 8, 9, 10, 11, 12, 13, 14, 6, 15, 16, 17, 18, 19, 20, 2, 21, 22, 23, 24, 25, 26, 30, 31, 32, 33, 34, 35, 36, 37, 38, 39, 40, 41, 42] (by decide +kernel) (by decide +kernel)
set_option maxRecDepth 20000 in
theorem gX1_better_X1_missNow : GoodIn wsX1_better (wsV RX1 94 RX1 yX1_missNow wsX1_missNow) := goodIn_app (goodIn_of _ (by decide +kernel)) ggX1_better_X1_missNow
set_option maxRecDepth 20000 in
theorem ggX1_better_X1_in : GoodIn wsX1_better wsX1_in := goodIn_r _ [29] (by decide +kernel) (by decide +kernel)
set_option maxRecDepth 20000 in
theorem gX1_better_X1_in : GoodIn wsX1_better (va_wsS RX1 46 yX1_in wsX1_in) := goodIn_app (goodIn_of _ (by decide +kernel)) ggX1_better_X1_in
theorem dX1_better_0 : decode cX1_better 0 = .ok (.aload_n 0, 1) := by decide +kernel
theorem dX1_better_1 : decode cX1_better 1 = .ok (.getfield 16, 3) := by decide +kernel
theorem dX1_better_4 : decode cX1_better 4 = .ok (.iload_n 1, 1) := by decide +kernel
theorem dX1_better_5 : decode cX1_better 5 = .ok (.baload, 1) := by decide +kernel
theorem dX1_better_6 : decode cX1_better 6 = .ok (.ifCond .eq 4, 3) := by decide +kernel
theorem dX1_better_9 : decode cX1_better 9 = .ok (.return_, 1) := by decide +kernel
theorem dX1_better_10 : decode cX1_better 10 = .ok (.aload_n 0, 1) := by decide +kernel
theorem dX1_better_11 : decode cX1_better 11 = .ok (.getfield 13, 3) := by decide +kernel
theorem dX1_better_14 : decode cX1_better 14 = .ok (.iload_n 1, 1) := by decide +kernel
theorem dX1_better_15 : decode cX1_better 15 = .ok (.iaload, 1) := by decide +kernel
theorem dX1_better_16 : decode cX1_better 16 = .ok (.istore_n 2, 1) := by decide +kernel
theorem dX1_better_17 : decode cX1_better 17 = .ok (.iload_n 2, 1) := by decide +kernel
theorem dX1_better_18 : decode cX1_better 18 = .ok (.istore_n 3, 1) := by decide +kernel
theorem dX1_better_19 : decode cX1_better 19 = .ok (.aload_n 0, 1) := by decide +kernel
theorem dX1_better_20 : decode cX1_better 20 = .ok (.invokevirtual 94, 3) := by decide +kernel
theorem dX1_better_23 : decode cX1_better 23 = .ok (.istore 4, 2) := by decide +kernel
theorem dX1_better_25 : decode cX1_better 25 = .ok (.iload_n 2, 1) := by decide +kernel
theorem dX1_better_26 : decode cX1_better 26 = .ok (.iconst 1, 1) := by decide +kernel
theorem dX1_better_27 : decode cX1_better 27 = .ok (.isub, 1) := by decide +kernel
theorem dX1_better_28 : decode cX1_better 28 = .ok (.istore 5, 2) := by decide +kernel
theorem dX1_better_30 : decode cX1_better 30 = .ok (.iload 5, 2) := by decide +kernel
theorem dX1_better_32 : decode cX1_better 32 = .ok (.iload_n 2, 1) := by decide +kernel
theorem dX1_better_33 : decode cX1_better 33 = .ok (.iconst 1, 1) := by decide +kernel
theorem dX1_better_34 : decode cX1_better 34 = .ok (.iadd, 1) := by decide +kernel
theorem dX1_better_35 : decode cX1_better 35 = .ok (.if_icmp .gt 64, 3) := by decide +kernel
theorem dX1_better_38 : decode cX1_better 38 = .ok (.iload 5, 2) := by decide +kernel
theorem dX1_better_40 : decode cX1_better 40 = .ok (.iconst 0, 1) := by decide +kernel
theorem dX1_better_41 : decode cX1_better 41 = .ok (.bipush 20, 2) := by decide +kernel
theorem dX1_better_43 : decode cX1_better 43 = .ok (.invokestatic 46, 3) := by decide +kernel
theorem dX1_better_46 : decode cX1_better 46 = .ok (.ifCond .eq 47, 3) := by decide +kernel
theorem dX1_better_49 : decode cX1_better 49 = .ok (.aload_n 0, 1) := by decide +kernel
theorem dX1_better_50 : decode cX1_better 50 = .ok (.getfield 13, 3) := by decide +kernel
theorem dX1_better_53 : decode cX1_better 53 = .ok (.iload_n 1, 1) := by decide +kernel
theorem dX1_better_54 : decode cX1_better 54 = .ok (.iload 5, 2) := by decide +kernel
theorem dX1_better_56 : decode cX1_better 56 = .ok (.iastore, 1) := by decide +kernel
theorem dX1_better_57 : decode cX1_better 57 = .ok (.aload_n 0, 1) := by decide +kernel
theorem dX1_better_58 : decode cX1_better 58 = .ok (.invokevirtual 94, 3) := by decide +kernel
theorem dX1_better_61 : decode cX1_better 61 = .ok (.istore 6, 2) := by decide +kernel
theorem dX1_better_63 : decode cX1_better 63 = .ok (.iload 6, 2) := by decide +kernel
theorem dX1_better_65 : decode cX1_better 65 = .ok (.iload 4, 2) := by decide +kernel
theorem dX1_better_67 : decode cX1_better 67 = .ok (.if_icmp .ge 8, 3) := by decide +kernel
theorem dX1_better_70 : decode cX1_better 70 = .ok (.iload 5, 2) := by decide +kernel
theorem dX1_better_72 : decode cX1_better 72 = .ok (.goto 4, 3) := by decide +kernel
theorem dX1_better_75 : decode cX1_better 75 = .ok (.iload_n 3, 1) := by decide +kernel
theorem dX1_better_76 : decode cX1_better 76 = .ok (.istore_n 3, 1) := by decide +kernel
theorem dX1_better_77 : decode cX1_better 77 = .ok (.iload 6, 2) := by decide +kernel
theorem dX1_better_79 : decode cX1_better 79 = .ok (.iload 4, 2) := by decide +kernel
theorem dX1_better_81 : decode cX1_better 81 = .ok (.if_icmp .ge 8, 3) := by decide +kernel
theorem dX1_better_84 : decode cX1_better 84 = .ok (.iload 6, 2) := by decide +kernel
theorem dX1_better_86 : decode cX1_better 86 = .ok (.goto 5, 3) := by decide +kernel
theorem dX1_better_89 : decode cX1_better 89 = .ok (.iload 4, 2) := by decide +kernel
theorem dX1_better_91 : decode cX1_better 91 = .ok (.istore 4, 2) := by decide +kernel
theorem dX1_better_93 : decode cX1_better 93 = .ok (.iinc 5 2, 3) := by decide +kernel
theorem dX1_better_96 : decode cX1_better 96 = .ok (.goto (-66), 3) := by decide +kernel
theorem dX1_better_99 : decode cX1_better 99 = .ok (.aload_n 0, 1) := by decide +kernel
theorem dX1_better_100 : decode cX1_better 100 = .ok (.getfield 13, 3) := by decide +kernel
theorem dX1_better_103 : decode cX1_better 103 = .ok (.iload_n 1, 1) := by decide +kernel
theorem dX1_better_104 : decode cX1_better 104 = .ok (.iload_n 3, 1) := by decide +kernel
theorem dX1_better_105 : decode cX1_better 105 = .ok (.iastore, 1) := by decide +kernel
theorem dX1_better_106 : decode cX1_better 106 = .ok (.return_, 1) := by decide +kernel
set_option maxRecDepth 20000 in
theorem ggX1_rounds_X1_in : GoodIn wsX1_rounds wsX1_in := goodIn_r _ [8] (by decide +kernel) (by decide +kernel)
set_option maxRecDepth 20000 in
theorem gX1_rounds_X1_in : GoodIn wsX1_rounds (va_wsS RX1 46 yX1_in wsX1_in) := goodIn_app (goodIn_of _ (by decide +kernel)) ggX1_rounds_X1_in
set_option maxRecDepth 20000 in
theorem ggX1_rounds_X1_better : GoodIn wsX1_rounds wsX1_better := goodIn_r _ [12, 13, 14, 15, 16, 17, 7, 18, 2, 3, 19, 20, 21, 22, 23, 24, 1, 25, 26, 27, 28, 29, 30, 31, 32, 33, 34, 5, 6, 8, 35, 36, 37, 38, 39, 40, 41, 42, 43, 44, 45, 46, 47] (by decide +kernel) (by decide +kernel)
set_option maxRecDepth 20000 in
theorem gX1_rounds_X1_better : GoodIn wsX1_rounds (wsV RX1 97 RX1 yX1_better wsX1_better) := goodIn_app (goodIn_of _ (by decide +kernel)) ggX1_rounds_X1_better
set_option maxRecDepth 20000 in
theorem ggX1_rounds_X1_missNow : GoodIn wsX1_rounds wsX1_missNow := goodIn_r _ [18, 2, 3, 19, 20, 21, 22, 23, 7, 24, 1, 25, 26, 27, 28, 14, 29, 30, 31, 32, 33, 34, 35, 36, 37, 38, 39, 40, 41, 42, 43, 44, 45, 46, 47] (by decide +kernel) (by decide +kernel)
set_option maxRecDepth 20000 in
theorem gX1_rounds_X1_missNow : GoodIn wsX1_rounds (wsV RX1 94 RX1 yX1_missNow wsX1_missNow) := goodIn_app (goodIn_of _ (by decide +kernel)) ggX1_rounds_X1_missNow
theorem dX1_rounds_0 : decode cX1_rounds 0 = .ok (.iload_n 1, 1) := by decide +kernel
theorem dX1_rounds_1 : decode cX1_rounds 1 = .ok (.iconst 1, 1) := by decide +kernel
theorem dX1_rounds_2 : decode cX1_rounds 2 = .ok (.bipush 10, 2) := by decide +kernel
theorem dX1_rounds_4 : decode cX1_rounds 4 = .ok (.invokestatic 46, 3) := by decide +kernel
theorem dX1_rounds_7 : decode cX1_rounds 7 = .ok (.ifCond .ne 5, 3) := by decide +kernel
theorem dX1_rounds_10 : decode cX1_rounds 10 = .ok (.iconst (-1), 1) := by decide +kernel
theorem dX1_rounds_11 : decode cX1_rounds 11 = .ok (.ireturn, 1) := by decide +kernel
theorem dX1_rounds_12 : decode cX1_rounds 12 = .ok (.iconst 0, 1) := by decide +kernel
theorem dX1_rounds_13 : decode cX1_rounds 13 = .ok (.istore_n 2, 1) := by decide +kernel
theorem dX1_rounds_14 : decode cX1_rounds 14 = .ok (.iload_n 2, 1) := by decide +kernel
theorem dX1_rounds_15 : decode cX1_rounds 15 = .ok (.iload_n 1, 1) := by decide +kernel
theorem dX1_rounds_16 : decode cX1_rounds 16 = .ok (.if_icmp .ge 96, 3) := by decide +kernel
theorem dX1_rounds_19 : decode cX1_rounds 19 = .ok (.iconst 0, 1) := by decide +kernel
theorem dX1_rounds_20 : decode cX1_rounds 20 = .ok (.istore_n 3, 1) := by decide +kernel
theorem dX1_rounds_21 : decode cX1_rounds 21 = .ok (.iload_n 3, 1) := by decide +kernel
theorem dX1_rounds_22 : decode cX1_rounds 22 = .ok (.aload_n 0, 1) := by decide +kernel
theorem dX1_rounds_23 : decode cX1_rounds 23 = .ok (.getfield 43, 3) := by decide +kernel
theorem dX1_rounds_26 : decode cX1_rounds 26 = .ok (.if_icmp .ge 70, 3) := by decide +kernel
theorem dX1_rounds_29 : decode cX1_rounds 29 = .ok (.iconst 0, 1) := by decide +kernel
theorem dX1_rounds_30 : decode cX1_rounds 30 = .ok (.istore 4, 2) := by decide +kernel
theorem dX1_rounds_32 : decode cX1_rounds 32 = .ok (.iload 4, 2) := by decide +kernel
theorem dX1_rounds_34 : decode cX1_rounds 34 = .ok (.aload_n 0, 1) := by decide +kernel
theorem dX1_rounds_35 : decode cX1_rounds 35 = .ok (.getfield 36, 3) := by decide +kernel
theorem dX1_rounds_38 : decode cX1_rounds 38 = .ok (.if_icmp .ge 20, 3) := by decide +kernel
theorem dX1_rounds_41 : decode cX1_rounds 41 = .ok (.aload_n 0, 1) := by decide +kernel
theorem dX1_rounds_42 : decode cX1_rounds 42 = .ok (.bipush 16, 2) := by decide +kernel
theorem dX1_rounds_44 : decode cX1_rounds 44 = .ok (.iload_n 3, 1) := by decide +kernel
theorem dX1_rounds_45 : decode cX1_rounds 45 = .ok (.imul, 1) := by decide +kernel
theorem dX1_rounds_46 : decode cX1_rounds 46 = .ok (.iload 4, 2) := by decide +kernel
theorem dX1_rounds_48 : decode cX1_rounds 48 = .ok (.iadd, 1) := by decide +kernel
theorem dX1_rounds_49 : decode cX1_rounds 49 = .ok (.invokevirtual 97, 3) := by decide +kernel
theorem dX1_rounds_52 : decode cX1_rounds 52 = .ok (.iinc 4 1, 3) := by decide +kernel
theorem dX1_rounds_55 : decode cX1_rounds 55 = .ok (.goto (-23), 3) := by decide +kernel
theorem dX1_rounds_58 : decode cX1_rounds 58 = .ok (.iconst 0, 1) := by decide +kernel
theorem dX1_rounds_59 : decode cX1_rounds 59 = .ok (.istore 4, 2) := by decide +kernel
theorem dX1_rounds_61 : decode cX1_rounds 61 = .ok (.iload 4, 2) := by decide +kernel
theorem dX1_rounds_63 : decode cX1_rounds 63 = .ok (.aload_n 0, 1) := by decide +kernel
theorem dX1_rounds_64 : decode cX1_rounds 64 = .ok (.getfield 40, 3) := by decide +kernel
theorem dX1_rounds_67 : decode cX1_rounds 67 = .ok (.if_icmp .ge 23, 3) := by decide +kernel
theorem dX1_rounds_70 : decode cX1_rounds 70 = .ok (.aload_n 0, 1) := by decide +kernel
theorem dX1_rounds_71 : decode cX1_rounds 71 = .ok (.bipush 16, 2) := by decide +kernel
theorem dX1_rounds_73 : decode cX1_rounds 73 = .ok (.iload_n 3, 1) := by decide +kernel
theorem dX1_rounds_74 : decode cX1_rounds 74 = .ok (.imul, 1) := by decide +kernel
theorem dX1_rounds_75 : decode cX1_rounds 75 = .ok (.bipush 6, 2) := by decide +kernel
theorem dX1_rounds_77 : decode cX1_rounds 77 = .ok (.iadd, 1) := by decide +kernel
theorem dX1_rounds_78 : decode cX1_rounds 78 = .ok (.iload 4, 2) := by decide +kernel
theorem dX1_rounds_80 : decode cX1_rounds 80 = .ok (.iadd, 1) := by decide +kernel
theorem dX1_rounds_81 : decode cX1_rounds 81 = .ok (.invokevirtual 97, 3) := by decide +kernel
theorem dX1_rounds_84 : decode cX1_rounds 84 = .ok (.iinc 4 1, 3) := by decide +kernel
theorem dX1_rounds_87 : decode cX1_rounds 87 = .ok (.goto (-26), 3) := by decide +kernel
theorem dX1_rounds_90 : decode cX1_rounds 90 = .ok (.iinc 3 1, 3) := by decide +kernel
theorem dX1_rounds_93 : decode cX1_rounds 93 = .ok (.goto (-72), 3) := by decide +kernel
theorem dX1_rounds_96 : decode cX1_rounds 96 = .ok (.aload_n 0, 1) := by decide +kernel
theorem dX1_rounds_97 : decode cX1_rounds 97 = .ok (.dup, 1) := by decide +kernel
theorem dX1_rounds_98 : decode cX1_rounds 98 = .ok (.getfield 101, 3) := by decide +kernel
theorem dX1_rounds_101 : decode cX1_rounds 101 = .ok (.iconst 1, 1) := by decide +kernel
theorem dX1_rounds_102 : decode cX1_rounds 102 = .ok (.iadd, 1) := by decide +kernel
theorem dX1_rounds_103 : decode cX1_rounds 103 = .ok (.putfield 101, 3) := by decide +kernel
theorem dX1_rounds_106 : decode cX1_rounds 106 = .ok (.iinc 2 1, 3) := by decide +kernel
theorem dX1_rounds_109 : decode cX1_rounds 109 = .ok (.goto (-95), 3) := by decide +kernel
theorem dX1_rounds_112 : decode cX1_rounds 112 = .ok (.aload_n 0, 1) := by decide +kernel
theorem dX1_rounds_113 : decode cX1_rounds 113 = .ok (.invokevirtual 94, 3) := by decide +kernel
theorem dX1_rounds_116 : decode cX1_rounds 116 = .ok (.ireturn, 1) := by decide +kernel
set_option maxRecDepth 20000 in
theorem ggX1_shareOf_X1_sumAt : GoodIn wsX1_shareOf wsX1_sumAt := goodIn_r _ [7, 2, 8, 9, 10, 6, 11, 12, 13, 14, 15, 16, 17, 18, 19, 20, 21, 22, 23, 24, 25] (by decide +kernel) (by decide +kernel)
set_option maxRecDepth 20000 in
theorem gX1_shareOf_X1_sumAt : GoodIn wsX1_shareOf (wsV RX1 58 RX1 yX1_sumAt wsX1_sumAt) := goodIn_app (goodIn_of _ (by decide +kernel)) ggX1_shareOf_X1_sumAt
set_option maxRecDepth 20000 in
theorem ggX1_shareOf_X1_part : GoodIn wsX1_shareOf wsX1_part := goodIn_r _ [11, 12, 13, 14, 15, 16, 17, 18, 19, 20, 21, 22, 23, 24, 25] (by decide +kernel) (by decide +kernel)
set_option maxRecDepth 20000 in
theorem gX1_shareOf_X1_part : GoodIn wsX1_shareOf (wsV RX1 54 RX1 yX1_part wsX1_part) := goodIn_app (goodIn_of _ (by decide +kernel)) ggX1_shareOf_X1_part
theorem dX1_shareOf_0 : decode cX1_shareOf 0 = .ok (.aload_n 0, 1) := by decide +kernel
theorem dX1_shareOf_1 : decode cX1_shareOf 1 = .ok (.getfield 7, 3) := by decide +kernel
theorem dX1_shareOf_4 : decode cX1_shareOf 4 = .ok (.bipush 8, 2) := by decide +kernel
theorem dX1_shareOf_6 : decode cX1_shareOf 6 = .ok (.iload_n 2, 1) := by decide +kernel
theorem dX1_shareOf_7 : decode cX1_shareOf 7 = .ok (.imul, 1) := by decide +kernel
theorem dX1_shareOf_8 : decode cX1_shareOf 8 = .ok (.iload_n 3, 1) := by decide +kernel
theorem dX1_shareOf_9 : decode cX1_shareOf 9 = .ok (.iadd, 1) := by decide +kernel
theorem dX1_shareOf_10 : decode cX1_shareOf 10 = .ok (.iaload, 1) := by decide +kernel
theorem dX1_shareOf_11 : decode cX1_shareOf 11 = .ok (.istore 4, 2) := by decide +kernel
theorem dX1_shareOf_13 : decode cX1_shareOf 13 = .ok (.aload_n 0, 1) := by decide +kernel
theorem dX1_shareOf_14 : decode cX1_shareOf 14 = .ok (.iload_n 2, 1) := by decide +kernel
theorem dX1_shareOf_15 : decode cX1_shareOf 15 = .ok (.iload_n 3, 1) := by decide +kernel
theorem dX1_shareOf_16 : decode cX1_shareOf 16 = .ok (.invokevirtual 58, 3) := by decide +kernel
theorem dX1_shareOf_19 : decode cX1_shareOf 19 = .ok (.istore 5, 2) := by decide +kernel
theorem dX1_shareOf_21 : decode cX1_shareOf 21 = .ok (.iload 5, 2) := by decide +kernel
theorem dX1_shareOf_23 : decode cX1_shareOf 23 = .ok (.ifCond .ne 14, 3) := by decide +kernel
theorem dX1_shareOf_26 : decode cX1_shareOf 26 = .ok (.iload_n 1, 1) := by decide +kernel
theorem dX1_shareOf_27 : decode cX1_shareOf 27 = .ok (.ifCond .ne 8, 3) := by decide +kernel
theorem dX1_shareOf_30 : decode cX1_shareOf 30 = .ok (.iload 4, 2) := by decide +kernel
theorem dX1_shareOf_32 : decode cX1_shareOf 32 = .ok (.goto 4, 3) := by decide +kernel
theorem dX1_shareOf_35 : decode cX1_shareOf 35 = .ok (.iconst 0, 1) := by decide +kernel
theorem dX1_shareOf_36 : decode cX1_shareOf 36 = .ok (.ireturn, 1) := by decide +kernel
theorem dX1_shareOf_37 : decode cX1_shareOf 37 = .ok (.iload 4, 2) := by decide +kernel
theorem dX1_shareOf_39 : decode cX1_shareOf 39 = .ok (.istore 6, 2) := by decide +kernel
theorem dX1_shareOf_41 : decode cX1_shareOf 41 = .ok (.iconst 0, 1) := by decide +kernel
theorem dX1_shareOf_42 : decode cX1_shareOf 42 = .ok (.istore 7, 2) := by decide +kernel
theorem dX1_shareOf_44 : decode cX1_shareOf 44 = .ok (.iload 7, 2) := by decide +kernel
theorem dX1_shareOf_46 : decode cX1_shareOf 46 = .ok (.aload_n 0, 1) := by decide +kernel
theorem dX1_shareOf_47 : decode cX1_shareOf 47 = .ok (.getfield 43, 3) := by decide +kernel
theorem dX1_shareOf_50 : decode cX1_shareOf 50 = .ok (.if_icmp .ge 28, 3) := by decide +kernel
theorem dX1_shareOf_53 : decode cX1_shareOf 53 = .ok (.iload 6, 2) := by decide +kernel
theorem dX1_shareOf_55 : decode cX1_shareOf 55 = .ok (.iload 4, 2) := by decide +kernel
theorem dX1_shareOf_57 : decode cX1_shareOf 57 = .ok (.aload_n 0, 1) := by decide +kernel
theorem dX1_shareOf_58 : decode cX1_shareOf 58 = .ok (.iload 7, 2) := by decide +kernel
theorem dX1_shareOf_60 : decode cX1_shareOf 60 = .ok (.iload_n 2, 1) := by decide +kernel
theorem dX1_shareOf_61 : decode cX1_shareOf 61 = .ok (.iload_n 3, 1) := by decide +kernel
theorem dX1_shareOf_62 : decode cX1_shareOf 62 = .ok (.invokevirtual 54, 3) := by decide +kernel
theorem dX1_shareOf_65 : decode cX1_shareOf 65 = .ok (.imul, 1) := by decide +kernel
theorem dX1_shareOf_66 : decode cX1_shareOf 66 = .ok (.iload 5, 2) := by decide +kernel
theorem dX1_shareOf_68 : decode cX1_shareOf 68 = .ok (.idiv, 1) := by decide +kernel
theorem dX1_shareOf_69 : decode cX1_shareOf 69 = .ok (.isub, 1) := by decide +kernel
theorem dX1_shareOf_70 : decode cX1_shareOf 70 = .ok (.istore 6, 2) := by decide +kernel
theorem dX1_shareOf_72 : decode cX1_shareOf 72 = .ok (.iinc 7 1, 3) := by decide +kernel
theorem dX1_shareOf_75 : decode cX1_shareOf 75 = .ok (.goto (-31), 3) := by decide +kernel
theorem dX1_shareOf_78 : decode cX1_shareOf 78 = .ok (.iload 4, 2) := by decide +kernel
theorem dX1_shareOf_80 : decode cX1_shareOf 80 = .ok (.aload_n 0, 1) := by decide +kernel
theorem dX1_shareOf_81 : decode cX1_shareOf 81 = .ok (.iload_n 1, 1) := by decide +kernel
theorem dX1_shareOf_82 : decode cX1_shareOf 82 = .ok (.iload_n 2, 1) := by decide +kernel
theorem dX1_shareOf_83 : decode cX1_shareOf 83 = .ok (.iload_n 3, 1) := by decide +kernel
theorem dX1_shareOf_84 : decode cX1_shareOf 84 = .ok (.invokevirtual 54, 3) := by decide +kernel
theorem dX1_shareOf_87 : decode cX1_shareOf 87 = .ok (.imul, 1) := by decide +kernel
theorem dX1_shareOf_88 : decode cX1_shareOf 88 = .ok (.iload 5, 2) := by decide +kernel
theorem dX1_shareOf_90 : decode cX1_shareOf 90 = .ok (.irem, 1) := by decide +kernel
theorem dX1_shareOf_91 : decode cX1_shareOf 91 = .ok (.istore 7, 2) := by decide +kernel
theorem dX1_shareOf_93 : decode cX1_shareOf 93 = .ok (.iconst 0, 1) := by decide +kernel
theorem dX1_shareOf_94 : decode cX1_shareOf 94 = .ok (.istore 8, 2) := by decide +kernel
theorem dX1_shareOf_96 : decode cX1_shareOf 96 = .ok (.iconst 0, 1) := by decide +kernel
theorem dX1_shareOf_97 : decode cX1_shareOf 97 = .ok (.istore 9, 2) := by decide +kernel
theorem dX1_shareOf_99 : decode cX1_shareOf 99 = .ok (.iload 9, 2) := by decide +kernel
theorem dX1_shareOf_101 : decode cX1_shareOf 101 = .ok (.aload_n 0, 1) := by decide +kernel
theorem dX1_shareOf_102 : decode cX1_shareOf 102 = .ok (.getfield 43, 3) := by decide +kernel
theorem dX1_shareOf_105 : decode cX1_shareOf 105 = .ok (.if_icmp .ge 55, 3) := by decide +kernel
theorem dX1_shareOf_108 : decode cX1_shareOf 108 = .ok (.iload 4, 2) := by decide +kernel
theorem dX1_shareOf_110 : decode cX1_shareOf 110 = .ok (.aload_n 0, 1) := by decide +kernel
theorem dX1_shareOf_111 : decode cX1_shareOf 111 = .ok (.iload 9, 2) := by decide +kernel
theorem dX1_shareOf_113 : decode cX1_shareOf 113 = .ok (.iload_n 2, 1) := by decide +kernel
theorem dX1_shareOf_114 : decode cX1_shareOf 114 = .ok (.iload_n 3, 1) := by decide +kernel
theorem dX1_shareOf_115 : decode cX1_shareOf 115 = .ok (.invokevirtual 54, 3) := by decide +kernel
theorem dX1_shareOf_118 : decode cX1_shareOf 118 = .ok (.imul, 1) := by decide +kernel
theorem dX1_shareOf_119 : decode cX1_shareOf 119 = .ok (.iload 5, 2) := by decide +kernel
theorem dX1_shareOf_121 : decode cX1_shareOf 121 = .ok (.irem, 1) := by decide +kernel
theorem dX1_shareOf_122 : decode cX1_shareOf 122 = .ok (.istore 10, 2) := by decide +kernel
theorem dX1_shareOf_124 : decode cX1_shareOf 124 = .ok (.iload 8, 2) := by decide +kernel
theorem dX1_shareOf_126 : decode cX1_shareOf 126 = .ok (.iload 10, 2) := by decide +kernel
theorem dX1_shareOf_128 : decode cX1_shareOf 128 = .ok (.iload 7, 2) := by decide +kernel
theorem dX1_shareOf_130 : decode cX1_shareOf 130 = .ok (.if_icmp .gt 16, 3) := by decide +kernel
theorem dX1_shareOf_133 : decode cX1_shareOf 133 = .ok (.iload 10, 2) := by decide +kernel
theorem dX1_shareOf_135 : decode cX1_shareOf 135 = .ok (.iload 7, 2) := by decide +kernel
theorem dX1_shareOf_137 : decode cX1_shareOf 137 = .ok (.if_icmp .ne 13, 3) := by decide +kernel
theorem dX1_shareOf_140 : decode cX1_shareOf 140 = .ok (.iload 9, 2) := by decide +kernel
theorem dX1_shareOf_142 : decode cX1_shareOf 142 = .ok (.iload_n 1, 1) := by decide +kernel
theorem dX1_shareOf_143 : decode cX1_shareOf 143 = .ok (.if_icmp .ge 7, 3) := by decide +kernel
theorem dX1_shareOf_146 : decode cX1_shareOf 146 = .ok (.iconst 1, 1) := by decide +kernel
theorem dX1_shareOf_147 : decode cX1_shareOf 147 = .ok (.goto 4, 3) := by decide +kernel
theorem dX1_shareOf_150 : decode cX1_shareOf 150 = .ok (.iconst 0, 1) := by decide +kernel
theorem dX1_shareOf_151 : decode cX1_shareOf 151 = .ok (.iadd, 1) := by decide +kernel
theorem dX1_shareOf_152 : decode cX1_shareOf 152 = .ok (.istore 8, 2) := by decide +kernel
theorem dX1_shareOf_154 : decode cX1_shareOf 154 = .ok (.iinc 9 1, 3) := by decide +kernel
theorem dX1_shareOf_157 : decode cX1_shareOf 157 = .ok (.goto (-58), 3) := by decide +kernel
theorem dX1_shareOf_160 : decode cX1_shareOf 160 = .ok (.iload 4, 2) := by decide +kernel
theorem dX1_shareOf_162 : decode cX1_shareOf 162 = .ok (.aload_n 0, 1) := by decide +kernel
theorem dX1_shareOf_163 : decode cX1_shareOf 163 = .ok (.iload_n 1, 1) := by decide +kernel
theorem dX1_shareOf_164 : decode cX1_shareOf 164 = .ok (.iload_n 2, 1) := by decide +kernel
theorem dX1_shareOf_165 : decode cX1_shareOf 165 = .ok (.iload_n 3, 1) := by decide +kernel
theorem dX1_shareOf_166 : decode cX1_shareOf 166 = .ok (.invokevirtual 54, 3) := by decide +kernel
theorem dX1_shareOf_169 : decode cX1_shareOf 169 = .ok (.imul, 1) := by decide +kernel
theorem dX1_shareOf_170 : decode cX1_shareOf 170 = .ok (.iload 5, 2) := by decide +kernel
theorem dX1_shareOf_172 : decode cX1_shareOf 172 = .ok (.idiv, 1) := by decide +kernel
theorem dX1_shareOf_173 : decode cX1_shareOf 173 = .ok (.iload 8, 2) := by decide +kernel
theorem dX1_shareOf_175 : decode cX1_shareOf 175 = .ok (.iload 6, 2) := by decide +kernel
theorem dX1_shareOf_177 : decode cX1_shareOf 177 = .ok (.if_icmp .ge 7, 3) := by decide +kernel
theorem dX1_shareOf_180 : decode cX1_shareOf 180 = .ok (.iconst 1, 1) := by decide +kernel
theorem dX1_shareOf_181 : decode cX1_shareOf 181 = .ok (.goto 4, 3) := by decide +kernel
theorem dX1_shareOf_184 : decode cX1_shareOf 184 = .ok (.iconst 0, 1) := by decide +kernel
theorem dX1_shareOf_185 : decode cX1_shareOf 185 = .ok (.iadd, 1) := by decide +kernel
theorem dX1_shareOf_186 : decode cX1_shareOf 186 = .ok (.ireturn, 1) := by decide +kernel
set_option maxRecDepth 20000 in
theorem ggX1_share_X1_isVoice : GoodIn wsX1_share wsX1_isVoice := goodIn_r _ [5, 6, 7, 8, 4, 9, 30, 31, 32, 33, 34, 35, 36, 37, 38, 39, 40, 41, 42] (by decide +kernel) (by decide +kernel)
set_option maxRecDepth 20000 in
theorem gX1_share_X1_isVoice : GoodIn wsX1_share (wsV RX1 69 RX1 yX1_isVoice wsX1_isVoice) := goodIn_app (goodIn_of _ (by decide +kernel)) ggX1_share_X1_isVoice
set_option maxRecDepth 20000 in
theorem ggX1_share_X1_isPlace : GoodIn wsX1_share wsX1_isPlace := goodIn_r _ [13, 14, 15, 7, 8, 4, 9, 30, 31, 32, 33, 34, 35, 36, 37, 38, 39, 40, 41, 42] (by decide +kernel) (by decide +kernel)
set_option maxRecDepth 20000 in
theorem gX1_share_X1_isPlace : GoodIn wsX1_share (wsV RX1 50 RX1 yX1_isPlace wsX1_isPlace) := goodIn_app (goodIn_of _ (by decide +kernel)) ggX1_share_X1_isPlace
set_option maxRecDepth 20000 in
theorem ggX1_share_X1_shareOf : GoodIn wsX1_share wsX1_shareOf := goodIn_r _ [19, 20, 6, 21, 22, 23, 4, 24, 25, 26, 27, 28, 29, 30, 31, 32, 33, 34, 35, 36, 37, 38, 39, 40, 41, 42] (by decide +kernel) (by decide +kernel)
set_option maxRecDepth 20000 in
theorem gX1_share_X1_shareOf : GoodIn wsX1_share (wsV RX1 104 RX1 yX1_shareOf wsX1_shareOf) := goodIn_app (goodIn_of _ (by decide +kernel)) ggX1_share_X1_shareOf
theorem dX1_share_0 : decode cX1_share 0 = .ok (.aload_n 0, 1) := by decide +kernel
theorem dX1_share_1 : decode cX1_share 1 = .ok (.iload_n 1, 1) := by decide +kernel
theorem dX1_share_2 : decode cX1_share 2 = .ok (.invokevirtual 69, 3) := by decide +kernel
theorem dX1_share_5 : decode cX1_share 5 = .ok (.ifCond .eq 22, 3) := by decide +kernel
theorem dX1_share_8 : decode cX1_share 8 = .ok (.aload_n 0, 1) := by decide +kernel
theorem dX1_share_9 : decode cX1_share 9 = .ok (.iload_n 2, 1) := by decide +kernel
theorem dX1_share_10 : decode cX1_share 10 = .ok (.iload_n 3, 1) := by decide +kernel
theorem dX1_share_11 : decode cX1_share 11 = .ok (.invokevirtual 50, 3) := by decide +kernel
theorem dX1_share_14 : decode cX1_share 14 = .ok (.ifCond .eq 13, 3) := by decide +kernel
theorem dX1_share_17 : decode cX1_share 17 = .ok (.aload_n 0, 1) := by decide +kernel
theorem dX1_share_18 : decode cX1_share 18 = .ok (.iload_n 1, 1) := by decide +kernel
theorem dX1_share_19 : decode cX1_share 19 = .ok (.iload_n 2, 1) := by decide +kernel
theorem dX1_share_20 : decode cX1_share 20 = .ok (.iload_n 3, 1) := by decide +kernel
theorem dX1_share_21 : decode cX1_share 21 = .ok (.invokevirtual 104, 3) := by decide +kernel
theorem dX1_share_24 : decode cX1_share 24 = .ok (.goto 4, 3) := by decide +kernel
theorem dX1_share_27 : decode cX1_share 27 = .ok (.iconst (-1), 1) := by decide +kernel
theorem dX1_share_28 : decode cX1_share 28 = .ok (.ireturn, 1) := by decide +kernel
theorem dX1_backgroundOf_0 : decode cX1_backgroundOf 0 = .ok (.iconst 0, 1) := by decide +kernel
theorem dX1_backgroundOf_1 : decode cX1_backgroundOf 1 = .ok (.istore 4, 2) := by decide +kernel
theorem dX1_backgroundOf_3 : decode cX1_backgroundOf 3 = .ok (.iload_n 3, 1) := by decide +kernel
theorem dX1_backgroundOf_4 : decode cX1_backgroundOf 4 = .ok (.iload_n 1, 1) := by decide +kernel
theorem dX1_backgroundOf_5 : decode cX1_backgroundOf 5 = .ok (.irem, 1) := by decide +kernel
theorem dX1_backgroundOf_6 : decode cX1_backgroundOf 6 = .ok (.istore 5, 2) := by decide +kernel
theorem dX1_backgroundOf_8 : decode cX1_backgroundOf 8 = .ok (.iload 5, 2) := by decide +kernel
theorem dX1_backgroundOf_10 : decode cX1_backgroundOf 10 = .ok (.aload_n 0, 1) := by decide +kernel
theorem dX1_backgroundOf_11 : decode cX1_backgroundOf 11 = .ok (.getfield 40, 3) := by decide +kernel
theorem dX1_backgroundOf_14 : decode cX1_backgroundOf 14 = .ok (.if_icmp .ge 83, 3) := by decide +kernel
theorem dX1_backgroundOf_17 : decode cX1_backgroundOf 17 = .ok (.aload_n 0, 1) := by decide +kernel
theorem dX1_backgroundOf_18 : decode cX1_backgroundOf 18 = .ok (.getfield 7, 3) := by decide +kernel
theorem dX1_backgroundOf_21 : decode cX1_backgroundOf 21 = .ok (.bipush 8, 2) := by decide +kernel
theorem dX1_backgroundOf_23 : decode cX1_backgroundOf 23 = .ok (.iload_n 2, 1) := by decide +kernel
theorem dX1_backgroundOf_24 : decode cX1_backgroundOf 24 = .ok (.imul, 1) := by decide +kernel
theorem dX1_backgroundOf_25 : decode cX1_backgroundOf 25 = .ok (.iload 5, 2) := by decide +kernel
theorem dX1_backgroundOf_27 : decode cX1_backgroundOf 27 = .ok (.iadd, 1) := by decide +kernel
theorem dX1_backgroundOf_28 : decode cX1_backgroundOf 28 = .ok (.iaload, 1) := by decide +kernel
theorem dX1_backgroundOf_29 : decode cX1_backgroundOf 29 = .ok (.istore 6, 2) := by decide +kernel
theorem dX1_backgroundOf_31 : decode cX1_backgroundOf 31 = .ok (.iload 4, 2) := by decide +kernel
theorem dX1_backgroundOf_33 : decode cX1_backgroundOf 33 = .ok (.istore 7, 2) := by decide +kernel
theorem dX1_backgroundOf_35 : decode cX1_backgroundOf 35 = .ok (.iload 7, 2) := by decide +kernel
theorem dX1_backgroundOf_37 : decode cX1_backgroundOf 37 = .ok (.ifCond .le 39, 3) := by decide +kernel
theorem dX1_backgroundOf_40 : decode cX1_backgroundOf 40 = .ok (.aload_n 0, 1) := by decide +kernel
theorem dX1_backgroundOf_41 : decode cX1_backgroundOf 41 = .ok (.getfield 29, 3) := by decide +kernel
theorem dX1_backgroundOf_44 : decode cX1_backgroundOf 44 = .ok (.iload 7, 2) := by decide +kernel
theorem dX1_backgroundOf_46 : decode cX1_backgroundOf 46 = .ok (.iconst 1, 1) := by decide +kernel
theorem dX1_backgroundOf_47 : decode cX1_backgroundOf 47 = .ok (.isub, 1) := by decide +kernel
theorem dX1_backgroundOf_48 : decode cX1_backgroundOf 48 = .ok (.iaload, 1) := by decide +kernel
theorem dX1_backgroundOf_49 : decode cX1_backgroundOf 49 = .ok (.iload 6, 2) := by decide +kernel
theorem dX1_backgroundOf_51 : decode cX1_backgroundOf 51 = .ok (.if_icmp .le 25, 3) := by decide +kernel
theorem dX1_backgroundOf_54 : decode cX1_backgroundOf 54 = .ok (.aload_n 0, 1) := by decide +kernel
theorem dX1_backgroundOf_55 : decode cX1_backgroundOf 55 = .ok (.getfield 29, 3) := by decide +kernel
theorem dX1_backgroundOf_58 : decode cX1_backgroundOf 58 = .ok (.iload 7, 2) := by decide +kernel
theorem dX1_backgroundOf_60 : decode cX1_backgroundOf 60 = .ok (.aload_n 0, 1) := by decide +kernel
theorem dX1_backgroundOf_61 : decode cX1_backgroundOf 61 = .ok (.getfield 29, 3) := by decide +kernel
theorem dX1_backgroundOf_64 : decode cX1_backgroundOf 64 = .ok (.iload 7, 2) := by decide +kernel
theorem dX1_backgroundOf_66 : decode cX1_backgroundOf 66 = .ok (.iconst 1, 1) := by decide +kernel
theorem dX1_backgroundOf_67 : decode cX1_backgroundOf 67 = .ok (.isub, 1) := by decide +kernel
theorem dX1_backgroundOf_68 : decode cX1_backgroundOf 68 = .ok (.iaload, 1) := by decide +kernel
theorem dX1_backgroundOf_69 : decode cX1_backgroundOf 69 = .ok (.iastore, 1) := by decide +kernel
theorem dX1_backgroundOf_70 : decode cX1_backgroundOf 70 = .ok (.iinc 7 (-1), 3) := by decide +kernel
theorem dX1_backgroundOf_73 : decode cX1_backgroundOf 73 = .ok (.goto (-38), 3) := by decide +kernel
theorem dX1_backgroundOf_76 : decode cX1_backgroundOf 76 = .ok (.aload_n 0, 1) := by decide +kernel
theorem dX1_backgroundOf_77 : decode cX1_backgroundOf 77 = .ok (.getfield 29, 3) := by decide +kernel
theorem dX1_backgroundOf_80 : decode cX1_backgroundOf 80 = .ok (.iload 7, 2) := by decide +kernel
theorem dX1_backgroundOf_82 : decode cX1_backgroundOf 82 = .ok (.iload 6, 2) := by decide +kernel
theorem dX1_backgroundOf_84 : decode cX1_backgroundOf 84 = .ok (.iastore, 1) := by decide +kernel
theorem dX1_backgroundOf_85 : decode cX1_backgroundOf 85 = .ok (.iinc 4 1, 3) := by decide +kernel
theorem dX1_backgroundOf_88 : decode cX1_backgroundOf 88 = .ok (.iload 5, 2) := by decide +kernel
theorem dX1_backgroundOf_90 : decode cX1_backgroundOf 90 = .ok (.iload_n 1, 1) := by decide +kernel
theorem dX1_backgroundOf_91 : decode cX1_backgroundOf 91 = .ok (.iadd, 1) := by decide +kernel
theorem dX1_backgroundOf_92 : decode cX1_backgroundOf 92 = .ok (.istore 5, 2) := by decide +kernel
theorem dX1_backgroundOf_94 : decode cX1_backgroundOf 94 = .ok (.goto (-86), 3) := by decide +kernel
theorem dX1_backgroundOf_97 : decode cX1_backgroundOf 97 = .ok (.aload_n 0, 1) := by decide +kernel
theorem dX1_backgroundOf_98 : decode cX1_backgroundOf 98 = .ok (.getfield 29, 3) := by decide +kernel
theorem dX1_backgroundOf_101 : decode cX1_backgroundOf 101 = .ok (.iload 4, 2) := by decide +kernel
theorem dX1_backgroundOf_103 : decode cX1_backgroundOf 103 = .ok (.iconst 1, 1) := by decide +kernel
theorem dX1_backgroundOf_104 : decode cX1_backgroundOf 104 = .ok (.isub, 1) := by decide +kernel
theorem dX1_backgroundOf_105 : decode cX1_backgroundOf 105 = .ok (.iconst 2, 1) := by decide +kernel
theorem dX1_backgroundOf_106 : decode cX1_backgroundOf 106 = .ok (.idiv, 1) := by decide +kernel
theorem dX1_backgroundOf_107 : decode cX1_backgroundOf 107 = .ok (.iaload, 1) := by decide +kernel
theorem dX1_backgroundOf_108 : decode cX1_backgroundOf 108 = .ok (.ireturn, 1) := by decide +kernel
set_option maxRecDepth 20000 in
theorem ggX1_background_X1_in : GoodIn wsX1_background wsX1_in := goodIn_r _ [5] (by decide +kernel) (by decide +kernel)
set_option maxRecDepth 20000 in
theorem gX1_background_X1_in : GoodIn wsX1_background (va_wsS RX1 46 yX1_in wsX1_in) := goodIn_app (goodIn_of _ (by decide +kernel)) ggX1_background_X1_in
set_option maxRecDepth 20000 in
theorem ggX1_background_X1_isPlace : GoodIn wsX1_background wsX1_isPlace := goodIn_r _ [9, 10, 1, 2, 3, 4, 5, 17, 18, 19, 20, 21, 22, 23, 24, 25, 26, 27, 28, 29] (by decide +kernel) (by decide +kernel)
set_option maxRecDepth 20000 in
theorem gX1_background_X1_isPlace : GoodIn wsX1_background (wsV RX1 50 RX1 yX1_isPlace wsX1_isPlace) := goodIn_app (goodIn_of _ (by decide +kernel)) ggX1_background_X1_isPlace
set_option maxRecDepth 20000 in
theorem ggX1_background_X1_backgroundOf : GoodIn wsX1_background wsX1_backgroundOf := goodIn_r _ [14, 1, 15, 16, 17, 18, 19, 20, 21, 22, 23, 24, 25, 26, 27, 28, 29] (by decide +kernel) (by decide +kernel)
set_option maxRecDepth 20000 in
theorem gX1_background_X1_backgroundOf : GoodIn wsX1_background (wsV RX1 66 RX1 yX1_backgroundOf wsX1_backgroundOf) := goodIn_app (goodIn_of _ (by decide +kernel)) ggX1_background_X1_backgroundOf
theorem dX1_background_0 : decode cX1_background 0 = .ok (.iload_n 1, 1) := by decide +kernel
theorem dX1_background_1 : decode cX1_background 1 = .ok (.iconst 1, 1) := by decide +kernel
theorem dX1_background_2 : decode cX1_background 2 = .ok (.aload_n 0, 1) := by decide +kernel
theorem dX1_background_3 : decode cX1_background 3 = .ok (.getfield 40, 3) := by decide +kernel
theorem dX1_background_6 : decode cX1_background 6 = .ok (.invokestatic 46, 3) := by decide +kernel
theorem dX1_background_9 : decode cX1_background 9 = .ok (.ifCond .eq 22, 3) := by decide +kernel
theorem dX1_background_12 : decode cX1_background 12 = .ok (.aload_n 0, 1) := by decide +kernel
theorem dX1_background_13 : decode cX1_background 13 = .ok (.iload_n 2, 1) := by decide +kernel
theorem dX1_background_14 : decode cX1_background 14 = .ok (.iload_n 3, 1) := by decide +kernel
theorem dX1_background_15 : decode cX1_background 15 = .ok (.invokevirtual 50, 3) := by decide +kernel
theorem dX1_background_18 : decode cX1_background 18 = .ok (.ifCond .eq 13, 3) := by decide +kernel
theorem dX1_background_21 : decode cX1_background 21 = .ok (.aload_n 0, 1) := by decide +kernel
theorem dX1_background_22 : decode cX1_background 22 = .ok (.iload_n 1, 1) := by decide +kernel
theorem dX1_background_23 : decode cX1_background 23 = .ok (.iload_n 2, 1) := by decide +kernel
theorem dX1_background_24 : decode cX1_background 24 = .ok (.iload_n 3, 1) := by decide +kernel
theorem dX1_background_25 : decode cX1_background 25 = .ok (.invokevirtual 66, 3) := by decide +kernel
theorem dX1_background_28 : decode cX1_background 28 = .ok (.goto 4, 3) := by decide +kernel
theorem dX1_background_31 : decode cX1_background 31 = .ok (.iconst (-1), 1) := by decide +kernel
theorem dX1_background_32 : decode cX1_background 32 = .ok (.ireturn, 1) := by decide +kernel
set_option maxRecDepth 20000 in
theorem ggX1_bestPeriod_X1_backgroundOf : GoodIn wsX1_bestPeriod wsX1_backgroundOf := goodIn_r _ [8, 1, 3, 9, 13, 14, 15, 16, 17, 18, 19, 20, 21, 22, 23, 24, 25] (by decide +kernel) (by decide +kernel)
set_option maxRecDepth 20000 in
theorem gX1_bestPeriod_X1_backgroundOf : GoodIn wsX1_bestPeriod (wsV RX1 66 RX1 yX1_backgroundOf wsX1_backgroundOf) := goodIn_app (goodIn_of _ (by decide +kernel)) ggX1_bestPeriod_X1_backgroundOf
set_option maxRecDepth 20000 in
theorem ggX1_bestPeriod_X1_size : GoodIn wsX1_bestPeriod wsX1_size := goodIn_r _ [12] (by decide +kernel) (by decide +kernel)
set_option maxRecDepth 20000 in
theorem gX1_bestPeriod_X1_size : GoodIn wsX1_bestPeriod (va_wsS RX1 90 yX1_size wsX1_size) := goodIn_app (goodIn_of _ (by decide +kernel)) ggX1_bestPeriod_X1_size
theorem dX1_bestPeriod_0 : decode cX1_bestPeriod 0 = .ok (.iconst 1, 1) := by decide +kernel
theorem dX1_bestPeriod_1 : decode cX1_bestPeriod 1 = .ok (.istore_n 1, 1) := by decide +kernel
theorem dX1_bestPeriod_2 : decode cX1_bestPeriod 2 = .ok (.iconst (-1), 1) := by decide +kernel
theorem dX1_bestPeriod_3 : decode cX1_bestPeriod 3 = .ok (.istore_n 2, 1) := by decide +kernel
theorem dX1_bestPeriod_4 : decode cX1_bestPeriod 4 = .ok (.iconst 1, 1) := by decide +kernel
theorem dX1_bestPeriod_5 : decode cX1_bestPeriod 5 = .ok (.istore_n 3, 1) := by decide +kernel
theorem dX1_bestPeriod_6 : decode cX1_bestPeriod 6 = .ok (.iload_n 3, 1) := by decide +kernel
theorem dX1_bestPeriod_7 : decode cX1_bestPeriod 7 = .ok (.aload_n 0, 1) := by decide +kernel
theorem dX1_bestPeriod_8 : decode cX1_bestPeriod 8 = .ok (.getfield 40, 3) := by decide +kernel
theorem dX1_bestPeriod_11 : decode cX1_bestPeriod 11 = .ok (.if_icmp .gt 117, 3) := by decide +kernel
theorem dX1_bestPeriod_14 : decode cX1_bestPeriod 14 = .ok (.iload_n 3, 1) := by decide +kernel
theorem dX1_bestPeriod_15 : decode cX1_bestPeriod 15 = .ok (.aload_n 0, 1) := by decide +kernel
theorem dX1_bestPeriod_16 : decode cX1_bestPeriod 16 = .ok (.getfield 36, 3) := by decide +kernel
theorem dX1_bestPeriod_19 : decode cX1_bestPeriod 19 = .ok (.imul, 1) := by decide +kernel
theorem dX1_bestPeriod_20 : decode cX1_bestPeriod 20 = .ok (.istore 4, 2) := by decide +kernel
theorem dX1_bestPeriod_22 : decode cX1_bestPeriod 22 = .ok (.iconst 0, 1) := by decide +kernel
theorem dX1_bestPeriod_23 : decode cX1_bestPeriod 23 = .ok (.istore 5, 2) := by decide +kernel
theorem dX1_bestPeriod_25 : decode cX1_bestPeriod 25 = .ok (.iload 5, 2) := by decide +kernel
theorem dX1_bestPeriod_27 : decode cX1_bestPeriod 27 = .ok (.aload_n 0, 1) := by decide +kernel
theorem dX1_bestPeriod_28 : decode cX1_bestPeriod 28 = .ok (.getfield 36, 3) := by decide +kernel
theorem dX1_bestPeriod_31 : decode cX1_bestPeriod 31 = .ok (.if_icmp .ge 58, 3) := by decide +kernel
theorem dX1_bestPeriod_34 : decode cX1_bestPeriod 34 = .ok (.iconst 0, 1) := by decide +kernel
theorem dX1_bestPeriod_35 : decode cX1_bestPeriod 35 = .ok (.istore 6, 2) := by decide +kernel
theorem dX1_bestPeriod_37 : decode cX1_bestPeriod 37 = .ok (.iload 6, 2) := by decide +kernel
theorem dX1_bestPeriod_39 : decode cX1_bestPeriod 39 = .ok (.aload_n 0, 1) := by decide +kernel
theorem dX1_bestPeriod_40 : decode cX1_bestPeriod 40 = .ok (.getfield 40, 3) := by decide +kernel
theorem dX1_bestPeriod_43 : decode cX1_bestPeriod 43 = .ok (.if_icmp .ge 40, 3) := by decide +kernel
theorem dX1_bestPeriod_46 : decode cX1_bestPeriod 46 = .ok (.iload 4, 2) := by decide +kernel
theorem dX1_bestPeriod_48 : decode cX1_bestPeriod 48 = .ok (.aload_n 0, 1) := by decide +kernel
theorem dX1_bestPeriod_49 : decode cX1_bestPeriod 49 = .ok (.getfield 7, 3) := by decide +kernel
theorem dX1_bestPeriod_52 : decode cX1_bestPeriod 52 = .ok (.bipush 8, 2) := by decide +kernel
theorem dX1_bestPeriod_54 : decode cX1_bestPeriod 54 = .ok (.iload 5, 2) := by decide +kernel
theorem dX1_bestPeriod_56 : decode cX1_bestPeriod 56 = .ok (.imul, 1) := by decide +kernel
theorem dX1_bestPeriod_57 : decode cX1_bestPeriod 57 = .ok (.iload 6, 2) := by decide +kernel
theorem dX1_bestPeriod_59 : decode cX1_bestPeriod 59 = .ok (.iadd, 1) := by decide +kernel
theorem dX1_bestPeriod_60 : decode cX1_bestPeriod 60 = .ok (.iaload, 1) := by decide +kernel
theorem dX1_bestPeriod_61 : decode cX1_bestPeriod 61 = .ok (.aload_n 0, 1) := by decide +kernel
theorem dX1_bestPeriod_62 : decode cX1_bestPeriod 62 = .ok (.iload_n 3, 1) := by decide +kernel
theorem dX1_bestPeriod_63 : decode cX1_bestPeriod 63 = .ok (.iload 5, 2) := by decide +kernel
theorem dX1_bestPeriod_65 : decode cX1_bestPeriod 65 = .ok (.iload 6, 2) := by decide +kernel
theorem dX1_bestPeriod_67 : decode cX1_bestPeriod 67 = .ok (.invokevirtual 66, 3) := by decide +kernel
theorem dX1_bestPeriod_70 : decode cX1_bestPeriod 70 = .ok (.isub, 1) := by decide +kernel
theorem dX1_bestPeriod_71 : decode cX1_bestPeriod 71 = .ok (.invokestatic 90, 3) := by decide +kernel
theorem dX1_bestPeriod_74 : decode cX1_bestPeriod 74 = .ok (.iadd, 1) := by decide +kernel
theorem dX1_bestPeriod_75 : decode cX1_bestPeriod 75 = .ok (.istore 4, 2) := by decide +kernel
theorem dX1_bestPeriod_77 : decode cX1_bestPeriod 77 = .ok (.iinc 6 1, 3) := by decide +kernel
theorem dX1_bestPeriod_80 : decode cX1_bestPeriod 80 = .ok (.goto (-43), 3) := by decide +kernel
theorem dX1_bestPeriod_83 : decode cX1_bestPeriod 83 = .ok (.iinc 5 1, 3) := by decide +kernel
theorem dX1_bestPeriod_86 : decode cX1_bestPeriod 86 = .ok (.goto (-61), 3) := by decide +kernel
theorem dX1_bestPeriod_89 : decode cX1_bestPeriod 89 = .ok (.iload_n 2, 1) := by decide +kernel
theorem dX1_bestPeriod_90 : decode cX1_bestPeriod 90 = .ok (.ifCond .lt 9, 3) := by decide +kernel
theorem dX1_bestPeriod_93 : decode cX1_bestPeriod 93 = .ok (.iload 4, 2) := by decide +kernel
theorem dX1_bestPeriod_95 : decode cX1_bestPeriod 95 = .ok (.iload_n 2, 1) := by decide +kernel
theorem dX1_bestPeriod_96 : decode cX1_bestPeriod 96 = .ok (.if_icmp .ge 7, 3) := by decide +kernel
theorem dX1_bestPeriod_99 : decode cX1_bestPeriod 99 = .ok (.iload_n 3, 1) := by decide +kernel
theorem dX1_bestPeriod_100 : decode cX1_bestPeriod 100 = .ok (.goto 4, 3) := by decide +kernel
theorem dX1_bestPeriod_103 : decode cX1_bestPeriod 103 = .ok (.iload_n 1, 1) := by decide +kernel
theorem dX1_bestPeriod_104 : decode cX1_bestPeriod 104 = .ok (.istore_n 1, 1) := by decide +kernel
theorem dX1_bestPeriod_105 : decode cX1_bestPeriod 105 = .ok (.iload_n 2, 1) := by decide +kernel
theorem dX1_bestPeriod_106 : decode cX1_bestPeriod 106 = .ok (.ifCond .lt 9, 3) := by decide +kernel
theorem dX1_bestPeriod_109 : decode cX1_bestPeriod 109 = .ok (.iload 4, 2) := by decide +kernel
theorem dX1_bestPeriod_111 : decode cX1_bestPeriod 111 = .ok (.iload_n 2, 1) := by decide +kernel
theorem dX1_bestPeriod_112 : decode cX1_bestPeriod 112 = .ok (.if_icmp .ge 8, 3) := by decide +kernel
theorem dX1_bestPeriod_115 : decode cX1_bestPeriod 115 = .ok (.iload 4, 2) := by decide +kernel
theorem dX1_bestPeriod_117 : decode cX1_bestPeriod 117 = .ok (.goto 4, 3) := by decide +kernel
theorem dX1_bestPeriod_120 : decode cX1_bestPeriod 120 = .ok (.iload_n 2, 1) := by decide +kernel
theorem dX1_bestPeriod_121 : decode cX1_bestPeriod 121 = .ok (.istore_n 2, 1) := by decide +kernel
theorem dX1_bestPeriod_122 : decode cX1_bestPeriod 122 = .ok (.iinc 3 1, 3) := by decide +kernel
theorem dX1_bestPeriod_125 : decode cX1_bestPeriod 125 = .ok (.goto (-119), 3) := by decide +kernel
theorem dX1_bestPeriod_128 : decode cX1_bestPeriod 128 = .ok (.iload_n 1, 1) := by decide +kernel
theorem dX1_bestPeriod_129 : decode cX1_bestPeriod 129 = .ok (.ireturn, 1) := by decide +kernel
set_option maxRecDepth 20000 in
theorem ggX1_period_X1_bestPeriod : GoodIn wsX1_period wsX1_bestPeriod := goodIn_r _ [5, 6, 7, 8, 9, 10, 11, 4, 12, 13, 14, 15, 16, 17, 18, 19, 20, 21, 22, 23, 24, 25, 26, 27, 28, 29] (by decide +kernel) (by decide +kernel)
set_option maxRecDepth 20000 in
theorem gX1_period_X1_bestPeriod : GoodIn wsX1_period (wsV RX1 62 RX1 yX1_bestPeriod wsX1_bestPeriod) := goodIn_app (goodIn_of _ (by decide +kernel)) ggX1_period_X1_bestPeriod
theorem dX1_period_0 : decode cX1_period 0 = .ok (.aload_n 0, 1) := by decide +kernel
theorem dX1_period_1 : decode cX1_period 1 = .ok (.invokevirtual 62, 3) := by decide +kernel
theorem dX1_period_4 : decode cX1_period 4 = .ok (.ireturn, 1) := by decide +kernel
set_option maxRecDepth 20000 in
theorem ggX1_hear_X1_in : GoodIn wsX1_hear wsX1_in := goodIn_r _ [6] (by decide +kernel) (by decide +kernel)
set_option maxRecDepth 20000 in
theorem gX1_hear_X1_in : GoodIn wsX1_hear (va_wsS RX1 46 yX1_in wsX1_in) := goodIn_app (goodIn_of _ (by decide +kernel)) ggX1_hear_X1_in
theorem dX1_hear_0 : decode cX1_hear 0 = .ok (.iload_n 1, 1) := by decide +kernel
theorem dX1_hear_1 : decode cX1_hear 1 = .ok (.iconst 0, 1) := by decide +kernel
theorem dX1_hear_2 : decode cX1_hear 2 = .ok (.iconst 1, 1) := by decide +kernel
theorem dX1_hear_3 : decode cX1_hear 3 = .ok (.invokestatic 46, 3) := by decide +kernel
theorem dX1_hear_6 : decode cX1_hear 6 = .ok (.ifCond .eq 16, 3) := by decide +kernel
theorem dX1_hear_9 : decode cX1_hear 9 = .ok (.iload_n 2, 1) := by decide +kernel
theorem dX1_hear_10 : decode cX1_hear 10 = .ok (.sipush (-1000), 3) := by decide +kernel
theorem dX1_hear_13 : decode cX1_hear 13 = .ok (.sipush 1000, 3) := by decide +kernel
theorem dX1_hear_16 : decode cX1_hear 16 = .ok (.invokestatic 46, 3) := by decide +kernel
theorem dX1_hear_19 : decode cX1_hear 19 = .ok (.ifCond .ne 5, 3) := by decide +kernel
theorem dX1_hear_22 : decode cX1_hear 22 = .ok (.iconst (-1), 1) := by decide +kernel
theorem dX1_hear_23 : decode cX1_hear 23 = .ok (.ireturn, 1) := by decide +kernel
theorem dX1_hear_24 : decode cX1_hear 24 = .ok (.aload_n 0, 1) := by decide +kernel
theorem dX1_hear_25 : decode cX1_hear 25 = .ok (.getfield 23, 3) := by decide +kernel
theorem dX1_hear_28 : decode cX1_hear 28 = .ok (.iload_n 1, 1) := by decide +kernel
theorem dX1_hear_29 : decode cX1_hear 29 = .ok (.iaload, 1) := by decide +kernel
theorem dX1_hear_30 : decode cX1_hear 30 = .ok (.bipush 8, 2) := by decide +kernel
theorem dX1_hear_32 : decode cX1_hear 32 = .ok (.if_icmp .ne 6, 3) := by decide +kernel
theorem dX1_hear_35 : decode cX1_hear 35 = .ok (.bipush (-3), 2) := by decide +kernel
theorem dX1_hear_37 : decode cX1_hear 37 = .ok (.ireturn, 1) := by decide +kernel
theorem dX1_hear_38 : decode cX1_hear 38 = .ok (.aload_n 0, 1) := by decide +kernel
theorem dX1_hear_39 : decode cX1_hear 39 = .ok (.getfield 26, 3) := by decide +kernel
theorem dX1_hear_42 : decode cX1_hear 42 = .ok (.bipush 8, 2) := by decide +kernel
theorem dX1_hear_44 : decode cX1_hear 44 = .ok (.iload_n 1, 1) := by decide +kernel
theorem dX1_hear_45 : decode cX1_hear 45 = .ok (.imul, 1) := by decide +kernel
theorem dX1_hear_46 : decode cX1_hear 46 = .ok (.aload_n 0, 1) := by decide +kernel
theorem dX1_hear_47 : decode cX1_hear 47 = .ok (.getfield 23, 3) := by decide +kernel
theorem dX1_hear_50 : decode cX1_hear 50 = .ok (.iload_n 1, 1) := by decide +kernel
theorem dX1_hear_51 : decode cX1_hear 51 = .ok (.iaload, 1) := by decide +kernel
theorem dX1_hear_52 : decode cX1_hear 52 = .ok (.iadd, 1) := by decide +kernel
theorem dX1_hear_53 : decode cX1_hear 53 = .ok (.iload_n 2, 1) := by decide +kernel
theorem dX1_hear_54 : decode cX1_hear 54 = .ok (.iastore, 1) := by decide +kernel
theorem dX1_hear_55 : decode cX1_hear 55 = .ok (.aload_n 0, 1) := by decide +kernel
theorem dX1_hear_56 : decode cX1_hear 56 = .ok (.getfield 23, 3) := by decide +kernel
theorem dX1_hear_59 : decode cX1_hear 59 = .ok (.iload_n 1, 1) := by decide +kernel
theorem dX1_hear_60 : decode cX1_hear 60 = .ok (.dup2, 1) := by decide +kernel
theorem dX1_hear_61 : decode cX1_hear 61 = .ok (.iaload, 1) := by decide +kernel
theorem dX1_hear_62 : decode cX1_hear 62 = .ok (.iconst 1, 1) := by decide +kernel
theorem dX1_hear_63 : decode cX1_hear 63 = .ok (.iadd, 1) := by decide +kernel
theorem dX1_hear_64 : decode cX1_hear 64 = .ok (.iastore, 1) := by decide +kernel
theorem dX1_hear_65 : decode cX1_hear 65 = .ok (.aload_n 0, 1) := by decide +kernel
theorem dX1_hear_66 : decode cX1_hear 66 = .ok (.getfield 23, 3) := by decide +kernel
theorem dX1_hear_69 : decode cX1_hear 69 = .ok (.iload_n 1, 1) := by decide +kernel
theorem dX1_hear_70 : decode cX1_hear 70 = .ok (.iaload, 1) := by decide +kernel
theorem dX1_hear_71 : decode cX1_hear 71 = .ok (.ireturn, 1) := by decide +kernel
set_option maxRecDepth 20000 in
theorem ggX1_clear_X1_in : GoodIn wsX1_clear wsX1_in := goodIn_r _ [5] (by decide +kernel) (by decide +kernel)
set_option maxRecDepth 20000 in
theorem gX1_clear_X1_in : GoodIn wsX1_clear (va_wsS RX1 46 yX1_in wsX1_in) := goodIn_app (goodIn_of _ (by decide +kernel)) ggX1_clear_X1_in
theorem dX1_clear_0 : decode cX1_clear 0 = .ok (.iload_n 1, 1) := by decide +kernel
theorem dX1_clear_1 : decode cX1_clear 1 = .ok (.iconst 0, 1) := by decide +kernel
theorem dX1_clear_2 : decode cX1_clear 2 = .ok (.iconst 1, 1) := by decide +kernel
theorem dX1_clear_3 : decode cX1_clear 3 = .ok (.invokestatic 46, 3) := by decide +kernel
theorem dX1_clear_6 : decode cX1_clear 6 = .ok (.ifCond .ne 5, 3) := by decide +kernel
theorem dX1_clear_9 : decode cX1_clear 9 = .ok (.iconst (-1), 1) := by decide +kernel
theorem dX1_clear_10 : decode cX1_clear 10 = .ok (.ireturn, 1) := by decide +kernel
theorem dX1_clear_11 : decode cX1_clear 11 = .ok (.aload_n 0, 1) := by decide +kernel
theorem dX1_clear_12 : decode cX1_clear 12 = .ok (.getfield 23, 3) := by decide +kernel
theorem dX1_clear_15 : decode cX1_clear 15 = .ok (.iload_n 1, 1) := by decide +kernel
theorem dX1_clear_16 : decode cX1_clear 16 = .ok (.iaload, 1) := by decide +kernel
theorem dX1_clear_17 : decode cX1_clear 17 = .ok (.istore_n 2, 1) := by decide +kernel
theorem dX1_clear_18 : decode cX1_clear 18 = .ok (.aload_n 0, 1) := by decide +kernel
theorem dX1_clear_19 : decode cX1_clear 19 = .ok (.getfield 23, 3) := by decide +kernel
theorem dX1_clear_22 : decode cX1_clear 22 = .ok (.iload_n 1, 1) := by decide +kernel
theorem dX1_clear_23 : decode cX1_clear 23 = .ok (.iconst 0, 1) := by decide +kernel
theorem dX1_clear_24 : decode cX1_clear 24 = .ok (.iastore, 1) := by decide +kernel
theorem dX1_clear_25 : decode cX1_clear 25 = .ok (.iload_n 2, 1) := by decide +kernel
theorem dX1_clear_26 : decode cX1_clear 26 = .ok (.ireturn, 1) := by decide +kernel
set_option maxRecDepth 20000 in
theorem ggX1_productBy_X1_in : GoodIn wsX1_productBy wsX1_in := goodIn_r _ [6] (by decide +kernel) (by decide +kernel)
set_option maxRecDepth 20000 in
theorem gX1_productBy_X1_in : GoodIn wsX1_productBy (va_wsS RX1 46 yX1_in wsX1_in) := goodIn_app (goodIn_of _ (by decide +kernel)) ggX1_productBy_X1_in
theorem dX1_productBy_0 : decode cX1_productBy 0 = .ok (.iconst 0, 1) := by decide +kernel
theorem dX1_productBy_1 : decode cX1_productBy 1 = .ok (.istore_n 2, 1) := by decide +kernel
theorem dX1_productBy_2 : decode cX1_productBy 2 = .ok (.iconst 0, 1) := by decide +kernel
theorem dX1_productBy_3 : decode cX1_productBy 3 = .ok (.istore_n 3, 1) := by decide +kernel
theorem dX1_productBy_4 : decode cX1_productBy 4 = .ok (.iload_n 3, 1) := by decide +kernel
theorem dX1_productBy_5 : decode cX1_productBy 5 = .ok (.aload_n 0, 1) := by decide +kernel
theorem dX1_productBy_6 : decode cX1_productBy 6 = .ok (.getfield 23, 3) := by decide +kernel
theorem dX1_productBy_9 : decode cX1_productBy 9 = .ok (.iconst 0, 1) := by decide +kernel
theorem dX1_productBy_10 : decode cX1_productBy 10 = .ok (.iaload, 1) := by decide +kernel
theorem dX1_productBy_11 : decode cX1_productBy 11 = .ok (.if_icmp .ge 52, 3) := by decide +kernel
theorem dX1_productBy_14 : decode cX1_productBy 14 = .ok (.iload_n 2, 1) := by decide +kernel
theorem dX1_productBy_15 : decode cX1_productBy 15 = .ok (.iload_n 3, 1) := by decide +kernel
theorem dX1_productBy_16 : decode cX1_productBy 16 = .ok (.iload_n 1, 1) := by decide +kernel
theorem dX1_productBy_17 : decode cX1_productBy 17 = .ok (.iadd, 1) := by decide +kernel
theorem dX1_productBy_18 : decode cX1_productBy 18 = .ok (.iconst 0, 1) := by decide +kernel
theorem dX1_productBy_19 : decode cX1_productBy 19 = .ok (.aload_n 0, 1) := by decide +kernel
theorem dX1_productBy_20 : decode cX1_productBy 20 = .ok (.getfield 23, 3) := by decide +kernel
theorem dX1_productBy_23 : decode cX1_productBy 23 = .ok (.iconst 1, 1) := by decide +kernel
theorem dX1_productBy_24 : decode cX1_productBy 24 = .ok (.iaload, 1) := by decide +kernel
theorem dX1_productBy_25 : decode cX1_productBy 25 = .ok (.iconst 1, 1) := by decide +kernel
theorem dX1_productBy_26 : decode cX1_productBy 26 = .ok (.isub, 1) := by decide +kernel
theorem dX1_productBy_27 : decode cX1_productBy 27 = .ok (.invokestatic 46, 3) := by decide +kernel
theorem dX1_productBy_30 : decode cX1_productBy 30 = .ok (.ifCond .eq 24, 3) := by decide +kernel
theorem dX1_productBy_33 : decode cX1_productBy 33 = .ok (.aload_n 0, 1) := by decide +kernel
theorem dX1_productBy_34 : decode cX1_productBy 34 = .ok (.getfield 26, 3) := by decide +kernel
theorem dX1_productBy_37 : decode cX1_productBy 37 = .ok (.iload_n 3, 1) := by decide +kernel
theorem dX1_productBy_38 : decode cX1_productBy 38 = .ok (.iaload, 1) := by decide +kernel
theorem dX1_productBy_39 : decode cX1_productBy 39 = .ok (.aload_n 0, 1) := by decide +kernel
theorem dX1_productBy_40 : decode cX1_productBy 40 = .ok (.getfield 26, 3) := by decide +kernel
theorem dX1_productBy_43 : decode cX1_productBy 43 = .ok (.bipush 8, 2) := by decide +kernel
theorem dX1_productBy_45 : decode cX1_productBy 45 = .ok (.iload_n 3, 1) := by decide +kernel
theorem dX1_productBy_46 : decode cX1_productBy 46 = .ok (.iadd, 1) := by decide +kernel
theorem dX1_productBy_47 : decode cX1_productBy 47 = .ok (.iload_n 1, 1) := by decide +kernel
theorem dX1_productBy_48 : decode cX1_productBy 48 = .ok (.iadd, 1) := by decide +kernel
theorem dX1_productBy_49 : decode cX1_productBy 49 = .ok (.iaload, 1) := by decide +kernel
theorem dX1_productBy_50 : decode cX1_productBy 50 = .ok (.imul, 1) := by decide +kernel
theorem dX1_productBy_51 : decode cX1_productBy 51 = .ok (.goto 4, 3) := by decide +kernel
theorem dX1_productBy_54 : decode cX1_productBy 54 = .ok (.iconst 0, 1) := by decide +kernel
theorem dX1_productBy_55 : decode cX1_productBy 55 = .ok (.iadd, 1) := by decide +kernel
theorem dX1_productBy_56 : decode cX1_productBy 56 = .ok (.istore_n 2, 1) := by decide +kernel
theorem dX1_productBy_57 : decode cX1_productBy 57 = .ok (.iinc 3 1, 3) := by decide +kernel
theorem dX1_productBy_60 : decode cX1_productBy 60 = .ok (.goto (-56), 3) := by decide +kernel
theorem dX1_productBy_63 : decode cX1_productBy 63 = .ok (.iload_n 2, 1) := by decide +kernel
theorem dX1_productBy_64 : decode cX1_productBy 64 = .ok (.ireturn, 1) := by decide +kernel
set_option maxRecDepth 20000 in
theorem ggX1_later_X1_productBy : GoodIn wsX1_later wsX1_productBy := goodIn_r _ [6, 1, 7, 8, 9, 5, 10, 11, 12, 13, 14, 15, 16, 17, 18, 19, 20, 21, 22, 23] (by decide +kernel) (by decide +kernel)
set_option maxRecDepth 20000 in
theorem gX1_later_X1_productBy : GoodIn wsX1_later (wsV RX1 107 RX1 yX1_productBy wsX1_productBy) := goodIn_app (goodIn_of _ (by decide +kernel)) ggX1_later_X1_productBy
theorem dX1_later_0 : decode cX1_later 0 = .ok (.aload_n 0, 1) := by decide +kernel
theorem dX1_later_1 : decode cX1_later 1 = .ok (.getfield 23, 3) := by decide +kernel
theorem dX1_later_4 : decode cX1_later 4 = .ok (.iconst 0, 1) := by decide +kernel
theorem dX1_later_5 : decode cX1_later 5 = .ok (.iaload, 1) := by decide +kernel
theorem dX1_later_6 : decode cX1_later 6 = .ok (.ifCond .eq 12, 3) := by decide +kernel
theorem dX1_later_9 : decode cX1_later 9 = .ok (.aload_n 0, 1) := by decide +kernel
theorem dX1_later_10 : decode cX1_later 10 = .ok (.getfield 23, 3) := by decide +kernel
theorem dX1_later_13 : decode cX1_later 13 = .ok (.iconst 1, 1) := by decide +kernel
theorem dX1_later_14 : decode cX1_later 14 = .ok (.iaload, 1) := by decide +kernel
theorem dX1_later_15 : decode cX1_later 15 = .ok (.ifCond .ne 6, 3) := by decide +kernel
theorem dX1_later_18 : decode cX1_later 18 = .ok (.bipush (-9), 2) := by decide +kernel
theorem dX1_later_20 : decode cX1_later 20 = .ok (.ireturn, 1) := by decide +kernel
theorem dX1_later_21 : decode cX1_later 21 = .ok (.iconst 0, 1) := by decide +kernel
theorem dX1_later_22 : decode cX1_later 22 = .ok (.istore_n 1, 1) := by decide +kernel
theorem dX1_later_23 : decode cX1_later 23 = .ok (.iconst 1, 1) := by decide +kernel
theorem dX1_later_24 : decode cX1_later 24 = .ok (.istore_n 2, 1) := by decide +kernel
theorem dX1_later_25 : decode cX1_later 25 = .ok (.iload_n 2, 1) := by decide +kernel
theorem dX1_later_26 : decode cX1_later 26 = .ok (.bipush 8, 2) := by decide +kernel
theorem dX1_later_28 : decode cX1_later 28 = .ok (.if_icmp .ge 49, 3) := by decide +kernel
theorem dX1_later_31 : decode cX1_later 31 = .ok (.aload_n 0, 1) := by decide +kernel
theorem dX1_later_32 : decode cX1_later 32 = .ok (.iload_n 2, 1) := by decide +kernel
theorem dX1_later_33 : decode cX1_later 33 = .ok (.ineg, 1) := by decide +kernel
theorem dX1_later_34 : decode cX1_later 34 = .ok (.invokevirtual 107, 3) := by decide +kernel
theorem dX1_later_37 : decode cX1_later 37 = .ok (.aload_n 0, 1) := by decide +kernel
theorem dX1_later_38 : decode cX1_later 38 = .ok (.iload_n 1, 1) := by decide +kernel
theorem dX1_later_39 : decode cX1_later 39 = .ok (.invokevirtual 107, 3) := by decide +kernel
theorem dX1_later_42 : decode cX1_later 42 = .ok (.if_icmp .le 8, 3) := by decide +kernel
theorem dX1_later_45 : decode cX1_later 45 = .ok (.iload_n 2, 1) := by decide +kernel
theorem dX1_later_46 : decode cX1_later 46 = .ok (.ineg, 1) := by decide +kernel
theorem dX1_later_47 : decode cX1_later 47 = .ok (.goto 4, 3) := by decide +kernel
theorem dX1_later_50 : decode cX1_later 50 = .ok (.iload_n 1, 1) := by decide +kernel
theorem dX1_later_51 : decode cX1_later 51 = .ok (.istore_n 1, 1) := by decide +kernel
theorem dX1_later_52 : decode cX1_later 52 = .ok (.aload_n 0, 1) := by decide +kernel
theorem dX1_later_53 : decode cX1_later 53 = .ok (.iload_n 2, 1) := by decide +kernel
theorem dX1_later_54 : decode cX1_later 54 = .ok (.invokevirtual 107, 3) := by decide +kernel
theorem dX1_later_57 : decode cX1_later 57 = .ok (.aload_n 0, 1) := by decide +kernel
theorem dX1_later_58 : decode cX1_later 58 = .ok (.iload_n 1, 1) := by decide +kernel
theorem dX1_later_59 : decode cX1_later 59 = .ok (.invokevirtual 107, 3) := by decide +kernel
theorem dX1_later_62 : decode cX1_later 62 = .ok (.if_icmp .le 7, 3) := by decide +kernel
theorem dX1_later_65 : decode cX1_later 65 = .ok (.iload_n 2, 1) := by decide +kernel
theorem dX1_later_66 : decode cX1_later 66 = .ok (.goto 4, 3) := by decide +kernel
theorem dX1_later_69 : decode cX1_later 69 = .ok (.iload_n 1, 1) := by decide +kernel
theorem dX1_later_70 : decode cX1_later 70 = .ok (.istore_n 1, 1) := by decide +kernel
theorem dX1_later_71 : decode cX1_later 71 = .ok (.iinc 2 1, 3) := by decide +kernel
theorem dX1_later_74 : decode cX1_later 74 = .ok (.goto (-49), 3) := by decide +kernel
theorem dX1_later_77 : decode cX1_later 77 = .ok (.iload_n 1, 1) := by decide +kernel
theorem dX1_later_78 : decode cX1_later 78 = .ok (.ireturn, 1) := by decide +kernel
theorem dX1_numberAt_0 : decode cX1_numberAt 0 = .ok (.iload_n 1, 1) := by decide +kernel
theorem dX1_numberAt_1 : decode cX1_numberAt 1 = .ok (.aload_n 0, 1) := by decide +kernel
theorem dX1_numberAt_2 : decode cX1_numberAt 2 = .ok (.getfield 23, 3) := by decide +kernel
theorem dX1_numberAt_5 : decode cX1_numberAt 5 = .ok (.iconst 0, 1) := by decide +kernel
theorem dX1_numberAt_6 : decode cX1_numberAt 6 = .ok (.iaload, 1) := by decide +kernel
theorem dX1_numberAt_7 : decode cX1_numberAt 7 = .ok (.if_icmp .ge 12, 3) := by decide +kernel
theorem dX1_numberAt_10 : decode cX1_numberAt 10 = .ok (.aload_n 0, 1) := by decide +kernel
theorem dX1_numberAt_11 : decode cX1_numberAt 11 = .ok (.getfield 26, 3) := by decide +kernel
theorem dX1_numberAt_14 : decode cX1_numberAt 14 = .ok (.iload_n 1, 1) := by decide +kernel
theorem dX1_numberAt_15 : decode cX1_numberAt 15 = .ok (.iaload, 1) := by decide +kernel
theorem dX1_numberAt_16 : decode cX1_numberAt 16 = .ok (.goto 4, 3) := by decide +kernel
theorem dX1_numberAt_19 : decode cX1_numberAt 19 = .ok (.iconst 0, 1) := by decide +kernel
theorem dX1_numberAt_20 : decode cX1_numberAt 20 = .ok (.ireturn, 1) := by decide +kernel
set_option maxRecDepth 20000 in
theorem ggX1_turned_X1_in : GoodIn wsX1_turned wsX1_in := goodIn_r _ [5] (by decide +kernel) (by decide +kernel)
set_option maxRecDepth 20000 in
theorem gX1_turned_X1_in : GoodIn wsX1_turned (va_wsS RX1 46 yX1_in wsX1_in) := goodIn_app (goodIn_of _ (by decide +kernel)) ggX1_turned_X1_in
set_option maxRecDepth 20000 in
theorem ggX1_turned_X1_numberAt : GoodIn wsX1_turned wsX1_numberAt := goodIn_r _ [9, 10, 11, 12, 13, 14, 15, 16, 17, 18, 19, 20, 21, 22, 23, 24] (by decide +kernel) (by decide +kernel)
set_option maxRecDepth 20000 in
theorem gX1_turned_X1_numberAt : GoodIn wsX1_turned (wsV RX1 111 RX1 yX1_numberAt wsX1_numberAt) := goodIn_app (goodIn_of _ (by decide +kernel)) ggX1_turned_X1_numberAt
theorem dX1_turned_0 : decode cX1_turned 0 = .ok (.iload_n 1, 1) := by decide +kernel
theorem dX1_turned_1 : decode cX1_turned 1 = .ok (.iconst 0, 1) := by decide +kernel
theorem dX1_turned_2 : decode cX1_turned 2 = .ok (.bipush 7, 2) := by decide +kernel
theorem dX1_turned_4 : decode cX1_turned 4 = .ok (.invokestatic 46, 3) := by decide +kernel
theorem dX1_turned_7 : decode cX1_turned 7 = .ok (.ifCond .eq 12, 3) := by decide +kernel
theorem dX1_turned_10 : decode cX1_turned 10 = .ok (.iload_n 2, 1) := by decide +kernel
theorem dX1_turned_11 : decode cX1_turned 11 = .ok (.iconst 0, 1) := by decide +kernel
theorem dX1_turned_12 : decode cX1_turned 12 = .ok (.iconst 1, 1) := by decide +kernel
theorem dX1_turned_13 : decode cX1_turned 13 = .ok (.invokestatic 46, 3) := by decide +kernel
theorem dX1_turned_16 : decode cX1_turned 16 = .ok (.ifCond .ne 6, 3) := by decide +kernel
theorem dX1_turned_19 : decode cX1_turned 19 = .ok (.ldc 110, 2) := by decide +kernel
theorem dX1_turned_21 : decode cX1_turned 21 = .ok (.ireturn, 1) := by decide +kernel
theorem dX1_turned_22 : decode cX1_turned 22 = .ok (.iload_n 2, 1) := by decide +kernel
theorem dX1_turned_23 : decode cX1_turned 23 = .ok (.iconst 1, 1) := by decide +kernel
theorem dX1_turned_24 : decode cX1_turned 24 = .ok (.if_icmp .ne 9, 3) := by decide +kernel
theorem dX1_turned_27 : decode cX1_turned 27 = .ok (.aload_n 0, 1) := by decide +kernel
theorem dX1_turned_28 : decode cX1_turned 28 = .ok (.iload_n 1, 1) := by decide +kernel
theorem dX1_turned_29 : decode cX1_turned 29 = .ok (.invokevirtual 111, 3) := by decide +kernel
theorem dX1_turned_32 : decode cX1_turned 32 = .ok (.ireturn, 1) := by decide +kernel
theorem dX1_turned_33 : decode cX1_turned 33 = .ok (.iconst 0, 1) := by decide +kernel
theorem dX1_turned_34 : decode cX1_turned 34 = .ok (.istore_n 3, 1) := by decide +kernel
theorem dX1_turned_35 : decode cX1_turned 35 = .ok (.iconst 0, 1) := by decide +kernel
theorem dX1_turned_36 : decode cX1_turned 36 = .ok (.istore 4, 2) := by decide +kernel
theorem dX1_turned_38 : decode cX1_turned 38 = .ok (.iload 4, 2) := by decide +kernel
theorem dX1_turned_40 : decode cX1_turned 40 = .ok (.bipush 8, 2) := by decide +kernel
theorem dX1_turned_42 : decode cX1_turned 42 = .ok (.if_icmp .ge 64, 3) := by decide +kernel
theorem dX1_turned_45 : decode cX1_turned 45 = .ok (.iload_n 1, 1) := by decide +kernel
theorem dX1_turned_46 : decode cX1_turned 46 = .ok (.iload 4, 2) := by decide +kernel
theorem dX1_turned_48 : decode cX1_turned 48 = .ok (.iand, 1) := by decide +kernel
theorem dX1_turned_49 : decode cX1_turned 49 = .ok (.istore 5, 2) := by decide +kernel
theorem dX1_turned_51 : decode cX1_turned 51 = .ok (.iload 5, 2) := by decide +kernel
theorem dX1_turned_53 : decode cX1_turned 53 = .ok (.iload 5, 2) := by decide +kernel
theorem dX1_turned_55 : decode cX1_turned 55 = .ok (.iconst 1, 1) := by decide +kernel
theorem dX1_turned_56 : decode cX1_turned 56 = .ok (.ishr, 1) := by decide +kernel
theorem dX1_turned_57 : decode cX1_turned 57 = .ok (.ixor, 1) := by decide +kernel
theorem dX1_turned_58 : decode cX1_turned 58 = .ok (.iload 5, 2) := by decide +kernel
theorem dX1_turned_60 : decode cX1_turned 60 = .ok (.iconst 2, 1) := by decide +kernel
theorem dX1_turned_61 : decode cX1_turned 61 = .ok (.ishr, 1) := by decide +kernel
theorem dX1_turned_62 : decode cX1_turned 62 = .ok (.ixor, 1) := by decide +kernel
theorem dX1_turned_63 : decode cX1_turned 63 = .ok (.iconst 1, 1) := by decide +kernel
theorem dX1_turned_64 : decode cX1_turned 64 = .ok (.iand, 1) := by decide +kernel
theorem dX1_turned_65 : decode cX1_turned 65 = .ok (.iconst 1, 1) := by decide +kernel
theorem dX1_turned_66 : decode cX1_turned 66 = .ok (.if_icmp .ne 7, 3) := by decide +kernel
theorem dX1_turned_69 : decode cX1_turned 69 = .ok (.iconst 1, 1) := by decide +kernel
theorem dX1_turned_70 : decode cX1_turned 70 = .ok (.goto 4, 3) := by decide +kernel
theorem dX1_turned_73 : decode cX1_turned 73 = .ok (.iconst 0, 1) := by decide +kernel
theorem dX1_turned_74 : decode cX1_turned 74 = .ok (.istore 6, 2) := by decide +kernel
theorem dX1_turned_76 : decode cX1_turned 76 = .ok (.iload_n 3, 1) := by decide +kernel
theorem dX1_turned_77 : decode cX1_turned 77 = .ok (.iload 6, 2) := by decide +kernel
theorem dX1_turned_79 : decode cX1_turned 79 = .ok (.ifCond .eq 13, 3) := by decide +kernel
theorem dX1_turned_82 : decode cX1_turned 82 = .ok (.aload_n 0, 1) := by decide +kernel
theorem dX1_turned_83 : decode cX1_turned 83 = .ok (.iload 4, 2) := by decide +kernel
theorem dX1_turned_85 : decode cX1_turned 85 = .ok (.invokevirtual 111, 3) := by decide +kernel
theorem dX1_turned_88 : decode cX1_turned 88 = .ok (.ineg, 1) := by decide +kernel
theorem dX1_turned_89 : decode cX1_turned 89 = .ok (.goto 9, 3) := by decide +kernel
theorem dX1_turned_92 : decode cX1_turned 92 = .ok (.aload_n 0, 1) := by decide +kernel
theorem dX1_turned_93 : decode cX1_turned 93 = .ok (.iload 4, 2) := by decide +kernel
theorem dX1_turned_95 : decode cX1_turned 95 = .ok (.invokevirtual 111, 3) := by decide +kernel
theorem dX1_turned_98 : decode cX1_turned 98 = .ok (.iadd, 1) := by decide +kernel
theorem dX1_turned_99 : decode cX1_turned 99 = .ok (.istore_n 3, 1) := by decide +kernel
theorem dX1_turned_100 : decode cX1_turned 100 = .ok (.iinc 4 1, 3) := by decide +kernel
theorem dX1_turned_103 : decode cX1_turned 103 = .ok (.goto (-65), 3) := by decide +kernel
theorem dX1_turned_106 : decode cX1_turned 106 = .ok (.iload_n 3, 1) := by decide +kernel
theorem dX1_turned_107 : decode cX1_turned 107 = .ok (.ireturn, 1) := by decide +kernel
set_option maxRecDepth 20000 in
theorem ggX1_truth_X1_isVoice : GoodIn wsX1_truth wsX1_isVoice := goodIn_r _ [6, 7, 8, 9, 5, 10, 17, 18, 19, 20, 21, 22, 23, 24, 25, 26, 27, 28, 29] (by decide +kernel) (by decide +kernel)
set_option maxRecDepth 20000 in
theorem gX1_truth_X1_isVoice : GoodIn wsX1_truth (wsV RX1 69 RX1 yX1_isVoice wsX1_isVoice) := goodIn_app (goodIn_of _ (by decide +kernel)) ggX1_truth_X1_isVoice
set_option maxRecDepth 20000 in
theorem ggX1_truth_X1_isPlace : GoodIn wsX1_truth wsX1_isPlace := goodIn_r _ [14, 15, 16, 8, 9, 5, 10, 17, 18, 19, 20, 21, 22, 23, 24, 25, 26, 27, 28, 29] (by decide +kernel) (by decide +kernel)
set_option maxRecDepth 20000 in
theorem gX1_truth_X1_isPlace : GoodIn wsX1_truth (wsV RX1 50 RX1 yX1_isPlace wsX1_isPlace) := goodIn_app (goodIn_of _ (by decide +kernel)) ggX1_truth_X1_isPlace
set_option maxRecDepth 20000 in
theorem ggX1_truth_X1_in : GoodIn wsX1_truth wsX1_in := goodIn_r _ [10] (by decide +kernel) (by decide +kernel)
set_option maxRecDepth 20000 in
theorem gX1_truth_X1_in : GoodIn wsX1_truth (va_wsS RX1 46 yX1_in wsX1_in) := goodIn_app (goodIn_of _ (by decide +kernel)) ggX1_truth_X1_in
theorem dX1_truth_0 : decode cX1_truth 0 = .ok (.aload_n 0, 1) := by decide +kernel
theorem dX1_truth_1 : decode cX1_truth 1 = .ok (.iload_n 1, 1) := by decide +kernel
theorem dX1_truth_2 : decode cX1_truth 2 = .ok (.invokevirtual 69, 3) := by decide +kernel
theorem dX1_truth_5 : decode cX1_truth 5 = .ok (.ifCond .eq 23, 3) := by decide +kernel
theorem dX1_truth_8 : decode cX1_truth 8 = .ok (.aload_n 0, 1) := by decide +kernel
theorem dX1_truth_9 : decode cX1_truth 9 = .ok (.iload_n 2, 1) := by decide +kernel
theorem dX1_truth_10 : decode cX1_truth 10 = .ok (.iload_n 3, 1) := by decide +kernel
theorem dX1_truth_11 : decode cX1_truth 11 = .ok (.invokevirtual 50, 3) := by decide +kernel
theorem dX1_truth_14 : decode cX1_truth 14 = .ok (.ifCond .eq 14, 3) := by decide +kernel
theorem dX1_truth_17 : decode cX1_truth 17 = .ok (.iload 4, 2) := by decide +kernel
theorem dX1_truth_19 : decode cX1_truth 19 = .ok (.iconst 0, 1) := by decide +kernel
theorem dX1_truth_20 : decode cX1_truth 20 = .ok (.bipush 99, 2) := by decide +kernel
theorem dX1_truth_22 : decode cX1_truth 22 = .ok (.invokestatic 46, 3) := by decide +kernel
theorem dX1_truth_25 : decode cX1_truth 25 = .ok (.ifCond .ne 5, 3) := by decide +kernel
theorem dX1_truth_28 : decode cX1_truth 28 = .ok (.iconst (-1), 1) := by decide +kernel
theorem dX1_truth_29 : decode cX1_truth 29 = .ok (.ireturn, 1) := by decide +kernel
theorem dX1_truth_30 : decode cX1_truth 30 = .ok (.bipush 48, 2) := by decide +kernel
theorem dX1_truth_32 : decode cX1_truth 32 = .ok (.iload_n 1, 1) := by decide +kernel
theorem dX1_truth_33 : decode cX1_truth 33 = .ok (.imul, 1) := by decide +kernel
theorem dX1_truth_34 : decode cX1_truth 34 = .ok (.bipush 8, 2) := by decide +kernel
theorem dX1_truth_36 : decode cX1_truth 36 = .ok (.iload_n 2, 1) := by decide +kernel
theorem dX1_truth_37 : decode cX1_truth 37 = .ok (.imul, 1) := by decide +kernel
theorem dX1_truth_38 : decode cX1_truth 38 = .ok (.iadd, 1) := by decide +kernel
theorem dX1_truth_39 : decode cX1_truth 39 = .ok (.iload_n 3, 1) := by decide +kernel
theorem dX1_truth_40 : decode cX1_truth 40 = .ok (.iadd, 1) := by decide +kernel
theorem dX1_truth_41 : decode cX1_truth 41 = .ok (.istore 5, 2) := by decide +kernel
theorem dX1_truth_43 : decode cX1_truth 43 = .ok (.aload_n 0, 1) := by decide +kernel
theorem dX1_truth_44 : decode cX1_truth 44 = .ok (.getfield 20, 3) := by decide +kernel
theorem dX1_truth_47 : decode cX1_truth 47 = .ok (.iload 5, 2) := by decide +kernel
theorem dX1_truth_49 : decode cX1_truth 49 = .ok (.iaload, 1) := by decide +kernel
theorem dX1_truth_50 : decode cX1_truth 50 = .ok (.istore 6, 2) := by decide +kernel
theorem dX1_truth_52 : decode cX1_truth 52 = .ok (.aload_n 0, 1) := by decide +kernel
theorem dX1_truth_53 : decode cX1_truth 53 = .ok (.getfield 20, 3) := by decide +kernel
theorem dX1_truth_56 : decode cX1_truth 56 = .ok (.iload 5, 2) := by decide +kernel
theorem dX1_truth_58 : decode cX1_truth 58 = .ok (.iload 4, 2) := by decide +kernel
theorem dX1_truth_60 : decode cX1_truth 60 = .ok (.iastore, 1) := by decide +kernel
theorem dX1_truth_61 : decode cX1_truth 61 = .ok (.iload 6, 2) := by decide +kernel
theorem dX1_truth_63 : decode cX1_truth 63 = .ok (.ireturn, 1) := by decide +kernel
theorem dX1_orders_0 : decode cX1_orders 0 = .ok (.aload_n 0, 1) := by decide +kernel
theorem dX1_orders_1 : decode cX1_orders 1 = .ok (.getfield 43, 3) := by decide +kernel
theorem dX1_orders_4 : decode cX1_orders 4 = .ok (.iconst 3, 1) := by decide +kernel
theorem dX1_orders_5 : decode cX1_orders 5 = .ok (.if_icmp .ne 8, 3) := by decide +kernel
theorem dX1_orders_8 : decode cX1_orders 8 = .ok (.bipush 6, 2) := by decide +kernel
theorem dX1_orders_10 : decode cX1_orders 10 = .ok (.goto 7, 3) := by decide +kernel
theorem dX1_orders_13 : decode cX1_orders 13 = .ok (.aload_n 0, 1) := by decide +kernel
theorem dX1_orders_14 : decode cX1_orders 14 = .ok (.getfield 43, 3) := by decide +kernel
theorem dX1_orders_17 : decode cX1_orders 17 = .ok (.ireturn, 1) := by decide +kernel
theorem dX1_ofOrder_0 : decode cX1_ofOrder 0 = .ok (.aload_n 0, 1) := by decide +kernel
theorem dX1_ofOrder_1 : decode cX1_ofOrder 1 = .ok (.getfield 43, 3) := by decide +kernel
theorem dX1_ofOrder_4 : decode cX1_ofOrder 4 = .ok (.iconst 3, 1) := by decide +kernel
theorem dX1_ofOrder_5 : decode cX1_ofOrder 5 = .ok (.if_icmp .ge 21, 3) := by decide +kernel
theorem dX1_ofOrder_8 : decode cX1_ofOrder 8 = .ok (.aload_n 0, 1) := by decide +kernel
theorem dX1_ofOrder_9 : decode cX1_ofOrder 9 = .ok (.getfield 43, 3) := by decide +kernel
theorem dX1_ofOrder_12 : decode cX1_ofOrder 12 = .ok (.iconst 1, 1) := by decide +kernel
theorem dX1_ofOrder_13 : decode cX1_ofOrder 13 = .ok (.if_icmp .ne 7, 3) := by decide +kernel
theorem dX1_ofOrder_16 : decode cX1_ofOrder 16 = .ok (.iconst 0, 1) := by decide +kernel
theorem dX1_ofOrder_17 : decode cX1_ofOrder 17 = .ok (.goto 8, 3) := by decide +kernel
theorem dX1_ofOrder_20 : decode cX1_ofOrder 20 = .ok (.iload_n 1, 1) := by decide +kernel
theorem dX1_ofOrder_21 : decode cX1_ofOrder 21 = .ok (.iload_n 2, 1) := by decide +kernel
theorem dX1_ofOrder_22 : decode cX1_ofOrder 22 = .ok (.iadd, 1) := by decide +kernel
theorem dX1_ofOrder_23 : decode cX1_ofOrder 23 = .ok (.iconst 2, 1) := by decide +kernel
theorem dX1_ofOrder_24 : decode cX1_ofOrder 24 = .ok (.irem, 1) := by decide +kernel
theorem dX1_ofOrder_25 : decode cX1_ofOrder 25 = .ok (.ireturn, 1) := by decide +kernel
theorem dX1_ofOrder_26 : decode cX1_ofOrder 26 = .ok (.iload_n 1, 1) := by decide +kernel
theorem dX1_ofOrder_27 : decode cX1_ofOrder 27 = .ok (.iconst 2, 1) := by decide +kernel
theorem dX1_ofOrder_28 : decode cX1_ofOrder 28 = .ok (.idiv, 1) := by decide +kernel
theorem dX1_ofOrder_29 : decode cX1_ofOrder 29 = .ok (.istore_n 3, 1) := by decide +kernel
theorem dX1_ofOrder_30 : decode cX1_ofOrder 30 = .ok (.iload_n 3, 1) := by decide +kernel
theorem dX1_ofOrder_31 : decode cX1_ofOrder 31 = .ok (.ifCond .ne 7, 3) := by decide +kernel
theorem dX1_ofOrder_34 : decode cX1_ofOrder 34 = .ok (.iconst 1, 1) := by decide +kernel
theorem dX1_ofOrder_35 : decode cX1_ofOrder 35 = .ok (.goto 4, 3) := by decide +kernel
theorem dX1_ofOrder_38 : decode cX1_ofOrder 38 = .ok (.iconst 0, 1) := by decide +kernel
theorem dX1_ofOrder_39 : decode cX1_ofOrder 39 = .ok (.istore 4, 2) := by decide +kernel
theorem dX1_ofOrder_41 : decode cX1_ofOrder 41 = .ok (.iload_n 3, 1) := by decide +kernel
theorem dX1_ofOrder_42 : decode cX1_ofOrder 42 = .ok (.iconst 2, 1) := by decide +kernel
theorem dX1_ofOrder_43 : decode cX1_ofOrder 43 = .ok (.if_icmp .ne 7, 3) := by decide +kernel
theorem dX1_ofOrder_46 : decode cX1_ofOrder 46 = .ok (.iconst 1, 1) := by decide +kernel
theorem dX1_ofOrder_47 : decode cX1_ofOrder 47 = .ok (.goto 4, 3) := by decide +kernel
theorem dX1_ofOrder_50 : decode cX1_ofOrder 50 = .ok (.iconst 2, 1) := by decide +kernel
theorem dX1_ofOrder_51 : decode cX1_ofOrder 51 = .ok (.istore 5, 2) := by decide +kernel
theorem dX1_ofOrder_53 : decode cX1_ofOrder 53 = .ok (.iload_n 2, 1) := by decide +kernel
theorem dX1_ofOrder_54 : decode cX1_ofOrder 54 = .ok (.ifCond .ne 7, 3) := by decide +kernel
theorem dX1_ofOrder_57 : decode cX1_ofOrder 57 = .ok (.iload_n 3, 1) := by decide +kernel
theorem dX1_ofOrder_58 : decode cX1_ofOrder 58 = .ok (.goto 34, 3) := by decide +kernel
theorem dX1_ofOrder_61 : decode cX1_ofOrder 61 = .ok (.iload_n 2, 1) := by decide +kernel
theorem dX1_ofOrder_62 : decode cX1_ofOrder 62 = .ok (.iconst 1, 1) := by decide +kernel
theorem dX1_ofOrder_63 : decode cX1_ofOrder 63 = .ok (.if_icmp .ne 7, 3) := by decide +kernel
theorem dX1_ofOrder_66 : decode cX1_ofOrder 66 = .ok (.iconst 1, 1) := by decide +kernel
theorem dX1_ofOrder_67 : decode cX1_ofOrder 67 = .ok (.goto 4, 3) := by decide +kernel
theorem dX1_ofOrder_70 : decode cX1_ofOrder 70 = .ok (.iconst 0, 1) := by decide +kernel
theorem dX1_ofOrder_71 : decode cX1_ofOrder 71 = .ok (.iload_n 1, 1) := by decide +kernel
theorem dX1_ofOrder_72 : decode cX1_ofOrder 72 = .ok (.iconst 2, 1) := by decide +kernel
theorem dX1_ofOrder_73 : decode cX1_ofOrder 73 = .ok (.irem, 1) := by decide +kernel
theorem dX1_ofOrder_74 : decode cX1_ofOrder 74 = .ok (.ifCond .ne 7, 3) := by decide +kernel
theorem dX1_ofOrder_77 : decode cX1_ofOrder 77 = .ok (.iconst 1, 1) := by decide +kernel
theorem dX1_ofOrder_78 : decode cX1_ofOrder 78 = .ok (.goto 4, 3) := by decide +kernel
theorem dX1_ofOrder_81 : decode cX1_ofOrder 81 = .ok (.iconst 0, 1) := by decide +kernel
theorem dX1_ofOrder_82 : decode cX1_ofOrder 82 = .ok (.if_icmp .ne 8, 3) := by decide +kernel
theorem dX1_ofOrder_85 : decode cX1_ofOrder 85 = .ok (.iload 4, 2) := by decide +kernel
theorem dX1_ofOrder_87 : decode cX1_ofOrder 87 = .ok (.goto 5, 3) := by decide +kernel
theorem dX1_ofOrder_90 : decode cX1_ofOrder 90 = .ok (.iload 5, 2) := by decide +kernel
theorem dX1_ofOrder_92 : decode cX1_ofOrder 92 = .ok (.ireturn, 1) := by decide +kernel
set_option maxRecDepth 20000 in
theorem ggX1_apartBy_X1_shareOf : GoodIn wsX1_apartBy wsX1_shareOf := goodIn_r _ [9, 10, 1, 11, 12, 13, 8, 14, 15, 16, 17, 18, 19, 27, 28, 29, 30, 31, 32, 33, 34, 35, 36, 37, 38, 39] (by decide +kernel) (by decide +kernel)
set_option maxRecDepth 20000 in
theorem gX1_apartBy_X1_shareOf : GoodIn wsX1_apartBy (wsV RX1 104 RX1 yX1_shareOf wsX1_shareOf) := goodIn_app (goodIn_of _ (by decide +kernel)) ggX1_apartBy_X1_shareOf
set_option maxRecDepth 20000 in
theorem ggX1_apartBy_X1_ofOrder : GoodIn wsX1_apartBy wsX1_ofOrder := goodIn_r _ [23, 1, 27, 28, 29, 30, 31, 32, 33, 34, 35, 36, 37, 38, 39] (by decide +kernel) (by decide +kernel)
set_option maxRecDepth 20000 in
theorem gX1_apartBy_X1_ofOrder : GoodIn wsX1_apartBy (wsV RX1 114 RX1 yX1_ofOrder wsX1_ofOrder) := goodIn_app (goodIn_of _ (by decide +kernel)) ggX1_apartBy_X1_ofOrder
set_option maxRecDepth 20000 in
theorem ggX1_apartBy_X1_size : GoodIn wsX1_apartBy wsX1_size := goodIn_r _ [26] (by decide +kernel) (by decide +kernel)
set_option maxRecDepth 20000 in
theorem gX1_apartBy_X1_size : GoodIn wsX1_apartBy (va_wsS RX1 90 yX1_size wsX1_size) := goodIn_app (goodIn_of _ (by decide +kernel)) ggX1_apartBy_X1_size
theorem dX1_apartBy_0 : decode cX1_apartBy 0 = .ok (.iconst 0, 1) := by decide +kernel
theorem dX1_apartBy_1 : decode cX1_apartBy 1 = .ok (.istore_n 2, 1) := by decide +kernel
theorem dX1_apartBy_2 : decode cX1_apartBy 2 = .ok (.iconst 0, 1) := by decide +kernel
theorem dX1_apartBy_3 : decode cX1_apartBy 3 = .ok (.istore_n 3, 1) := by decide +kernel
theorem dX1_apartBy_4 : decode cX1_apartBy 4 = .ok (.iload_n 3, 1) := by decide +kernel
theorem dX1_apartBy_5 : decode cX1_apartBy 5 = .ok (.aload_n 0, 1) := by decide +kernel
theorem dX1_apartBy_6 : decode cX1_apartBy 6 = .ok (.getfield 43, 3) := by decide +kernel
theorem dX1_apartBy_9 : decode cX1_apartBy 9 = .ok (.if_icmp .ge 84, 3) := by decide +kernel
theorem dX1_apartBy_12 : decode cX1_apartBy 12 = .ok (.iconst 0, 1) := by decide +kernel
theorem dX1_apartBy_13 : decode cX1_apartBy 13 = .ok (.istore 4, 2) := by decide +kernel
theorem dX1_apartBy_15 : decode cX1_apartBy 15 = .ok (.iload 4, 2) := by decide +kernel
theorem dX1_apartBy_17 : decode cX1_apartBy 17 = .ok (.aload_n 0, 1) := by decide +kernel
theorem dX1_apartBy_18 : decode cX1_apartBy 18 = .ok (.getfield 36, 3) := by decide +kernel
theorem dX1_apartBy_21 : decode cX1_apartBy 21 = .ok (.if_icmp .ge 66, 3) := by decide +kernel
theorem dX1_apartBy_24 : decode cX1_apartBy 24 = .ok (.iconst 0, 1) := by decide +kernel
theorem dX1_apartBy_25 : decode cX1_apartBy 25 = .ok (.istore 5, 2) := by decide +kernel
theorem dX1_apartBy_27 : decode cX1_apartBy 27 = .ok (.iload 5, 2) := by decide +kernel
theorem dX1_apartBy_29 : decode cX1_apartBy 29 = .ok (.aload_n 0, 1) := by decide +kernel
theorem dX1_apartBy_30 : decode cX1_apartBy 30 = .ok (.getfield 40, 3) := by decide +kernel
theorem dX1_apartBy_33 : decode cX1_apartBy 33 = .ok (.if_icmp .ge 48, 3) := by decide +kernel
theorem dX1_apartBy_36 : decode cX1_apartBy 36 = .ok (.iload_n 2, 1) := by decide +kernel
theorem dX1_apartBy_37 : decode cX1_apartBy 37 = .ok (.aload_n 0, 1) := by decide +kernel
theorem dX1_apartBy_38 : decode cX1_apartBy 38 = .ok (.iload_n 3, 1) := by decide +kernel
theorem dX1_apartBy_39 : decode cX1_apartBy 39 = .ok (.iload 4, 2) := by decide +kernel
theorem dX1_apartBy_41 : decode cX1_apartBy 41 = .ok (.iload 5, 2) := by decide +kernel
theorem dX1_apartBy_43 : decode cX1_apartBy 43 = .ok (.invokevirtual 104, 3) := by decide +kernel
theorem dX1_apartBy_46 : decode cX1_apartBy 46 = .ok (.aload_n 0, 1) := by decide +kernel
theorem dX1_apartBy_47 : decode cX1_apartBy 47 = .ok (.getfield 20, 3) := by decide +kernel
theorem dX1_apartBy_50 : decode cX1_apartBy 50 = .ok (.bipush 48, 2) := by decide +kernel
theorem dX1_apartBy_52 : decode cX1_apartBy 52 = .ok (.aload_n 0, 1) := by decide +kernel
theorem dX1_apartBy_53 : decode cX1_apartBy 53 = .ok (.iload_n 1, 1) := by decide +kernel
theorem dX1_apartBy_54 : decode cX1_apartBy 54 = .ok (.iload_n 3, 1) := by decide +kernel
theorem dX1_apartBy_55 : decode cX1_apartBy 55 = .ok (.invokevirtual 114, 3) := by decide +kernel
theorem dX1_apartBy_58 : decode cX1_apartBy 58 = .ok (.imul, 1) := by decide +kernel
theorem dX1_apartBy_59 : decode cX1_apartBy 59 = .ok (.bipush 8, 2) := by decide +kernel
theorem dX1_apartBy_61 : decode cX1_apartBy 61 = .ok (.iload 4, 2) := by decide +kernel
theorem dX1_apartBy_63 : decode cX1_apartBy 63 = .ok (.imul, 1) := by decide +kernel
theorem dX1_apartBy_64 : decode cX1_apartBy 64 = .ok (.iadd, 1) := by decide +kernel
theorem dX1_apartBy_65 : decode cX1_apartBy 65 = .ok (.iload 5, 2) := by decide +kernel
theorem dX1_apartBy_67 : decode cX1_apartBy 67 = .ok (.iadd, 1) := by decide +kernel
theorem dX1_apartBy_68 : decode cX1_apartBy 68 = .ok (.iaload, 1) := by decide +kernel
theorem dX1_apartBy_69 : decode cX1_apartBy 69 = .ok (.isub, 1) := by decide +kernel
theorem dX1_apartBy_70 : decode cX1_apartBy 70 = .ok (.invokestatic 90, 3) := by decide +kernel
theorem dX1_apartBy_73 : decode cX1_apartBy 73 = .ok (.iadd, 1) := by decide +kernel
theorem dX1_apartBy_74 : decode cX1_apartBy 74 = .ok (.istore_n 2, 1) := by decide +kernel
theorem dX1_apartBy_75 : decode cX1_apartBy 75 = .ok (.iinc 5 1, 3) := by decide +kernel
theorem dX1_apartBy_78 : decode cX1_apartBy 78 = .ok (.goto (-51), 3) := by decide +kernel
theorem dX1_apartBy_81 : decode cX1_apartBy 81 = .ok (.iinc 4 1, 3) := by decide +kernel
theorem dX1_apartBy_84 : decode cX1_apartBy 84 = .ok (.goto (-69), 3) := by decide +kernel
theorem dX1_apartBy_87 : decode cX1_apartBy 87 = .ok (.iinc 3 1, 3) := by decide +kernel
theorem dX1_apartBy_90 : decode cX1_apartBy 90 = .ok (.goto (-86), 3) := by decide +kernel
theorem dX1_apartBy_93 : decode cX1_apartBy 93 = .ok (.iload_n 2, 1) := by decide +kernel
theorem dX1_apartBy_94 : decode cX1_apartBy 94 = .ok (.ireturn, 1) := by decide +kernel
set_option maxRecDepth 20000 in
theorem ggX1_apart_X1_orders : GoodIn wsX1_apart wsX1_orders := goodIn_r _ [5, 6, 38, 39, 40, 41, 42, 43, 44, 45, 46, 47, 48, 49, 50] (by decide +kernel) (by decide +kernel)
set_option maxRecDepth 20000 in
theorem gX1_apart_X1_orders : GoodIn wsX1_apart (wsV RX1 117 RX1 yX1_orders wsX1_orders) := goodIn_app (goodIn_of _ (by decide +kernel)) ggX1_apart_X1_orders
set_option maxRecDepth 20000 in
theorem ggX1_apart_X1_in : GoodIn wsX1_apart wsX1_in := goodIn_r _ [9] (by decide +kernel) (by decide +kernel)
set_option maxRecDepth 20000 in
theorem gX1_apart_X1_in : GoodIn wsX1_apart (va_wsS RX1 46 yX1_in wsX1_in) := goodIn_app (goodIn_of _ (by decide +kernel)) ggX1_apart_X1_in
set_option maxRecDepth 20000 in
theorem ggX1_apart_X1_apartBy : GoodIn wsX1_apart wsX1_apartBy := goodIn_r _ [13, 6, 14, 15, 16, 17, 18, 19, 4, 20, 21, 22, 23, 24, 25, 26, 27, 28, 29, 30, 31, 32, 33, 34, 35, 36, 37, 38, 39, 40, 41, 42, 43, 44, 45, 46, 47, 48, 49, 50] (by decide +kernel) (by decide +kernel)
set_option maxRecDepth 20000 in
theorem gX1_apart_X1_apartBy : GoodIn wsX1_apart (wsV RX1 120 RX1 yX1_apartBy wsX1_apartBy) := goodIn_app (goodIn_of _ (by decide +kernel)) ggX1_apart_X1_apartBy
theorem dX1_apart_0 : decode cX1_apart 0 = .ok (.iload_n 1, 1) := by decide +kernel
theorem dX1_apart_1 : decode cX1_apart 1 = .ok (.iconst 0, 1) := by decide +kernel
theorem dX1_apart_2 : decode cX1_apart 2 = .ok (.aload_n 0, 1) := by decide +kernel
theorem dX1_apart_3 : decode cX1_apart 3 = .ok (.invokevirtual 117, 3) := by decide +kernel
theorem dX1_apart_6 : decode cX1_apart 6 = .ok (.iconst 1, 1) := by decide +kernel
theorem dX1_apart_7 : decode cX1_apart 7 = .ok (.isub, 1) := by decide +kernel
theorem dX1_apart_8 : decode cX1_apart 8 = .ok (.invokestatic 46, 3) := by decide +kernel
theorem dX1_apart_11 : decode cX1_apart 11 = .ok (.ifCond .eq 11, 3) := by decide +kernel
theorem dX1_apart_14 : decode cX1_apart 14 = .ok (.aload_n 0, 1) := by decide +kernel
theorem dX1_apart_15 : decode cX1_apart 15 = .ok (.iload_n 1, 1) := by decide +kernel
theorem dX1_apart_16 : decode cX1_apart 16 = .ok (.invokevirtual 120, 3) := by decide +kernel
theorem dX1_apart_19 : decode cX1_apart 19 = .ok (.goto 4, 3) := by decide +kernel
theorem dX1_apart_22 : decode cX1_apart 22 = .ok (.iconst (-1), 1) := by decide +kernel
theorem dX1_apart_23 : decode cX1_apart 23 = .ok (.ireturn, 1) := by decide +kernel
set_option maxRecDepth 20000 in
theorem ggX1_order_X1_orders : GoodIn wsX1_order wsX1_orders := goodIn_r _ [5, 6, 35, 36, 37, 38, 39, 40, 41, 42, 43, 44, 45, 46, 47] (by decide +kernel) (by decide +kernel)
set_option maxRecDepth 20000 in
theorem gX1_order_X1_orders : GoodIn wsX1_order (wsV RX1 117 RX1 yX1_orders wsX1_orders) := goodIn_app (goodIn_of _ (by decide +kernel)) ggX1_order_X1_orders
set_option maxRecDepth 20000 in
theorem ggX1_order_X1_apartBy : GoodIn wsX1_order wsX1_apartBy := goodIn_r _ [10, 6, 11, 12, 13, 14, 15, 16, 4, 17, 18, 19, 20, 21, 22, 23, 24, 25, 26, 27, 28, 29, 30, 31, 32, 33, 34, 35, 36, 37, 38, 39, 40, 41, 42, 43, 44, 45, 46, 47] (by decide +kernel) (by decide +kernel)
set_option maxRecDepth 20000 in
theorem gX1_order_X1_apartBy : GoodIn wsX1_order (wsV RX1 120 RX1 yX1_apartBy wsX1_apartBy) := goodIn_app (goodIn_of _ (by decide +kernel)) ggX1_order_X1_apartBy
theorem dX1_order_0 : decode cX1_order 0 = .ok (.iconst 0, 1) := by decide +kernel
theorem dX1_order_1 : decode cX1_order 1 = .ok (.istore_n 1, 1) := by decide +kernel
theorem dX1_order_2 : decode cX1_order 2 = .ok (.iconst 1, 1) := by decide +kernel
theorem dX1_order_3 : decode cX1_order 3 = .ok (.istore_n 2, 1) := by decide +kernel
theorem dX1_order_4 : decode cX1_order 4 = .ok (.iload_n 2, 1) := by decide +kernel
theorem dX1_order_5 : decode cX1_order 5 = .ok (.aload_n 0, 1) := by decide +kernel
theorem dX1_order_6 : decode cX1_order 6 = .ok (.invokevirtual 117, 3) := by decide +kernel
theorem dX1_order_9 : decode cX1_order 9 = .ok (.if_icmp .ge 28, 3) := by decide +kernel
theorem dX1_order_12 : decode cX1_order 12 = .ok (.aload_n 0, 1) := by decide +kernel
theorem dX1_order_13 : decode cX1_order 13 = .ok (.iload_n 2, 1) := by decide +kernel
theorem dX1_order_14 : decode cX1_order 14 = .ok (.invokevirtual 120, 3) := by decide +kernel
theorem dX1_order_17 : decode cX1_order 17 = .ok (.aload_n 0, 1) := by decide +kernel
theorem dX1_order_18 : decode cX1_order 18 = .ok (.iload_n 1, 1) := by decide +kernel
theorem dX1_order_19 : decode cX1_order 19 = .ok (.invokevirtual 120, 3) := by decide +kernel
theorem dX1_order_22 : decode cX1_order 22 = .ok (.if_icmp .ge 7, 3) := by decide +kernel
theorem dX1_order_25 : decode cX1_order 25 = .ok (.iload_n 2, 1) := by decide +kernel
theorem dX1_order_26 : decode cX1_order 26 = .ok (.goto 4, 3) := by decide +kernel
theorem dX1_order_29 : decode cX1_order 29 = .ok (.iload_n 1, 1) := by decide +kernel
theorem dX1_order_30 : decode cX1_order 30 = .ok (.istore_n 1, 1) := by decide +kernel
theorem dX1_order_31 : decode cX1_order 31 = .ok (.iinc 2 1, 3) := by decide +kernel
theorem dX1_order_34 : decode cX1_order 34 = .ok (.goto (-30), 3) := by decide +kernel
theorem dX1_order_37 : decode cX1_order 37 = .ok (.iload_n 1, 1) := by decide +kernel
theorem dX1_order_38 : decode cX1_order 38 = .ok (.ireturn, 1) := by decide +kernel
theorem dX1_count_0 : decode cX1_count 0 = .ok (.iconst 0, 1) := by decide +kernel
theorem dX1_count_1 : decode cX1_count 1 = .ok (.istore_n 2, 1) := by decide +kernel
theorem dX1_count_2 : decode cX1_count 2 = .ok (.iload_n 1, 1) := by decide +kernel
theorem dX1_count_3 : decode cX1_count 3 = .ok (.tableswitch 117 0 7 #[45, 50, 55, 60, 65, 98, 105, 112], 45) := by decide +kernel
theorem dX1_count_48 : decode cX1_count 48 = .ok (.aload_n 0, 1) := by decide +kernel
theorem dX1_count_49 : decode cX1_count 49 = .ok (.getfield 36, 3) := by decide +kernel
theorem dX1_count_52 : decode cX1_count 52 = .ok (.ireturn, 1) := by decide +kernel
theorem dX1_count_53 : decode cX1_count 53 = .ok (.aload_n 0, 1) := by decide +kernel
theorem dX1_count_54 : decode cX1_count 54 = .ok (.getfield 40, 3) := by decide +kernel
theorem dX1_count_57 : decode cX1_count 57 = .ok (.ireturn, 1) := by decide +kernel
theorem dX1_count_58 : decode cX1_count 58 = .ok (.aload_n 0, 1) := by decide +kernel
theorem dX1_count_59 : decode cX1_count 59 = .ok (.getfield 43, 3) := by decide +kernel
theorem dX1_count_62 : decode cX1_count 62 = .ok (.ireturn, 1) := by decide +kernel
theorem dX1_count_63 : decode cX1_count 63 = .ok (.aload_n 0, 1) := by decide +kernel
theorem dX1_count_64 : decode cX1_count 64 = .ok (.getfield 76, 3) := by decide +kernel
theorem dX1_count_67 : decode cX1_count 67 = .ok (.ireturn, 1) := by decide +kernel
theorem dX1_count_68 : decode cX1_count 68 = .ok (.iconst 0, 1) := by decide +kernel
theorem dX1_count_69 : decode cX1_count 69 = .ok (.istore_n 3, 1) := by decide +kernel
theorem dX1_count_70 : decode cX1_count 70 = .ok (.iload_n 3, 1) := by decide +kernel
theorem dX1_count_71 : decode cX1_count 71 = .ok (.bipush 48, 2) := by decide +kernel
theorem dX1_count_73 : decode cX1_count 73 = .ok (.if_icmp .ge 26, 3) := by decide +kernel
theorem dX1_count_76 : decode cX1_count 76 = .ok (.iload_n 2, 1) := by decide +kernel
theorem dX1_count_77 : decode cX1_count 77 = .ok (.aload_n 0, 1) := by decide +kernel
theorem dX1_count_78 : decode cX1_count 78 = .ok (.getfield 16, 3) := by decide +kernel
theorem dX1_count_81 : decode cX1_count 81 = .ok (.iload_n 3, 1) := by decide +kernel
theorem dX1_count_82 : decode cX1_count 82 = .ok (.baload, 1) := by decide +kernel
theorem dX1_count_83 : decode cX1_count 83 = .ok (.ifCond .eq 7, 3) := by decide +kernel
theorem dX1_count_86 : decode cX1_count 86 = .ok (.iconst 1, 1) := by decide +kernel
theorem dX1_count_87 : decode cX1_count 87 = .ok (.goto 4, 3) := by decide +kernel
theorem dX1_count_90 : decode cX1_count 90 = .ok (.iconst 0, 1) := by decide +kernel
theorem dX1_count_91 : decode cX1_count 91 = .ok (.iadd, 1) := by decide +kernel
theorem dX1_count_92 : decode cX1_count 92 = .ok (.istore_n 2, 1) := by decide +kernel
theorem dX1_count_93 : decode cX1_count 93 = .ok (.iinc 3 1, 3) := by decide +kernel
theorem dX1_count_96 : decode cX1_count 96 = .ok (.goto (-26), 3) := by decide +kernel
theorem dX1_count_99 : decode cX1_count 99 = .ok (.iload_n 2, 1) := by decide +kernel
theorem dX1_count_100 : decode cX1_count 100 = .ok (.ireturn, 1) := by decide +kernel
theorem dX1_count_101 : decode cX1_count 101 = .ok (.aload_n 0, 1) := by decide +kernel
theorem dX1_count_102 : decode cX1_count 102 = .ok (.getfield 23, 3) := by decide +kernel
theorem dX1_count_105 : decode cX1_count 105 = .ok (.iconst 0, 1) := by decide +kernel
theorem dX1_count_106 : decode cX1_count 106 = .ok (.iaload, 1) := by decide +kernel
theorem dX1_count_107 : decode cX1_count 107 = .ok (.ireturn, 1) := by decide +kernel
theorem dX1_count_108 : decode cX1_count 108 = .ok (.aload_n 0, 1) := by decide +kernel
theorem dX1_count_109 : decode cX1_count 109 = .ok (.getfield 23, 3) := by decide +kernel
theorem dX1_count_112 : decode cX1_count 112 = .ok (.iconst 1, 1) := by decide +kernel
theorem dX1_count_113 : decode cX1_count 113 = .ok (.iaload, 1) := by decide +kernel
theorem dX1_count_114 : decode cX1_count 114 = .ok (.ireturn, 1) := by decide +kernel
theorem dX1_count_115 : decode cX1_count 115 = .ok (.aload_n 0, 1) := by decide +kernel
theorem dX1_count_116 : decode cX1_count 116 = .ok (.getfield 101, 3) := by decide +kernel
theorem dX1_count_119 : decode cX1_count 119 = .ok (.ireturn, 1) := by decide +kernel
theorem dX1_count_120 : decode cX1_count 120 = .ok (.iconst (-1), 1) := by decide +kernel
theorem dX1_count_121 : decode cX1_count 121 = .ok (.ireturn, 1) := by decide +kernel
theorem dX1_trace_0 : decode cX1_trace 0 = .ok (.aload_n 0, 1) := by decide +kernel
theorem dX1_trace_1 : decode cX1_trace 1 = .ok (.getfield 79, 3) := by decide +kernel
theorem dX1_trace_4 : decode cX1_trace 4 = .ok (.lreturn, 1) := by decide +kernel
end
section
/-! rows over natural numbers; contracts of methods that only read -/
section BS
variable {p : Program} {l : Launch} {e : Env} {R : Room} {s : State} {m : MethodId} {args : Array Value} {below : List Frame} {meth : Method} {c : Code} {H : Heap} {locs : List Loc} {cells slots : Nat} {Q : State → Prop}
variable {cc : ByteArray} {pc : Nat} {ls : Array Slot} {rest : List Value}
theorem nI_inc (i : Nat) : nI i + Int32.ofInt 1 = nI (i + 1) := nI_1 i
theorem n_top {x y : Int32} (h : x = y) (k : W p l e R s m args below meth c H locs cells slots Q (F0 m pc ls (.int y :: rest))) : W p l e R s m args below meth c H locs cells slots Q (F0 m pc ls (.int x :: rest)) := by rw [h]; exact k
theorem n_topl {x y : Int64} (h : x = y) (k : W p l e R s m args below meth c H locs cells slots Q (F0 m pc ls (.long y :: rest))) : W p l e R s m args below meth c H locs cells slots Q (F0 m pc ls (.long x :: rest)) := by rw [h]; exact k
theorem n_iadd (hx : p.tables.exec = Jvm.exec) (hb : c.code = cc) {a b : Nat} (hdg : decode cc pc = .ok (.iadd, 1)) (k : W p l e R s m args below meth c H locs cells slots Q (F0 m (pc + 1) ls (.int (nI (a + b)) :: rest))) : W p l e R s m args below meth c H locs cells slots Q (F0 m pc ls (.int (nI b) :: .int (nI a) :: rest)) := lv_iadd hx hb hdg (by rw [nI_add]; exact k)
theorem n_imul (hx : p.tables.exec = Jvm.exec) (hb : c.code = cc) {a b : Nat} (hdg : decode cc pc = .ok (.imul, 1)) (k : W p l e R s m args below meth c H locs cells slots Q (F0 m (pc + 1) ls (.int (nI (a * b)) :: rest))) : W p l e R s m args below meth c H locs cells slots Q (F0 m pc ls (.int (nI b) :: .int (nI a) :: rest)) := lv_imul hx hb hdg (by rw [pk_mul]; exact k)
theorem n_isub (hx : p.tables.exec = Jvm.exec) (hb : c.code = cc) {a b : Nat} (h : b ≤ a) (hdg : decode cc pc = .ok (.isub, 1)) (k : W p l e R s m args below meth c H locs cells slots Q (F0 m (pc + 1) ls (.int (nI (a - b)) :: rest))) : W p l e R s m args below meth c H locs cells slots Q (F0 m pc ls (.int (nI b) :: .int (nI a) :: rest)) := lv_isub hx hb hdg (by rw [pk_sub h]; exact k)
theorem n_iald {D : va_G} {cl : List vw_C} {a : Nat} {tys : List (ClassId × FieldType)} {ws : va_W} (hx : p.tables.exec = Jvm.exec) (hb : c.code = cc) (hK : va_K D cl tys s) (hP : va_P D cl ws H) (q0 t0 : Nat) {cA : ClassId} {n : Nat} {f : Nat → Int32} (ha : ws[q0]? = some (a, .inl (cA, n, .inl f))) (ht : tys[t0]? = some (cA, .int)) {i : Nat} (hi : i < n) (hn : n < 2 ^ 31) (hdg : decode cc pc = .ok (.iaload, 1)) (k : W p l e R s m args below meth c H locs cells slots Q (F0 m (pc + 1) ls (.int (f i) :: rest))) : W p l e R s m args below meth c H locs cells slots Q (F0 m pc ls (.int (nI i) :: .ref a :: rest)) := va_iald hx hb hK hP q0 t0 ha ht (vp_in_nI hi hn) hdg (by rw [nI_clamp (Nat.lt_trans hi hn)]; exact k)
theorem n_zald {D : va_G} {cl : List vw_C} {a : Nat} {tys : List (ClassId × FieldType)} {ws : va_W} (hx : p.tables.exec = Jvm.exec) (hb : c.code = cc) (hK : va_K D cl tys s) (hP : va_P D cl ws H) (q0 t0 : Nat) {cA : ClassId} {n : Nat} {f : Nat → Int32} (ha : ws[q0]? = some (a, .inl (cA, n, .inl f))) (ht : tys[t0]? = some (cA, .boolean)) {i : Nat} (hi : i < n) (hn : n < 2 ^ 31) (hdg : decode cc pc = .ok (.baload, 1)) (k : W p l e R s m args below meth c H locs cells slots Q (F0 m (pc + 1) ls (.int (f i) :: rest))) : W p l e R s m args below meth c H locs cells slots Q (F0 m pc ls (.int (nI i) :: .ref a :: rest)) := va_zald hx hb hK hP q0 t0 ha ht (vp_in_nI hi hn) hdg (by rw [nI_clamp (Nat.lt_trans hi hn)]; exact k)
theorem n_iast {D : va_G} {cl : List vw_C} {A : Nat → Prop} {H0 : Heap} {a : Nat} {tys : List (ClassId × FieldType)} {ws : va_W} (hx : p.tables.exec = Jvm.exec) (hb : c.code = cc) (hK : va_K D cl tys s) (hP : va_P D cl ws H) (hD : va_D A ws) (hS : va_S A H0 H locs) (q0 t0 : Nat) {cA : ClassId} {n : Nat} {f : Nat → Int32} (ha : ws[q0]? = some (a, .inl (cA, n, .inl f))) (ht : tys[t0]? = some (cA, .int)) {i : Nat} {x : Int32} (hi : i < n) (hn : n < 2 ^ 31) (hdg : decode cc pc = .ok (.iastore, 1)) (k : ∀ (H1 : Heap) (locs1 : List Loc), va_P D cl (ws.set q0 (a, .inl (cA, n, .inl (upd f i x)))) H1 → va_D A (ws.set q0 (a, .inl (cA, n, .inl (upd f i x)))) → va_S A H0 H1 locs1 → W p l e R s m args below meth c H1 locs1 cells slots Q (F0 m (pc + 1) ls rest)) : W p l e R s m args below meth c H locs cells slots Q (F0 m pc ls (.int x :: .int (nI i) :: .ref a :: rest)) := va_iast hx hb hK hP hD hS q0 t0 ha ht (vp_in_nI hi hn) hdg (by rw [nI_clamp (Nat.lt_trans hi hn)]; exact k)
theorem n_zast {D : va_G} {cl : List vw_C} {A : Nat → Prop} {H0 : Heap} {a : Nat} {tys : List (ClassId × FieldType)} {ws : va_W} (hx : p.tables.exec = Jvm.exec) (hb : c.code = cc) (hK : va_K D cl tys s) (hP : va_P D cl ws H) (hD : va_D A ws) (hS : va_S A H0 H locs) (q0 t0 : Nat) {cA : ClassId} {n : Nat} {f : Nat → Int32} (ha : ws[q0]? = some (a, .inl (cA, n, .inl f))) (ht : tys[t0]? = some (cA, .boolean)) {i : Nat} {x : Int32} (hi : i < n) (hn : n < 2 ^ 31) (hz : vp_nar .boolean x = x) (hdg : decode cc pc = .ok (.bastore, 1)) (k : ∀ (H1 : Heap) (locs1 : List Loc), va_P D cl (ws.set q0 (a, .inl (cA, n, .inl (upd f i x)))) H1 → va_D A (ws.set q0 (a, .inl (cA, n, .inl (upd f i x)))) → va_S A H0 H1 locs1 → W p l e R s m args below meth c H1 locs1 cells slots Q (F0 m (pc + 1) ls rest)) : W p l e R s m args below meth c H locs cells slots Q (F0 m pc ls (.int x :: .int (nI i) :: .ref a :: rest)) := va_zast hx hb hK hP hD hS q0 t0 ha ht (vp_in_nI hi hn) hdg (by rw [nI_clamp (Nat.lt_trans hi hn), hz]; exact k)
theorem n_icmp_eq (hx : p.tables.exec = Jvm.exec) (hb : c.code = cc) {a b : Nat} {off : Int} {tgt : Nat} (ha : a < 2 ^ 31) (hc : b < 2 ^ 31) (hdg : decode cc pc = .ok (.if_icmp .eq off, 3)) (ht : (pc : Int) + off = (tgt : Int)) (kt : a = b → W p l e R s m args below meth c H locs cells slots Q (F0 m tgt ls rest)) (kf : ¬ a = b → W p l e R s m args below meth c H locs cells slots Q (F0 m (pc + 3) ls rest)) : W p l e R s m args below meth c H locs cells slots Q (F0 m pc ls (.int (nI b) :: .int (nI a) :: rest)) := lv_icmp_eq hx hb hdg ht (fun h => kt ((nI_eq ha hc).mp h)) (fun h => kf (fun q => h ((nI_eq ha hc).mpr q)))
theorem n_icmp_ne (hx : p.tables.exec = Jvm.exec) (hb : c.code = cc) {a b : Nat} {off : Int} {tgt : Nat} (ha : a < 2 ^ 31) (hc : b < 2 ^ 31) (hdg : decode cc pc = .ok (.if_icmp .ne off, 3)) (ht : (pc : Int) + off = (tgt : Int)) (kt : ¬ a = b → W p l e R s m args below meth c H locs cells slots Q (F0 m tgt ls rest)) (kf : a = b → W p l e R s m args below meth c H locs cells slots Q (F0 m (pc + 3) ls rest)) : W p l e R s m args below meth c H locs cells slots Q (F0 m pc ls (.int (nI b) :: .int (nI a) :: rest)) := lv_icmp_ne hx hb hdg ht (fun h => kt (fun q => h ((nI_eq ha hc).mpr q))) (fun h => kf ((nI_eq ha hc).mp h))
theorem n_icmp_lt (hx : p.tables.exec = Jvm.exec) (hb : c.code = cc) {a b : Nat} {off : Int} {tgt : Nat} (ha : a < 2 ^ 31) (hc : b < 2 ^ 31) (hdg : decode cc pc = .ok (.if_icmp .lt off, 3)) (ht : (pc : Int) + off = (tgt : Int)) (kt : a < b → W p l e R s m args below meth c H locs cells slots Q (F0 m tgt ls rest)) (kf : ¬ a < b → W p l e R s m args below meth c H locs cells slots Q (F0 m (pc + 3) ls rest)) : W p l e R s m args below meth c H locs cells slots Q (F0 m pc ls (.int (nI b) :: .int (nI a) :: rest)) := lv_icmp_lt hx hb hdg ht (fun h => kt ((nI_ltI ha hc).mp h)) (fun h => kf (fun q => h ((nI_ltI ha hc).mpr q)))
theorem n_icmp_ge (hx : p.tables.exec = Jvm.exec) (hb : c.code = cc) {a b : Nat} {off : Int} {tgt : Nat} (ha : a < 2 ^ 31) (hc : b < 2 ^ 31) (hdg : decode cc pc = .ok (.if_icmp .ge off, 3)) (ht : (pc : Int) + off = (tgt : Int)) (kt : b ≤ a → W p l e R s m args below meth c H locs cells slots Q (F0 m tgt ls rest)) (kf : ¬ b ≤ a → W p l e R s m args below meth c H locs cells slots Q (F0 m (pc + 3) ls rest)) : W p l e R s m args below meth c H locs cells slots Q (F0 m pc ls (.int (nI b) :: .int (nI a) :: rest)) := lv_icmp_ge hx hb hdg ht (fun h => kt ((nI_leI hc ha).mp h)) (fun h => kf (fun q => h ((nI_leI hc ha).mpr q)))
theorem n_icmp_gt (hx : p.tables.exec = Jvm.exec) (hb : c.code = cc) {a b : Nat} {off : Int} {tgt : Nat} (ha : a < 2 ^ 31) (hc : b < 2 ^ 31) (hdg : decode cc pc = .ok (.if_icmp .gt off, 3)) (ht : (pc : Int) + off = (tgt : Int)) (kt : b < a → W p l e R s m args below meth c H locs cells slots Q (F0 m tgt ls rest)) (kf : ¬ b < a → W p l e R s m args below meth c H locs cells slots Q (F0 m (pc + 3) ls rest)) : W p l e R s m args below meth c H locs cells slots Q (F0 m pc ls (.int (nI b) :: .int (nI a) :: rest)) := lv_icmp_gt hx hb hdg ht (fun h => kt ((nI_ltI hc ha).mp h)) (fun h => kf (fun q => h ((nI_ltI hc ha).mpr q)))
theorem n_icmp_le (hx : p.tables.exec = Jvm.exec) (hb : c.code = cc) {a b : Nat} {off : Int} {tgt : Nat} (ha : a < 2 ^ 31) (hc : b < 2 ^ 31) (hdg : decode cc pc = .ok (.if_icmp .le off, 3)) (ht : (pc : Int) + off = (tgt : Int)) (kt : a ≤ b → W p l e R s m args below meth c H locs cells slots Q (F0 m tgt ls rest)) (kf : ¬ a ≤ b → W p l e R s m args below meth c H locs cells slots Q (F0 m (pc + 3) ls rest)) : W p l e R s m args below meth c H locs cells slots Q (F0 m pc ls (.int (nI b) :: .int (nI a) :: rest)) := lv_icmp_le hx hb hdg ht (fun h => kt ((nI_leI ha hc).mp h)) (fun h => kf (fun q => h ((nI_leI ha hc).mpr q)))
theorem n_if_eq (hx : p.tables.exec = Jvm.exec) (hb : c.code = cc) {a : Nat} {off : Int} {tgt : Nat} (ha : a < 2 ^ 31) (hdg : decode cc pc = .ok (.ifCond .eq off, 3)) (ht : (pc : Int) + off = (tgt : Int)) (kt : a = 0 → W p l e R s m args below meth c H locs cells slots Q (F0 m tgt ls rest)) (kf : ¬ a = 0 → W p l e R s m args below meth c H locs cells slots Q (F0 m (pc + 3) ls rest)) : W p l e R s m args below meth c H locs cells slots Q (F0 m pc ls (.int (nI a) :: rest)) := lv_if_eq hx hb hdg ht (fun h => kt ((nI_eq ha (b := 0) (by decide)).mp h)) (fun h => kf (fun q => h ((nI_eq ha (b := 0) (by decide)).mpr q)))
theorem n_if_ne (hx : p.tables.exec = Jvm.exec) (hb : c.code = cc) {a : Nat} {off : Int} {tgt : Nat} (ha : a < 2 ^ 31) (hdg : decode cc pc = .ok (.ifCond .ne off, 3)) (ht : (pc : Int) + off = (tgt : Int)) (kt : ¬ a = 0 → W p l e R s m args below meth c H locs cells slots Q (F0 m tgt ls rest)) (kf : a = 0 → W p l e R s m args below meth c H locs cells slots Q (F0 m (pc + 3) ls rest)) : W p l e R s m args below meth c H locs cells slots Q (F0 m pc ls (.int (nI a) :: rest)) := lv_if_ne hx hb hdg ht (fun h => kt (fun q => h ((nI_eq ha (b := 0) (by decide)).mpr q))) (fun h => kf ((nI_eq ha (b := 0) (by decide)).mp h))
theorem n_if_lt (hx : p.tables.exec = Jvm.exec) (hb : c.code = cc) {a : Nat} {off : Int} {tgt : Nat} (ha : a < 2 ^ 31) (hdg : decode cc pc = .ok (.ifCond .lt off, 3)) (ht : (pc : Int) + off = (tgt : Int)) (kf : W p l e R s m args below meth c H locs cells slots Q (F0 m (pc + 3) ls rest)) : W p l e R s m args below meth c H locs cells slots Q (F0 m pc ls (.int (nI a) :: rest)) := lv_if_lt (tgt := tgt) hx hb hdg ht (fun h => absurd h (nI_pos ha)) (fun _ => kf)
theorem n_if_ge (hx : p.tables.exec = Jvm.exec) (hb : c.code = cc) {a : Nat} {off : Int} {tgt : Nat} (ha : a < 2 ^ 31) (hdg : decode cc pc = .ok (.ifCond .ge off, 3)) (ht : (pc : Int) + off = (tgt : Int)) (kt : W p l e R s m args below meth c H locs cells slots Q (F0 m tgt ls rest)) : W p l e R s m args below meth c H locs cells slots Q (F0 m pc ls (.int (nI a) :: rest)) := lv_if_ge (tgt := tgt) hx hb hdg ht (fun _ => kt) (fun h => absurd (nI_pos' ha) h)
theorem n_if_le (hx : p.tables.exec = Jvm.exec) (hb : c.code = cc) {a : Nat} {off : Int} {tgt : Nat} (ha : a < 2 ^ 31) (hdg : decode cc pc = .ok (.ifCond .le off, 3)) (ht : (pc : Int) + off = (tgt : Int)) (kt : a = 0 → W p l e R s m args below meth c H locs cells slots Q (F0 m tgt ls rest)) (kf : ¬ a = 0 → W p l e R s m args below meth c H locs cells slots Q (F0 m (pc + 3) ls rest)) : W p l e R s m args below meth c H locs cells slots Q (F0 m pc ls (.int (nI a) :: rest)) := lv_if_le hx hb hdg ht (fun h => kt (Nat.le_zero.mp ((nI_leI ha (b := 0) (by decide)).mp h))) (fun h => kf (fun q => h ((nI_leI ha (b := 0) (by decide)).mpr (by omega))))
theorem n_if_gt (hx : p.tables.exec = Jvm.exec) (hb : c.code = cc) {a : Nat} {off : Int} {tgt : Nat} (ha : a < 2 ^ 31) (hdg : decode cc pc = .ok (.ifCond .gt off, 3)) (ht : (pc : Int) + off = (tgt : Int)) (kt : ¬ a = 0 → W p l e R s m args below meth c H locs cells slots Q (F0 m tgt ls rest)) (kf : a = 0 → W p l e R s m args below meth c H locs cells slots Q (F0 m (pc + 3) ls rest)) : W p l e R s m args below meth c H locs cells slots Q (F0 m pc ls (.int (nI a) :: rest)) := lv_if_gt hx hb hdg ht (fun h => kt (fun q => by have h2 := (nI_ltI (a := 0) (by decide) ha).mp h; omega)) (fun h => kf (by by_cases q : a = 0; exact q; exact absurd ((nI_ltI (a := 0) (by decide) ha).mpr (by omega)) h))
theorem bz_0 {P : Prop} [Decidable P] : (if P then (1 : Int32) else 0) = 0 ↔ ¬ P := by by_cases h : P <;> simp [h]
theorem b_if_eq (hx : p.tables.exec = Jvm.exec) (hb : c.code = cc) {P : Prop} [Decidable P] {off : Int} {tgt : Nat} (hdg : decode cc pc = .ok (.ifCond .eq off, 3)) (ht : (pc : Int) + off = (tgt : Int)) (kt : ¬ P → W p l e R s m args below meth c H locs cells slots Q (F0 m tgt ls rest)) (kf : P → W p l e R s m args below meth c H locs cells slots Q (F0 m (pc + 3) ls rest)) : W p l e R s m args below meth c H locs cells slots Q (F0 m pc ls (.int (if P then 1 else 0) :: rest)) := lv_if_eq hx hb hdg ht (fun h => kt (bz_0.mp h)) (fun h => kf (Decidable.byContradiction fun q => h (bz_0.mpr q)))
theorem b_if_ne (hx : p.tables.exec = Jvm.exec) (hb : c.code = cc) {P : Prop} [Decidable P] {off : Int} {tgt : Nat} (hdg : decode cc pc = .ok (.ifCond .ne off, 3)) (ht : (pc : Int) + off = (tgt : Int)) (kt : P → W p l e R s m args below meth c H locs cells slots Q (F0 m tgt ls rest)) (kf : ¬ P → W p l e R s m args below meth c H locs cells slots Q (F0 m (pc + 3) ls rest)) : W p l e R s m args below meth c H locs cells slots Q (F0 m pc ls (.int (if P then 1 else 0) :: rest)) := lv_if_ne hx hb hdg ht (fun h => kt (Decidable.byContradiction fun q => h (bz_0.mpr q))) (fun h => kf (bz_0.mp h))
end BS
/-- a method that reads only: from a start with B it answers r, and the heap stays -/
def RO (l : Launch) (y : MethodName) (ws : List Cond) (rm : Room) (av : List Value) (B : State → Prop) (r : Int32) : Prop := Met l y ws rm (va_Pc av B) (vp_Si (fun z => z = r)) 0 0 (fun _ => False)
def ROL (l : Launch) (y : MethodName) (ws : List Cond) (rm : Room) (av : List Value) (B : State → Prop) (r : Int64) : Prop := Met l y ws rm (va_Pc av B) (vp_Sl (fun z => z = r)) 0 0 (fun _ => False)
/-- a world that stands -/
def vB (D : va_G) (ws : va_W) (tys : List (ClassId × FieldType)) (U : State) : Prop := va_P D vwCl ws U.heap ∧ va_K D vwCl tys U
theorem vB_bl {D : va_G} {ws : va_W} {tys : List (ClassId × FieldType)} : ∀ (a : Array Value) (U : State) (g : JFrame) (mk : MethodId), vB D ws tys U → vB D ws tys (U.calling g mk a) := fun a U g mk q => ⟨q.1, va_K.moved (u := U) (U := U.calling g mk a) (Vm.Alike.refl U.vm) q.2⟩
theorem vB_at {D : va_G} {ws : va_W} {tys : List (ClassId × FieldType)} {s : State} {H : Heap} (hP : va_P D vwCl ws H) (hK : va_K D vwCl tys s) : ∀ U : State, U.heap = H → s.WarmedH U.vm → vB D ws tys U := fun U hU hW => ⟨by rw [hU]; exact hP, va_K.moved hW.alike hK⟩
def vT (_ : State) : Prop := True
theorem vT_bl : ∀ (a : Array Value) (U : State) (g : JFrame) (mk : MethodId), vT U → vT (U.calling g mk a) := fun _ _ _ _ _ => trivial
theorem vT_at {s : State} {H : Heap} : ∀ U : State, U.heap = H → s.WarmedH U.vm → vT U := fun _ _ _ => trivial
theorem ro_ofW {l : Launch} {y : MethodName} {ws ws' : List Cond} {rm : Room} {av : List Value} {B : State → Prop} {r : Int32} {cc : ByteArray} {maxL : Nat} (hy : plainName y.cls = true) (hw : ws = Cond.code y cc maxL (some .int) :: ws') (hlen : (lg_sl av).length ≤ maxL)
    (body : ∀ (p : Program) (e : Env) (s : State) (m : MethodId) (below : List Frame) (meth : Method) (c : Code) (args : Array Value) (Q : State → Prop), p.tables.exec = Jvm.exec → c.code = cc → c.maxLocals = maxL → s.vm.findClass y.cls = some m.cls → (∀ w ∈ ws, w.before args s = true) → B s →
      (∀ {pc : Nat} {ls : Array Slot} {v : Int32}, decode cc pc = .ok (.ireturn, 1) → v = r → W p l e rm s m args below meth c s.heap [] 0 0 Q (F0 m pc ls [.int v])) →
      ∀ ls : Array Slot, lv_has ls maxL (lv_args 0 av) → W p l e rm s m args below meth c s.heap [] 0 0 Q (F0 m 0 ls [])) : RO l y ws rm av B r := by
  refine Met.ofW (cc := cc) (maxL := maxL) (ret := some .int) hy hw ?_
  intro p e s m args below meth c s₁ Bd hml hv
  obtain ⟨rfl, hB⟩ := hv
  have hx := Bd.exec
  have hb := Bd.bytes
  have hr := Bd.returns
  have hts := atoms_spec (ws := ws) Bd.pre
  have hown : s.vm.findClass y.cls = some m.cls := findClass_of_methodNamed Bd.named
  have hlocks := Bd.notSynchronized
  have hl := lv_entry av (n := maxL) hlen
  rw [lg_entry_eq]
  exact body p e s m below meth c _ _ hx hb hml hown hts hB (fun {pc ls v} hd hv => W.iret hx hb hr (fun t ht _ => ⟨v, rfl, hv, ht⟩) (fun q h => by cases h) hd) _ hl
theorem ro_ofWz {l : Launch} {y : MethodName} {ws ws' : List Cond} {rm : Room} {av : List Value} {B : State → Prop} {P : Prop} [Decidable P] {cc : ByteArray} {maxL : Nat} (hy : plainName y.cls = true) (hw : ws = Cond.code y cc maxL (some .boolean) :: ws') (hlen : (lg_sl av).length ≤ maxL)
    (body : ∀ (p : Program) (e : Env) (s : State) (m : MethodId) (below : List Frame) (meth : Method) (c : Code) (args : Array Value) (Q : State → Prop), p.tables.exec = Jvm.exec → c.code = cc → c.maxLocals = maxL → s.vm.findClass y.cls = some m.cls → (∀ w ∈ ws, w.before args s = true) → B s →
      (∀ {pc : Nat} {ls : Array Slot} {v : Int32}, decode cc pc = .ok (.ireturn, 1) → v = (if P then 1 else 0) → W p l e rm s m args below meth c s.heap [] 0 0 Q (F0 m pc ls [.int v])) →
      ∀ ls : Array Slot, lv_has ls maxL (lv_args 0 av) → W p l e rm s m args below meth c s.heap [] 0 0 Q (F0 m 0 ls [])) : RO l y ws rm av B (if P then 1 else 0) := by
  refine Met.ofW (cc := cc) (maxL := maxL) (ret := some .boolean) hy hw ?_
  intro p e s m args below meth c s₁ Bd hml hv
  obtain ⟨rfl, hB⟩ := hv
  have hx := Bd.exec
  have hb := Bd.bytes
  have hr := Bd.returns
  have hts := atoms_spec (ws := ws) Bd.pre
  have hown : s.vm.findClass y.cls = some m.cls := findClass_of_methodNamed Bd.named
  have hlocks := Bd.notSynchronized
  have hl := lv_entry av (n := maxL) hlen
  rw [lg_entry_eq]
  exact body p e s m below meth c _ _ hx hb hml hown hts hB (fun {pc ls v} hd hv => W.zret hx hb hr (by rw [hv]; split <;> decide) (fun t ht _ => ⟨v, rfl, hv, ht⟩) (fun q h => by cases h) hd) _ hl
theorem ro_ofWl {l : Launch} {y : MethodName} {ws ws' : List Cond} {rm : Room} {av : List Value} {B : State → Prop} {r : Int64} {cc : ByteArray} {maxL : Nat} (hy : plainName y.cls = true) (hw : ws = Cond.code y cc maxL (some .long) :: ws') (hlen : (lg_sl av).length ≤ maxL)
    (body : ∀ (p : Program) (e : Env) (s : State) (m : MethodId) (below : List Frame) (meth : Method) (c : Code) (args : Array Value) (Q : State → Prop), p.tables.exec = Jvm.exec → c.code = cc → c.maxLocals = maxL → s.vm.findClass y.cls = some m.cls → (∀ w ∈ ws, w.before args s = true) → B s →
      (∀ {pc : Nat} {ls : Array Slot} {v : Int64}, decode cc pc = .ok (.lreturn, 1) → v = r → W p l e rm s m args below meth c s.heap [] 0 0 Q (F0 m pc ls [.long v])) →
      ∀ ls : Array Slot, lv_has ls maxL (lv_args 0 av) → W p l e rm s m args below meth c s.heap [] 0 0 Q (F0 m 0 ls [])) : ROL l y ws rm av B r := by
  refine Met.ofW (cc := cc) (maxL := maxL) (ret := some .long) hy hw ?_
  intro p e s m args below meth c s₁ Bd hml hv
  obtain ⟨rfl, hB⟩ := hv
  have hx := Bd.exec
  have hb := Bd.bytes
  have hr := Bd.returns
  have hts := atoms_spec (ws := ws) Bd.pre
  have hown : s.vm.findClass y.cls = some m.cls := findClass_of_methodNamed Bd.named
  have hlocks := Bd.notSynchronized
  have hl := lv_entry av (n := maxL) hlen
  rw [lg_entry_eq]
  exact body p e s m below meth c _ _ hx hb hml hown hts hB (fun {pc ls v} hd hv => W.lret hx hb hr (fun t ht _ => ⟨v, rfl, hv, ht⟩) (fun q h => by cases h) hd) _ hl
section BC
variable {p : Program} {l : Launch} {e : Env} {R : Room} {s : State} {m : MethodId} {args : Array Value} {below : List Frame} {meth : Method} {c : Code} {H : Heap} {locs : List Loc} {cells slots : Nat} {Q : State → Prop}
variable {cc bytes : ByteArray} {pc nL maxL n index : Nat} {ls : Array Slot} {rest st0 As : List Value} {Ts wsM : List Cond} {own C : String} {y : MethodName} {ret : Option FieldType} {rm : Room} {B : State → Prop} {r : Int32} {b : Addr}
theorem ro_run {a : Array Value} {av : List Value} (hr : va_Run p l e R s m args below meth c H locs cells slots 0 0 (F0 m pc ls st0) rest (vp_Si (fun z => z = r) a) (fun _ => False)) (k : W p l e R s m args below meth c H locs cells slots Q (F0 m (pc + 3) ls (.int r :: rest))) : W p l e R s m args below meth c H locs cells slots Q (F0 m pc ls st0) := by
  intro T hT X
  obtain ⟨v, st₀, t, T', L, h0, X', hL, e1, -, ⟨r', hv, hp, hh⟩, st⟩ := hr T hT X
  cases hv
  subst hp
  obtain ⟨t2, a1, b1⟩ := k T' (by rw [e1, hh, h0]) (Stand.forget X' (fun q h => (hL q h).elim))
  exact ⟨t2, st t2 a1, b1⟩
theorem ro_runl {rr : Int64} {a : Array Value} {av : List Value} (hr : va_Run p l e R s m args below meth c H locs cells slots 0 0 (F0 m pc ls st0) rest (vp_Sl (fun z => z = rr) a) (fun _ => False)) (k : W p l e R s m args below meth c H locs cells slots Q (F0 m (pc + 3) ls (.long rr :: rest))) : W p l e R s m args below meth c H locs cells slots Q (F0 m pc ls st0) := by
  intro T hT X
  obtain ⟨v, st₀, t, T', L, h0, X', hL, e1, -, ⟨r', hv, hp, hh⟩, st⟩ := hr T hT X
  cases hv
  subst hp
  obtain ⟨t2, a1, b1⟩ := k T' (by rw [e1, hh, h0]) (Stand.forget X' (fun q h => (hL q h).elim))
  exact ⟨t2, st t2 a1, b1⟩
theorem ro_callS (S : CallFix p m c cc nL s args Ts own) (hM : RO l y wsM rm As B r) (cw : CallB R s args own index y bytes maxL ret wsM rm 0 0 n ∧ (Cond.static y).before args s = true) (hbl : ∀ (a : Array Value) (U : State) (g : JFrame) (mk : MethodId), B U → B (U.calling g mk a)) (hat : ∀ U : State, U.heap = H → s.WarmedH U.vm → B U)
    (hn : As.length = n) (hsize : ls.size = nL) (hst : st0 = As.reverse ++ rest) (hroom : (rest.map fun v => v.category).sum ≤ 8) (hdg : decode cc pc = .ok (.invokestatic index, 3)) (hf : cells + 0 ≤ R.cells ∧ slots + 0 ≤ R.slots) (k : W p l e R s m args below meth c H locs cells slots Q (F0 m (pc + 3) ls (.int r :: rest))) : W p l e R s m args below meth c H locs cells slots Q (F0 m pc ls st0) :=
  ro_run (av := As) (va_runS S hM cw ⟨fun a U g mk q => ⟨q.1, hbl a U g mk q.2⟩, fun U hU hW => ⟨rfl, hat U hU hW⟩⟩ rfl hn hsize hst (lv_room (m := m) (pc := pc) (ls := ls) (rest := st0) hroom) hdg hf) k
theorem ro_callV (S : CallFix p m c cc nL s args Ts own) (hM : RO l y wsM rm (.ref b :: As) B r) (cw : CallW R s args own C index y bytes maxL ret wsM rm 0 0 n) (hbl : ∀ (a : Array Value) (U : State) (g : JFrame) (mk : MethodId), B U → B (U.calling g mk a)) (hat : ∀ U : State, U.heap = H → s.WarmedH U.vm → B U) (hrc : ∃ cellB : Cell, H[b]? = some cellB ∧ cellB.vm.isStatics = false ∧ s.vm.findClass C = some cellB.cls)
    (hn : As.length = n) (hsize : ls.size = nL) (hst : st0 = As.reverse ++ .ref b :: rest) (hroom : (rest.map fun v => v.category).sum ≤ 8) (hdg : decode cc pc = .ok (.invokevirtual index, 3)) (hf : cells + 0 ≤ R.cells ∧ slots + 0 ≤ R.slots) (k : W p l e R s m args below meth c H locs cells slots Q (F0 m (pc + 3) ls (.int r :: rest))) : W p l e R s m args below meth c H locs cells slots Q (F0 m pc ls st0) :=
  ro_run (av := As) (va_runV S hM cw ⟨fun a U g mk q => ⟨q.1, hbl a U g mk q.2⟩, hrc, fun U hU hW => ⟨rfl, hat U hU hW⟩⟩ rfl hn hsize hst (lv_room (m := m) (pc := pc) (ls := ls) (rest := st0) hroom) hdg hf) k
theorem ro_callVl {rr : Int64} (S : CallFix p m c cc nL s args Ts own) (hM : ROL l y wsM rm (.ref b :: As) B rr) (cw : CallW R s args own C index y bytes maxL ret wsM rm 0 0 n) (hbl : ∀ (a : Array Value) (U : State) (g : JFrame) (mk : MethodId), B U → B (U.calling g mk a)) (hat : ∀ U : State, U.heap = H → s.WarmedH U.vm → B U) (hrc : ∃ cellB : Cell, H[b]? = some cellB ∧ cellB.vm.isStatics = false ∧ s.vm.findClass C = some cellB.cls)
    (hn : As.length = n) (hsize : ls.size = nL) (hst : st0 = As.reverse ++ .ref b :: rest) (hroom : (rest.map fun v => v.category).sum ≤ 8) (hdg : decode cc pc = .ok (.invokevirtual index, 3)) (hf : cells + 0 ≤ R.cells ∧ slots + 0 ≤ R.slots) (k : W p l e R s m args below meth c H locs cells slots Q (F0 m (pc + 3) ls (.long rr :: rest))) : W p l e R s m args below meth c H locs cells slots Q (F0 m pc ls st0) :=
  ro_runl (av := As) (va_runV S hM cw ⟨fun a U g mk q => ⟨q.1, hbl a U g mk q.2⟩, hrc, fun U hU hW => ⟨rfl, hat U hU hW⟩⟩ rfl hn hsize hst (lv_room (m := m) (pc := pc) (ls := ls) (rest := st0) hroom) hdg hf) k
end BC
end
section
/-! what a state IS: one value for both sides; the class's cells and the reference's cells are read off it -/
abbrev St : Type := Nat × Nat × Nat × (Nat → Int32) × (Nat → Nat → Int32) × (Nat → Nat → Bool) × (Nat → Int32) × (Nat → Int32) × (Nat → Nat) × Nat × Int32 × Int64
def sF (A : St) : Nat := A.1
def sT (A : St) : Nat := A.2.1
def sK (A : St) : Nat := A.2.2.1
def sB (A : St) : Nat → Int32 := A.2.2.2.1
def sV (A : St) : Nat → Nat → Int32 := A.2.2.2.2.1
def sX (A : St) : Nat → Nat → Bool := A.2.2.2.2.2.1
def sE (A : St) : Nat → Int32 := A.2.2.2.2.2.2.1
def sR (A : St) : Nat → Int32 := A.2.2.2.2.2.2.2.1
def sZ (A : St) : Nat → Nat := A.2.2.2.2.2.2.2.2.1
def sJ (A : St) : Nat := A.2.2.2.2.2.2.2.2.2.1
def sN (A : St) : Int32 := A.2.2.2.2.2.2.2.2.2.2.1
def sC (A : St) : Int64 := A.2.2.2.2.2.2.2.2.2.2.2
def mkS (F T K : Nat) (B : Nat → Int32) (V : Nat → Nat → Int32) (X : Nat → Nat → Bool) (E R : Nat → Int32) (Z : Nat → Nat) (J : Nat) (N : Int32) (C : Int64) : St := (F, T, K, B, V, X, E, R, Z, J, N, C)
def uB (A : St) (x : Nat → Int32) : St := mkS (sF A) (sT A) (sK A) x (sV A) (sX A) (sE A) (sR A) (sZ A) (sJ A) (sN A) (sC A)
def uV (A : St) (x : Nat → Nat → Int32) : St := mkS (sF A) (sT A) (sK A) (sB A) x (sX A) (sE A) (sR A) (sZ A) (sJ A) (sN A) (sC A)
def uX (A : St) (x : Nat → Nat → Bool) : St := mkS (sF A) (sT A) (sK A) (sB A) (sV A) x (sE A) (sR A) (sZ A) (sJ A) (sN A) (sC A)
def uE (A : St) (x : Nat → Int32) : St := mkS (sF A) (sT A) (sK A) (sB A) (sV A) (sX A) x (sR A) (sZ A) (sJ A) (sN A) (sC A)
def uR (A : St) (x : Nat → Int32) : St := mkS (sF A) (sT A) (sK A) (sB A) (sV A) (sX A) (sE A) x (sZ A) (sJ A) (sN A) (sC A)
def uZ (A : St) (x : Nat → Nat) : St := mkS (sF A) (sT A) (sK A) (sB A) (sV A) (sX A) (sE A) (sR A) x (sJ A) (sN A) (sC A)
def uJ (A : St) (x : Nat) : St := mkS (sF A) (sT A) (sK A) (sB A) (sV A) (sX A) (sE A) (sR A) (sZ A) x (sN A) (sC A)
def uN (A : St) (x : Int32) : St := mkS (sF A) (sT A) (sK A) (sB A) (sV A) (sX A) (sE A) (sR A) (sZ A) (sJ A) x (sC A)
def uC (A : St) (x : Int64) : St := mkS (sF A) (sT A) (sK A) (sB A) (sV A) (sX A) (sE A) (sR A) (sZ A) (sJ A) (sN A) x
/-- the bits of what is barred -/
def bsum (X : Nat → Nat → Bool) : Nat → Nat
  | 0 => 0
  | n + 1 => bsum X n + (if X (n / 14) (n % 14) then 2 ^ n else 0)
def bbOf (X : Nat → Nat → Bool) : Int64 := lN (bsum X 42)
/-- the class's cells -/
def xw (h : Nat → Nat) (cI : ClassId) (A : St) : va_W :=
  [(h 0, .inr (0, [.int (nI (sF A)), .int (nI (sT A)), .int (nI (sK A)), .ref (h 1), .ref (h 2), .long (bbOf (sX A)), .ref (h 3), .ref (h 4), .ref (h 5), .int (nI (sJ A)), .int (sN A), .long (sC A)])),
   (h 1, .inl (cI, 48, .inl (sB A))), (h 2, .inl (cI, 42, .inl (fun j => sV A (j / 14) (j % 14)))), (h 3, .inl (cI, 144, .inl (sE A))), (h 4, .inl (cI, 16, .inl (sR A))), (h 5, .inl (cI, 2, .inl (fun j => nI (sZ A j))))]
/-- the reference's cells -/
def mw (h : Nat → Nat) (cI cZ : ClassId) (A : St) (M : Nat → Int32) : va_W :=
  [(h 0, .inr (1, [.int (nI (sF A)), .int (nI (sT A)), .int (nI (sK A)), .ref (h 1), .ref (h 2), .ref (h 3), .ref (h 4), .int (nI (sJ A)), .int (sN A), .ref (h 5), .ref (h 6), .long (sC A), .ref (h 7)])),
   (h 1, .inl (cI, 48, .inl (sB A))), (h 2, .inl (cI, 48, .inl (fun j => sV A (j / 16) (j % 16)))), (h 3, .inl (cZ, 48, .inl (fun j => if sX A (j / 16) (j % 16) then 1 else 0))), (h 4, .inl (cI, 144, .inl (sE A))), (h 5, .inl (cI, 2, .inl (fun j => nI (sZ A j)))), (h 6, .inl (cI, 16, .inl (sR A))), (h 7, .inl (cI, 8, .inl M))]
/-- what every state that a run of calls reaches keeps -/
def Inv (A : St) : Prop := (1 ≤ sF A ∧ sF A ≤ 6) ∧ (1 ≤ sT A ∧ sT A ≤ 8) ∧ (1 ≤ sK A ∧ sK A ≤ 3) ∧ sJ A ≤ 2 ∧ (sZ A 0 ≤ 8 ∧ sZ A 1 ≤ 8) ∧ (∀ j, 0 ≤ (sB A j).toInt ∧ (sB A j).toInt ≤ 99) ∧ (∀ k i, 0 ≤ (sV A k i).toInt ∧ (sV A k i).toInt ≤ 20) ∧ (∀ k i, 14 ≤ i → sX A k i = false) ∧ (∀ j, -1000 ≤ (sR A j).toInt ∧ (sR A j).toInt ≤ 1000) ∧ (∀ j, 0 ≤ (sE A j).toInt ∧ (sE A j).toInt ≤ 99)
theorem Inv.F {A : St} (h : Inv A) : 1 ≤ sF A ∧ sF A ≤ 6 := h.1
theorem Inv.T {A : St} (h : Inv A) : 1 ≤ sT A ∧ sT A ≤ 8 := h.2.1
theorem Inv.K {A : St} (h : Inv A) : 1 ≤ sK A ∧ sK A ≤ 3 := h.2.2.1
theorem Inv.J {A : St} (h : Inv A) : sJ A ≤ 2 := h.2.2.2.1
theorem Inv.Z {A : St} (h : Inv A) : sZ A 0 ≤ 8 ∧ sZ A 1 ≤ 8 := h.2.2.2.2.1
theorem Inv.B {A : St} (h : Inv A) : ∀ j, 0 ≤ (sB A j).toInt ∧ (sB A j).toInt ≤ 99 := h.2.2.2.2.2.1
theorem Inv.V {A : St} (h : Inv A) : ∀ k i, 0 ≤ (sV A k i).toInt ∧ (sV A k i).toInt ≤ 20 := h.2.2.2.2.2.2.1
theorem Inv.X {A : St} (h : Inv A) : ∀ k i, 14 ≤ i → sX A k i = false := h.2.2.2.2.2.2.2.1
theorem Inv.R {A : St} (h : Inv A) : ∀ j, -1000 ≤ (sR A j).toInt ∧ (sR A j).toInt ≤ 1000 := h.2.2.2.2.2.2.2.2.1
theorem Inv.E {A : St} (h : Inv A) : ∀ j, 0 ≤ (sE A j).toInt ∧ (sE A j).toInt ≤ 99 := h.2.2.2.2.2.2.2.2.2
/-! the numbers that both sides work out -/
abbrev iN (x : Int32) (n : Nat) : Prop := nI 0 ≤ x ∧ x ≤ nI (n - 1)
def fab (x : Int32) : Int32 := if 0 ≤ x then x else 0 - x
def fco (J : Nat) (d : Int32) : Int32 := if J = 0 then d else if J = 1 ∨ d * d ≤ 100 then d * d else 90 + d * d / 10
def fS (A : St) (f t : Nat) : Int32 := l_sum (fun k => sV A k f * sV A k (6 + t)) (sK A)
def fc (A : St) (f t : Nat) : Int32 := fco (sJ A) (fab (sB A (f * 8 + t) - fS A f t))
/-- MISS along a TONE (o = 0), a TIME (else) -/
def fal (A : St) (o i : Nat) : Int32 := if o = 0 then l_sum (fun t => fc A i t) (sT A) else l_sum (fun f => fc A f i) (sF A)
def fm (A : St) : Int32 := l_sum (fun f => l_sum (fun t => fc A f t) (sT A)) (sF A)
theorem l_sum_s (b : Nat → Int32) (n : Nat) : l_sum b (n + 1) = l_sum b n + b n := rfl
theorem l_sum_0 (b : Nat → Int32) : l_sum b 0 = 0 := rfl
theorem dv14 {k i : Nat} (h : i < 14) : (k * 14 + i) / 14 = k ∧ (k * 14 + i) % 14 = i := by omega
theorem dv16 {k i : Nat} (h : i < 16) : (k * 16 + i) / 16 = k ∧ (k * 16 + i) % 16 = i := by omega
theorem xVat {f : Nat → Nat → Int32} {k i j : Nat} (h : i < 14) (hj : j = k * 14 + i) : (fun j => f (j / 14) (j % 14)) j = f k i := by
  subst hj
  show f ((k * 14 + i) / 14) ((k * 14 + i) % 14) = f k i
  rw [(dv14 h).1, (dv14 h).2]
theorem mVat {f : Nat → Nat → Int32} {k i j : Nat} (h : i < 16) (hj : j = k * 16 + i) : (fun j => f (j / 16) (j % 16)) j = f k i := by
  subst hj
  show f ((k * 16 + i) / 16) ((k * 16 + i) % 16) = f k i
  rw [(dv16 h).1, (dv16 h).2]
end
section
/-! the numbers that both sides work out, further -/
def cnt (p : Nat → Bool) : Nat → Nat
  | 0 => 0
  | n + 1 => cnt p n + (if p n then 1 else 0)
theorem cnt_yes {p : Nat → Bool} {n : Nat} (h : p n = true) : cnt p (n + 1) = cnt p n + 1 := by simp [cnt, h]
theorem cnt_no {p : Nat → Bool} {n : Nat} (h : p n = false) : cnt p (n + 1) = cnt p n := by simp [cnt, h]
theorem cnt_le (p : Nat → Bool) : ∀ n, cnt p n ≤ n
  | 0 => Nat.le_refl 0
  | n + 1 => by
    have ih := cnt_le p n
    simp only [cnt]
    split <;> omega
theorem cnt_pos {p : Nat → Bool} {j : Nat} (h : p j = true) : ∀ {n : Nat}, j < n → 1 ≤ cnt p n
  | 0, hj => absurd hj (Nat.not_lt_zero j)
  | n + 1, hj => by
    by_cases q : j = n
    · subst q; rw [cnt_yes h]; omega
    · have := cnt_pos (p := p) h (show j < n by omega)
      simp only [cnt]; omega
/-- z and then g 0, g 1 .. -/
def acc (z : Int32) (g : Nat → Int32) : Nat → Int32
  | 0 => z
  | n + 1 => acc z g n + g n
def acc2 (z : Int32) (g : Nat → Nat → Int32) (T : Nat) : Nat → Int32
  | 0 => z
  | n + 1 => acc (acc2 z g T n) (g n) T
theorem acc_eq (z : Int32) (g : Nat → Int32) : ∀ n, acc z g n = z + l_sum g n
  | 0 => (Int32.add_zero z).symm
  | n + 1 => by rw [acc, l_sum_s, acc_eq z g n, Int32.add_assoc]
theorem l_sum_cong {f g : Nat → Int32} : ∀ {n : Nat}, (∀ k, k < n → f k = g k) → l_sum f n = l_sum g n
  | 0, _ => rfl
  | n + 1, h => by rw [l_sum_s, l_sum_s, l_sum_cong (fun k hk => h k (Nat.lt_succ_of_lt hk)), h n (Nat.lt_succ_self n)]
theorem acc_cong {z : Int32} {f g : Nat → Int32} {n : Nat} (h : ∀ k, k < n → f k = g k) : acc z f n = acc z g n := by rw [acc_eq, acc_eq, l_sum_cong h]
theorem acc2_eq (z : Int32) (g : Nat → Nat → Int32) (T : Nat) : ∀ n, acc2 z g T n = z + l_sum (fun f => l_sum (g f) T) n
  | 0 => (Int32.add_zero z).symm
  | n + 1 => by rw [acc2, acc_eq, acc2_eq z g T n, l_sum_s, Int32.add_assoc]
/-- what is left over of v, after the first n -/
def flf (v a : Int32) (th : Nat → Int32) : Nat → Int32
  | 0 => v
  | n + 1 => flf v a th n - th n / a
def frm (x a : Int32) : Int32 := x - x / a * a
def fth (A : St) (f t : Nat) (k : Nat) : Int32 := sB A (f * 8 + t) * (sV A k f * sV A k (6 + t))
/-- VOICE j stands ahead of VOICE k -/
def fah (A : St) (k f t : Nat) (j : Nat) : Bool := decide (frm (fth A f t k) (fS A f t) < frm (fth A f t j) (fS A f t) ∨ (frm (fth A f t j) (fS A f t) = frm (fth A f t k) (fS A f t) ∧ j < k))
/-- SHARE -/
def fsh (A : St) (k f t : Nat) : Int32 := if fS A f t = 0 then (if k = 0 then sB A (f * 8 + t) else 0) else fth A f t k / fS A f t + (if nI (cnt (fah A k f t) (sK A)) < flf (sB A (f * 8 + t)) (fS A f t) (fth A f t) (sK A) then 1 else 0)
theorem Int32_toInt_mul_of {x y : Int32} (h1 : -2147483648 ≤ x.toInt * y.toInt) (h2 : x.toInt * y.toInt < 2147483648) : (x * y).toInt = x.toInt * y.toInt := by
  rw [Int32.toInt_mul, Int.bmod_eq_of_le (by omega) (by omega)]
theorem Int32_toInt_add_of {x y : Int32} (h1 : -2147483648 ≤ x.toInt + y.toInt) (h2 : x.toInt + y.toInt < 2147483648) : (x + y).toInt = x.toInt + y.toInt := by
  rw [Int32.toInt_add, Int.bmod_eq_of_le (by omega) (by omega)]
theorem Int32_toInt_sub_of {x y : Int32} (h1 : -2147483648 ≤ x.toInt - y.toInt) (h2 : x.toInt - y.toInt < 2147483648) : (x - y).toInt = x.toInt - y.toInt := by
  rw [Int32.toInt_sub, Int.bmod_eq_of_le (by omega) (by omega)]
/-- a product of two small numbers -/
theorem mul_in {x y : Int32} {a b : Nat} (hx : 0 ≤ x.toInt ∧ x.toInt ≤ a) (hy : 0 ≤ y.toInt ∧ y.toInt ≤ b) (h : (a : Int) * b < 2147483648) : (x * y).toInt = x.toInt * y.toInt ∧ 0 ≤ (x * y).toInt ∧ (x * y).toInt ≤ (a : Int) * b := by
  have h0 : 0 ≤ x.toInt * y.toInt := Int.mul_nonneg hx.1 hy.1
  have h1 : x.toInt * y.toInt ≤ (a : Int) * b := Int.mul_le_mul hx.2 hy.2 hy.1 (by omega)
  have e := Int32_toInt_mul_of (x := x) (y := y) (by omega) (by omega)
  rw [e]
  exact ⟨rfl, h0, h1⟩
/-- a sum of small numbers -/
theorem l_sum_in {g : Nat → Int32} {c : Nat} {n : Nat} (h : ∀ k, k < n → 0 ≤ (g k).toInt ∧ (g k).toInt ≤ c) (hc : (n : Int) * c < 2147483648) : 0 ≤ (l_sum g n).toInt ∧ (l_sum g n).toInt ≤ (n : Int) * c := by
  induction n with
  | zero =>
    rw [l_sum_0]
    have e : (0 : Int32).toInt = 0 := by decide
    rw [e]
    simp
  | succ n ih =>
    have e : ((n + 1 : Nat) : Int) * (c : Int) = (n : Int) * c + c := by
      rw [Int.natCast_add, Int.add_mul]; simp
    rw [e] at hc ⊢
    have ih := ih (fun k hk => h k (Nat.lt_succ_of_lt hk)) (by omega)
    have h1 := h n (Nat.lt_succ_self n)
    rw [l_sum_s, Int32_toInt_add_of (by omega) (by omega)]
    omega
theorem fS_in {A : St} (hI : Inv A) (f t : Nat) : 0 ≤ (fS A f t).toInt ∧ (fS A f t).toInt ≤ 1200 := by
  have h := l_sum_in (g := fun k => sV A k f * sV A k (6 + t)) (c := 400) (n := sK A) (fun k _ => (mul_in (a := 20) (b := 20) (hI.V k f) (hI.V k (6 + t)) (by decide)).2) (by have := hI.K; omega)
  have hK := hI.K
  refine ⟨h.1, Int.le_trans h.2 ?_⟩
  omega
theorem fS_0 {A : St} (hI : Inv A) {f t : Nat} (h : ¬ 0 < fS A f t) : fS A f t = 0 := by
  have h1 := fS_in hI f t
  have h2 : ¬ (0 : Int32).toInt < (fS A f t).toInt := fun q => h (Int32.lt_iff_toInt_lt.mpr q)
  have h3 : (0 : Int32).toInt = 0 := by decide
  exact Int32.toInt_inj.mp (by omega)
theorem ne_of_pos {x : Int32} (h : 0 < x) : ¬ x = 0 := fun z => by rw [z] at h; exact absurd h (by decide)
/-- TIMES in step -/
theorem step_fin : ∀ t : Fin 8, ∀ o : Fin 8, ∀ p : Fin 9, 0 < p.val → ((nI t.val - nI o.val) - (nI t.val - nI o.val) / nI p.val * nI p.val = 0 ↔ t.val % p.val = o.val % p.val) := by decide +kernel
theorem step_eq {t o p : Nat} (ht : t < 8) (ho : o < 8) (hp : p < 9) (h : 0 < p) : ((nI t - nI o) - (nI t - nI o) / nI p * nI p = 0 ↔ t % p = o % p) := step_fin ⟨t, ht⟩ ⟨o, ho⟩ ⟨p, hp⟩ h
/-- how many stand ahead of TIME t -/
def fra (A : St) (p f t : Nat) (o : Nat) : Bool := decide (t % p = o % p ∧ (sB A (f * 8 + o) < sB A (f * 8 + t) ∨ (sB A (f * 8 + o) = sB A (f * 8 + t) ∧ o < t)))
def frk (A : St) (p f t : Nat) : Nat := cnt (fra A p f t) (sT A)
def fis (p t : Nat) (o : Nat) : Bool := decide (t % p = o % p)
def fmi (A : St) (p t : Nat) : Nat := (cnt (fis p t) (sT A) - 1) / 2
def fbL (c : Nat → Bool) (g : Nat → Int32) (z : Int32) : Nat → Nat → Int32
  | 0, _ => z
  | n + 1, o => if c o then g o else fbL c g z n (o + 1)
def fbc (A : St) (p f t : Nat) (o : Nat) : Bool := decide (t % p = o % p ∧ frk A p f o = fmi A p t)
/-- THE BACKGROUND -/
def fbg (A : St) (p f t : Nat) : Int32 := fbL (fbc A p f t) (fun o => sB A (f * 8 + o)) (sB A (f * 8 + t)) (sT A) 0
def fpr (A : St) (p : Nat) : Int32 := acc2 (nI (p * sF A)) (fun f t => fab (sB A (f * 8 + t) - fbg A p f t)) (sT A) (sF A)
/-- the best of 1 .. n + 1 -/
def fbp (pr : Nat → Int32) : Nat → Nat
  | 0 => 1
  | n + 1 => if pr (n + 2) < pr (fbp pr n) then n + 2 else fbp pr n
theorem fbp_in (pr : Nat → Int32) : ∀ n, 1 ≤ fbp pr n ∧ fbp pr n ≤ n + 1
  | 0 => ⟨Nat.le_refl 1, Nat.le_refl 1⟩
  | n + 1 => by
    have ih := fbp_in pr n
    simp only [fbp]
    split <;> omega
def fpe (A : St) : Nat := fbp (fpr A) (sT A - 1)
/-- ROW 0 filled up with 0 -/
def ffr (A : St) (i : Nat) : Int32 := if i < sZ A 0 then sR A i else 0
def fpt (A : St) (d : Int32) (i : Nat) : Int32 := if iN (nI i + d) (sZ A 1) then sR A i * sR A (8 + (nI i + d).toNatClampNeg) else 0
def fpd (A : St) (d : Int32) : Int32 := l_sum (fpt A d) (sZ A 0)
def pc3 (n : Nat) : Nat := n % 2 + n / 2 % 2 + n / 4 % 2
def fsg (k i : Nat) : Int32 := if pc3 (k &&& i) % 2 = 0 then 1 else -1
def ftu (A : St) (k : Nat) : Int32 := l_sum (fun i => fsg k i * ffr A i) 8
def fba (A : St) (k : Nat) : Int32 := l_sum (fun i => fsg k i * ftu A i) 8 / 8
def fno (K : Nat) : Nat := if K = 1 then 1 else if K = 2 then 2 else 6
def fvo (K o k : Nat) : Nat := if K = 1 then 0 else if K = 2 then (o + k) % 2 else [0, 1, 2, 0, 2, 1, 1, 0, 2, 1, 2, 0, 2, 0, 1, 2, 1, 0].getD (o * 3 + k) 0
def fav (A : St) (k v : Nat) : Int32 := acc2 0 (fun f t => fab (fsh A k f t - sE A (v * 48 + (f * 8 + t)))) (sT A) (sF A)
def fap (A : St) (o : Nat) : Int32 := l_sum (fun k => fav A k (fvo (sK A) o k)) (sK A)
/-- the least of 0 .. n, the least by ap -/
def fle (ap : Nat → Int32) : Nat → Nat
  | 0 => 0
  | n + 1 => if ap (n + 1) < ap (fle ap n) then n + 1 else fle ap n
theorem iN_of {x : Int32} {n : Nat} (h : iN x n) (h1 : 1 ≤ n) (hn : n < 2 ^ 31) : ∃ j : Nat, j < n ∧ x = nI j := by
  obtain ⟨ha, hb⟩ := h
  have h2 : ¬ x < 0 := Int32.not_lt.mpr ha
  obtain ⟨j, hj, e⟩ := nI_of2 (M := nI (n - 1)) (n := n - 1) (nI_toInt (by omega)) h2 hb
  exact ⟨j, by omega, e⟩
theorem iN_nI {j n : Nat} (h : j < n) (hn : n < 2 ^ 31) : iN (nI j) n := ⟨(nI_leI (by decide) (by omega)).mpr (Nat.zero_le j), (nI_leI (by omega) (by omega)).mpr (by omega)⟩
def qi (o i : Nat) : Nat := if o = 0 then i else 6 + i
theorem qi_lt {A : St} (hI : Inv A) {o i : Nat} (ho : o < 2) (h : i < if nI o = 0 then sF A else sT A) : qi o i < 14 := by
  have hF := hI.F
  have hT := hI.T
  unfold qi
  rcases (show o = 0 ∨ o = 1 by omega) with rfl | rfl
  · have h : i < sF A := h
    rw [if_pos rfl]; omega
  · have h : i < sT A := h
    rw [if_neg (by decide)]; omega
theorem fno_in (K : Nat) : 1 ≤ fno K ∧ fno K ≤ 6 := by
  unfold fno
  split
  · omega
  · split <;> omega
end
section
/-! bits of small numbers; the tables of orders -/
theorem nI_and8 {a b : Nat} (ha : a < 8) (hb : b < 8) : nI a &&& nI b = nI (a &&& b) := (show ∀ a b : Fin 8, nI a.val &&& nI b.val = nI (a.val &&& b.val) by decide +kernel) ⟨a, ha⟩ ⟨b, hb⟩
theorem and8 {a b : Nat} (ha : a < 8) : a &&& b < 8 := Nat.lt_of_le_of_lt Nat.and_le_left ha
def g1 (n : Nat) : Nat := [0, 1, 1, 2, 4, 5, 5, 6].getD n 0
theorem fvo_lt {K o k : Nat} (hK : 1 ≤ K ∧ K ≤ 3) : fvo K o k < 3 := by
  unfold fvo
  split
  · decide
  · split
    · omega
    · have h : ∀ n, [0, 1, 2, 0, 2, 1, 1, 0, 2, 1, 2, 0, 2, 0, 1, 2, 1, 0].getD n 0 < 3 := by
        intro n
        by_cases q : n < 18
        · exact (show ∀ n : Fin 18, [0, 1, 2, 0, 2, 1, 1, 0, 2, 1, 2, 0, 2, 0, 1, 2, 1, 0].getD n.val 0 < 3 by decide +kernel) ⟨n, q⟩
        · rw [List.getD_eq_getElem?_getD, List.getElem?_eq_none (by simpa using q)]
          decide
      exact h _
def tb2 (n : Nat) : Nat := [0, 1, 1, 0].getD n 0
def tb3 (n : Nat) : Nat := [0, 1, 2, 0, 2, 1, 1, 0, 2, 1, 2, 0, 2, 0, 1, 2, 1, 0].getD n 0
theorem tb2_eq {o k : Nat} (ho : o < 2) (hk : k < 2) : tb2 (o * 2 + k) = (o + k) % 2 := (show ∀ o k : Fin 2, tb2 (o.val * 2 + k.val) = (o.val + k.val) % 2 by decide +kernel) ⟨o, ho⟩ ⟨k, hk⟩
/-- the tables of orders stand at t 1, t 2, t 3 -/
def xST (t : Nat → Nat) (G : Nat → Prop) (U : State) (H : Heap) : Prop :=
  (va_Z "VoiceParts" "ORDERS_OF_ONE" "[I" (.ref (t 1)) G U H ∧ va_T .int (t 1) 1 (fun _ => .int (nI 0)) G U H) ∧ (va_Z "VoiceParts" "ORDERS_OF_TWO" "[I" (.ref (t 2)) G U H ∧ va_T .int (t 2) 4 (fun j => .int (nI (tb2 j))) G U H) ∧ (va_Z "VoiceParts" "ORDERS_OF_THREE" "[I" (.ref (t 3)) G U H ∧ va_T .int (t 3) 18 (fun j => .int (nI (tb3 j))) G U H)
theorem xST.moved {t : Nat → Nat} {G : Nat → Prop} {u U : State} {H : Heap} (hvm : u.vm.Alike U.vm) (h : xST t G u H) : xST t G U H := ⟨⟨h.1.1.moved hvm, h.1.2.moved hvm⟩, ⟨h.2.1.1.moved hvm, h.2.1.2.moved hvm⟩, ⟨h.2.2.1.moved hvm, h.2.2.2.moved hvm⟩⟩
theorem xST.kept {t : Nat → Nat} {G : Nat → Prop} {U : State} {H H1 : Heap} (h : xST t G U H) (hq : ∀ a : Nat, a < H.size → ¬ G a → H1[a]? = H[a]?) : xST t G U H1 := ⟨⟨h.1.1.kept hq, h.1.2.kept hq⟩, ⟨h.2.1.1.kept hq, h.2.1.2.kept hq⟩, ⟨h.2.2.1.kept hq, h.2.2.2.kept hq⟩⟩
theorem xST.narrow {t : Nat → Nat} {G G2 : Nat → Prop} {U : State} {H : Heap} (h : xST t G U H) (hq : ∀ a, G2 a → G a) : xST t G2 U H := ⟨⟨h.1.1.narrow hq, h.1.2.narrow hq⟩, ⟨h.2.1.1.narrow hq, h.2.1.2.narrow hq⟩, ⟨h.2.2.1.narrow hq, h.2.2.2.narrow hq⟩⟩
def vB2 (D : va_G) (ws : va_W) (tys : List (ClassId × FieldType)) (t : Nat → Nat) (U : State) : Prop := vB D ws tys U ∧ xST t (fun _ => False) U U.heap
theorem vB2_bl {D : va_G} {ws : va_W} {tys : List (ClassId × FieldType)} {t : Nat → Nat} : ∀ (a : Array Value) (U : State) (g : JFrame) (mk : MethodId), vB2 D ws tys t U → vB2 D ws tys t (U.calling g mk a) := fun a U g mk q => ⟨vB_bl a U g mk q.1, xST.moved (u := U) (U := U.calling g mk a) (Vm.Alike.refl U.vm) q.2⟩
theorem vB2_at {D : va_G} {ws : va_W} {tys : List (ClassId × FieldType)} {t : Nat → Nat} {s : State} {H : Heap} (hP : va_P D vwCl ws H) (hK : va_K D vwCl tys s) (hT : xST t (fun _ => False) s H) : ∀ U : State, U.heap = H → s.WarmedH U.vm → vB2 D ws tys t U := fun U hU hW => ⟨vB_at hP hK U hU hW, by rw [hU]; exact hT.moved hW.alike⟩
end
section
/-! ===== lN n to 2^64: shifts, and, or, masks, one bit ===== -/
theorem wb_tb (n : Nat) : (lN n).toBitVec = BitVec.ofNat 64 n := rfl
theorem wb_inj {a b : Int64} (h : a.toBitVec = b.toBitVec) : a = b := Int64.toBitVec_inj.mp h
theorem wb_tn {n : Nat} (h : n < 2 ^ 64) : (lN n).toBitVec.toNat = n := by rw [wb_tb, BitVec.toNat_ofNat, Nat.mod_eq_of_lt h]
theorem wb_of (x : Int64) : ∃ n, n < 2 ^ 64 ∧ x = lN n := ⟨x.toBitVec.toNat, x.toBitVec.isLt, wb_inj (by rw [wb_tb]; simp)⟩
theorem wb_of32 (x : Int32) : ∃ n, n < 2 ^ 32 ∧ x = nI n := ⟨x.toBitVec.toNat, x.toBitVec.isLt, Int32.toBitVec_inj.mp (by show _ = BitVec.ofNat 32 _; simp)⟩
theorem wb_c : ∀ k, k < 64 → ((nI k).toInt64 &&& 63) = lN k := by decide +kernel
theorem wb_cu : ∀ k, k < 64 → ((nI k).toInt64.toUInt64 &&& Int64.toUInt64 63) = UInt64.ofNat k := by decide +kernel
theorem wb_sm : ∀ k, k < 64 → (BitVec.ofNat 64 k).smod 64 = BitVec.ofNat 64 k := by decide +kernel
theorem wb_pw {a b : Nat} (h : a ≤ b) : 2 ^ b = 2 ^ a * 2 ^ (b - a) := by rw [← Nat.pow_add]; congr 1; omega
theorem wb_lt2 {a b : Nat} (h : a < b) : 2 ^ a < 2 ^ b := Nat.pow_lt_pow_right (by decide) h
theorem wb_mod (n : Nat) : lN n = lN (n % 2 ^ 64) := wb_inj (by rw [wb_tb, wb_tb]; apply BitVec.eq_of_toNat_eq; rw [BitVec.toNat_ofNat, BitVec.toNat_ofNat, Nat.mod_mod])
theorem wb_shr {n k : Nat} (hn : n < 2 ^ 64) (hk : k < 64) : ((lN n).toUInt64 >>> ((nI k).toInt64.toUInt64 &&& Int64.toUInt64 63)).toInt64 = lN (n / 2 ^ k) := by
  rw [wb_cu k hk]
  apply wb_inj
  apply BitVec.eq_of_toNat_eq
  show ((lN n).toUInt64 >>> UInt64.ofNat k).toNat = (BitVec.ofNat 64 _).toNat
  have h1 : (UInt64.ofNat k).toNat = k := by
    show (BitVec.ofNat 64 k).toNat = k
    rw [BitVec.toNat_ofNat, Nat.mod_eq_of_lt (by omega)]
  have h2 : (lN n).toUInt64.toNat = n := wb_tn hn
  rw [UInt64.toNat_shiftRight, h1, h2, Nat.mod_eq_of_lt hk, Nat.shiftRight_eq_div_pow, BitVec.toNat_ofNat, Nat.mod_eq_of_lt (Nat.lt_of_le_of_lt (Nat.div_le_self _ _) hn)]
theorem wb_shl (n : Nat) {k : Nat} (hk : k < 64) : lN n <<< ((nI k).toInt64 &&& 63) = lN (n * 2 ^ k) := by
  rw [wb_c k hk]
  apply wb_inj
  rw [Int64.toBitVec_shiftLeft, wb_tb, wb_tb, wb_tb, wb_sm k hk]
  apply BitVec.eq_of_toNat_eq
  rw [BitVec.shiftLeft_eq', BitVec.toNat_shiftLeft, BitVec.toNat_ofNat, BitVec.toNat_ofNat, BitVec.toNat_ofNat, Nat.mod_eq_of_lt (show k < 2 ^ 64 by omega), Nat.shiftLeft_eq, Nat.mul_mod, Nat.mod_mod, ← Nat.mul_mod]
theorem wb_and {a b : Nat} (ha : a < 2 ^ 64) (hb : b < 2 ^ 64) : lN a &&& lN b = lN (a &&& b) := by
  apply wb_inj
  rw [Int64.toBitVec_and, wb_tb, wb_tb, wb_tb]
  apply BitVec.eq_of_toNat_eq
  rw [BitVec.toNat_and, BitVec.toNat_ofNat, BitVec.toNat_ofNat, BitVec.toNat_ofNat, Nat.mod_eq_of_lt ha, Nat.mod_eq_of_lt hb, Nat.mod_eq_of_lt (Nat.and_lt_two_pow _ hb)]
theorem wb_or {a b : Nat} (ha : a < 2 ^ 64) (hb : b < 2 ^ 64) : lN a ||| lN b = lN (a ||| b) := by
  apply wb_inj
  rw [Int64.toBitVec_or, wb_tb, wb_tb, wb_tb]
  apply BitVec.eq_of_toNat_eq
  rw [BitVec.toNat_or, BitVec.toNat_ofNat, BitVec.toNat_ofNat, BitVec.toNat_ofNat, Nat.mod_eq_of_lt ha, Nat.mod_eq_of_lt hb, Nat.mod_eq_of_lt (Nat.or_lt_two_pow ha hb)]
theorem wb_mask {n k : Nat} (hn : n < 2 ^ 64) (hk : k < 64) : lN n &&& lN (2 ^ k - 1) = lN (n % 2 ^ k) := by
  rw [wb_and hn (by have := wb_lt2 hk; omega), Nat.and_two_pow_sub_one_eq_mod]
theorem wb_a1 {n : Nat} (hn : n < 2 ^ 64) : lN n &&& 1 = lN (n % 2) := wb_mask (k := 1) hn (by decide)
theorem wb_bit {n k : Nat} (hn : n < 2 ^ 64) (hk : k < 64) : ((lN n).toUInt64 >>> ((nI k).toInt64.toUInt64 &&& Int64.toUInt64 63)).toInt64 &&& 1 = lN (n / 2 ^ k % 2) := by
  rw [wb_shr hn hk, wb_a1 (Nat.lt_of_le_of_lt (Nat.div_le_self _ _) hn)]
/-! the bits of what is barred -/
theorem bsum_lt (X : Nat → Nat → Bool) : ∀ n, bsum X n < 2 ^ n
  | 0 => (by show 0 < 1; decide)
  | n + 1 => by
    have ih := bsum_lt X n
    rw [Nat.pow_succ]
    simp only [bsum]
    split <;> omega
theorem bsum_tb (X : Nat → Nat → Bool) : ∀ n i, (bsum X n).testBit i = (decide (i < n) && X (i / 14) (i % 14))
  | 0, i => by simp [bsum]
  | n + 1, i => by
    have ih := bsum_tb X n i
    have hb := bsum_lt X n
    simp only [bsum]
    by_cases hX : X (n / 14) (n % 14) = true
    · rw [if_pos hX, Nat.add_comm]
      rcases Nat.lt_trichotomy i n with h | h | h
      · rw [Nat.testBit_two_pow_add_gt h, ih]
        simp [h, Nat.lt_succ_of_lt h]
      · subst h
        rw [Nat.testBit_two_pow_add_eq, ih]
        simp [hX]
      · have h2 : 2 ^ (n + 1) ≤ 2 ^ i := Nat.pow_le_pow_right (by decide) h
        rw [Nat.pow_succ] at h2
        rw [Nat.testBit_lt_two_pow (by omega)]
        simp [show ¬ i < n + 1 by omega]
    · rw [if_neg hX, Nat.add_zero, ih]
      rcases Nat.lt_trichotomy i n with h | h | h
      · simp [h, Nat.lt_succ_of_lt h]
      · subst h
        simp [hX]
      · simp [show ¬ i < n by omega, show ¬ i < n + 1 by omega]
theorem bit_is {X : Nat → Nat → Bool} {k i : Nat} (hk : k < 3) (hi : i < 14) : bsum X 42 / 2 ^ (k * 14 + i) % 2 = if X k i then 1 else 0 := by
  have h := bsum_tb X 42 (k * 14 + i)
  rw [(dv14 hi).1, (dv14 hi).2, show decide (k * 14 + i < 42) = true from decide_eq_true (by omega), Bool.true_and, Nat.testBit_eq_decide_div_mod_eq] at h
  have h2 := Nat.mod_two_eq_zero_or_one (bsum X 42 / 2 ^ (k * 14 + i))
  cases hX : X k i with
  | true => rw [hX] at h; simpa using h
  | false =>
    rw [hX] at h
    have h3 := of_decide_eq_false h
    simp
    omega
def upX (X : Nat → Nat → Bool) (k i : Nat) : Nat → Nat → Bool := fun a b => if a = k ∧ b = i then true else X a b
theorem bb_up {X : Nat → Nat → Bool} {k i : Nat} (hk : k < 3) (hi : i < 14) : bbOf X ||| lN (2 ^ (k * 14 + i)) = bbOf (upX X k i) := by
  unfold bbOf
  have h1 : bsum X 42 < 2 ^ 42 := bsum_lt X 42
  have h2 : 2 ^ (k * 14 + i) < 2 ^ 42 := Nat.pow_lt_pow_right (by decide) (by omega)
  rw [wb_or (by omega) (by omega)]
  congr 1
  apply Nat.eq_of_testBit_eq
  intro j
  rw [Nat.testBit_or, bsum_tb, bsum_tb, Nat.testBit_two_pow]
  unfold upX
  by_cases hj : k * 14 + i = j
  · subst hj
    rw [(dv14 hi).1, (dv14 hi).2]
    simp
    omega
  · have : ¬ (j / 14 = k ∧ j % 14 = i) := by
      intro q
      omega
    rw [if_neg this]
    simp [hj]
theorem bb_or {X : Nat → Nat → Bool} {k i : Nat} (hk : k < 3) (hi : i < 14) : bbOf X ||| ((1 : Int64) <<< ((nI (k * 14 + i)).toInt64 &&& 63)) = bbOf (upX X k i) := by
  rw [show (1 : Int64) = lN 1 from rfl, wb_shl 1 (show k * 14 + i < 64 by omega), Nat.one_mul]
  exact bb_up hk hi
theorem bb_bit {X : Nat → Nat → Bool} {k i : Nat} (hk : k < 3) (hi : i < 14) : ((bbOf X).toUInt64 >>> ((nI (k * 14 + i)).toInt64.toUInt64 &&& Int64.toUInt64 63)).toInt64 &&& 1 = if X k i = true then 1 else 0 := by
  unfold bbOf
  have h1 : bsum X 42 < 2 ^ 42 := bsum_lt X 42
  rw [wb_bit (by omega) (by omega), bit_is hk hi]
  cases X k i <;> rfl
/-! how many are barred: the count of bits of a long, byte by byte -/
def M8 (c : Nat) : Nat → Nat
  | 0 => 0
  | n + 1 => c + 256 * M8 c n
theorem and_byte {a c : Nat} (q r : Nat) (ha : a < 256) (hc : c < 256) : (a + 256 * q) &&& (c + 256 * r) = (a &&& c) + 256 * (q &&& r) := by
  have hac : a &&& c < 2 ^ 8 := Nat.and_lt_two_pow a hc
  apply Nat.eq_of_testBit_eq
  intro j
  rw [Nat.testBit_and, Nat.add_comm a, Nat.add_comm c, Nat.add_comm (a &&& c), show 256 = 2 ^ 8 from rfl, Nat.testBit_two_pow_mul_add _ ha, Nat.testBit_two_pow_mul_add _ hc, Nat.testBit_two_pow_mul_add _ hac]
  split <;> simp
theorem ni_and (a b : Nat) : nI a &&& nI b = nI (a &&& b) := by
  apply Int32.toBitVec_inj.1
  show BitVec.ofNat 32 a &&& BitVec.ofNat 32 b = BitVec.ofNat 32 (a &&& b)
  apply BitVec.eq_of_getLsbD_eq
  intro i hi
  simp [hi]
def h1 (a : Nat) : Nat := a - (a / 2 &&& 85)
def h2 (c : Nat) : Nat := (c &&& 51) + (c / 4 &&& 51)
def h3 (d : Nat) : Nat := (d + d / 16) &&& 15
def pc8 (b : Nat) : Nat := b % 2 + b / 2 % 2 + b / 4 % 2 + b / 8 % 2 + b / 16 % 2 + b / 32 % 2 + b / 64 % 2 + b / 128 % 2
theorem by_1 : ∀ a, a < 256 → (∀ r, r < 2 → (a / 2 + 128 * r) &&& 85 = a / 2 &&& 85) ∧ (a / 2 &&& 85) ≤ a ∧ h1 a < 256 ∧ h2 (h1 a) % 16 ≤ 4 ∧ h2 (h1 a) / 16 ≤ 4 ∧ h3 (h2 (h1 a)) = pc8 a ∧ pc8 a ≤ 8 := by decide +kernel
theorem by_2 : ∀ c, c < 256 → ∀ r, r < 4 → (c / 4 + 64 * r) &&& 51 = c / 4 &&& 51 := by decide +kernel
theorem by_3 : ∀ d, d < 69 → ∀ r, r < 5 → (d + d / 16 + 16 * r) &&& 15 = (d + d / 16) &&& 15 := by decide +kernel
def S1 (m n : Nat) : Nat := n - (n / 2 &&& M8 85 m)
def S2 (m n : Nat) : Nat := (n &&& M8 51 m) + (n / 4 &&& M8 51 m)
def S3 (m n : Nat) : Nat := (n + n / 16) &&& M8 15 m
theorem S1_s {a q m : Nat} (ha : a < 256) : S1 (m + 1) (a + 256 * q) = h1 a + 256 * S1 m q := by
  obtain ⟨b1, b2, -⟩ := by_1 a ha
  have e : (a + 256 * q) / 2 = (a / 2 + 128 * (q % 2)) + 256 * (q / 2) := by omega
  have hle : (q / 2 &&& M8 85 m) ≤ q := Nat.le_trans Nat.and_le_left (Nat.div_le_self q 2)
  unfold S1 h1
  rw [M8, e, and_byte _ _ (by omega) (by decide), b1 _ (Nat.mod_lt _ (by decide))]
  omega
theorem S2_s {c q m : Nat} (hc : c < 256) : S2 (m + 1) (c + 256 * q) = h2 c + 256 * S2 m q := by
  have e : (c + 256 * q) / 4 = (c / 4 + 64 * (q % 4)) + 256 * (q / 4) := by omega
  unfold S2 h2
  rw [M8, e, and_byte _ _ hc (by decide), and_byte _ _ (by omega) (by decide), by_2 c hc _ (Nat.mod_lt _ (by decide))]
  omega
theorem S3_s {d q m : Nat} (hd : d < 69) (hq : q % 16 < 5) : S3 (m + 1) (d + 256 * q) = h3 d + 256 * S3 m q := by
  have e : (d + 256 * q) + (d + 256 * q) / 16 = (d + d / 16 + 16 * (q % 16)) + 256 * (q + q / 16) := by omega
  unfold S3 h3
  rw [M8, e, and_byte _ _ (by omega) (by decide), by_3 d hd _ hq]
theorem swar6 {a b c d e f : Nat} (ha : a < 256) (hb : b < 256) (hc : c < 256) (hd : d < 256) (he : e < 256) (hf : f < 256) :
    S3 8 (S2 8 (S1 8 (a + 256 * (b + 256 * (c + 256 * (d + 256 * (e + 256 * (f + 256 * 0)))))))) = pc8 a + 256 * (pc8 b + 256 * (pc8 c + 256 * (pc8 d + 256 * (pc8 e + 256 * (pc8 f + 256 * 0))))) := by
  obtain ⟨-, -, a3, a4, a5, a6, -⟩ := by_1 a ha
  obtain ⟨-, -, b3, b4, b5, b6, -⟩ := by_1 b hb
  obtain ⟨-, -, c3, c4, c5, c6, -⟩ := by_1 c hc
  obtain ⟨-, -, d3, d4, d5, d6, -⟩ := by_1 d hd
  obtain ⟨-, -, e3, e4, e5, e6, -⟩ := by_1 e he
  obtain ⟨-, -, f3, f4, f5, f6, -⟩ := by_1 f hf
  have z1 : S1 2 0 = 0 := by decide
  have z2 : S2 2 0 = 0 := by decide
  have z3 : S3 2 0 = 0 := by decide
  rw [S1_s ha, S1_s hb, S1_s hc, S1_s hd, S1_s he, S1_s hf, z1]
  rw [S2_s a3, S2_s b3, S2_s c3, S2_s d3, S2_s e3, S2_s f3, z2]
  rw [S3_s (by omega) (by omega), S3_s (by omega) (by omega), S3_s (by omega) (by omega), S3_s (by omega) (by omega), S3_s (by omega) (by omega), S3_s (by omega) (by omega), z3]
  rw [a6, b6, c6, d6, e6, f6]
/-- m bits from the k-th on -/
def bs (X : Nat → Nat → Bool) (k : Nat) : Nat → Nat
  | 0 => 0
  | m + 1 => bs X k m + (if X ((k + m) / 14) ((k + m) % 14) then 2 ^ m else 0)
theorem bs_0 (X : Nat → Nat → Bool) : ∀ n, bsum X n = bs X 0 n
  | 0 => rfl
  | n + 1 => by simp only [bsum, bs, bs_0 X n, Nat.zero_add]
theorem bs_split (X : Nat → Nat → Bool) (k : Nat) : ∀ m, bs X k (8 + m) = bs X k 8 + 256 * bs X (k + 8) m
  | 0 => rfl
  | m + 1 => by
    have e : k + (8 + m) = k + 8 + m := by omega
    have e2 : 2 ^ (8 + m) = 256 * 2 ^ m := by rw [Nat.pow_add]
    show bs X k (8 + m) + (if X ((k + (8 + m)) / 14) ((k + (8 + m)) % 14) then 2 ^ (8 + m) else 0) = bs X k 8 + 256 * (bs X (k + 8) m + (if X ((k + 8 + m) / 14) ((k + 8 + m) % 14) then 2 ^ m else 0))
    rw [bs_split X k m, e, e2]
    split <;> omega
def cb (X : Nat → Nat → Bool) (j : Nat) : Bool := X (j / 14) (j % 14)
theorem cnt_split (p : Nat → Bool) (a : Nat) : ∀ b, cnt p (a + b) = cnt p a + cnt (fun j => p (a + j)) b
  | 0 => rfl
  | b + 1 => by
    have h := cnt_split p a b
    show cnt p (a + b) + (if p (a + b) then 1 else 0) = cnt p a + (cnt (fun j => p (a + j)) b + (if p (a + b) then 1 else 0))
    omega
theorem byte_in (X : Nat → Nat → Bool) (k : Nat) : ∀ m, bs X k m < 2 ^ m
  | 0 => (by show 0 < 1; decide)
  | m + 1 => by
    have ih := byte_in X k m
    rw [Nat.pow_succ]
    simp only [bs]
    split <;> omega
theorem by_8 : ∀ u0 u1 u2 u3 u4 u5 u6 u7 : Fin 2, pc8 (u0.val + 2 * u1.val + 4 * u2.val + 8 * u3.val + 16 * u4.val + 32 * u5.val + 64 * u6.val + 128 * u7.val) = u0.val + u1.val + u2.val + u3.val + u4.val + u5.val + u6.val + u7.val := by decide +kernel
theorem byte_pc (X : Nat → Nat → Bool) (k : Nat) : pc8 (bs X k 8) = cnt (fun j => cb X (k + j)) 8 := by
  have hu : ∀ j, ∃ u, u ≤ 1 ∧ (if cb X (k + j) = true then 1 else 0) = u ∧ ∀ c, (if cb X (k + j) = true then c else 0) = u * c := by
    intro j
    cases cb X (k + j)
    · exact ⟨0, by decide, rfl, fun c => by simp⟩
    · exact ⟨1, by decide, rfl, fun c => by simp⟩
  obtain ⟨u0, l0, a0, b0⟩ := hu 0
  obtain ⟨u1, l1, a1, b1⟩ := hu 1
  obtain ⟨u2, l2, a2, b2⟩ := hu 2
  obtain ⟨u3, l3, a3, b3⟩ := hu 3
  obtain ⟨u4, l4, a4, b4⟩ := hu 4
  obtain ⟨u5, l5, a5, b5⟩ := hu 5
  obtain ⟨u6, l6, a6, b6⟩ := hu 6
  obtain ⟨u7, l7, a7, b7⟩ := hu 7
  have e1 : bs X k 8 = u0 + 2 * u1 + 4 * u2 + 8 * u3 + 16 * u4 + 32 * u5 + 64 * u6 + 128 * u7 := by
    show ((((((((0 + (if cb X (k + 0) = true then 2 ^ 0 else 0)) + (if cb X (k + 1) = true then 2 ^ 1 else 0)) + (if cb X (k + 2) = true then 2 ^ 2 else 0)) + (if cb X (k + 3) = true then 2 ^ 3 else 0)) + (if cb X (k + 4) = true then 2 ^ 4 else 0)) + (if cb X (k + 5) = true then 2 ^ 5 else 0)) + (if cb X (k + 6) = true then 2 ^ 6 else 0)) + (if cb X (k + 7) = true then 2 ^ 7 else 0)) = _
    rw [b0, b1, b2, b3, b4, b5, b6, b7]
    omega
  have e2 : cnt (fun j => cb X (k + j)) 8 = u0 + u1 + u2 + u3 + u4 + u5 + u6 + u7 := by
    show ((((((((0 + (if cb X (k + 0) = true then 1 else 0)) + (if cb X (k + 1) = true then 1 else 0)) + (if cb X (k + 2) = true then 1 else 0)) + (if cb X (k + 3) = true then 1 else 0)) + (if cb X (k + 4) = true then 1 else 0)) + (if cb X (k + 5) = true then 1 else 0)) + (if cb X (k + 6) = true then 1 else 0)) + (if cb X (k + 7) = true then 1 else 0)) = _
    rw [a0, a1, a2, a3, a4, a5, a6, a7]
    omega
  rw [e1, e2]
  exact by_8 ⟨u0, by omega⟩ ⟨u1, by omega⟩ ⟨u2, by omega⟩ ⟨u3, by omega⟩ ⟨u4, by omega⟩ ⟨u5, by omega⟩ ⟨u6, by omega⟩ ⟨u7, by omega⟩
end
section
theorem by_2b : ∀ u0 u1 : Fin 2, pc8 (u0.val + 2 * u1.val) = u0.val + u1.val := by decide +kernel
theorem pc2 (X : Nat → Nat → Bool) (k : Nat) : pc8 (bs X k 2) = cnt (fun j => cb X (k + j)) 2 := by
  have hu : ∀ j, ∃ u, u ≤ 1 ∧ (if cb X (k + j) = true then 1 else 0) = u ∧ ∀ c, (if cb X (k + j) = true then c else 0) = u * c := by
    intro j
    cases cb X (k + j)
    · exact ⟨0, by decide, rfl, fun c => by simp⟩
    · exact ⟨1, by decide, rfl, fun c => by simp⟩
  obtain ⟨u0, l0, a0, b0⟩ := hu 0
  obtain ⟨u1, l1, a1, b1⟩ := hu 1
  have e1 : bs X k 2 = u0 + 2 * u1 := by
    show ((0 + (if cb X (k + 0) = true then 2 ^ 0 else 0)) + (if cb X (k + 1) = true then 2 ^ 1 else 0)) = _
    rw [b0, b1]
    omega
  have e2 : cnt (fun j => cb X (k + j)) 2 = u0 + u1 := by
    show ((0 + (if cb X (k + 0) = true then 1 else 0)) + (if cb X (k + 1) = true then 1 else 0)) = _
    rw [a0, a1]
    omega
  rw [e1, e2]
  exact by_2b ⟨u0, by omega⟩ ⟨u1, by omega⟩
theorem fold6 {a b c d e f : Nat} (ha : a ≤ 8) (hb : b ≤ 8) (hc : c ≤ 8) (hd : d ≤ 8) (he : e ≤ 8) (hf : f ≤ 8) (x y z : Nat) (hx : x = a + 256 * (b + 256 * (c + 256 * (d + 256 * (e + 256 * (f + 256 * 0)))))) (hy : y = x + x / 256) (hz : z = y + y / 65536) : (z + z / 4294967296) % 128 = a + b + c + d + e + f := by
  have h1 : x / 256 = b + 256 * (c + 256 * (d + 256 * (e + 256 * f))) := by omega
  have h2 : y = (a + b) + 256 * ((b + c) + 256 * ((c + d) + 256 * ((d + e) + 256 * ((e + f) + 256 * f)))) := by omega
  have h3 : y / 65536 = (c + d) + 256 * ((d + e) + 256 * ((e + f) + 256 * f)) := by omega
  have h4 : z = (a + b + c + d) + 256 * ((b + c + d + e) + 256 * ((c + d + e + f) + 256 * ((d + e + f) + 256 * ((e + f) + 256 * f)))) := by omega
  have h5 : z / 4294967296 = (e + f) + 256 * f := by omega
  omega
theorem bcount (X : Nat → Nat → Bool) (x y z : Nat) (hx : x = S3 8 (S2 8 (S1 8 (bsum X 42)))) (hy : y = x + x / 256) (hz : z = y + y / 65536) : (z + z / 4294967296) &&& 127 = cnt (cb X) 42 := by
  have k0 := byte_in X 0 8
  have k1 := byte_in X 8 8
  have k2 := byte_in X 16 8
  have k3 := byte_in X 24 8
  have k4 := byte_in X 32 8
  have k5 := byte_in X 40 2
  have e0 : bsum X 42 = bs X 0 8 + 256 * (bs X 8 8 + 256 * (bs X 16 8 + 256 * (bs X 24 8 + 256 * (bs X 32 8 + 256 * (bs X 40 2 + 256 * 0))))) := by
    rw [bs_0 X 42, show 42 = 8 + 34 from rfl, bs_split X 0 34, show 34 = 8 + 26 from rfl, bs_split X (0 + 8) 26, show 26 = 8 + 18 from rfl, bs_split X (0 + 8 + 8) 18, show 18 = 8 + 10 from rfl, bs_split X (0 + 8 + 8 + 8) 10, show 10 = 8 + 2 from rfl, bs_split X (0 + 8 + 8 + 8 + 8) 2]
    rfl
  have e1 : cnt (cb X) 42 = cnt (fun j => cb X (0 + j)) 8 + (cnt (fun j => cb X (8 + j)) 8 + (cnt (fun j => cb X (16 + j)) 8 + (cnt (fun j => cb X (24 + j)) 8 + (cnt (fun j => cb X (32 + j)) 8 + cnt (fun j => cb X (40 + j)) 2)))) := by
    have c1 := cnt_split (cb X) 40 2
    have c2 := cnt_split (cb X) 32 8
    have c3 := cnt_split (cb X) 24 8
    have c4 := cnt_split (cb X) 16 8
    have c5 := cnt_split (cb X) 8 8
    have c6 : cnt (fun j => cb X (0 + j)) 8 = cnt (cb X) 8 := by simp only [Nat.zero_add]
    have c1 : cnt (cb X) 42 = _ := c1
    have c2 : cnt (cb X) 40 = _ := c2
    have c3 : cnt (cb X) 32 = _ := c3
    have c4 : cnt (cb X) 24 = _ := c4
    have c5 : cnt (cb X) 16 = _ := c5
    omega
  have hx2 := hx
  rw [e0, swar6 (by omega) (by omega) (by omega) (by omega) (by omega) (by omega)] at hx2
  have p0 := (by_1 _ (show bs X 0 8 < 256 from k0)).2.2.2.2.2.2
  have p1 := (by_1 _ (show bs X 8 8 < 256 from k1)).2.2.2.2.2.2
  have p2 := (by_1 _ (show bs X 16 8 < 256 from k2)).2.2.2.2.2.2
  have p3 := (by_1 _ (show bs X 24 8 < 256 from k3)).2.2.2.2.2.2
  have p4 := (by_1 _ (show bs X 32 8 < 256 from k4)).2.2.2.2.2.2
  have p5 := (by_1 _ (show bs X 40 2 < 256 by omega)).2.2.2.2.2.2
  rw [show 127 = 2 ^ 7 - 1 from rfl, Nat.and_two_pow_sub_one_eq_mod]
  have h := fold6 p0 p1 p2 p3 p4 p5 x y z hx2 hy hz
  have h : (z + z / 4294967296) % 2 ^ 7 = _ := h
  rw [h, byte_pc, byte_pc, byte_pc, byte_pc, byte_pc, pc2, e1]
  omega
theorem bt1 {n : Nat} : lN n - lN (n / 2 &&& 6148914691236517205) = lN (S1 8 n) := by
  rw [lN_sub (Nat.le_trans Nat.and_le_left (Nat.div_le_self _ _))]
  unfold S1
  rw [show M8 85 8 = 6148914691236517205 from by decide]
theorem bt2 {x : Nat} : lN (x &&& 3689348814741910323) + lN (x / 4 &&& 3689348814741910323) = lN (S2 8 x) := by
  rw [lN_add]
  unfold S2
  rw [show M8 51 8 = 3689348814741910323 from by decide]
theorem bt3 {x : Nat} (h : x + x / 16 < 2 ^ 64) : lN (x + x / 16) &&& lN 1085102592571150095 = lN (S3 8 x) := by
  rw [wb_and h (by decide)]
  unfold S3
  rw [show M8 15 8 = 1085102592571150095 from by decide]
theorem S1_lt {n : Nat} (h : n < 2 ^ 42) : S1 8 n < 2 ^ 42 := Nat.lt_of_le_of_lt (Nat.sub_le _ _) h
theorem S2_lt {n : Nat} (h : n < 2 ^ 42) : S2 8 n < 2 ^ 43 := by
  have h1 : n &&& M8 51 8 ≤ n := Nat.and_le_left
  have h2 : n / 4 &&& M8 51 8 ≤ n / 4 := Nat.and_le_left
  unfold S2
  omega
theorem S3_lt {n : Nat} (h : n < 2 ^ 43) : S3 8 n < 2 ^ 44 := by
  have h1 : (n + n / 16) &&& M8 15 8 ≤ n + n / 16 := Nat.and_le_left
  unfold S3
  omega
/-! how many in the reference's row -/
theorem cnt_cong {p q : Nat → Bool} : ∀ {n : Nat}, (∀ k, k < n → p k = q k) → cnt p n = cnt q n
  | 0, _ => rfl
  | n + 1, h => by simp only [cnt]; rw [cnt_cong (fun k hk => h k (Nat.lt_succ_of_lt hk)), h n (Nat.lt_succ_self n)]
theorem cnt48 {X : Nat → Nat → Bool} (hX : ∀ k i, 14 ≤ i → X k i = false) : cnt (fun j => X (j / 16) (j % 16)) 48 = cnt (cb X) 42 := by
  have row : ∀ k, cnt (fun i => X k i) 16 = cnt (fun i => X k i) 14 := by
    intro k
    rw [cnt_no (p := fun i => X k i) (n := 15) (hX k 15 (by decide)), cnt_no (p := fun i => X k i) (n := 14) (hX k 14 (by decide))]
  have a1 := cnt_split (fun j => X (j / 16) (j % 16)) 32 16
  have a2 := cnt_split (fun j => X (j / 16) (j % 16)) 16 16
  have a1 : cnt (fun j => X (j / 16) (j % 16)) 48 = _ := a1
  have a2 : cnt (fun j => X (j / 16) (j % 16)) 32 = _ := a2
  have b1 := cnt_split (cb X) 28 14
  have b2 := cnt_split (cb X) 14 14
  have b1 : cnt (cb X) 42 = _ := b1
  have b2 : cnt (cb X) 28 = _ := b2
  have r0 : cnt (fun j => X (j / 16) (j % 16)) 16 = cnt (fun i => X 0 i) 16 := cnt_cong (fun k hk => by rw [show k / 16 = 0 by omega, show k % 16 = k by omega])
  have r1 : cnt (fun j => X ((16 + j) / 16) ((16 + j) % 16)) 16 = cnt (fun i => X 1 i) 16 := cnt_cong (fun k hk => by rw [show (16 + k) / 16 = 1 by omega, show (16 + k) % 16 = k by omega])
  have r2 : cnt (fun j => X ((32 + j) / 16) ((32 + j) % 16)) 16 = cnt (fun i => X 2 i) 16 := cnt_cong (fun k hk => by rw [show (32 + k) / 16 = 2 by omega, show (32 + k) % 16 = k by omega])
  have q0 : cnt (cb X) 14 = cnt (fun i => X 0 i) 14 := cnt_cong (fun k hk => by unfold cb; rw [show k / 14 = 0 by omega, show k % 14 = k by omega])
  have q1 : cnt (fun j => cb X (14 + j)) 14 = cnt (fun i => X 1 i) 14 := cnt_cong (fun k hk => by unfold cb; rw [show (14 + k) / 14 = 1 by omega, show (14 + k) % 14 = k by omega])
  have q2 : cnt (fun j => cb X (28 + j)) 14 = cnt (fun i => X 2 i) 14 := cnt_cong (fun k hk => by unfold cb; rw [show (28 + k) / 14 = 2 by omega, show (28 + k) % 14 = k by omega])
  have z0 := row 0
  have z1 := row 1
  have z2 := row 2
  omega
end
section
/-! the answers of the calls that only read -/
def cl (x : Int32) : Nat := x.toNatClampNeg
theorem cl_nI {n : Nat} (h : n < 2 ^ 31) : cl (nI n) = n := nI_clamp h
def fAt (A : St) (f t w : Nat) : Int32 := if w = 0 then sB A (f * 8 + t) else if w = 1 then fS A f t else fbg A (fpe A) f t
def aAt (A : St) (x y w : Int32) : Int32 := if (iN x (sF A) ∧ iN y (sT A)) ∧ iN w 3 then fAt A (cl x) (cl y) (cl w) else -1
abbrev pNu (A : St) (x o y : Int32) : Prop := iN x (sK A) ∧ (nI 0 ≤ o ∧ o ≤ nI 1) ∧ iN y (if o = 0 then sF A else sT A)
def aNu (A : St) (x o y : Int32) : Int32 := if pNu A x o y then sV A (cl x) (qi (cl o) (cl y)) else -1
def aSh (A : St) (x y z : Int32) : Int32 := if iN x (sK A) ∧ (iN y (sF A) ∧ iN z (sT A)) then fsh A (cl x) (cl y) (cl z) else -1
def aBg (A : St) (q x y : Int32) : Int32 := if (nI 1 ≤ q ∧ q ≤ nI (sT A)) ∧ (iN x (sF A) ∧ iN y (sT A)) then fbg A (cl q) (cl x) (cl y) else -1
/-- -7 .. 7 -/
def dI (i : Nat) : Int32 := nI i - nI 7
def flb (A : St) : Nat → Nat
  | 0 => 0
  | i + 1 => if fpd A (dI (flb A i)) < fpd A (dI (i + 1)) ∨ (fpd A (dI (i + 1)) = fpd A (dI (flb A i)) ∧ fab (dI (i + 1)) < fab (dI (flb A i))) then i + 1 else flb A i
def aLa (A : St) : Int32 := if sZ A 0 = 0 ∨ sZ A 1 = 0 then -9 else dI (flb A 14)
def aTu (A : St) (k w : Int32) : Int32 := if iN k 8 ∧ iN w 2 then (if cl w = 0 then ftu A (cl k) else fba A (cl k)) else -1000000
def aAp (A : St) (o : Int32) : Int32 := if iN o (fno (sK A)) then fap A (cl o) else -1
def aOr (A : St) : Int32 := nI (fle (fap A) (fno (sK A) - 1))
def fCo (A : St) (w : Nat) : Int32 := if w = 0 then nI (sF A) else if w = 1 then nI (sT A) else if w = 2 then nI (sK A) else if w = 3 then nI (sJ A) else if w = 4 then nI (cnt (cb (sX A)) 42) else if w = 5 then nI (sZ A 0) else if w = 6 then nI (sZ A 1) else sN A
def aCo (A : St) (w : Int32) : Int32 := if iN w 8 then fCo A (cl w) else -1
theorem dI_s (i : Nat) : dI i + Int32.ofInt 1 = dI (i + 1) := by
  unfold dI
  rw [nI_succ i, show Int32.ofInt 1 = (1 : Int32) from rfl]
  generalize nI 7 = z
  generalize nI i = y
  grind
theorem dI_le {i : Nat} (h : i ≤ 14) : ¬ nI 7 < dI i := (show ∀ i : Fin 15, ¬ nI 7 < dI i.val by decide +kernel) ⟨i, by omega⟩
theorem iN_out {w : Int32} {n : Nat} (h : ¬ iN w n) (h1 : 1 ≤ n) (hn : n < 2 ^ 31) : w.toInt < 0 ∨ (n : Int) - 1 < w.toInt := by
  rcases Int.lt_or_le w.toInt 0 with q | q
  · exact Or.inl q
  · refine Or.inr ?_
    rcases Int.lt_or_le ((n : Int) - 1) w.toInt with z | z
    · exact z
    · refine absurd ⟨Int32.le_iff_toInt_le.mpr ?_, Int32.le_iff_toInt_le.mpr ?_⟩ h
      · rw [nI_toInt (by omega)]; omega
      · rw [nI_toInt (by omega)]; omega
theorem of01 {o : Int32} (h : nI 0 ≤ o ∧ o ≤ nI 1) : o = nI 0 ∨ o = nI 1 := by
  obtain ⟨j, hj, e⟩ := iN_of (n := 2) h (by decide) (by decide)
  rcases (show j = 0 ∨ j = 1 by omega) with rfl | rfl
  · exact Or.inl e
  · exact Or.inr e
theorem q1_of {q : Int32} {n : Nat} (h : nI 1 ≤ q ∧ q ≤ nI n) (hn : n < 2 ^ 31 - 1) : ∃ j : Nat, (1 ≤ j ∧ j ≤ n) ∧ q = nI j := by
  have h0 : nI 0 ≤ q := Int32.le_trans (by decide) h.1
  obtain ⟨j, hj, e⟩ := iN_of (n := n + 1) ⟨h0, h.2⟩ (by omega) (by omega)
  subst e
  have h1 := (nI_leI (a := 1) (by decide) (by omega)).mp h.1
  exact ⟨j, ⟨h1, by omega⟩, rfl⟩
end
section
/-! contracts of methods that write: the world w0 becomes w1, at the same addresses; nothing else changes -/
def adrs (w : va_W) : List Nat := w.map (fun q => q.1)
theorem adr_at {w : va_W} {k : Nat} {q : Nat × va_E} (h : w[k]? = some q) : q.1 ∈ adrs w := List.mem_map_of_mem (List.mem_of_getElem? h)
theorem va_D.same {G : Nat → Prop} {w0 w1 : va_W} (e : adrs w1 = adrs w0) (h : va_D G w0) : va_D G w1 := by
  have key : ∀ (k : Nat) (q : Nat × va_E), w1[k]? = some q → ∃ q0, w0[k]? = some q0 ∧ q0.1 = q.1 := by
    intro k q hk
    have h1 : (w1.map (fun q => q.1))[k]? = some q.1 := by rw [List.getElem?_map, hk]; rfl
    have e : w1.map (fun q => q.1) = w0.map (fun q => q.1) := e
    rw [e, List.getElem?_map] at h1
    cases h2 : w0[k]? with
    | none => rw [h2] at h1; cases h1
    | some q0 => rw [h2] at h1; exact ⟨q0, rfl, Option.some.inj h1⟩
  refine ⟨fun i j p q hi hj hpq => ?_, fun k q hk => ?_⟩
  · obtain ⟨p0, a1, a2⟩ := key i p hi
    obtain ⟨q0, b1, b2⟩ := key j q hj
    exact h.1 i j p0 q0 a1 b1 (a2.trans (hpq.trans b2.symm))
  · obtain ⟨q0, b1, b2⟩ := key k q hk
    rw [← b2]; exact h.2 k q0 b1
theorem va_D.to {G : Nat → Prop} {w0 w1 : va_W} (h : va_D G w0) (e : adrs w1 = adrs w0) : va_D G w1 := va_D.same e h
theorem va_D.mem {G : Nat → Prop} {w : va_W} (h : va_D G w) : ∀ q, q ∈ adrs w → G q := by
  intro q hq
  obtain ⟨x, hx, rfl⟩ := List.mem_map.mp hq
  obtain ⟨k, hk⟩ := List.getElem?_of_mem hx
  exact h.2 k x hk
theorem va_P.off {D : va_G} {cl : List vw_C} {w : va_W} {H H1 : Heap} {Z : List Nat} (h : va_P D cl w H) (hd : ∀ q, q ∈ adrs w → q ∉ Z) (hk : ∀ q : Nat, q < H.size → q ∉ Z → H1[q]? = H[q]?) : va_P D cl w H1 := fun k q hq => (h k q hq).kept (hk q.1 (h k q hq).lt (hd q.1 (adr_at hq)))
theorem va_P.put1 {D : va_G} {cl : List vw_C} {G : Nat → Prop} {p : Nat} {ws : va_W} {a : Nat} {e0 e : va_E} {H H1 : Heap} (h : va_P D cl ws H) (hD : va_D G ws) (hp : ws[p]? = some (a, e0)) (he : va_at D cl (a, e) H1) (oq : ∀ q : Nat, q < H.size → q ∉ [a] → H1[q]? = H[q]?) : va_P D cl (ws.set p (a, e)) H1 := by
  have hl := (List.getElem?_eq_some_iff.mp hp).1
  intro k q hk
  by_cases hkp : k = p
  · subst hkp
    rw [List.getElem?_set_self hl] at hk
    cases hk
    exact he
  · rw [List.getElem?_set_ne (Ne.symm hkp)] at hk
    exact (h k q hk).kept (oq q.1 (h k q hk).lt (fun z => hkp (hD.1 k p q (a, e0) hk hp (by simpa using z))))
def mQ (D : va_G) (w0 w1 : va_W) (v : Option Value) : Array Value → State → Outcome → State → Prop := fun _ st oc t => oc = .returned v ∧ va_P D vwCl w1 t.heap ∧ va_F (fun q => q ∈ adrs w0) st t
def mB (D : va_G) (tys : List (ClassId × FieldType)) (w0 : va_W) (U : State) : Prop := vB D w0 tys U ∧ va_D (fun _ => True) w0
def MU (l : Launch) (y : MethodName) (ws : List Cond) (rm : Room) (av : List Value) (D : va_G) (tys : List (ClassId × FieldType)) (w0 w1 : va_W) (v : Option Value) : Prop := Met l y ws rm (va_Pc av (mB D tys w0)) (mQ D w0 w1 v) 0 0 (fun q => q ∈ adrs w0)
theorem mB_bl {D : va_G} {tys : List (ClassId × FieldType)} {w0 : va_W} : ∀ (a : Array Value) (U : State) (g : JFrame) (mk : MethodId), mB D tys w0 U → mB D tys w0 (U.calling g mk a) := fun a U g mk q => ⟨vB_bl a U g mk q.1, q.2⟩
theorem va_D.self2 {w : va_W} (h : va_D (fun _ => True) w) : va_D (fun q => q ∈ adrs w) w := ⟨h.1, fun _ _ hk => adr_at hk⟩
theorem va_D.any {G : Nat → Prop} {w : va_W} (h : va_D G w) : va_D (fun _ => True) w := ⟨h.1, fun _ _ _ => trivial⟩
theorem mu_ofW {l : Launch} {y : MethodName} {ws ws' : List Cond} {rm : Room} {av : List Value} {D : va_G} {tys : List (ClassId × FieldType)} {w0 w1 : va_W} {r : Int32} {cc : ByteArray} {maxL : Nat} (hy : plainName y.cls = true) (hw : ws = Cond.code y cc maxL (some .int) :: ws') (hlen : (lg_sl av).length ≤ maxL)
    (body : ∀ (p : Program) (e : Env) (s : State) (m : MethodId) (below : List Frame) (meth : Method) (c : Code) (args : Array Value) (Q : State → Prop) (G : Nat → Prop) (H : Heap) (locs : List Loc), p.tables.exec = Jvm.exec → c.code = cc → c.maxLocals = maxL → s.vm.findClass y.cls = some m.cls → (∀ w ∈ ws, w.before args s = true) → va_P D vwCl w0 H → va_K D vwCl tys s → va_D G w0 → va_S G s.heap H locs →
      (∀ {pc : Nat} {ls : Array Slot} {v : Int32} {H : Heap} {locs : List Loc}, decode cc pc = .ok (.ireturn, 1) → v = r → va_P D vwCl w1 H → va_S G s.heap H locs → W p l e rm s m args below meth c H locs 0 0 Q (F0 m pc ls [.int v])) →
      ∀ ls : Array Slot, lv_has ls maxL (lv_args 0 av) → W p l e rm s m args below meth c H locs 0 0 Q (F0 m 0 ls [])) : MU l y ws rm av D tys w0 w1 (some (.int r)) := by
  refine Met.ofW (cc := cc) (maxL := maxL) (ret := some .int) hy hw ?_
  intro p e s m args below meth c s₁ Bd hml hv
  obtain ⟨rfl, ⟨hP, hK⟩, hD⟩ := hv
  have hx := Bd.exec
  have hb := Bd.bytes
  have hr := Bd.returns
  have hts := atoms_spec (ws := ws) Bd.pre
  have hown : s.vm.findClass y.cls = some m.cls := findClass_of_methodNamed Bd.named
  have hlocks := Bd.notSynchronized
  have hl := lv_entry av (n := maxL) hlen
  rw [lg_entry_eq]
  exact body p e s m below meth c _ _ (fun q => q ∈ adrs w0) s.heap [] hx hb hml hown hts hP hK hD.self2 va_S.rf (fun {pc ls v H locs} hd hv hP1 hS => W.iret hx hb hr (fun t ht _ => ⟨by rw [hv], by rw [ht]; exact hP1, hS.F ht⟩) hS.2.2 hd) _ hl
theorem mu_ofWv {l : Launch} {y : MethodName} {ws ws' : List Cond} {rm : Room} {av : List Value} {D : va_G} {tys : List (ClassId × FieldType)} {w0 w1 : va_W} {cc : ByteArray} {maxL : Nat} (hy : plainName y.cls = true) (hw : ws = Cond.code y cc maxL none :: ws') (hlen : (lg_sl av).length ≤ maxL)
    (body : ∀ (p : Program) (e : Env) (s : State) (m : MethodId) (below : List Frame) (meth : Method) (c : Code) (args : Array Value) (Q : State → Prop) (G : Nat → Prop) (H : Heap) (locs : List Loc), p.tables.exec = Jvm.exec → c.code = cc → c.maxLocals = maxL → s.vm.findClass y.cls = some m.cls → (∀ w ∈ ws, w.before args s = true) → va_P D vwCl w0 H → va_K D vwCl tys s → va_D G w0 → va_S G s.heap H locs →
      (∀ {pc : Nat} {ls : Array Slot} {H : Heap} {locs : List Loc}, decode cc pc = .ok (.return_, 1) → va_P D vwCl w1 H → va_S G s.heap H locs → W p l e rm s m args below meth c H locs 0 0 Q (F0 m pc ls [])) →
      ∀ ls : Array Slot, lv_has ls maxL (lv_args 0 av) → W p l e rm s m args below meth c H locs 0 0 Q (F0 m 0 ls [])) : MU l y ws rm av D tys w0 w1 none := by
  refine Met.ofW (cc := cc) (maxL := maxL) (ret := none) hy hw ?_
  intro p e s m args below meth c s₁ Bd hml hv
  obtain ⟨rfl, ⟨hP, hK⟩, hD⟩ := hv
  have hx := Bd.exec
  have hb := Bd.bytes
  have hr := Bd.returns
  have hts := atoms_spec (ws := ws) Bd.pre
  have hown : s.vm.findClass y.cls = some m.cls := findClass_of_methodNamed Bd.named
  have hlocks := Bd.notSynchronized
  have hl := lv_entry av (n := maxL) hlen
  rw [lg_entry_eq]
  exact body p e s m below meth c _ _ (fun q => q ∈ adrs w0) s.heap [] hx hb hml hown hts hP hK hD.self2 va_S.rf (fun {pc ls H locs} hd hP1 hS => W.vret hx hb hr (fun t ht _ => ⟨rfl, by rw [ht]; exact hP1, hS.F ht⟩) hS.2.2 hd) _ hl
section MC
variable {p : Program} {l : Launch} {e : Env} {R : Room} {s : State} {m : MethodId} {args : Array Value} {below : List Frame} {meth : Method} {c : Code} {H H0 : Heap} {locs : List Loc} {cells slots : Nat} {Q : State → Prop}
variable {cc bytes : ByteArray} {pc nL maxL n index : Nat} {ls : Array Slot} {rest st0 As : List Value} {Ts wsM : List Cond} {own C : String} {y : MethodName} {ret : Option FieldType} {rm : Room} {b : Addr} {D : va_G} {tys : List (ClassId × FieldType)} {w0 w1 : va_W} {v : Option Value} {G : Nat → Prop}
theorem mu_run {a : Array Value} (hr : va_Run p l e R s m args below meth c H locs cells slots 0 0 (F0 m pc ls st0) rest (mQ D w0 w1 v a) (fun q => q ∈ adrs w0)) (hS : va_S G H0 H locs) (hG : ∀ q, q ∈ adrs w0 → G q)
    (k : ∀ (H1 : Heap) (locs1 : List Loc), va_P D vwCl w1 H1 → va_S G H0 H1 locs1 → (∀ q : Nat, q < H.size → q ∉ adrs w0 → H1[q]? = H[q]?) → W p l e R s m args below meth c H1 locs1 cells slots Q (F0 m (pc + 3) ls (v.toList ++ rest))) : W p l e R s m args below meth c H locs cells slots Q (F0 m pc ls st0) := by
  intro T hT X
  obtain ⟨v', st₀, t, T', L, h0, X', hL, e1, e2, ⟨hv, hp, hz, hk⟩, st⟩ := hr T hT X
  cases hv
  rw [h0] at hz hk
  have hk' : ∀ q : Nat, q < H.size → q ∉ adrs w0 → T'.heap[q]? = H[q]? := fun q h1 h2 => by rw [e1]; exact hk q h1 h2
  obtain ⟨t2, a1, b1⟩ := k T'.heap (locs ++ L) (by rw [e1]; exact hp)
    ⟨Nat.le_trans hS.1 (by rw [e1]; exact hz), fun q h1 h2 => by rw [hk' q (Nat.lt_of_lt_of_le h1 hS.1) (fun z => h2 (hG q z))]; exact hS.2.1 q h1 h2, fun q hq => by
      rcases List.mem_append.mp hq with h | h
      · exact hS.2.2 q h
      · exact hG _ (hL q h)⟩ hk' T' rfl X'
  exact ⟨t2, st t2 a1, b1⟩
theorem mu_callV (S : CallFix p m c cc nL s args Ts own) (hM : MU l y wsM rm (.ref b :: As) D tys w0 w1 v) (cw : CallW R s args own C index y bytes maxL ret wsM rm 0 0 n) (hP : va_P D vwCl w0 H) (hK : va_K D vwCl tys s) (hD : va_D G w0) (hS : va_S G H0 H locs) (hrc : ∃ cellB : Cell, H[b]? = some cellB ∧ cellB.vm.isStatics = false ∧ s.vm.findClass C = some cellB.cls)
    (hn : As.length = n) (hsize : ls.size = nL) (hst : st0 = As.reverse ++ .ref b :: rest) (hroom : (rest.map fun v => v.category).sum ≤ 8) (hdg : decode cc pc = .ok (.invokevirtual index, 3)) (hf : cells + 0 ≤ R.cells ∧ slots + 0 ≤ R.slots)
    (k : ∀ (H1 : Heap) (locs1 : List Loc), va_P D vwCl w1 H1 → va_S G H0 H1 locs1 → (∀ q : Nat, q < H.size → q ∉ adrs w0 → H1[q]? = H[q]?) → W p l e R s m args below meth c H1 locs1 cells slots Q (F0 m (pc + 3) ls (v.toList ++ rest))) : W p l e R s m args below meth c H locs cells slots Q (F0 m pc ls st0) :=
  mu_run (va_runV S hM cw ⟨fun a U g mk q => ⟨q.1, mB_bl a U g mk q.2⟩, hrc, fun U hU hW => ⟨rfl, vB_at hP hK U hU hW, hD.any⟩⟩ rfl hn hsize hst (lv_room (m := m) (pc := pc) (ls := ls) (rest := st0) hroom) hdg hf) hS hD.mem k
theorem mu_callS (S : CallFix p m c cc nL s args Ts own) (hM : MU l y wsM rm As D tys w0 w1 v) (cw : CallB R s args own index y bytes maxL ret wsM rm 0 0 n ∧ (Cond.static y).before args s = true) (hP : va_P D vwCl w0 H) (hK : va_K D vwCl tys s) (hD : va_D G w0) (hS : va_S G H0 H locs)
    (hn : As.length = n) (hsize : ls.size = nL) (hst : st0 = As.reverse ++ rest) (hroom : (rest.map fun v => v.category).sum ≤ 8) (hdg : decode cc pc = .ok (.invokestatic index, 3)) (hf : cells + 0 ≤ R.cells ∧ slots + 0 ≤ R.slots)
    (k : ∀ (H1 : Heap) (locs1 : List Loc), va_P D vwCl w1 H1 → va_S G H0 H1 locs1 → (∀ q : Nat, q < H.size → q ∉ adrs w0 → H1[q]? = H[q]?) → W p l e R s m args below meth c H1 locs1 cells slots Q (F0 m (pc + 3) ls (v.toList ++ rest))) : W p l e R s m args below meth c H locs cells slots Q (F0 m pc ls st0) :=
  mu_run (va_runS S hM cw ⟨fun a U g mk q => ⟨q.1, mB_bl a U g mk q.2⟩, fun U hU hW => ⟨rfl, vB_at hP hK U hU hW, hD.any⟩⟩ rfl hn hsize hst (lv_room (m := m) (pc := pc) (ls := ls) (rest := st0) hroom) hdg hf) hS hD.mem k
end MC
/-! the states that the calls lead to -/
def upV (V : Nat → Nat → Int32) (k i : Nat) (x : Int32) : Nat → Nat → Int32 := fun a b => if a = k ∧ b = i then x else V a b
def upN (Z : Nat → Nat) (k : Nat) (x : Nat) : Nat → Nat := fun a => if a = k then x else Z a
theorem xVup {V : Nat → Nat → Int32} {k i : Nat} {x : Int32} (h : i < 14) : upd (fun j => V (j / 14) (j % 14)) (k * 14 + i) x = fun j => upV V k i x (j / 14) (j % 14) := by
  funext j
  unfold upd upV
  by_cases q : j = k * 14 + i
  · subst q
    rw [if_pos rfl, if_pos (dv14 h)]
  · rw [if_neg q, if_neg (fun z => q (by omega))]
theorem mVup {V : Nat → Nat → Int32} {k i : Nat} {x : Int32} (h : i < 16) : upd (fun j => V (j / 16) (j % 16)) (k * 16 + i) x = fun j => upV V k i x (j / 16) (j % 16) := by
  funext j
  unfold upd upV
  by_cases q : j = k * 16 + i
  · subst q
    rw [if_pos rfl, if_pos (dv16 h)]
  · rw [if_neg q, if_neg (fun z => q (by omega))]
theorem mXup {X : Nat → Nat → Bool} {k i : Nat} (h : i < 16) : upd (fun j => if X (j / 16) (j % 16) then 1 else 0) (k * 16 + i) (nI 1) = fun j => if upX X k i (j / 16) (j % 16) then 1 else 0 := by
  funext j
  unfold upd upX
  by_cases q : j = k * 16 + i
  · subst q
    rw [if_pos rfl, if_pos (dv16 h)]
    rfl
  · have z : ¬ (j / 16 = k ∧ j % 16 = i) := fun z => q (by omega)
    rw [if_neg q, if_neg z]
theorem zup {Z : Nat → Nat} {k x : Nat} : upd (fun j => nI (Z j)) k (nI x) = fun j => nI (upN Z k x j) := by
  funext j
  unfold upd upN
  split <;> rfl
theorem upV_upV (V : Nat → Nat → Int32) (k i : Nat) (x y : Int32) : upV (upV V k i x) k i y = upV V k i y := by
  funext a b
  unfold upV
  split <;> rfl
theorem upV_self {V : Nat → Nat → Int32} {k i : Nat} {x : Int32} (h : V k i = x) : upV V k i x = V := by
  funext a b
  unfold upV
  split
  · next q => rw [q.1, q.2, h]
  · rfl
abbrev p99 (v : Int32) : Prop := nI 0 ≤ v ∧ v ≤ nI 99
abbrev p20 (v : Int32) : Prop := nI 0 ≤ v ∧ v ≤ nI 20
abbrev pSet (A : St) (x y v : Int32) : Prop := (iN x (sF A) ∧ iN y (sT A)) ∧ p99 v
def nSet (A : St) (x y v : Int32) : St := if pSet A x y v then uB A (upd (sB A) (cl x * 8 + cl y) v) else A
def aSet (A : St) (x y v : Int32) : Int32 := if pSet A x y v then sB A (cl x * 8 + cl y) else -1
abbrev pBeg (A : St) (x o y v : Int32) : Prop := pNu A x o y ∧ p20 v
def nBeg (A : St) (x o y v : Int32) : St := if pBeg A x o y v ∧ ¬ sX A (cl x) (qi (cl o) (cl y)) = true then uV A (upV (sV A) (cl x) (qi (cl o) (cl y)) v) else A
def aBeg (A : St) (x o y v : Int32) : Int32 := if pBeg A x o y v then (if sX A (cl x) (qi (cl o) (cl y)) = true then -2 else sV A (cl x) (qi (cl o) (cl y))) else -1
def nBar (A : St) (x o y : Int32) : St := if pNu A x o y ∧ ¬ sX A (cl x) (qi (cl o) (cl y)) = true then uX (uV A (upV (sV A) (cl x) (qi (cl o) (cl y)) (nI 0))) (upX (sX A) (cl x) (qi (cl o) (cl y))) else A
def aBar (A : St) (x o y : Int32) : Int32 := if pNu A x o y then (if sX A (cl x) (qi (cl o) (cl y)) = true then -2 else sV A (cl x) (qi (cl o) (cl y))) else -1
abbrev pJ (x : Int32) : Prop := nI 0 ≤ x ∧ x ≤ nI 2
def nJu (A : St) (x : Int32) : St := if pJ x then uJ A (cl x) else A
def aJu (A : St) (x : Int32) : Int32 := if pJ x then nI (sJ A) else -1
def tk (J : Nat) : Int64 := if J = 0 then 1 else if J = 1 then 11 else 111
abbrev pCs (x d : Int32) : Prop := pJ x ∧ (nI 0 ≤ d ∧ d ≤ nI 2000)
def nCs (A : St) (x d : Int32) : St := if pCs x d then uC A (sC A + tk (cl x)) else A
def aCs (x d : Int32) : Int32 := if pCs x d then fco (cl x) d else -1
abbrev pBd (f t k : Int32) : Prop := (nI 1 ≤ f ∧ f ≤ nI 6) ∧ (nI 1 ≤ t ∧ t ≤ nI 8) ∧ (nI 1 ≤ k ∧ k ≤ nI 3)
def fresh (A : St) (f t k : Nat) : St := mkS f t k (fun _ => nI 0) (fun _ _ => nI 1) (fun _ _ => false) (fun _ => nI 0) (sR A) (sZ A) (sJ A) (sN A) (sC A)
def nBd (A : St) (f t k : Int32) : St := if pBd f t k then fresh A (cl f) (cl t) (cl k) else A
def aBd (f t k : Int32) : Int32 := if pBd f t k then nI (cl f * cl t) else -1
abbrev pRow (r : Int32) : Prop := nI 0 ≤ r ∧ r ≤ nI 1
abbrev pHe (r v : Int32) : Prop := pRow r ∧ ((-1000) ≤ v ∧ v ≤ nI 1000)
def nHe (A : St) (r v : Int32) : St := if pHe r v ∧ sZ A (cl r) < 8 then uZ (uR A (upd (sR A) (cl r * 8 + sZ A (cl r)) v)) (upN (sZ A) (cl r) (sZ A (cl r) + 1)) else A
def aHe (A : St) (r v : Int32) : Int32 := if pHe r v then (if sZ A (cl r) < 8 then nI (sZ A (cl r) + 1) else -3) else -1
def nCl (A : St) (r : Int32) : St := if pRow r then uZ A (upN (sZ A) (cl r) 0) else A
def aCl (A : St) (r : Int32) : Int32 := if pRow r then nI (sZ A (cl r)) else -1
abbrev pTr (A : St) (k x y v : Int32) : Prop := iN k (sK A) ∧ (iN x (sF A) ∧ iN y (sT A)) ∧ p99 v
def nTr (A : St) (k x y v : Int32) : St := if pTr A k x y v then uE A (upd (sE A) (cl k * 48 + (cl x * 8 + cl y)) v) else A
def aTr (A : St) (k x y v : Int32) : Int32 := if pTr A k x y v then sE A (cl k * 48 + (cl x * 8 + cl y)) else -1
/-! a ROUND -/
def tryV (A : St) (k q x : Nat) : St := uV A (upV (sV A) k q (nI x))
def bst (ms : Nat → Int32) (a : Nat) : Nat := if a + 1 ≤ 20 ∧ ms (a + 1) < ms (if 1 ≤ a ∧ ms (a - 1) < ms a then a - 1 else a) then a + 1 else if 1 ≤ a ∧ ms (a - 1) < ms a then a - 1 else a
def cst (A : St) (k o i : Nat) : St := if sX A k (qi o i) = true then A else tryV A k (qi o i) (bst (fun x => fal (tryV A k (qi o i) x) o i) (cl (sV A k (qi o i))))
def mst (A : St) (k o i : Nat) : St := if sX A k (qi o i) = true then A else tryV A k (qi o i) (bst (fun x => fm (tryV A k (qi o i) x)) (cl (sV A k (qi o i))))
def rI (st : St → Nat → Nat → Nat → St) (A : St) (k o : Nat) : Nat → St
  | 0 => A
  | i + 1 => st (rI st A k o i) k o i
def rO (st : St → Nat → Nat → Nat → St) (A : St) (k : Nat) : Nat → St
  | 0 => A
  | o + 1 => rI st (rO st A k o) k o (if o = 0 then sF A else sT A)
def rK (st : St → Nat → Nat → Nat → St) (A : St) : Nat → St
  | 0 => A
  | k + 1 => rO st (rK st A k) k 2
def rN (st : St → Nat → Nat → Nat → St) (A : St) : Nat → St
  | 0 => A
  | n + 1 => rK st (rN st A n) (sK A)
abbrev pRn (n : Int32) : Prop := nI 1 ≤ n ∧ n ≤ nI 10
def nRn (A : St) (n : Int32) : St := if pRn n then uN (rN cst A (cl n)) (sN A + n) else A
def aRn (A : St) (n : Int32) : Int32 := if pRn n then fm (uN (rN cst A (cl n)) (sN A + n)) else -1
end
section
def uF (A : St) (x : Nat) : St := mkS x (sT A) (sK A) (sB A) (sV A) (sX A) (sE A) (sR A) (sZ A) (sJ A) (sN A) (sC A)
def uT (A : St) (x : Nat) : St := mkS (sF A) x (sK A) (sB A) (sV A) (sX A) (sE A) (sR A) (sZ A) (sJ A) (sN A) (sC A)
def uK (A : St) (x : Nat) : St := mkS (sF A) (sT A) x (sB A) (sV A) (sX A) (sE A) (sR A) (sZ A) (sJ A) (sN A) (sC A)
theorem lcz {P : Prop} [Decidable P] : lg_cmp (if P then 1 else 0) 0 = if P then (1 : Int32) else 0 := by
  by_cases h : P
  · rw [if_pos h, if_pos h]; decide
  · rw [if_neg h, if_neg h]; decide
def tkn (J : Nat) : Nat := if J = 0 then 1 else if J = 1 then 11 else 111
theorem tk_eq {J : Nat} (h : J ≤ 2) : (nI (tkn J)).toInt64 = tk J := by
  rcases (show J = 0 ∨ J = 1 ∨ J = 2 by omega) with rfl | rfl | rfl <;> decide
theorem cell_cong {cA : ClassId} {n : Nat} {f g : Nat → Int32} (h : ∀ j, j < n → f j = g j) : vp_cell cA (n, .inl f) = vp_cell cA (n, .inl g) := by
  rw [vp_cell_i, vp_cell_i]
  unfold arrV
  congr 1
  apply congrArg
  funext j
  show Value.int (f j.val) = Value.int (g j.val)
  rw [h j.val j.isLt]
/-- a row that is filled up to i -/
def fw (a : Nat) (cI : ClassId) (n : Nat) (f : Nat → Int32) (x : Int32) (i : Nat) : va_W := [(a, .inl (cI, n, .inl (fun j => if j < i then x else f j)))]
theorem fw_s {f : Nat → Int32} {x : Int32} {i : Nat} : upd (fun j => if j < i then x else f j) i x = fun j => if j < i + 1 then x else f j := by
  funext j
  unfold upd
  by_cases q : j = i
  · subst q; rw [if_pos rfl, if_pos (Nat.lt_succ_self j)]
  · by_cases z : j < i
    · rw [if_neg q]
      show (if j < i then x else f j) = _
      rw [if_pos z, if_pos (by omega)]
    · rw [if_neg q]
      show (if j < i then x else f j) = _
      rw [if_neg z, if_neg (by omega)]
theorem fw_0 {D : va_G} {a : Nat} {cI : ClassId} {n : Nat} {f : Nat → Int32} {x : Int32} {H : Heap} (h : va_P D vwCl [(a, .inl (cI, n, .inl f))] H) : va_P D vwCl (fw a cI n f x 0) H := by
  have e : (fun j => if j < 0 then x else f j) = f := by funext j; rw [if_neg (Nat.not_lt_zero j)]
  unfold fw
  rw [e]; exact h
theorem fw_n {D : va_G} {a : Nat} {cI : ClassId} {n : Nat} {f : Nat → Int32} {x : Int32} {H : Heap} (h : va_P D vwCl (fw a cI n f x n) H) : va_P D vwCl [(a, .inl (cI, n, .inl (fun _ => x)))] H := by
  intro k q hk
  match k, hk with
  | 0, hk =>
    cases hk
    have h1 := h 0 _ rfl
    have h1 : H[a]? = some (vp_cell cI (n, .inl (fun j => if j < n then x else f j))) := h1
    show H[a]? = some (vp_cell cI (n, .inl (fun _ => x)))
    rw [h1, cell_cong (g := fun _ => x) (fun j hj => if_pos hj)]
  | k + 1, hk => cases hk
theorem Inv.uV {A : St} (h : Inv A) {k i : Nat} {x : Int32} (hx : 0 ≤ x.toInt ∧ x.toInt ≤ 20) : Inv (uV A (upV (sV A) k i x)) := by
  refine ⟨h.F, h.T, h.K, h.J, h.Z, h.B, fun a b => ?_, h.X, h.R, h.E⟩
  show 0 ≤ (upV (sV A) k i x a b).toInt ∧ (upV (sV A) k i x a b).toInt ≤ 20
  unfold upV
  split
  · exact hx
  · exact h.V a b
theorem nI_20 {a : Nat} (h : a ≤ 20) : 0 ≤ (nI a).toInt ∧ (nI a).toInt ≤ 20 := by rw [nI_toInt (by omega)]; omega
theorem Inv.try {A : St} (h : Inv A) {k i a : Nat} (ha : a ≤ 20) : Inv (tryV A k i a) := h.uV (nI_20 ha)
theorem V_nI {A : St} (h : Inv A) (k i : Nat) : ∃ a : Nat, a ≤ 20 ∧ sV A k i = nI a := by
  have h1 := h.V k i
  refine ⟨(sV A k i).toInt.toNat, by omega, ?_⟩
  apply Int32.toInt_inj.mp
  rw [nI_toInt (by omega)]
  omega
theorem in20 {x : Int32} (h : p20 x) : 0 ≤ x.toInt ∧ x.toInt ≤ 20 := by
  have h1 := Int32.le_iff_toInt_le.mp h.1
  have h2 := Int32.le_iff_toInt_le.mp h.2
  rw [nI_toInt (by decide)] at h1 h2
  exact ⟨h1, h2⟩
theorem st_a : ∀ a, a < 21 → ¬ nI (a + 1) < nI a - nI 1 := by decide +kernel
theorem st_b : ∀ a, a < 21 → (nI 0 ≤ nI a - nI 1 ∧ nI a - nI 1 ≤ nI 20 ↔ 1 ≤ a) := by decide +kernel
theorem st_c : ∀ a, a < 21 → (nI 0 ≤ nI (a + 1) ∧ nI (a + 1) ≤ nI 20 ↔ a + 1 ≤ 20) := by decide +kernel
theorem st_d (a : Nat) : nI a - nI 1 + Int32.ofInt 2 = nI (a + 1) := by
  rw [← nI_1 a, show Int32.ofInt 2 = (2 : Int32) from rfl, show nI 1 = (1 : Int32) from rfl]
  generalize nI a = y
  grind
theorem st_e {a : Nat} (h : 1 ≤ a) : nI (a - 1) + Int32.ofInt 2 = nI (a + 1) := by
  rw [← pk_sub h]; exact st_d a
theorem try_try (A : St) (k q x y : Nat) : uV (tryV A k q x) (upV (sV (tryV A k q x)) k q (nI y)) = tryV A k q y := by
  show uV (uV A (upV (sV A) k q (nI x))) (upV (upV (sV A) k q (nI x)) k q (nI y)) = uV A (upV (sV A) k q (nI y))
  rw [upV_upV]
  rfl
theorem try_self {A : St} {k q a : Nat} (h : sV A k q = nI a) : tryV A k q a = A := by
  unfold tryV
  rw [upV_self h]
  rfl
end
section
/-! rounds -/
theorem qi_lt2 {o i : Nat} (ho : o < 2) (h : i < if o = 0 then 6 else 8) : qi o i < 14 := by
  unfold qi
  rcases (show o = 0 ∨ o = 1 by omega) with rfl | rfl
  · have h : i < 6 := h
    rw [if_pos rfl]; omega
  · have h : i < 8 := h
    rw [if_neg (by decide)]; omega
theorem bst_in (ms : Nat → Int32) {a : Nat} (h : a ≤ 20) : bst ms a ≤ 20 := by
  unfold bst
  repeat' split
  all_goals omega
theorem bst_0 {ms : Nat → Int32} {a b : Nat} (h1 : (if 1 ≤ a ∧ ms (a - 1) < ms a then a - 1 else a) = b) (h2 : ¬ (a + 1 ≤ 20 ∧ ms (a + 1) < ms b)) : bst ms a = b := by
  unfold bst
  rw [h1, if_neg h2]
theorem bst_1 {ms : Nat → Int32} {a b : Nat} (h1 : (if 1 ≤ a ∧ ms (a - 1) < ms a then a - 1 else a) = b) (h2 : a + 1 ≤ 20 ∧ ms (a + 1) < ms b) : bst ms a = a + 1 := by
  unfold bst
  rw [h1, if_pos h2]
theorem cst_eq {A : St} {k o i a b : Nat} (hX : ¬ sX A k (qi o i) = true) (ea : sV A k (qi o i) = nI a) (ha : a ≤ 20) (hb : bst (fun x => fal (tryV A k (qi o i) x) o i) a = b) : cst A k o i = tryV A k (qi o i) b := by
  unfold cst
  rw [if_neg hX, ea, cl_nI (by omega), hb]
theorem mst_eq {A : St} {k o i a b : Nat} (hX : ¬ sX A k (qi o i) = true) (ea : sV A k (qi o i) = nI a) (ha : a ≤ 20) (hb : bst (fun x => fm (tryV A k (qi o i) x)) a = b) : mst A k o i = tryV A k (qi o i) b := by
  unfold mst
  rw [if_neg hX, ea, cl_nI (by omega), hb]
/-- a step keeps the sizes, what is barred, and Inv -/
def Kp (st : St → Nat → Nat → Nat → St) : Prop := ∀ A k o i, (sF (st A k o i) = sF A ∧ sT (st A k o i) = sT A ∧ sK (st A k o i) = sK A ∧ sN (st A k o i) = sN A) ∧ (Inv A → Inv (st A k o i))
theorem Kp_cst : Kp cst := by
  intro A k o i
  unfold cst
  split
  · exact ⟨⟨rfl, rfl, rfl, rfl⟩, id⟩
  · refine ⟨⟨rfl, rfl, rfl, rfl⟩, fun h => ?_⟩
    obtain ⟨a, ha, ea⟩ := V_nI h k (qi o i)
    rw [ea, cl_nI (by omega)]
    exact h.try (bst_in _ ha)
theorem Kp_mst : Kp mst := by
  intro A k o i
  unfold mst
  split
  · exact ⟨⟨rfl, rfl, rfl, rfl⟩, id⟩
  · refine ⟨⟨rfl, rfl, rfl, rfl⟩, fun h => ?_⟩
    obtain ⟨a, ha, ea⟩ := V_nI h k (qi o i)
    rw [ea, cl_nI (by omega)]
    exact h.try (bst_in _ ha)
theorem kp_I {st : St → Nat → Nat → Nat → St} (h : Kp st) (A : St) (k o : Nat) : ∀ i, (sF (rI st A k o i) = sF A ∧ sT (rI st A k o i) = sT A ∧ sK (rI st A k o i) = sK A ∧ sN (rI st A k o i) = sN A) ∧ (Inv A → Inv (rI st A k o i))
  | 0 => ⟨⟨rfl, rfl, rfl, rfl⟩, id⟩
  | i + 1 => by
    have ih := kp_I h A k o i
    have h1 := h (rI st A k o i) k o i
    exact ⟨⟨h1.1.1.trans ih.1.1, h1.1.2.1.trans ih.1.2.1, h1.1.2.2.1.trans ih.1.2.2.1, h1.1.2.2.2.trans ih.1.2.2.2⟩, fun q => h1.2 (ih.2 q)⟩
theorem kp_O {st : St → Nat → Nat → Nat → St} (h : Kp st) (A : St) (k : Nat) : ∀ o, (sF (rO st A k o) = sF A ∧ sT (rO st A k o) = sT A ∧ sK (rO st A k o) = sK A ∧ sN (rO st A k o) = sN A) ∧ (Inv A → Inv (rO st A k o))
  | 0 => ⟨⟨rfl, rfl, rfl, rfl⟩, id⟩
  | o + 1 => by
    have ih := kp_O h A k o
    have h1 := kp_I h (rO st A k o) k o (if o = 0 then sF A else sT A)
    exact ⟨⟨h1.1.1.trans ih.1.1, h1.1.2.1.trans ih.1.2.1, h1.1.2.2.1.trans ih.1.2.2.1, h1.1.2.2.2.trans ih.1.2.2.2⟩, fun q => h1.2 (ih.2 q)⟩
theorem kp_K {st : St → Nat → Nat → Nat → St} (h : Kp st) (A : St) : ∀ k, (sF (rK st A k) = sF A ∧ sT (rK st A k) = sT A ∧ sK (rK st A k) = sK A ∧ sN (rK st A k) = sN A) ∧ (Inv A → Inv (rK st A k))
  | 0 => ⟨⟨rfl, rfl, rfl, rfl⟩, id⟩
  | k + 1 => by
    have ih := kp_K h A k
    have h1 := kp_O h (rK st A k) k 2
    exact ⟨⟨h1.1.1.trans ih.1.1, h1.1.2.1.trans ih.1.2.1, h1.1.2.2.1.trans ih.1.2.2.1, h1.1.2.2.2.trans ih.1.2.2.2⟩, fun q => h1.2 (ih.2 q)⟩
theorem kp_N {st : St → Nat → Nat → Nat → St} (h : Kp st) (A : St) : ∀ n, (sF (rN st A n) = sF A ∧ sT (rN st A n) = sT A ∧ sK (rN st A n) = sK A ∧ sN (rN st A n) = sN A) ∧ (Inv A → Inv (rN st A n))
  | 0 => ⟨⟨rfl, rfl, rfl, rfl⟩, id⟩
  | n + 1 => by
    have ih := kp_N h A n
    have h1 := kp_K h (rN st A n) (sK A)
    exact ⟨⟨h1.1.1.trans ih.1.1, h1.1.2.1.trans ih.1.2.1, h1.1.2.2.1.trans ih.1.2.2.1, h1.1.2.2.2.trans ih.1.2.2.2⟩, fun q => h1.2 (ih.2 q)⟩
theorem Inv.uN {A : St} (h : Inv A) (x : Int32) : Inv (uN A x) := ⟨h.F, h.T, h.K, h.J, h.Z, h.B, h.V, h.X, h.R, h.E⟩
end
section
/-! the reference: rows and words of its own -/
section BT
variable {p : Program} {l : Launch} {e : Env} {R : Room} {s : State} {m : MethodId} {args : Array Value} {below : List Frame} {meth : Method} {c : Code} {H : Heap} {locs : List Loc} {cells slots : Nat} {Q : State → Prop}
variable {cc : ByteArray} {pc : Nat} {ls : Array Slot} {rest : List Value}
theorem n_imulc (hx : p.tables.exec = Jvm.exec) (hb : c.code = cc) {a b : Nat} (hdg : decode cc pc = .ok (.imul, 1)) (k : W p l e R s m args below meth c H locs cells slots Q (F0 m (pc + 1) ls (.int (nI (b * a)) :: rest))) : W p l e R s m args below meth c H locs cells slots Q (F0 m pc ls (.int (nI b) :: .int (nI a) :: rest)) := n_imul hx hb hdg (by rw [Nat.mul_comm]; exact k)
end BT
theorem neg_eq (v : Int32) : -v = 0 - v := by grind
theorem mXat {X : Nat → Nat → Bool} {k i : Nat} (h : i < 16) : (if X ((k * 16 + i) / 16) ((k * 16 + i) % 16) = true then (1 : Int32) else 0) = if X k i = true then 1 else 0 := by rw [(dv16 h).1, (dv16 h).2]
/-- the place of a number -/
def fpo (A : St) (x o y : Int32) : Int32 := if pNu A x o y then nI (cl x * 16 + qi (cl o) (cl y)) else -1
def nRm (A : St) (n : Int32) : St := if pRn n then uN (rN mst A (cl n)) (sN A + n) else A
def aRm (A : St) (n : Int32) : Int32 := if pRn n then fm (uN (rN mst A (cl n)) (sN A + n)) else -1
theorem mst_uN (A : St) (x : Int32) (k o i : Nat) : mst (uN A x) k o i = uN (mst A k o i) x := by
  show (if sX A k (qi o i) = true then uN A x else uN (tryV A k (qi o i) (bst (fun x => fm (tryV A k (qi o i) x)) (cl (sV A k (qi o i))))) x) = uN (mst A k o i) x
  unfold mst
  split <;> rfl
theorem rI_uN (A : St) (x : Int32) (k o : Nat) : ∀ i, rI mst (uN A x) k o i = uN (rI mst A k o i) x
  | 0 => rfl
  | i + 1 => by rw [rI, rI_uN A x k o i, mst_uN]; rfl
theorem rO_uN (A : St) (x : Int32) (k : Nat) : ∀ o, rO mst (uN A x) k o = uN (rO mst A k o) x
  | 0 => rfl
  | o + 1 => by rw [rO, rO_uN A x k o, rI_uN]; rfl
theorem rK_uN (A : St) (x : Int32) : ∀ k, rK mst (uN A x) k = uN (rK mst A k) x
  | 0 => rfl
  | k + 1 => by rw [rK, rK_uN A x k, rO_uN]; rfl
/-- a row filled up to i -/
def fil (x : Int32) (f : Nat → Int32) (i : Nat) : Nat → Int32 := fun j => if j < i then x else f j
theorem fil_0 (x : Int32) (f : Nat → Int32) : fil x f 0 = f := by funext j; exact if_neg (Nat.not_lt_zero j)
theorem fil_s (x : Int32) (f : Nat → Int32) (i : Nat) : upd (fil x f i) i x = fil x f (i + 1) := fw_s
theorem fil_n {cA : ClassId} (n : Nat) (x : Int32) (f : Nat → Int32) : vp_cell cA (n, .inl (fil x f n)) = vp_cell cA (n, .inl (fun _ => x)) := cell_cong (f := fil x f n) (fun j hj => if_pos hj)
def mwR (h : Nat → Nat) (cI cZ : ClassId) (A : St) (b v x e : Nat → Int32) (M : Nat → Int32) : va_W :=
  [(h 0, .inr (1, [.int (nI (sF A)), .int (nI (sT A)), .int (nI (sK A)), .ref (h 1), .ref (h 2), .ref (h 3), .ref (h 4), .int (nI (sJ A)), .int (sN A), .ref (h 5), .ref (h 6), .long (sC A), .ref (h 7)])),
   (h 1, .inl (cI, 48, .inl b)), (h 2, .inl (cI, 48, .inl v)), (h 3, .inl (cZ, 48, .inl x)), (h 4, .inl (cI, 144, .inl e)), (h 5, .inl (cI, 2, .inl (fun j => nI (sZ A j)))), (h 6, .inl (cI, 16, .inl (sR A))), (h 7, .inl (cI, 8, .inl M))]
theorem mwR_fin {D : va_G} {h : Nat → Nat} {cI cZ : ClassId} {A : St} {b v x e M : Nat → Int32} {H : Heap} {f t k : Nat} (hp : va_P D vwCl (mwR h cI cZ (uK (uT (uF A f) t) k) (fil (nI 0) b 48) (fil (nI 1) v 48) (fil (nI 0) x 48) (fil (nI 0) e 144) M) H) : va_P D vwCl (mw h cI cZ (fresh A f t k) M) H := by
  intro i q hi
  match i, hi with
  | 0, hi => cases hi; exact hp 0 _ rfl
  | 1, hi =>
    cases hi
    have h1 : H[h 1]? = some (vp_cell cI (48, .inl (fil (nI 0) b 48))) := hp 1 _ rfl
    show H[h 1]? = some (vp_cell cI (48, .inl (fun _ => nI 0)))
    rw [h1, fil_n]
  | 2, hi =>
    cases hi
    have h1 : H[h 2]? = some (vp_cell cI (48, .inl (fil (nI 1) v 48))) := hp 2 _ rfl
    show H[h 2]? = some (vp_cell cI (48, .inl (fun _ => nI 1)))
    rw [h1, fil_n]
  | 3, hi =>
    cases hi
    have h1 : H[h 3]? = some (vp_cell cZ (48, .inl (fil (nI 0) x 48))) := hp 3 _ rfl
    show H[h 3]? = some (vp_cell cZ (48, .inl (fun _ => nI 0)))
    rw [h1, fil_n]
  | 4, hi =>
    cases hi
    have h1 : H[h 4]? = some (vp_cell cI (144, .inl (fil (nI 0) e 144))) := hp 4 _ rfl
    show H[h 4]? = some (vp_cell cI (144, .inl (fun _ => nI 0)))
    rw [h1, fil_n]
  | 5, hi => cases hi; exact hp 5 _ rfl
  | 6, hi => cases hi; exact hp 6 _ rfl
  | 7, hi => cases hi; exact hp 7 _ rfl
  | i + 8, hi => cases hi
/-! calls behind which the row 'middle' holds anything -/
def xQ (D : va_G) (w0 : va_W) (w1 : (Nat → Int32) → va_W) (r : Int32) : Array Value → State → Outcome → State → Prop := fun _ st oc t => oc = .returned (some (.int r)) ∧ (∃ M : Nat → Int32, va_P D vwCl (w1 M) t.heap) ∧ va_F (fun q => q ∈ adrs w0) st t
def MX (l : Launch) (y : MethodName) (ws : List Cond) (rm : Room) (av : List Value) (D : va_G) (tys : List (ClassId × FieldType)) (w0 : va_W) (w1 : (Nat → Int32) → va_W) (r : Int32) : Prop := Met l y ws rm (va_Pc av (mB D tys w0)) (xQ D w0 w1 r) 0 0 (fun q => q ∈ adrs w0)
theorem mx_ofW {l : Launch} {y : MethodName} {ws ws' : List Cond} {rm : Room} {av : List Value} {D : va_G} {tys : List (ClassId × FieldType)} {w0 : va_W} {w1 : (Nat → Int32) → va_W} {r : Int32} {cc : ByteArray} {maxL : Nat} (hy : plainName y.cls = true) (hw : ws = Cond.code y cc maxL (some .int) :: ws') (hlen : (lg_sl av).length ≤ maxL)
    (body : ∀ (p : Program) (e : Env) (s : State) (m : MethodId) (below : List Frame) (meth : Method) (c : Code) (args : Array Value) (Q : State → Prop) (G : Nat → Prop) (H : Heap) (locs : List Loc), p.tables.exec = Jvm.exec → c.code = cc → c.maxLocals = maxL → s.vm.findClass y.cls = some m.cls → (∀ w ∈ ws, w.before args s = true) → va_P D vwCl w0 H → va_K D vwCl tys s → va_D G w0 → va_S G s.heap H locs →
      (∀ {pc : Nat} {ls : Array Slot} {v : Int32} {H : Heap} {locs : List Loc} {M : Nat → Int32}, decode cc pc = .ok (.ireturn, 1) → v = r → va_P D vwCl (w1 M) H → va_S G s.heap H locs → W p l e rm s m args below meth c H locs 0 0 Q (F0 m pc ls [.int v])) →
      ∀ ls : Array Slot, lv_has ls maxL (lv_args 0 av) → W p l e rm s m args below meth c H locs 0 0 Q (F0 m 0 ls [])) : MX l y ws rm av D tys w0 w1 r := by
  refine Met.ofW (cc := cc) (maxL := maxL) (ret := some .int) hy hw ?_
  intro p e s m args below meth c s₁ Bd hml hv
  obtain ⟨rfl, ⟨hP, hK⟩, hD⟩ := hv
  have hx := Bd.exec
  have hb := Bd.bytes
  have hr := Bd.returns
  have hts := atoms_spec (ws := ws) Bd.pre
  have hown : s.vm.findClass y.cls = some m.cls := findClass_of_methodNamed Bd.named
  have hlocks := Bd.notSynchronized
  have hl := lv_entry av (n := maxL) hlen
  rw [lg_entry_eq]
  exact body p e s m below meth c _ _ (fun q => q ∈ adrs w0) s.heap [] hx hb hml hown hts hP hK hD.self2 va_S.rf (fun {pc ls v H locs M} hd hv hP1 hS => W.iret hx hb hr (fun t ht _ => ⟨by rw [hv], ⟨M, by rw [ht]; exact hP1⟩, hS.F ht⟩) hS.2.2 hd) _ hl
section MC2
variable {p : Program} {l : Launch} {e : Env} {R : Room} {s : State} {m : MethodId} {args : Array Value} {below : List Frame} {meth : Method} {c : Code} {H H0 : Heap} {locs : List Loc} {cells slots : Nat} {Q : State → Prop}
variable {cc bytes : ByteArray} {pc nL maxL n index : Nat} {ls : Array Slot} {rest st0 As : List Value} {Ts wsM : List Cond} {own C : String} {y : MethodName} {ret : Option FieldType} {rm : Room} {b : Addr} {D : va_G} {tys : List (ClassId × FieldType)} {w0 : va_W} {w1 : (Nat → Int32) → va_W} {r : Int32} {G : Nat → Prop}
theorem mx_run {a : Array Value} (hr : va_Run p l e R s m args below meth c H locs cells slots 0 0 (F0 m pc ls st0) rest (xQ D w0 w1 r a) (fun q => q ∈ adrs w0)) (hS : va_S G H0 H locs) (hG : ∀ q, q ∈ adrs w0 → G q)
    (k : ∀ (H1 : Heap) (locs1 : List Loc) (M : Nat → Int32), va_P D vwCl (w1 M) H1 → va_S G H0 H1 locs1 → (∀ q : Nat, q < H.size → q ∉ adrs w0 → H1[q]? = H[q]?) → W p l e R s m args below meth c H1 locs1 cells slots Q (F0 m (pc + 3) ls (.int r :: rest))) : W p l e R s m args below meth c H locs cells slots Q (F0 m pc ls st0) := by
  intro T hT X
  obtain ⟨v', st₀, t, T', L, h0, X', hL, e1, e2, ⟨hv, ⟨M, hp⟩, hz, hk⟩, st⟩ := hr T hT X
  cases hv
  rw [h0] at hz hk
  have hk' : ∀ q : Nat, q < H.size → q ∉ adrs w0 → T'.heap[q]? = H[q]? := fun q h1 h2 => by rw [e1]; exact hk q h1 h2
  obtain ⟨t2, a1, b1⟩ := k T'.heap (locs ++ L) M (by rw [e1]; exact hp)
    ⟨Nat.le_trans hS.1 (by rw [e1]; exact hz), fun q h1 h2 => by rw [hk' q (Nat.lt_of_lt_of_le h1 hS.1) (fun z => h2 (hG q z))]; exact hS.2.1 q h1 h2, fun q hq => by
      rcases List.mem_append.mp hq with h | h
      · exact hS.2.2 q h
      · exact hG _ (hL q h)⟩ hk' T' rfl X'
  exact ⟨t2, st t2 a1, b1⟩
theorem mx_callV (S : CallFix p m c cc nL s args Ts own) (hM : MX l y wsM rm (.ref b :: As) D tys w0 w1 r) (cw : CallW R s args own C index y bytes maxL ret wsM rm 0 0 n) (hP : va_P D vwCl w0 H) (hK : va_K D vwCl tys s) (hD : va_D G w0) (hS : va_S G H0 H locs) (hrc : ∃ cellB : Cell, H[b]? = some cellB ∧ cellB.vm.isStatics = false ∧ s.vm.findClass C = some cellB.cls)
    (hn : As.length = n) (hsize : ls.size = nL) (hst : st0 = As.reverse ++ .ref b :: rest) (hroom : (rest.map fun v => v.category).sum ≤ 8) (hdg : decode cc pc = .ok (.invokevirtual index, 3)) (hf : cells + 0 ≤ R.cells ∧ slots + 0 ≤ R.slots)
    (k : ∀ (H1 : Heap) (locs1 : List Loc) (M : Nat → Int32), va_P D vwCl (w1 M) H1 → va_S G H0 H1 locs1 → (∀ q : Nat, q < H.size → q ∉ adrs w0 → H1[q]? = H[q]?) → W p l e R s m args below meth c H1 locs1 cells slots Q (F0 m (pc + 3) ls (.int r :: rest))) : W p l e R s m args below meth c H locs cells slots Q (F0 m pc ls st0) :=
  mx_run (va_runV S hM cw ⟨fun a U g mk q => ⟨q.1, mB_bl a U g mk q.2⟩, hrc, fun U hU hW => ⟨rfl, vB_at hP hK U hU hW, hD.any⟩⟩ rfl hn hsize hst (lv_room (m := m) (pc := pc) (ls := ls) (rest := st0) hroom) hdg hf) hS hD.mem k
end MC2
end
section
def rmX1_in : Room := { frames := 0, cells := 0, slots := 0, locals := 0 }
set_option maxHeartbeats 4000000 in
set_option maxRecDepth 100000 in
/-- in -/
theorem kX1_in (l : Launch)  (x lo hi : Int32) : RO l yX1_in wsX1_in rmX1_in [.int x, .int lo, .int hi] (vT) (if lo ≤ x ∧ x ≤ hi then 1 else 0) := by
  refine ro_ofWz (cc := cX1_in) (maxL := 3) (by decide) rfl (Nat.le_of_ble_eq_true rfl) ?_
  intro p e s m below meth c args Q hx hb hml hown hts hB hQ ls hl
  have hown : s.vm.findClass RX1 = some m.cls := hown
  have hl : lv_has ls 3 [(0, .int x), (1, .int lo), (2, .int hi)] := hl
  refine lv_iload_n hx hb dX1_in_0 rfl (lv_at hl 0 rfl) ?_
  refine lv_iload_n hx hb dX1_in_1 rfl (lv_at hl 1 rfl) ?_
  refine lv_icmp_lt (tgt := 14) hx hb dX1_in_2 (by decide) (fun c_2 => ?_) (fun c_2 => ?_)
  · refine lv_iconst (v := nI 0) hx hb dX1_in_14 (by decide) ?_
    exact hQ dX1_in_15 ((if_neg (fun q => Int32.not_lt.mpr q.1 c_2)).symm)
  · refine lv_iload_n hx hb dX1_in_5 rfl (lv_at hl 0 rfl) ?_
    refine lv_iload_n hx hb dX1_in_6 rfl (lv_at hl 2 rfl) ?_
    refine lv_icmp_gt (tgt := 14) hx hb dX1_in_7 (by decide) (fun c_7 => ?_) (fun c_7 => ?_)
    · refine lv_iconst (v := nI 0) hx hb dX1_in_14 (by decide) ?_
      exact hQ dX1_in_15 ((if_neg (fun q => Int32.not_lt.mpr q.2 c_7)).symm)
    · refine lv_iconst (v := nI 1) hx hb dX1_in_10 (by decide) ?_
      refine lv_goto (tgt := 15) hx hb dX1_in_11 (by decide) ?_
      exact hQ dX1_in_15 ((if_pos ⟨Int32.not_lt.mp c_2, Int32.not_lt.mp c_7⟩).symm)
def rmX1_isVoice : Room := { frames := 1, cells := 0, slots := 0, locals := 22 }
set_option maxHeartbeats 4000000 in
set_option maxRecDepth 100000 in
/-- isVoice -/
theorem kX1_isVoice (l : Launch) (D : va_G) (h : Nat → Nat) (cI cZ : ClassId) (A : St) (M : Nat → Int32) (hI : Inv A) (x : Int32) : RO l yX1_isVoice wsX1_isVoice rmX1_isVoice [.ref (h 0), .int x] (vB D (mw h cI cZ A M) [(cI, .int), (cZ, .boolean)]) (if iN x (sK A) then 1 else 0) := by
  refine ro_ofWz (cc := cX1_isVoice) (maxL := 2) (by decide) rfl (Nat.le_of_ble_eq_true rfl) ?_
  intro p e s m below meth c args Q hx hb hml hown hts hB hQ ls hl
  have hown : s.vm.findClass RX1 = some m.cls := hown
  obtain ⟨hP, hK⟩ := hB
  have hin0 : ∀ w ∈ u_ws RX1 TX1 13, w ∈ wsX1_isVoice := fun _ h => List.mem_cons_of_mem _ (List.mem_append_right _ h)
  have hl : lv_has ls 2 [(0, .ref (h 0)), (1, .int x)] := hl
  have hF := hI.F
  have hT := hI.T
  have hK3 := hI.K
  have hJ := hI.J
  have hZ := hI.Z
  refine lv_iload_n hx hb dX1_isVoice_0 rfl (lv_at hl 1 rfl) ?_
  refine lv_iconst (v := nI 0) hx hb dX1_isVoice_1 (by decide) ?_
  refine lv_aload_n hx hb dX1_isVoice_2 rfl (lv_at hl 0 rfl) ?_
  refine va_get (D := D) (ci := 1) (v := .int (nI (sK A))) (C := RX1) (T := TX1) (N := 13) hx hb hts hin0 hown hK hP 0 rfl rfl 2 (by decide) (hts (.fieldLink RX1 43 "VoicePartsModel" "voices" "I") (by decide +kernel)) (fun _ h9 => h9) rfl dX1_isVoice_3 ?_
  refine lv_iconst (v := nI 1) hx hb dX1_isVoice_6 (by decide) ?_
  refine n_isub hx hb (by omega) dX1_isVoice_7 ?_
  refine ro_callS (As := [.int x, .int (nI 0), .int (nI ((sK A) - 1))]) (rest := []) ⟨hx, hb, hml, hown, hts⟩ (kX1_in l (x) (nI 0) (nI ((sK A) - 1))) (va_cwS 3 hts gX1_isVoice_X1_in rfl rfl rfl (by decide +kernel) ⟨Nat.le_of_ble_eq_true rfl, Nat.le_of_ble_eq_true rfl⟩) vT_bl vT_at rfl hl.1 rfl (Nat.le_of_ble_eq_true rfl) dX1_isVoice_8 ⟨Nat.zero_le _, Nat.zero_le _⟩ ?_
  exact hQ dX1_isVoice_11 (rfl)
def rmX1_isPlace : Room := { frames := 1, cells := 0, slots := 0, locals := 22 }
set_option maxHeartbeats 4000000 in
set_option maxRecDepth 100000 in
/-- isPlace -/
theorem kX1_isPlace (l : Launch) (D : va_G) (h : Nat → Nat) (cI cZ : ClassId) (A : St) (M : Nat → Int32) (hI : Inv A) (x y : Int32) : RO l yX1_isPlace wsX1_isPlace rmX1_isPlace [.ref (h 0), .int x, .int y] (vB D (mw h cI cZ A M) [(cI, .int), (cZ, .boolean)]) (if iN x (sF A) ∧ iN y (sT A) then 1 else 0) := by
  refine ro_ofWz (cc := cX1_isPlace) (maxL := 3) (by decide) rfl (Nat.le_of_ble_eq_true rfl) ?_
  intro p e s m below meth c args Q hx hb hml hown hts hB hQ ls hl
  have hown : s.vm.findClass RX1 = some m.cls := hown
  obtain ⟨hP, hK⟩ := hB
  have hin0 : ∀ w ∈ u_ws RX1 TX1 13, w ∈ wsX1_isPlace := fun _ h => List.mem_cons_of_mem _ (List.mem_append_right _ h)
  have hl : lv_has ls 3 [(0, .ref (h 0)), (1, .int x), (2, .int y)] := hl
  have hF := hI.F
  have hT := hI.T
  have hK3 := hI.K
  have hJ := hI.J
  have hZ := hI.Z
  refine lv_iload_n hx hb dX1_isPlace_0 rfl (lv_at hl 1 rfl) ?_
  refine lv_iconst (v := nI 0) hx hb dX1_isPlace_1 (by decide) ?_
  refine lv_aload_n hx hb dX1_isPlace_2 rfl (lv_at hl 0 rfl) ?_
  refine va_get (D := D) (ci := 1) (v := .int (nI (sF A))) (C := RX1) (T := TX1) (N := 13) hx hb hts hin0 hown hK hP 0 rfl rfl 0 (by decide) (hts (.fieldLink RX1 36 "VoicePartsModel" "tones" "I") (by decide +kernel)) (fun _ h9 => h9) rfl dX1_isPlace_3 ?_
  refine lv_iconst (v := nI 1) hx hb dX1_isPlace_6 (by decide) ?_
  refine n_isub hx hb (by omega) dX1_isPlace_7 ?_
  refine ro_callS (As := [.int x, .int (nI 0), .int (nI ((sF A) - 1))]) (rest := []) ⟨hx, hb, hml, hown, hts⟩ (kX1_in l (x) (nI 0) (nI ((sF A) - 1))) (va_cwS 3 hts gX1_isPlace_X1_in rfl rfl rfl (by decide +kernel) ⟨Nat.le_of_ble_eq_true rfl, Nat.le_of_ble_eq_true rfl⟩) vT_bl vT_at rfl hl.1 rfl (Nat.le_of_ble_eq_true rfl) dX1_isPlace_8 ⟨Nat.zero_le _, Nat.zero_le _⟩ ?_
  refine b_if_eq (tgt := 32) hx hb dX1_isPlace_11 (by decide) (fun c_11 => ?_) (fun c_11 => ?_)
  · refine lv_iconst (v := nI 0) hx hb dX1_isPlace_32 (by decide) ?_
    exact hQ dX1_isPlace_33 ((if_neg (fun q => c_11 q.1)).symm)
  · refine lv_iload_n hx hb dX1_isPlace_14 rfl (lv_at hl 2 rfl) ?_
    refine lv_iconst (v := nI 0) hx hb dX1_isPlace_15 (by decide) ?_
    refine lv_aload_n hx hb dX1_isPlace_16 rfl (lv_at hl 0 rfl) ?_
    refine va_get (D := D) (ci := 1) (v := .int (nI (sT A))) (C := RX1) (T := TX1) (N := 13) hx hb hts hin0 hown hK hP 0 rfl rfl 1 (by decide) (hts (.fieldLink RX1 40 "VoicePartsModel" "times" "I") (by decide +kernel)) (fun _ h9 => h9) rfl dX1_isPlace_17 ?_
    refine lv_iconst (v := nI 1) hx hb dX1_isPlace_20 (by decide) ?_
    refine n_isub hx hb (by omega) dX1_isPlace_21 ?_
    refine ro_callS (As := [.int y, .int (nI 0), .int (nI ((sT A) - 1))]) (rest := []) ⟨hx, hb, hml, hown, hts⟩ (kX1_in l (y) (nI 0) (nI ((sT A) - 1))) (va_cwS 3 hts gX1_isPlace_X1_in rfl rfl rfl (by decide +kernel) ⟨Nat.le_of_ble_eq_true rfl, Nat.le_of_ble_eq_true rfl⟩) vT_bl vT_at rfl hl.1 rfl (Nat.le_of_ble_eq_true rfl) dX1_isPlace_22 ⟨Nat.zero_le _, Nat.zero_le _⟩ ?_
    refine b_if_eq (tgt := 32) hx hb dX1_isPlace_25 (by decide) (fun c_25 => ?_) (fun c_25 => ?_)
    · refine lv_iconst (v := nI 0) hx hb dX1_isPlace_32 (by decide) ?_
      exact hQ dX1_isPlace_33 ((if_neg (fun q => c_25 q.2)).symm)
    · refine lv_iconst (v := nI 1) hx hb dX1_isPlace_28 (by decide) ?_
      refine lv_goto (tgt := 33) hx hb dX1_isPlace_29 (by decide) ?_
      exact hQ dX1_isPlace_33 ((if_pos ⟨c_11, c_25⟩).symm)
def rmX1_part : Room := { frames := 0, cells := 0, slots := 0, locals := 0 }
set_option maxHeartbeats 4000000 in
set_option maxRecDepth 100000 in
/-- part -/
theorem kX1_part (l : Launch) (D : va_G) (h : Nat → Nat) (cI cZ : ClassId) (A : St) (M : Nat → Int32) (k f t : Nat) (hk : k < 3) (hf : f < 6) (ht : t < 8) : RO l yX1_part wsX1_part rmX1_part [.ref (h 0), .int (nI k), .int (nI f), .int (nI t)] (vB D (mw h cI cZ A M) [(cI, .int), (cZ, .boolean)]) (sV A k f * sV A k (6 + t)) := by
  refine ro_ofW (cc := cX1_part) (maxL := 4) (by decide) rfl (Nat.le_of_ble_eq_true rfl) ?_
  intro p e s m below meth c args Q hx hb hml hown hts hB hQ ls hl
  have hown : s.vm.findClass RX1 = some m.cls := hown
  obtain ⟨hP, hK⟩ := hB
  have hin0 : ∀ w ∈ u_ws RX1 TX1 13, w ∈ wsX1_part := fun _ h => List.mem_cons_of_mem _ (List.mem_append_right _ h)
  have hl : lv_has ls 4 [(0, .ref (h 0)), (1, .int (nI k)), (2, .int (nI f)), (3, .int (nI t))] := hl
  refine lv_aload_n hx hb dX1_part_0 rfl (lv_at hl 0 rfl) ?_
  refine va_get (D := D) (ci := 1) (v := .ref (h 2)) (C := RX1) (T := TX1) (N := 13) hx hb hts hin0 hown hK hP 0 rfl rfl 4 (by decide) (hts (.fieldLink RX1 13 "VoicePartsModel" "number" "[I") (by decide +kernel)) (fun _ h9 => h9) rfl dX1_part_1 ?_
  refine lv_bipush (v := nI 16) hx hb dX1_part_4 (by decide) ?_
  refine lv_iload_n hx hb dX1_part_6 rfl (lv_at hl 1 rfl) ?_
  refine n_imulc hx hb dX1_part_7 ?_
  refine lv_iload_n hx hb dX1_part_8 rfl (lv_at hl 2 rfl) ?_
  refine n_iadd hx hb dX1_part_9 ?_
  refine n_iald hx hb hK hP 2 0 rfl rfl (by omega) (by decide) dX1_part_10 ?_
  refine n_top (y := sV A k f) (mVat (f := sV A) (by omega) (by omega)) ?_
  refine lv_aload_n hx hb dX1_part_11 rfl (lv_at hl 0 rfl) ?_
  refine va_get (D := D) (ci := 1) (v := .ref (h 2)) (C := RX1) (T := TX1) (N := 13) hx hb hts hin0 hown hK hP 0 rfl rfl 4 (by decide) (hts (.fieldLink RX1 13 "VoicePartsModel" "number" "[I") (by decide +kernel)) (fun _ h9 => h9) rfl dX1_part_12 ?_
  refine lv_bipush (v := nI 16) hx hb dX1_part_15 (by decide) ?_
  refine lv_iload_n hx hb dX1_part_17 rfl (lv_at hl 1 rfl) ?_
  refine n_imulc hx hb dX1_part_18 ?_
  refine lv_bipush (v := nI 6) hx hb dX1_part_19 (by decide) ?_
  refine n_iadd hx hb dX1_part_21 ?_
  refine lv_iload_n hx hb dX1_part_22 rfl (lv_at hl 3 rfl) ?_
  refine n_iadd hx hb dX1_part_23 ?_
  refine n_iald hx hb hK hP 2 0 rfl rfl (by omega) (by decide) dX1_part_24 ?_
  refine n_top (y := sV A k (6 + t)) (mVat (f := sV A) (by omega) (by omega)) ?_
  refine lv_imul hx hb dX1_part_25 ?_
  exact hQ dX1_part_26 (rfl)
def rmX1_sumAt : Room := { frames := 1, cells := 0, slots := 0, locals := 23 }
set_option maxHeartbeats 4000000 in
set_option maxRecDepth 100000 in
/-- sumAt -/
theorem kX1_sumAt (l : Launch) (D : va_G) (h : Nat → Nat) (cI cZ : ClassId) (A : St) (M : Nat → Int32) (hI : Inv A) (f t : Nat) (hf : f < 6) (ht : t < 8) : RO l yX1_sumAt wsX1_sumAt rmX1_sumAt [.ref (h 0), .int (nI f), .int (nI t)] (vB D (mw h cI cZ A M) [(cI, .int), (cZ, .boolean)]) (fS A f t) := by
  refine ro_ofW (cc := cX1_sumAt) (maxL := 5) (by decide) rfl (Nat.le_of_ble_eq_true rfl) ?_
  intro p e s m below meth c args Q hx hb hml hown hts hB hQ ls hl
  have hown : s.vm.findClass RX1 = some m.cls := hown
  obtain ⟨hP, hK⟩ := hB
  have hin0 : ∀ w ∈ u_ws RX1 TX1 13, w ∈ wsX1_sumAt := fun _ h => List.mem_cons_of_mem _ (List.mem_append_right _ h)
  have hl : lv_has ls 5 [(0, .ref (h 0)), (1, .int (nI f)), (2, .int (nI t))] := hl
  have hF := hI.F
  have hT := hI.T
  have hK3 := hI.K
  have hJ := hI.J
  have hZ := hI.Z
  refine lv_iconst (v := nI 0) hx hb dX1_sumAt_0 (by decide) ?_
  refine lv_istore_n (lv' := [(3, .int (nI 0)), (0, .ref (h 0)), (1, .int (nI f)), (2, .int (nI t))]) hx hb dX1_sumAt_1 rfl hl (by decide) rfl (fun ls hl => ?_)
  refine lv_iconst (v := nI 0) hx hb dX1_sumAt_2 (by decide) ?_
  refine lv_istore (lv' := [(4, .int (nI 0)), (3, .int (nI 0)), (0, .ref (h 0)), (1, .int (nI f)), (2, .int (nI t))]) hx hb dX1_sumAt_3 hl (by decide) rfl (fun ls hl => ?_)
  have lp5 : ∀ (n5 k : Nat), k + n5 = sK A → ∀ (ls : Array Slot), lv_has ls 5 [(0, .ref (h 0)), (1, .int (nI f)), (2, .int (nI t)), (3, .int (l_sum (fun k => sV A k f * sV A k (6 + t)) k)), (4, .int (nI k))] → W p l e rmX1_sumAt s m args below meth c s.heap [] 0 0 Q (F0 m 5 ls []) := by
    intro n5
    induction n5 with
    | zero =>
      intro k hi5 ls hl
      obtain rfl : sK A = k := by omega
      refine lv_iload hx hb dX1_sumAt_5 (lv_at hl 4 rfl) ?_
      refine lv_aload_n hx hb dX1_sumAt_7 rfl (lv_at hl 0 rfl) ?_
      refine va_get (D := D) (ci := 1) (v := .int (nI (sK A))) (C := RX1) (T := TX1) (N := 13) hx hb hts hin0 hown hK hP 0 rfl rfl 2 (by decide) (hts (.fieldLink RX1 43 "VoicePartsModel" "voices" "I") (by decide +kernel)) (fun _ h9 => h9) rfl dX1_sumAt_8 ?_
      refine n_icmp_ge (tgt := 31) hx hb (by omega) (by omega) dX1_sumAt_11 (by decide) (fun c_11 => ?_) (fun c_11 => by exfalso; omega)
      refine lv_iload_n hx hb dX1_sumAt_31 rfl (lv_at hl 3 rfl) ?_
      exact hQ dX1_sumAt_32 (rfl)
    | succ n5 ih5 =>
      intro k hi5 ls hl
      refine lv_iload hx hb dX1_sumAt_5 (lv_at hl 4 rfl) ?_
      refine lv_aload_n hx hb dX1_sumAt_7 rfl (lv_at hl 0 rfl) ?_
      refine va_get (D := D) (ci := 1) (v := .int (nI (sK A))) (C := RX1) (T := TX1) (N := 13) hx hb hts hin0 hown hK hP 0 rfl rfl 2 (by decide) (hts (.fieldLink RX1 43 "VoicePartsModel" "voices" "I") (by decide +kernel)) (fun _ h9 => h9) rfl dX1_sumAt_8 ?_
      refine n_icmp_ge (tgt := 31) hx hb (by omega) (by omega) dX1_sumAt_11 (by decide) (fun c_11 => by exfalso; omega) (fun c_11 => ?_)
      refine lv_iload_n hx hb dX1_sumAt_14 rfl (lv_at hl 3 rfl) ?_
      refine lv_aload_n hx hb dX1_sumAt_15 rfl (lv_at hl 0 rfl) ?_
      refine lv_iload hx hb dX1_sumAt_16 (lv_at hl 4 rfl) ?_
      refine lv_iload_n hx hb dX1_sumAt_18 rfl (lv_at hl 1 rfl) ?_
      refine lv_iload_n hx hb dX1_sumAt_19 rfl (lv_at hl 2 rfl) ?_
      refine ro_callV (As := [.int (nI k), .int (nI f), .int (nI t)]) (rest := [.int (l_sum (fun k => sV A k f * sV A k (6 + t)) k)]) ⟨hx, hb, hml, hown, hts⟩ (kX1_part l D h cI cZ A M  (k) (f) (t) (by omega) (by omega) (by omega)) (cwV 3 hts gX1_sumAt_X1_part rfl rfl rfl (by decide +kernel) ⟨Nat.le_of_ble_eq_true rfl, Nat.le_of_ble_eq_true rfl⟩) vB_bl (vB_at hP hK) (va_recv hK hP (ci := 1) (q0 := 0) rfl rfl) rfl hl.1 rfl (Nat.le_of_ble_eq_true rfl) dX1_sumAt_20 ⟨Nat.zero_le _, Nat.zero_le _⟩ ?_
      refine lv_iadd hx hb dX1_sumAt_23 ?_
      refine lv_istore_n (lv' := [(3, .int ((l_sum (fun k => sV A k f * sV A k (6 + t)) k) + (sV A k f * sV A k (6 + t)))), (0, .ref (h 0)), (1, .int (nI f)), (2, .int (nI t)), (4, .int (nI k))]) hx hb dX1_sumAt_24 rfl hl (by decide) rfl (fun ls hl => ?_)
      refine lv_iinc (v := nI (k + 1)) (lv' := [(4, .int (nI (k + 1))), (3, .int ((l_sum (fun k => sV A k f * sV A k (6 + t)) k) + (sV A k f * sV A k (6 + t)))), (0, .ref (h 0)), (1, .int (nI f)), (2, .int (nI t))]) hx hb dX1_sumAt_25 hl (k := 4) rfl (nI_inc _) (by decide) rfl (fun ls hl => ?_)
      refine lv_goto (tgt := 5) hx hb dX1_sumAt_28 (by decide) ?_
      exact ih5 (k + 1) (by omega) ls (lv_sub hl [2, 3, 4, 1, 0] rfl)
  exact lp5 (sK A) (0) (by omega) ls (lv_sub hl [2, 3, 4, 1, 0] rfl)
def rmX1_costOf : Room := { frames := 0, cells := 0, slots := 0, locals := 0 }
set_option maxHeartbeats 4000000 in
set_option maxRecDepth 100000 in
/-- costOf -/
theorem kX1_costOf (l : Launch)  (J : Nat) (d : Int32) (hJ : J ≤ 2) : RO l yX1_costOf wsX1_costOf rmX1_costOf [.int (nI J), .int d] (vT) (fco J d) := by
  refine ro_ofW (cc := cX1_costOf) (maxL := 3) (by decide) rfl (Nat.le_of_ble_eq_true rfl) ?_
  intro p e s m below meth c args Q hx hb hml hown hts hB hQ ls hl
  have hown : s.vm.findClass RX1 = some m.cls := hown
  have hl : lv_has ls 3 [(0, .int (nI J)), (1, .int d)] := hl
  refine lv_iload_n hx hb dX1_costOf_0 rfl (lv_at hl 1 rfl) ?_
  refine lv_iload_n hx hb dX1_costOf_1 rfl (lv_at hl 1 rfl) ?_
  refine lv_imul hx hb dX1_costOf_2 ?_
  refine lv_istore_n (lv' := [(2, .int (d * d)), (0, .int (nI J)), (1, .int d)]) hx hb dX1_costOf_3 rfl hl (by decide) rfl (fun ls hl => ?_)
  refine lv_iload_n hx hb dX1_costOf_4 rfl (lv_at hl 1 rfl) ?_
  refine n_if_ne (tgt := 12) hx hb (by omega) dX1_costOf_5 (by decide) (fun c_5 => ?_) (fun c_5 => ?_)
  · refine lv_iload_n hx hb dX1_costOf_12 rfl (lv_at hl 1 rfl) ?_
    refine lv_iconst (v := nI 1) hx hb dX1_costOf_13 (by decide) ?_
    refine n_icmp_eq (tgt := 23) hx hb (by omega) (by omega) dX1_costOf_14 (by decide) (fun c_14 => ?_) (fun c_14 => ?_)
    · refine lv_iload_n hx hb dX1_costOf_23 rfl (lv_at hl 0 rfl) ?_
      refine lv_goto (tgt := 34) hx hb dX1_costOf_24 (by decide) ?_
      exact hQ dX1_costOf_34 (by unfold fco; rw [if_neg (by omega), if_pos (Or.inl (by omega))])
    · refine lv_iload_n hx hb dX1_costOf_17 rfl (lv_at hl 0 rfl) ?_
      refine lv_bipush (v := nI 100) hx hb dX1_costOf_18 (by decide) ?_
      refine lv_icmp_gt (tgt := 27) hx hb dX1_costOf_20 (by decide) (fun c_20 => ?_) (fun c_20 => ?_)
      · refine lv_bipush (v := nI 90) hx hb dX1_costOf_27 (by decide) ?_
        refine lv_iload_n hx hb dX1_costOf_29 rfl (lv_at hl 0 rfl) ?_
        refine lv_bipush (v := nI 10) hx hb dX1_costOf_30 (by decide) ?_
        refine lv_idiv hx hb dX1_costOf_32 (by decide) ?_
        refine lv_iadd hx hb dX1_costOf_33 ?_
        exact hQ dX1_costOf_34 (by unfold fco; rw [if_neg (by omega), if_neg (fun q => q.elim (fun z => by omega) (fun z => Int32.not_le.mpr c_20 z))]; rfl)
      · refine lv_iload_n hx hb dX1_costOf_23 rfl (lv_at hl 0 rfl) ?_
        refine lv_goto (tgt := 34) hx hb dX1_costOf_24 (by decide) ?_
        exact hQ dX1_costOf_34 (by unfold fco; rw [if_neg (by omega), if_pos (Or.inr (show d * d ≤ 100 from Int32.not_lt.mp c_20))])
  · refine lv_iload_n hx hb dX1_costOf_8 rfl (lv_at hl 2 rfl) ?_
    refine lv_goto (tgt := 34) hx hb dX1_costOf_9 (by decide) ?_
    exact hQ dX1_costOf_34 (by unfold fco; rw [if_pos (by omega)])
def rmX1_size : Room := { frames := 0, cells := 0, slots := 0, locals := 0 }
set_option maxHeartbeats 4000000 in
set_option maxRecDepth 100000 in
/-- size -/
theorem kX1_size (l : Launch)  (v : Int32) : RO l yX1_size wsX1_size rmX1_size [.int v] (vT) (fab v) := by
  refine ro_ofW (cc := cX1_size) (maxL := 1) (by decide) rfl (Nat.le_of_ble_eq_true rfl) ?_
  intro p e s m below meth c args Q hx hb hml hown hts hB hQ ls hl
  have hown : s.vm.findClass RX1 = some m.cls := hown
  have hl : lv_has ls 1 [(0, .int v)] := hl
  refine lv_iload_n hx hb dX1_size_0 rfl (lv_at hl 0 rfl) ?_
  refine lv_if_ge (tgt := 9) hx hb dX1_size_1 (by decide) (fun c_1 => ?_) (fun c_1 => ?_)
  · refine lv_iload_n hx hb dX1_size_9 rfl (lv_at hl 0 rfl) ?_
    exact hQ dX1_size_10 (by unfold fab; rw [if_pos c_1])
  · refine lv_iload_n hx hb dX1_size_4 rfl (lv_at hl 0 rfl) ?_
    refine lv_ineg hx hb dX1_size_5 ?_
    refine lv_goto (tgt := 10) hx hb dX1_size_6 (by decide) ?_
    exact hQ dX1_size_10 (by unfold fab; rw [if_neg c_1]; exact neg_eq v)
def rmX1_missNow : Room := { frames := 2, cells := 0, slots := 0, locals := 47 }
set_option maxHeartbeats 4000000 in
set_option maxRecDepth 100000 in
/-- missNow -/
theorem kX1_missNow (l : Launch) (D : va_G) (h : Nat → Nat) (cI cZ : ClassId) (A : St) (M : Nat → Int32) (hI : Inv A) : RO l yX1_missNow wsX1_missNow rmX1_missNow [.ref (h 0)] (vB D (mw h cI cZ A M) [(cI, .int), (cZ, .boolean)]) (fm A) := by
  refine ro_ofW (cc := cX1_missNow) (maxL := 4) (by decide) rfl (Nat.le_of_ble_eq_true rfl) ?_
  intro p e s m below meth c args Q hx hb hml hown hts hB hQ ls hl
  have hown : s.vm.findClass RX1 = some m.cls := hown
  obtain ⟨hP, hK⟩ := hB
  have hin0 : ∀ w ∈ u_ws RX1 TX1 13, w ∈ wsX1_missNow := fun _ h => List.mem_cons_of_mem _ (List.mem_append_right _ h)
  have hl : lv_has ls 4 [(0, .ref (h 0))] := hl
  have hF := hI.F
  have hT := hI.T
  have hK3 := hI.K
  have hJ := hI.J
  have hZ := hI.Z
  refine lv_iconst (v := nI 0) hx hb dX1_missNow_0 (by decide) ?_
  refine lv_istore_n (lv' := [(1, .int (nI 0)), (0, .ref (h 0))]) hx hb dX1_missNow_1 rfl hl (by decide) rfl (fun ls hl => ?_)
  refine lv_iconst (v := nI 0) hx hb dX1_missNow_2 (by decide) ?_
  refine lv_istore_n (lv' := [(2, .int (nI 0)), (1, .int (nI 0)), (0, .ref (h 0))]) hx hb dX1_missNow_3 rfl hl (by decide) rfl (fun ls hl => ?_)
  have lp4 : ∀ (n4 f : Nat), f + n4 = sF A → ∀ (ls : Array Slot), lv_has ls 4 [(0, .ref (h 0)), (1, .int (acc2 0 (fun f t => fc A f t) (sT A) f)), (2, .int (nI f))] → W p l e rmX1_missNow s m args below meth c s.heap [] 0 0 Q (F0 m 4 ls []) := by
    intro n4
    induction n4 with
    | zero =>
      intro f hi4 ls hl
      obtain rfl : sF A = f := by omega
      refine lv_iload_n hx hb dX1_missNow_4 rfl (lv_at hl 2 rfl) ?_
      refine lv_aload_n hx hb dX1_missNow_5 rfl (lv_at hl 0 rfl) ?_
      refine va_get (D := D) (ci := 1) (v := .int (nI (sF A))) (C := RX1) (T := TX1) (N := 13) hx hb hts hin0 hown hK hP 0 rfl rfl 0 (by decide) (hts (.fieldLink RX1 36 "VoicePartsModel" "tones" "I") (by decide +kernel)) (fun _ h9 => h9) rfl dX1_missNow_6 ?_
      refine n_icmp_ge (tgt := 65) hx hb (by omega) (by omega) dX1_missNow_9 (by decide) (fun c_9 => ?_) (fun c_9 => by exfalso; omega)
      refine lv_iload_n hx hb dX1_missNow_65 rfl (lv_at hl 1 rfl) ?_
      exact hQ dX1_missNow_66 (by rw [acc2_eq, Int32.zero_add]; rfl)
    | succ n4 ih4 =>
      intro f hi4 ls hl
      refine lv_iload_n hx hb dX1_missNow_4 rfl (lv_at hl 2 rfl) ?_
      refine lv_aload_n hx hb dX1_missNow_5 rfl (lv_at hl 0 rfl) ?_
      refine va_get (D := D) (ci := 1) (v := .int (nI (sF A))) (C := RX1) (T := TX1) (N := 13) hx hb hts hin0 hown hK hP 0 rfl rfl 0 (by decide) (hts (.fieldLink RX1 36 "VoicePartsModel" "tones" "I") (by decide +kernel)) (fun _ h9 => h9) rfl dX1_missNow_6 ?_
      refine n_icmp_ge (tgt := 65) hx hb (by omega) (by omega) dX1_missNow_9 (by decide) (fun c_9 => by exfalso; omega) (fun c_9 => ?_)
      refine lv_iconst (v := nI 0) hx hb dX1_missNow_12 (by decide) ?_
      refine lv_istore_n (lv' := [(3, .int (nI 0)), (0, .ref (h 0)), (1, .int (acc2 0 (fun f t => fc A f t) (sT A) f)), (2, .int (nI f))]) hx hb dX1_missNow_13 rfl hl (by decide) rfl (fun ls hl => ?_)
      have lp14 : ∀ (n14 t : Nat), t + n14 = sT A → ∀ (ls : Array Slot), lv_has ls 4 [(0, .ref (h 0)), (1, .int (acc (acc2 0 (fun f t => fc A f t) (sT A) f) (fun t => fc A f t) t)), (2, .int (nI f)), (3, .int (nI t))] → W p l e rmX1_missNow s m args below meth c s.heap [] 0 0 Q (F0 m 14 ls []) := by
        intro n14
        induction n14 with
        | zero =>
          intro t hi14 ls hl
          obtain rfl : sT A = t := by omega
          refine lv_iload_n hx hb dX1_missNow_14 rfl (lv_at hl 3 rfl) ?_
          refine lv_aload_n hx hb dX1_missNow_15 rfl (lv_at hl 0 rfl) ?_
          refine va_get (D := D) (ci := 1) (v := .int (nI (sT A))) (C := RX1) (T := TX1) (N := 13) hx hb hts hin0 hown hK hP 0 rfl rfl 1 (by decide) (hts (.fieldLink RX1 40 "VoicePartsModel" "times" "I") (by decide +kernel)) (fun _ h9 => h9) rfl dX1_missNow_16 ?_
          refine n_icmp_ge (tgt := 59) hx hb (by omega) (by omega) dX1_missNow_19 (by decide) (fun c_19 => ?_) (fun c_19 => by exfalso; omega)
          refine lv_iinc (v := nI (f + 1)) (lv' := [(2, .int (nI (f + 1))), (0, .ref (h 0)), (1, .int (acc (acc2 0 (fun f t => fc A f t) (sT A) f) (fun t => fc A f t) (sT A))), (3, .int (nI (sT A)))]) hx hb dX1_missNow_59 hl (k := 2) rfl (nI_inc _) (by decide) rfl (fun ls hl => ?_)
          refine lv_goto (tgt := 4) hx hb dX1_missNow_62 (by decide) ?_
          exact ih4 (f + 1) (by omega) ls (lv_sub hl [1, 2, 0] rfl)
        | succ n14 ih14 =>
          intro t hi14 ls hl
          refine lv_iload_n hx hb dX1_missNow_14 rfl (lv_at hl 3 rfl) ?_
          refine lv_aload_n hx hb dX1_missNow_15 rfl (lv_at hl 0 rfl) ?_
          refine va_get (D := D) (ci := 1) (v := .int (nI (sT A))) (C := RX1) (T := TX1) (N := 13) hx hb hts hin0 hown hK hP 0 rfl rfl 1 (by decide) (hts (.fieldLink RX1 40 "VoicePartsModel" "times" "I") (by decide +kernel)) (fun _ h9 => h9) rfl dX1_missNow_16 ?_
          refine n_icmp_ge (tgt := 59) hx hb (by omega) (by omega) dX1_missNow_19 (by decide) (fun c_19 => by exfalso; omega) (fun c_19 => ?_)
          refine lv_iload_n hx hb dX1_missNow_22 rfl (lv_at hl 1 rfl) ?_
          refine lv_aload_n hx hb dX1_missNow_23 rfl (lv_at hl 0 rfl) ?_
          refine va_get (D := D) (ci := 1) (v := .int (nI (sJ A))) (C := RX1) (T := TX1) (N := 13) hx hb hts hin0 hown hK hP 0 rfl rfl 7 (by decide) (hts (.fieldLink RX1 76 "VoicePartsModel" "judge" "I") (by decide +kernel)) (fun _ h9 => h9) rfl dX1_missNow_24 ?_
          refine lv_aload_n hx hb dX1_missNow_27 rfl (lv_at hl 0 rfl) ?_
          refine va_get (D := D) (ci := 1) (v := .ref (h 1)) (C := RX1) (T := TX1) (N := 13) hx hb hts hin0 hown hK hP 0 rfl rfl 3 (by decide) (hts (.fieldLink RX1 7 "VoicePartsModel" "board" "[I") (by decide +kernel)) (fun _ h9 => h9) rfl dX1_missNow_28 ?_
          refine lv_bipush (v := nI 8) hx hb dX1_missNow_31 (by decide) ?_
          refine lv_iload_n hx hb dX1_missNow_33 rfl (lv_at hl 2 rfl) ?_
          refine n_imulc hx hb dX1_missNow_34 ?_
          refine lv_iload_n hx hb dX1_missNow_35 rfl (lv_at hl 3 rfl) ?_
          refine n_iadd hx hb dX1_missNow_36 ?_
          refine n_iald hx hb hK hP 1 0 rfl rfl (by omega) (by decide) dX1_missNow_37 ?_
          refine lv_aload_n hx hb dX1_missNow_38 rfl (lv_at hl 0 rfl) ?_
          refine lv_iload_n hx hb dX1_missNow_39 rfl (lv_at hl 2 rfl) ?_
          refine lv_iload_n hx hb dX1_missNow_40 rfl (lv_at hl 3 rfl) ?_
          refine ro_callV (As := [.int (nI f), .int (nI t)]) (rest := [.int (sB A (f * 8 + t)), .int (nI (sJ A)), .int (acc (acc2 0 (fun f t => fc A f t) (sT A) f) (fun t => fc A f t) t)]) ⟨hx, hb, hml, hown, hts⟩ (kX1_sumAt l D h cI cZ A M  hI (f) (t) (by omega) (by omega)) (cwV 2 hts gX1_missNow_X1_sumAt rfl rfl rfl (by decide +kernel) ⟨Nat.le_of_ble_eq_true rfl, Nat.le_of_ble_eq_true rfl⟩) vB_bl (vB_at hP hK) (va_recv hK hP (ci := 1) (q0 := 0) rfl rfl) rfl hl.1 rfl (Nat.le_of_ble_eq_true rfl) dX1_missNow_41 ⟨Nat.zero_le _, Nat.zero_le _⟩ ?_
          refine lv_isub hx hb dX1_missNow_44 ?_
          refine ro_callS (As := [.int ((sB A (f * 8 + t)) - (fS A f t))]) (rest := [.int (nI (sJ A)), .int (acc (acc2 0 (fun f t => fc A f t) (sT A) f) (fun t => fc A f t) t)]) ⟨hx, hb, hml, hown, hts⟩ (kX1_size l ((sB A (f * 8 + t)) - (fS A f t))) (va_cwS 1 hts gX1_missNow_X1_size rfl rfl rfl (by decide +kernel) ⟨Nat.le_of_ble_eq_true rfl, Nat.le_of_ble_eq_true rfl⟩) vT_bl vT_at rfl hl.1 rfl (Nat.le_of_ble_eq_true rfl) dX1_missNow_45 ⟨Nat.zero_le _, Nat.zero_le _⟩ ?_
          refine ro_callS (As := [.int (nI (sJ A)), .int (fab ((sB A (f * 8 + t)) - (fS A f t)))]) (rest := [.int (acc (acc2 0 (fun f t => fc A f t) (sT A) f) (fun t => fc A f t) t)]) ⟨hx, hb, hml, hown, hts⟩ (kX1_costOf l (sJ A) (fab ((sB A (f * 8 + t)) - (fS A f t))) (by omega)) (va_cwS 2 hts gX1_missNow_X1_costOf rfl rfl rfl (by decide +kernel) ⟨Nat.le_of_ble_eq_true rfl, Nat.le_of_ble_eq_true rfl⟩) vT_bl vT_at rfl hl.1 rfl (Nat.le_of_ble_eq_true rfl) dX1_missNow_48 ⟨Nat.zero_le _, Nat.zero_le _⟩ ?_
          refine n_top (y := fc A f t) (rfl) ?_
          refine lv_iadd hx hb dX1_missNow_51 ?_
          refine lv_istore_n (lv' := [(1, .int ((acc (acc2 0 (fun f t => fc A f t) (sT A) f) (fun t => fc A f t) t) + (fc A f t))), (0, .ref (h 0)), (2, .int (nI f)), (3, .int (nI t))]) hx hb dX1_missNow_52 rfl hl (by decide) rfl (fun ls hl => ?_)
          refine lv_iinc (v := nI (t + 1)) (lv' := [(3, .int (nI (t + 1))), (1, .int ((acc (acc2 0 (fun f t => fc A f t) (sT A) f) (fun t => fc A f t) t) + (fc A f t))), (0, .ref (h 0)), (2, .int (nI f))]) hx hb dX1_missNow_53 hl (k := 3) rfl (nI_inc _) (by decide) rfl (fun ls hl => ?_)
          refine lv_goto (tgt := 14) hx hb dX1_missNow_56 (by decide) ?_
          exact ih14 (t + 1) (by omega) ls (lv_sub hl [2, 1, 3, 0] rfl)
      exact lp14 (sT A) (0) (by omega) ls (lv_sub hl [1, 2, 3, 0] rfl)
  exact lp4 (sF A) (0) (by omega) ls (lv_sub hl [2, 1, 0] rfl)
def rmX1_miss : Room := { frames := 3, cells := 0, slots := 0, locals := 70 }
set_option maxHeartbeats 4000000 in
set_option maxRecDepth 100000 in
/-- miss -/
theorem kX1_miss (l : Launch) (D : va_G) (h : Nat → Nat) (cI cZ : ClassId) (A : St) (M : Nat → Int32) (hI : Inv A) : RO l yX1_miss wsX1_miss rmX1_miss [.ref (h 0)] (vB D (mw h cI cZ A M) [(cI, .int), (cZ, .boolean)]) (fm A) := by
  refine ro_ofW (cc := cX1_miss) (maxL := 1) (by decide) rfl (Nat.le_of_ble_eq_true rfl) ?_
  intro p e s m below meth c args Q hx hb hml hown hts hB hQ ls hl
  have hown : s.vm.findClass RX1 = some m.cls := hown
  obtain ⟨hP, hK⟩ := hB
  have hin0 : ∀ w ∈ u_ws RX1 TX1 13, w ∈ wsX1_miss := fun _ h => List.mem_cons_of_mem _ (List.mem_append_right _ h)
  have hl : lv_has ls 1 [(0, .ref (h 0))] := hl
  have hF := hI.F
  have hT := hI.T
  have hK3 := hI.K
  have hJ := hI.J
  have hZ := hI.Z
  refine lv_aload_n hx hb dX1_miss_0 rfl (lv_at hl 0 rfl) ?_
  refine ro_callV (As := []) (rest := []) ⟨hx, hb, hml, hown, hts⟩ (kX1_missNow l D h cI cZ A M  hI ) (cwV 0 hts gX1_miss_X1_missNow rfl rfl rfl (by decide +kernel) ⟨Nat.le_of_ble_eq_true rfl, Nat.le_of_ble_eq_true rfl⟩) vB_bl (vB_at hP hK) (va_recv hK hP (ci := 1) (q0 := 0) rfl rfl) rfl hl.1 rfl (Nat.le_of_ble_eq_true rfl) dX1_miss_1 ⟨Nat.zero_le _, Nat.zero_le _⟩ ?_
  exact hQ dX1_miss_4 (rfl)
def rmX1_shareOf : Room := { frames := 2, cells := 0, slots := 0, locals := 47 }
set_option maxHeartbeats 4000000 in
set_option maxRecDepth 100000 in
/-- shareOf -/
theorem kX1_shareOf (l : Launch) (D : va_G) (h : Nat → Nat) (cI cZ : ClassId) (A : St) (M : Nat → Int32) (hI : Inv A) (k f t : Nat) (hk : k < 3) (hf : f < 6) (ht : t < 8) : RO l yX1_shareOf wsX1_shareOf rmX1_shareOf [.ref (h 0), .int (nI k), .int (nI f), .int (nI t)] (vB D (mw h cI cZ A M) [(cI, .int), (cZ, .boolean)]) (fsh A k f t) := by
  refine ro_ofW (cc := cX1_shareOf) (maxL := 11) (by decide) rfl (Nat.le_of_ble_eq_true rfl) ?_
  intro p e s m below meth c args Q hx hb hml hown hts hB hQ ls hl
  have hown : s.vm.findClass RX1 = some m.cls := hown
  obtain ⟨hP, hK⟩ := hB
  have hin0 : ∀ w ∈ u_ws RX1 TX1 13, w ∈ wsX1_shareOf := fun _ h => List.mem_cons_of_mem _ (List.mem_append_right _ h)
  have hl : lv_has ls 11 [(0, .ref (h 0)), (1, .int (nI k)), (2, .int (nI f)), (3, .int (nI t))] := hl
  have hF := hI.F
  have hT := hI.T
  have hK3 := hI.K
  have hJ := hI.J
  have hZ := hI.Z
  refine lv_aload_n hx hb dX1_shareOf_0 rfl (lv_at hl 0 rfl) ?_
  refine va_get (D := D) (ci := 1) (v := .ref (h 1)) (C := RX1) (T := TX1) (N := 13) hx hb hts hin0 hown hK hP 0 rfl rfl 3 (by decide) (hts (.fieldLink RX1 7 "VoicePartsModel" "board" "[I") (by decide +kernel)) (fun _ h9 => h9) rfl dX1_shareOf_1 ?_
  refine lv_bipush (v := nI 8) hx hb dX1_shareOf_4 (by decide) ?_
  refine lv_iload_n hx hb dX1_shareOf_6 rfl (lv_at hl 2 rfl) ?_
  refine n_imulc hx hb dX1_shareOf_7 ?_
  refine lv_iload_n hx hb dX1_shareOf_8 rfl (lv_at hl 3 rfl) ?_
  refine n_iadd hx hb dX1_shareOf_9 ?_
  refine n_iald hx hb hK hP 1 0 rfl rfl (by omega) (by decide) dX1_shareOf_10 ?_
  refine lv_istore (lv' := [(4, .int (sB A (f * 8 + t))), (0, .ref (h 0)), (1, .int (nI k)), (2, .int (nI f)), (3, .int (nI t))]) hx hb dX1_shareOf_11 hl (by decide) rfl (fun ls hl => ?_)
  refine lv_aload_n hx hb dX1_shareOf_13 rfl (lv_at hl 1 rfl) ?_
  refine lv_iload_n hx hb dX1_shareOf_14 rfl (lv_at hl 3 rfl) ?_
  refine lv_iload_n hx hb dX1_shareOf_15 rfl (lv_at hl 4 rfl) ?_
  refine ro_callV (As := [.int (nI f), .int (nI t)]) (rest := []) ⟨hx, hb, hml, hown, hts⟩ (kX1_sumAt l D h cI cZ A M  hI (f) (t) (by omega) (by omega)) (cwV 2 hts gX1_shareOf_X1_sumAt rfl rfl rfl (by decide +kernel) ⟨Nat.le_of_ble_eq_true rfl, Nat.le_of_ble_eq_true rfl⟩) vB_bl (vB_at hP hK) (va_recv hK hP (ci := 1) (q0 := 0) rfl rfl) rfl hl.1 rfl (Nat.le_of_ble_eq_true rfl) dX1_shareOf_16 ⟨Nat.zero_le _, Nat.zero_le _⟩ ?_
  refine lv_istore (lv' := [(5, .int (fS A f t)), (4, .int (sB A (f * 8 + t))), (0, .ref (h 0)), (1, .int (nI k)), (2, .int (nI f)), (3, .int (nI t))]) hx hb dX1_shareOf_19 hl (by decide) rfl (fun ls hl => ?_)
  refine lv_iload hx hb dX1_shareOf_21 (lv_at hl 0 rfl) ?_
  refine lv_if_ne (tgt := 37) hx hb dX1_shareOf_23 (by decide) (fun c_23 => ?_) (fun c_23 => ?_)
  · refine lv_iload hx hb dX1_shareOf_37 (lv_at hl 1 rfl) ?_
    refine lv_istore (lv' := [(6, .int (sB A (f * 8 + t))), (5, .int (fS A f t)), (4, .int (sB A (f * 8 + t))), (0, .ref (h 0)), (1, .int (nI k)), (2, .int (nI f)), (3, .int (nI t))]) hx hb dX1_shareOf_39 hl (by decide) rfl (fun ls hl => ?_)
    refine lv_iconst (v := nI 0) hx hb dX1_shareOf_41 (by decide) ?_
    refine lv_istore (lv' := [(7, .int (nI 0)), (6, .int (sB A (f * 8 + t))), (5, .int (fS A f t)), (4, .int (sB A (f * 8 + t))), (0, .ref (h 0)), (1, .int (nI k)), (2, .int (nI f)), (3, .int (nI t))]) hx hb dX1_shareOf_42 hl (by decide) rfl (fun ls hl => ?_)
    have lp44 : ∀ (n44 j : Nat), j + n44 = sK A → ∀ (ls : Array Slot), lv_has ls 11 [(0, .ref (h 0)), (1, .int (nI k)), (2, .int (nI f)), (3, .int (nI t)), (4, .int (sB A (f * 8 + t))), (5, .int (fS A f t)), (6, .int (flf (sB A (f * 8 + t)) (fS A f t) (fth A f t) j)), (7, .int (nI j))] → W p l e rmX1_shareOf s m args below meth c s.heap [] 0 0 Q (F0 m 44 ls []) := by
      intro n44
      induction n44 with
      | zero =>
        intro j hi44 ls hl
        obtain rfl : sK A = j := by omega
        refine lv_iload hx hb dX1_shareOf_44 (lv_at hl 7 rfl) ?_
        refine lv_aload_n hx hb dX1_shareOf_46 rfl (lv_at hl 0 rfl) ?_
        refine va_get (D := D) (ci := 1) (v := .int (nI (sK A))) (C := RX1) (T := TX1) (N := 13) hx hb hts hin0 hown hK hP 0 rfl rfl 2 (by decide) (hts (.fieldLink RX1 43 "VoicePartsModel" "voices" "I") (by decide +kernel)) (fun _ h9 => h9) rfl dX1_shareOf_47 ?_
        refine n_icmp_ge (tgt := 78) hx hb (by omega) (by omega) dX1_shareOf_50 (by decide) (fun c_50 => ?_) (fun c_50 => by exfalso; omega)
        refine lv_iload hx hb dX1_shareOf_78 (lv_at hl 4 rfl) ?_
        refine lv_aload_n hx hb dX1_shareOf_80 rfl (lv_at hl 0 rfl) ?_
        refine lv_iload_n hx hb dX1_shareOf_81 rfl (lv_at hl 1 rfl) ?_
        refine lv_iload_n hx hb dX1_shareOf_82 rfl (lv_at hl 2 rfl) ?_
        refine lv_iload_n hx hb dX1_shareOf_83 rfl (lv_at hl 3 rfl) ?_
        refine ro_callV (As := [.int (nI k), .int (nI f), .int (nI t)]) (rest := [.int (sB A (f * 8 + t))]) ⟨hx, hb, hml, hown, hts⟩ (kX1_part l D h cI cZ A M  (k) (f) (t) (by omega) (by omega) (by omega)) (cwV 3 hts gX1_shareOf_X1_part rfl rfl rfl (by decide +kernel) ⟨Nat.le_of_ble_eq_true rfl, Nat.le_of_ble_eq_true rfl⟩) vB_bl (vB_at hP hK) (va_recv hK hP (ci := 1) (q0 := 0) rfl rfl) rfl hl.1 rfl (Nat.le_of_ble_eq_true rfl) dX1_shareOf_84 ⟨Nat.zero_le _, Nat.zero_le _⟩ ?_
        refine lv_imul hx hb dX1_shareOf_87 ?_
        refine n_top (y := fth A f t k) (rfl) ?_
        refine lv_iload hx hb dX1_shareOf_88 (lv_at hl 5 rfl) ?_
        refine lv_irem hx hb dX1_shareOf_90 (c_23) ?_
        refine n_top (y := frm (fth A f t k) (fS A f t)) (rfl) ?_
        refine lv_istore (lv' := [(7, .int (frm (fth A f t k) (fS A f t))), (0, .ref (h 0)), (1, .int (nI k)), (2, .int (nI f)), (3, .int (nI t)), (4, .int (sB A (f * 8 + t))), (5, .int (fS A f t)), (6, .int (flf (sB A (f * 8 + t)) (fS A f t) (fth A f t) (sK A)))]) hx hb dX1_shareOf_91 hl (by decide) rfl (fun ls hl => ?_)
        refine lv_iconst (v := nI 0) hx hb dX1_shareOf_93 (by decide) ?_
        refine lv_istore (lv' := [(8, .int (nI 0)), (7, .int (frm (fth A f t k) (fS A f t))), (0, .ref (h 0)), (1, .int (nI k)), (2, .int (nI f)), (3, .int (nI t)), (4, .int (sB A (f * 8 + t))), (5, .int (fS A f t)), (6, .int (flf (sB A (f * 8 + t)) (fS A f t) (fth A f t) (sK A)))]) hx hb dX1_shareOf_94 hl (by decide) rfl (fun ls hl => ?_)
        refine lv_iconst (v := nI 0) hx hb dX1_shareOf_96 (by decide) ?_
        refine lv_istore (lv' := [(9, .int (nI 0)), (8, .int (nI 0)), (7, .int (frm (fth A f t k) (fS A f t))), (0, .ref (h 0)), (1, .int (nI k)), (2, .int (nI f)), (3, .int (nI t)), (4, .int (sB A (f * 8 + t))), (5, .int (fS A f t)), (6, .int (flf (sB A (f * 8 + t)) (fS A f t) (fth A f t) (sK A)))]) hx hb dX1_shareOf_97 hl (by decide) rfl (fun ls hl => ?_)
        have lp99 : ∀ (n99 j : Nat), j + n99 = sK A → ∀ (ls : Array Slot), lv_has ls 11 [(0, .ref (h 0)), (1, .int (nI k)), (2, .int (nI f)), (3, .int (nI t)), (4, .int (sB A (f * 8 + t))), (5, .int (fS A f t)), (6, .int (flf (sB A (f * 8 + t)) (fS A f t) (fth A f t) (sK A))), (7, .int (frm (fth A f t k) (fS A f t))), (8, .int (nI (cnt (fah A k f t) j))), (9, .int (nI j))] → W p l e rmX1_shareOf s m args below meth c s.heap [] 0 0 Q (F0 m 99 ls []) := by
          intro n99
          induction n99 with
          | zero =>
            intro j hi99 ls hl
            obtain rfl : sK A = j := by omega
            refine lv_iload hx hb dX1_shareOf_99 (lv_at hl 9 rfl) ?_
            refine lv_aload_n hx hb dX1_shareOf_101 rfl (lv_at hl 0 rfl) ?_
            refine va_get (D := D) (ci := 1) (v := .int (nI (sK A))) (C := RX1) (T := TX1) (N := 13) hx hb hts hin0 hown hK hP 0 rfl rfl 2 (by decide) (hts (.fieldLink RX1 43 "VoicePartsModel" "voices" "I") (by decide +kernel)) (fun _ h9 => h9) rfl dX1_shareOf_102 ?_
            refine n_icmp_ge (tgt := 160) hx hb (by omega) (by omega) dX1_shareOf_105 (by decide) (fun c_105 => ?_) (fun c_105 => by exfalso; omega)
            refine lv_iload hx hb dX1_shareOf_160 (lv_at hl 4 rfl) ?_
            refine lv_aload_n hx hb dX1_shareOf_162 rfl (lv_at hl 0 rfl) ?_
            refine lv_iload_n hx hb dX1_shareOf_163 rfl (lv_at hl 1 rfl) ?_
            refine lv_iload_n hx hb dX1_shareOf_164 rfl (lv_at hl 2 rfl) ?_
            refine lv_iload_n hx hb dX1_shareOf_165 rfl (lv_at hl 3 rfl) ?_
            refine ro_callV (As := [.int (nI k), .int (nI f), .int (nI t)]) (rest := [.int (sB A (f * 8 + t))]) ⟨hx, hb, hml, hown, hts⟩ (kX1_part l D h cI cZ A M  (k) (f) (t) (by omega) (by omega) (by omega)) (cwV 3 hts gX1_shareOf_X1_part rfl rfl rfl (by decide +kernel) ⟨Nat.le_of_ble_eq_true rfl, Nat.le_of_ble_eq_true rfl⟩) vB_bl (vB_at hP hK) (va_recv hK hP (ci := 1) (q0 := 0) rfl rfl) rfl hl.1 rfl (Nat.le_of_ble_eq_true rfl) dX1_shareOf_166 ⟨Nat.zero_le _, Nat.zero_le _⟩ ?_
            refine lv_imul hx hb dX1_shareOf_169 ?_
            refine n_top (y := fth A f t k) (rfl) ?_
            refine lv_iload hx hb dX1_shareOf_170 (lv_at hl 5 rfl) ?_
            refine lv_idiv hx hb dX1_shareOf_172 (c_23) ?_
            refine lv_iload hx hb dX1_shareOf_173 (lv_at hl 8 rfl) ?_
            refine lv_iload hx hb dX1_shareOf_175 (lv_at hl 6 rfl) ?_
            refine lv_icmp_ge (tgt := 184) hx hb dX1_shareOf_177 (by decide) (fun c_177 => ?_) (fun c_177 => ?_)
            · refine lv_iconst (v := nI 0) hx hb dX1_shareOf_184 (by decide) ?_
              refine lv_iadd hx hb dX1_shareOf_185 ?_
              exact hQ dX1_shareOf_186 (by unfold fsh; rw [if_neg c_23, if_neg (Int32.not_lt.mpr c_177)]; first | rfl | done)
            · refine lv_iconst (v := nI 1) hx hb dX1_shareOf_180 (by decide) ?_
              refine lv_goto (tgt := 185) hx hb dX1_shareOf_181 (by decide) ?_
              refine lv_iadd hx hb dX1_shareOf_185 ?_
              exact hQ dX1_shareOf_186 (by unfold fsh; rw [if_neg c_23, if_pos (Int32.not_le.mp c_177)]; first | rfl | done)
          | succ n99 ih99 =>
            intro j hi99 ls hl
            refine lv_iload hx hb dX1_shareOf_99 (lv_at hl 9 rfl) ?_
            refine lv_aload_n hx hb dX1_shareOf_101 rfl (lv_at hl 0 rfl) ?_
            refine va_get (D := D) (ci := 1) (v := .int (nI (sK A))) (C := RX1) (T := TX1) (N := 13) hx hb hts hin0 hown hK hP 0 rfl rfl 2 (by decide) (hts (.fieldLink RX1 43 "VoicePartsModel" "voices" "I") (by decide +kernel)) (fun _ h9 => h9) rfl dX1_shareOf_102 ?_
            refine n_icmp_ge (tgt := 160) hx hb (by omega) (by omega) dX1_shareOf_105 (by decide) (fun c_105 => by exfalso; omega) (fun c_105 => ?_)
            refine lv_iload hx hb dX1_shareOf_108 (lv_at hl 4 rfl) ?_
            refine lv_aload_n hx hb dX1_shareOf_110 rfl (lv_at hl 0 rfl) ?_
            refine lv_iload hx hb dX1_shareOf_111 (lv_at hl 9 rfl) ?_
            refine lv_iload_n hx hb dX1_shareOf_113 rfl (lv_at hl 2 rfl) ?_
            refine lv_iload_n hx hb dX1_shareOf_114 rfl (lv_at hl 3 rfl) ?_
            refine ro_callV (As := [.int (nI j), .int (nI f), .int (nI t)]) (rest := [.int (sB A (f * 8 + t))]) ⟨hx, hb, hml, hown, hts⟩ (kX1_part l D h cI cZ A M  (j) (f) (t) (by omega) (by omega) (by omega)) (cwV 3 hts gX1_shareOf_X1_part rfl rfl rfl (by decide +kernel) ⟨Nat.le_of_ble_eq_true rfl, Nat.le_of_ble_eq_true rfl⟩) vB_bl (vB_at hP hK) (va_recv hK hP (ci := 1) (q0 := 0) rfl rfl) rfl hl.1 rfl (Nat.le_of_ble_eq_true rfl) dX1_shareOf_115 ⟨Nat.zero_le _, Nat.zero_le _⟩ ?_
            refine lv_imul hx hb dX1_shareOf_118 ?_
            refine n_top (y := fth A f t j) (rfl) ?_
            refine lv_iload hx hb dX1_shareOf_119 (lv_at hl 5 rfl) ?_
            refine lv_irem hx hb dX1_shareOf_121 (c_23) ?_
            refine n_top (y := frm (fth A f t j) (fS A f t)) (rfl) ?_
            refine lv_istore (lv' := [(10, .int (frm (fth A f t j) (fS A f t))), (0, .ref (h 0)), (1, .int (nI k)), (2, .int (nI f)), (3, .int (nI t)), (4, .int (sB A (f * 8 + t))), (5, .int (fS A f t)), (6, .int (flf (sB A (f * 8 + t)) (fS A f t) (fth A f t) (sK A))), (7, .int (frm (fth A f t k) (fS A f t))), (8, .int (nI (cnt (fah A k f t) j))), (9, .int (nI j))]) hx hb dX1_shareOf_122 hl (by decide) rfl (fun ls hl => ?_)
            refine lv_iload hx hb dX1_shareOf_124 (lv_at hl 9 rfl) ?_
            refine lv_iload hx hb dX1_shareOf_126 (lv_at hl 0 rfl) ?_
            refine lv_iload hx hb dX1_shareOf_128 (lv_at hl 8 rfl) ?_
            refine lv_icmp_gt (tgt := 146) hx hb dX1_shareOf_130 (by decide) (fun c_130 => ?_) (fun c_130 => ?_)
            · refine lv_iconst (v := nI 1) hx hb dX1_shareOf_146 (by decide) ?_
              refine lv_goto (tgt := 151) hx hb dX1_shareOf_147 (by decide) ?_
              refine n_iadd hx hb dX1_shareOf_151 ?_
              refine n_top (y := nI (cnt (fah A k f t) (j + 1))) (by rw [cnt_yes (show _ = true from decide_eq_true (Or.inl c_130))]) ?_
              refine lv_istore (lv' := [(8, .int (nI (cnt (fah A k f t) (j + 1)))), (10, .int (frm (fth A f t j) (fS A f t))), (0, .ref (h 0)), (1, .int (nI k)), (2, .int (nI f)), (3, .int (nI t)), (4, .int (sB A (f * 8 + t))), (5, .int (fS A f t)), (6, .int (flf (sB A (f * 8 + t)) (fS A f t) (fth A f t) (sK A))), (7, .int (frm (fth A f t k) (fS A f t))), (9, .int (nI j))]) hx hb dX1_shareOf_152 hl (by decide) rfl (fun ls hl => ?_)
              refine lv_iinc (v := nI (j + 1)) (lv' := [(9, .int (nI (j + 1))), (8, .int (nI (cnt (fah A k f t) (j + 1)))), (10, .int (frm (fth A f t j) (fS A f t))), (0, .ref (h 0)), (1, .int (nI k)), (2, .int (nI f)), (3, .int (nI t)), (4, .int (sB A (f * 8 + t))), (5, .int (fS A f t)), (6, .int (flf (sB A (f * 8 + t)) (fS A f t) (fth A f t) (sK A))), (7, .int (frm (fth A f t k) (fS A f t)))]) hx hb dX1_shareOf_154 hl (k := 10) rfl (nI_inc _) (by decide) rfl (fun ls hl => ?_)
              refine lv_goto (tgt := 99) hx hb dX1_shareOf_157 (by decide) ?_
              exact ih99 (j + 1) (by omega) ls (lv_sub hl [3, 4, 5, 6, 7, 8, 9, 10, 1, 0] rfl)
            · refine lv_iload hx hb dX1_shareOf_133 (lv_at hl 0 rfl) ?_
              refine lv_iload hx hb dX1_shareOf_135 (lv_at hl 8 rfl) ?_
              refine lv_icmp_ne (tgt := 150) hx hb dX1_shareOf_137 (by decide) (fun c_137 => ?_) (fun c_137 => ?_)
              · refine lv_iconst (v := nI 0) hx hb dX1_shareOf_150 (by decide) ?_
                refine n_iadd hx hb dX1_shareOf_151 ?_
                refine n_top (y := nI (cnt (fah A k f t) (j + 1))) (by rw [cnt_no (show _ = false from decide_eq_false (fun q => q.elim c_130 (fun z => c_137 z.1)))]; rfl) ?_
                refine lv_istore (lv' := [(8, .int (nI (cnt (fah A k f t) (j + 1)))), (10, .int (frm (fth A f t j) (fS A f t))), (0, .ref (h 0)), (1, .int (nI k)), (2, .int (nI f)), (3, .int (nI t)), (4, .int (sB A (f * 8 + t))), (5, .int (fS A f t)), (6, .int (flf (sB A (f * 8 + t)) (fS A f t) (fth A f t) (sK A))), (7, .int (frm (fth A f t k) (fS A f t))), (9, .int (nI j))]) hx hb dX1_shareOf_152 hl (by decide) rfl (fun ls hl => ?_)
                refine lv_iinc (v := nI (j + 1)) (lv' := [(9, .int (nI (j + 1))), (8, .int (nI (cnt (fah A k f t) (j + 1)))), (10, .int (frm (fth A f t j) (fS A f t))), (0, .ref (h 0)), (1, .int (nI k)), (2, .int (nI f)), (3, .int (nI t)), (4, .int (sB A (f * 8 + t))), (5, .int (fS A f t)), (6, .int (flf (sB A (f * 8 + t)) (fS A f t) (fth A f t) (sK A))), (7, .int (frm (fth A f t k) (fS A f t)))]) hx hb dX1_shareOf_154 hl (k := 10) rfl (nI_inc _) (by decide) rfl (fun ls hl => ?_)
                refine lv_goto (tgt := 99) hx hb dX1_shareOf_157 (by decide) ?_
                exact ih99 (j + 1) (by omega) ls (lv_sub hl [3, 4, 5, 6, 7, 8, 9, 10, 1, 0] rfl)
              · refine lv_iload hx hb dX1_shareOf_140 (lv_at hl 10 rfl) ?_
                refine lv_iload_n hx hb dX1_shareOf_142 rfl (lv_at hl 2 rfl) ?_
                refine n_icmp_ge (tgt := 150) hx hb (by omega) (by omega) dX1_shareOf_143 (by decide) (fun c_143 => ?_) (fun c_143 => ?_)
                · refine lv_iconst (v := nI 0) hx hb dX1_shareOf_150 (by decide) ?_
                  refine n_iadd hx hb dX1_shareOf_151 ?_
                  refine n_top (y := nI (cnt (fah A k f t) (j + 1))) (by rw [cnt_no (show _ = false from decide_eq_false (fun q => q.elim c_130 (fun z => absurd z.2 (by omega))))]; rfl) ?_
                  refine lv_istore (lv' := [(8, .int (nI (cnt (fah A k f t) (j + 1)))), (10, .int (frm (fth A f t j) (fS A f t))), (0, .ref (h 0)), (1, .int (nI k)), (2, .int (nI f)), (3, .int (nI t)), (4, .int (sB A (f * 8 + t))), (5, .int (fS A f t)), (6, .int (flf (sB A (f * 8 + t)) (fS A f t) (fth A f t) (sK A))), (7, .int (frm (fth A f t k) (fS A f t))), (9, .int (nI j))]) hx hb dX1_shareOf_152 hl (by decide) rfl (fun ls hl => ?_)
                  refine lv_iinc (v := nI (j + 1)) (lv' := [(9, .int (nI (j + 1))), (8, .int (nI (cnt (fah A k f t) (j + 1)))), (10, .int (frm (fth A f t j) (fS A f t))), (0, .ref (h 0)), (1, .int (nI k)), (2, .int (nI f)), (3, .int (nI t)), (4, .int (sB A (f * 8 + t))), (5, .int (fS A f t)), (6, .int (flf (sB A (f * 8 + t)) (fS A f t) (fth A f t) (sK A))), (7, .int (frm (fth A f t k) (fS A f t)))]) hx hb dX1_shareOf_154 hl (k := 10) rfl (nI_inc _) (by decide) rfl (fun ls hl => ?_)
                  refine lv_goto (tgt := 99) hx hb dX1_shareOf_157 (by decide) ?_
                  exact ih99 (j + 1) (by omega) ls (lv_sub hl [3, 4, 5, 6, 7, 8, 9, 10, 1, 0] rfl)
                · refine lv_iconst (v := nI 1) hx hb dX1_shareOf_146 (by decide) ?_
                  refine lv_goto (tgt := 151) hx hb dX1_shareOf_147 (by decide) ?_
                  refine n_iadd hx hb dX1_shareOf_151 ?_
                  refine n_top (y := nI (cnt (fah A k f t) (j + 1))) (by rw [cnt_yes (show _ = true from decide_eq_true (Or.inr ⟨c_137, by omega⟩))]) ?_
                  refine lv_istore (lv' := [(8, .int (nI (cnt (fah A k f t) (j + 1)))), (10, .int (frm (fth A f t j) (fS A f t))), (0, .ref (h 0)), (1, .int (nI k)), (2, .int (nI f)), (3, .int (nI t)), (4, .int (sB A (f * 8 + t))), (5, .int (fS A f t)), (6, .int (flf (sB A (f * 8 + t)) (fS A f t) (fth A f t) (sK A))), (7, .int (frm (fth A f t k) (fS A f t))), (9, .int (nI j))]) hx hb dX1_shareOf_152 hl (by decide) rfl (fun ls hl => ?_)
                  refine lv_iinc (v := nI (j + 1)) (lv' := [(9, .int (nI (j + 1))), (8, .int (nI (cnt (fah A k f t) (j + 1)))), (10, .int (frm (fth A f t j) (fS A f t))), (0, .ref (h 0)), (1, .int (nI k)), (2, .int (nI f)), (3, .int (nI t)), (4, .int (sB A (f * 8 + t))), (5, .int (fS A f t)), (6, .int (flf (sB A (f * 8 + t)) (fS A f t) (fth A f t) (sK A))), (7, .int (frm (fth A f t k) (fS A f t)))]) hx hb dX1_shareOf_154 hl (k := 10) rfl (nI_inc _) (by decide) rfl (fun ls hl => ?_)
                  refine lv_goto (tgt := 99) hx hb dX1_shareOf_157 (by decide) ?_
                  exact ih99 (j + 1) (by omega) ls (lv_sub hl [3, 4, 5, 6, 7, 8, 9, 10, 1, 0] rfl)
        exact lp99 (sK A) (0) (by omega) ls (lv_sub hl [3, 4, 5, 6, 7, 8, 9, 2, 1, 0] rfl)
      | succ n44 ih44 =>
        intro j hi44 ls hl
        refine lv_iload hx hb dX1_shareOf_44 (lv_at hl 7 rfl) ?_
        refine lv_aload_n hx hb dX1_shareOf_46 rfl (lv_at hl 0 rfl) ?_
        refine va_get (D := D) (ci := 1) (v := .int (nI (sK A))) (C := RX1) (T := TX1) (N := 13) hx hb hts hin0 hown hK hP 0 rfl rfl 2 (by decide) (hts (.fieldLink RX1 43 "VoicePartsModel" "voices" "I") (by decide +kernel)) (fun _ h9 => h9) rfl dX1_shareOf_47 ?_
        refine n_icmp_ge (tgt := 78) hx hb (by omega) (by omega) dX1_shareOf_50 (by decide) (fun c_50 => by exfalso; omega) (fun c_50 => ?_)
        refine lv_iload hx hb dX1_shareOf_53 (lv_at hl 6 rfl) ?_
        refine lv_iload hx hb dX1_shareOf_55 (lv_at hl 4 rfl) ?_
        refine lv_aload_n hx hb dX1_shareOf_57 rfl (lv_at hl 0 rfl) ?_
        refine lv_iload hx hb dX1_shareOf_58 (lv_at hl 7 rfl) ?_
        refine lv_iload_n hx hb dX1_shareOf_60 rfl (lv_at hl 2 rfl) ?_
        refine lv_iload_n hx hb dX1_shareOf_61 rfl (lv_at hl 3 rfl) ?_
        refine ro_callV (As := [.int (nI j), .int (nI f), .int (nI t)]) (rest := [.int (sB A (f * 8 + t)), .int (flf (sB A (f * 8 + t)) (fS A f t) (fth A f t) j)]) ⟨hx, hb, hml, hown, hts⟩ (kX1_part l D h cI cZ A M  (j) (f) (t) (by omega) (by omega) (by omega)) (cwV 3 hts gX1_shareOf_X1_part rfl rfl rfl (by decide +kernel) ⟨Nat.le_of_ble_eq_true rfl, Nat.le_of_ble_eq_true rfl⟩) vB_bl (vB_at hP hK) (va_recv hK hP (ci := 1) (q0 := 0) rfl rfl) rfl hl.1 rfl (Nat.le_of_ble_eq_true rfl) dX1_shareOf_62 ⟨Nat.zero_le _, Nat.zero_le _⟩ ?_
        refine lv_imul hx hb dX1_shareOf_65 ?_
        refine n_top (y := fth A f t j) (rfl) ?_
        refine lv_iload hx hb dX1_shareOf_66 (lv_at hl 5 rfl) ?_
        refine lv_idiv hx hb dX1_shareOf_68 (c_23) ?_
        refine lv_isub hx hb dX1_shareOf_69 ?_
        refine lv_istore (lv' := [(6, .int ((flf (sB A (f * 8 + t)) (fS A f t) (fth A f t) j) - ((fth A f t j) / (fS A f t)))), (0, .ref (h 0)), (1, .int (nI k)), (2, .int (nI f)), (3, .int (nI t)), (4, .int (sB A (f * 8 + t))), (5, .int (fS A f t)), (7, .int (nI j))]) hx hb dX1_shareOf_70 hl (by decide) rfl (fun ls hl => ?_)
        refine lv_iinc (v := nI (j + 1)) (lv' := [(7, .int (nI (j + 1))), (6, .int ((flf (sB A (f * 8 + t)) (fS A f t) (fth A f t) j) - ((fth A f t j) / (fS A f t)))), (0, .ref (h 0)), (1, .int (nI k)), (2, .int (nI f)), (3, .int (nI t)), (4, .int (sB A (f * 8 + t))), (5, .int (fS A f t))]) hx hb dX1_shareOf_72 hl (k := 7) rfl (nI_inc _) (by decide) rfl (fun ls hl => ?_)
        refine lv_goto (tgt := 44) hx hb dX1_shareOf_75 (by decide) ?_
        exact ih44 (j + 1) (by omega) ls (lv_sub hl [2, 3, 4, 5, 6, 7, 1, 0] rfl)
    exact lp44 (sK A) (0) (by omega) ls (lv_sub hl [4, 5, 6, 7, 3, 2, 1, 0] rfl)
  · refine lv_iload_n hx hb dX1_shareOf_26 rfl (lv_at hl 3 rfl) ?_
    refine n_if_ne (tgt := 35) hx hb (by omega) dX1_shareOf_27 (by decide) (fun c_27 => ?_) (fun c_27 => ?_)
    · refine lv_iconst (v := nI 0) hx hb dX1_shareOf_35 (by decide) ?_
      exact hQ dX1_shareOf_36 (by unfold fsh; rw [if_pos c_23, if_neg c_27]; first | rfl | done)
    · refine lv_iload hx hb dX1_shareOf_30 (lv_at hl 1 rfl) ?_
      refine lv_goto (tgt := 36) hx hb dX1_shareOf_32 (by decide) ?_
      exact hQ dX1_shareOf_36 (by unfold fsh; rw [if_pos c_23, if_pos c_27])
def rmX1_share : Room := { frames := 3, cells := 0, slots := 0, locals := 77 }
set_option maxHeartbeats 4000000 in
set_option maxRecDepth 100000 in
/-- share -/
theorem kX1_share (l : Launch) (D : va_G) (h : Nat → Nat) (cI cZ : ClassId) (A : St) (M : Nat → Int32) (hI : Inv A) (x y z : Int32) : RO l yX1_share wsX1_share rmX1_share [.ref (h 0), .int x, .int y, .int z] (vB D (mw h cI cZ A M) [(cI, .int), (cZ, .boolean)]) (aSh A x y z) := by
  refine ro_ofW (cc := cX1_share) (maxL := 4) (by decide) rfl (Nat.le_of_ble_eq_true rfl) ?_
  intro p e s m below meth c args Q hx hb hml hown hts hB hQ ls hl
  have hown : s.vm.findClass RX1 = some m.cls := hown
  obtain ⟨hP, hK⟩ := hB
  have hin0 : ∀ w ∈ u_ws RX1 TX1 13, w ∈ wsX1_share := fun _ h => List.mem_cons_of_mem _ (List.mem_append_right _ h)
  have hl : lv_has ls 4 [(0, .ref (h 0)), (1, .int x), (2, .int y), (3, .int z)] := hl
  have hF := hI.F
  have hT := hI.T
  have hK3 := hI.K
  have hJ := hI.J
  have hZ := hI.Z
  refine lv_aload_n hx hb dX1_share_0 rfl (lv_at hl 0 rfl) ?_
  refine lv_iload_n hx hb dX1_share_1 rfl (lv_at hl 1 rfl) ?_
  refine ro_callV (As := [.int x]) (rest := []) ⟨hx, hb, hml, hown, hts⟩ (kX1_isVoice l D h cI cZ A M  hI (x)) (cwV 1 hts gX1_share_X1_isVoice rfl rfl rfl (by decide +kernel) ⟨Nat.le_of_ble_eq_true rfl, Nat.le_of_ble_eq_true rfl⟩) vB_bl (vB_at hP hK) (va_recv hK hP (ci := 1) (q0 := 0) rfl rfl) rfl hl.1 rfl (Nat.le_of_ble_eq_true rfl) dX1_share_2 ⟨Nat.zero_le _, Nat.zero_le _⟩ ?_
  refine b_if_eq (tgt := 27) hx hb dX1_share_5 (by decide) (fun c_5 => ?_) (fun c_5 => ?_)
  · refine lv_iconst (v := (-1)) hx hb dX1_share_27 (by decide) ?_
    exact hQ dX1_share_28 (by unfold aSh; rw [if_neg (fun q => c_5 q.1)])
  · refine lv_aload_n hx hb dX1_share_8 rfl (lv_at hl 0 rfl) ?_
    refine lv_iload_n hx hb dX1_share_9 rfl (lv_at hl 2 rfl) ?_
    refine lv_iload_n hx hb dX1_share_10 rfl (lv_at hl 3 rfl) ?_
    refine ro_callV (As := [.int y, .int z]) (rest := []) ⟨hx, hb, hml, hown, hts⟩ (kX1_isPlace l D h cI cZ A M  hI (y) (z)) (cwV 2 hts gX1_share_X1_isPlace rfl rfl rfl (by decide +kernel) ⟨Nat.le_of_ble_eq_true rfl, Nat.le_of_ble_eq_true rfl⟩) vB_bl (vB_at hP hK) (va_recv hK hP (ci := 1) (q0 := 0) rfl rfl) rfl hl.1 rfl (Nat.le_of_ble_eq_true rfl) dX1_share_11 ⟨Nat.zero_le _, Nat.zero_le _⟩ ?_
    refine b_if_eq (tgt := 27) hx hb dX1_share_14 (by decide) (fun c_14 => ?_) (fun c_14 => ?_)
    · refine lv_iconst (v := (-1)) hx hb dX1_share_27 (by decide) ?_
      exact hQ dX1_share_28 (by unfold aSh; rw [if_neg (fun q => c_14 q.2)])
    · obtain ⟨k, hk, rfl⟩ := iN_of (n := sK A) c_5 (by omega) (by omega)
      obtain ⟨f, hf, rfl⟩ := iN_of (n := sF A) c_14.1 (by omega) (by omega)
      obtain ⟨t, ht, rfl⟩ := iN_of (n := sT A) c_14.2 (by omega) (by omega)
      refine lv_aload_n hx hb dX1_share_17 rfl (lv_at hl 0 rfl) ?_
      refine lv_iload_n hx hb dX1_share_18 rfl (lv_at hl 1 rfl) ?_
      refine lv_iload_n hx hb dX1_share_19 rfl (lv_at hl 2 rfl) ?_
      refine lv_iload_n hx hb dX1_share_20 rfl (lv_at hl 3 rfl) ?_
      refine ro_callV (As := [.int (nI k), .int (nI f), .int (nI t)]) (rest := []) ⟨hx, hb, hml, hown, hts⟩ (kX1_shareOf l D h cI cZ A M  hI (k) (f) (t) (by omega) (by omega) (by omega)) (cwV 3 hts gX1_share_X1_shareOf rfl rfl rfl (by decide +kernel) ⟨Nat.le_of_ble_eq_true rfl, Nat.le_of_ble_eq_true rfl⟩) vB_bl (vB_at hP hK) (va_recv hK hP (ci := 1) (q0 := 0) rfl rfl) rfl hl.1 rfl (Nat.le_of_ble_eq_true rfl) dX1_share_21 ⟨Nat.zero_le _, Nat.zero_le _⟩ ?_
      refine lv_goto (tgt := 28) hx hb dX1_share_24 (by decide) ?_
      exact hQ dX1_share_28 (by unfold aSh; rw [if_pos ⟨c_5, c_14⟩, cl_nI (n := k) (by omega), cl_nI (n := f) (by omega), cl_nI (n := t) (by omega)])
def rmX1_productBy : Room := { frames := 1, cells := 0, slots := 0, locals := 22 }
set_option maxHeartbeats 4000000 in
set_option maxRecDepth 100000 in
/-- productBy -/
theorem kX1_productBy (l : Launch) (D : va_G) (h : Nat → Nat) (cI cZ : ClassId) (A : St) (M : Nat → Int32) (hI : Inv A) (d : Int32) (h1 : 1 ≤ sZ A 1) : RO l yX1_productBy wsX1_productBy rmX1_productBy [.ref (h 0), .int d] (vB D (mw h cI cZ A M) [(cI, .int), (cZ, .boolean)]) (fpd A d) := by
  refine ro_ofW (cc := cX1_productBy) (maxL := 4) (by decide) rfl (Nat.le_of_ble_eq_true rfl) ?_
  intro p e s m below meth c args Q hx hb hml hown hts hB hQ ls hl
  have hown : s.vm.findClass RX1 = some m.cls := hown
  obtain ⟨hP, hK⟩ := hB
  have hin0 : ∀ w ∈ u_ws RX1 TX1 13, w ∈ wsX1_productBy := fun _ h => List.mem_cons_of_mem _ (List.mem_append_right _ h)
  have hl : lv_has ls 4 [(0, .ref (h 0)), (1, .int d)] := hl
  have hF := hI.F
  have hT := hI.T
  have hK3 := hI.K
  have hJ := hI.J
  have hZ := hI.Z
  refine lv_iconst (v := nI 0) hx hb dX1_productBy_0 (by decide) ?_
  refine lv_istore_n (lv' := [(2, .int (nI 0)), (0, .ref (h 0)), (1, .int d)]) hx hb dX1_productBy_1 rfl hl (by decide) rfl (fun ls hl => ?_)
  refine lv_iconst (v := nI 0) hx hb dX1_productBy_2 (by decide) ?_
  refine lv_istore_n (lv' := [(3, .int (nI 0)), (2, .int (nI 0)), (0, .ref (h 0)), (1, .int d)]) hx hb dX1_productBy_3 rfl hl (by decide) rfl (fun ls hl => ?_)
  have lp4 : ∀ (n4 i : Nat), i + n4 = sZ A 0 → ∀ (ls : Array Slot), lv_has ls 4 [(0, .ref (h 0)), (1, .int d), (2, .int (l_sum (fpt A d) i)), (3, .int (nI i))] → W p l e rmX1_productBy s m args below meth c s.heap [] 0 0 Q (F0 m 4 ls []) := by
    intro n4
    induction n4 with
    | zero =>
      intro i hi4 ls hl
      obtain rfl : sZ A 0 = i := by omega
      refine lv_iload_n hx hb dX1_productBy_4 rfl (lv_at hl 3 rfl) ?_
      refine lv_aload_n hx hb dX1_productBy_5 rfl (lv_at hl 0 rfl) ?_
      refine va_get (D := D) (ci := 1) (v := .ref (h 5)) (C := RX1) (T := TX1) (N := 13) hx hb hts hin0 hown hK hP 0 rfl rfl 9 (by decide) (hts (.fieldLink RX1 23 "VoicePartsModel" "heard" "[I") (by decide +kernel)) (fun _ h9 => h9) rfl dX1_productBy_6 ?_
      refine lv_iconst (v := nI 0) hx hb dX1_productBy_9 (by decide) ?_
      refine n_iald hx hb hK hP 5 0 rfl rfl (by omega) (by decide) dX1_productBy_10 ?_
      refine n_icmp_ge (tgt := 63) hx hb (by omega) (by omega) dX1_productBy_11 (by decide) (fun c_11 => ?_) (fun c_11 => by exfalso; omega)
      refine lv_iload_n hx hb dX1_productBy_63 rfl (lv_at hl 2 rfl) ?_
      exact hQ dX1_productBy_64 (rfl)
    | succ n4 ih4 =>
      intro i hi4 ls hl
      refine lv_iload_n hx hb dX1_productBy_4 rfl (lv_at hl 3 rfl) ?_
      refine lv_aload_n hx hb dX1_productBy_5 rfl (lv_at hl 0 rfl) ?_
      refine va_get (D := D) (ci := 1) (v := .ref (h 5)) (C := RX1) (T := TX1) (N := 13) hx hb hts hin0 hown hK hP 0 rfl rfl 9 (by decide) (hts (.fieldLink RX1 23 "VoicePartsModel" "heard" "[I") (by decide +kernel)) (fun _ h9 => h9) rfl dX1_productBy_6 ?_
      refine lv_iconst (v := nI 0) hx hb dX1_productBy_9 (by decide) ?_
      refine n_iald hx hb hK hP 5 0 rfl rfl (by omega) (by decide) dX1_productBy_10 ?_
      refine n_icmp_ge (tgt := 63) hx hb (by omega) (by omega) dX1_productBy_11 (by decide) (fun c_11 => by exfalso; omega) (fun c_11 => ?_)
      refine lv_iload_n hx hb dX1_productBy_14 rfl (lv_at hl 2 rfl) ?_
      refine lv_iload_n hx hb dX1_productBy_15 rfl (lv_at hl 3 rfl) ?_
      refine lv_iload_n hx hb dX1_productBy_16 rfl (lv_at hl 1 rfl) ?_
      refine lv_iadd hx hb dX1_productBy_17 ?_
      refine lv_iconst (v := nI 0) hx hb dX1_productBy_18 (by decide) ?_
      refine lv_aload_n hx hb dX1_productBy_19 rfl (lv_at hl 0 rfl) ?_
      refine va_get (D := D) (ci := 1) (v := .ref (h 5)) (C := RX1) (T := TX1) (N := 13) hx hb hts hin0 hown hK hP 0 rfl rfl 9 (by decide) (hts (.fieldLink RX1 23 "VoicePartsModel" "heard" "[I") (by decide +kernel)) (fun _ h9 => h9) rfl dX1_productBy_20 ?_
      refine lv_iconst (v := nI 1) hx hb dX1_productBy_23 (by decide) ?_
      refine n_iald hx hb hK hP 5 0 rfl rfl (by omega) (by decide) dX1_productBy_24 ?_
      refine lv_iconst (v := nI 1) hx hb dX1_productBy_25 (by decide) ?_
      refine n_isub hx hb (by omega) dX1_productBy_26 ?_
      refine ro_callS (As := [.int ((nI i) + d), .int (nI 0), .int (nI ((sZ A (1)) - 1))]) (rest := [.int (l_sum (fpt A d) i)]) ⟨hx, hb, hml, hown, hts⟩ (kX1_in l ((nI i) + d) (nI 0) (nI ((sZ A (1)) - 1))) (va_cwS 3 hts gX1_productBy_X1_in rfl rfl rfl (by decide +kernel) ⟨Nat.le_of_ble_eq_true rfl, Nat.le_of_ble_eq_true rfl⟩) vT_bl vT_at rfl hl.1 rfl (Nat.le_of_ble_eq_true rfl) dX1_productBy_27 ⟨Nat.zero_le _, Nat.zero_le _⟩ ?_
      refine b_if_eq (tgt := 54) hx hb dX1_productBy_30 (by decide) (fun c_30 => ?_) (fun c_30 => ?_)
      · refine lv_iconst (v := nI 0) hx hb dX1_productBy_54 (by decide) ?_
        refine lv_iadd hx hb dX1_productBy_55 ?_
        refine n_top (y := l_sum (fpt A d) (i + 1)) (by rw [l_sum_s, show fpt A d i = 0 from if_neg c_30]; rfl) ?_
        refine lv_istore_n (lv' := [(2, .int (l_sum (fpt A d) (i + 1))), (0, .ref (h 0)), (1, .int d), (3, .int (nI i))]) hx hb dX1_productBy_56 rfl hl (by decide) rfl (fun ls hl => ?_)
        refine lv_iinc (v := nI (i + 1)) (lv' := [(3, .int (nI (i + 1))), (2, .int (l_sum (fpt A d) (i + 1))), (0, .ref (h 0)), (1, .int d)]) hx hb dX1_productBy_57 hl (k := 3) rfl (nI_inc _) (by decide) rfl (fun ls hl => ?_)
        refine lv_goto (tgt := 4) hx hb dX1_productBy_60 (by decide) ?_
        exact ih4 (i + 1) (by omega) ls (lv_sub hl [2, 3, 1, 0] rfl)
      · obtain ⟨jv, hjv, ejv⟩ := iN_of (n := sZ A 1) c_30 h1 (by omega)
        refine lv_aload_n hx hb dX1_productBy_33 rfl (lv_at hl 0 rfl) ?_
        refine va_get (D := D) (ci := 1) (v := .ref (h 6)) (C := RX1) (T := TX1) (N := 13) hx hb hts hin0 hown hK hP 0 rfl rfl 10 (by decide) (hts (.fieldLink RX1 26 "VoicePartsModel" "row" "[I") (by decide +kernel)) (fun _ h9 => h9) rfl dX1_productBy_34 ?_
        refine lv_iload_n hx hb dX1_productBy_37 rfl (lv_at hl 3 rfl) ?_
        refine n_iald hx hb hK hP 6 0 rfl rfl (by omega) (by decide) dX1_productBy_38 ?_
        refine lv_aload_n hx hb dX1_productBy_39 rfl (lv_at hl 0 rfl) ?_
        refine va_get (D := D) (ci := 1) (v := .ref (h 6)) (C := RX1) (T := TX1) (N := 13) hx hb hts hin0 hown hK hP 0 rfl rfl 10 (by decide) (hts (.fieldLink RX1 26 "VoicePartsModel" "row" "[I") (by decide +kernel)) (fun _ h9 => h9) rfl dX1_productBy_40 ?_
        refine lv_bipush (v := nI 8) hx hb dX1_productBy_43 (by decide) ?_
        refine lv_iload_n hx hb dX1_productBy_45 rfl (lv_at hl 3 rfl) ?_
        refine n_iadd hx hb dX1_productBy_46 ?_
        refine lv_iload_n hx hb dX1_productBy_47 rfl (lv_at hl 1 rfl) ?_
        refine lv_iadd hx hb dX1_productBy_48 ?_
        refine n_top (y := nI (8 + jv)) (by rw [← nI_add, Int32.add_assoc, ejv, nI_add]) ?_
        refine n_iald hx hb hK hP 6 0 rfl rfl (by omega) (by decide) dX1_productBy_49 ?_
        refine lv_imul hx hb dX1_productBy_50 ?_
        refine lv_goto (tgt := 55) hx hb dX1_productBy_51 (by decide) ?_
        refine lv_iadd hx hb dX1_productBy_55 ?_
        refine n_top (y := l_sum (fpt A d) (i + 1)) (by rw [l_sum_s, show fpt A d i = sR A i * sR A (8 + jv) from by unfold fpt; rw [if_pos c_30, ejv, nI_clamp (by omega)]]) ?_
        refine lv_istore_n (lv' := [(2, .int (l_sum (fpt A d) (i + 1))), (0, .ref (h 0)), (1, .int d), (3, .int (nI i))]) hx hb dX1_productBy_56 rfl hl (by decide) rfl (fun ls hl => ?_)
        refine lv_iinc (v := nI (i + 1)) (lv' := [(3, .int (nI (i + 1))), (2, .int (l_sum (fpt A d) (i + 1))), (0, .ref (h 0)), (1, .int d)]) hx hb dX1_productBy_57 hl (k := 3) rfl (nI_inc _) (by decide) rfl (fun ls hl => ?_)
        refine lv_goto (tgt := 4) hx hb dX1_productBy_60 (by decide) ?_
        exact ih4 (i + 1) (by omega) ls (lv_sub hl [2, 3, 1, 0] rfl)
  exact lp4 (sZ A 0) (0) (by omega) ls (lv_sub hl [2, 3, 1, 0] rfl)
def rmX1_numberAt : Room := { frames := 0, cells := 0, slots := 0, locals := 0 }
set_option maxHeartbeats 4000000 in
set_option maxRecDepth 100000 in
/-- numberAt -/
theorem kX1_numberAt (l : Launch) (D : va_G) (h : Nat → Nat) (cI cZ : ClassId) (A : St) (M : Nat → Int32) (hI : Inv A) (i : Nat) (hi : i < 8) : RO l yX1_numberAt wsX1_numberAt rmX1_numberAt [.ref (h 0), .int (nI i)] (vB D (mw h cI cZ A M) [(cI, .int), (cZ, .boolean)]) (ffr A i) := by
  refine ro_ofW (cc := cX1_numberAt) (maxL := 2) (by decide) rfl (Nat.le_of_ble_eq_true rfl) ?_
  intro p e s m below meth c args Q hx hb hml hown hts hB hQ ls hl
  have hown : s.vm.findClass RX1 = some m.cls := hown
  obtain ⟨hP, hK⟩ := hB
  have hin0 : ∀ w ∈ u_ws RX1 TX1 13, w ∈ wsX1_numberAt := fun _ h => List.mem_cons_of_mem _ (List.mem_append_right _ h)
  have hl : lv_has ls 2 [(0, .ref (h 0)), (1, .int (nI i))] := hl
  have hF := hI.F
  have hT := hI.T
  have hK3 := hI.K
  have hJ := hI.J
  have hZ := hI.Z
  refine lv_iload_n hx hb dX1_numberAt_0 rfl (lv_at hl 1 rfl) ?_
  refine lv_aload_n hx hb dX1_numberAt_1 rfl (lv_at hl 0 rfl) ?_
  refine va_get (D := D) (ci := 1) (v := .ref (h 5)) (C := RX1) (T := TX1) (N := 13) hx hb hts hin0 hown hK hP 0 rfl rfl 9 (by decide) (hts (.fieldLink RX1 23 "VoicePartsModel" "heard" "[I") (by decide +kernel)) (fun _ h9 => h9) rfl dX1_numberAt_2 ?_
  refine lv_iconst (v := nI 0) hx hb dX1_numberAt_5 (by decide) ?_
  refine n_iald hx hb hK hP 5 0 rfl rfl (by omega) (by decide) dX1_numberAt_6 ?_
  refine n_icmp_ge (tgt := 19) hx hb (by omega) (by omega) dX1_numberAt_7 (by decide) (fun c_7 => ?_) (fun c_7 => ?_)
  · refine lv_iconst (v := nI 0) hx hb dX1_numberAt_19 (by decide) ?_
    exact hQ dX1_numberAt_20 (by unfold ffr; rw [if_neg (by omega)]; first | rfl | done)
  · refine lv_aload_n hx hb dX1_numberAt_10 rfl (lv_at hl 0 rfl) ?_
    refine va_get (D := D) (ci := 1) (v := .ref (h 6)) (C := RX1) (T := TX1) (N := 13) hx hb hts hin0 hown hK hP 0 rfl rfl 10 (by decide) (hts (.fieldLink RX1 26 "VoicePartsModel" "row" "[I") (by decide +kernel)) (fun _ h9 => h9) rfl dX1_numberAt_11 ?_
    refine lv_iload_n hx hb dX1_numberAt_14 rfl (lv_at hl 1 rfl) ?_
    refine n_iald hx hb hK hP 6 0 rfl rfl (by omega) (by decide) dX1_numberAt_15 ?_
    refine lv_goto (tgt := 20) hx hb dX1_numberAt_16 (by decide) ?_
    exact hQ dX1_numberAt_20 (by unfold ffr; rw [if_pos (by omega)])
def rmX1_orders : Room := { frames := 0, cells := 0, slots := 0, locals := 0 }
set_option maxHeartbeats 4000000 in
set_option maxRecDepth 100000 in
/-- orders -/
theorem kX1_orders (l : Launch) (D : va_G) (h : Nat → Nat) (cI cZ : ClassId) (A : St) (M : Nat → Int32) (hI : Inv A) : RO l yX1_orders wsX1_orders rmX1_orders [.ref (h 0)] (vB D (mw h cI cZ A M) [(cI, .int), (cZ, .boolean)]) (nI (fno (sK A))) := by
  refine ro_ofW (cc := cX1_orders) (maxL := 1) (by decide) rfl (Nat.le_of_ble_eq_true rfl) ?_
  intro p e s m below meth c args Q hx hb hml hown hts hB hQ ls hl
  have hown : s.vm.findClass RX1 = some m.cls := hown
  obtain ⟨hP, hK⟩ := hB
  have hin0 : ∀ w ∈ u_ws RX1 TX1 13, w ∈ wsX1_orders := fun _ h => List.mem_cons_of_mem _ (List.mem_append_right _ h)
  have hl : lv_has ls 1 [(0, .ref (h 0))] := hl
  have hF := hI.F
  have hT := hI.T
  have hK3 := hI.K
  have hJ := hI.J
  have hZ := hI.Z
  refine lv_aload_n hx hb dX1_orders_0 rfl (lv_at hl 0 rfl) ?_
  refine va_get (D := D) (ci := 1) (v := .int (nI (sK A))) (C := RX1) (T := TX1) (N := 13) hx hb hts hin0 hown hK hP 0 rfl rfl 2 (by decide) (hts (.fieldLink RX1 43 "VoicePartsModel" "voices" "I") (by decide +kernel)) (fun _ h9 => h9) rfl dX1_orders_1 ?_
  refine lv_iconst (v := nI 3) hx hb dX1_orders_4 (by decide) ?_
  refine n_icmp_ne (tgt := 13) hx hb (by omega) (by omega) dX1_orders_5 (by decide) (fun c_5 => ?_) (fun c_5 => ?_)
  · refine lv_aload_n hx hb dX1_orders_13 rfl (lv_at hl 0 rfl) ?_
    refine va_get (D := D) (ci := 1) (v := .int (nI (sK A))) (C := RX1) (T := TX1) (N := 13) hx hb hts hin0 hown hK hP 0 rfl rfl 2 (by decide) (hts (.fieldLink RX1 43 "VoicePartsModel" "voices" "I") (by decide +kernel)) (fun _ h9 => h9) rfl dX1_orders_14 ?_
    exact hQ dX1_orders_17 (by unfold fno; rcases (show sK A = 1 ∨ sK A = 2 by omega) with q | q <;> rw [q] <;> rfl)
  · refine lv_bipush (v := nI 6) hx hb dX1_orders_8 (by decide) ?_
    refine lv_goto (tgt := 17) hx hb dX1_orders_10 (by decide) ?_
    exact hQ dX1_orders_17 (by rw [c_5]; rfl)
def rmX1_trace : Room := { frames := 0, cells := 0, slots := 0, locals := 0 }
set_option maxHeartbeats 4000000 in
set_option maxRecDepth 100000 in
/-- trace -/
theorem kX1_trace (l : Launch) (D : va_G) (h : Nat → Nat) (cI cZ : ClassId) (A : St) (M : Nat → Int32)  : ROL l yX1_trace wsX1_trace rmX1_trace [.ref (h 0)] (vB D (mw h cI cZ A M) [(cI, .int), (cZ, .boolean)]) (sC A) := by
  refine ro_ofWl (cc := cX1_trace) (maxL := 1) (by decide) rfl (Nat.le_of_ble_eq_true rfl) ?_
  intro p e s m below meth c args Q hx hb hml hown hts hB hQ ls hl
  have hown : s.vm.findClass RX1 = some m.cls := hown
  obtain ⟨hP, hK⟩ := hB
  have hin0 : ∀ w ∈ u_ws RX1 TX1 13, w ∈ wsX1_trace := fun _ h => List.mem_cons_of_mem _ (List.mem_append_right _ h)
  have hl : lv_has ls 1 [(0, .ref (h 0))] := hl
  refine lv_aload_n hx hb dX1_trace_0 rfl (lv_at hl 0 rfl) ?_
  refine va_get (D := D) (ci := 1) (v := .long (sC A)) (C := RX1) (T := TX1) (N := 13) hx hb hts hin0 hown hK hP 0 rfl rfl 11 (by decide) (hts (.fieldLink RX1 79 "VoicePartsModel" "trace" "J") (by decide +kernel)) (fun _ h9 => h9) rfl dX1_trace_1 ?_
  exact hQ dX1_trace_4 (rfl)
end
section
/-! what the reference works out in its own way -/
def mls (A : St) (b : Int32) (n : Nat) : Int32 := if fpd A b < fpd A (-(nI n)) then -(nI n) else b
def mlt (A : St) (b : Int32) (n : Nat) : Int32 := if fpd A b < fpd A (nI n) then nI n else b
def mlb (A : St) : Nat → Int32
  | 0 => nI 0
  | n + 1 => mlt A (mls A (mlb A n) (n + 1)) (n + 1)
def aLm (A : St) : Int32 := if sZ A 0 = 0 ∨ sZ A 1 = 0 then -9 else mlb A 7
def mtt (A : St) (k i : Nat) : Int32 := if pc3 (k &&& i) % 2 = 1 then -(ffr A i) else ffr A i
def mtu (A : St) (k : Nat) : Int32 := l_sum (mtt A k) 8
def aTm (A : St) (k w : Int32) : Int32 := if iN k 8 ∧ iN w 2 then (if cl w = 0 then mtu A (cl k) else ffr A (cl k)) else -1000000
def acc3 (z : Int32) (g : Nat → Nat → Nat → Int32) (F T : Nat) : Nat → Int32
  | 0 => z
  | k + 1 => acc2 (acc3 z g F T k) (g k) T F
theorem acc3_eq (z : Int32) (g : Nat → Nat → Nat → Int32) (F T : Nat) : ∀ n, acc3 z g F T n = z + l_sum (fun k => l_sum (fun f => l_sum (g k f) T) F) n
  | 0 => (Int32.add_zero z).symm
  | n + 1 => by rw [acc3, acc2_eq, acc3_eq z g F T n, l_sum_s, Int32.add_assoc]
theorem fap_eq (A : St) (o : Nat) : acc3 0 (fun k f t => fab (fsh A k f t - sE A (fvo (sK A) o k * 48 + (f * 8 + t)))) (sF A) (sT A) (sK A) = fap A o := by
  rw [acc3_eq, Int32.zero_add]
  unfold fap fav
  apply l_sum_cong
  intro k _
  rw [acc2_eq, Int32.zero_add]
theorem fle_le (ap : Nat → Int32) : ∀ n, fle ap n ≤ n
  | 0 => Nat.le_refl 0
  | n + 1 => by
    have ih := fle_le ap n
    simp only [fle]
    split <;> omega
end
section
def rmX1_begins : Room := { frames := 0, cells := 0, slots := 0, locals := 0 }
set_option maxHeartbeats 4000000 in
set_option maxRecDepth 100000 in
theorem kX1_begins (l : Launch) (D : va_G) (h : Nat → Nat) (cI cZ : ClassId) (A : St) (M : Nat → Int32) (f t k : Nat) : MU l yX1_begins wsX1_begins rmX1_begins [.ref (h 0), .int (nI f), .int (nI t), .int (nI k)] D [(cI, .int), (cZ, .boolean)] (mw h cI cZ A M) (mw h cI cZ (fresh A f t k) M) none := by
  refine mu_ofWv (cc := cX1_begins) (maxL := 5) (by decide) rfl (Nat.le_of_ble_eq_true rfl) ?_
  intro p e s m below meth c args Q G H locs hx hb hml hown hts hP hK hD hS hQ ls hl
  have hown : s.vm.findClass RX1 = some m.cls := hown
  have hin0 : ∀ w ∈ u_ws RX1 TX1 13, w ∈ wsX1_begins := fun _ h => List.mem_cons_of_mem _ (List.mem_append_right _ h)
  have hl : lv_has ls 5 [(0, .ref (h 0)), (1, .int (nI f)), (2, .int (nI t)), (3, .int (nI k))] := hl
  refine lv_aload_n hx hb dX1_begins_0 rfl (lv_at hl 0 rfl) ?_
  refine lv_iload_n hx hb dX1_begins_1 rfl (lv_at hl 1 rfl) ?_
  refine va_put (D := D) (ci := 1) (v := .int (nI f)) (ty := .int) (C := RX1) (T := TX1) (N := 13) hx hb hts hin0 tyX1 tyX1_ok nmX1 hown hK hP hD hS 0 rfl rfl 0 (by decide) (hts (.fieldLink RX1 36 "VoicePartsModel" "tones" "I") (by decide +kernel)) (fun _ h9 => h9) rfl (by decide +kernel) rfl rfl (Nat.le_of_ble_eq_true rfl) dX1_begins_2 (fun H locs hP hD hS => ?_)
  obtain ⟨A1, eA1⟩ : ∃ z : St, z = uF A (f) := ⟨_, rfl⟩
  have hP : va_P D vwCl (mw h cI cZ A1 M) H := by rw [eA1]; exact hP
  have hD : va_D G (mw h cI cZ A1 M) := va_D.to hD rfl
  refine lv_aload_n hx hb dX1_begins_5 rfl (lv_at hl 0 rfl) ?_
  refine lv_iload_n hx hb dX1_begins_6 rfl (lv_at hl 2 rfl) ?_
  refine va_put (D := D) (ci := 1) (v := .int (nI t)) (ty := .int) (C := RX1) (T := TX1) (N := 13) hx hb hts hin0 tyX1 tyX1_ok nmX1 hown hK hP hD hS 0 rfl rfl 1 (by decide) (hts (.fieldLink RX1 40 "VoicePartsModel" "times" "I") (by decide +kernel)) (fun _ h9 => h9) rfl (by decide +kernel) rfl rfl (Nat.le_of_ble_eq_true rfl) dX1_begins_7 (fun H locs hP hD hS => ?_)
  obtain ⟨A2, eA2⟩ : ∃ z : St, z = uT A1 (t) := ⟨_, rfl⟩
  have hP : va_P D vwCl (mw h cI cZ A2 M) H := by rw [eA2]; exact hP
  have hD : va_D G (mw h cI cZ A2 M) := va_D.to hD rfl
  refine lv_aload_n hx hb dX1_begins_10 rfl (lv_at hl 0 rfl) ?_
  refine lv_iload_n hx hb dX1_begins_11 rfl (lv_at hl 3 rfl) ?_
  refine va_put (D := D) (ci := 1) (v := .int (nI k)) (ty := .int) (C := RX1) (T := TX1) (N := 13) hx hb hts hin0 tyX1 tyX1_ok nmX1 hown hK hP hD hS 0 rfl rfl 2 (by decide) (hts (.fieldLink RX1 43 "VoicePartsModel" "voices" "I") (by decide +kernel)) (fun _ h9 => h9) rfl (by decide +kernel) rfl rfl (Nat.le_of_ble_eq_true rfl) dX1_begins_12 (fun H locs hP hD hS => ?_)
  obtain ⟨A3, eA3⟩ : ∃ z : St, z = uK A2 (k) := ⟨_, rfl⟩
  have hP : va_P D vwCl (mw h cI cZ A3 M) H := by rw [eA3]; exact hP
  have hD : va_D G (mw h cI cZ A3 M) := va_D.to hD rfl
  refine lv_iconst (v := nI 0) hx hb dX1_begins_15 (by decide) ?_
  refine lv_istore (lv' := [(4, .int (nI 0)), (0, .ref (h 0)), (1, .int (nI f)), (2, .int (nI t)), (3, .int (nI k))]) hx hb dX1_begins_16 hl (by decide) rfl (fun ls hl => ?_)
  have lp18 : ∀ (n18 i : Nat), i + n18 = 48 → ∀ (H : Heap) (locs : List Loc), va_P D vwCl (mwR h cI cZ A3 (fil (nI 0) (sB A3) i) (fil (nI 1) (fun j => sV A3 (j / 16) (j % 16)) i) (fil (nI 0) (fun j => if sX A3 (j / 16) (j % 16) then 1 else 0) i) (sE A3) M) H → va_S G s.heap H locs → ∀ (ls : Array Slot), lv_has ls 5 [(0, .ref (h 0)), (1, .int (nI f)), (2, .int (nI t)), (3, .int (nI k)), (4, .int (nI i))] → W p l e rmX1_begins s m args below meth c H locs 0 0 Q (F0 m 18 ls []) := by
    intro n18
    induction n18 with
    | zero =>
      intro i hi18 H locs hP hS ls hl
      obtain rfl : 48 = i := by omega
      have hD : va_D G (mwR h cI cZ A3 (fil (nI 0) (sB A3) 48) (fil (nI 1) (fun j => sV A3 (j / 16) (j % 16)) 48) (fil (nI 0) (fun j => if sX A3 (j / 16) (j % 16) then 1 else 0) 48) (sE A3) M) := va_D.to hD rfl
      refine lv_iload hx hb dX1_begins_18 (lv_at hl 4 rfl) ?_
      refine lv_bipush (v := nI 48) hx hb dX1_begins_20 (by decide) ?_
      refine n_icmp_ge (tgt := 55) hx hb (by omega) (by omega) dX1_begins_22 (by decide) (fun c_22 => ?_) (fun c_22 => by exfalso; omega)
      refine lv_iconst (v := nI 0) hx hb dX1_begins_55 (by decide) ?_
      refine lv_istore (lv' := [(4, .int (nI 0)), (0, .ref (h 0)), (1, .int (nI f)), (2, .int (nI t)), (3, .int (nI k))]) hx hb dX1_begins_56 hl (by decide) rfl (fun ls hl => ?_)
      have lp58 : ∀ (n58 i : Nat), i + n58 = 144 → ∀ (H : Heap) (locs : List Loc), va_P D vwCl (mwR h cI cZ A3 (fil (nI 0) (sB A3) 48) (fil (nI 1) (fun j => sV A3 (j / 16) (j % 16)) 48) (fil (nI 0) (fun j => if sX A3 (j / 16) (j % 16) then 1 else 0) 48) (fil (nI 0) (sE A3) i) M) H → va_S G s.heap H locs → ∀ (ls : Array Slot), lv_has ls 5 [(0, .ref (h 0)), (1, .int (nI f)), (2, .int (nI t)), (3, .int (nI k)), (4, .int (nI i))] → W p l e rmX1_begins s m args below meth c H locs 0 0 Q (F0 m 58 ls []) := by
        intro n58
        induction n58 with
        | zero =>
          intro i hi58 H locs hP hS ls hl
          obtain rfl : 144 = i := by omega
          have hD : va_D G (mwR h cI cZ A3 (fil (nI 0) (sB A3) 48) (fil (nI 1) (fun j => sV A3 (j / 16) (j % 16)) 48) (fil (nI 0) (fun j => if sX A3 (j / 16) (j % 16) then 1 else 0) 48) (fil (nI 0) (sE A3) 144) M) := va_D.to hD rfl
          refine lv_iload hx hb dX1_begins_58 (lv_at hl 4 rfl) ?_
          refine lv_sipush (v := nI 144) hx hb dX1_begins_60 (by decide) ?_
          refine n_icmp_ge (tgt := 80) hx hb (by omega) (by omega) dX1_begins_63 (by decide) (fun c_63 => ?_) (fun c_63 => by exfalso; omega)
          exact hQ dX1_begins_80 (by have z := hP; rw [eA3, eA2, eA1] at z; exact mwR_fin z) hS
        | succ n58 ih58 =>
          intro i hi58 H locs hP hS ls hl
          have hD : va_D G (mwR h cI cZ A3 (fil (nI 0) (sB A3) 48) (fil (nI 1) (fun j => sV A3 (j / 16) (j % 16)) 48) (fil (nI 0) (fun j => if sX A3 (j / 16) (j % 16) then 1 else 0) 48) (fil (nI 0) (sE A3) i) M) := va_D.to hD rfl
          refine lv_iload hx hb dX1_begins_58 (lv_at hl 4 rfl) ?_
          refine lv_sipush (v := nI 144) hx hb dX1_begins_60 (by decide) ?_
          refine n_icmp_ge (tgt := 80) hx hb (by omega) (by omega) dX1_begins_63 (by decide) (fun c_63 => by exfalso; omega) (fun c_63 => ?_)
          refine lv_aload_n hx hb dX1_begins_66 rfl (lv_at hl 0 rfl) ?_
          refine va_get (D := D) (ci := 1) (v := .ref (h 4)) (C := RX1) (T := TX1) (N := 13) hx hb hts hin0 hown hK hP 0 rfl rfl 6 (by decide) (hts (.fieldLink RX1 20 "VoicePartsModel" "truth" "[I") (by decide +kernel)) (fun _ h9 => h9) rfl dX1_begins_67 ?_
          refine lv_iload hx hb dX1_begins_70 (lv_at hl 4 rfl) ?_
          refine lv_iconst (v := nI 0) hx hb dX1_begins_72 (by decide) ?_
          refine n_iast hx hb hK hP hD hS 4 0 rfl rfl (by omega) (by decide) dX1_begins_73 (fun H locs hP hD hS => ?_)
          have hP : va_P D vwCl (mwR h cI cZ A3 (fil (nI 0) (sB A3) 48) (fil (nI 1) (fun j => sV A3 (j / 16) (j % 16)) 48) (fil (nI 0) (fun j => if sX A3 (j / 16) (j % 16) then 1 else 0) 48) (fil (nI 0) (sE A3) (i + 1)) M) H := by have z := hP; rw [fil_s] at z; exact z
          have hD : va_D G (mwR h cI cZ A3 (fil (nI 0) (sB A3) 48) (fil (nI 1) (fun j => sV A3 (j / 16) (j % 16)) 48) (fil (nI 0) (fun j => if sX A3 (j / 16) (j % 16) then 1 else 0) 48) (fil (nI 0) (sE A3) (i + 1)) M) := va_D.to hD rfl
          refine lv_iinc (v := nI (i + 1)) (lv' := [(4, .int (nI (i + 1))), (0, .ref (h 0)), (1, .int (nI f)), (2, .int (nI t)), (3, .int (nI k))]) hx hb dX1_begins_74 hl (k := 4) rfl (nI_inc _) (by decide) rfl (fun ls hl => ?_)
          refine lv_goto (tgt := 58) hx hb dX1_begins_77 (by decide) ?_
          exact ih58 (i + 1) (by omega) H locs (hP) hS ls (lv_sub hl [1, 2, 3, 4, 0] rfl)
      exact lp58 (144) (0) (by omega) H locs (by rw [fil_0]; exact hP) hS ls (lv_sub hl [1, 2, 3, 4, 0] rfl)
    | succ n18 ih18 =>
      intro i hi18 H locs hP hS ls hl
      have hD : va_D G (mwR h cI cZ A3 (fil (nI 0) (sB A3) i) (fil (nI 1) (fun j => sV A3 (j / 16) (j % 16)) i) (fil (nI 0) (fun j => if sX A3 (j / 16) (j % 16) then 1 else 0) i) (sE A3) M) := va_D.to hD rfl
      refine lv_iload hx hb dX1_begins_18 (lv_at hl 4 rfl) ?_
      refine lv_bipush (v := nI 48) hx hb dX1_begins_20 (by decide) ?_
      refine n_icmp_ge (tgt := 55) hx hb (by omega) (by omega) dX1_begins_22 (by decide) (fun c_22 => by exfalso; omega) (fun c_22 => ?_)
      refine lv_aload_n hx hb dX1_begins_25 rfl (lv_at hl 0 rfl) ?_
      refine va_get (D := D) (ci := 1) (v := .ref (h 1)) (C := RX1) (T := TX1) (N := 13) hx hb hts hin0 hown hK hP 0 rfl rfl 3 (by decide) (hts (.fieldLink RX1 7 "VoicePartsModel" "board" "[I") (by decide +kernel)) (fun _ h9 => h9) rfl dX1_begins_26 ?_
      refine lv_iload hx hb dX1_begins_29 (lv_at hl 4 rfl) ?_
      refine lv_iconst (v := nI 0) hx hb dX1_begins_31 (by decide) ?_
      refine n_iast hx hb hK hP hD hS 1 0 rfl rfl (by omega) (by decide) dX1_begins_32 (fun H locs hP hD hS => ?_)
      have hP : va_P D vwCl (mwR h cI cZ A3 (fil (nI 0) (sB A3) (i + 1)) (fil (nI 1) (fun j => sV A3 (j / 16) (j % 16)) i) (fil (nI 0) (fun j => if sX A3 (j / 16) (j % 16) then 1 else 0) i) (sE A3) M) H := by have z := hP; rw [fil_s] at z; exact z
      have hD : va_D G (mwR h cI cZ A3 (fil (nI 0) (sB A3) (i + 1)) (fil (nI 1) (fun j => sV A3 (j / 16) (j % 16)) i) (fil (nI 0) (fun j => if sX A3 (j / 16) (j % 16) then 1 else 0) i) (sE A3) M) := va_D.to hD rfl
      refine lv_aload_n hx hb dX1_begins_33 rfl (lv_at hl 0 rfl) ?_
      refine va_get (D := D) (ci := 1) (v := .ref (h 2)) (C := RX1) (T := TX1) (N := 13) hx hb hts hin0 hown hK hP 0 rfl rfl 4 (by decide) (hts (.fieldLink RX1 13 "VoicePartsModel" "number" "[I") (by decide +kernel)) (fun _ h9 => h9) rfl dX1_begins_34 ?_
      refine lv_iload hx hb dX1_begins_37 (lv_at hl 4 rfl) ?_
      refine lv_iconst (v := nI 1) hx hb dX1_begins_39 (by decide) ?_
      refine n_iast hx hb hK hP hD hS 2 0 rfl rfl (by omega) (by decide) dX1_begins_40 (fun H locs hP hD hS => ?_)
      have hP : va_P D vwCl (mwR h cI cZ A3 (fil (nI 0) (sB A3) (i + 1)) (fil (nI 1) (fun j => sV A3 (j / 16) (j % 16)) (i + 1)) (fil (nI 0) (fun j => if sX A3 (j / 16) (j % 16) then 1 else 0) i) (sE A3) M) H := by have z := hP; rw [fil_s] at z; exact z
      have hD : va_D G (mwR h cI cZ A3 (fil (nI 0) (sB A3) (i + 1)) (fil (nI 1) (fun j => sV A3 (j / 16) (j % 16)) (i + 1)) (fil (nI 0) (fun j => if sX A3 (j / 16) (j % 16) then 1 else 0) i) (sE A3) M) := va_D.to hD rfl
      refine lv_aload_n hx hb dX1_begins_41 rfl (lv_at hl 0 rfl) ?_
      refine va_get (D := D) (ci := 1) (v := .ref (h 3)) (C := RX1) (T := TX1) (N := 13) hx hb hts hin0 hown hK hP 0 rfl rfl 5 (by decide) (hts (.fieldLink RX1 16 "VoicePartsModel" "isBarred" "[Z") (by decide +kernel)) (fun _ h9 => h9) rfl dX1_begins_42 ?_
      refine lv_iload hx hb dX1_begins_45 (lv_at hl 4 rfl) ?_
      refine lv_iconst (v := nI 0) hx hb dX1_begins_47 (by decide) ?_
      refine n_zast hx hb hK hP hD hS 3 1 rfl rfl (by omega) (by decide) (by decide) dX1_begins_48 (fun H locs hP hD hS => ?_)
      have hP : va_P D vwCl (mwR h cI cZ A3 (fil (nI 0) (sB A3) (i + 1)) (fil (nI 1) (fun j => sV A3 (j / 16) (j % 16)) (i + 1)) (fil (nI 0) (fun j => if sX A3 (j / 16) (j % 16) then 1 else 0) (i + 1)) (sE A3) M) H := by have z := hP; rw [fil_s] at z; exact z
      have hD : va_D G (mwR h cI cZ A3 (fil (nI 0) (sB A3) (i + 1)) (fil (nI 1) (fun j => sV A3 (j / 16) (j % 16)) (i + 1)) (fil (nI 0) (fun j => if sX A3 (j / 16) (j % 16) then 1 else 0) (i + 1)) (sE A3) M) := va_D.to hD rfl
      refine lv_iinc (v := nI (i + 1)) (lv' := [(4, .int (nI (i + 1))), (0, .ref (h 0)), (1, .int (nI f)), (2, .int (nI t)), (3, .int (nI k))]) hx hb dX1_begins_49 hl (k := 4) rfl (nI_inc _) (by decide) rfl (fun ls hl => ?_)
      refine lv_goto (tgt := 18) hx hb dX1_begins_52 (by decide) ?_
      exact ih18 (i + 1) (by omega) H locs (hP) hS ls (lv_sub hl [1, 2, 3, 4, 0] rfl)
  exact lp18 (48) (0) (by omega) H locs (by rw [fil_0, fil_0, fil_0]; exact hP) hS ls (lv_sub hl [1, 2, 3, 4, 0] rfl)
def rmX1_board : Room := { frames := 1, cells := 0, slots := 0, locals := 24 }
set_option maxHeartbeats 4000000 in
set_option maxRecDepth 100000 in
/-- board -/
theorem kX1_board (l : Launch) (D : va_G) (h : Nat → Nat) (cI cZ : ClassId) (A : St) (M : Nat → Int32) (hI : Inv A) (x y z : Int32) : MU l yX1_board wsX1_board rmX1_board [.ref (h 0), .int x, .int y, .int z] D [(cI, .int), (cZ, .boolean)] (mw h cI cZ A M) (mw h cI cZ (nBd A x y z) M) (some (.int (aBd x y z))) := by
  refine mu_ofW (cc := cX1_board) (maxL := 4) (by decide) rfl (Nat.le_of_ble_eq_true rfl) ?_
  intro p e s m below meth c args Q G H locs hx hb hml hown hts hP hK hD hS hQ ls hl
  have hown : s.vm.findClass RX1 = some m.cls := hown
  have hin0 : ∀ w ∈ u_ws RX1 TX1 13, w ∈ wsX1_board := fun _ h => List.mem_cons_of_mem _ (List.mem_append_right _ h)
  have hl : lv_has ls 4 [(0, .ref (h 0)), (1, .int x), (2, .int y), (3, .int z)] := hl
  have hF := hI.F
  have hT := hI.T
  have hK3 := hI.K
  have hJ := hI.J
  have hZ := hI.Z
  refine lv_iload_n hx hb dX1_board_0 rfl (lv_at hl 1 rfl) ?_
  refine lv_iconst (v := nI 1) hx hb dX1_board_1 (by decide) ?_
  refine lv_bipush (v := nI 6) hx hb dX1_board_2 (by decide) ?_
  refine ro_callS (As := [.int x, .int (nI 1), .int (nI 6)]) (rest := []) ⟨hx, hb, hml, hown, hts⟩ (kX1_in l (x) (nI 1) (nI 6)) (va_cwS 3 hts gX1_board_X1_in rfl rfl rfl (by decide +kernel) ⟨Nat.le_of_ble_eq_true rfl, Nat.le_of_ble_eq_true rfl⟩) vT_bl vT_at rfl hl.1 rfl (Nat.le_of_ble_eq_true rfl) dX1_board_4 ⟨Nat.zero_le _, Nat.zero_le _⟩ ?_
  refine b_if_eq (tgt := 29) hx hb dX1_board_7 (by decide) (fun c_7 => ?_) (fun c_7 => ?_)
  · refine lv_iconst (v := (-1)) hx hb dX1_board_29 (by decide) ?_
    exact hQ dX1_board_30 (by unfold aBd; rw [if_neg (fun q => c_7 q.1)]) (by unfold nBd; rw [if_neg (fun q => c_7 q.1)]; exact hP) hS
  · refine lv_iload_n hx hb dX1_board_10 rfl (lv_at hl 2 rfl) ?_
    refine lv_iconst (v := nI 1) hx hb dX1_board_11 (by decide) ?_
    refine lv_bipush (v := nI 8) hx hb dX1_board_12 (by decide) ?_
    refine ro_callS (As := [.int y, .int (nI 1), .int (nI 8)]) (rest := []) ⟨hx, hb, hml, hown, hts⟩ (kX1_in l (y) (nI 1) (nI 8)) (va_cwS 3 hts gX1_board_X1_in rfl rfl rfl (by decide +kernel) ⟨Nat.le_of_ble_eq_true rfl, Nat.le_of_ble_eq_true rfl⟩) vT_bl vT_at rfl hl.1 rfl (Nat.le_of_ble_eq_true rfl) dX1_board_14 ⟨Nat.zero_le _, Nat.zero_le _⟩ ?_
    refine b_if_eq (tgt := 29) hx hb dX1_board_17 (by decide) (fun c_17 => ?_) (fun c_17 => ?_)
    · refine lv_iconst (v := (-1)) hx hb dX1_board_29 (by decide) ?_
      exact hQ dX1_board_30 (by unfold aBd; rw [if_neg (fun q => c_17 q.2.1)]) (by unfold nBd; rw [if_neg (fun q => c_17 q.2.1)]; exact hP) hS
    · refine lv_iload_n hx hb dX1_board_20 rfl (lv_at hl 3 rfl) ?_
      refine lv_iconst (v := nI 1) hx hb dX1_board_21 (by decide) ?_
      refine lv_iconst (v := nI 3) hx hb dX1_board_22 (by decide) ?_
      refine ro_callS (As := [.int z, .int (nI 1), .int (nI 3)]) (rest := []) ⟨hx, hb, hml, hown, hts⟩ (kX1_in l (z) (nI 1) (nI 3)) (va_cwS 3 hts gX1_board_X1_in rfl rfl rfl (by decide +kernel) ⟨Nat.le_of_ble_eq_true rfl, Nat.le_of_ble_eq_true rfl⟩) vT_bl vT_at rfl hl.1 rfl (Nat.le_of_ble_eq_true rfl) dX1_board_23 ⟨Nat.zero_le _, Nat.zero_le _⟩ ?_
      refine b_if_ne (tgt := 31) hx hb dX1_board_26 (by decide) (fun c_26 => ?_) (fun c_26 => ?_)
      · obtain ⟨f, hf, rfl⟩ := q1_of c_7 (by decide)
        obtain ⟨t, ht, rfl⟩ := q1_of c_17 (by decide)
        obtain ⟨k, hk, rfl⟩ := q1_of c_26 (by decide)
        refine lv_aload_n hx hb dX1_board_31 rfl (lv_at hl 0 rfl) ?_
        refine lv_iload_n hx hb dX1_board_32 rfl (lv_at hl 1 rfl) ?_
        refine lv_iload_n hx hb dX1_board_33 rfl (lv_at hl 2 rfl) ?_
        refine lv_iload_n hx hb dX1_board_34 rfl (lv_at hl 3 rfl) ?_
        refine mu_callV (As := [.int (nI f), .int (nI t), .int (nI k)]) (rest := []) ⟨hx, hb, hml, hown, hts⟩ (kX1_begins l D h cI cZ A M (f) (t) (k)) (cwV 3 hts gX1_board_X1_begins rfl rfl rfl (by decide +kernel) ⟨Nat.le_of_ble_eq_true rfl, Nat.le_of_ble_eq_true rfl⟩) hP hK hD hS (va_recv hK hP (ci := 1) (q0 := 0) rfl rfl) rfl hl.1 rfl (Nat.le_of_ble_eq_true rfl) dX1_board_35 ⟨Nat.zero_le _, Nat.zero_le _⟩ (fun H locs hP hS _ => ?_)
        have hD : va_D G (mw h cI cZ (fresh A (f) (t) (k)) M) := va_D.to hD rfl
        refine W.eq (g2 := F0 m 38 ls []) rfl ?_
        refine lv_iload_n hx hb dX1_board_38 rfl (lv_at hl 1 rfl) ?_
        refine lv_iload_n hx hb dX1_board_39 rfl (lv_at hl 2 rfl) ?_
        refine n_imul hx hb dX1_board_40 ?_
        exact hQ dX1_board_41 (by unfold aBd; rw [if_pos ⟨c_7, c_17, c_26⟩, cl_nI (n := f) (by omega), cl_nI (n := t) (by omega)]) (by unfold nBd; rw [if_pos ⟨c_7, c_17, c_26⟩, cl_nI (n := f) (by omega), cl_nI (n := t) (by omega), cl_nI (n := k) (by omega)]; exact hP) hS
      · refine lv_iconst (v := (-1)) hx hb dX1_board_29 (by decide) ?_
        exact hQ dX1_board_30 (by unfold aBd; rw [if_neg (fun q => c_26 q.2.2)]) (by unfold nBd; rw [if_neg (fun q => c_26 q.2.2)]; exact hP) hS
def rmX1_set : Room := { frames := 2, cells := 0, slots := 0, locals := 44 }
set_option maxHeartbeats 4000000 in
set_option maxRecDepth 100000 in
/-- set -/
theorem kX1_set (l : Launch) (D : va_G) (h : Nat → Nat) (cI cZ : ClassId) (A : St) (M : Nat → Int32) (hI : Inv A) (x y v : Int32) : MU l yX1_set wsX1_set rmX1_set [.ref (h 0), .int x, .int y, .int v] D [(cI, .int), (cZ, .boolean)] (mw h cI cZ A M) (mw h cI cZ (nSet A x y v) M) (some (.int (aSet A x y v))) := by
  refine mu_ofW (cc := cX1_set) (maxL := 5) (by decide) rfl (Nat.le_of_ble_eq_true rfl) ?_
  intro p e s m below meth c args Q G H locs hx hb hml hown hts hP hK hD hS hQ ls hl
  have hown : s.vm.findClass RX1 = some m.cls := hown
  have hin0 : ∀ w ∈ u_ws RX1 TX1 13, w ∈ wsX1_set := fun _ h => List.mem_cons_of_mem _ (List.mem_append_right _ h)
  have hl : lv_has ls 5 [(0, .ref (h 0)), (1, .int x), (2, .int y), (3, .int v)] := hl
  have hF := hI.F
  have hT := hI.T
  have hK3 := hI.K
  have hJ := hI.J
  have hZ := hI.Z
  refine lv_aload_n hx hb dX1_set_0 rfl (lv_at hl 0 rfl) ?_
  refine lv_iload_n hx hb dX1_set_1 rfl (lv_at hl 1 rfl) ?_
  refine lv_iload_n hx hb dX1_set_2 rfl (lv_at hl 2 rfl) ?_
  refine ro_callV (As := [.int x, .int y]) (rest := []) ⟨hx, hb, hml, hown, hts⟩ (kX1_isPlace l D h cI cZ A M  hI (x) (y)) (cwV 2 hts gX1_set_X1_isPlace rfl rfl rfl (by decide +kernel) ⟨Nat.le_of_ble_eq_true rfl, Nat.le_of_ble_eq_true rfl⟩) vB_bl (vB_at hP hK) (va_recv hK hP (ci := 1) (q0 := 0) rfl rfl) rfl hl.1 rfl (Nat.le_of_ble_eq_true rfl) dX1_set_3 ⟨Nat.zero_le _, Nat.zero_le _⟩ ?_
  refine b_if_eq (tgt := 19) hx hb dX1_set_6 (by decide) (fun c_6 => ?_) (fun c_6 => ?_)
  · refine lv_iconst (v := (-1)) hx hb dX1_set_19 (by decide) ?_
    exact hQ dX1_set_20 (by unfold aSet; rw [if_neg (fun q => c_6 q.1)]) (by unfold nSet; rw [if_neg (fun q => c_6 q.1)]; exact hP) hS
  · refine lv_iload_n hx hb dX1_set_9 rfl (lv_at hl 3 rfl) ?_
    refine lv_iconst (v := nI 0) hx hb dX1_set_10 (by decide) ?_
    refine lv_bipush (v := nI 99) hx hb dX1_set_11 (by decide) ?_
    refine ro_callS (As := [.int v, .int (nI 0), .int (nI 99)]) (rest := []) ⟨hx, hb, hml, hown, hts⟩ (kX1_in l (v) (nI 0) (nI 99)) (va_cwS 3 hts gX1_set_X1_in rfl rfl rfl (by decide +kernel) ⟨Nat.le_of_ble_eq_true rfl, Nat.le_of_ble_eq_true rfl⟩) vT_bl vT_at rfl hl.1 rfl (Nat.le_of_ble_eq_true rfl) dX1_set_13 ⟨Nat.zero_le _, Nat.zero_le _⟩ ?_
    refine b_if_ne (tgt := 21) hx hb dX1_set_16 (by decide) (fun c_16 => ?_) (fun c_16 => ?_)
    · obtain ⟨f, hf, rfl⟩ := iN_of (n := sF A) c_6.1 (by omega) (by omega)
      obtain ⟨t, ht, rfl⟩ := iN_of (n := sT A) c_6.2 (by omega) (by omega)
      refine lv_aload_n hx hb dX1_set_21 rfl (lv_at hl 0 rfl) ?_
      refine va_get (D := D) (ci := 1) (v := .ref (h 1)) (C := RX1) (T := TX1) (N := 13) hx hb hts hin0 hown hK hP 0 rfl rfl 3 (by decide) (hts (.fieldLink RX1 7 "VoicePartsModel" "board" "[I") (by decide +kernel)) (fun _ h9 => h9) rfl dX1_set_22 ?_
      refine lv_bipush (v := nI 8) hx hb dX1_set_25 (by decide) ?_
      refine lv_iload_n hx hb dX1_set_27 rfl (lv_at hl 1 rfl) ?_
      refine n_imulc hx hb dX1_set_28 ?_
      refine lv_iload_n hx hb dX1_set_29 rfl (lv_at hl 2 rfl) ?_
      refine n_iadd hx hb dX1_set_30 ?_
      refine n_iald hx hb hK hP 1 0 rfl rfl (by omega) (by decide) dX1_set_31 ?_
      refine lv_istore (lv' := [(4, .int (sB A (f * 8 + t))), (0, .ref (h 0)), (1, .int (nI f)), (2, .int (nI t)), (3, .int v)]) hx hb dX1_set_32 hl (by decide) rfl (fun ls hl => ?_)
      refine lv_aload_n hx hb dX1_set_34 rfl (lv_at hl 1 rfl) ?_
      refine va_get (D := D) (ci := 1) (v := .ref (h 1)) (C := RX1) (T := TX1) (N := 13) hx hb hts hin0 hown hK hP 0 rfl rfl 3 (by decide) (hts (.fieldLink RX1 7 "VoicePartsModel" "board" "[I") (by decide +kernel)) (fun _ h9 => h9) rfl dX1_set_35 ?_
      refine lv_bipush (v := nI 8) hx hb dX1_set_38 (by decide) ?_
      refine lv_iload_n hx hb dX1_set_40 rfl (lv_at hl 2 rfl) ?_
      refine n_imulc hx hb dX1_set_41 ?_
      refine lv_iload_n hx hb dX1_set_42 rfl (lv_at hl 3 rfl) ?_
      refine n_iadd hx hb dX1_set_43 ?_
      refine lv_iload_n hx hb dX1_set_44 rfl (lv_at hl 4 rfl) ?_
      refine n_iast hx hb hK hP hD hS 1 0 rfl rfl (by omega) (by decide) dX1_set_45 (fun H locs hP hD hS => ?_)
      obtain ⟨A1, eA1⟩ : ∃ z : St, z = uB A (upd (sB A) (f * 8 + t) (v)) := ⟨_, rfl⟩
      have hP : va_P D vwCl (mw h cI cZ A1 M) H := by rw [eA1]; exact hP
      have hD : va_D G (mw h cI cZ A1 M) := va_D.to hD rfl
      refine lv_iload hx hb dX1_set_46 (lv_at hl 0 rfl) ?_
      exact hQ dX1_set_48 (by unfold aSet; rw [if_pos ⟨c_6, c_16⟩, cl_nI (n := f) (by omega), cl_nI (n := t) (by omega)]) (by rw [eA1] at hP; unfold nSet; rw [if_pos ⟨c_6, c_16⟩, cl_nI (n := f) (by omega), cl_nI (n := t) (by omega)]; exact hP) hS
    · refine lv_iconst (v := (-1)) hx hb dX1_set_19 (by decide) ?_
      exact hQ dX1_set_20 (by unfold aSet; rw [if_neg (fun q => c_16 q.2)]) (by unfold nSet; rw [if_neg (fun q => c_16 q.2)]; exact hP) hS
def rmX1_placeOf : Room := { frames := 2, cells := 0, slots := 0, locals := 43 }
set_option maxHeartbeats 4000000 in
set_option maxRecDepth 100000 in
/-- placeOf -/
theorem kX1_placeOf (l : Launch) (D : va_G) (h : Nat → Nat) (cI cZ : ClassId) (A : St) (M : Nat → Int32) (hI : Inv A) (x o y : Int32) : RO l yX1_placeOf wsX1_placeOf rmX1_placeOf [.ref (h 0), .int x, .int o, .int y] (vB D (mw h cI cZ A M) [(cI, .int), (cZ, .boolean)]) (fpo A x o y) := by
  refine ro_ofW (cc := cX1_placeOf) (maxL := 5) (by decide) rfl (Nat.le_of_ble_eq_true rfl) ?_
  intro p e s m below meth c args Q hx hb hml hown hts hB hQ ls hl
  have hown : s.vm.findClass RX1 = some m.cls := hown
  obtain ⟨hP, hK⟩ := hB
  have hin0 : ∀ w ∈ u_ws RX1 TX1 13, w ∈ wsX1_placeOf := fun _ h => List.mem_cons_of_mem _ (List.mem_append_right _ h)
  have hl : lv_has ls 5 [(0, .ref (h 0)), (1, .int x), (2, .int o), (3, .int y)] := hl
  have hF := hI.F
  have hT := hI.T
  have hK3 := hI.K
  have hJ := hI.J
  have hZ := hI.Z
  refine lv_aload_n hx hb dX1_placeOf_0 rfl (lv_at hl 0 rfl) ?_
  refine lv_iload_n hx hb dX1_placeOf_1 rfl (lv_at hl 1 rfl) ?_
  refine ro_callV (As := [.int x]) (rest := []) ⟨hx, hb, hml, hown, hts⟩ (kX1_isVoice l D h cI cZ A M  hI (x)) (cwV 1 hts gX1_placeOf_X1_isVoice rfl rfl rfl (by decide +kernel) ⟨Nat.le_of_ble_eq_true rfl, Nat.le_of_ble_eq_true rfl⟩) vB_bl (vB_at hP hK) (va_recv hK hP (ci := 1) (q0 := 0) rfl rfl) rfl hl.1 rfl (Nat.le_of_ble_eq_true rfl) dX1_placeOf_2 ⟨Nat.zero_le _, Nat.zero_le _⟩ ?_
  refine b_if_eq (tgt := 49) hx hb dX1_placeOf_5 (by decide) (fun c_5 => ?_) (fun c_5 => ?_)
  · refine lv_iconst (v := nI 0) hx hb dX1_placeOf_49 (by decide) ?_
    refine lv_istore (lv' := [(4, .int (nI 0)), (0, .ref (h 0)), (1, .int x), (2, .int o), (3, .int y)]) hx hb dX1_placeOf_50 hl (by decide) rfl (fun ls hl => ?_)
    refine lv_iload hx hb dX1_placeOf_52 (lv_at hl 0 rfl) ?_
    refine n_if_eq (tgt := 71) hx hb (by omega) dX1_placeOf_54 (by decide) (fun c_54 => ?_) (fun c_54 => by exfalso; omega)
    refine lv_iconst (v := (-1)) hx hb dX1_placeOf_71 (by decide) ?_
    exact hQ dX1_placeOf_72 (by unfold fpo; rw [if_neg (fun q => c_5 q.1)])
  · refine lv_iload_n hx hb dX1_placeOf_8 rfl (lv_at hl 2 rfl) ?_
    refine lv_if_ne (tgt := 26) hx hb dX1_placeOf_9 (by decide) (fun c_9 => ?_) (fun c_9 => ?_)
    · refine lv_iload_n hx hb dX1_placeOf_26 rfl (lv_at hl 2 rfl) ?_
      refine lv_iconst (v := nI 1) hx hb dX1_placeOf_27 (by decide) ?_
      refine lv_icmp_ne (tgt := 49) hx hb dX1_placeOf_28 (by decide) (fun c_28 => ?_) (fun c_28 => ?_)
      · refine lv_iconst (v := nI 0) hx hb dX1_placeOf_49 (by decide) ?_
        refine lv_istore (lv' := [(4, .int (nI 0)), (0, .ref (h 0)), (1, .int x), (2, .int o), (3, .int y)]) hx hb dX1_placeOf_50 hl (by decide) rfl (fun ls hl => ?_)
        refine lv_iload hx hb dX1_placeOf_52 (lv_at hl 0 rfl) ?_
        refine n_if_eq (tgt := 71) hx hb (by omega) dX1_placeOf_54 (by decide) (fun c_54 => ?_) (fun c_54 => by exfalso; omega)
        refine lv_iconst (v := (-1)) hx hb dX1_placeOf_71 (by decide) ?_
        exact hQ dX1_placeOf_72 (by unfold fpo; rw [if_neg (fun q => (of01 q.2.1).elim c_9 c_28)])
      · refine lv_iload_n hx hb dX1_placeOf_31 rfl (lv_at hl 3 rfl) ?_
        refine lv_iconst (v := nI 0) hx hb dX1_placeOf_32 (by decide) ?_
        refine lv_aload_n hx hb dX1_placeOf_33 rfl (lv_at hl 0 rfl) ?_
        refine va_get (D := D) (ci := 1) (v := .int (nI (sT A))) (C := RX1) (T := TX1) (N := 13) hx hb hts hin0 hown hK hP 0 rfl rfl 1 (by decide) (hts (.fieldLink RX1 40 "VoicePartsModel" "times" "I") (by decide +kernel)) (fun _ h9 => h9) rfl dX1_placeOf_34 ?_
        refine lv_iconst (v := nI 1) hx hb dX1_placeOf_37 (by decide) ?_
        refine n_isub hx hb (by omega) dX1_placeOf_38 ?_
        refine ro_callS (As := [.int y, .int (nI 0), .int (nI ((sT A) - 1))]) (rest := []) ⟨hx, hb, hml, hown, hts⟩ (kX1_in l (y) (nI 0) (nI ((sT A) - 1))) (va_cwS 3 hts gX1_placeOf_X1_in rfl rfl rfl (by decide +kernel) ⟨Nat.le_of_ble_eq_true rfl, Nat.le_of_ble_eq_true rfl⟩) vT_bl vT_at rfl hl.1 rfl (Nat.le_of_ble_eq_true rfl) dX1_placeOf_39 ⟨Nat.zero_le _, Nat.zero_le _⟩ ?_
        refine b_if_eq (tgt := 49) hx hb dX1_placeOf_42 (by decide) (fun c_42 => ?_) (fun c_42 => ?_)
        · refine lv_iconst (v := nI 0) hx hb dX1_placeOf_49 (by decide) ?_
          refine lv_istore (lv' := [(4, .int (nI 0)), (0, .ref (h 0)), (1, .int x), (2, .int o), (3, .int y)]) hx hb dX1_placeOf_50 hl (by decide) rfl (fun ls hl => ?_)
          refine lv_iload hx hb dX1_placeOf_52 (lv_at hl 0 rfl) ?_
          refine n_if_eq (tgt := 71) hx hb (by omega) dX1_placeOf_54 (by decide) (fun c_54 => ?_) (fun c_54 => by exfalso; omega)
          refine lv_iconst (v := (-1)) hx hb dX1_placeOf_71 (by decide) ?_
          exact hQ dX1_placeOf_72 (by unfold fpo; rw [if_neg (fun q => c_42 (by have z := q.2.2; rw [if_neg c_9] at z; exact z))])
        · obtain ⟨k, hk, rfl⟩ := iN_of (n := sK A) c_5 (by omega) (by omega)
          obtain rfl := c_28
          obtain ⟨i, hi, rfl⟩ := iN_of (n := sT A) c_42 (by omega) (by omega)
          refine lv_iconst (v := nI 1) hx hb dX1_placeOf_45 (by decide) ?_
          refine lv_goto (tgt := 50) hx hb dX1_placeOf_46 (by decide) ?_
          refine lv_istore (lv' := [(4, .int (nI 1)), (0, .ref (h 0)), (1, .int (nI k)), (2, .int (nI 1)), (3, .int (nI i))]) hx hb dX1_placeOf_50 hl (by decide) rfl (fun ls hl => ?_)
          refine lv_iload hx hb dX1_placeOf_52 (lv_at hl 0 rfl) ?_
          refine n_if_eq (tgt := 71) hx hb (by omega) dX1_placeOf_54 (by decide) (fun c_54 => by exfalso; omega) (fun c_54 => ?_)
          refine lv_bipush (v := nI 16) hx hb dX1_placeOf_57 (by decide) ?_
          refine lv_iload_n hx hb dX1_placeOf_59 rfl (lv_at hl 2 rfl) ?_
          refine n_imulc hx hb dX1_placeOf_60 ?_
          refine lv_bipush (v := nI 6) hx hb dX1_placeOf_61 (by decide) ?_
          refine lv_iload_n hx hb dX1_placeOf_63 rfl (lv_at hl 3 rfl) ?_
          refine n_imul hx hb dX1_placeOf_64 ?_
          refine n_iadd hx hb dX1_placeOf_65 ?_
          refine lv_iload_n hx hb dX1_placeOf_66 rfl (lv_at hl 4 rfl) ?_
          refine n_iadd hx hb dX1_placeOf_67 ?_
          refine lv_goto (tgt := 72) hx hb dX1_placeOf_68 (by decide) ?_
          exact hQ dX1_placeOf_72 (by unfold fpo; rw [if_pos ⟨c_5, by decide, c_42⟩, cl_nI (n := k) (by omega), cl_nI (n := 1) (by decide), cl_nI (n := i) (by omega)]; exact congrArg nI (show k * 16 + 6 * 1 + i = k * 16 + (6 + i) by omega))
    · refine lv_iload_n hx hb dX1_placeOf_12 rfl (lv_at hl 3 rfl) ?_
      refine lv_iconst (v := nI 0) hx hb dX1_placeOf_13 (by decide) ?_
      refine lv_aload_n hx hb dX1_placeOf_14 rfl (lv_at hl 0 rfl) ?_
      refine va_get (D := D) (ci := 1) (v := .int (nI (sF A))) (C := RX1) (T := TX1) (N := 13) hx hb hts hin0 hown hK hP 0 rfl rfl 0 (by decide) (hts (.fieldLink RX1 36 "VoicePartsModel" "tones" "I") (by decide +kernel)) (fun _ h9 => h9) rfl dX1_placeOf_15 ?_
      refine lv_iconst (v := nI 1) hx hb dX1_placeOf_18 (by decide) ?_
      refine n_isub hx hb (by omega) dX1_placeOf_19 ?_
      refine ro_callS (As := [.int y, .int (nI 0), .int (nI ((sF A) - 1))]) (rest := []) ⟨hx, hb, hml, hown, hts⟩ (kX1_in l (y) (nI 0) (nI ((sF A) - 1))) (va_cwS 3 hts gX1_placeOf_X1_in rfl rfl rfl (by decide +kernel) ⟨Nat.le_of_ble_eq_true rfl, Nat.le_of_ble_eq_true rfl⟩) vT_bl vT_at rfl hl.1 rfl (Nat.le_of_ble_eq_true rfl) dX1_placeOf_20 ⟨Nat.zero_le _, Nat.zero_le _⟩ ?_
      refine b_if_ne (tgt := 45) hx hb dX1_placeOf_23 (by decide) (fun c_23 => ?_) (fun c_23 => ?_)
      · obtain ⟨k, hk, rfl⟩ := iN_of (n := sK A) c_5 (by omega) (by omega)
        obtain rfl : o = nI 0 := c_9
        obtain ⟨i, hi, rfl⟩ := iN_of (n := sF A) c_23 (by omega) (by omega)
        refine lv_iconst (v := nI 1) hx hb dX1_placeOf_45 (by decide) ?_
        refine lv_goto (tgt := 50) hx hb dX1_placeOf_46 (by decide) ?_
        refine lv_istore (lv' := [(4, .int (nI 1)), (0, .ref (h 0)), (1, .int (nI k)), (2, .int (nI 0)), (3, .int (nI i))]) hx hb dX1_placeOf_50 hl (by decide) rfl (fun ls hl => ?_)
        refine lv_iload hx hb dX1_placeOf_52 (lv_at hl 0 rfl) ?_
        refine n_if_eq (tgt := 71) hx hb (by omega) dX1_placeOf_54 (by decide) (fun c_54 => by exfalso; omega) (fun c_54 => ?_)
        refine lv_bipush (v := nI 16) hx hb dX1_placeOf_57 (by decide) ?_
        refine lv_iload_n hx hb dX1_placeOf_59 rfl (lv_at hl 2 rfl) ?_
        refine n_imulc hx hb dX1_placeOf_60 ?_
        refine lv_bipush (v := nI 6) hx hb dX1_placeOf_61 (by decide) ?_
        refine lv_iload_n hx hb dX1_placeOf_63 rfl (lv_at hl 3 rfl) ?_
        refine n_imul hx hb dX1_placeOf_64 ?_
        refine n_iadd hx hb dX1_placeOf_65 ?_
        refine lv_iload_n hx hb dX1_placeOf_66 rfl (lv_at hl 4 rfl) ?_
        refine n_iadd hx hb dX1_placeOf_67 ?_
        refine lv_goto (tgt := 72) hx hb dX1_placeOf_68 (by decide) ?_
        exact hQ dX1_placeOf_72 (by unfold fpo; rw [if_pos ⟨c_5, by decide, c_23⟩, cl_nI (n := k) (by omega), cl_nI (n := 0) (by decide), cl_nI (n := i) (by omega)]; rfl)
      · refine lv_iload_n hx hb dX1_placeOf_26 rfl (lv_at hl 2 rfl) ?_
        refine lv_iconst (v := nI 1) hx hb dX1_placeOf_27 (by decide) ?_
        refine lv_icmp_ne (tgt := 49) hx hb dX1_placeOf_28 (by decide) (fun c_28 => ?_) (fun c_28 => absurd (c_28.symm.trans c_9) (by decide))
        refine lv_iconst (v := nI 0) hx hb dX1_placeOf_49 (by decide) ?_
        refine lv_istore (lv' := [(4, .int (nI 0)), (0, .ref (h 0)), (1, .int x), (2, .int o), (3, .int y)]) hx hb dX1_placeOf_50 hl (by decide) rfl (fun ls hl => ?_)
        refine lv_iload hx hb dX1_placeOf_52 (lv_at hl 0 rfl) ?_
        refine n_if_eq (tgt := 71) hx hb (by omega) dX1_placeOf_54 (by decide) (fun c_54 => ?_) (fun c_54 => by exfalso; omega)
        refine lv_iconst (v := (-1)) hx hb dX1_placeOf_71 (by decide) ?_
        exact hQ dX1_placeOf_72 (by unfold fpo; rw [if_neg (fun q => c_23 (by have z := q.2.2; rw [if_pos c_9] at z; exact z))])
def rmX1_number : Room := { frames := 3, cells := 0, slots := 0, locals := 67 }
set_option maxHeartbeats 4000000 in
set_option maxRecDepth 100000 in
/-- number -/
theorem kX1_number (l : Launch) (D : va_G) (h : Nat → Nat) (cI cZ : ClassId) (A : St) (M : Nat → Int32) (hI : Inv A) (x o y : Int32) : RO l yX1_number wsX1_number rmX1_number [.ref (h 0), .int x, .int o, .int y] (vB D (mw h cI cZ A M) [(cI, .int), (cZ, .boolean)]) (aNu A x o y) := by
  refine ro_ofW (cc := cX1_number) (maxL := 5) (by decide) rfl (Nat.le_of_ble_eq_true rfl) ?_
  intro p e s m below meth c args Q hx hb hml hown hts hB hQ ls hl
  have hown : s.vm.findClass RX1 = some m.cls := hown
  obtain ⟨hP, hK⟩ := hB
  have hin0 : ∀ w ∈ u_ws RX1 TX1 13, w ∈ wsX1_number := fun _ h => List.mem_cons_of_mem _ (List.mem_append_right _ h)
  have hl : lv_has ls 5 [(0, .ref (h 0)), (1, .int x), (2, .int o), (3, .int y)] := hl
  have hF := hI.F
  have hT := hI.T
  have hK3 := hI.K
  have hJ := hI.J
  have hZ := hI.Z
  refine lv_aload_n hx hb dX1_number_0 rfl (lv_at hl 0 rfl) ?_
  refine lv_iload_n hx hb dX1_number_1 rfl (lv_at hl 1 rfl) ?_
  refine lv_iload_n hx hb dX1_number_2 rfl (lv_at hl 2 rfl) ?_
  refine lv_iload_n hx hb dX1_number_3 rfl (lv_at hl 3 rfl) ?_
  refine ro_callV (As := [.int x, .int o, .int y]) (rest := []) ⟨hx, hb, hml, hown, hts⟩ (kX1_placeOf l D h cI cZ A M  hI (x) (o) (y)) (cwV 3 hts gX1_number_X1_placeOf rfl rfl rfl (by decide +kernel) ⟨Nat.le_of_ble_eq_true rfl, Nat.le_of_ble_eq_true rfl⟩) vB_bl (vB_at hP hK) (va_recv hK hP (ci := 1) (q0 := 0) rfl rfl) rfl hl.1 rfl (Nat.le_of_ble_eq_true rfl) dX1_number_4 ⟨Nat.zero_le _, Nat.zero_le _⟩ ?_
  by_cases hp : pNu A x o y
  · obtain ⟨k, hk, rfl⟩ := iN_of (n := sK A) hp.1 (by omega) (by omega)
    obtain ⟨p0, ho, rfl⟩ := iN_of (n := 2) hp.2.1 (by decide) (by decide)
    obtain ⟨i, hi, rfl⟩ := iN_of hp.2.2 (by split <;> omega) (by split <;> omega)
    have hi8 : i < 2 ^ 31 := by split at hi <;> omega
    have hq := qi_lt hI ho hi
    refine n_top (y := nI (k * 16 + qi p0 i)) (by unfold fpo; rw [if_pos hp, cl_nI (n := k) (by omega), cl_nI (n := p0) (by omega), cl_nI (n := i) hi8]) ?_
    refine lv_istore (lv' := [(4, .int (nI (k * 16 + qi p0 i))), (0, .ref (h 0)), (1, .int (nI k)), (2, .int (nI p0)), (3, .int (nI i))]) hx hb dX1_number_7 hl (by decide) rfl (fun ls hl => ?_)
    refine lv_iload hx hb dX1_number_9 (lv_at hl 0 rfl) ?_
    refine n_if_ge (tgt := 18) hx hb (by omega) dX1_number_11 (by decide) ?_
    refine lv_aload_n hx hb dX1_number_18 rfl (lv_at hl 1 rfl) ?_
    refine va_get (D := D) (ci := 1) (v := .ref (h 2)) (C := RX1) (T := TX1) (N := 13) hx hb hts hin0 hown hK hP 0 rfl rfl 4 (by decide) (hts (.fieldLink RX1 13 "VoicePartsModel" "number" "[I") (by decide +kernel)) (fun _ h9 => h9) rfl dX1_number_19 ?_
    refine lv_iload hx hb dX1_number_22 (lv_at hl 0 rfl) ?_
    refine n_iald hx hb hK hP 2 0 rfl rfl (by omega) (by decide) dX1_number_24 ?_
    refine n_top (y := sV A k (qi p0 i)) (mVat (f := sV A) (by omega) rfl) ?_
    exact hQ dX1_number_25 (by unfold aNu; rw [if_pos hp, cl_nI (n := k) (by omega), cl_nI (n := p0) (by omega), cl_nI (n := i) hi8])
  · refine n_top (y := (-1)) (by unfold fpo; rw [if_neg hp]) ?_
    refine lv_istore (lv' := [(4, .int (-1)), (0, .ref (h 0)), (1, .int x), (2, .int o), (3, .int y)]) hx hb dX1_number_7 hl (by decide) rfl (fun ls hl => ?_)
    refine lv_iload hx hb dX1_number_9 (lv_at hl 0 rfl) ?_
    refine lv_if_ge (tgt := 18) hx hb dX1_number_11 (by decide) (fun c_11 => absurd c_11 (by decide)) (fun c_11 => ?_)
    refine lv_iconst (v := (-1)) hx hb dX1_number_14 (by decide) ?_
    refine lv_goto (tgt := 25) hx hb dX1_number_15 (by decide) ?_
    exact hQ dX1_number_25 (by unfold aNu; rw [if_neg hp])
def rmX1_begin : Room := { frames := 3, cells := 0, slots := 0, locals := 67 }
set_option maxHeartbeats 4000000 in
set_option maxRecDepth 100000 in
/-- begin -/
theorem kX1_begin (l : Launch) (D : va_G) (h : Nat → Nat) (cI cZ : ClassId) (A : St) (M : Nat → Int32) (hI : Inv A) (x o y v : Int32) : MU l yX1_begin wsX1_begin rmX1_begin [.ref (h 0), .int x, .int o, .int y, .int v] D [(cI, .int), (cZ, .boolean)] (mw h cI cZ A M) (mw h cI cZ (nBeg A x o y v) M) (some (.int (aBeg A x o y v))) := by
  refine mu_ofW (cc := cX1_begin) (maxL := 7) (by decide) rfl (Nat.le_of_ble_eq_true rfl) ?_
  intro p e s m below meth c args Q G H locs hx hb hml hown hts hP hK hD hS hQ ls hl
  have hown : s.vm.findClass RX1 = some m.cls := hown
  have hin0 : ∀ w ∈ u_ws RX1 TX1 13, w ∈ wsX1_begin := fun _ h => List.mem_cons_of_mem _ (List.mem_append_right _ h)
  have hl : lv_has ls 7 [(0, .ref (h 0)), (1, .int x), (2, .int o), (3, .int y), (4, .int v)] := hl
  have hF := hI.F
  have hT := hI.T
  have hK3 := hI.K
  have hJ := hI.J
  have hZ := hI.Z
  refine lv_aload_n hx hb dX1_begin_0 rfl (lv_at hl 0 rfl) ?_
  refine lv_iload_n hx hb dX1_begin_1 rfl (lv_at hl 1 rfl) ?_
  refine lv_iload_n hx hb dX1_begin_2 rfl (lv_at hl 2 rfl) ?_
  refine lv_iload_n hx hb dX1_begin_3 rfl (lv_at hl 3 rfl) ?_
  refine ro_callV (As := [.int x, .int o, .int y]) (rest := []) ⟨hx, hb, hml, hown, hts⟩ (kX1_placeOf l D h cI cZ A M  hI (x) (o) (y)) (cwV 3 hts gX1_begin_X1_placeOf rfl rfl rfl (by decide +kernel) ⟨Nat.le_of_ble_eq_true rfl, Nat.le_of_ble_eq_true rfl⟩) vB_bl (vB_at hP hK) (va_recv hK hP (ci := 1) (q0 := 0) rfl rfl) rfl hl.1 rfl (Nat.le_of_ble_eq_true rfl) dX1_begin_4 ⟨Nat.zero_le _, Nat.zero_le _⟩ ?_
  by_cases hp : pNu A x o y
  · obtain ⟨k, hk, rfl⟩ := iN_of (n := sK A) hp.1 (by omega) (by omega)
    obtain ⟨p0, ho, rfl⟩ := iN_of (n := 2) hp.2.1 (by decide) (by decide)
    obtain ⟨i, hi, rfl⟩ := iN_of hp.2.2 (by split <;> omega) (by split <;> omega)
    have hi8 : i < 2 ^ 31 := by split at hi <;> omega
    have hq := qi_lt hI ho hi
    refine n_top (y := nI (k * 16 + qi p0 i)) (by unfold fpo; rw [if_pos hp, cl_nI (n := k) (by omega), cl_nI (n := p0) (by omega), cl_nI (n := i) hi8]) ?_
    refine lv_istore (lv' := [(5, .int (nI (k * 16 + qi p0 i))), (0, .ref (h 0)), (1, .int (nI k)), (2, .int (nI p0)), (3, .int (nI i)), (4, .int v)]) hx hb dX1_begin_7 hl (by decide) rfl (fun ls hl => ?_)
    refine lv_iload hx hb dX1_begin_9 (lv_at hl 0 rfl) ?_
    refine n_if_lt (tgt := 25) hx hb (by omega) dX1_begin_11 (by decide) ?_
    refine lv_iload hx hb dX1_begin_14 (lv_at hl 5 rfl) ?_
    refine lv_iconst (v := nI 0) hx hb dX1_begin_16 (by decide) ?_
    refine lv_bipush (v := nI 20) hx hb dX1_begin_17 (by decide) ?_
    refine ro_callS (As := [.int v, .int (nI 0), .int (nI 20)]) (rest := []) ⟨hx, hb, hml, hown, hts⟩ (kX1_in l (v) (nI 0) (nI 20)) (va_cwS 3 hts gX1_begin_X1_in rfl rfl rfl (by decide +kernel) ⟨Nat.le_of_ble_eq_true rfl, Nat.le_of_ble_eq_true rfl⟩) vT_bl vT_at rfl hl.1 rfl (Nat.le_of_ble_eq_true rfl) dX1_begin_19 ⟨Nat.zero_le _, Nat.zero_le _⟩ ?_
    refine b_if_ne (tgt := 27) hx hb dX1_begin_22 (by decide) (fun c_22 => ?_) (fun c_22 => ?_)
    · refine lv_aload_n hx hb dX1_begin_27 rfl (lv_at hl 1 rfl) ?_
      refine va_get (D := D) (ci := 1) (v := .ref (h 3)) (C := RX1) (T := TX1) (N := 13) hx hb hts hin0 hown hK hP 0 rfl rfl 5 (by decide) (hts (.fieldLink RX1 16 "VoicePartsModel" "isBarred" "[Z") (by decide +kernel)) (fun _ h9 => h9) rfl dX1_begin_28 ?_
      refine lv_iload hx hb dX1_begin_31 (lv_at hl 0 rfl) ?_
      refine n_zald hx hb hK hP 3 1 rfl rfl (by omega) (by decide) dX1_begin_33 ?_
      refine n_top (y := if sX A k (qi p0 i) = true then 1 else 0) (mXat (X := sX A) (by omega)) ?_
      refine b_if_eq (tgt := 40) hx hb dX1_begin_34 (by decide) (fun c_34 => ?_) (fun c_34 => ?_)
      · refine lv_aload_n hx hb dX1_begin_40 rfl (lv_at hl 1 rfl) ?_
        refine va_get (D := D) (ci := 1) (v := .ref (h 2)) (C := RX1) (T := TX1) (N := 13) hx hb hts hin0 hown hK hP 0 rfl rfl 4 (by decide) (hts (.fieldLink RX1 13 "VoicePartsModel" "number" "[I") (by decide +kernel)) (fun _ h9 => h9) rfl dX1_begin_41 ?_
        refine lv_iload hx hb dX1_begin_44 (lv_at hl 0 rfl) ?_
        refine n_iald hx hb hK hP 2 0 rfl rfl (by omega) (by decide) dX1_begin_46 ?_
        refine n_top (y := sV A k (qi p0 i)) (mVat (f := sV A) (by omega) rfl) ?_
        refine lv_istore (lv' := [(6, .int (sV A k (qi p0 i))), (5, .int (nI (k * 16 + qi p0 i))), (0, .ref (h 0)), (1, .int (nI k)), (2, .int (nI p0)), (3, .int (nI i)), (4, .int v)]) hx hb dX1_begin_47 hl (by decide) rfl (fun ls hl => ?_)
        refine lv_aload_n hx hb dX1_begin_49 rfl (lv_at hl 2 rfl) ?_
        refine va_get (D := D) (ci := 1) (v := .ref (h 2)) (C := RX1) (T := TX1) (N := 13) hx hb hts hin0 hown hK hP 0 rfl rfl 4 (by decide) (hts (.fieldLink RX1 13 "VoicePartsModel" "number" "[I") (by decide +kernel)) (fun _ h9 => h9) rfl dX1_begin_50 ?_
        refine lv_iload hx hb dX1_begin_53 (lv_at hl 1 rfl) ?_
        refine lv_iload hx hb dX1_begin_55 (lv_at hl 6 rfl) ?_
        refine n_iast hx hb hK hP hD hS 2 0 rfl rfl (by omega) (by decide) dX1_begin_57 (fun H locs hP hD hS => ?_)
        obtain ⟨A1, eA1⟩ : ∃ z : St, z = uV A (upV (sV A) k (qi p0 i) (v)) := ⟨_, rfl⟩
        have hP : va_P D vwCl (mw h cI cZ A1 M) H := by rw [eA1]; have z := hP; rw [mVup (k := k) (i := qi p0 i) (by omega)] at z; exact z
        have hD : va_D G (mw h cI cZ A1 M) := va_D.to hD rfl
        refine lv_iload hx hb dX1_begin_58 (lv_at hl 0 rfl) ?_
        exact hQ dX1_begin_60 (by unfold aBeg; rw [if_pos ⟨hp, c_22⟩, cl_nI (n := k) (by omega), cl_nI (n := p0) (by omega), cl_nI (n := i) hi8, if_neg c_34]) (by rw [eA1] at hP; unfold nBeg; rw [cl_nI (n := k) (by omega), cl_nI (n := p0) (by omega), cl_nI (n := i) hi8, if_pos ⟨⟨hp, c_22⟩, c_34⟩]; exact hP) hS
      · refine lv_bipush (v := (-2)) hx hb dX1_begin_37 (by decide) ?_
        exact hQ dX1_begin_39 (by unfold aBeg; rw [if_pos ⟨hp, c_22⟩, cl_nI (n := k) (by omega), cl_nI (n := p0) (by omega), cl_nI (n := i) hi8, if_pos c_34]) (by unfold nBeg; rw [cl_nI (n := k) (by omega), cl_nI (n := p0) (by omega), cl_nI (n := i) hi8, if_neg (fun q => q.2 c_34)]; exact hP) hS
    · refine lv_iconst (v := (-1)) hx hb dX1_begin_25 (by decide) ?_
      exact hQ dX1_begin_26 (by unfold aBeg; rw [if_neg (fun q => c_22 q.2)]) (by unfold nBeg; rw [if_neg (fun q => c_22 q.1.2)]; exact hP) hS
  · refine n_top (y := (-1)) (by unfold fpo; rw [if_neg hp]) ?_
    refine lv_istore (lv' := [(5, .int (-1)), (0, .ref (h 0)), (1, .int x), (2, .int o), (3, .int y), (4, .int v)]) hx hb dX1_begin_7 hl (by decide) rfl (fun ls hl => ?_)
    refine lv_iload hx hb dX1_begin_9 (lv_at hl 0 rfl) ?_
    refine lv_if_lt (tgt := 25) hx hb dX1_begin_11 (by decide) (fun c_11 => ?_) (fun c_11 => absurd (by decide) c_11)
    refine lv_iconst (v := (-1)) hx hb dX1_begin_25 (by decide) ?_
    exact hQ dX1_begin_26 (by unfold aBeg; rw [if_neg (fun q => hp q.1)]) (by unfold nBeg; rw [if_neg (fun q => hp q.1.1)]; exact hP) hS
def rmX1_bar : Room := { frames := 3, cells := 0, slots := 0, locals := 67 }
set_option maxHeartbeats 4000000 in
set_option maxRecDepth 100000 in
/-- bar -/
theorem kX1_bar (l : Launch) (D : va_G) (h : Nat → Nat) (cI cZ : ClassId) (A : St) (M : Nat → Int32) (hI : Inv A) (x o y : Int32) : MU l yX1_bar wsX1_bar rmX1_bar [.ref (h 0), .int x, .int o, .int y] D [(cI, .int), (cZ, .boolean)] (mw h cI cZ A M) (mw h cI cZ (nBar A x o y) M) (some (.int (aBar A x o y))) := by
  refine mu_ofW (cc := cX1_bar) (maxL := 6) (by decide) rfl (Nat.le_of_ble_eq_true rfl) ?_
  intro p e s m below meth c args Q G H locs hx hb hml hown hts hP hK hD hS hQ ls hl
  have hown : s.vm.findClass RX1 = some m.cls := hown
  have hin0 : ∀ w ∈ u_ws RX1 TX1 13, w ∈ wsX1_bar := fun _ h => List.mem_cons_of_mem _ (List.mem_append_right _ h)
  have hl : lv_has ls 6 [(0, .ref (h 0)), (1, .int x), (2, .int o), (3, .int y)] := hl
  have hF := hI.F
  have hT := hI.T
  have hK3 := hI.K
  have hJ := hI.J
  have hZ := hI.Z
  refine lv_aload_n hx hb dX1_bar_0 rfl (lv_at hl 0 rfl) ?_
  refine lv_iload_n hx hb dX1_bar_1 rfl (lv_at hl 1 rfl) ?_
  refine lv_iload_n hx hb dX1_bar_2 rfl (lv_at hl 2 rfl) ?_
  refine lv_iload_n hx hb dX1_bar_3 rfl (lv_at hl 3 rfl) ?_
  refine ro_callV (As := [.int x, .int o, .int y]) (rest := []) ⟨hx, hb, hml, hown, hts⟩ (kX1_placeOf l D h cI cZ A M  hI (x) (o) (y)) (cwV 3 hts gX1_bar_X1_placeOf rfl rfl rfl (by decide +kernel) ⟨Nat.le_of_ble_eq_true rfl, Nat.le_of_ble_eq_true rfl⟩) vB_bl (vB_at hP hK) (va_recv hK hP (ci := 1) (q0 := 0) rfl rfl) rfl hl.1 rfl (Nat.le_of_ble_eq_true rfl) dX1_bar_4 ⟨Nat.zero_le _, Nat.zero_le _⟩ ?_
  by_cases hp : pNu A x o y
  · obtain ⟨k, hk, rfl⟩ := iN_of (n := sK A) hp.1 (by omega) (by omega)
    obtain ⟨p0, ho, rfl⟩ := iN_of (n := 2) hp.2.1 (by decide) (by decide)
    obtain ⟨i, hi, rfl⟩ := iN_of hp.2.2 (by split <;> omega) (by split <;> omega)
    have hi8 : i < 2 ^ 31 := by split at hi <;> omega
    have hq := qi_lt hI ho hi
    refine n_top (y := nI (k * 16 + qi p0 i)) (by unfold fpo; rw [if_pos hp, cl_nI (n := k) (by omega), cl_nI (n := p0) (by omega), cl_nI (n := i) hi8]) ?_
    refine lv_istore (lv' := [(4, .int (nI (k * 16 + qi p0 i))), (0, .ref (h 0)), (1, .int (nI k)), (2, .int (nI p0)), (3, .int (nI i))]) hx hb dX1_bar_7 hl (by decide) rfl (fun ls hl => ?_)
    refine lv_iload hx hb dX1_bar_9 (lv_at hl 0 rfl) ?_
    refine n_if_ge (tgt := 16) hx hb (by omega) dX1_bar_11 (by decide) ?_
    refine lv_aload_n hx hb dX1_bar_16 rfl (lv_at hl 1 rfl) ?_
    refine va_get (D := D) (ci := 1) (v := .ref (h 3)) (C := RX1) (T := TX1) (N := 13) hx hb hts hin0 hown hK hP 0 rfl rfl 5 (by decide) (hts (.fieldLink RX1 16 "VoicePartsModel" "isBarred" "[Z") (by decide +kernel)) (fun _ h9 => h9) rfl dX1_bar_17 ?_
    refine lv_iload hx hb dX1_bar_20 (lv_at hl 0 rfl) ?_
    refine n_zald hx hb hK hP 3 1 rfl rfl (by omega) (by decide) dX1_bar_22 ?_
    refine n_top (y := if sX A k (qi p0 i) = true then 1 else 0) (mXat (X := sX A) (by omega)) ?_
    refine b_if_eq (tgt := 29) hx hb dX1_bar_23 (by decide) (fun c_23 => ?_) (fun c_23 => ?_)
    · refine lv_aload_n hx hb dX1_bar_29 rfl (lv_at hl 1 rfl) ?_
      refine va_get (D := D) (ci := 1) (v := .ref (h 2)) (C := RX1) (T := TX1) (N := 13) hx hb hts hin0 hown hK hP 0 rfl rfl 4 (by decide) (hts (.fieldLink RX1 13 "VoicePartsModel" "number" "[I") (by decide +kernel)) (fun _ h9 => h9) rfl dX1_bar_30 ?_
      refine lv_iload hx hb dX1_bar_33 (lv_at hl 0 rfl) ?_
      refine n_iald hx hb hK hP 2 0 rfl rfl (by omega) (by decide) dX1_bar_35 ?_
      refine n_top (y := sV A k (qi p0 i)) (mVat (f := sV A) (by omega) rfl) ?_
      refine lv_istore (lv' := [(5, .int (sV A k (qi p0 i))), (4, .int (nI (k * 16 + qi p0 i))), (0, .ref (h 0)), (1, .int (nI k)), (2, .int (nI p0)), (3, .int (nI i))]) hx hb dX1_bar_36 hl (by decide) rfl (fun ls hl => ?_)
      refine lv_aload_n hx hb dX1_bar_38 rfl (lv_at hl 2 rfl) ?_
      refine va_get (D := D) (ci := 1) (v := .ref (h 2)) (C := RX1) (T := TX1) (N := 13) hx hb hts hin0 hown hK hP 0 rfl rfl 4 (by decide) (hts (.fieldLink RX1 13 "VoicePartsModel" "number" "[I") (by decide +kernel)) (fun _ h9 => h9) rfl dX1_bar_39 ?_
      refine lv_iload hx hb dX1_bar_42 (lv_at hl 1 rfl) ?_
      refine lv_iconst (v := nI 0) hx hb dX1_bar_44 (by decide) ?_
      refine n_iast hx hb hK hP hD hS 2 0 rfl rfl (by omega) (by decide) dX1_bar_45 (fun H locs hP hD hS => ?_)
      obtain ⟨A1, eA1⟩ : ∃ z : St, z = uV A (upV (sV A) k (qi p0 i) (nI 0)) := ⟨_, rfl⟩
      have hP : va_P D vwCl (mw h cI cZ A1 M) H := by rw [eA1]; have z := hP; rw [mVup (k := k) (i := qi p0 i) (by omega)] at z; exact z
      have hD : va_D G (mw h cI cZ A1 M) := va_D.to hD rfl
      refine lv_aload_n hx hb dX1_bar_46 rfl (lv_at hl 2 rfl) ?_
      refine va_get (D := D) (ci := 1) (v := .ref (h 3)) (C := RX1) (T := TX1) (N := 13) hx hb hts hin0 hown hK hP 0 rfl rfl 5 (by decide) (hts (.fieldLink RX1 16 "VoicePartsModel" "isBarred" "[Z") (by decide +kernel)) (fun _ h9 => h9) rfl dX1_bar_47 ?_
      refine lv_iload hx hb dX1_bar_50 (lv_at hl 1 rfl) ?_
      refine lv_iconst (v := nI 1) hx hb dX1_bar_52 (by decide) ?_
      refine n_zast hx hb hK hP hD hS 3 1 rfl rfl (by omega) (by decide) (by decide) dX1_bar_53 (fun H locs hP hD hS => ?_)
      obtain ⟨A2, eA2⟩ : ∃ z : St, z = uX A1 (upX (sX A1) k (qi p0 i)) := ⟨_, rfl⟩
      have hP : va_P D vwCl (mw h cI cZ A2 M) H := by rw [eA2]; have z := hP; rw [mXup (k := k) (i := qi p0 i) (by omega)] at z; exact z
      have hD : va_D G (mw h cI cZ A2 M) := va_D.to hD rfl
      refine lv_iload hx hb dX1_bar_54 (lv_at hl 0 rfl) ?_
      exact hQ dX1_bar_56 (by unfold aBar; rw [if_pos hp, cl_nI (n := k) (by omega), cl_nI (n := p0) (by omega), cl_nI (n := i) hi8, if_neg c_23]) (by rw [eA2, eA1] at hP; unfold nBar; rw [cl_nI (n := k) (by omega), cl_nI (n := p0) (by omega), cl_nI (n := i) hi8, if_pos ⟨hp, c_23⟩]; exact hP) hS
    · refine lv_bipush (v := (-2)) hx hb dX1_bar_26 (by decide) ?_
      exact hQ dX1_bar_28 (by unfold aBar; rw [if_pos hp, cl_nI (n := k) (by omega), cl_nI (n := p0) (by omega), cl_nI (n := i) hi8, if_pos c_23]) (by unfold nBar; rw [cl_nI (n := k) (by omega), cl_nI (n := p0) (by omega), cl_nI (n := i) hi8, if_neg (fun q => q.2 c_23)]; exact hP) hS
  · refine n_top (y := (-1)) (by unfold fpo; rw [if_neg hp]) ?_
    refine lv_istore (lv' := [(4, .int (-1)), (0, .ref (h 0)), (1, .int x), (2, .int o), (3, .int y)]) hx hb dX1_bar_7 hl (by decide) rfl (fun ls hl => ?_)
    refine lv_iload hx hb dX1_bar_9 (lv_at hl 0 rfl) ?_
    refine lv_if_ge (tgt := 16) hx hb dX1_bar_11 (by decide) (fun c_11 => absurd c_11 (by decide)) (fun c_11 => ?_)
    refine lv_iconst (v := (-1)) hx hb dX1_bar_14 (by decide) ?_
    exact hQ dX1_bar_15 (by unfold aBar; rw [if_neg hp]) (by unfold nBar; rw [if_neg (fun q => hp q.1)]; exact hP) hS
def rmX1_judge : Room := { frames := 1, cells := 0, slots := 0, locals := 22 }
set_option maxHeartbeats 4000000 in
set_option maxRecDepth 100000 in
/-- judge -/
theorem kX1_judge (l : Launch) (D : va_G) (h : Nat → Nat) (cI cZ : ClassId) (A : St) (M : Nat → Int32) (hI : Inv A) (x : Int32) : MU l yX1_judge wsX1_judge rmX1_judge [.ref (h 0), .int x] D [(cI, .int), (cZ, .boolean)] (mw h cI cZ A M) (mw h cI cZ (nJu A x) M) (some (.int (aJu A x))) := by
  refine mu_ofW (cc := cX1_judge) (maxL := 3) (by decide) rfl (Nat.le_of_ble_eq_true rfl) ?_
  intro p e s m below meth c args Q G H locs hx hb hml hown hts hP hK hD hS hQ ls hl
  have hown : s.vm.findClass RX1 = some m.cls := hown
  have hin0 : ∀ w ∈ u_ws RX1 TX1 13, w ∈ wsX1_judge := fun _ h => List.mem_cons_of_mem _ (List.mem_append_right _ h)
  have hl : lv_has ls 3 [(0, .ref (h 0)), (1, .int x)] := hl
  have hF := hI.F
  have hT := hI.T
  have hK3 := hI.K
  have hJ := hI.J
  have hZ := hI.Z
  refine lv_iload_n hx hb dX1_judge_0 rfl (lv_at hl 1 rfl) ?_
  refine lv_iconst (v := nI 0) hx hb dX1_judge_1 (by decide) ?_
  refine lv_iconst (v := nI 2) hx hb dX1_judge_2 (by decide) ?_
  refine ro_callS (As := [.int x, .int (nI 0), .int (nI 2)]) (rest := []) ⟨hx, hb, hml, hown, hts⟩ (kX1_in l (x) (nI 0) (nI 2)) (va_cwS 3 hts gX1_judge_X1_in rfl rfl rfl (by decide +kernel) ⟨Nat.le_of_ble_eq_true rfl, Nat.le_of_ble_eq_true rfl⟩) vT_bl vT_at rfl hl.1 rfl (Nat.le_of_ble_eq_true rfl) dX1_judge_3 ⟨Nat.zero_le _, Nat.zero_le _⟩ ?_
  refine b_if_ne (tgt := 11) hx hb dX1_judge_6 (by decide) (fun c_6 => ?_) (fun c_6 => ?_)
  · obtain ⟨j, hj, rfl⟩ := iN_of (n := 3) c_6 (by decide) (by decide)
    refine lv_aload_n hx hb dX1_judge_11 rfl (lv_at hl 0 rfl) ?_
    refine va_get (D := D) (ci := 1) (v := .int (nI (sJ A))) (C := RX1) (T := TX1) (N := 13) hx hb hts hin0 hown hK hP 0 rfl rfl 7 (by decide) (hts (.fieldLink RX1 76 "VoicePartsModel" "judge" "I") (by decide +kernel)) (fun _ h9 => h9) rfl dX1_judge_12 ?_
    refine lv_istore_n (lv' := [(2, .int (nI (sJ A))), (0, .ref (h 0)), (1, .int (nI j))]) hx hb dX1_judge_15 rfl hl (by decide) rfl (fun ls hl => ?_)
    refine lv_aload_n hx hb dX1_judge_16 rfl (lv_at hl 1 rfl) ?_
    refine lv_iload_n hx hb dX1_judge_17 rfl (lv_at hl 2 rfl) ?_
    refine va_put (D := D) (ci := 1) (v := .int (nI j)) (ty := .int) (C := RX1) (T := TX1) (N := 13) hx hb hts hin0 tyX1 tyX1_ok nmX1 hown hK hP hD hS 0 rfl rfl 7 (by decide) (hts (.fieldLink RX1 76 "VoicePartsModel" "judge" "I") (by decide +kernel)) (fun _ h9 => h9) rfl (by decide +kernel) rfl rfl (Nat.le_of_ble_eq_true rfl) dX1_judge_18 (fun H locs hP hD hS => ?_)
    obtain ⟨A1, eA1⟩ : ∃ z : St, z = uJ A (j) := ⟨_, rfl⟩
    have hP : va_P D vwCl (mw h cI cZ A1 M) H := by rw [eA1]; exact hP
    have hD : va_D G (mw h cI cZ A1 M) := va_D.to hD rfl
    refine lv_iload_n hx hb dX1_judge_21 rfl (lv_at hl 0 rfl) ?_
    exact hQ dX1_judge_22 (by unfold aJu; rw [if_pos c_6]) (by rw [eA1] at hP; unfold nJu; rw [if_pos c_6, cl_nI (n := j) (by omega)]; exact hP) hS
  · refine lv_iconst (v := (-1)) hx hb dX1_judge_9 (by decide) ?_
    exact hQ dX1_judge_10 (by unfold aJu; rw [if_neg c_6]) (by unfold nJu; rw [if_neg c_6]; exact hP) hS
def rmX1_cost : Room := { frames := 1, cells := 0, slots := 0, locals := 22 }
set_option maxHeartbeats 4000000 in
set_option maxRecDepth 100000 in
/-- cost -/
theorem kX1_cost (l : Launch) (D : va_G) (h : Nat → Nat) (cI cZ : ClassId) (A : St) (M : Nat → Int32) (hI : Inv A) (x d : Int32) : MU l yX1_cost wsX1_cost rmX1_cost [.ref (h 0), .int x, .int d] D [(cI, .int), (cZ, .boolean)] (mw h cI cZ A M) (mw h cI cZ (nCs A x d) M) (some (.int (aCs x d))) := by
  refine mu_ofW (cc := cX1_cost) (maxL := 3) (by decide) rfl (Nat.le_of_ble_eq_true rfl) ?_
  intro p e s m below meth c args Q G H locs hx hb hml hown hts hP hK hD hS hQ ls hl
  have hown : s.vm.findClass RX1 = some m.cls := hown
  have hin0 : ∀ w ∈ u_ws RX1 TX1 13, w ∈ wsX1_cost := fun _ h => List.mem_cons_of_mem _ (List.mem_append_right _ h)
  have hl : lv_has ls 3 [(0, .ref (h 0)), (1, .int x), (2, .int d)] := hl
  have hF := hI.F
  have hT := hI.T
  have hK3 := hI.K
  have hJ := hI.J
  have hZ := hI.Z
  refine lv_iload_n hx hb dX1_cost_0 rfl (lv_at hl 1 rfl) ?_
  refine lv_iconst (v := nI 0) hx hb dX1_cost_1 (by decide) ?_
  refine lv_iconst (v := nI 2) hx hb dX1_cost_2 (by decide) ?_
  refine ro_callS (As := [.int x, .int (nI 0), .int (nI 2)]) (rest := []) ⟨hx, hb, hml, hown, hts⟩ (kX1_in l (x) (nI 0) (nI 2)) (va_cwS 3 hts gX1_cost_X1_in rfl rfl rfl (by decide +kernel) ⟨Nat.le_of_ble_eq_true rfl, Nat.le_of_ble_eq_true rfl⟩) vT_bl vT_at rfl hl.1 rfl (Nat.le_of_ble_eq_true rfl) dX1_cost_3 ⟨Nat.zero_le _, Nat.zero_le _⟩ ?_
  refine b_if_eq (tgt := 20) hx hb dX1_cost_6 (by decide) (fun c_6 => ?_) (fun c_6 => ?_)
  · refine lv_iconst (v := (-1)) hx hb dX1_cost_20 (by decide) ?_
    exact hQ dX1_cost_21 (by unfold aCs; rw [if_neg (fun q => c_6 q.1)]) (by unfold nCs; rw [if_neg (fun q => c_6 q.1)]; exact hP) hS
  · refine lv_iload_n hx hb dX1_cost_9 rfl (lv_at hl 2 rfl) ?_
    refine lv_iconst (v := nI 0) hx hb dX1_cost_10 (by decide) ?_
    refine lv_sipush (v := nI 2000) hx hb dX1_cost_11 (by decide) ?_
    refine ro_callS (As := [.int d, .int (nI 0), .int (nI 2000)]) (rest := []) ⟨hx, hb, hml, hown, hts⟩ (kX1_in l (d) (nI 0) (nI 2000)) (va_cwS 3 hts gX1_cost_X1_in rfl rfl rfl (by decide +kernel) ⟨Nat.le_of_ble_eq_true rfl, Nat.le_of_ble_eq_true rfl⟩) vT_bl vT_at rfl hl.1 rfl (Nat.le_of_ble_eq_true rfl) dX1_cost_14 ⟨Nat.zero_le _, Nat.zero_le _⟩ ?_
    refine b_if_ne (tgt := 22) hx hb dX1_cost_17 (by decide) (fun c_17 => ?_) (fun c_17 => ?_)
    · obtain ⟨j, hj, rfl⟩ := iN_of (n := 3) c_6 (by decide) (by decide)
      refine lv_aload_n hx hb dX1_cost_22 rfl (lv_at hl 0 rfl) ?_
      refine lv_dup hx hb dX1_cost_23 rfl ?_
      refine va_get (D := D) (ci := 1) (v := .long (sC A)) (C := RX1) (T := TX1) (N := 13) hx hb hts hin0 hown hK hP 0 rfl rfl 11 (by decide) (hts (.fieldLink RX1 79 "VoicePartsModel" "trace" "J") (by decide +kernel)) (fun _ h9 => h9) rfl dX1_cost_24 ?_
      refine lv_iload_n hx hb dX1_cost_27 rfl (lv_at hl 1 rfl) ?_
      refine n_if_ne (tgt := 35) hx hb (by omega) dX1_cost_28 (by decide) (fun c_28 => ?_) (fun c_28 => ?_)
      · refine lv_iload_n hx hb dX1_cost_35 rfl (lv_at hl 1 rfl) ?_
        refine lv_iconst (v := nI 1) hx hb dX1_cost_36 (by decide) ?_
        refine n_icmp_ne (tgt := 46) hx hb (by omega) (by omega) dX1_cost_37 (by decide) (fun c_37 => ?_) (fun c_37 => ?_)
        · refine lv_ldc2 (v := (111)) hx hb hown (hts (.constantLong RX1 85 (111)) (by decide +kernel)) dX1_cost_46 ?_
          refine lv_ladd hx hb dX1_cost_49 ?_
          refine n_topl (y := sC A + tk j) (by unfold tk; rw [if_neg c_28, if_neg c_37]) ?_
          refine va_put (D := D) (ci := 1) (v := .long (sC A + tk j)) (ty := .long) (C := RX1) (T := TX1) (N := 13) hx hb hts hin0 tyX1 tyX1_ok nmX1 hown hK hP hD hS 0 rfl rfl 11 (by decide) (hts (.fieldLink RX1 79 "VoicePartsModel" "trace" "J") (by decide +kernel)) (fun _ h9 => h9) rfl (by decide +kernel) rfl rfl (Nat.le_of_ble_eq_true rfl) dX1_cost_50 (fun H locs hP hD hS => ?_)
          obtain ⟨A1, eA1⟩ : ∃ z : St, z = uC A (sC A + tk j) := ⟨_, rfl⟩
          have hP : va_P D vwCl (mw h cI cZ A1 M) H := by rw [eA1]; exact hP
          have hD : va_D G (mw h cI cZ A1 M) := va_D.to hD rfl
          refine lv_iload_n hx hb dX1_cost_53 rfl (lv_at hl 1 rfl) ?_
          refine lv_iload_n hx hb dX1_cost_54 rfl (lv_at hl 2 rfl) ?_
          refine ro_callS (As := [.int (nI j), .int d]) (rest := []) ⟨hx, hb, hml, hown, hts⟩ (kX1_costOf l (j) (d) (by omega)) (va_cwS 2 hts gX1_cost_X1_costOf rfl rfl rfl (by decide +kernel) ⟨Nat.le_of_ble_eq_true rfl, Nat.le_of_ble_eq_true rfl⟩) vT_bl vT_at rfl hl.1 rfl (Nat.le_of_ble_eq_true rfl) dX1_cost_55 ⟨Nat.zero_le _, Nat.zero_le _⟩ ?_
          exact hQ dX1_cost_58 (by unfold aCs; rw [if_pos ⟨c_6, c_17⟩, cl_nI (n := j) (by omega)]) (by rw [eA1] at hP; unfold nCs; rw [if_pos ⟨c_6, c_17⟩, cl_nI (n := j) (by omega)]; exact hP) hS
        · refine lv_ldc2 (v := (11)) hx hb hown (hts (.constantLong RX1 83 (11)) (by decide +kernel)) dX1_cost_40 ?_
          refine lv_goto (tgt := 49) hx hb dX1_cost_43 (by decide) ?_
          refine lv_ladd hx hb dX1_cost_49 ?_
          refine n_topl (y := sC A + tk j) (by unfold tk; rw [if_neg c_28, if_pos c_37]) ?_
          refine va_put (D := D) (ci := 1) (v := .long (sC A + tk j)) (ty := .long) (C := RX1) (T := TX1) (N := 13) hx hb hts hin0 tyX1 tyX1_ok nmX1 hown hK hP hD hS 0 rfl rfl 11 (by decide) (hts (.fieldLink RX1 79 "VoicePartsModel" "trace" "J") (by decide +kernel)) (fun _ h9 => h9) rfl (by decide +kernel) rfl rfl (Nat.le_of_ble_eq_true rfl) dX1_cost_50 (fun H locs hP hD hS => ?_)
          obtain ⟨A2, eA2⟩ : ∃ z : St, z = uC A (sC A + tk j) := ⟨_, rfl⟩
          have hP : va_P D vwCl (mw h cI cZ A2 M) H := by rw [eA2]; exact hP
          have hD : va_D G (mw h cI cZ A2 M) := va_D.to hD rfl
          refine lv_iload_n hx hb dX1_cost_53 rfl (lv_at hl 1 rfl) ?_
          refine lv_iload_n hx hb dX1_cost_54 rfl (lv_at hl 2 rfl) ?_
          refine ro_callS (As := [.int (nI j), .int d]) (rest := []) ⟨hx, hb, hml, hown, hts⟩ (kX1_costOf l (j) (d) (by omega)) (va_cwS 2 hts gX1_cost_X1_costOf rfl rfl rfl (by decide +kernel) ⟨Nat.le_of_ble_eq_true rfl, Nat.le_of_ble_eq_true rfl⟩) vT_bl vT_at rfl hl.1 rfl (Nat.le_of_ble_eq_true rfl) dX1_cost_55 ⟨Nat.zero_le _, Nat.zero_le _⟩ ?_
          exact hQ dX1_cost_58 (by unfold aCs; rw [if_pos ⟨c_6, c_17⟩, cl_nI (n := j) (by omega)]) (by rw [eA2] at hP; unfold nCs; rw [if_pos ⟨c_6, c_17⟩, cl_nI (n := j) (by omega)]; exact hP) hS
      · refine lv_lconst (v := (1)) hx hb dX1_cost_31 (by decide) ?_
        refine lv_goto (tgt := 49) hx hb dX1_cost_32 (by decide) ?_
        refine lv_ladd hx hb dX1_cost_49 ?_
        refine n_topl (y := sC A + tk j) (by unfold tk; rw [if_pos c_28]) ?_
        refine va_put (D := D) (ci := 1) (v := .long (sC A + tk j)) (ty := .long) (C := RX1) (T := TX1) (N := 13) hx hb hts hin0 tyX1 tyX1_ok nmX1 hown hK hP hD hS 0 rfl rfl 11 (by decide) (hts (.fieldLink RX1 79 "VoicePartsModel" "trace" "J") (by decide +kernel)) (fun _ h9 => h9) rfl (by decide +kernel) rfl rfl (Nat.le_of_ble_eq_true rfl) dX1_cost_50 (fun H locs hP hD hS => ?_)
        obtain ⟨A3, eA3⟩ : ∃ z : St, z = uC A (sC A + tk j) := ⟨_, rfl⟩
        have hP : va_P D vwCl (mw h cI cZ A3 M) H := by rw [eA3]; exact hP
        have hD : va_D G (mw h cI cZ A3 M) := va_D.to hD rfl
        refine lv_iload_n hx hb dX1_cost_53 rfl (lv_at hl 1 rfl) ?_
        refine lv_iload_n hx hb dX1_cost_54 rfl (lv_at hl 2 rfl) ?_
        refine ro_callS (As := [.int (nI j), .int d]) (rest := []) ⟨hx, hb, hml, hown, hts⟩ (kX1_costOf l (j) (d) (by omega)) (va_cwS 2 hts gX1_cost_X1_costOf rfl rfl rfl (by decide +kernel) ⟨Nat.le_of_ble_eq_true rfl, Nat.le_of_ble_eq_true rfl⟩) vT_bl vT_at rfl hl.1 rfl (Nat.le_of_ble_eq_true rfl) dX1_cost_55 ⟨Nat.zero_le _, Nat.zero_le _⟩ ?_
        exact hQ dX1_cost_58 (by unfold aCs; rw [if_pos ⟨c_6, c_17⟩, cl_nI (n := j) (by omega)]) (by rw [eA3] at hP; unfold nCs; rw [if_pos ⟨c_6, c_17⟩, cl_nI (n := j) (by omega)]; exact hP) hS
    · refine lv_iconst (v := (-1)) hx hb dX1_cost_20 (by decide) ?_
      exact hQ dX1_cost_21 (by unfold aCs; rw [if_neg (fun q => c_17 q.2)]) (by unfold nCs; rw [if_neg (fun q => c_17 q.2)]; exact hP) hS
def rmX1_hear : Room := { frames := 1, cells := 0, slots := 0, locals := 22 }
set_option maxHeartbeats 4000000 in
set_option maxRecDepth 100000 in
/-- hear -/
theorem kX1_hear (l : Launch) (D : va_G) (h : Nat → Nat) (cI cZ : ClassId) (A : St) (M : Nat → Int32) (hI : Inv A) (r v : Int32) : MU l yX1_hear wsX1_hear rmX1_hear [.ref (h 0), .int r, .int v] D [(cI, .int), (cZ, .boolean)] (mw h cI cZ A M) (mw h cI cZ (nHe A r v) M) (some (.int (aHe A r v))) := by
  refine mu_ofW (cc := cX1_hear) (maxL := 3) (by decide) rfl (Nat.le_of_ble_eq_true rfl) ?_
  intro p e s m below meth c args Q G H locs hx hb hml hown hts hP hK hD hS hQ ls hl
  have hown : s.vm.findClass RX1 = some m.cls := hown
  have hin0 : ∀ w ∈ u_ws RX1 TX1 13, w ∈ wsX1_hear := fun _ h => List.mem_cons_of_mem _ (List.mem_append_right _ h)
  have hl : lv_has ls 3 [(0, .ref (h 0)), (1, .int r), (2, .int v)] := hl
  have hF := hI.F
  have hT := hI.T
  have hK3 := hI.K
  have hJ := hI.J
  have hZ := hI.Z
  refine lv_iload_n hx hb dX1_hear_0 rfl (lv_at hl 1 rfl) ?_
  refine lv_iconst (v := nI 0) hx hb dX1_hear_1 (by decide) ?_
  refine lv_iconst (v := nI 1) hx hb dX1_hear_2 (by decide) ?_
  refine ro_callS (As := [.int r, .int (nI 0), .int (nI 1)]) (rest := []) ⟨hx, hb, hml, hown, hts⟩ (kX1_in l (r) (nI 0) (nI 1)) (va_cwS 3 hts gX1_hear_X1_in rfl rfl rfl (by decide +kernel) ⟨Nat.le_of_ble_eq_true rfl, Nat.le_of_ble_eq_true rfl⟩) vT_bl vT_at rfl hl.1 rfl (Nat.le_of_ble_eq_true rfl) dX1_hear_3 ⟨Nat.zero_le _, Nat.zero_le _⟩ ?_
  refine b_if_eq (tgt := 22) hx hb dX1_hear_6 (by decide) (fun c_6 => ?_) (fun c_6 => ?_)
  · refine lv_iconst (v := (-1)) hx hb dX1_hear_22 (by decide) ?_
    exact hQ dX1_hear_23 (by unfold aHe; rw [if_neg (fun q => c_6 q.1)]) (by unfold nHe; rw [if_neg (fun q => c_6 q.1.1)]; exact hP) hS
  · refine lv_iload_n hx hb dX1_hear_9 rfl (lv_at hl 2 rfl) ?_
    refine lv_sipush (v := (-1000)) hx hb dX1_hear_10 (by decide) ?_
    refine lv_sipush (v := nI 1000) hx hb dX1_hear_13 (by decide) ?_
    refine ro_callS (As := [.int v, .int (-1000), .int (nI 1000)]) (rest := []) ⟨hx, hb, hml, hown, hts⟩ (kX1_in l (v) ((-1000)) (nI 1000)) (va_cwS 3 hts gX1_hear_X1_in rfl rfl rfl (by decide +kernel) ⟨Nat.le_of_ble_eq_true rfl, Nat.le_of_ble_eq_true rfl⟩) vT_bl vT_at rfl hl.1 rfl (Nat.le_of_ble_eq_true rfl) dX1_hear_16 ⟨Nat.zero_le _, Nat.zero_le _⟩ ?_
    refine b_if_ne (tgt := 24) hx hb dX1_hear_19 (by decide) (fun c_19 => ?_) (fun c_19 => ?_)
    · obtain ⟨rr, hrr, rfl⟩ := iN_of (n := 2) c_6 (by decide) (by decide)
      have hzb : sZ A rr ≤ 8 := by rcases (show rr = 0 ∨ rr = 1 by omega) with rfl | rfl; exact hZ.1; exact hZ.2
      refine lv_aload_n hx hb dX1_hear_24 rfl (lv_at hl 0 rfl) ?_
      refine va_get (D := D) (ci := 1) (v := .ref (h 5)) (C := RX1) (T := TX1) (N := 13) hx hb hts hin0 hown hK hP 0 rfl rfl 9 (by decide) (hts (.fieldLink RX1 23 "VoicePartsModel" "heard" "[I") (by decide +kernel)) (fun _ h9 => h9) rfl dX1_hear_25 ?_
      refine lv_iload_n hx hb dX1_hear_28 rfl (lv_at hl 1 rfl) ?_
      refine n_iald hx hb hK hP 5 0 rfl rfl (by omega) (by decide) dX1_hear_29 ?_
      refine lv_bipush (v := nI 8) hx hb dX1_hear_30 (by decide) ?_
      refine n_icmp_ne (tgt := 38) hx hb (by omega) (by omega) dX1_hear_32 (by decide) (fun c_32 => ?_) (fun c_32 => ?_)
      · refine lv_aload_n hx hb dX1_hear_38 rfl (lv_at hl 0 rfl) ?_
        refine va_get (D := D) (ci := 1) (v := .ref (h 6)) (C := RX1) (T := TX1) (N := 13) hx hb hts hin0 hown hK hP 0 rfl rfl 10 (by decide) (hts (.fieldLink RX1 26 "VoicePartsModel" "row" "[I") (by decide +kernel)) (fun _ h9 => h9) rfl dX1_hear_39 ?_
        refine lv_bipush (v := nI 8) hx hb dX1_hear_42 (by decide) ?_
        refine lv_iload_n hx hb dX1_hear_44 rfl (lv_at hl 1 rfl) ?_
        refine n_imulc hx hb dX1_hear_45 ?_
        refine lv_aload_n hx hb dX1_hear_46 rfl (lv_at hl 0 rfl) ?_
        refine va_get (D := D) (ci := 1) (v := .ref (h 5)) (C := RX1) (T := TX1) (N := 13) hx hb hts hin0 hown hK hP 0 rfl rfl 9 (by decide) (hts (.fieldLink RX1 23 "VoicePartsModel" "heard" "[I") (by decide +kernel)) (fun _ h9 => h9) rfl dX1_hear_47 ?_
        refine lv_iload_n hx hb dX1_hear_50 rfl (lv_at hl 1 rfl) ?_
        refine n_iald hx hb hK hP 5 0 rfl rfl (by omega) (by decide) dX1_hear_51 ?_
        refine n_iadd hx hb dX1_hear_52 ?_
        refine lv_iload_n hx hb dX1_hear_53 rfl (lv_at hl 2 rfl) ?_
        refine n_iast hx hb hK hP hD hS 6 0 rfl rfl (by omega) (by decide) dX1_hear_54 (fun H locs hP hD hS => ?_)
        obtain ⟨A1, eA1⟩ : ∃ z : St, z = uR A (upd (sR A) (rr * 8 + (sZ A (rr))) (v)) := ⟨_, rfl⟩
        have hP : va_P D vwCl (mw h cI cZ A1 M) H := by rw [eA1]; exact hP
        have hD : va_D G (mw h cI cZ A1 M) := va_D.to hD rfl
        refine lv_aload_n hx hb dX1_hear_55 rfl (lv_at hl 0 rfl) ?_
        refine va_get (D := D) (ci := 1) (v := .ref (h 5)) (C := RX1) (T := TX1) (N := 13) hx hb hts hin0 hown hK hP 0 rfl rfl 9 (by decide) (hts (.fieldLink RX1 23 "VoicePartsModel" "heard" "[I") (by decide +kernel)) (fun _ h9 => h9) rfl dX1_hear_56 ?_
        refine lv_iload_n hx hb dX1_hear_59 rfl (lv_at hl 1 rfl) ?_
        refine lv_dup2_11 hx hb dX1_hear_60 rfl rfl ?_
        refine n_iald hx hb hK hP 5 0 rfl rfl (by omega) (by decide) dX1_hear_61 ?_
        refine n_top (y := nI (sZ A rr)) (by rw [eA1]; rfl) ?_
        refine lv_iconst (v := nI 1) hx hb dX1_hear_62 (by decide) ?_
        refine n_iadd hx hb dX1_hear_63 ?_
        refine n_iast hx hb hK hP hD hS 5 0 rfl rfl (by omega) (by decide) dX1_hear_64 (fun H locs hP hD hS => ?_)
        obtain ⟨A2, eA2⟩ : ∃ z : St, z = uZ A1 (upN (sZ A1) (rr) (sZ A rr + 1)) := ⟨_, rfl⟩
        have hP : va_P D vwCl (mw h cI cZ A2 M) H := by rw [eA2]; have z := hP; rw [zup] at z; exact z
        have hD : va_D G (mw h cI cZ A2 M) := va_D.to hD rfl
        refine lv_aload_n hx hb dX1_hear_65 rfl (lv_at hl 0 rfl) ?_
        refine va_get (D := D) (ci := 1) (v := .ref (h 5)) (C := RX1) (T := TX1) (N := 13) hx hb hts hin0 hown hK hP 0 rfl rfl 9 (by decide) (hts (.fieldLink RX1 23 "VoicePartsModel" "heard" "[I") (by decide +kernel)) (fun _ h9 => h9) rfl dX1_hear_66 ?_
        refine lv_iload_n hx hb dX1_hear_69 rfl (lv_at hl 1 rfl) ?_
        refine n_iald hx hb hK hP 5 0 rfl rfl (by omega) (by decide) dX1_hear_70 ?_
        refine n_top (y := nI (sZ A rr + 1)) (by rw [eA2]; show nI (upN (sZ A1) rr (sZ A rr + 1) rr) = _; unfold upN; rw [if_pos rfl]) ?_
        exact hQ dX1_hear_71 (by unfold aHe; rw [if_pos ⟨c_6, c_19⟩, cl_nI (n := rr) (by omega), if_pos (by omega)]) (by rw [eA2, eA1] at hP; unfold nHe; rw [cl_nI (n := rr) (by omega), if_pos ⟨⟨c_6, c_19⟩, by omega⟩]; exact hP) hS
      · refine lv_bipush (v := (-3)) hx hb dX1_hear_35 (by decide) ?_
        exact hQ dX1_hear_37 (by unfold aHe; rw [if_pos ⟨c_6, c_19⟩, cl_nI (n := rr) (by omega), if_neg (by omega)]) (by unfold nHe; rw [cl_nI (n := rr) (by omega), if_neg (fun q => absurd q.2 (by omega))]; exact hP) hS
    · refine lv_iconst (v := (-1)) hx hb dX1_hear_22 (by decide) ?_
      exact hQ dX1_hear_23 (by unfold aHe; rw [if_neg (fun q => c_19 q.2)]) (by unfold nHe; rw [if_neg (fun q => c_19 q.1.2)]; exact hP) hS
def rmX1_clear : Room := { frames := 1, cells := 0, slots := 0, locals := 22 }
set_option maxHeartbeats 4000000 in
set_option maxRecDepth 100000 in
/-- clear -/
theorem kX1_clear (l : Launch) (D : va_G) (h : Nat → Nat) (cI cZ : ClassId) (A : St) (M : Nat → Int32) (hI : Inv A) (r : Int32) : MU l yX1_clear wsX1_clear rmX1_clear [.ref (h 0), .int r] D [(cI, .int), (cZ, .boolean)] (mw h cI cZ A M) (mw h cI cZ (nCl A r) M) (some (.int (aCl A r))) := by
  refine mu_ofW (cc := cX1_clear) (maxL := 3) (by decide) rfl (Nat.le_of_ble_eq_true rfl) ?_
  intro p e s m below meth c args Q G H locs hx hb hml hown hts hP hK hD hS hQ ls hl
  have hown : s.vm.findClass RX1 = some m.cls := hown
  have hin0 : ∀ w ∈ u_ws RX1 TX1 13, w ∈ wsX1_clear := fun _ h => List.mem_cons_of_mem _ (List.mem_append_right _ h)
  have hl : lv_has ls 3 [(0, .ref (h 0)), (1, .int r)] := hl
  have hF := hI.F
  have hT := hI.T
  have hK3 := hI.K
  have hJ := hI.J
  have hZ := hI.Z
  refine lv_iload_n hx hb dX1_clear_0 rfl (lv_at hl 1 rfl) ?_
  refine lv_iconst (v := nI 0) hx hb dX1_clear_1 (by decide) ?_
  refine lv_iconst (v := nI 1) hx hb dX1_clear_2 (by decide) ?_
  refine ro_callS (As := [.int r, .int (nI 0), .int (nI 1)]) (rest := []) ⟨hx, hb, hml, hown, hts⟩ (kX1_in l (r) (nI 0) (nI 1)) (va_cwS 3 hts gX1_clear_X1_in rfl rfl rfl (by decide +kernel) ⟨Nat.le_of_ble_eq_true rfl, Nat.le_of_ble_eq_true rfl⟩) vT_bl vT_at rfl hl.1 rfl (Nat.le_of_ble_eq_true rfl) dX1_clear_3 ⟨Nat.zero_le _, Nat.zero_le _⟩ ?_
  refine b_if_ne (tgt := 11) hx hb dX1_clear_6 (by decide) (fun c_6 => ?_) (fun c_6 => ?_)
  · obtain ⟨rr, hrr, rfl⟩ := iN_of (n := 2) c_6 (by decide) (by decide)
    have hzb : sZ A rr ≤ 8 := by rcases (show rr = 0 ∨ rr = 1 by omega) with rfl | rfl; exact hZ.1; exact hZ.2
    refine lv_aload_n hx hb dX1_clear_11 rfl (lv_at hl 0 rfl) ?_
    refine va_get (D := D) (ci := 1) (v := .ref (h 5)) (C := RX1) (T := TX1) (N := 13) hx hb hts hin0 hown hK hP 0 rfl rfl 9 (by decide) (hts (.fieldLink RX1 23 "VoicePartsModel" "heard" "[I") (by decide +kernel)) (fun _ h9 => h9) rfl dX1_clear_12 ?_
    refine lv_iload_n hx hb dX1_clear_15 rfl (lv_at hl 1 rfl) ?_
    refine n_iald hx hb hK hP 5 0 rfl rfl (by omega) (by decide) dX1_clear_16 ?_
    refine lv_istore_n (lv' := [(2, .int (nI (sZ A (rr)))), (0, .ref (h 0)), (1, .int (nI rr))]) hx hb dX1_clear_17 rfl hl (by decide) rfl (fun ls hl => ?_)
    refine lv_aload_n hx hb dX1_clear_18 rfl (lv_at hl 1 rfl) ?_
    refine va_get (D := D) (ci := 1) (v := .ref (h 5)) (C := RX1) (T := TX1) (N := 13) hx hb hts hin0 hown hK hP 0 rfl rfl 9 (by decide) (hts (.fieldLink RX1 23 "VoicePartsModel" "heard" "[I") (by decide +kernel)) (fun _ h9 => h9) rfl dX1_clear_19 ?_
    refine lv_iload_n hx hb dX1_clear_22 rfl (lv_at hl 2 rfl) ?_
    refine lv_iconst (v := nI 0) hx hb dX1_clear_23 (by decide) ?_
    refine n_iast hx hb hK hP hD hS 5 0 rfl rfl (by omega) (by decide) dX1_clear_24 (fun H locs hP hD hS => ?_)
    obtain ⟨A1, eA1⟩ : ∃ z : St, z = uZ A (upN (sZ A) (rr) (0)) := ⟨_, rfl⟩
    have hP : va_P D vwCl (mw h cI cZ A1 M) H := by rw [eA1]; have z := hP; rw [zup] at z; exact z
    have hD : va_D G (mw h cI cZ A1 M) := va_D.to hD rfl
    refine lv_iload_n hx hb dX1_clear_25 rfl (lv_at hl 0 rfl) ?_
    exact hQ dX1_clear_26 (by unfold aCl; rw [if_pos c_6, cl_nI (n := rr) (by omega)]) (by rw [eA1] at hP; unfold nCl; rw [if_pos c_6, cl_nI (n := rr) (by omega)]; exact hP) hS
  · refine lv_iconst (v := (-1)) hx hb dX1_clear_9 (by decide) ?_
    exact hQ dX1_clear_10 (by unfold aCl; rw [if_neg c_6]) (by unfold nCl; rw [if_neg c_6]; exact hP) hS
def rmX1_truth : Room := { frames := 2, cells := 0, slots := 0, locals := 44 }
set_option maxHeartbeats 4000000 in
set_option maxRecDepth 100000 in
/-- truth -/
theorem kX1_truth (l : Launch) (D : va_G) (h : Nat → Nat) (cI cZ : ClassId) (A : St) (M : Nat → Int32) (hI : Inv A) (z x y v : Int32) : MU l yX1_truth wsX1_truth rmX1_truth [.ref (h 0), .int z, .int x, .int y, .int v] D [(cI, .int), (cZ, .boolean)] (mw h cI cZ A M) (mw h cI cZ (nTr A z x y v) M) (some (.int (aTr A z x y v))) := by
  refine mu_ofW (cc := cX1_truth) (maxL := 7) (by decide) rfl (Nat.le_of_ble_eq_true rfl) ?_
  intro p e s m below meth c args Q G H locs hx hb hml hown hts hP hK hD hS hQ ls hl
  have hown : s.vm.findClass RX1 = some m.cls := hown
  have hin0 : ∀ w ∈ u_ws RX1 TX1 13, w ∈ wsX1_truth := fun _ h => List.mem_cons_of_mem _ (List.mem_append_right _ h)
  have hl : lv_has ls 7 [(0, .ref (h 0)), (1, .int z), (2, .int x), (3, .int y), (4, .int v)] := hl
  have hF := hI.F
  have hT := hI.T
  have hK3 := hI.K
  have hJ := hI.J
  have hZ := hI.Z
  refine lv_aload_n hx hb dX1_truth_0 rfl (lv_at hl 0 rfl) ?_
  refine lv_iload_n hx hb dX1_truth_1 rfl (lv_at hl 1 rfl) ?_
  refine ro_callV (As := [.int z]) (rest := []) ⟨hx, hb, hml, hown, hts⟩ (kX1_isVoice l D h cI cZ A M  hI (z)) (cwV 1 hts gX1_truth_X1_isVoice rfl rfl rfl (by decide +kernel) ⟨Nat.le_of_ble_eq_true rfl, Nat.le_of_ble_eq_true rfl⟩) vB_bl (vB_at hP hK) (va_recv hK hP (ci := 1) (q0 := 0) rfl rfl) rfl hl.1 rfl (Nat.le_of_ble_eq_true rfl) dX1_truth_2 ⟨Nat.zero_le _, Nat.zero_le _⟩ ?_
  refine b_if_eq (tgt := 28) hx hb dX1_truth_5 (by decide) (fun c_5 => ?_) (fun c_5 => ?_)
  · refine lv_iconst (v := (-1)) hx hb dX1_truth_28 (by decide) ?_
    exact hQ dX1_truth_29 (by unfold aTr; rw [if_neg (fun q => c_5 q.1)]) (by unfold nTr; rw [if_neg (fun q => c_5 q.1)]; exact hP) hS
  · refine lv_aload_n hx hb dX1_truth_8 rfl (lv_at hl 0 rfl) ?_
    refine lv_iload_n hx hb dX1_truth_9 rfl (lv_at hl 2 rfl) ?_
    refine lv_iload_n hx hb dX1_truth_10 rfl (lv_at hl 3 rfl) ?_
    refine ro_callV (As := [.int x, .int y]) (rest := []) ⟨hx, hb, hml, hown, hts⟩ (kX1_isPlace l D h cI cZ A M  hI (x) (y)) (cwV 2 hts gX1_truth_X1_isPlace rfl rfl rfl (by decide +kernel) ⟨Nat.le_of_ble_eq_true rfl, Nat.le_of_ble_eq_true rfl⟩) vB_bl (vB_at hP hK) (va_recv hK hP (ci := 1) (q0 := 0) rfl rfl) rfl hl.1 rfl (Nat.le_of_ble_eq_true rfl) dX1_truth_11 ⟨Nat.zero_le _, Nat.zero_le _⟩ ?_
    refine b_if_eq (tgt := 28) hx hb dX1_truth_14 (by decide) (fun c_14 => ?_) (fun c_14 => ?_)
    · refine lv_iconst (v := (-1)) hx hb dX1_truth_28 (by decide) ?_
      exact hQ dX1_truth_29 (by unfold aTr; rw [if_neg (fun q => c_14 q.2.1)]) (by unfold nTr; rw [if_neg (fun q => c_14 q.2.1)]; exact hP) hS
    · refine lv_iload hx hb dX1_truth_17 (lv_at hl 4 rfl) ?_
      refine lv_iconst (v := nI 0) hx hb dX1_truth_19 (by decide) ?_
      refine lv_bipush (v := nI 99) hx hb dX1_truth_20 (by decide) ?_
      refine ro_callS (As := [.int v, .int (nI 0), .int (nI 99)]) (rest := []) ⟨hx, hb, hml, hown, hts⟩ (kX1_in l (v) (nI 0) (nI 99)) (va_cwS 3 hts gX1_truth_X1_in rfl rfl rfl (by decide +kernel) ⟨Nat.le_of_ble_eq_true rfl, Nat.le_of_ble_eq_true rfl⟩) vT_bl vT_at rfl hl.1 rfl (Nat.le_of_ble_eq_true rfl) dX1_truth_22 ⟨Nat.zero_le _, Nat.zero_le _⟩ ?_
      refine b_if_ne (tgt := 30) hx hb dX1_truth_25 (by decide) (fun c_25 => ?_) (fun c_25 => ?_)
      · obtain ⟨k, hk, rfl⟩ := iN_of (n := sK A) c_5 (by omega) (by omega)
        obtain ⟨f, hf, rfl⟩ := iN_of (n := sF A) c_14.1 (by omega) (by omega)
        obtain ⟨t, ht, rfl⟩ := iN_of (n := sT A) c_14.2 (by omega) (by omega)
        refine lv_bipush (v := nI 48) hx hb dX1_truth_30 (by decide) ?_
        refine lv_iload_n hx hb dX1_truth_32 rfl (lv_at hl 1 rfl) ?_
        refine n_imulc hx hb dX1_truth_33 ?_
        refine lv_bipush (v := nI 8) hx hb dX1_truth_34 (by decide) ?_
        refine lv_iload_n hx hb dX1_truth_36 rfl (lv_at hl 2 rfl) ?_
        refine n_imulc hx hb dX1_truth_37 ?_
        refine n_iadd hx hb dX1_truth_38 ?_
        refine lv_iload_n hx hb dX1_truth_39 rfl (lv_at hl 3 rfl) ?_
        refine n_iadd hx hb dX1_truth_40 ?_
        refine n_top (y := nI (k * 48 + (f * 8 + t))) (by rw [Nat.add_assoc]) ?_
        refine lv_istore (lv' := [(5, .int (nI (k * 48 + (f * 8 + t)))), (0, .ref (h 0)), (1, .int (nI k)), (2, .int (nI f)), (3, .int (nI t)), (4, .int v)]) hx hb dX1_truth_41 hl (by decide) rfl (fun ls hl => ?_)
        refine lv_aload_n hx hb dX1_truth_43 rfl (lv_at hl 1 rfl) ?_
        refine va_get (D := D) (ci := 1) (v := .ref (h 4)) (C := RX1) (T := TX1) (N := 13) hx hb hts hin0 hown hK hP 0 rfl rfl 6 (by decide) (hts (.fieldLink RX1 20 "VoicePartsModel" "truth" "[I") (by decide +kernel)) (fun _ h9 => h9) rfl dX1_truth_44 ?_
        refine lv_iload hx hb dX1_truth_47 (lv_at hl 0 rfl) ?_
        refine n_iald hx hb hK hP 4 0 rfl rfl (by omega) (by decide) dX1_truth_49 ?_
        refine lv_istore (lv' := [(6, .int (sE A (k * 48 + (f * 8 + t)))), (5, .int (nI (k * 48 + (f * 8 + t)))), (0, .ref (h 0)), (1, .int (nI k)), (2, .int (nI f)), (3, .int (nI t)), (4, .int v)]) hx hb dX1_truth_50 hl (by decide) rfl (fun ls hl => ?_)
        refine lv_aload_n hx hb dX1_truth_52 rfl (lv_at hl 2 rfl) ?_
        refine va_get (D := D) (ci := 1) (v := .ref (h 4)) (C := RX1) (T := TX1) (N := 13) hx hb hts hin0 hown hK hP 0 rfl rfl 6 (by decide) (hts (.fieldLink RX1 20 "VoicePartsModel" "truth" "[I") (by decide +kernel)) (fun _ h9 => h9) rfl dX1_truth_53 ?_
        refine lv_iload hx hb dX1_truth_56 (lv_at hl 1 rfl) ?_
        refine lv_iload hx hb dX1_truth_58 (lv_at hl 6 rfl) ?_
        refine n_iast hx hb hK hP hD hS 4 0 rfl rfl (by omega) (by decide) dX1_truth_60 (fun H locs hP hD hS => ?_)
        obtain ⟨A1, eA1⟩ : ∃ z : St, z = uE A (upd (sE A) (k * 48 + (f * 8 + t)) (v)) := ⟨_, rfl⟩
        have hP : va_P D vwCl (mw h cI cZ A1 M) H := by rw [eA1]; exact hP
        have hD : va_D G (mw h cI cZ A1 M) := va_D.to hD rfl
        refine lv_iload hx hb dX1_truth_61 (lv_at hl 0 rfl) ?_
        exact hQ dX1_truth_63 (by unfold aTr; rw [if_pos ⟨c_5, c_14, c_25⟩, cl_nI (n := k) (by omega), cl_nI (n := f) (by omega), cl_nI (n := t) (by omega)]) (by rw [eA1] at hP; unfold nTr; rw [if_pos ⟨c_5, c_14, c_25⟩, cl_nI (n := k) (by omega), cl_nI (n := f) (by omega), cl_nI (n := t) (by omega)]; exact hP) hS
      · refine lv_iconst (v := (-1)) hx hb dX1_truth_28 (by decide) ?_
        exact hQ dX1_truth_29 (by unfold aTr; rw [if_neg (fun q => c_25 q.2.2)]) (by unfold nTr; rw [if_neg (fun q => c_25 q.2.2)]; exact hP) hS
end
section
def rmX1_better : Room := { frames := 3, cells := 0, slots := 0, locals := 70 }
set_option maxHeartbeats 4000000 in
set_option maxRecDepth 100000 in
/-- better -/
theorem kX1_better (l : Launch) (D : va_G) (h : Nat → Nat) (cI cZ : ClassId) (A : St) (M : Nat → Int32) (hI : Inv A) (k o i : Nat) (hk : k < 3) (ho : o < 2) (hi : i < if o = 0 then 6 else 8) : MU l yX1_better wsX1_better rmX1_better [.ref (h 0), .int (nI (k * 16 + qi o i))] D [(cI, .int), (cZ, .boolean)] (mw h cI cZ A M) (mw h cI cZ (mst A k o i) M) none := by
  refine mu_ofWv (cc := cX1_better) (maxL := 7) (by decide) rfl (Nat.le_of_ble_eq_true rfl) ?_
  intro p e s m below meth c args Q G H locs hx hb hml hown hts hP hK hD hS hQ ls hl
  have hown : s.vm.findClass RX1 = some m.cls := hown
  have hin0 : ∀ w ∈ u_ws RX1 TX1 13, w ∈ wsX1_better := fun _ h => List.mem_cons_of_mem _ (List.mem_append_right _ h)
  have hl : lv_has ls 7 [(0, .ref (h 0)), (1, .int (nI (k * 16 + qi o i)))] := hl
  have hF := hI.F
  have hT := hI.T
  have hK3 := hI.K
  have hJ := hI.J
  have hZ := hI.Z
  have hq : qi o i < 14 := qi_lt2 ho hi
  obtain ⟨a, ha, ea⟩ := V_nI hI k (qi o i)
  refine lv_aload_n hx hb dX1_better_0 rfl (lv_at hl 0 rfl) ?_
  refine va_get (D := D) (ci := 1) (v := .ref (h 3)) (C := RX1) (T := TX1) (N := 13) hx hb hts hin0 hown hK hP 0 rfl rfl 5 (by decide) (hts (.fieldLink RX1 16 "VoicePartsModel" "isBarred" "[Z") (by decide +kernel)) (fun _ h9 => h9) rfl dX1_better_1 ?_
  refine lv_iload_n hx hb dX1_better_4 rfl (lv_at hl 1 rfl) ?_
  refine n_zald hx hb hK hP 3 1 rfl rfl (by omega) (by decide) dX1_better_5 ?_
  refine n_top (y := if sX A k (qi o i) = true then 1 else 0) (mXat (X := sX A) (by omega)) ?_
  refine b_if_eq (tgt := 10) hx hb dX1_better_6 (by decide) (fun c_6 => ?_) (fun c_6 => ?_)
  · refine lv_aload_n hx hb dX1_better_10 rfl (lv_at hl 0 rfl) ?_
    refine va_get (D := D) (ci := 1) (v := .ref (h 2)) (C := RX1) (T := TX1) (N := 13) hx hb hts hin0 hown hK hP 0 rfl rfl 4 (by decide) (hts (.fieldLink RX1 13 "VoicePartsModel" "number" "[I") (by decide +kernel)) (fun _ h9 => h9) rfl dX1_better_11 ?_
    refine lv_iload_n hx hb dX1_better_14 rfl (lv_at hl 1 rfl) ?_
    refine n_iald hx hb hK hP 2 0 rfl rfl (by omega) (by decide) dX1_better_15 ?_
    refine n_top (y := nI a) ((mVat (f := sV A) (by omega) rfl).trans ea) ?_
    refine lv_istore_n (lv' := [(2, .int (nI a)), (0, .ref (h 0)), (1, .int (nI (k * 16 + qi o i)))]) hx hb dX1_better_16 rfl hl (by decide) rfl (fun ls hl => ?_)
    refine lv_iload_n hx hb dX1_better_17 rfl (lv_at hl 0 rfl) ?_
    refine lv_istore_n (lv' := [(3, .int (nI a)), (2, .int (nI a)), (0, .ref (h 0)), (1, .int (nI (k * 16 + qi o i)))]) hx hb dX1_better_18 rfl hl (by decide) rfl (fun ls hl => ?_)
    refine lv_aload_n hx hb dX1_better_19 rfl (lv_at hl 2 rfl) ?_
    refine ro_callV (As := []) (rest := []) ⟨hx, hb, hml, hown, hts⟩ (kX1_missNow l D h cI cZ A M  hI ) (cwV 0 hts gX1_better_X1_missNow rfl rfl rfl (by decide +kernel) ⟨Nat.le_of_ble_eq_true rfl, Nat.le_of_ble_eq_true rfl⟩) vB_bl (vB_at hP hK) (va_recv hK hP (ci := 1) (q0 := 0) rfl rfl) rfl hl.1 rfl (Nat.le_of_ble_eq_true rfl) dX1_better_20 ⟨Nat.zero_le _, Nat.zero_le _⟩ ?_
    refine lv_istore (lv' := [(4, .int (fm A)), (3, .int (nI a)), (2, .int (nI a)), (0, .ref (h 0)), (1, .int (nI (k * 16 + qi o i)))]) hx hb dX1_better_23 hl (by decide) rfl (fun ls hl => ?_)
    refine lv_iload_n hx hb dX1_better_25 rfl (lv_at hl 2 rfl) ?_
    refine lv_iconst (v := nI 1) hx hb dX1_better_26 (by decide) ?_
    refine lv_isub hx hb dX1_better_27 ?_
    refine lv_istore (lv' := [(5, .int ((nI a) - (nI 1))), (4, .int (fm A)), (3, .int (nI a)), (2, .int (nI a)), (0, .ref (h 0)), (1, .int (nI (k * 16 + qi o i)))]) hx hb dX1_better_28 hl (by decide) rfl (fun ls hl => ?_)
    refine lv_iload hx hb dX1_better_30 (lv_at hl 0 rfl) ?_
    refine lv_iload_n hx hb dX1_better_32 rfl (lv_at hl 3 rfl) ?_
    refine lv_iconst (v := nI 1) hx hb dX1_better_33 (by decide) ?_
    refine n_iadd hx hb dX1_better_34 ?_
    refine lv_icmp_gt (tgt := 99) hx hb dX1_better_35 (by decide) (fun c_35 => absurd c_35 (st_a a (by omega))) (fun c_35 => ?_)
    refine lv_iload hx hb dX1_better_38 (lv_at hl 0 rfl) ?_
    refine lv_iconst (v := nI 0) hx hb dX1_better_40 (by decide) ?_
    refine lv_bipush (v := nI 20) hx hb dX1_better_41 (by decide) ?_
    refine ro_callS (As := [.int ((nI a) - (nI 1)), .int (nI 0), .int (nI 20)]) (rest := []) ⟨hx, hb, hml, hown, hts⟩ (kX1_in l ((nI a) - (nI 1)) (nI 0) (nI 20)) (va_cwS 3 hts gX1_better_X1_in rfl rfl rfl (by decide +kernel) ⟨Nat.le_of_ble_eq_true rfl, Nat.le_of_ble_eq_true rfl⟩) vT_bl vT_at rfl hl.1 rfl (Nat.le_of_ble_eq_true rfl) dX1_better_43 ⟨Nat.zero_le _, Nat.zero_le _⟩ ?_
    refine b_if_eq (tgt := 93) hx hb dX1_better_46 (by decide) (fun c_46a => ?_) (fun c_46a => ?_)
    · refine lv_iinc (v := nI (a + 1)) (lv' := [(5, .int (nI (a + 1))), (4, .int (fm A)), (3, .int (nI a)), (2, .int (nI a)), (0, .ref (h 0)), (1, .int (nI (k * 16 + qi o i)))]) hx hb dX1_better_93 hl (k := 0) rfl (st_d a) (by decide) rfl (fun ls hl => ?_)
      refine lv_goto (tgt := 30) hx hb dX1_better_96 (by decide) ?_
      refine lv_iload hx hb dX1_better_30 (lv_at hl 0 rfl) ?_
      refine lv_iload_n hx hb dX1_better_32 rfl (lv_at hl 3 rfl) ?_
      refine lv_iconst (v := nI 1) hx hb dX1_better_33 (by decide) ?_
      refine n_iadd hx hb dX1_better_34 ?_
      refine n_icmp_gt (tgt := 99) hx hb (by omega) (by omega) dX1_better_35 (by decide) (fun c_35 => by exfalso; omega) (fun c_35 => ?_)
      refine lv_iload hx hb dX1_better_38 (lv_at hl 0 rfl) ?_
      refine lv_iconst (v := nI 0) hx hb dX1_better_40 (by decide) ?_
      refine lv_bipush (v := nI 20) hx hb dX1_better_41 (by decide) ?_
      refine ro_callS (As := [.int (nI (a + 1)), .int (nI 0), .int (nI 20)]) (rest := []) ⟨hx, hb, hml, hown, hts⟩ (kX1_in l (nI (a + 1)) (nI 0) (nI 20)) (va_cwS 3 hts gX1_better_X1_in rfl rfl rfl (by decide +kernel) ⟨Nat.le_of_ble_eq_true rfl, Nat.le_of_ble_eq_true rfl⟩) vT_bl vT_at rfl hl.1 rfl (Nat.le_of_ble_eq_true rfl) dX1_better_43 ⟨Nat.zero_le _, Nat.zero_le _⟩ ?_
      refine b_if_eq (tgt := 93) hx hb dX1_better_46 (by decide) (fun c_46b => ?_) (fun c_46b => ?_)
      · refine lv_iinc (v := nI (a + 1 + 2)) (lv' := [(5, .int (nI (a + 1 + 2))), (4, .int (fm A)), (3, .int (nI a)), (2, .int (nI a)), (0, .ref (h 0)), (1, .int (nI (k * 16 + qi o i)))]) hx hb dX1_better_93 hl (k := 0) rfl (nI_add _ 2) (by decide) rfl (fun ls hl => ?_)
        refine lv_goto (tgt := 30) hx hb dX1_better_96 (by decide) ?_
        refine lv_iload hx hb dX1_better_30 (lv_at hl 0 rfl) ?_
        refine lv_iload_n hx hb dX1_better_32 rfl (lv_at hl 3 rfl) ?_
        refine lv_iconst (v := nI 1) hx hb dX1_better_33 (by decide) ?_
        refine n_iadd hx hb dX1_better_34 ?_
        refine n_icmp_gt (tgt := 99) hx hb (by omega) (by omega) dX1_better_35 (by decide) (fun c_35 => ?_) (fun c_35 => by exfalso; omega)
        refine lv_aload_n hx hb dX1_better_99 rfl (lv_at hl 4 rfl) ?_
        refine va_get (D := D) (ci := 1) (v := .ref (h 2)) (C := RX1) (T := TX1) (N := 13) hx hb hts hin0 hown hK hP 0 rfl rfl 4 (by decide) (hts (.fieldLink RX1 13 "VoicePartsModel" "number" "[I") (by decide +kernel)) (fun _ h9 => h9) rfl dX1_better_100 ?_
        refine lv_iload_n hx hb dX1_better_103 rfl (lv_at hl 5 rfl) ?_
        refine lv_iload_n hx hb dX1_better_104 rfl (lv_at hl 2 rfl) ?_
        refine n_iast hx hb hK hP hD hS 2 0 rfl rfl (by omega) (by decide) dX1_better_105 (fun H locs hP hD hS => ?_)
        obtain ⟨A1, eA1⟩ : ∃ z : St, z = uV A (upV (sV A) k (qi o i) (nI a)) := ⟨_, rfl⟩
        have hP : va_P D vwCl (mw h cI cZ A1 M) H := by rw [eA1]; have z := hP; rw [mVup (k := k) (i := qi o i) (by omega)] at z; exact z
        have hD : va_D G (mw h cI cZ A1 M) := va_D.to hD rfl
        have xA1 : A1 = tryV A k (qi o i) a := eA1
        exact hQ dX1_better_106 (by rw [mst_eq c_6 ea ha (bst_0 (ms := (fun x => fm (tryV A k (qi o i) x))) (b := a) (if_neg (fun z => c_46a ((st_b a (by omega)).mpr z.1))) (fun z => c_46b ((st_c a (by omega)).mpr z.1))), ← xA1]; exact hP) hS
      · have ha2 : a + 1 ≤ 20 := (st_c a (by omega)).mp c_46b
        refine lv_aload_n hx hb dX1_better_49 rfl (lv_at hl 4 rfl) ?_
        refine va_get (D := D) (ci := 1) (v := .ref (h 2)) (C := RX1) (T := TX1) (N := 13) hx hb hts hin0 hown hK hP 0 rfl rfl 4 (by decide) (hts (.fieldLink RX1 13 "VoicePartsModel" "number" "[I") (by decide +kernel)) (fun _ h9 => h9) rfl dX1_better_50 ?_
        refine lv_iload_n hx hb dX1_better_53 rfl (lv_at hl 5 rfl) ?_
        refine lv_iload hx hb dX1_better_54 (lv_at hl 0 rfl) ?_
        refine n_iast hx hb hK hP hD hS 2 0 rfl rfl (by omega) (by decide) dX1_better_56 (fun H locs hP hD hS => ?_)
        obtain ⟨A2, eA2⟩ : ∃ z : St, z = uV A (upV (sV A) k (qi o i) (nI (a + 1))) := ⟨_, rfl⟩
        have hP : va_P D vwCl (mw h cI cZ A2 M) H := by rw [eA2]; have z := hP; rw [mVup (k := k) (i := qi o i) (by omega)] at z; exact z
        have hD : va_D G (mw h cI cZ A2 M) := va_D.to hD rfl
        have hIA2 : Inv A2 := by rw [eA2]; exact hI.uV (nI_20 (by omega))
        have xA2 : A2 = tryV A k (qi o i) (a + 1) := eA2
        refine lv_aload_n hx hb dX1_better_57 rfl (lv_at hl 4 rfl) ?_
        refine ro_callV (As := []) (rest := []) ⟨hx, hb, hml, hown, hts⟩ (kX1_missNow l D h cI cZ A2 M  hIA2 ) (cwV 0 hts gX1_better_X1_missNow rfl rfl rfl (by decide +kernel) ⟨Nat.le_of_ble_eq_true rfl, Nat.le_of_ble_eq_true rfl⟩) vB_bl (vB_at hP hK) (va_recv hK hP (ci := 1) (q0 := 0) rfl rfl) rfl hl.1 rfl (Nat.le_of_ble_eq_true rfl) dX1_better_58 ⟨Nat.zero_le _, Nat.zero_le _⟩ ?_
        refine lv_istore (lv' := [(6, .int (fm A2)), (5, .int (nI (a + 1))), (4, .int (fm A)), (3, .int (nI a)), (2, .int (nI a)), (0, .ref (h 0)), (1, .int (nI (k * 16 + qi o i)))]) hx hb dX1_better_61 hl (by decide) rfl (fun ls hl => ?_)
        refine lv_iload hx hb dX1_better_63 (lv_at hl 0 rfl) ?_
        refine lv_iload hx hb dX1_better_65 (lv_at hl 2 rfl) ?_
        refine lv_icmp_ge (tgt := 75) hx hb dX1_better_67 (by decide) (fun c_67b => ?_) (fun c_67b => ?_)
        · refine lv_iload_n hx hb dX1_better_75 rfl (lv_at hl 3 rfl) ?_
          refine lv_istore_n (lv' := [(3, .int (nI a)), (6, .int (fm A2)), (5, .int (nI (a + 1))), (4, .int (fm A)), (2, .int (nI a)), (0, .ref (h 0)), (1, .int (nI (k * 16 + qi o i)))]) hx hb dX1_better_76 rfl hl (by decide) rfl (fun ls hl => ?_)
          refine lv_iload hx hb dX1_better_77 (lv_at hl 1 rfl) ?_
          refine lv_iload hx hb dX1_better_79 (lv_at hl 3 rfl) ?_
          refine lv_icmp_ge (tgt := 89) hx hb dX1_better_81 (by decide) (fun c_81 => ?_) (fun c_81 => absurd c_67b c_81)
          refine lv_iload hx hb dX1_better_89 (lv_at hl 3 rfl) ?_
          refine lv_istore (lv' := [(4, .int (fm A)), (3, .int (nI a)), (6, .int (fm A2)), (5, .int (nI (a + 1))), (2, .int (nI a)), (0, .ref (h 0)), (1, .int (nI (k * 16 + qi o i)))]) hx hb dX1_better_91 hl (by decide) rfl (fun ls hl => ?_)
          refine lv_iinc (v := nI (a + 1 + 2)) (lv' := [(5, .int (nI (a + 1 + 2))), (4, .int (fm A)), (3, .int (nI a)), (6, .int (fm A2)), (2, .int (nI a)), (0, .ref (h 0)), (1, .int (nI (k * 16 + qi o i)))]) hx hb dX1_better_93 hl (k := 3) rfl (nI_add _ 2) (by decide) rfl (fun ls hl => ?_)
          refine lv_goto (tgt := 30) hx hb dX1_better_96 (by decide) ?_
          refine lv_iload hx hb dX1_better_30 (lv_at hl 0 rfl) ?_
          refine lv_iload_n hx hb dX1_better_32 rfl (lv_at hl 4 rfl) ?_
          refine lv_iconst (v := nI 1) hx hb dX1_better_33 (by decide) ?_
          refine n_iadd hx hb dX1_better_34 ?_
          refine n_icmp_gt (tgt := 99) hx hb (by omega) (by omega) dX1_better_35 (by decide) (fun c_35 => ?_) (fun c_35 => by exfalso; omega)
          refine lv_aload_n hx hb dX1_better_99 rfl (lv_at hl 5 rfl) ?_
          refine va_get (D := D) (ci := 1) (v := .ref (h 2)) (C := RX1) (T := TX1) (N := 13) hx hb hts hin0 hown hK hP 0 rfl rfl 4 (by decide) (hts (.fieldLink RX1 13 "VoicePartsModel" "number" "[I") (by decide +kernel)) (fun _ h9 => h9) rfl dX1_better_100 ?_
          refine lv_iload_n hx hb dX1_better_103 rfl (lv_at hl 6 rfl) ?_
          refine lv_iload_n hx hb dX1_better_104 rfl (lv_at hl 2 rfl) ?_
          refine n_iast hx hb hK hP hD hS 2 0 rfl rfl (by omega) (by decide) dX1_better_105 (fun H locs hP hD hS => ?_)
          obtain ⟨A3, eA3⟩ : ∃ z : St, z = uV A2 (upV (sV A2) k (qi o i) (nI a)) := ⟨_, rfl⟩
          have hP : va_P D vwCl (mw h cI cZ A3 M) H := by rw [eA3]; have z := hP; rw [mVup (k := k) (i := qi o i) (by omega)] at z; exact z
          have hD : va_D G (mw h cI cZ A3 M) := va_D.to hD rfl
          have xA3 : A3 = tryV A k (qi o i) a := by rw [eA3, xA2]; exact try_try A k (qi o i) _ _
          exact hQ dX1_better_106 (by rw [mst_eq c_6 ea ha (bst_0 (ms := (fun x => fm (tryV A k (qi o i) x))) (b := a) (if_neg (fun z => c_46a ((st_b a (by omega)).mpr z.1))) (fun z => Int32.not_lt.mpr (show fm (tryV A k (qi o i) (a)) ≤ fm (tryV A k (qi o i) (a + 1)) by rw [try_self ea, ← xA2]; exact c_67b) z.2)), ← xA3]; exact hP) hS
        · refine lv_iload hx hb dX1_better_70 (lv_at hl 1 rfl) ?_
          refine lv_goto (tgt := 76) hx hb dX1_better_72 (by decide) ?_
          refine lv_istore_n (lv' := [(3, .int (nI (a + 1))), (6, .int (fm A2)), (5, .int (nI (a + 1))), (4, .int (fm A)), (2, .int (nI a)), (0, .ref (h 0)), (1, .int (nI (k * 16 + qi o i)))]) hx hb dX1_better_76 rfl hl (by decide) rfl (fun ls hl => ?_)
          refine lv_iload hx hb dX1_better_77 (lv_at hl 1 rfl) ?_
          refine lv_iload hx hb dX1_better_79 (lv_at hl 3 rfl) ?_
          refine lv_icmp_ge (tgt := 89) hx hb dX1_better_81 (by decide) (fun c_81 => absurd c_81 c_67b) (fun c_81 => ?_)
          refine lv_iload hx hb dX1_better_84 (lv_at hl 1 rfl) ?_
          refine lv_goto (tgt := 91) hx hb dX1_better_86 (by decide) ?_
          refine lv_istore (lv' := [(4, .int (fm A2)), (3, .int (nI (a + 1))), (6, .int (fm A2)), (5, .int (nI (a + 1))), (2, .int (nI a)), (0, .ref (h 0)), (1, .int (nI (k * 16 + qi o i)))]) hx hb dX1_better_91 hl (by decide) rfl (fun ls hl => ?_)
          refine lv_iinc (v := nI (a + 1 + 2)) (lv' := [(5, .int (nI (a + 1 + 2))), (4, .int (fm A2)), (3, .int (nI (a + 1))), (6, .int (fm A2)), (2, .int (nI a)), (0, .ref (h 0)), (1, .int (nI (k * 16 + qi o i)))]) hx hb dX1_better_93 hl (k := 3) rfl (nI_add _ 2) (by decide) rfl (fun ls hl => ?_)
          refine lv_goto (tgt := 30) hx hb dX1_better_96 (by decide) ?_
          refine lv_iload hx hb dX1_better_30 (lv_at hl 0 rfl) ?_
          refine lv_iload_n hx hb dX1_better_32 rfl (lv_at hl 4 rfl) ?_
          refine lv_iconst (v := nI 1) hx hb dX1_better_33 (by decide) ?_
          refine n_iadd hx hb dX1_better_34 ?_
          refine n_icmp_gt (tgt := 99) hx hb (by omega) (by omega) dX1_better_35 (by decide) (fun c_35 => ?_) (fun c_35 => by exfalso; omega)
          refine lv_aload_n hx hb dX1_better_99 rfl (lv_at hl 5 rfl) ?_
          refine va_get (D := D) (ci := 1) (v := .ref (h 2)) (C := RX1) (T := TX1) (N := 13) hx hb hts hin0 hown hK hP 0 rfl rfl 4 (by decide) (hts (.fieldLink RX1 13 "VoicePartsModel" "number" "[I") (by decide +kernel)) (fun _ h9 => h9) rfl dX1_better_100 ?_
          refine lv_iload_n hx hb dX1_better_103 rfl (lv_at hl 6 rfl) ?_
          refine lv_iload_n hx hb dX1_better_104 rfl (lv_at hl 2 rfl) ?_
          refine n_iast hx hb hK hP hD hS 2 0 rfl rfl (by omega) (by decide) dX1_better_105 (fun H locs hP hD hS => ?_)
          obtain ⟨A4, eA4⟩ : ∃ z : St, z = uV A2 (upV (sV A2) k (qi o i) (nI (a + 1))) := ⟨_, rfl⟩
          have hP : va_P D vwCl (mw h cI cZ A4 M) H := by rw [eA4]; have z := hP; rw [mVup (k := k) (i := qi o i) (by omega)] at z; exact z
          have hD : va_D G (mw h cI cZ A4 M) := va_D.to hD rfl
          have xA4 : A4 = tryV A k (qi o i) (a + 1) := by rw [eA4, xA2]; exact try_try A k (qi o i) _ _
          exact hQ dX1_better_106 (by rw [mst_eq c_6 ea ha (bst_1 (ms := (fun x => fm (tryV A k (qi o i) x))) (b := a) (if_neg (fun z => c_46a ((st_b a (by omega)).mpr z.1))) (⟨ha2, show fm (tryV A k (qi o i) (a + 1)) < fm (tryV A k (qi o i) (a)) by rw [try_self ea, ← xA2]; exact Int32.not_le.mp c_67b⟩)), ← xA4]; exact hP) hS
    · have ha1 : 1 ≤ a := (st_b a (by omega)).mp c_46a
      have hl : lv_has ls 7 [(5, .int (nI (a - 1))), (4, .int (fm A)), (3, .int (nI a)), (2, .int (nI a)), (0, .ref (h 0)), (1, .int (nI (k * 16 + qi o i)))] := by rw [← pk_sub ha1]; exact hl
      refine lv_aload_n hx hb dX1_better_49 rfl (lv_at hl 4 rfl) ?_
      refine va_get (D := D) (ci := 1) (v := .ref (h 2)) (C := RX1) (T := TX1) (N := 13) hx hb hts hin0 hown hK hP 0 rfl rfl 4 (by decide) (hts (.fieldLink RX1 13 "VoicePartsModel" "number" "[I") (by decide +kernel)) (fun _ h9 => h9) rfl dX1_better_50 ?_
      refine lv_iload_n hx hb dX1_better_53 rfl (lv_at hl 5 rfl) ?_
      refine lv_iload hx hb dX1_better_54 (lv_at hl 0 rfl) ?_
      refine n_iast hx hb hK hP hD hS 2 0 rfl rfl (by omega) (by decide) dX1_better_56 (fun H locs hP hD hS => ?_)
      obtain ⟨A5, eA5⟩ : ∃ z : St, z = uV A (upV (sV A) k (qi o i) (nI (a - 1))) := ⟨_, rfl⟩
      have hP : va_P D vwCl (mw h cI cZ A5 M) H := by rw [eA5]; have z := hP; rw [mVup (k := k) (i := qi o i) (by omega)] at z; exact z
      have hD : va_D G (mw h cI cZ A5 M) := va_D.to hD rfl
      have hIA5 : Inv A5 := by rw [eA5]; exact hI.uV (nI_20 (by omega))
      have xA5 : A5 = tryV A k (qi o i) (a - 1) := eA5
      refine lv_aload_n hx hb dX1_better_57 rfl (lv_at hl 4 rfl) ?_
      refine ro_callV (As := []) (rest := []) ⟨hx, hb, hml, hown, hts⟩ (kX1_missNow l D h cI cZ A5 M  hIA5 ) (cwV 0 hts gX1_better_X1_missNow rfl rfl rfl (by decide +kernel) ⟨Nat.le_of_ble_eq_true rfl, Nat.le_of_ble_eq_true rfl⟩) vB_bl (vB_at hP hK) (va_recv hK hP (ci := 1) (q0 := 0) rfl rfl) rfl hl.1 rfl (Nat.le_of_ble_eq_true rfl) dX1_better_58 ⟨Nat.zero_le _, Nat.zero_le _⟩ ?_
      refine lv_istore (lv' := [(6, .int (fm A5)), (5, .int (nI (a - 1))), (4, .int (fm A)), (3, .int (nI a)), (2, .int (nI a)), (0, .ref (h 0)), (1, .int (nI (k * 16 + qi o i)))]) hx hb dX1_better_61 hl (by decide) rfl (fun ls hl => ?_)
      refine lv_iload hx hb dX1_better_63 (lv_at hl 0 rfl) ?_
      refine lv_iload hx hb dX1_better_65 (lv_at hl 2 rfl) ?_
      refine lv_icmp_ge (tgt := 75) hx hb dX1_better_67 (by decide) (fun c_67a => ?_) (fun c_67a => ?_)
      · refine lv_iload_n hx hb dX1_better_75 rfl (lv_at hl 3 rfl) ?_
        refine lv_istore_n (lv' := [(3, .int (nI a)), (6, .int (fm A5)), (5, .int (nI (a - 1))), (4, .int (fm A)), (2, .int (nI a)), (0, .ref (h 0)), (1, .int (nI (k * 16 + qi o i)))]) hx hb dX1_better_76 rfl hl (by decide) rfl (fun ls hl => ?_)
        refine lv_iload hx hb dX1_better_77 (lv_at hl 1 rfl) ?_
        refine lv_iload hx hb dX1_better_79 (lv_at hl 3 rfl) ?_
        refine lv_icmp_ge (tgt := 89) hx hb dX1_better_81 (by decide) (fun c_81 => ?_) (fun c_81 => absurd c_67a c_81)
        refine lv_iload hx hb dX1_better_89 (lv_at hl 3 rfl) ?_
        refine lv_istore (lv' := [(4, .int (fm A)), (3, .int (nI a)), (6, .int (fm A5)), (5, .int (nI (a - 1))), (2, .int (nI a)), (0, .ref (h 0)), (1, .int (nI (k * 16 + qi o i)))]) hx hb dX1_better_91 hl (by decide) rfl (fun ls hl => ?_)
        refine lv_iinc (v := nI (a + 1)) (lv' := [(5, .int (nI (a + 1))), (4, .int (fm A)), (3, .int (nI a)), (6, .int (fm A5)), (2, .int (nI a)), (0, .ref (h 0)), (1, .int (nI (k * 16 + qi o i)))]) hx hb dX1_better_93 hl (k := 3) rfl (st_e ha1) (by decide) rfl (fun ls hl => ?_)
        refine lv_goto (tgt := 30) hx hb dX1_better_96 (by decide) ?_
        refine lv_iload hx hb dX1_better_30 (lv_at hl 0 rfl) ?_
        refine lv_iload_n hx hb dX1_better_32 rfl (lv_at hl 4 rfl) ?_
        refine lv_iconst (v := nI 1) hx hb dX1_better_33 (by decide) ?_
        refine n_iadd hx hb dX1_better_34 ?_
        refine n_icmp_gt (tgt := 99) hx hb (by omega) (by omega) dX1_better_35 (by decide) (fun c_35 => by exfalso; omega) (fun c_35 => ?_)
        refine lv_iload hx hb dX1_better_38 (lv_at hl 0 rfl) ?_
        refine lv_iconst (v := nI 0) hx hb dX1_better_40 (by decide) ?_
        refine lv_bipush (v := nI 20) hx hb dX1_better_41 (by decide) ?_
        refine ro_callS (As := [.int (nI (a + 1)), .int (nI 0), .int (nI 20)]) (rest := []) ⟨hx, hb, hml, hown, hts⟩ (kX1_in l (nI (a + 1)) (nI 0) (nI 20)) (va_cwS 3 hts gX1_better_X1_in rfl rfl rfl (by decide +kernel) ⟨Nat.le_of_ble_eq_true rfl, Nat.le_of_ble_eq_true rfl⟩) vT_bl vT_at rfl hl.1 rfl (Nat.le_of_ble_eq_true rfl) dX1_better_43 ⟨Nat.zero_le _, Nat.zero_le _⟩ ?_
        refine b_if_eq (tgt := 93) hx hb dX1_better_46 (by decide) (fun c_46b => ?_) (fun c_46b => ?_)
        · refine lv_iinc (v := nI (a + 1 + 2)) (lv' := [(5, .int (nI (a + 1 + 2))), (4, .int (fm A)), (3, .int (nI a)), (6, .int (fm A5)), (2, .int (nI a)), (0, .ref (h 0)), (1, .int (nI (k * 16 + qi o i)))]) hx hb dX1_better_93 hl (k := 0) rfl (nI_add _ 2) (by decide) rfl (fun ls hl => ?_)
          refine lv_goto (tgt := 30) hx hb dX1_better_96 (by decide) ?_
          refine lv_iload hx hb dX1_better_30 (lv_at hl 0 rfl) ?_
          refine lv_iload_n hx hb dX1_better_32 rfl (lv_at hl 4 rfl) ?_
          refine lv_iconst (v := nI 1) hx hb dX1_better_33 (by decide) ?_
          refine n_iadd hx hb dX1_better_34 ?_
          refine n_icmp_gt (tgt := 99) hx hb (by omega) (by omega) dX1_better_35 (by decide) (fun c_35 => ?_) (fun c_35 => by exfalso; omega)
          refine lv_aload_n hx hb dX1_better_99 rfl (lv_at hl 5 rfl) ?_
          refine va_get (D := D) (ci := 1) (v := .ref (h 2)) (C := RX1) (T := TX1) (N := 13) hx hb hts hin0 hown hK hP 0 rfl rfl 4 (by decide) (hts (.fieldLink RX1 13 "VoicePartsModel" "number" "[I") (by decide +kernel)) (fun _ h9 => h9) rfl dX1_better_100 ?_
          refine lv_iload_n hx hb dX1_better_103 rfl (lv_at hl 6 rfl) ?_
          refine lv_iload_n hx hb dX1_better_104 rfl (lv_at hl 2 rfl) ?_
          refine n_iast hx hb hK hP hD hS 2 0 rfl rfl (by omega) (by decide) dX1_better_105 (fun H locs hP hD hS => ?_)
          obtain ⟨A6, eA6⟩ : ∃ z : St, z = uV A5 (upV (sV A5) k (qi o i) (nI a)) := ⟨_, rfl⟩
          have hP : va_P D vwCl (mw h cI cZ A6 M) H := by rw [eA6]; have z := hP; rw [mVup (k := k) (i := qi o i) (by omega)] at z; exact z
          have hD : va_D G (mw h cI cZ A6 M) := va_D.to hD rfl
          have xA6 : A6 = tryV A k (qi o i) a := by rw [eA6, xA5]; exact try_try A k (qi o i) _ _
          exact hQ dX1_better_106 (by rw [mst_eq c_6 ea ha (bst_0 (ms := (fun x => fm (tryV A k (qi o i) x))) (b := a) (if_neg (fun z => Int32.not_lt.mpr (show fm (tryV A k (qi o i) a) ≤ fm (tryV A k (qi o i) (a - 1)) by rw [try_self ea, ← xA5]; exact c_67a) z.2)) (fun z => c_46b ((st_c a (by omega)).mpr z.1))), ← xA6]; exact hP) hS
        · have ha2 : a + 1 ≤ 20 := (st_c a (by omega)).mp c_46b
          refine lv_aload_n hx hb dX1_better_49 rfl (lv_at hl 5 rfl) ?_
          refine va_get (D := D) (ci := 1) (v := .ref (h 2)) (C := RX1) (T := TX1) (N := 13) hx hb hts hin0 hown hK hP 0 rfl rfl 4 (by decide) (hts (.fieldLink RX1 13 "VoicePartsModel" "number" "[I") (by decide +kernel)) (fun _ h9 => h9) rfl dX1_better_50 ?_
          refine lv_iload_n hx hb dX1_better_53 rfl (lv_at hl 6 rfl) ?_
          refine lv_iload hx hb dX1_better_54 (lv_at hl 0 rfl) ?_
          refine n_iast hx hb hK hP hD hS 2 0 rfl rfl (by omega) (by decide) dX1_better_56 (fun H locs hP hD hS => ?_)
          obtain ⟨A7, eA7⟩ : ∃ z : St, z = uV A5 (upV (sV A5) k (qi o i) (nI (a + 1))) := ⟨_, rfl⟩
          have hP : va_P D vwCl (mw h cI cZ A7 M) H := by rw [eA7]; have z := hP; rw [mVup (k := k) (i := qi o i) (by omega)] at z; exact z
          have hD : va_D G (mw h cI cZ A7 M) := va_D.to hD rfl
          have hIA7 : Inv A7 := by rw [eA7]; exact hIA5.uV (nI_20 (by omega))
          have xA7 : A7 = tryV A k (qi o i) (a + 1) := by rw [eA7, xA5]; exact try_try A k (qi o i) _ _
          refine lv_aload_n hx hb dX1_better_57 rfl (lv_at hl 5 rfl) ?_
          refine ro_callV (As := []) (rest := []) ⟨hx, hb, hml, hown, hts⟩ (kX1_missNow l D h cI cZ A7 M  hIA7 ) (cwV 0 hts gX1_better_X1_missNow rfl rfl rfl (by decide +kernel) ⟨Nat.le_of_ble_eq_true rfl, Nat.le_of_ble_eq_true rfl⟩) vB_bl (vB_at hP hK) (va_recv hK hP (ci := 1) (q0 := 0) rfl rfl) rfl hl.1 rfl (Nat.le_of_ble_eq_true rfl) dX1_better_58 ⟨Nat.zero_le _, Nat.zero_le _⟩ ?_
          refine lv_istore (lv' := [(6, .int (fm A7)), (5, .int (nI (a + 1))), (4, .int (fm A)), (3, .int (nI a)), (2, .int (nI a)), (0, .ref (h 0)), (1, .int (nI (k * 16 + qi o i)))]) hx hb dX1_better_61 hl (by decide) rfl (fun ls hl => ?_)
          refine lv_iload hx hb dX1_better_63 (lv_at hl 0 rfl) ?_
          refine lv_iload hx hb dX1_better_65 (lv_at hl 2 rfl) ?_
          refine lv_icmp_ge (tgt := 75) hx hb dX1_better_67 (by decide) (fun c_67b => ?_) (fun c_67b => ?_)
          · refine lv_iload_n hx hb dX1_better_75 rfl (lv_at hl 3 rfl) ?_
            refine lv_istore_n (lv' := [(3, .int (nI a)), (6, .int (fm A7)), (5, .int (nI (a + 1))), (4, .int (fm A)), (2, .int (nI a)), (0, .ref (h 0)), (1, .int (nI (k * 16 + qi o i)))]) hx hb dX1_better_76 rfl hl (by decide) rfl (fun ls hl => ?_)
            refine lv_iload hx hb dX1_better_77 (lv_at hl 1 rfl) ?_
            refine lv_iload hx hb dX1_better_79 (lv_at hl 3 rfl) ?_
            refine lv_icmp_ge (tgt := 89) hx hb dX1_better_81 (by decide) (fun c_81 => ?_) (fun c_81 => absurd c_67b c_81)
            refine lv_iload hx hb dX1_better_89 (lv_at hl 3 rfl) ?_
            refine lv_istore (lv' := [(4, .int (fm A)), (3, .int (nI a)), (6, .int (fm A7)), (5, .int (nI (a + 1))), (2, .int (nI a)), (0, .ref (h 0)), (1, .int (nI (k * 16 + qi o i)))]) hx hb dX1_better_91 hl (by decide) rfl (fun ls hl => ?_)
            refine lv_iinc (v := nI (a + 1 + 2)) (lv' := [(5, .int (nI (a + 1 + 2))), (4, .int (fm A)), (3, .int (nI a)), (6, .int (fm A7)), (2, .int (nI a)), (0, .ref (h 0)), (1, .int (nI (k * 16 + qi o i)))]) hx hb dX1_better_93 hl (k := 3) rfl (nI_add _ 2) (by decide) rfl (fun ls hl => ?_)
            refine lv_goto (tgt := 30) hx hb dX1_better_96 (by decide) ?_
            refine lv_iload hx hb dX1_better_30 (lv_at hl 0 rfl) ?_
            refine lv_iload_n hx hb dX1_better_32 rfl (lv_at hl 4 rfl) ?_
            refine lv_iconst (v := nI 1) hx hb dX1_better_33 (by decide) ?_
            refine n_iadd hx hb dX1_better_34 ?_
            refine n_icmp_gt (tgt := 99) hx hb (by omega) (by omega) dX1_better_35 (by decide) (fun c_35 => ?_) (fun c_35 => by exfalso; omega)
            refine lv_aload_n hx hb dX1_better_99 rfl (lv_at hl 5 rfl) ?_
            refine va_get (D := D) (ci := 1) (v := .ref (h 2)) (C := RX1) (T := TX1) (N := 13) hx hb hts hin0 hown hK hP 0 rfl rfl 4 (by decide) (hts (.fieldLink RX1 13 "VoicePartsModel" "number" "[I") (by decide +kernel)) (fun _ h9 => h9) rfl dX1_better_100 ?_
            refine lv_iload_n hx hb dX1_better_103 rfl (lv_at hl 6 rfl) ?_
            refine lv_iload_n hx hb dX1_better_104 rfl (lv_at hl 2 rfl) ?_
            refine n_iast hx hb hK hP hD hS 2 0 rfl rfl (by omega) (by decide) dX1_better_105 (fun H locs hP hD hS => ?_)
            obtain ⟨A8, eA8⟩ : ∃ z : St, z = uV A7 (upV (sV A7) k (qi o i) (nI a)) := ⟨_, rfl⟩
            have hP : va_P D vwCl (mw h cI cZ A8 M) H := by rw [eA8]; have z := hP; rw [mVup (k := k) (i := qi o i) (by omega)] at z; exact z
            have hD : va_D G (mw h cI cZ A8 M) := va_D.to hD rfl
            have xA8 : A8 = tryV A k (qi o i) a := by rw [eA8, xA7]; exact try_try A k (qi o i) _ _
            exact hQ dX1_better_106 (by rw [mst_eq c_6 ea ha (bst_0 (ms := (fun x => fm (tryV A k (qi o i) x))) (b := a) (if_neg (fun z => Int32.not_lt.mpr (show fm (tryV A k (qi o i) a) ≤ fm (tryV A k (qi o i) (a - 1)) by rw [try_self ea, ← xA5]; exact c_67a) z.2)) (fun z => Int32.not_lt.mpr (show fm (tryV A k (qi o i) (a)) ≤ fm (tryV A k (qi o i) (a + 1)) by rw [try_self ea, ← xA7]; exact c_67b) z.2)), ← xA8]; exact hP) hS
          · refine lv_iload hx hb dX1_better_70 (lv_at hl 1 rfl) ?_
            refine lv_goto (tgt := 76) hx hb dX1_better_72 (by decide) ?_
            refine lv_istore_n (lv' := [(3, .int (nI (a + 1))), (6, .int (fm A7)), (5, .int (nI (a + 1))), (4, .int (fm A)), (2, .int (nI a)), (0, .ref (h 0)), (1, .int (nI (k * 16 + qi o i)))]) hx hb dX1_better_76 rfl hl (by decide) rfl (fun ls hl => ?_)
            refine lv_iload hx hb dX1_better_77 (lv_at hl 1 rfl) ?_
            refine lv_iload hx hb dX1_better_79 (lv_at hl 3 rfl) ?_
            refine lv_icmp_ge (tgt := 89) hx hb dX1_better_81 (by decide) (fun c_81 => absurd c_81 c_67b) (fun c_81 => ?_)
            refine lv_iload hx hb dX1_better_84 (lv_at hl 1 rfl) ?_
            refine lv_goto (tgt := 91) hx hb dX1_better_86 (by decide) ?_
            refine lv_istore (lv' := [(4, .int (fm A7)), (3, .int (nI (a + 1))), (6, .int (fm A7)), (5, .int (nI (a + 1))), (2, .int (nI a)), (0, .ref (h 0)), (1, .int (nI (k * 16 + qi o i)))]) hx hb dX1_better_91 hl (by decide) rfl (fun ls hl => ?_)
            refine lv_iinc (v := nI (a + 1 + 2)) (lv' := [(5, .int (nI (a + 1 + 2))), (4, .int (fm A7)), (3, .int (nI (a + 1))), (6, .int (fm A7)), (2, .int (nI a)), (0, .ref (h 0)), (1, .int (nI (k * 16 + qi o i)))]) hx hb dX1_better_93 hl (k := 3) rfl (nI_add _ 2) (by decide) rfl (fun ls hl => ?_)
            refine lv_goto (tgt := 30) hx hb dX1_better_96 (by decide) ?_
            refine lv_iload hx hb dX1_better_30 (lv_at hl 0 rfl) ?_
            refine lv_iload_n hx hb dX1_better_32 rfl (lv_at hl 4 rfl) ?_
            refine lv_iconst (v := nI 1) hx hb dX1_better_33 (by decide) ?_
            refine n_iadd hx hb dX1_better_34 ?_
            refine n_icmp_gt (tgt := 99) hx hb (by omega) (by omega) dX1_better_35 (by decide) (fun c_35 => ?_) (fun c_35 => by exfalso; omega)
            refine lv_aload_n hx hb dX1_better_99 rfl (lv_at hl 5 rfl) ?_
            refine va_get (D := D) (ci := 1) (v := .ref (h 2)) (C := RX1) (T := TX1) (N := 13) hx hb hts hin0 hown hK hP 0 rfl rfl 4 (by decide) (hts (.fieldLink RX1 13 "VoicePartsModel" "number" "[I") (by decide +kernel)) (fun _ h9 => h9) rfl dX1_better_100 ?_
            refine lv_iload_n hx hb dX1_better_103 rfl (lv_at hl 6 rfl) ?_
            refine lv_iload_n hx hb dX1_better_104 rfl (lv_at hl 2 rfl) ?_
            refine n_iast hx hb hK hP hD hS 2 0 rfl rfl (by omega) (by decide) dX1_better_105 (fun H locs hP hD hS => ?_)
            obtain ⟨A9, eA9⟩ : ∃ z : St, z = uV A7 (upV (sV A7) k (qi o i) (nI (a + 1))) := ⟨_, rfl⟩
            have hP : va_P D vwCl (mw h cI cZ A9 M) H := by rw [eA9]; have z := hP; rw [mVup (k := k) (i := qi o i) (by omega)] at z; exact z
            have hD : va_D G (mw h cI cZ A9 M) := va_D.to hD rfl
            have xA9 : A9 = tryV A k (qi o i) (a + 1) := by rw [eA9, xA7]; exact try_try A k (qi o i) _ _
            exact hQ dX1_better_106 (by rw [mst_eq c_6 ea ha (bst_1 (ms := (fun x => fm (tryV A k (qi o i) x))) (b := a) (if_neg (fun z => Int32.not_lt.mpr (show fm (tryV A k (qi o i) a) ≤ fm (tryV A k (qi o i) (a - 1)) by rw [try_self ea, ← xA5]; exact c_67a) z.2)) (⟨ha2, show fm (tryV A k (qi o i) (a + 1)) < fm (tryV A k (qi o i) (a)) by rw [try_self ea, ← xA7]; exact Int32.not_le.mp c_67b⟩)), ← xA9]; exact hP) hS
      · refine lv_iload hx hb dX1_better_70 (lv_at hl 1 rfl) ?_
        refine lv_goto (tgt := 76) hx hb dX1_better_72 (by decide) ?_
        refine lv_istore_n (lv' := [(3, .int (nI (a - 1))), (6, .int (fm A5)), (5, .int (nI (a - 1))), (4, .int (fm A)), (2, .int (nI a)), (0, .ref (h 0)), (1, .int (nI (k * 16 + qi o i)))]) hx hb dX1_better_76 rfl hl (by decide) rfl (fun ls hl => ?_)
        refine lv_iload hx hb dX1_better_77 (lv_at hl 1 rfl) ?_
        refine lv_iload hx hb dX1_better_79 (lv_at hl 3 rfl) ?_
        refine lv_icmp_ge (tgt := 89) hx hb dX1_better_81 (by decide) (fun c_81 => absurd c_81 c_67a) (fun c_81 => ?_)
        refine lv_iload hx hb dX1_better_84 (lv_at hl 1 rfl) ?_
        refine lv_goto (tgt := 91) hx hb dX1_better_86 (by decide) ?_
        refine lv_istore (lv' := [(4, .int (fm A5)), (3, .int (nI (a - 1))), (6, .int (fm A5)), (5, .int (nI (a - 1))), (2, .int (nI a)), (0, .ref (h 0)), (1, .int (nI (k * 16 + qi o i)))]) hx hb dX1_better_91 hl (by decide) rfl (fun ls hl => ?_)
        refine lv_iinc (v := nI (a + 1)) (lv' := [(5, .int (nI (a + 1))), (4, .int (fm A5)), (3, .int (nI (a - 1))), (6, .int (fm A5)), (2, .int (nI a)), (0, .ref (h 0)), (1, .int (nI (k * 16 + qi o i)))]) hx hb dX1_better_93 hl (k := 3) rfl (st_e ha1) (by decide) rfl (fun ls hl => ?_)
        refine lv_goto (tgt := 30) hx hb dX1_better_96 (by decide) ?_
        refine lv_iload hx hb dX1_better_30 (lv_at hl 0 rfl) ?_
        refine lv_iload_n hx hb dX1_better_32 rfl (lv_at hl 4 rfl) ?_
        refine lv_iconst (v := nI 1) hx hb dX1_better_33 (by decide) ?_
        refine n_iadd hx hb dX1_better_34 ?_
        refine n_icmp_gt (tgt := 99) hx hb (by omega) (by omega) dX1_better_35 (by decide) (fun c_35 => by exfalso; omega) (fun c_35 => ?_)
        refine lv_iload hx hb dX1_better_38 (lv_at hl 0 rfl) ?_
        refine lv_iconst (v := nI 0) hx hb dX1_better_40 (by decide) ?_
        refine lv_bipush (v := nI 20) hx hb dX1_better_41 (by decide) ?_
        refine ro_callS (As := [.int (nI (a + 1)), .int (nI 0), .int (nI 20)]) (rest := []) ⟨hx, hb, hml, hown, hts⟩ (kX1_in l (nI (a + 1)) (nI 0) (nI 20)) (va_cwS 3 hts gX1_better_X1_in rfl rfl rfl (by decide +kernel) ⟨Nat.le_of_ble_eq_true rfl, Nat.le_of_ble_eq_true rfl⟩) vT_bl vT_at rfl hl.1 rfl (Nat.le_of_ble_eq_true rfl) dX1_better_43 ⟨Nat.zero_le _, Nat.zero_le _⟩ ?_
        refine b_if_eq (tgt := 93) hx hb dX1_better_46 (by decide) (fun c_46b => ?_) (fun c_46b => ?_)
        · refine lv_iinc (v := nI (a + 1 + 2)) (lv' := [(5, .int (nI (a + 1 + 2))), (4, .int (fm A5)), (3, .int (nI (a - 1))), (6, .int (fm A5)), (2, .int (nI a)), (0, .ref (h 0)), (1, .int (nI (k * 16 + qi o i)))]) hx hb dX1_better_93 hl (k := 0) rfl (nI_add _ 2) (by decide) rfl (fun ls hl => ?_)
          refine lv_goto (tgt := 30) hx hb dX1_better_96 (by decide) ?_
          refine lv_iload hx hb dX1_better_30 (lv_at hl 0 rfl) ?_
          refine lv_iload_n hx hb dX1_better_32 rfl (lv_at hl 4 rfl) ?_
          refine lv_iconst (v := nI 1) hx hb dX1_better_33 (by decide) ?_
          refine n_iadd hx hb dX1_better_34 ?_
          refine n_icmp_gt (tgt := 99) hx hb (by omega) (by omega) dX1_better_35 (by decide) (fun c_35 => ?_) (fun c_35 => by exfalso; omega)
          refine lv_aload_n hx hb dX1_better_99 rfl (lv_at hl 5 rfl) ?_
          refine va_get (D := D) (ci := 1) (v := .ref (h 2)) (C := RX1) (T := TX1) (N := 13) hx hb hts hin0 hown hK hP 0 rfl rfl 4 (by decide) (hts (.fieldLink RX1 13 "VoicePartsModel" "number" "[I") (by decide +kernel)) (fun _ h9 => h9) rfl dX1_better_100 ?_
          refine lv_iload_n hx hb dX1_better_103 rfl (lv_at hl 6 rfl) ?_
          refine lv_iload_n hx hb dX1_better_104 rfl (lv_at hl 2 rfl) ?_
          refine n_iast hx hb hK hP hD hS 2 0 rfl rfl (by omega) (by decide) dX1_better_105 (fun H locs hP hD hS => ?_)
          obtain ⟨A10, eA10⟩ : ∃ z : St, z = uV A5 (upV (sV A5) k (qi o i) (nI (a - 1))) := ⟨_, rfl⟩
          have hP : va_P D vwCl (mw h cI cZ A10 M) H := by rw [eA10]; have z := hP; rw [mVup (k := k) (i := qi o i) (by omega)] at z; exact z
          have hD : va_D G (mw h cI cZ A10 M) := va_D.to hD rfl
          have xA10 : A10 = tryV A k (qi o i) (a - 1) := by rw [eA10, xA5]; exact try_try A k (qi o i) _ _
          exact hQ dX1_better_106 (by rw [mst_eq c_6 ea ha (bst_0 (ms := (fun x => fm (tryV A k (qi o i) x))) (b := a - 1) (if_pos ⟨ha1, show fm (tryV A k (qi o i) (a - 1)) < fm (tryV A k (qi o i) a) by rw [try_self ea, ← xA5]; exact Int32.not_le.mp c_67a⟩) (fun z => c_46b ((st_c a (by omega)).mpr z.1))), ← xA10]; exact hP) hS
        · have ha2 : a + 1 ≤ 20 := (st_c a (by omega)).mp c_46b
          refine lv_aload_n hx hb dX1_better_49 rfl (lv_at hl 5 rfl) ?_
          refine va_get (D := D) (ci := 1) (v := .ref (h 2)) (C := RX1) (T := TX1) (N := 13) hx hb hts hin0 hown hK hP 0 rfl rfl 4 (by decide) (hts (.fieldLink RX1 13 "VoicePartsModel" "number" "[I") (by decide +kernel)) (fun _ h9 => h9) rfl dX1_better_50 ?_
          refine lv_iload_n hx hb dX1_better_53 rfl (lv_at hl 6 rfl) ?_
          refine lv_iload hx hb dX1_better_54 (lv_at hl 0 rfl) ?_
          refine n_iast hx hb hK hP hD hS 2 0 rfl rfl (by omega) (by decide) dX1_better_56 (fun H locs hP hD hS => ?_)
          obtain ⟨A11, eA11⟩ : ∃ z : St, z = uV A5 (upV (sV A5) k (qi o i) (nI (a + 1))) := ⟨_, rfl⟩
          have hP : va_P D vwCl (mw h cI cZ A11 M) H := by rw [eA11]; have z := hP; rw [mVup (k := k) (i := qi o i) (by omega)] at z; exact z
          have hD : va_D G (mw h cI cZ A11 M) := va_D.to hD rfl
          have hIA11 : Inv A11 := by rw [eA11]; exact hIA5.uV (nI_20 (by omega))
          have xA11 : A11 = tryV A k (qi o i) (a + 1) := by rw [eA11, xA5]; exact try_try A k (qi o i) _ _
          refine lv_aload_n hx hb dX1_better_57 rfl (lv_at hl 5 rfl) ?_
          refine ro_callV (As := []) (rest := []) ⟨hx, hb, hml, hown, hts⟩ (kX1_missNow l D h cI cZ A11 M  hIA11 ) (cwV 0 hts gX1_better_X1_missNow rfl rfl rfl (by decide +kernel) ⟨Nat.le_of_ble_eq_true rfl, Nat.le_of_ble_eq_true rfl⟩) vB_bl (vB_at hP hK) (va_recv hK hP (ci := 1) (q0 := 0) rfl rfl) rfl hl.1 rfl (Nat.le_of_ble_eq_true rfl) dX1_better_58 ⟨Nat.zero_le _, Nat.zero_le _⟩ ?_
          refine lv_istore (lv' := [(6, .int (fm A11)), (5, .int (nI (a + 1))), (4, .int (fm A5)), (3, .int (nI (a - 1))), (2, .int (nI a)), (0, .ref (h 0)), (1, .int (nI (k * 16 + qi o i)))]) hx hb dX1_better_61 hl (by decide) rfl (fun ls hl => ?_)
          refine lv_iload hx hb dX1_better_63 (lv_at hl 0 rfl) ?_
          refine lv_iload hx hb dX1_better_65 (lv_at hl 2 rfl) ?_
          refine lv_icmp_ge (tgt := 75) hx hb dX1_better_67 (by decide) (fun c_67b => ?_) (fun c_67b => ?_)
          · refine lv_iload_n hx hb dX1_better_75 rfl (lv_at hl 3 rfl) ?_
            refine lv_istore_n (lv' := [(3, .int (nI (a - 1))), (6, .int (fm A11)), (5, .int (nI (a + 1))), (4, .int (fm A5)), (2, .int (nI a)), (0, .ref (h 0)), (1, .int (nI (k * 16 + qi o i)))]) hx hb dX1_better_76 rfl hl (by decide) rfl (fun ls hl => ?_)
            refine lv_iload hx hb dX1_better_77 (lv_at hl 1 rfl) ?_
            refine lv_iload hx hb dX1_better_79 (lv_at hl 3 rfl) ?_
            refine lv_icmp_ge (tgt := 89) hx hb dX1_better_81 (by decide) (fun c_81 => ?_) (fun c_81 => absurd c_67b c_81)
            refine lv_iload hx hb dX1_better_89 (lv_at hl 3 rfl) ?_
            refine lv_istore (lv' := [(4, .int (fm A5)), (3, .int (nI (a - 1))), (6, .int (fm A11)), (5, .int (nI (a + 1))), (2, .int (nI a)), (0, .ref (h 0)), (1, .int (nI (k * 16 + qi o i)))]) hx hb dX1_better_91 hl (by decide) rfl (fun ls hl => ?_)
            refine lv_iinc (v := nI (a + 1 + 2)) (lv' := [(5, .int (nI (a + 1 + 2))), (4, .int (fm A5)), (3, .int (nI (a - 1))), (6, .int (fm A11)), (2, .int (nI a)), (0, .ref (h 0)), (1, .int (nI (k * 16 + qi o i)))]) hx hb dX1_better_93 hl (k := 3) rfl (nI_add _ 2) (by decide) rfl (fun ls hl => ?_)
            refine lv_goto (tgt := 30) hx hb dX1_better_96 (by decide) ?_
            refine lv_iload hx hb dX1_better_30 (lv_at hl 0 rfl) ?_
            refine lv_iload_n hx hb dX1_better_32 rfl (lv_at hl 4 rfl) ?_
            refine lv_iconst (v := nI 1) hx hb dX1_better_33 (by decide) ?_
            refine n_iadd hx hb dX1_better_34 ?_
            refine n_icmp_gt (tgt := 99) hx hb (by omega) (by omega) dX1_better_35 (by decide) (fun c_35 => ?_) (fun c_35 => by exfalso; omega)
            refine lv_aload_n hx hb dX1_better_99 rfl (lv_at hl 5 rfl) ?_
            refine va_get (D := D) (ci := 1) (v := .ref (h 2)) (C := RX1) (T := TX1) (N := 13) hx hb hts hin0 hown hK hP 0 rfl rfl 4 (by decide) (hts (.fieldLink RX1 13 "VoicePartsModel" "number" "[I") (by decide +kernel)) (fun _ h9 => h9) rfl dX1_better_100 ?_
            refine lv_iload_n hx hb dX1_better_103 rfl (lv_at hl 6 rfl) ?_
            refine lv_iload_n hx hb dX1_better_104 rfl (lv_at hl 2 rfl) ?_
            refine n_iast hx hb hK hP hD hS 2 0 rfl rfl (by omega) (by decide) dX1_better_105 (fun H locs hP hD hS => ?_)
            obtain ⟨A12, eA12⟩ : ∃ z : St, z = uV A11 (upV (sV A11) k (qi o i) (nI (a - 1))) := ⟨_, rfl⟩
            have hP : va_P D vwCl (mw h cI cZ A12 M) H := by rw [eA12]; have z := hP; rw [mVup (k := k) (i := qi o i) (by omega)] at z; exact z
            have hD : va_D G (mw h cI cZ A12 M) := va_D.to hD rfl
            have xA12 : A12 = tryV A k (qi o i) (a - 1) := by rw [eA12, xA11]; exact try_try A k (qi o i) _ _
            exact hQ dX1_better_106 (by rw [mst_eq c_6 ea ha (bst_0 (ms := (fun x => fm (tryV A k (qi o i) x))) (b := a - 1) (if_pos ⟨ha1, show fm (tryV A k (qi o i) (a - 1)) < fm (tryV A k (qi o i) a) by rw [try_self ea, ← xA5]; exact Int32.not_le.mp c_67a⟩) (fun z => Int32.not_lt.mpr (show fm (tryV A k (qi o i) (a - 1)) ≤ fm (tryV A k (qi o i) (a + 1)) by rw [← xA5, ← xA11]; exact c_67b) z.2)), ← xA12]; exact hP) hS
          · refine lv_iload hx hb dX1_better_70 (lv_at hl 1 rfl) ?_
            refine lv_goto (tgt := 76) hx hb dX1_better_72 (by decide) ?_
            refine lv_istore_n (lv' := [(3, .int (nI (a + 1))), (6, .int (fm A11)), (5, .int (nI (a + 1))), (4, .int (fm A5)), (2, .int (nI a)), (0, .ref (h 0)), (1, .int (nI (k * 16 + qi o i)))]) hx hb dX1_better_76 rfl hl (by decide) rfl (fun ls hl => ?_)
            refine lv_iload hx hb dX1_better_77 (lv_at hl 1 rfl) ?_
            refine lv_iload hx hb dX1_better_79 (lv_at hl 3 rfl) ?_
            refine lv_icmp_ge (tgt := 89) hx hb dX1_better_81 (by decide) (fun c_81 => absurd c_81 c_67b) (fun c_81 => ?_)
            refine lv_iload hx hb dX1_better_84 (lv_at hl 1 rfl) ?_
            refine lv_goto (tgt := 91) hx hb dX1_better_86 (by decide) ?_
            refine lv_istore (lv' := [(4, .int (fm A11)), (3, .int (nI (a + 1))), (6, .int (fm A11)), (5, .int (nI (a + 1))), (2, .int (nI a)), (0, .ref (h 0)), (1, .int (nI (k * 16 + qi o i)))]) hx hb dX1_better_91 hl (by decide) rfl (fun ls hl => ?_)
            refine lv_iinc (v := nI (a + 1 + 2)) (lv' := [(5, .int (nI (a + 1 + 2))), (4, .int (fm A11)), (3, .int (nI (a + 1))), (6, .int (fm A11)), (2, .int (nI a)), (0, .ref (h 0)), (1, .int (nI (k * 16 + qi o i)))]) hx hb dX1_better_93 hl (k := 3) rfl (nI_add _ 2) (by decide) rfl (fun ls hl => ?_)
            refine lv_goto (tgt := 30) hx hb dX1_better_96 (by decide) ?_
            refine lv_iload hx hb dX1_better_30 (lv_at hl 0 rfl) ?_
            refine lv_iload_n hx hb dX1_better_32 rfl (lv_at hl 4 rfl) ?_
            refine lv_iconst (v := nI 1) hx hb dX1_better_33 (by decide) ?_
            refine n_iadd hx hb dX1_better_34 ?_
            refine n_icmp_gt (tgt := 99) hx hb (by omega) (by omega) dX1_better_35 (by decide) (fun c_35 => ?_) (fun c_35 => by exfalso; omega)
            refine lv_aload_n hx hb dX1_better_99 rfl (lv_at hl 5 rfl) ?_
            refine va_get (D := D) (ci := 1) (v := .ref (h 2)) (C := RX1) (T := TX1) (N := 13) hx hb hts hin0 hown hK hP 0 rfl rfl 4 (by decide) (hts (.fieldLink RX1 13 "VoicePartsModel" "number" "[I") (by decide +kernel)) (fun _ h9 => h9) rfl dX1_better_100 ?_
            refine lv_iload_n hx hb dX1_better_103 rfl (lv_at hl 6 rfl) ?_
            refine lv_iload_n hx hb dX1_better_104 rfl (lv_at hl 2 rfl) ?_
            refine n_iast hx hb hK hP hD hS 2 0 rfl rfl (by omega) (by decide) dX1_better_105 (fun H locs hP hD hS => ?_)
            obtain ⟨A13, eA13⟩ : ∃ z : St, z = uV A11 (upV (sV A11) k (qi o i) (nI (a + 1))) := ⟨_, rfl⟩
            have hP : va_P D vwCl (mw h cI cZ A13 M) H := by rw [eA13]; have z := hP; rw [mVup (k := k) (i := qi o i) (by omega)] at z; exact z
            have hD : va_D G (mw h cI cZ A13 M) := va_D.to hD rfl
            have xA13 : A13 = tryV A k (qi o i) (a + 1) := by rw [eA13, xA11]; exact try_try A k (qi o i) _ _
            exact hQ dX1_better_106 (by rw [mst_eq c_6 ea ha (bst_1 (ms := (fun x => fm (tryV A k (qi o i) x))) (b := a - 1) (if_pos ⟨ha1, show fm (tryV A k (qi o i) (a - 1)) < fm (tryV A k (qi o i) a) by rw [try_self ea, ← xA5]; exact Int32.not_le.mp c_67a⟩) (⟨ha2, show fm (tryV A k (qi o i) (a + 1)) < fm (tryV A k (qi o i) (a - 1)) by rw [← xA5, ← xA11]; exact Int32.not_le.mp c_67b⟩)), ← xA13]; exact hP) hS
  · exact hQ dX1_better_9 (by unfold mst; rw [if_pos c_6]; exact hP) hS
def rmX1_rounds : Room := { frames := 4, cells := 0, slots := 0, locals := 96 }
set_option maxHeartbeats 4000000 in
set_option maxRecDepth 100000 in
/-- rounds -/
theorem kX1_rounds (l : Launch) (D : va_G) (h : Nat → Nat) (cI cZ : ClassId) (A : St) (M : Nat → Int32) (hI : Inv A) (x : Int32) : MU l yX1_rounds wsX1_rounds rmX1_rounds [.ref (h 0), .int x] D [(cI, .int), (cZ, .boolean)] (mw h cI cZ A M) (mw h cI cZ (nRm A x) M) (some (.int (aRm A x))) := by
  refine mu_ofW (cc := cX1_rounds) (maxL := 5) (by decide) rfl (Nat.le_of_ble_eq_true rfl) ?_
  intro p e s m below meth c args Q G H locs hx hb hml hown hts hP hK hD hS hQ ls hl
  have hown : s.vm.findClass RX1 = some m.cls := hown
  have hin0 : ∀ w ∈ u_ws RX1 TX1 13, w ∈ wsX1_rounds := fun _ h => List.mem_cons_of_mem _ (List.mem_append_right _ h)
  have hl : lv_has ls 5 [(0, .ref (h 0)), (1, .int x)] := hl
  have hF := hI.F
  have hT := hI.T
  have hK3 := hI.K
  have hJ := hI.J
  have hZ := hI.Z
  refine lv_iload_n hx hb dX1_rounds_0 rfl (lv_at hl 1 rfl) ?_
  refine lv_iconst (v := nI 1) hx hb dX1_rounds_1 (by decide) ?_
  refine lv_bipush (v := nI 10) hx hb dX1_rounds_2 (by decide) ?_
  refine ro_callS (As := [.int x, .int (nI 1), .int (nI 10)]) (rest := []) ⟨hx, hb, hml, hown, hts⟩ (kX1_in l (x) (nI 1) (nI 10)) (va_cwS 3 hts gX1_rounds_X1_in rfl rfl rfl (by decide +kernel) ⟨Nat.le_of_ble_eq_true rfl, Nat.le_of_ble_eq_true rfl⟩) vT_bl vT_at rfl hl.1 rfl (Nat.le_of_ble_eq_true rfl) dX1_rounds_4 ⟨Nat.zero_le _, Nat.zero_le _⟩ ?_
  refine b_if_ne (tgt := 12) hx hb dX1_rounds_7 (by decide) (fun c_7 => ?_) (fun c_7 => ?_)
  · obtain ⟨u, hu, rfl⟩ := q1_of c_7 (by decide)
    refine lv_iconst (v := nI 0) hx hb dX1_rounds_12 (by decide) ?_
    refine lv_istore_n (lv' := [(2, .int (nI 0)), (0, .ref (h 0)), (1, .int (nI u))]) hx hb dX1_rounds_13 rfl hl (by decide) rfl (fun ls hl => ?_)
    have lp14 : ∀ (n14 r : Nat), r + n14 = u → ∀ (H : Heap) (locs : List Loc), va_P D vwCl (mw h cI cZ (uN (rN mst A r) (sN A + nI r)) M) H → va_S G s.heap H locs → ∀ (ls : Array Slot), lv_has ls 5 [(0, .ref (h 0)), (1, .int (nI u)), (2, .int (nI r))] → W p l e rmX1_rounds s m args below meth c H locs 0 0 Q (F0 m 14 ls []) := by
      intro n14
      induction n14 with
      | zero =>
        intro r hi14 H locs hP hS ls hl
        obtain rfl : u = r := by omega
        have hD : va_D G (mw h cI cZ (uN (rN mst A u) (sN A + nI u)) M) := va_D.to hD rfl
        refine lv_iload_n hx hb dX1_rounds_14 rfl (lv_at hl 2 rfl) ?_
        refine lv_iload_n hx hb dX1_rounds_15 rfl (lv_at hl 1 rfl) ?_
        refine n_icmp_ge (tgt := 112) hx hb (by omega) (by omega) dX1_rounds_16 (by decide) (fun c_16 => ?_) (fun c_16 => by exfalso; omega)
        refine lv_aload_n hx hb dX1_rounds_112 rfl (lv_at hl 0 rfl) ?_
        refine ro_callV (As := []) (rest := []) ⟨hx, hb, hml, hown, hts⟩ (kX1_missNow l D h cI cZ (uN (rN mst A u) (sN A + nI u)) M  (Inv.uN ((kp_N Kp_mst A u).2 hI) _) ) (cwV 0 hts gX1_rounds_X1_missNow rfl rfl rfl (by decide +kernel) ⟨Nat.le_of_ble_eq_true rfl, Nat.le_of_ble_eq_true rfl⟩) vB_bl (vB_at hP hK) (va_recv hK hP (ci := 1) (q0 := 0) rfl rfl) rfl hl.1 rfl (Nat.le_of_ble_eq_true rfl) dX1_rounds_113 ⟨Nat.zero_le _, Nat.zero_le _⟩ ?_
        exact hQ dX1_rounds_116 (by unfold aRm; rw [if_pos c_7, cl_nI (n := u) (by omega)]) (by unfold nRm; rw [if_pos c_7, cl_nI (n := u) (by omega)]; exact hP) hS
      | succ n14 ih14 =>
        intro r hi14 H locs hP hS ls hl
        have hD : va_D G (mw h cI cZ (uN (rN mst A r) (sN A + nI r)) M) := va_D.to hD rfl
        obtain ⟨B0, eB0⟩ : ∃ z : St, z = uN (rN mst A r) (sN A + nI r) := ⟨_, rfl⟩
        have hP : va_P D vwCl (mw h cI cZ B0 M) H := by rw [eB0]; exact hP
        have hD : va_D G (mw h cI cZ B0 M) := va_D.to hD rfl
        have hIB : Inv B0 := by rw [eB0]; exact Inv.uN ((kp_N Kp_mst A r).2 hI) _
        have hBK : sK B0 = sK A := by rw [eB0]; exact (kp_N Kp_mst A r).1.2.2.1
        have hBF : sF B0 = sF A := by rw [eB0]; exact (kp_N Kp_mst A r).1.1
        have hBT : sT B0 = sT A := by rw [eB0]; exact (kp_N Kp_mst A r).1.2.1
        refine lv_iload_n hx hb dX1_rounds_14 rfl (lv_at hl 2 rfl) ?_
        refine lv_iload_n hx hb dX1_rounds_15 rfl (lv_at hl 1 rfl) ?_
        refine n_icmp_ge (tgt := 112) hx hb (by omega) (by omega) dX1_rounds_16 (by decide) (fun c_16 => by exfalso; omega) (fun c_16 => ?_)
        refine lv_iconst (v := nI 0) hx hb dX1_rounds_19 (by decide) ?_
        refine lv_istore_n (lv' := [(3, .int (nI 0)), (0, .ref (h 0)), (1, .int (nI u)), (2, .int (nI r))]) hx hb dX1_rounds_20 rfl hl (by decide) rfl (fun ls hl => ?_)
        have lp21 : ∀ (n21 k : Nat), k + n21 = sK A → ∀ (H : Heap) (locs : List Loc), va_P D vwCl (mw h cI cZ (rK mst B0 k) M) H → va_S G s.heap H locs → ∀ (ls : Array Slot), lv_has ls 5 [(0, .ref (h 0)), (1, .int (nI u)), (2, .int (nI r)), (3, .int (nI k))] → W p l e rmX1_rounds s m args below meth c H locs 0 0 Q (F0 m 21 ls []) := by
          intro n21
          induction n21 with
          | zero =>
            intro k hi21 H locs hP hS ls hl
            obtain rfl : sK A = k := by omega
            have hD : va_D G (mw h cI cZ (rK mst B0 (sK A)) M) := va_D.to hD rfl
            refine lv_iload_n hx hb dX1_rounds_21 rfl (lv_at hl 3 rfl) ?_
            refine lv_aload_n hx hb dX1_rounds_22 rfl (lv_at hl 0 rfl) ?_
            refine va_get (D := D) (ci := 1) (v := .int (nI (sK (rK mst B0 (sK A))))) (C := RX1) (T := TX1) (N := 13) hx hb hts hin0 hown hK hP 0 rfl rfl 2 (by decide) (hts (.fieldLink RX1 43 "VoicePartsModel" "voices" "I") (by decide +kernel)) (fun _ h9 => h9) rfl dX1_rounds_23 ?_
            refine n_top (y := nI (sK A)) (by rw [(kp_K Kp_mst B0 _).1.2.2.1, hBK]) ?_
            refine n_icmp_ge (tgt := 96) hx hb (by omega) (by omega) dX1_rounds_26 (by decide) (fun c_26 => ?_) (fun c_26 => by exfalso; omega)
            refine lv_aload_n hx hb dX1_rounds_96 rfl (lv_at hl 0 rfl) ?_
            refine lv_dup hx hb dX1_rounds_97 rfl ?_
            refine va_get (D := D) (ci := 1) (v := .int (sN (rK mst B0 (sK A)))) (C := RX1) (T := TX1) (N := 13) hx hb hts hin0 hown hK hP 0 rfl rfl 8 (by decide) (hts (.fieldLink RX1 101 "VoicePartsModel" "roundsDone" "I") (by decide +kernel)) (fun _ h9 => h9) rfl dX1_rounds_98 ?_
            refine n_top (y := sN A + nI r) (by rw [(kp_K Kp_mst B0 _).1.2.2.2, eB0]; rfl) ?_
            refine lv_iconst (v := nI 1) hx hb dX1_rounds_101 (by decide) ?_
            refine lv_iadd hx hb dX1_rounds_102 ?_
            refine n_top (y := sN A + nI (r + 1)) (by rw [Int32.add_assoc, nI_add]) ?_
            refine va_put (D := D) (ci := 1) (v := .int (sN A + nI (r + 1))) (ty := .int) (C := RX1) (T := TX1) (N := 13) hx hb hts hin0 tyX1 tyX1_ok nmX1 hown hK hP hD hS 0 rfl rfl 8 (by decide) (hts (.fieldLink RX1 101 "VoicePartsModel" "roundsDone" "I") (by decide +kernel)) (fun _ h9 => h9) rfl (by decide +kernel) rfl rfl (Nat.le_of_ble_eq_true rfl) dX1_rounds_103 (fun H locs hP hD hS => ?_)
            obtain ⟨A1, eA1⟩ : ∃ z : St, z = uN (rK mst B0 (sK A)) (sN A + nI (r + 1)) := ⟨_, rfl⟩
            have hP : va_P D vwCl (mw h cI cZ A1 M) H := by rw [eA1]; exact hP
            have hD : va_D G (mw h cI cZ A1 M) := va_D.to hD rfl
            refine lv_iinc (v := nI (r + 1)) (lv' := [(2, .int (nI (r + 1))), (0, .ref (h 0)), (1, .int (nI u)), (3, .int (nI (sK A)))]) hx hb dX1_rounds_106 hl (k := 2) rfl (nI_inc _) (by decide) rfl (fun ls hl => ?_)
            refine lv_goto (tgt := 14) hx hb dX1_rounds_109 (by decide) ?_
            exact ih14 (r + 1) (by omega) H locs (by have z := hP; rw [eA1, eB0, rK_uN] at z; exact z) hS ls (lv_sub hl [1, 2, 0] rfl)
          | succ n21 ih21 =>
            intro k hi21 H locs hP hS ls hl
            have hD : va_D G (mw h cI cZ (rK mst B0 k) M) := va_D.to hD rfl
            refine lv_iload_n hx hb dX1_rounds_21 rfl (lv_at hl 3 rfl) ?_
            refine lv_aload_n hx hb dX1_rounds_22 rfl (lv_at hl 0 rfl) ?_
            refine va_get (D := D) (ci := 1) (v := .int (nI (sK (rK mst B0 k)))) (C := RX1) (T := TX1) (N := 13) hx hb hts hin0 hown hK hP 0 rfl rfl 2 (by decide) (hts (.fieldLink RX1 43 "VoicePartsModel" "voices" "I") (by decide +kernel)) (fun _ h9 => h9) rfl dX1_rounds_23 ?_
            refine n_top (y := nI (sK A)) (by rw [(kp_K Kp_mst B0 _).1.2.2.1, hBK]) ?_
            refine n_icmp_ge (tgt := 96) hx hb (by omega) (by omega) dX1_rounds_26 (by decide) (fun c_26 => by exfalso; omega) (fun c_26 => ?_)
            have hkF : sF (rK mst B0 k) ≤ 6 := by rw [(kp_K Kp_mst B0 k).1.1, hBF]; exact hF.2
            have hkT : sT (rK mst B0 k) ≤ 8 := by rw [(kp_K Kp_mst B0 k).1.2.1, hBT]; exact hT.2
            refine lv_iconst (v := nI 0) hx hb dX1_rounds_29 (by decide) ?_
            refine lv_istore (lv' := [(4, .int (nI 0)), (0, .ref (h 0)), (1, .int (nI u)), (2, .int (nI r)), (3, .int (nI k))]) hx hb dX1_rounds_30 hl (by decide) rfl (fun ls hl => ?_)
            have lp32 : ∀ (n32 f : Nat), f + n32 = sF (rK mst B0 k) → ∀ (H : Heap) (locs : List Loc), va_P D vwCl (mw h cI cZ (rI mst (rK mst B0 k) k 0 f) M) H → va_S G s.heap H locs → ∀ (ls : Array Slot), lv_has ls 5 [(0, .ref (h 0)), (1, .int (nI u)), (2, .int (nI r)), (3, .int (nI k)), (4, .int (nI f))] → W p l e rmX1_rounds s m args below meth c H locs 0 0 Q (F0 m 32 ls []) := by
              intro n32
              induction n32 with
              | zero =>
                intro f hi32 H locs hP hS ls hl
                obtain rfl : sF (rK mst B0 k) = f := by omega
                have hD : va_D G (mw h cI cZ (rI mst (rK mst B0 k) k 0 (sF (rK mst B0 k))) M) := va_D.to hD rfl
                refine lv_iload hx hb dX1_rounds_32 (lv_at hl 4 rfl) ?_
                refine lv_aload_n hx hb dX1_rounds_34 rfl (lv_at hl 0 rfl) ?_
                refine va_get (D := D) (ci := 1) (v := .int (nI (sF (rI mst (rK mst B0 k) k 0 (sF (rK mst B0 k)))))) (C := RX1) (T := TX1) (N := 13) hx hb hts hin0 hown hK hP 0 rfl rfl 0 (by decide) (hts (.fieldLink RX1 36 "VoicePartsModel" "tones" "I") (by decide +kernel)) (fun _ h9 => h9) rfl dX1_rounds_35 ?_
                refine n_top (y := nI (sF (rK mst B0 k))) (by rw [(kp_I Kp_mst (rK mst B0 k) k 0 _).1.1]) ?_
                refine n_icmp_ge (tgt := 58) hx hb (by omega) (by omega) dX1_rounds_38 (by decide) (fun c_38 => ?_) (fun c_38 => by exfalso; omega)
                refine lv_iconst (v := nI 0) hx hb dX1_rounds_58 (by decide) ?_
                refine lv_istore (lv' := [(4, .int (nI 0)), (0, .ref (h 0)), (1, .int (nI u)), (2, .int (nI r)), (3, .int (nI k))]) hx hb dX1_rounds_59 hl (by decide) rfl (fun ls hl => ?_)
                have lp61 : ∀ (n61 t : Nat), t + n61 = sT (rK mst B0 k) → ∀ (H : Heap) (locs : List Loc), va_P D vwCl (mw h cI cZ (rI mst (rI mst (rK mst B0 k) k 0 (sF (rK mst B0 k))) k 1 t) M) H → va_S G s.heap H locs → ∀ (ls : Array Slot), lv_has ls 5 [(0, .ref (h 0)), (1, .int (nI u)), (2, .int (nI r)), (3, .int (nI k)), (4, .int (nI t))] → W p l e rmX1_rounds s m args below meth c H locs 0 0 Q (F0 m 61 ls []) := by
                  intro n61
                  induction n61 with
                  | zero =>
                    intro t hi61 H locs hP hS ls hl
                    obtain rfl : sT (rK mst B0 k) = t := by omega
                    have hD : va_D G (mw h cI cZ (rI mst (rI mst (rK mst B0 k) k 0 (sF (rK mst B0 k))) k 1 (sT (rK mst B0 k))) M) := va_D.to hD rfl
                    refine lv_iload hx hb dX1_rounds_61 (lv_at hl 4 rfl) ?_
                    refine lv_aload_n hx hb dX1_rounds_63 rfl (lv_at hl 0 rfl) ?_
                    refine va_get (D := D) (ci := 1) (v := .int (nI (sT (rI mst (rI mst (rK mst B0 k) k 0 (sF (rK mst B0 k))) k 1 (sT (rK mst B0 k)))))) (C := RX1) (T := TX1) (N := 13) hx hb hts hin0 hown hK hP 0 rfl rfl 1 (by decide) (hts (.fieldLink RX1 40 "VoicePartsModel" "times" "I") (by decide +kernel)) (fun _ h9 => h9) rfl dX1_rounds_64 ?_
                    refine n_top (y := nI (sT (rK mst B0 k))) (by rw [(kp_I Kp_mst _ k 1 _).1.2.1, (kp_I Kp_mst (rK mst B0 k) k 0 _).1.2.1]) ?_
                    refine n_icmp_ge (tgt := 90) hx hb (by omega) (by omega) dX1_rounds_67 (by decide) (fun c_67 => ?_) (fun c_67 => by exfalso; omega)
                    refine lv_iinc (v := nI (k + 1)) (lv' := [(3, .int (nI (k + 1))), (0, .ref (h 0)), (1, .int (nI u)), (2, .int (nI r)), (4, .int (nI (sT (rK mst B0 k))))]) hx hb dX1_rounds_90 hl (k := 3) rfl (nI_inc _) (by decide) rfl (fun ls hl => ?_)
                    refine lv_goto (tgt := 21) hx hb dX1_rounds_93 (by decide) ?_
                    exact ih21 (k + 1) (by omega) H locs (hP) hS ls (lv_sub hl [1, 2, 3, 0] rfl)
                  | succ n61 ih61 =>
                    intro t hi61 H locs hP hS ls hl
                    have hD : va_D G (mw h cI cZ (rI mst (rI mst (rK mst B0 k) k 0 (sF (rK mst B0 k))) k 1 t) M) := va_D.to hD rfl
                    refine lv_iload hx hb dX1_rounds_61 (lv_at hl 4 rfl) ?_
                    refine lv_aload_n hx hb dX1_rounds_63 rfl (lv_at hl 0 rfl) ?_
                    refine va_get (D := D) (ci := 1) (v := .int (nI (sT (rI mst (rI mst (rK mst B0 k) k 0 (sF (rK mst B0 k))) k 1 t)))) (C := RX1) (T := TX1) (N := 13) hx hb hts hin0 hown hK hP 0 rfl rfl 1 (by decide) (hts (.fieldLink RX1 40 "VoicePartsModel" "times" "I") (by decide +kernel)) (fun _ h9 => h9) rfl dX1_rounds_64 ?_
                    refine n_top (y := nI (sT (rK mst B0 k))) (by rw [(kp_I Kp_mst _ k 1 _).1.2.1, (kp_I Kp_mst (rK mst B0 k) k 0 _).1.2.1]) ?_
                    refine n_icmp_ge (tgt := 90) hx hb (by omega) (by omega) dX1_rounds_67 (by decide) (fun c_67 => by exfalso; omega) (fun c_67 => ?_)
                    refine lv_aload_n hx hb dX1_rounds_70 rfl (lv_at hl 0 rfl) ?_
                    refine lv_bipush (v := nI 16) hx hb dX1_rounds_71 (by decide) ?_
                    refine lv_iload_n hx hb dX1_rounds_73 rfl (lv_at hl 3 rfl) ?_
                    refine n_imulc hx hb dX1_rounds_74 ?_
                    refine lv_bipush (v := nI 6) hx hb dX1_rounds_75 (by decide) ?_
                    refine n_iadd hx hb dX1_rounds_77 ?_
                    refine lv_iload hx hb dX1_rounds_78 (lv_at hl 4 rfl) ?_
                    refine n_iadd hx hb dX1_rounds_80 ?_
                    refine n_top (y := nI (k * 16 + (6 + t))) (by rw [Nat.add_assoc]) ?_
                    refine mu_callV (As := [.int (nI (k * 16 + (6 + t)))]) (rest := []) ⟨hx, hb, hml, hown, hts⟩ (kX1_better l D h cI cZ (rI mst (rI mst (rK mst B0 k) k 0 (sF (rK mst B0 k))) k 1 t) M ((kp_I Kp_mst (rI mst (rK mst B0 k) k 0 (sF (rK mst B0 k))) k 1 t).2 ((kp_I Kp_mst (rK mst B0 k) k 0 _).2 ((kp_K Kp_mst B0 k).2 hIB))) k 1 t (by omega) (by decide) (show t < 8 by omega)) (cwV 1 hts gX1_rounds_X1_better rfl rfl rfl (by decide +kernel) ⟨Nat.le_of_ble_eq_true rfl, Nat.le_of_ble_eq_true rfl⟩) hP hK hD hS (va_recv hK hP (ci := 1) (q0 := 0) rfl rfl) rfl hl.1 rfl (Nat.le_of_ble_eq_true rfl) dX1_rounds_81 ⟨Nat.zero_le _, Nat.zero_le _⟩ (fun H locs hP hS _ => ?_)
                    have hD : va_D G (mw h cI cZ (mst (rI mst (rI mst (rK mst B0 k) k 0 (sF (rK mst B0 k))) k 1 t) k 1 t) M) := va_D.to hD rfl
                    refine W.eq (g2 := F0 m 84 ls []) rfl ?_
                    refine lv_iinc (v := nI (t + 1)) (lv' := [(4, .int (nI (t + 1))), (0, .ref (h 0)), (1, .int (nI u)), (2, .int (nI r)), (3, .int (nI k))]) hx hb dX1_rounds_84 hl (k := 4) rfl (nI_inc _) (by decide) rfl (fun ls hl => ?_)
                    refine lv_goto (tgt := 61) hx hb dX1_rounds_87 (by decide) ?_
                    exact ih61 (t + 1) (by omega) H locs (hP) hS ls (lv_sub hl [1, 2, 3, 4, 0] rfl)
                exact lp61 (sT (rK mst B0 k)) (0) (by omega) H locs (hP) hS ls (lv_sub hl [1, 2, 3, 4, 0] rfl)
              | succ n32 ih32 =>
                intro f hi32 H locs hP hS ls hl
                have hD : va_D G (mw h cI cZ (rI mst (rK mst B0 k) k 0 f) M) := va_D.to hD rfl
                refine lv_iload hx hb dX1_rounds_32 (lv_at hl 4 rfl) ?_
                refine lv_aload_n hx hb dX1_rounds_34 rfl (lv_at hl 0 rfl) ?_
                refine va_get (D := D) (ci := 1) (v := .int (nI (sF (rI mst (rK mst B0 k) k 0 f)))) (C := RX1) (T := TX1) (N := 13) hx hb hts hin0 hown hK hP 0 rfl rfl 0 (by decide) (hts (.fieldLink RX1 36 "VoicePartsModel" "tones" "I") (by decide +kernel)) (fun _ h9 => h9) rfl dX1_rounds_35 ?_
                refine n_top (y := nI (sF (rK mst B0 k))) (by rw [(kp_I Kp_mst (rK mst B0 k) k 0 _).1.1]) ?_
                refine n_icmp_ge (tgt := 58) hx hb (by omega) (by omega) dX1_rounds_38 (by decide) (fun c_38 => by exfalso; omega) (fun c_38 => ?_)
                refine lv_aload_n hx hb dX1_rounds_41 rfl (lv_at hl 0 rfl) ?_
                refine lv_bipush (v := nI 16) hx hb dX1_rounds_42 (by decide) ?_
                refine lv_iload_n hx hb dX1_rounds_44 rfl (lv_at hl 3 rfl) ?_
                refine n_imulc hx hb dX1_rounds_45 ?_
                refine lv_iload hx hb dX1_rounds_46 (lv_at hl 4 rfl) ?_
                refine n_iadd hx hb dX1_rounds_48 ?_
                refine mu_callV (As := [.int (nI (k * 16 + f))]) (rest := []) ⟨hx, hb, hml, hown, hts⟩ (kX1_better l D h cI cZ (rI mst (rK mst B0 k) k 0 f) M ((kp_I Kp_mst (rK mst B0 k) k 0 f).2 ((kp_K Kp_mst B0 k).2 hIB)) k 0 f (by omega) (by decide) (show f < 6 by omega)) (cwV 1 hts gX1_rounds_X1_better rfl rfl rfl (by decide +kernel) ⟨Nat.le_of_ble_eq_true rfl, Nat.le_of_ble_eq_true rfl⟩) hP hK hD hS (va_recv hK hP (ci := 1) (q0 := 0) rfl rfl) rfl hl.1 rfl (Nat.le_of_ble_eq_true rfl) dX1_rounds_49 ⟨Nat.zero_le _, Nat.zero_le _⟩ (fun H locs hP hS _ => ?_)
                have hD : va_D G (mw h cI cZ (mst (rI mst (rK mst B0 k) k 0 f) k 0 f) M) := va_D.to hD rfl
                refine W.eq (g2 := F0 m 52 ls []) rfl ?_
                refine lv_iinc (v := nI (f + 1)) (lv' := [(4, .int (nI (f + 1))), (0, .ref (h 0)), (1, .int (nI u)), (2, .int (nI r)), (3, .int (nI k))]) hx hb dX1_rounds_52 hl (k := 4) rfl (nI_inc _) (by decide) rfl (fun ls hl => ?_)
                refine lv_goto (tgt := 32) hx hb dX1_rounds_55 (by decide) ?_
                exact ih32 (f + 1) (by omega) H locs (hP) hS ls (lv_sub hl [1, 2, 3, 4, 0] rfl)
            exact lp32 (sF (rK mst B0 k)) (0) (by omega) H locs (hP) hS ls (lv_sub hl [1, 2, 3, 4, 0] rfl)
        exact lp21 (sK A) (0) (by omega) H locs (hP) hS ls (lv_sub hl [1, 2, 3, 0] rfl)
    exact lp14 (u) (0) (by omega) H locs (by rw [show sN A + nI 0 = sN A from Int32.add_zero _]; exact hP) hS ls (lv_sub hl [1, 2, 0] rfl)
  · refine lv_iconst (v := (-1)) hx hb dX1_rounds_10 (by decide) ?_
    exact hQ dX1_rounds_11 (by unfold aRm; rw [if_neg c_7]) (by unfold nRm; rw [if_neg c_7]; exact hP) hS
def rmX1_later : Room := { frames := 2, cells := 0, slots := 0, locals := 45 }
set_option maxHeartbeats 4000000 in
set_option maxRecDepth 100000 in
/-- later -/
theorem kX1_later (l : Launch) (D : va_G) (h : Nat → Nat) (cI cZ : ClassId) (A : St) (M : Nat → Int32) (hI : Inv A) : RO l yX1_later wsX1_later rmX1_later [.ref (h 0)] (vB D (mw h cI cZ A M) [(cI, .int), (cZ, .boolean)]) (aLm A) := by
  refine ro_ofW (cc := cX1_later) (maxL := 3) (by decide) rfl (Nat.le_of_ble_eq_true rfl) ?_
  intro p e s m below meth c args Q hx hb hml hown hts hB hQ ls hl
  have hown : s.vm.findClass RX1 = some m.cls := hown
  obtain ⟨hP, hK⟩ := hB
  have hin0 : ∀ w ∈ u_ws RX1 TX1 13, w ∈ wsX1_later := fun _ h => List.mem_cons_of_mem _ (List.mem_append_right _ h)
  have hl : lv_has ls 3 [(0, .ref (h 0))] := hl
  have hF := hI.F
  have hT := hI.T
  have hK3 := hI.K
  have hJ := hI.J
  have hZ := hI.Z
  refine lv_aload_n hx hb dX1_later_0 rfl (lv_at hl 0 rfl) ?_
  refine va_get (D := D) (ci := 1) (v := .ref (h 5)) (C := RX1) (T := TX1) (N := 13) hx hb hts hin0 hown hK hP 0 rfl rfl 9 (by decide) (hts (.fieldLink RX1 23 "VoicePartsModel" "heard" "[I") (by decide +kernel)) (fun _ h9 => h9) rfl dX1_later_1 ?_
  refine lv_iconst (v := nI 0) hx hb dX1_later_4 (by decide) ?_
  refine n_iald hx hb hK hP 5 0 rfl rfl (by omega) (by decide) dX1_later_5 ?_
  refine n_if_eq (tgt := 18) hx hb (by omega) dX1_later_6 (by decide) (fun c_6 => ?_) (fun c_6 => ?_)
  · refine lv_bipush (v := (-9)) hx hb dX1_later_18 (by decide) ?_
    exact hQ dX1_later_20 (by unfold aLm; rw [if_pos (Or.inl c_6)])
  · refine lv_aload_n hx hb dX1_later_9 rfl (lv_at hl 0 rfl) ?_
    refine va_get (D := D) (ci := 1) (v := .ref (h 5)) (C := RX1) (T := TX1) (N := 13) hx hb hts hin0 hown hK hP 0 rfl rfl 9 (by decide) (hts (.fieldLink RX1 23 "VoicePartsModel" "heard" "[I") (by decide +kernel)) (fun _ h9 => h9) rfl dX1_later_10 ?_
    refine lv_iconst (v := nI 1) hx hb dX1_later_13 (by decide) ?_
    refine n_iald hx hb hK hP 5 0 rfl rfl (by omega) (by decide) dX1_later_14 ?_
    refine n_if_ne (tgt := 21) hx hb (by omega) dX1_later_15 (by decide) (fun c_15 => ?_) (fun c_15 => ?_)
    · refine lv_iconst (v := nI 0) hx hb dX1_later_21 (by decide) ?_
      refine lv_istore_n (lv' := [(1, .int (nI 0)), (0, .ref (h 0))]) hx hb dX1_later_22 rfl hl (by decide) rfl (fun ls hl => ?_)
      refine lv_iconst (v := nI 1) hx hb dX1_later_23 (by decide) ?_
      refine lv_istore_n (lv' := [(2, .int (nI 1)), (1, .int (nI 0)), (0, .ref (h 0))]) hx hb dX1_later_24 rfl hl (by decide) rfl (fun ls hl => ?_)
      have lp25 : ∀ (n25 i : Nat), i + n25 = 7 → ∀ (ls : Array Slot), lv_has ls 3 [(0, .ref (h 0)), (1, .int (mlb A i)), (2, .int (nI (i + 1)))] → W p l e rmX1_later s m args below meth c s.heap [] 0 0 Q (F0 m 25 ls []) := by
        intro n25
        induction n25 with
        | zero =>
          intro i hi25 ls hl
          obtain rfl : 7 = i := by omega
          refine lv_iload_n hx hb dX1_later_25 rfl (lv_at hl 2 rfl) ?_
          refine lv_bipush (v := nI 8) hx hb dX1_later_26 (by decide) ?_
          refine n_icmp_ge (tgt := 77) hx hb (by omega) (by omega) dX1_later_28 (by decide) (fun c_28 => ?_) (fun c_28 => by exfalso; omega)
          refine lv_iload_n hx hb dX1_later_77 rfl (lv_at hl 1 rfl) ?_
          exact hQ dX1_later_78 (by unfold aLm; rw [if_neg (fun q => q.elim c_6 c_15)])
        | succ n25 ih25 =>
          intro i hi25 ls hl
          refine lv_iload_n hx hb dX1_later_25 rfl (lv_at hl 2 rfl) ?_
          refine lv_bipush (v := nI 8) hx hb dX1_later_26 (by decide) ?_
          refine n_icmp_ge (tgt := 77) hx hb (by omega) (by omega) dX1_later_28 (by decide) (fun c_28 => by exfalso; omega) (fun c_28 => ?_)
          refine lv_aload_n hx hb dX1_later_31 rfl (lv_at hl 0 rfl) ?_
          refine lv_iload_n hx hb dX1_later_32 rfl (lv_at hl 2 rfl) ?_
          refine lv_ineg hx hb dX1_later_33 ?_
          refine ro_callV (As := [.int (-(nI (i + 1)))]) (rest := []) ⟨hx, hb, hml, hown, hts⟩ (kX1_productBy l D h cI cZ A M hI (-(nI (i + 1))) (by omega)) (cwV 1 hts gX1_later_X1_productBy rfl rfl rfl (by decide +kernel) ⟨Nat.le_of_ble_eq_true rfl, Nat.le_of_ble_eq_true rfl⟩) vB_bl (vB_at hP hK) (va_recv hK hP (ci := 1) (q0 := 0) rfl rfl) rfl hl.1 rfl (Nat.le_of_ble_eq_true rfl) dX1_later_34 ⟨Nat.zero_le _, Nat.zero_le _⟩ ?_
          refine lv_aload_n hx hb dX1_later_37 rfl (lv_at hl 0 rfl) ?_
          refine lv_iload_n hx hb dX1_later_38 rfl (lv_at hl 1 rfl) ?_
          refine ro_callV (As := [.int (mlb A i)]) (rest := [.int (fpd A (-(nI (i + 1))))]) ⟨hx, hb, hml, hown, hts⟩ (kX1_productBy l D h cI cZ A M hI (mlb A i) (by omega)) (cwV 1 hts gX1_later_X1_productBy rfl rfl rfl (by decide +kernel) ⟨Nat.le_of_ble_eq_true rfl, Nat.le_of_ble_eq_true rfl⟩) vB_bl (vB_at hP hK) (va_recv hK hP (ci := 1) (q0 := 0) rfl rfl) rfl hl.1 rfl (Nat.le_of_ble_eq_true rfl) dX1_later_39 ⟨Nat.zero_le _, Nat.zero_le _⟩ ?_
          refine lv_icmp_le (tgt := 50) hx hb dX1_later_42 (by decide) (fun c_42 => ?_) (fun c_42 => ?_)
          · refine lv_iload_n hx hb dX1_later_50 rfl (lv_at hl 1 rfl) ?_
            refine lv_istore_n (lv' := [(1, .int (mlb A i)), (0, .ref (h 0)), (2, .int (nI (i + 1)))]) hx hb dX1_later_51 rfl hl (by decide) rfl (fun ls hl => ?_)
            have hl : lv_has ls 3 [(1, .int (mls A (mlb A i) (i + 1))), (0, .ref (h 0)), (2, .int (nI (i + 1)))] := by rw [show mls A (mlb A i) (i + 1) = mlb A i from if_neg (Int32.not_lt.mpr c_42)]; exact hl
            refine lv_aload_n hx hb dX1_later_52 rfl (lv_at hl 1 rfl) ?_
            refine lv_iload_n hx hb dX1_later_53 rfl (lv_at hl 2 rfl) ?_
            refine ro_callV (As := [.int (nI (i + 1))]) (rest := []) ⟨hx, hb, hml, hown, hts⟩ (kX1_productBy l D h cI cZ A M hI (nI (i + 1)) (by omega)) (cwV 1 hts gX1_later_X1_productBy rfl rfl rfl (by decide +kernel) ⟨Nat.le_of_ble_eq_true rfl, Nat.le_of_ble_eq_true rfl⟩) vB_bl (vB_at hP hK) (va_recv hK hP (ci := 1) (q0 := 0) rfl rfl) rfl hl.1 rfl (Nat.le_of_ble_eq_true rfl) dX1_later_54 ⟨Nat.zero_le _, Nat.zero_le _⟩ ?_
            refine lv_aload_n hx hb dX1_later_57 rfl (lv_at hl 1 rfl) ?_
            refine lv_iload_n hx hb dX1_later_58 rfl (lv_at hl 0 rfl) ?_
            refine ro_callV (As := [.int (mls A (mlb A i) (i + 1))]) (rest := [.int (fpd A (nI (i + 1)))]) ⟨hx, hb, hml, hown, hts⟩ (kX1_productBy l D h cI cZ A M hI (mls A (mlb A i) (i + 1)) (by omega)) (cwV 1 hts gX1_later_X1_productBy rfl rfl rfl (by decide +kernel) ⟨Nat.le_of_ble_eq_true rfl, Nat.le_of_ble_eq_true rfl⟩) vB_bl (vB_at hP hK) (va_recv hK hP (ci := 1) (q0 := 0) rfl rfl) rfl hl.1 rfl (Nat.le_of_ble_eq_true rfl) dX1_later_59 ⟨Nat.zero_le _, Nat.zero_le _⟩ ?_
            refine lv_icmp_le (tgt := 69) hx hb dX1_later_62 (by decide) (fun c_62 => ?_) (fun c_62 => ?_)
            · refine lv_iload_n hx hb dX1_later_69 rfl (lv_at hl 0 rfl) ?_
              refine lv_istore_n (lv' := [(1, .int (mls A (mlb A i) (i + 1))), (0, .ref (h 0)), (2, .int (nI (i + 1)))]) hx hb dX1_later_70 rfl hl (by decide) rfl (fun ls hl => ?_)
              have hl : lv_has ls 3 [(1, .int (mlb A (i + 1))), (0, .ref (h 0)), (2, .int (nI (i + 1)))] := by rw [show mlb A (i + 1) = mls A (mlb A i) (i + 1) from if_neg (Int32.not_lt.mpr c_62)]; exact hl
              refine lv_iinc (v := nI (i + 1 + 1)) (lv' := [(2, .int (nI (i + 1 + 1))), (1, .int (mlb A (i + 1))), (0, .ref (h 0))]) hx hb dX1_later_71 hl (k := 2) rfl (nI_inc _) (by decide) rfl (fun ls hl => ?_)
              refine lv_goto (tgt := 25) hx hb dX1_later_74 (by decide) ?_
              exact ih25 (i + 1) (by omega) ls (lv_sub hl [2, 1, 0] rfl)
            · refine lv_iload_n hx hb dX1_later_65 rfl (lv_at hl 2 rfl) ?_
              refine lv_goto (tgt := 70) hx hb dX1_later_66 (by decide) ?_
              refine lv_istore_n (lv' := [(1, .int (nI (i + 1))), (0, .ref (h 0)), (2, .int (nI (i + 1)))]) hx hb dX1_later_70 rfl hl (by decide) rfl (fun ls hl => ?_)
              have hl : lv_has ls 3 [(1, .int (mlb A (i + 1))), (0, .ref (h 0)), (2, .int (nI (i + 1)))] := by rw [show mlb A (i + 1) = nI (i + 1) from if_pos (Int32.not_le.mp c_62)]; exact hl
              refine lv_iinc (v := nI (i + 1 + 1)) (lv' := [(2, .int (nI (i + 1 + 1))), (1, .int (mlb A (i + 1))), (0, .ref (h 0))]) hx hb dX1_later_71 hl (k := 2) rfl (nI_inc _) (by decide) rfl (fun ls hl => ?_)
              refine lv_goto (tgt := 25) hx hb dX1_later_74 (by decide) ?_
              exact ih25 (i + 1) (by omega) ls (lv_sub hl [2, 1, 0] rfl)
          · refine lv_iload_n hx hb dX1_later_45 rfl (lv_at hl 2 rfl) ?_
            refine lv_ineg hx hb dX1_later_46 ?_
            refine lv_goto (tgt := 51) hx hb dX1_later_47 (by decide) ?_
            refine lv_istore_n (lv' := [(1, .int (-(nI (i + 1)))), (0, .ref (h 0)), (2, .int (nI (i + 1)))]) hx hb dX1_later_51 rfl hl (by decide) rfl (fun ls hl => ?_)
            have hl : lv_has ls 3 [(1, .int (mls A (mlb A i) (i + 1))), (0, .ref (h 0)), (2, .int (nI (i + 1)))] := by rw [show mls A (mlb A i) (i + 1) = -(nI (i + 1)) from if_pos (Int32.not_le.mp c_42)]; exact hl
            refine lv_aload_n hx hb dX1_later_52 rfl (lv_at hl 1 rfl) ?_
            refine lv_iload_n hx hb dX1_later_53 rfl (lv_at hl 2 rfl) ?_
            refine ro_callV (As := [.int (nI (i + 1))]) (rest := []) ⟨hx, hb, hml, hown, hts⟩ (kX1_productBy l D h cI cZ A M hI (nI (i + 1)) (by omega)) (cwV 1 hts gX1_later_X1_productBy rfl rfl rfl (by decide +kernel) ⟨Nat.le_of_ble_eq_true rfl, Nat.le_of_ble_eq_true rfl⟩) vB_bl (vB_at hP hK) (va_recv hK hP (ci := 1) (q0 := 0) rfl rfl) rfl hl.1 rfl (Nat.le_of_ble_eq_true rfl) dX1_later_54 ⟨Nat.zero_le _, Nat.zero_le _⟩ ?_
            refine lv_aload_n hx hb dX1_later_57 rfl (lv_at hl 1 rfl) ?_
            refine lv_iload_n hx hb dX1_later_58 rfl (lv_at hl 0 rfl) ?_
            refine ro_callV (As := [.int (mls A (mlb A i) (i + 1))]) (rest := [.int (fpd A (nI (i + 1)))]) ⟨hx, hb, hml, hown, hts⟩ (kX1_productBy l D h cI cZ A M hI (mls A (mlb A i) (i + 1)) (by omega)) (cwV 1 hts gX1_later_X1_productBy rfl rfl rfl (by decide +kernel) ⟨Nat.le_of_ble_eq_true rfl, Nat.le_of_ble_eq_true rfl⟩) vB_bl (vB_at hP hK) (va_recv hK hP (ci := 1) (q0 := 0) rfl rfl) rfl hl.1 rfl (Nat.le_of_ble_eq_true rfl) dX1_later_59 ⟨Nat.zero_le _, Nat.zero_le _⟩ ?_
            refine lv_icmp_le (tgt := 69) hx hb dX1_later_62 (by decide) (fun c_62 => ?_) (fun c_62 => ?_)
            · refine lv_iload_n hx hb dX1_later_69 rfl (lv_at hl 0 rfl) ?_
              refine lv_istore_n (lv' := [(1, .int (mls A (mlb A i) (i + 1))), (0, .ref (h 0)), (2, .int (nI (i + 1)))]) hx hb dX1_later_70 rfl hl (by decide) rfl (fun ls hl => ?_)
              have hl : lv_has ls 3 [(1, .int (mlb A (i + 1))), (0, .ref (h 0)), (2, .int (nI (i + 1)))] := by rw [show mlb A (i + 1) = mls A (mlb A i) (i + 1) from if_neg (Int32.not_lt.mpr c_62)]; exact hl
              refine lv_iinc (v := nI (i + 1 + 1)) (lv' := [(2, .int (nI (i + 1 + 1))), (1, .int (mlb A (i + 1))), (0, .ref (h 0))]) hx hb dX1_later_71 hl (k := 2) rfl (nI_inc _) (by decide) rfl (fun ls hl => ?_)
              refine lv_goto (tgt := 25) hx hb dX1_later_74 (by decide) ?_
              exact ih25 (i + 1) (by omega) ls (lv_sub hl [2, 1, 0] rfl)
            · refine lv_iload_n hx hb dX1_later_65 rfl (lv_at hl 2 rfl) ?_
              refine lv_goto (tgt := 70) hx hb dX1_later_66 (by decide) ?_
              refine lv_istore_n (lv' := [(1, .int (nI (i + 1))), (0, .ref (h 0)), (2, .int (nI (i + 1)))]) hx hb dX1_later_70 rfl hl (by decide) rfl (fun ls hl => ?_)
              have hl : lv_has ls 3 [(1, .int (mlb A (i + 1))), (0, .ref (h 0)), (2, .int (nI (i + 1)))] := by rw [show mlb A (i + 1) = nI (i + 1) from if_pos (Int32.not_le.mp c_62)]; exact hl
              refine lv_iinc (v := nI (i + 1 + 1)) (lv' := [(2, .int (nI (i + 1 + 1))), (1, .int (mlb A (i + 1))), (0, .ref (h 0))]) hx hb dX1_later_71 hl (k := 2) rfl (nI_inc _) (by decide) rfl (fun ls hl => ?_)
              refine lv_goto (tgt := 25) hx hb dX1_later_74 (by decide) ?_
              exact ih25 (i + 1) (by omega) ls (lv_sub hl [2, 1, 0] rfl)
      exact lp25 (7) (0) (by omega) ls (lv_sub hl [2, 1, 0] rfl)
    · refine lv_bipush (v := (-9)) hx hb dX1_later_18 (by decide) ?_
      exact hQ dX1_later_20 (by unfold aLm; rw [if_pos (Or.inr c_15)])
def rmX1_turned : Room := { frames := 1, cells := 0, slots := 0, locals := 22 }
set_option maxHeartbeats 4000000 in
set_option maxRecDepth 100000 in
/-- turned -/
theorem kX1_turned (l : Launch) (D : va_G) (h : Nat → Nat) (cI cZ : ClassId) (A : St) (M : Nat → Int32) (hI : Inv A) (x u : Int32) : RO l yX1_turned wsX1_turned rmX1_turned [.ref (h 0), .int x, .int u] (vB D (mw h cI cZ A M) [(cI, .int), (cZ, .boolean)]) (aTm A x u) := by
  refine ro_ofW (cc := cX1_turned) (maxL := 7) (by decide) rfl (Nat.le_of_ble_eq_true rfl) ?_
  intro p e s m below meth c args Q hx hb hml hown hts hB hQ ls hl
  have hown : s.vm.findClass RX1 = some m.cls := hown
  obtain ⟨hP, hK⟩ := hB
  have hin0 : ∀ w ∈ u_ws RX1 TX1 13, w ∈ wsX1_turned := fun _ h => List.mem_cons_of_mem _ (List.mem_append_right _ h)
  have hl : lv_has ls 7 [(0, .ref (h 0)), (1, .int x), (2, .int u)] := hl
  have hF := hI.F
  have hT := hI.T
  have hK3 := hI.K
  have hJ := hI.J
  have hZ := hI.Z
  refine lv_iload_n hx hb dX1_turned_0 rfl (lv_at hl 1 rfl) ?_
  refine lv_iconst (v := nI 0) hx hb dX1_turned_1 (by decide) ?_
  refine lv_bipush (v := nI 7) hx hb dX1_turned_2 (by decide) ?_
  refine ro_callS (As := [.int x, .int (nI 0), .int (nI 7)]) (rest := []) ⟨hx, hb, hml, hown, hts⟩ (kX1_in l (x) (nI 0) (nI 7)) (va_cwS 3 hts gX1_turned_X1_in rfl rfl rfl (by decide +kernel) ⟨Nat.le_of_ble_eq_true rfl, Nat.le_of_ble_eq_true rfl⟩) vT_bl vT_at rfl hl.1 rfl (Nat.le_of_ble_eq_true rfl) dX1_turned_4 ⟨Nat.zero_le _, Nat.zero_le _⟩ ?_
  refine b_if_eq (tgt := 19) hx hb dX1_turned_7 (by decide) (fun c_7 => ?_) (fun c_7 => ?_)
  · refine lv_ldc (v := (-1000000)) hx hb hown (hts (.constant RX1 110 (-1000000)) (by decide +kernel)) dX1_turned_19 ?_
    exact hQ dX1_turned_21 (by unfold aTm; rw [if_neg (fun q => c_7 q.1)])
  · refine lv_iload_n hx hb dX1_turned_10 rfl (lv_at hl 2 rfl) ?_
    refine lv_iconst (v := nI 0) hx hb dX1_turned_11 (by decide) ?_
    refine lv_iconst (v := nI 1) hx hb dX1_turned_12 (by decide) ?_
    refine ro_callS (As := [.int u, .int (nI 0), .int (nI 1)]) (rest := []) ⟨hx, hb, hml, hown, hts⟩ (kX1_in l (u) (nI 0) (nI 1)) (va_cwS 3 hts gX1_turned_X1_in rfl rfl rfl (by decide +kernel) ⟨Nat.le_of_ble_eq_true rfl, Nat.le_of_ble_eq_true rfl⟩) vT_bl vT_at rfl hl.1 rfl (Nat.le_of_ble_eq_true rfl) dX1_turned_13 ⟨Nat.zero_le _, Nat.zero_le _⟩ ?_
    refine b_if_ne (tgt := 22) hx hb dX1_turned_16 (by decide) (fun c_16 => ?_) (fun c_16 => ?_)
    · obtain ⟨k, hk, rfl⟩ := iN_of (n := 8) c_7 (by decide) (by decide)
      obtain ⟨g, hg, rfl⟩ := iN_of (n := 2) c_16 (by decide) (by decide)
      refine lv_iload_n hx hb dX1_turned_22 rfl (lv_at hl 2 rfl) ?_
      refine lv_iconst (v := nI 1) hx hb dX1_turned_23 (by decide) ?_
      refine n_icmp_ne (tgt := 33) hx hb (by omega) (by omega) dX1_turned_24 (by decide) (fun c_24 => ?_) (fun c_24 => ?_)
      · refine lv_iconst (v := nI 0) hx hb dX1_turned_33 (by decide) ?_
        refine lv_istore_n (lv' := [(3, .int (nI 0)), (0, .ref (h 0)), (1, .int (nI k)), (2, .int (nI g))]) hx hb dX1_turned_34 rfl hl (by decide) rfl (fun ls hl => ?_)
        refine lv_iconst (v := nI 0) hx hb dX1_turned_35 (by decide) ?_
        refine lv_istore (lv' := [(4, .int (nI 0)), (3, .int (nI 0)), (0, .ref (h 0)), (1, .int (nI k)), (2, .int (nI g))]) hx hb dX1_turned_36 hl (by decide) rfl (fun ls hl => ?_)
        have lp38 : ∀ (n38 i : Nat), i + n38 = 8 → ∀ (ls : Array Slot), lv_has ls 7 [(0, .ref (h 0)), (1, .int (nI k)), (2, .int (nI g)), (3, .int (l_sum (mtt A k) i)), (4, .int (nI i))] → W p l e rmX1_turned s m args below meth c s.heap [] 0 0 Q (F0 m 38 ls []) := by
          intro n38
          induction n38 with
          | zero =>
            intro i hi38 ls hl
            obtain rfl : 8 = i := by omega
            refine lv_iload hx hb dX1_turned_38 (lv_at hl 4 rfl) ?_
            refine lv_bipush (v := nI 8) hx hb dX1_turned_40 (by decide) ?_
            refine n_icmp_ge (tgt := 106) hx hb (by omega) (by omega) dX1_turned_42 (by decide) (fun c_42 => ?_) (fun c_42 => by exfalso; omega)
            refine lv_iload_n hx hb dX1_turned_106 rfl (lv_at hl 3 rfl) ?_
            exact hQ dX1_turned_107 (by unfold aTm; rw [if_pos ⟨c_7, c_16⟩, cl_nI (n := k) (by omega), cl_nI (n := g) (by omega), if_pos (by omega)]; rfl)
          | succ n38 ih38 =>
            intro i hi38 ls hl
            refine lv_iload hx hb dX1_turned_38 (lv_at hl 4 rfl) ?_
            refine lv_bipush (v := nI 8) hx hb dX1_turned_40 (by decide) ?_
            refine n_icmp_ge (tgt := 106) hx hb (by omega) (by omega) dX1_turned_42 (by decide) (fun c_42 => by exfalso; omega) (fun c_42 => ?_)
            refine lv_iload_n hx hb dX1_turned_45 rfl (lv_at hl 1 rfl) ?_
            refine lv_iload hx hb dX1_turned_46 (lv_at hl 4 rfl) ?_
            refine lv_iand hx hb dX1_turned_48 ?_
            refine n_top (y := nI (k &&& i)) (nI_and8 hk (by omega)) ?_
            refine lv_istore (lv' := [(5, .int (nI (k &&& i))), (0, .ref (h 0)), (1, .int (nI k)), (2, .int (nI g)), (3, .int (l_sum (mtt A k) i)), (4, .int (nI i))]) hx hb dX1_turned_49 hl (by decide) rfl (fun ls hl => ?_)
            refine lv_iload hx hb dX1_turned_51 (lv_at hl 0 rfl) ?_
            refine lv_iload hx hb dX1_turned_53 (lv_at hl 0 rfl) ?_
            refine lv_iconst (v := nI 1) hx hb dX1_turned_55 (by decide) ?_
            refine lv_ishr hx hb dX1_turned_56 ?_
            refine lv_ixor hx hb dX1_turned_57 ?_
            refine lv_iload hx hb dX1_turned_58 (lv_at hl 0 rfl) ?_
            refine lv_iconst (v := nI 2) hx hb dX1_turned_60 (by decide) ?_
            refine lv_ishr hx hb dX1_turned_61 ?_
            refine lv_ixor hx hb dX1_turned_62 ?_
            refine lv_iconst (v := nI 1) hx hb dX1_turned_63 (by decide) ?_
            refine lv_iand hx hb dX1_turned_64 ?_
            refine n_top (y := nI (pc3 (k &&& i) % 2)) (co_dec (N := 8) (P := fun n => (((nI n) ^^^ ((nI n) >>> ((nI 1) &&& 31))) ^^^ ((nI n) >>> ((nI 2) &&& 31))) &&& (nI 1) = nI (pc3 n % 2)) (by decide +kernel) (and8 hk)) ?_
            refine lv_iconst (v := nI 1) hx hb dX1_turned_65 (by decide) ?_
            refine n_icmp_ne (tgt := 73) hx hb (by omega) (by omega) dX1_turned_66 (by decide) (fun c_66 => ?_) (fun c_66 => ?_)
            · refine lv_iconst (v := nI 0) hx hb dX1_turned_73 (by decide) ?_
              refine lv_istore (lv' := [(6, .int (nI 0)), (5, .int (nI (k &&& i))), (0, .ref (h 0)), (1, .int (nI k)), (2, .int (nI g)), (3, .int (l_sum (mtt A k) i)), (4, .int (nI i))]) hx hb dX1_turned_74 hl (by decide) rfl (fun ls hl => ?_)
              refine lv_iload_n hx hb dX1_turned_76 rfl (lv_at hl 5 rfl) ?_
              refine lv_iload hx hb dX1_turned_77 (lv_at hl 0 rfl) ?_
              refine n_if_eq (tgt := 92) hx hb (by omega) dX1_turned_79 (by decide) (fun c_79 => ?_) (fun c_79 => by exfalso; omega)
              refine lv_aload_n hx hb dX1_turned_92 rfl (lv_at hl 2 rfl) ?_
              refine lv_iload hx hb dX1_turned_93 (lv_at hl 6 rfl) ?_
              refine ro_callV (As := [.int (nI i)]) (rest := [.int (l_sum (mtt A k) i)]) ⟨hx, hb, hml, hown, hts⟩ (kX1_numberAt l D h cI cZ A M  hI (i) (by omega)) (cwV 1 hts gX1_turned_X1_numberAt rfl rfl rfl (by decide +kernel) ⟨Nat.le_of_ble_eq_true rfl, Nat.le_of_ble_eq_true rfl⟩) vB_bl (vB_at hP hK) (va_recv hK hP (ci := 1) (q0 := 0) rfl rfl) rfl hl.1 rfl (Nat.le_of_ble_eq_true rfl) dX1_turned_95 ⟨Nat.zero_le _, Nat.zero_le _⟩ ?_
              refine lv_iadd hx hb dX1_turned_98 ?_
              refine n_top (y := l_sum (mtt A k) (i + 1)) (by rw [l_sum_s, show mtt A k i = ffr A i from if_neg c_66]) ?_
              refine lv_istore_n (lv' := [(3, .int (l_sum (mtt A k) (i + 1))), (6, .int (nI 0)), (5, .int (nI (k &&& i))), (0, .ref (h 0)), (1, .int (nI k)), (2, .int (nI g)), (4, .int (nI i))]) hx hb dX1_turned_99 rfl hl (by decide) rfl (fun ls hl => ?_)
              refine lv_iinc (v := nI (i + 1)) (lv' := [(4, .int (nI (i + 1))), (3, .int (l_sum (mtt A k) (i + 1))), (6, .int (nI 0)), (5, .int (nI (k &&& i))), (0, .ref (h 0)), (1, .int (nI k)), (2, .int (nI g))]) hx hb dX1_turned_100 hl (k := 6) rfl (nI_inc _) (by decide) rfl (fun ls hl => ?_)
              refine lv_goto (tgt := 38) hx hb dX1_turned_103 (by decide) ?_
              exact ih38 (i + 1) (by omega) ls (lv_sub hl [4, 5, 6, 1, 0] rfl)
            · refine lv_iconst (v := nI 1) hx hb dX1_turned_69 (by decide) ?_
              refine lv_goto (tgt := 74) hx hb dX1_turned_70 (by decide) ?_
              refine lv_istore (lv' := [(6, .int (nI 1)), (5, .int (nI (k &&& i))), (0, .ref (h 0)), (1, .int (nI k)), (2, .int (nI g)), (3, .int (l_sum (mtt A k) i)), (4, .int (nI i))]) hx hb dX1_turned_74 hl (by decide) rfl (fun ls hl => ?_)
              refine lv_iload_n hx hb dX1_turned_76 rfl (lv_at hl 5 rfl) ?_
              refine lv_iload hx hb dX1_turned_77 (lv_at hl 0 rfl) ?_
              refine n_if_eq (tgt := 92) hx hb (by omega) dX1_turned_79 (by decide) (fun c_79 => by exfalso; omega) (fun c_79 => ?_)
              refine lv_aload_n hx hb dX1_turned_82 rfl (lv_at hl 2 rfl) ?_
              refine lv_iload hx hb dX1_turned_83 (lv_at hl 6 rfl) ?_
              refine ro_callV (As := [.int (nI i)]) (rest := [.int (l_sum (mtt A k) i)]) ⟨hx, hb, hml, hown, hts⟩ (kX1_numberAt l D h cI cZ A M  hI (i) (by omega)) (cwV 1 hts gX1_turned_X1_numberAt rfl rfl rfl (by decide +kernel) ⟨Nat.le_of_ble_eq_true rfl, Nat.le_of_ble_eq_true rfl⟩) vB_bl (vB_at hP hK) (va_recv hK hP (ci := 1) (q0 := 0) rfl rfl) rfl hl.1 rfl (Nat.le_of_ble_eq_true rfl) dX1_turned_85 ⟨Nat.zero_le _, Nat.zero_le _⟩ ?_
              refine lv_ineg hx hb dX1_turned_88 ?_
              refine lv_goto (tgt := 98) hx hb dX1_turned_89 (by decide) ?_
              refine lv_iadd hx hb dX1_turned_98 ?_
              refine n_top (y := l_sum (mtt A k) (i + 1)) (by rw [l_sum_s, show mtt A k i = -(ffr A i) from if_pos c_66]) ?_
              refine lv_istore_n (lv' := [(3, .int (l_sum (mtt A k) (i + 1))), (6, .int (nI 1)), (5, .int (nI (k &&& i))), (0, .ref (h 0)), (1, .int (nI k)), (2, .int (nI g)), (4, .int (nI i))]) hx hb dX1_turned_99 rfl hl (by decide) rfl (fun ls hl => ?_)
              refine lv_iinc (v := nI (i + 1)) (lv' := [(4, .int (nI (i + 1))), (3, .int (l_sum (mtt A k) (i + 1))), (6, .int (nI 1)), (5, .int (nI (k &&& i))), (0, .ref (h 0)), (1, .int (nI k)), (2, .int (nI g))]) hx hb dX1_turned_100 hl (k := 6) rfl (nI_inc _) (by decide) rfl (fun ls hl => ?_)
              refine lv_goto (tgt := 38) hx hb dX1_turned_103 (by decide) ?_
              exact ih38 (i + 1) (by omega) ls (lv_sub hl [4, 5, 6, 1, 0] rfl)
        exact lp38 (8) (0) (by omega) ls (lv_sub hl [2, 3, 4, 1, 0] rfl)
      · refine lv_aload_n hx hb dX1_turned_27 rfl (lv_at hl 0 rfl) ?_
        refine lv_iload_n hx hb dX1_turned_28 rfl (lv_at hl 1 rfl) ?_
        refine ro_callV (As := [.int (nI k)]) (rest := []) ⟨hx, hb, hml, hown, hts⟩ (kX1_numberAt l D h cI cZ A M  hI (k) (by omega)) (cwV 1 hts gX1_turned_X1_numberAt rfl rfl rfl (by decide +kernel) ⟨Nat.le_of_ble_eq_true rfl, Nat.le_of_ble_eq_true rfl⟩) vB_bl (vB_at hP hK) (va_recv hK hP (ci := 1) (q0 := 0) rfl rfl) rfl hl.1 rfl (Nat.le_of_ble_eq_true rfl) dX1_turned_29 ⟨Nat.zero_le _, Nat.zero_le _⟩ ?_
        exact hQ dX1_turned_32 (by unfold aTm; rw [if_pos ⟨c_7, c_16⟩, cl_nI (n := k) (by omega), cl_nI (n := g) (by omega), if_neg (by omega)])
    · refine lv_ldc (v := (-1000000)) hx hb hown (hts (.constant RX1 110 (-1000000)) (by decide +kernel)) dX1_turned_19 ?_
      exact hQ dX1_turned_21 (by unfold aTm; rw [if_neg (fun q => c_16 q.2)])
def rmX1_ofOrder : Room := { frames := 0, cells := 0, slots := 0, locals := 0 }
set_option maxHeartbeats 4000000 in
set_option maxRecDepth 100000 in
/-- ofOrder -/
theorem kX1_ofOrder (l : Launch) (D : va_G) (h : Nat → Nat) (cI cZ : ClassId) (A : St) (M : Nat → Int32) (hI : Inv A) (o k : Nat) (ho : o < fno (sK A)) (hv : k < sK A) : RO l yX1_ofOrder wsX1_ofOrder rmX1_ofOrder [.ref (h 0), .int (nI o), .int (nI k)] (vB D (mw h cI cZ A M) [(cI, .int), (cZ, .boolean)]) (nI (fvo (sK A) o k)) := by
  refine ro_ofW (cc := cX1_ofOrder) (maxL := 6) (by decide) rfl (Nat.le_of_ble_eq_true rfl) ?_
  intro p e s m below meth c args Q hx hb hml hown hts hB hQ ls hl
  have hown : s.vm.findClass RX1 = some m.cls := hown
  obtain ⟨hP, hK⟩ := hB
  have hin0 : ∀ w ∈ u_ws RX1 TX1 13, w ∈ wsX1_ofOrder := fun _ h => List.mem_cons_of_mem _ (List.mem_append_right _ h)
  have hl : lv_has ls 6 [(0, .ref (h 0)), (1, .int (nI o)), (2, .int (nI k))] := hl
  have hF := hI.F
  have hT := hI.T
  have hK3 := hI.K
  have hJ := hI.J
  have hZ := hI.Z
  refine lv_aload_n hx hb dX1_ofOrder_0 rfl (lv_at hl 0 rfl) ?_
  refine va_get (D := D) (ci := 1) (v := .int (nI (sK A))) (C := RX1) (T := TX1) (N := 13) hx hb hts hin0 hown hK hP 0 rfl rfl 2 (by decide) (hts (.fieldLink RX1 43 "VoicePartsModel" "voices" "I") (by decide +kernel)) (fun _ h9 => h9) rfl dX1_ofOrder_1 ?_
  refine lv_iconst (v := nI 3) hx hb dX1_ofOrder_4 (by decide) ?_
  refine n_icmp_ge (tgt := 26) hx hb (by omega) (by omega) dX1_ofOrder_5 (by decide) (fun c_5 => ?_) (fun c_5 => ?_)
  · have hk3 : sK A = 3 := by omega
    have ho6 : o < 6 := by rw [hk3] at ho; exact ho
    refine lv_iload_n hx hb dX1_ofOrder_26 rfl (lv_at hl 1 rfl) ?_
    refine lv_iconst (v := nI 2) hx hb dX1_ofOrder_27 (by decide) ?_
    refine lv_idiv hx hb dX1_ofOrder_28 (by decide) ?_
    refine n_top (y := nI (o / 2)) (pk_div (by omega) (by decide) (by decide)) ?_
    refine lv_istore_n (lv' := [(3, .int (nI (o / 2))), (0, .ref (h 0)), (1, .int (nI o)), (2, .int (nI k))]) hx hb dX1_ofOrder_29 rfl hl (by decide) rfl (fun ls hl => ?_)
    refine lv_iload_n hx hb dX1_ofOrder_30 rfl (lv_at hl 0 rfl) ?_
    refine n_if_ne (tgt := 38) hx hb (by omega) dX1_ofOrder_31 (by decide) (fun c_31 => ?_) (fun c_31 => ?_)
    · refine lv_iconst (v := nI 0) hx hb dX1_ofOrder_38 (by decide) ?_
      refine lv_istore (lv' := [(4, .int (nI 0)), (3, .int (nI (o / 2))), (0, .ref (h 0)), (1, .int (nI o)), (2, .int (nI k))]) hx hb dX1_ofOrder_39 hl (by decide) rfl (fun ls hl => ?_)
      refine lv_iload_n hx hb dX1_ofOrder_41 rfl (lv_at hl 1 rfl) ?_
      refine lv_iconst (v := nI 2) hx hb dX1_ofOrder_42 (by decide) ?_
      refine n_icmp_ne (tgt := 50) hx hb (by omega) (by omega) dX1_ofOrder_43 (by decide) (fun c_43 => ?_) (fun c_43 => ?_)
      · refine lv_iconst (v := nI 2) hx hb dX1_ofOrder_50 (by decide) ?_
        refine lv_istore (lv' := [(5, .int (nI 2)), (4, .int (nI 0)), (3, .int (nI (o / 2))), (0, .ref (h 0)), (1, .int (nI o)), (2, .int (nI k))]) hx hb dX1_ofOrder_51 hl (by decide) rfl (fun ls hl => ?_)
        refine lv_iload_n hx hb dX1_ofOrder_53 rfl (lv_at hl 5 rfl) ?_
        refine n_if_ne (tgt := 61) hx hb (by omega) dX1_ofOrder_54 (by decide) (fun c_54 => ?_) (fun c_54 => ?_)
        · refine lv_iload_n hx hb dX1_ofOrder_61 rfl (lv_at hl 5 rfl) ?_
          refine lv_iconst (v := nI 1) hx hb dX1_ofOrder_62 (by decide) ?_
          refine n_icmp_ne (tgt := 70) hx hb (by omega) (by omega) dX1_ofOrder_63 (by decide) (fun c_63 => ?_) (fun c_63 => ?_)
          · refine lv_iconst (v := nI 0) hx hb dX1_ofOrder_70 (by decide) ?_
            refine lv_iload_n hx hb dX1_ofOrder_71 rfl (lv_at hl 4 rfl) ?_
            refine lv_iconst (v := nI 2) hx hb dX1_ofOrder_72 (by decide) ?_
            refine lv_irem hx hb dX1_ofOrder_73 (by decide) ?_
            refine n_top (y := nI (o % 2)) (pk_rem (by omega) (by decide) (by decide)) ?_
            refine n_if_ne (tgt := 81) hx hb (by omega) dX1_ofOrder_74 (by decide) (fun c_74 => ?_) (fun c_74 => ?_)
            · refine lv_iconst (v := nI 0) hx hb dX1_ofOrder_81 (by decide) ?_
              refine n_icmp_ne (tgt := 90) hx hb (by omega) (by omega) dX1_ofOrder_82 (by decide) (fun c_82 => by exfalso; omega) (fun c_82 => ?_)
              refine lv_iload hx hb dX1_ofOrder_85 (lv_at hl 1 rfl) ?_
              refine lv_goto (tgt := 92) hx hb dX1_ofOrder_87 (by decide) ?_
              exact hQ dX1_ofOrder_92 (by rw [hk3]; rcases (show o = 0 ∨ o = 1 ∨ o = 2 ∨ o = 3 ∨ o = 4 ∨ o = 5 by omega) with rfl | rfl | rfl | rfl | rfl | rfl <;> rcases (show k = 0 ∨ k = 1 ∨ k = 2 by omega) with rfl | rfl | rfl <;> first | rfl | (exfalso; omega))
            · refine lv_iconst (v := nI 1) hx hb dX1_ofOrder_77 (by decide) ?_
              refine lv_goto (tgt := 82) hx hb dX1_ofOrder_78 (by decide) ?_
              refine n_icmp_ne (tgt := 90) hx hb (by omega) (by omega) dX1_ofOrder_82 (by decide) (fun c_82 => ?_) (fun c_82 => by exfalso; omega)
              refine lv_iload hx hb dX1_ofOrder_90 (lv_at hl 0 rfl) ?_
              exact hQ dX1_ofOrder_92 (by rw [hk3]; rcases (show o = 0 ∨ o = 1 ∨ o = 2 ∨ o = 3 ∨ o = 4 ∨ o = 5 by omega) with rfl | rfl | rfl | rfl | rfl | rfl <;> rcases (show k = 0 ∨ k = 1 ∨ k = 2 by omega) with rfl | rfl | rfl <;> first | rfl | (exfalso; omega))
          · refine lv_iconst (v := nI 1) hx hb dX1_ofOrder_66 (by decide) ?_
            refine lv_goto (tgt := 71) hx hb dX1_ofOrder_67 (by decide) ?_
            refine lv_iload_n hx hb dX1_ofOrder_71 rfl (lv_at hl 4 rfl) ?_
            refine lv_iconst (v := nI 2) hx hb dX1_ofOrder_72 (by decide) ?_
            refine lv_irem hx hb dX1_ofOrder_73 (by decide) ?_
            refine n_top (y := nI (o % 2)) (pk_rem (by omega) (by decide) (by decide)) ?_
            refine n_if_ne (tgt := 81) hx hb (by omega) dX1_ofOrder_74 (by decide) (fun c_74 => ?_) (fun c_74 => ?_)
            · refine lv_iconst (v := nI 0) hx hb dX1_ofOrder_81 (by decide) ?_
              refine n_icmp_ne (tgt := 90) hx hb (by omega) (by omega) dX1_ofOrder_82 (by decide) (fun c_82 => ?_) (fun c_82 => by exfalso; omega)
              refine lv_iload hx hb dX1_ofOrder_90 (lv_at hl 0 rfl) ?_
              exact hQ dX1_ofOrder_92 (by rw [hk3]; rcases (show o = 0 ∨ o = 1 ∨ o = 2 ∨ o = 3 ∨ o = 4 ∨ o = 5 by omega) with rfl | rfl | rfl | rfl | rfl | rfl <;> rcases (show k = 0 ∨ k = 1 ∨ k = 2 by omega) with rfl | rfl | rfl <;> first | rfl | (exfalso; omega))
            · refine lv_iconst (v := nI 1) hx hb dX1_ofOrder_77 (by decide) ?_
              refine lv_goto (tgt := 82) hx hb dX1_ofOrder_78 (by decide) ?_
              refine n_icmp_ne (tgt := 90) hx hb (by omega) (by omega) dX1_ofOrder_82 (by decide) (fun c_82 => by exfalso; omega) (fun c_82 => ?_)
              refine lv_iload hx hb dX1_ofOrder_85 (lv_at hl 1 rfl) ?_
              refine lv_goto (tgt := 92) hx hb dX1_ofOrder_87 (by decide) ?_
              exact hQ dX1_ofOrder_92 (by rw [hk3]; rcases (show o = 0 ∨ o = 1 ∨ o = 2 ∨ o = 3 ∨ o = 4 ∨ o = 5 by omega) with rfl | rfl | rfl | rfl | rfl | rfl <;> rcases (show k = 0 ∨ k = 1 ∨ k = 2 by omega) with rfl | rfl | rfl <;> first | rfl | (exfalso; omega))
        · refine lv_iload_n hx hb dX1_ofOrder_57 rfl (lv_at hl 2 rfl) ?_
          refine lv_goto (tgt := 92) hx hb dX1_ofOrder_58 (by decide) ?_
          exact hQ dX1_ofOrder_92 (by rw [hk3]; rcases (show o = 0 ∨ o = 1 ∨ o = 2 ∨ o = 3 ∨ o = 4 ∨ o = 5 by omega) with rfl | rfl | rfl | rfl | rfl | rfl <;> rcases (show k = 0 ∨ k = 1 ∨ k = 2 by omega) with rfl | rfl | rfl <;> first | rfl | (exfalso; omega))
      · refine lv_iconst (v := nI 1) hx hb dX1_ofOrder_46 (by decide) ?_
        refine lv_goto (tgt := 51) hx hb dX1_ofOrder_47 (by decide) ?_
        refine lv_istore (lv' := [(5, .int (nI 1)), (4, .int (nI 0)), (3, .int (nI (o / 2))), (0, .ref (h 0)), (1, .int (nI o)), (2, .int (nI k))]) hx hb dX1_ofOrder_51 hl (by decide) rfl (fun ls hl => ?_)
        refine lv_iload_n hx hb dX1_ofOrder_53 rfl (lv_at hl 5 rfl) ?_
        refine n_if_ne (tgt := 61) hx hb (by omega) dX1_ofOrder_54 (by decide) (fun c_54 => ?_) (fun c_54 => ?_)
        · refine lv_iload_n hx hb dX1_ofOrder_61 rfl (lv_at hl 5 rfl) ?_
          refine lv_iconst (v := nI 1) hx hb dX1_ofOrder_62 (by decide) ?_
          refine n_icmp_ne (tgt := 70) hx hb (by omega) (by omega) dX1_ofOrder_63 (by decide) (fun c_63 => ?_) (fun c_63 => ?_)
          · refine lv_iconst (v := nI 0) hx hb dX1_ofOrder_70 (by decide) ?_
            refine lv_iload_n hx hb dX1_ofOrder_71 rfl (lv_at hl 4 rfl) ?_
            refine lv_iconst (v := nI 2) hx hb dX1_ofOrder_72 (by decide) ?_
            refine lv_irem hx hb dX1_ofOrder_73 (by decide) ?_
            refine n_top (y := nI (o % 2)) (pk_rem (by omega) (by decide) (by decide)) ?_
            refine n_if_ne (tgt := 81) hx hb (by omega) dX1_ofOrder_74 (by decide) (fun c_74 => ?_) (fun c_74 => ?_)
            · refine lv_iconst (v := nI 0) hx hb dX1_ofOrder_81 (by decide) ?_
              refine n_icmp_ne (tgt := 90) hx hb (by omega) (by omega) dX1_ofOrder_82 (by decide) (fun c_82 => by exfalso; omega) (fun c_82 => ?_)
              refine lv_iload hx hb dX1_ofOrder_85 (lv_at hl 1 rfl) ?_
              refine lv_goto (tgt := 92) hx hb dX1_ofOrder_87 (by decide) ?_
              exact hQ dX1_ofOrder_92 (by rw [hk3]; rcases (show o = 0 ∨ o = 1 ∨ o = 2 ∨ o = 3 ∨ o = 4 ∨ o = 5 by omega) with rfl | rfl | rfl | rfl | rfl | rfl <;> rcases (show k = 0 ∨ k = 1 ∨ k = 2 by omega) with rfl | rfl | rfl <;> first | rfl | (exfalso; omega))
            · refine lv_iconst (v := nI 1) hx hb dX1_ofOrder_77 (by decide) ?_
              refine lv_goto (tgt := 82) hx hb dX1_ofOrder_78 (by decide) ?_
              refine n_icmp_ne (tgt := 90) hx hb (by omega) (by omega) dX1_ofOrder_82 (by decide) (fun c_82 => ?_) (fun c_82 => by exfalso; omega)
              refine lv_iload hx hb dX1_ofOrder_90 (lv_at hl 0 rfl) ?_
              exact hQ dX1_ofOrder_92 (by rw [hk3]; rcases (show o = 0 ∨ o = 1 ∨ o = 2 ∨ o = 3 ∨ o = 4 ∨ o = 5 by omega) with rfl | rfl | rfl | rfl | rfl | rfl <;> rcases (show k = 0 ∨ k = 1 ∨ k = 2 by omega) with rfl | rfl | rfl <;> first | rfl | (exfalso; omega))
          · refine lv_iconst (v := nI 1) hx hb dX1_ofOrder_66 (by decide) ?_
            refine lv_goto (tgt := 71) hx hb dX1_ofOrder_67 (by decide) ?_
            refine lv_iload_n hx hb dX1_ofOrder_71 rfl (lv_at hl 4 rfl) ?_
            refine lv_iconst (v := nI 2) hx hb dX1_ofOrder_72 (by decide) ?_
            refine lv_irem hx hb dX1_ofOrder_73 (by decide) ?_
            refine n_top (y := nI (o % 2)) (pk_rem (by omega) (by decide) (by decide)) ?_
            refine n_if_ne (tgt := 81) hx hb (by omega) dX1_ofOrder_74 (by decide) (fun c_74 => ?_) (fun c_74 => ?_)
            · refine lv_iconst (v := nI 0) hx hb dX1_ofOrder_81 (by decide) ?_
              refine n_icmp_ne (tgt := 90) hx hb (by omega) (by omega) dX1_ofOrder_82 (by decide) (fun c_82 => ?_) (fun c_82 => by exfalso; omega)
              refine lv_iload hx hb dX1_ofOrder_90 (lv_at hl 0 rfl) ?_
              exact hQ dX1_ofOrder_92 (by rw [hk3]; rcases (show o = 0 ∨ o = 1 ∨ o = 2 ∨ o = 3 ∨ o = 4 ∨ o = 5 by omega) with rfl | rfl | rfl | rfl | rfl | rfl <;> rcases (show k = 0 ∨ k = 1 ∨ k = 2 by omega) with rfl | rfl | rfl <;> first | rfl | (exfalso; omega))
            · refine lv_iconst (v := nI 1) hx hb dX1_ofOrder_77 (by decide) ?_
              refine lv_goto (tgt := 82) hx hb dX1_ofOrder_78 (by decide) ?_
              refine n_icmp_ne (tgt := 90) hx hb (by omega) (by omega) dX1_ofOrder_82 (by decide) (fun c_82 => by exfalso; omega) (fun c_82 => ?_)
              refine lv_iload hx hb dX1_ofOrder_85 (lv_at hl 1 rfl) ?_
              refine lv_goto (tgt := 92) hx hb dX1_ofOrder_87 (by decide) ?_
              exact hQ dX1_ofOrder_92 (by rw [hk3]; rcases (show o = 0 ∨ o = 1 ∨ o = 2 ∨ o = 3 ∨ o = 4 ∨ o = 5 by omega) with rfl | rfl | rfl | rfl | rfl | rfl <;> rcases (show k = 0 ∨ k = 1 ∨ k = 2 by omega) with rfl | rfl | rfl <;> first | rfl | (exfalso; omega))
        · refine lv_iload_n hx hb dX1_ofOrder_57 rfl (lv_at hl 2 rfl) ?_
          refine lv_goto (tgt := 92) hx hb dX1_ofOrder_58 (by decide) ?_
          exact hQ dX1_ofOrder_92 (by rw [hk3]; rcases (show o = 0 ∨ o = 1 ∨ o = 2 ∨ o = 3 ∨ o = 4 ∨ o = 5 by omega) with rfl | rfl | rfl | rfl | rfl | rfl <;> rcases (show k = 0 ∨ k = 1 ∨ k = 2 by omega) with rfl | rfl | rfl <;> first | rfl | (exfalso; omega))
    · refine lv_iconst (v := nI 1) hx hb dX1_ofOrder_34 (by decide) ?_
      refine lv_goto (tgt := 39) hx hb dX1_ofOrder_35 (by decide) ?_
      refine lv_istore (lv' := [(4, .int (nI 1)), (3, .int (nI (o / 2))), (0, .ref (h 0)), (1, .int (nI o)), (2, .int (nI k))]) hx hb dX1_ofOrder_39 hl (by decide) rfl (fun ls hl => ?_)
      refine lv_iload_n hx hb dX1_ofOrder_41 rfl (lv_at hl 1 rfl) ?_
      refine lv_iconst (v := nI 2) hx hb dX1_ofOrder_42 (by decide) ?_
      refine n_icmp_ne (tgt := 50) hx hb (by omega) (by omega) dX1_ofOrder_43 (by decide) (fun c_43 => ?_) (fun c_43 => ?_)
      · refine lv_iconst (v := nI 2) hx hb dX1_ofOrder_50 (by decide) ?_
        refine lv_istore (lv' := [(5, .int (nI 2)), (4, .int (nI 1)), (3, .int (nI (o / 2))), (0, .ref (h 0)), (1, .int (nI o)), (2, .int (nI k))]) hx hb dX1_ofOrder_51 hl (by decide) rfl (fun ls hl => ?_)
        refine lv_iload_n hx hb dX1_ofOrder_53 rfl (lv_at hl 5 rfl) ?_
        refine n_if_ne (tgt := 61) hx hb (by omega) dX1_ofOrder_54 (by decide) (fun c_54 => ?_) (fun c_54 => ?_)
        · refine lv_iload_n hx hb dX1_ofOrder_61 rfl (lv_at hl 5 rfl) ?_
          refine lv_iconst (v := nI 1) hx hb dX1_ofOrder_62 (by decide) ?_
          refine n_icmp_ne (tgt := 70) hx hb (by omega) (by omega) dX1_ofOrder_63 (by decide) (fun c_63 => ?_) (fun c_63 => ?_)
          · refine lv_iconst (v := nI 0) hx hb dX1_ofOrder_70 (by decide) ?_
            refine lv_iload_n hx hb dX1_ofOrder_71 rfl (lv_at hl 4 rfl) ?_
            refine lv_iconst (v := nI 2) hx hb dX1_ofOrder_72 (by decide) ?_
            refine lv_irem hx hb dX1_ofOrder_73 (by decide) ?_
            refine n_top (y := nI (o % 2)) (pk_rem (by omega) (by decide) (by decide)) ?_
            refine n_if_ne (tgt := 81) hx hb (by omega) dX1_ofOrder_74 (by decide) (fun c_74 => ?_) (fun c_74 => ?_)
            · refine lv_iconst (v := nI 0) hx hb dX1_ofOrder_81 (by decide) ?_
              refine n_icmp_ne (tgt := 90) hx hb (by omega) (by omega) dX1_ofOrder_82 (by decide) (fun c_82 => by exfalso; omega) (fun c_82 => ?_)
              refine lv_iload hx hb dX1_ofOrder_85 (lv_at hl 1 rfl) ?_
              refine lv_goto (tgt := 92) hx hb dX1_ofOrder_87 (by decide) ?_
              exact hQ dX1_ofOrder_92 (by rw [hk3]; rcases (show o = 0 ∨ o = 1 ∨ o = 2 ∨ o = 3 ∨ o = 4 ∨ o = 5 by omega) with rfl | rfl | rfl | rfl | rfl | rfl <;> rcases (show k = 0 ∨ k = 1 ∨ k = 2 by omega) with rfl | rfl | rfl <;> first | rfl | (exfalso; omega))
            · refine lv_iconst (v := nI 1) hx hb dX1_ofOrder_77 (by decide) ?_
              refine lv_goto (tgt := 82) hx hb dX1_ofOrder_78 (by decide) ?_
              refine n_icmp_ne (tgt := 90) hx hb (by omega) (by omega) dX1_ofOrder_82 (by decide) (fun c_82 => ?_) (fun c_82 => by exfalso; omega)
              refine lv_iload hx hb dX1_ofOrder_90 (lv_at hl 0 rfl) ?_
              exact hQ dX1_ofOrder_92 (by rw [hk3]; rcases (show o = 0 ∨ o = 1 ∨ o = 2 ∨ o = 3 ∨ o = 4 ∨ o = 5 by omega) with rfl | rfl | rfl | rfl | rfl | rfl <;> rcases (show k = 0 ∨ k = 1 ∨ k = 2 by omega) with rfl | rfl | rfl <;> first | rfl | (exfalso; omega))
          · refine lv_iconst (v := nI 1) hx hb dX1_ofOrder_66 (by decide) ?_
            refine lv_goto (tgt := 71) hx hb dX1_ofOrder_67 (by decide) ?_
            refine lv_iload_n hx hb dX1_ofOrder_71 rfl (lv_at hl 4 rfl) ?_
            refine lv_iconst (v := nI 2) hx hb dX1_ofOrder_72 (by decide) ?_
            refine lv_irem hx hb dX1_ofOrder_73 (by decide) ?_
            refine n_top (y := nI (o % 2)) (pk_rem (by omega) (by decide) (by decide)) ?_
            refine n_if_ne (tgt := 81) hx hb (by omega) dX1_ofOrder_74 (by decide) (fun c_74 => ?_) (fun c_74 => ?_)
            · refine lv_iconst (v := nI 0) hx hb dX1_ofOrder_81 (by decide) ?_
              refine n_icmp_ne (tgt := 90) hx hb (by omega) (by omega) dX1_ofOrder_82 (by decide) (fun c_82 => ?_) (fun c_82 => by exfalso; omega)
              refine lv_iload hx hb dX1_ofOrder_90 (lv_at hl 0 rfl) ?_
              exact hQ dX1_ofOrder_92 (by rw [hk3]; rcases (show o = 0 ∨ o = 1 ∨ o = 2 ∨ o = 3 ∨ o = 4 ∨ o = 5 by omega) with rfl | rfl | rfl | rfl | rfl | rfl <;> rcases (show k = 0 ∨ k = 1 ∨ k = 2 by omega) with rfl | rfl | rfl <;> first | rfl | (exfalso; omega))
            · refine lv_iconst (v := nI 1) hx hb dX1_ofOrder_77 (by decide) ?_
              refine lv_goto (tgt := 82) hx hb dX1_ofOrder_78 (by decide) ?_
              refine n_icmp_ne (tgt := 90) hx hb (by omega) (by omega) dX1_ofOrder_82 (by decide) (fun c_82 => by exfalso; omega) (fun c_82 => ?_)
              refine lv_iload hx hb dX1_ofOrder_85 (lv_at hl 1 rfl) ?_
              refine lv_goto (tgt := 92) hx hb dX1_ofOrder_87 (by decide) ?_
              exact hQ dX1_ofOrder_92 (by rw [hk3]; rcases (show o = 0 ∨ o = 1 ∨ o = 2 ∨ o = 3 ∨ o = 4 ∨ o = 5 by omega) with rfl | rfl | rfl | rfl | rfl | rfl <;> rcases (show k = 0 ∨ k = 1 ∨ k = 2 by omega) with rfl | rfl | rfl <;> first | rfl | (exfalso; omega))
        · refine lv_iload_n hx hb dX1_ofOrder_57 rfl (lv_at hl 2 rfl) ?_
          refine lv_goto (tgt := 92) hx hb dX1_ofOrder_58 (by decide) ?_
          exact hQ dX1_ofOrder_92 (by rw [hk3]; rcases (show o = 0 ∨ o = 1 ∨ o = 2 ∨ o = 3 ∨ o = 4 ∨ o = 5 by omega) with rfl | rfl | rfl | rfl | rfl | rfl <;> rcases (show k = 0 ∨ k = 1 ∨ k = 2 by omega) with rfl | rfl | rfl <;> first | rfl | (exfalso; omega))
      · refine lv_iconst (v := nI 1) hx hb dX1_ofOrder_46 (by decide) ?_
        refine lv_goto (tgt := 51) hx hb dX1_ofOrder_47 (by decide) ?_
        refine lv_istore (lv' := [(5, .int (nI 1)), (4, .int (nI 1)), (3, .int (nI (o / 2))), (0, .ref (h 0)), (1, .int (nI o)), (2, .int (nI k))]) hx hb dX1_ofOrder_51 hl (by decide) rfl (fun ls hl => ?_)
        refine lv_iload_n hx hb dX1_ofOrder_53 rfl (lv_at hl 5 rfl) ?_
        refine n_if_ne (tgt := 61) hx hb (by omega) dX1_ofOrder_54 (by decide) (fun c_54 => ?_) (fun c_54 => ?_)
        · refine lv_iload_n hx hb dX1_ofOrder_61 rfl (lv_at hl 5 rfl) ?_
          refine lv_iconst (v := nI 1) hx hb dX1_ofOrder_62 (by decide) ?_
          refine n_icmp_ne (tgt := 70) hx hb (by omega) (by omega) dX1_ofOrder_63 (by decide) (fun c_63 => ?_) (fun c_63 => ?_)
          · refine lv_iconst (v := nI 0) hx hb dX1_ofOrder_70 (by decide) ?_
            refine lv_iload_n hx hb dX1_ofOrder_71 rfl (lv_at hl 4 rfl) ?_
            refine lv_iconst (v := nI 2) hx hb dX1_ofOrder_72 (by decide) ?_
            refine lv_irem hx hb dX1_ofOrder_73 (by decide) ?_
            refine n_top (y := nI (o % 2)) (pk_rem (by omega) (by decide) (by decide)) ?_
            refine n_if_ne (tgt := 81) hx hb (by omega) dX1_ofOrder_74 (by decide) (fun c_74 => ?_) (fun c_74 => ?_)
            · refine lv_iconst (v := nI 0) hx hb dX1_ofOrder_81 (by decide) ?_
              refine n_icmp_ne (tgt := 90) hx hb (by omega) (by omega) dX1_ofOrder_82 (by decide) (fun c_82 => by exfalso; omega) (fun c_82 => ?_)
              refine lv_iload hx hb dX1_ofOrder_85 (lv_at hl 1 rfl) ?_
              refine lv_goto (tgt := 92) hx hb dX1_ofOrder_87 (by decide) ?_
              exact hQ dX1_ofOrder_92 (by rw [hk3]; rcases (show o = 0 ∨ o = 1 ∨ o = 2 ∨ o = 3 ∨ o = 4 ∨ o = 5 by omega) with rfl | rfl | rfl | rfl | rfl | rfl <;> rcases (show k = 0 ∨ k = 1 ∨ k = 2 by omega) with rfl | rfl | rfl <;> first | rfl | (exfalso; omega))
            · refine lv_iconst (v := nI 1) hx hb dX1_ofOrder_77 (by decide) ?_
              refine lv_goto (tgt := 82) hx hb dX1_ofOrder_78 (by decide) ?_
              refine n_icmp_ne (tgt := 90) hx hb (by omega) (by omega) dX1_ofOrder_82 (by decide) (fun c_82 => ?_) (fun c_82 => by exfalso; omega)
              refine lv_iload hx hb dX1_ofOrder_90 (lv_at hl 0 rfl) ?_
              exact hQ dX1_ofOrder_92 (by rw [hk3]; rcases (show o = 0 ∨ o = 1 ∨ o = 2 ∨ o = 3 ∨ o = 4 ∨ o = 5 by omega) with rfl | rfl | rfl | rfl | rfl | rfl <;> rcases (show k = 0 ∨ k = 1 ∨ k = 2 by omega) with rfl | rfl | rfl <;> first | rfl | (exfalso; omega))
          · refine lv_iconst (v := nI 1) hx hb dX1_ofOrder_66 (by decide) ?_
            refine lv_goto (tgt := 71) hx hb dX1_ofOrder_67 (by decide) ?_
            refine lv_iload_n hx hb dX1_ofOrder_71 rfl (lv_at hl 4 rfl) ?_
            refine lv_iconst (v := nI 2) hx hb dX1_ofOrder_72 (by decide) ?_
            refine lv_irem hx hb dX1_ofOrder_73 (by decide) ?_
            refine n_top (y := nI (o % 2)) (pk_rem (by omega) (by decide) (by decide)) ?_
            refine n_if_ne (tgt := 81) hx hb (by omega) dX1_ofOrder_74 (by decide) (fun c_74 => ?_) (fun c_74 => ?_)
            · refine lv_iconst (v := nI 0) hx hb dX1_ofOrder_81 (by decide) ?_
              refine n_icmp_ne (tgt := 90) hx hb (by omega) (by omega) dX1_ofOrder_82 (by decide) (fun c_82 => ?_) (fun c_82 => by exfalso; omega)
              refine lv_iload hx hb dX1_ofOrder_90 (lv_at hl 0 rfl) ?_
              exact hQ dX1_ofOrder_92 (by rw [hk3]; rcases (show o = 0 ∨ o = 1 ∨ o = 2 ∨ o = 3 ∨ o = 4 ∨ o = 5 by omega) with rfl | rfl | rfl | rfl | rfl | rfl <;> rcases (show k = 0 ∨ k = 1 ∨ k = 2 by omega) with rfl | rfl | rfl <;> first | rfl | (exfalso; omega))
            · refine lv_iconst (v := nI 1) hx hb dX1_ofOrder_77 (by decide) ?_
              refine lv_goto (tgt := 82) hx hb dX1_ofOrder_78 (by decide) ?_
              refine n_icmp_ne (tgt := 90) hx hb (by omega) (by omega) dX1_ofOrder_82 (by decide) (fun c_82 => by exfalso; omega) (fun c_82 => ?_)
              refine lv_iload hx hb dX1_ofOrder_85 (lv_at hl 1 rfl) ?_
              refine lv_goto (tgt := 92) hx hb dX1_ofOrder_87 (by decide) ?_
              exact hQ dX1_ofOrder_92 (by rw [hk3]; rcases (show o = 0 ∨ o = 1 ∨ o = 2 ∨ o = 3 ∨ o = 4 ∨ o = 5 by omega) with rfl | rfl | rfl | rfl | rfl | rfl <;> rcases (show k = 0 ∨ k = 1 ∨ k = 2 by omega) with rfl | rfl | rfl <;> first | rfl | (exfalso; omega))
        · refine lv_iload_n hx hb dX1_ofOrder_57 rfl (lv_at hl 2 rfl) ?_
          refine lv_goto (tgt := 92) hx hb dX1_ofOrder_58 (by decide) ?_
          exact hQ dX1_ofOrder_92 (by rw [hk3]; rcases (show o = 0 ∨ o = 1 ∨ o = 2 ∨ o = 3 ∨ o = 4 ∨ o = 5 by omega) with rfl | rfl | rfl | rfl | rfl | rfl <;> rcases (show k = 0 ∨ k = 1 ∨ k = 2 by omega) with rfl | rfl | rfl <;> first | rfl | (exfalso; omega))
  · refine lv_aload_n hx hb dX1_ofOrder_8 rfl (lv_at hl 0 rfl) ?_
    refine va_get (D := D) (ci := 1) (v := .int (nI (sK A))) (C := RX1) (T := TX1) (N := 13) hx hb hts hin0 hown hK hP 0 rfl rfl 2 (by decide) (hts (.fieldLink RX1 43 "VoicePartsModel" "voices" "I") (by decide +kernel)) (fun _ h9 => h9) rfl dX1_ofOrder_9 ?_
    refine lv_iconst (v := nI 1) hx hb dX1_ofOrder_12 (by decide) ?_
    refine n_icmp_ne (tgt := 20) hx hb (by omega) (by omega) dX1_ofOrder_13 (by decide) (fun c_13 => ?_) (fun c_13 => ?_)
    · refine lv_iload_n hx hb dX1_ofOrder_20 rfl (lv_at hl 1 rfl) ?_
      refine lv_iload_n hx hb dX1_ofOrder_21 rfl (lv_at hl 2 rfl) ?_
      refine n_iadd hx hb dX1_ofOrder_22 ?_
      refine lv_iconst (v := nI 2) hx hb dX1_ofOrder_23 (by decide) ?_
      refine lv_irem hx hb dX1_ofOrder_24 (by decide) ?_
      refine n_top (y := nI ((o + k) % 2)) (pk_rem (by have z := fno_in (sK A); omega) (by decide) (by decide)) ?_
      exact hQ dX1_ofOrder_25 (by unfold fvo; rw [if_neg (by omega), if_pos (by omega)])
    · refine lv_iconst (v := nI 0) hx hb dX1_ofOrder_16 (by decide) ?_
      refine lv_goto (tgt := 25) hx hb dX1_ofOrder_17 (by decide) ?_
      exact hQ dX1_ofOrder_25 (by unfold fvo; rw [if_pos (by omega)])
def rmX1_apartBy : Room := { frames := 3, cells := 0, slots := 0, locals := 77 }
set_option maxHeartbeats 4000000 in
set_option maxRecDepth 100000 in
/-- apartBy -/
theorem kX1_apartBy (l : Launch) (D : va_G) (h : Nat → Nat) (cI cZ : ClassId) (A : St) (M : Nat → Int32) (hI : Inv A) (o : Nat) (ho : o < fno (sK A)) : RO l yX1_apartBy wsX1_apartBy rmX1_apartBy [.ref (h 0), .int (nI o)] (vB D (mw h cI cZ A M) [(cI, .int), (cZ, .boolean)]) (fap A o) := by
  refine ro_ofW (cc := cX1_apartBy) (maxL := 6) (by decide) rfl (Nat.le_of_ble_eq_true rfl) ?_
  intro p e s m below meth c args Q hx hb hml hown hts hB hQ ls hl
  have hown : s.vm.findClass RX1 = some m.cls := hown
  obtain ⟨hP, hK⟩ := hB
  have hin0 : ∀ w ∈ u_ws RX1 TX1 13, w ∈ wsX1_apartBy := fun _ h => List.mem_cons_of_mem _ (List.mem_append_right _ h)
  have hl : lv_has ls 6 [(0, .ref (h 0)), (1, .int (nI o))] := hl
  have hF := hI.F
  have hT := hI.T
  have hK3 := hI.K
  have hJ := hI.J
  have hZ := hI.Z
  refine lv_iconst (v := nI 0) hx hb dX1_apartBy_0 (by decide) ?_
  refine lv_istore_n (lv' := [(2, .int (nI 0)), (0, .ref (h 0)), (1, .int (nI o))]) hx hb dX1_apartBy_1 rfl hl (by decide) rfl (fun ls hl => ?_)
  refine lv_iconst (v := nI 0) hx hb dX1_apartBy_2 (by decide) ?_
  refine lv_istore_n (lv' := [(3, .int (nI 0)), (2, .int (nI 0)), (0, .ref (h 0)), (1, .int (nI o))]) hx hb dX1_apartBy_3 rfl hl (by decide) rfl (fun ls hl => ?_)
  have lp4 : ∀ (n4 k : Nat), k + n4 = sK A → ∀ (ls : Array Slot), lv_has ls 6 [(0, .ref (h 0)), (1, .int (nI o)), (2, .int (acc3 0 (fun k f t => fab (fsh A k f t - sE A (fvo (sK A) o k * 48 + (f * 8 + t)))) (sF A) (sT A) k)), (3, .int (nI k))] → W p l e rmX1_apartBy s m args below meth c s.heap [] 0 0 Q (F0 m 4 ls []) := by
    intro n4
    induction n4 with
    | zero =>
      intro k hi4 ls hl
      obtain rfl : sK A = k := by omega
      refine lv_iload_n hx hb dX1_apartBy_4 rfl (lv_at hl 3 rfl) ?_
      refine lv_aload_n hx hb dX1_apartBy_5 rfl (lv_at hl 0 rfl) ?_
      refine va_get (D := D) (ci := 1) (v := .int (nI (sK A))) (C := RX1) (T := TX1) (N := 13) hx hb hts hin0 hown hK hP 0 rfl rfl 2 (by decide) (hts (.fieldLink RX1 43 "VoicePartsModel" "voices" "I") (by decide +kernel)) (fun _ h9 => h9) rfl dX1_apartBy_6 ?_
      refine n_icmp_ge (tgt := 93) hx hb (by omega) (by omega) dX1_apartBy_9 (by decide) (fun c_9 => ?_) (fun c_9 => by exfalso; omega)
      refine lv_iload_n hx hb dX1_apartBy_93 rfl (lv_at hl 2 rfl) ?_
      exact hQ dX1_apartBy_94 (fap_eq A o)
    | succ n4 ih4 =>
      intro k hi4 ls hl
      refine lv_iload_n hx hb dX1_apartBy_4 rfl (lv_at hl 3 rfl) ?_
      refine lv_aload_n hx hb dX1_apartBy_5 rfl (lv_at hl 0 rfl) ?_
      refine va_get (D := D) (ci := 1) (v := .int (nI (sK A))) (C := RX1) (T := TX1) (N := 13) hx hb hts hin0 hown hK hP 0 rfl rfl 2 (by decide) (hts (.fieldLink RX1 43 "VoicePartsModel" "voices" "I") (by decide +kernel)) (fun _ h9 => h9) rfl dX1_apartBy_6 ?_
      refine n_icmp_ge (tgt := 93) hx hb (by omega) (by omega) dX1_apartBy_9 (by decide) (fun c_9 => by exfalso; omega) (fun c_9 => ?_)
      refine lv_iconst (v := nI 0) hx hb dX1_apartBy_12 (by decide) ?_
      refine lv_istore (lv' := [(4, .int (nI 0)), (0, .ref (h 0)), (1, .int (nI o)), (2, .int (acc3 0 (fun k f t => fab (fsh A k f t - sE A (fvo (sK A) o k * 48 + (f * 8 + t)))) (sF A) (sT A) k)), (3, .int (nI k))]) hx hb dX1_apartBy_13 hl (by decide) rfl (fun ls hl => ?_)
      have lp15 : ∀ (n15 f : Nat), f + n15 = sF A → ∀ (ls : Array Slot), lv_has ls 6 [(0, .ref (h 0)), (1, .int (nI o)), (2, .int (acc2 (acc3 0 (fun k f t => fab (fsh A k f t - sE A (fvo (sK A) o k * 48 + (f * 8 + t)))) (sF A) (sT A) k) (fun f t => fab (fsh A k f t - sE A (fvo (sK A) o k * 48 + (f * 8 + t)))) (sT A) f)), (3, .int (nI k)), (4, .int (nI f))] → W p l e rmX1_apartBy s m args below meth c s.heap [] 0 0 Q (F0 m 15 ls []) := by
        intro n15
        induction n15 with
        | zero =>
          intro f hi15 ls hl
          obtain rfl : sF A = f := by omega
          refine lv_iload hx hb dX1_apartBy_15 (lv_at hl 4 rfl) ?_
          refine lv_aload_n hx hb dX1_apartBy_17 rfl (lv_at hl 0 rfl) ?_
          refine va_get (D := D) (ci := 1) (v := .int (nI (sF A))) (C := RX1) (T := TX1) (N := 13) hx hb hts hin0 hown hK hP 0 rfl rfl 0 (by decide) (hts (.fieldLink RX1 36 "VoicePartsModel" "tones" "I") (by decide +kernel)) (fun _ h9 => h9) rfl dX1_apartBy_18 ?_
          refine n_icmp_ge (tgt := 87) hx hb (by omega) (by omega) dX1_apartBy_21 (by decide) (fun c_21 => ?_) (fun c_21 => by exfalso; omega)
          refine lv_iinc (v := nI (k + 1)) (lv' := [(3, .int (nI (k + 1))), (0, .ref (h 0)), (1, .int (nI o)), (2, .int (acc2 (acc3 0 (fun k f t => fab (fsh A k f t - sE A (fvo (sK A) o k * 48 + (f * 8 + t)))) (sF A) (sT A) k) (fun f t => fab (fsh A k f t - sE A (fvo (sK A) o k * 48 + (f * 8 + t)))) (sT A) (sF A))), (4, .int (nI (sF A)))]) hx hb dX1_apartBy_87 hl (k := 3) rfl (nI_inc _) (by decide) rfl (fun ls hl => ?_)
          refine lv_goto (tgt := 4) hx hb dX1_apartBy_90 (by decide) ?_
          exact ih4 (k + 1) (by omega) ls (lv_sub hl [1, 2, 3, 0] rfl)
        | succ n15 ih15 =>
          intro f hi15 ls hl
          refine lv_iload hx hb dX1_apartBy_15 (lv_at hl 4 rfl) ?_
          refine lv_aload_n hx hb dX1_apartBy_17 rfl (lv_at hl 0 rfl) ?_
          refine va_get (D := D) (ci := 1) (v := .int (nI (sF A))) (C := RX1) (T := TX1) (N := 13) hx hb hts hin0 hown hK hP 0 rfl rfl 0 (by decide) (hts (.fieldLink RX1 36 "VoicePartsModel" "tones" "I") (by decide +kernel)) (fun _ h9 => h9) rfl dX1_apartBy_18 ?_
          refine n_icmp_ge (tgt := 87) hx hb (by omega) (by omega) dX1_apartBy_21 (by decide) (fun c_21 => by exfalso; omega) (fun c_21 => ?_)
          refine lv_iconst (v := nI 0) hx hb dX1_apartBy_24 (by decide) ?_
          refine lv_istore (lv' := [(5, .int (nI 0)), (0, .ref (h 0)), (1, .int (nI o)), (2, .int (acc2 (acc3 0 (fun k f t => fab (fsh A k f t - sE A (fvo (sK A) o k * 48 + (f * 8 + t)))) (sF A) (sT A) k) (fun f t => fab (fsh A k f t - sE A (fvo (sK A) o k * 48 + (f * 8 + t)))) (sT A) f)), (3, .int (nI k)), (4, .int (nI f))]) hx hb dX1_apartBy_25 hl (by decide) rfl (fun ls hl => ?_)
          have lp27 : ∀ (n27 t : Nat), t + n27 = sT A → ∀ (ls : Array Slot), lv_has ls 6 [(0, .ref (h 0)), (1, .int (nI o)), (2, .int (acc (acc2 (acc3 0 (fun k f t => fab (fsh A k f t - sE A (fvo (sK A) o k * 48 + (f * 8 + t)))) (sF A) (sT A) k) (fun f t => fab (fsh A k f t - sE A (fvo (sK A) o k * 48 + (f * 8 + t)))) (sT A) f) (fun t => fab (fsh A k f t - sE A (fvo (sK A) o k * 48 + (f * 8 + t)))) t)), (3, .int (nI k)), (4, .int (nI f)), (5, .int (nI t))] → W p l e rmX1_apartBy s m args below meth c s.heap [] 0 0 Q (F0 m 27 ls []) := by
            intro n27
            induction n27 with
            | zero =>
              intro t hi27 ls hl
              obtain rfl : sT A = t := by omega
              refine lv_iload hx hb dX1_apartBy_27 (lv_at hl 5 rfl) ?_
              refine lv_aload_n hx hb dX1_apartBy_29 rfl (lv_at hl 0 rfl) ?_
              refine va_get (D := D) (ci := 1) (v := .int (nI (sT A))) (C := RX1) (T := TX1) (N := 13) hx hb hts hin0 hown hK hP 0 rfl rfl 1 (by decide) (hts (.fieldLink RX1 40 "VoicePartsModel" "times" "I") (by decide +kernel)) (fun _ h9 => h9) rfl dX1_apartBy_30 ?_
              refine n_icmp_ge (tgt := 81) hx hb (by omega) (by omega) dX1_apartBy_33 (by decide) (fun c_33 => ?_) (fun c_33 => by exfalso; omega)
              refine lv_iinc (v := nI (f + 1)) (lv' := [(4, .int (nI (f + 1))), (0, .ref (h 0)), (1, .int (nI o)), (2, .int (acc (acc2 (acc3 0 (fun k f t => fab (fsh A k f t - sE A (fvo (sK A) o k * 48 + (f * 8 + t)))) (sF A) (sT A) k) (fun f t => fab (fsh A k f t - sE A (fvo (sK A) o k * 48 + (f * 8 + t)))) (sT A) f) (fun t => fab (fsh A k f t - sE A (fvo (sK A) o k * 48 + (f * 8 + t)))) (sT A))), (3, .int (nI k)), (5, .int (nI (sT A)))]) hx hb dX1_apartBy_81 hl (k := 4) rfl (nI_inc _) (by decide) rfl (fun ls hl => ?_)
              refine lv_goto (tgt := 15) hx hb dX1_apartBy_84 (by decide) ?_
              exact ih15 (f + 1) (by omega) ls (lv_sub hl [1, 2, 3, 4, 0] rfl)
            | succ n27 ih27 =>
              intro t hi27 ls hl
              refine lv_iload hx hb dX1_apartBy_27 (lv_at hl 5 rfl) ?_
              refine lv_aload_n hx hb dX1_apartBy_29 rfl (lv_at hl 0 rfl) ?_
              refine va_get (D := D) (ci := 1) (v := .int (nI (sT A))) (C := RX1) (T := TX1) (N := 13) hx hb hts hin0 hown hK hP 0 rfl rfl 1 (by decide) (hts (.fieldLink RX1 40 "VoicePartsModel" "times" "I") (by decide +kernel)) (fun _ h9 => h9) rfl dX1_apartBy_30 ?_
              refine n_icmp_ge (tgt := 81) hx hb (by omega) (by omega) dX1_apartBy_33 (by decide) (fun c_33 => by exfalso; omega) (fun c_33 => ?_)
              refine lv_iload_n hx hb dX1_apartBy_36 rfl (lv_at hl 2 rfl) ?_
              refine lv_aload_n hx hb dX1_apartBy_37 rfl (lv_at hl 0 rfl) ?_
              refine lv_iload_n hx hb dX1_apartBy_38 rfl (lv_at hl 3 rfl) ?_
              refine lv_iload hx hb dX1_apartBy_39 (lv_at hl 4 rfl) ?_
              refine lv_iload hx hb dX1_apartBy_41 (lv_at hl 5 rfl) ?_
              refine ro_callV (As := [.int (nI k), .int (nI f), .int (nI t)]) (rest := [.int (acc (acc2 (acc3 0 (fun k f t => fab (fsh A k f t - sE A (fvo (sK A) o k * 48 + (f * 8 + t)))) (sF A) (sT A) k) (fun f t => fab (fsh A k f t - sE A (fvo (sK A) o k * 48 + (f * 8 + t)))) (sT A) f) (fun t => fab (fsh A k f t - sE A (fvo (sK A) o k * 48 + (f * 8 + t)))) t)]) ⟨hx, hb, hml, hown, hts⟩ (kX1_shareOf l D h cI cZ A M  hI (k) (f) (t) (by omega) (by omega) (by omega)) (cwV 3 hts gX1_apartBy_X1_shareOf rfl rfl rfl (by decide +kernel) ⟨Nat.le_of_ble_eq_true rfl, Nat.le_of_ble_eq_true rfl⟩) vB_bl (vB_at hP hK) (va_recv hK hP (ci := 1) (q0 := 0) rfl rfl) rfl hl.1 rfl (Nat.le_of_ble_eq_true rfl) dX1_apartBy_43 ⟨Nat.zero_le _, Nat.zero_le _⟩ ?_
              refine lv_aload_n hx hb dX1_apartBy_46 rfl (lv_at hl 0 rfl) ?_
              refine va_get (D := D) (ci := 1) (v := .ref (h 4)) (C := RX1) (T := TX1) (N := 13) hx hb hts hin0 hown hK hP 0 rfl rfl 6 (by decide) (hts (.fieldLink RX1 20 "VoicePartsModel" "truth" "[I") (by decide +kernel)) (fun _ h9 => h9) rfl dX1_apartBy_47 ?_
              refine lv_bipush (v := nI 48) hx hb dX1_apartBy_50 (by decide) ?_
              refine lv_aload_n hx hb dX1_apartBy_52 rfl (lv_at hl 0 rfl) ?_
              refine lv_iload_n hx hb dX1_apartBy_53 rfl (lv_at hl 1 rfl) ?_
              refine lv_iload_n hx hb dX1_apartBy_54 rfl (lv_at hl 3 rfl) ?_
              refine ro_callV (As := [.int (nI o), .int (nI k)]) (rest := [.int (nI 48), .ref (h 4), .int (fsh A k f t), .int (acc (acc2 (acc3 0 (fun k f t => fab (fsh A k f t - sE A (fvo (sK A) o k * 48 + (f * 8 + t)))) (sF A) (sT A) k) (fun f t => fab (fsh A k f t - sE A (fvo (sK A) o k * 48 + (f * 8 + t)))) (sT A) f) (fun t => fab (fsh A k f t - sE A (fvo (sK A) o k * 48 + (f * 8 + t)))) t)]) ⟨hx, hb, hml, hown, hts⟩ (kX1_ofOrder l D h cI cZ A M hI (o) (k) ho (by omega)) (cwV 2 hts gX1_apartBy_X1_ofOrder rfl rfl rfl (by decide +kernel) ⟨Nat.le_of_ble_eq_true rfl, Nat.le_of_ble_eq_true rfl⟩) vB_bl (vB_at hP hK) (va_recv hK hP (ci := 1) (q0 := 0) rfl rfl) rfl hl.1 rfl (Nat.le_of_ble_eq_true rfl) dX1_apartBy_55 ⟨Nat.zero_le _, Nat.zero_le _⟩ ?_
              refine n_imulc hx hb dX1_apartBy_58 ?_
              refine lv_bipush (v := nI 8) hx hb dX1_apartBy_59 (by decide) ?_
              refine lv_iload hx hb dX1_apartBy_61 (lv_at hl 4 rfl) ?_
              refine n_imulc hx hb dX1_apartBy_63 ?_
              refine n_iadd hx hb dX1_apartBy_64 ?_
              refine lv_iload hx hb dX1_apartBy_65 (lv_at hl 5 rfl) ?_
              refine n_iadd hx hb dX1_apartBy_67 ?_
              have hvl := fvo_lt (o := o) (k := k) hK3
              refine n_iald hx hb hK hP 4 0 rfl rfl (by omega) (by decide) dX1_apartBy_68 ?_
              refine n_top (y := sE A (fvo (sK A) o k * 48 + (f * 8 + t))) (by rw [Nat.add_assoc]) ?_
              refine lv_isub hx hb dX1_apartBy_69 ?_
              refine ro_callS (As := [.int ((fsh A k f t) - (sE A (fvo (sK A) o k * 48 + (f * 8 + t))))]) (rest := [.int (acc (acc2 (acc3 0 (fun k f t => fab (fsh A k f t - sE A (fvo (sK A) o k * 48 + (f * 8 + t)))) (sF A) (sT A) k) (fun f t => fab (fsh A k f t - sE A (fvo (sK A) o k * 48 + (f * 8 + t)))) (sT A) f) (fun t => fab (fsh A k f t - sE A (fvo (sK A) o k * 48 + (f * 8 + t)))) t)]) ⟨hx, hb, hml, hown, hts⟩ (kX1_size l ((fsh A k f t) - (sE A (fvo (sK A) o k * 48 + (f * 8 + t))))) (va_cwS 1 hts gX1_apartBy_X1_size rfl rfl rfl (by decide +kernel) ⟨Nat.le_of_ble_eq_true rfl, Nat.le_of_ble_eq_true rfl⟩) vT_bl vT_at rfl hl.1 rfl (Nat.le_of_ble_eq_true rfl) dX1_apartBy_70 ⟨Nat.zero_le _, Nat.zero_le _⟩ ?_
              refine lv_iadd hx hb dX1_apartBy_73 ?_
              refine lv_istore_n (lv' := [(2, .int ((acc (acc2 (acc3 0 (fun k f t => fab (fsh A k f t - sE A (fvo (sK A) o k * 48 + (f * 8 + t)))) (sF A) (sT A) k) (fun f t => fab (fsh A k f t - sE A (fvo (sK A) o k * 48 + (f * 8 + t)))) (sT A) f) (fun t => fab (fsh A k f t - sE A (fvo (sK A) o k * 48 + (f * 8 + t)))) t) + (fab ((fsh A k f t) - (sE A (fvo (sK A) o k * 48 + (f * 8 + t))))))), (0, .ref (h 0)), (1, .int (nI o)), (3, .int (nI k)), (4, .int (nI f)), (5, .int (nI t))]) hx hb dX1_apartBy_74 rfl hl (by decide) rfl (fun ls hl => ?_)
              refine lv_iinc (v := nI (t + 1)) (lv' := [(5, .int (nI (t + 1))), (2, .int ((acc (acc2 (acc3 0 (fun k f t => fab (fsh A k f t - sE A (fvo (sK A) o k * 48 + (f * 8 + t)))) (sF A) (sT A) k) (fun f t => fab (fsh A k f t - sE A (fvo (sK A) o k * 48 + (f * 8 + t)))) (sT A) f) (fun t => fab (fsh A k f t - sE A (fvo (sK A) o k * 48 + (f * 8 + t)))) t) + (fab ((fsh A k f t) - (sE A (fvo (sK A) o k * 48 + (f * 8 + t))))))), (0, .ref (h 0)), (1, .int (nI o)), (3, .int (nI k)), (4, .int (nI f))]) hx hb dX1_apartBy_75 hl (k := 5) rfl (nI_inc _) (by decide) rfl (fun ls hl => ?_)
              refine lv_goto (tgt := 27) hx hb dX1_apartBy_78 (by decide) ?_
              exact ih27 (t + 1) (by omega) ls (lv_sub hl [2, 3, 1, 4, 5, 0] rfl)
          exact lp27 (sT A) (0) (by omega) ls (lv_sub hl [1, 2, 3, 4, 5, 0] rfl)
      exact lp15 (sF A) (0) (by omega) ls (lv_sub hl [1, 2, 3, 4, 0] rfl)
  exact lp4 (sK A) (0) (by omega) ls (lv_sub hl [2, 3, 1, 0] rfl)
def rmX1_apart : Room := { frames := 4, cells := 0, slots := 0, locals := 102 }
set_option maxHeartbeats 4000000 in
set_option maxRecDepth 100000 in
/-- apart -/
theorem kX1_apart (l : Launch) (D : va_G) (h : Nat → Nat) (cI cZ : ClassId) (A : St) (M : Nat → Int32) (hI : Inv A) (x : Int32) : RO l yX1_apart wsX1_apart rmX1_apart [.ref (h 0), .int x] (vB D (mw h cI cZ A M) [(cI, .int), (cZ, .boolean)]) (aAp A x) := by
  refine ro_ofW (cc := cX1_apart) (maxL := 2) (by decide) rfl (Nat.le_of_ble_eq_true rfl) ?_
  intro p e s m below meth c args Q hx hb hml hown hts hB hQ ls hl
  have hown : s.vm.findClass RX1 = some m.cls := hown
  obtain ⟨hP, hK⟩ := hB
  have hin0 : ∀ w ∈ u_ws RX1 TX1 13, w ∈ wsX1_apart := fun _ h => List.mem_cons_of_mem _ (List.mem_append_right _ h)
  have hl : lv_has ls 2 [(0, .ref (h 0)), (1, .int x)] := hl
  have hF := hI.F
  have hT := hI.T
  have hK3 := hI.K
  have hJ := hI.J
  have hZ := hI.Z
  have hno := fno_in (sK A)
  refine lv_iload_n hx hb dX1_apart_0 rfl (lv_at hl 1 rfl) ?_
  refine lv_iconst (v := nI 0) hx hb dX1_apart_1 (by decide) ?_
  refine lv_aload_n hx hb dX1_apart_2 rfl (lv_at hl 0 rfl) ?_
  refine ro_callV (As := []) (rest := [.int (nI 0), .int x]) ⟨hx, hb, hml, hown, hts⟩ (kX1_orders l D h cI cZ A M  hI ) (cwV 0 hts gX1_apart_X1_orders rfl rfl rfl (by decide +kernel) ⟨Nat.le_of_ble_eq_true rfl, Nat.le_of_ble_eq_true rfl⟩) vB_bl (vB_at hP hK) (va_recv hK hP (ci := 1) (q0 := 0) rfl rfl) rfl hl.1 rfl (Nat.le_of_ble_eq_true rfl) dX1_apart_3 ⟨Nat.zero_le _, Nat.zero_le _⟩ ?_
  refine lv_iconst (v := nI 1) hx hb dX1_apart_6 (by decide) ?_
  refine n_isub hx hb (by omega) dX1_apart_7 ?_
  refine ro_callS (As := [.int x, .int (nI 0), .int (nI ((fno (sK A)) - 1))]) (rest := []) ⟨hx, hb, hml, hown, hts⟩ (kX1_in l (x) (nI 0) (nI ((fno (sK A)) - 1))) (va_cwS 3 hts gX1_apart_X1_in rfl rfl rfl (by decide +kernel) ⟨Nat.le_of_ble_eq_true rfl, Nat.le_of_ble_eq_true rfl⟩) vT_bl vT_at rfl hl.1 rfl (Nat.le_of_ble_eq_true rfl) dX1_apart_8 ⟨Nat.zero_le _, Nat.zero_le _⟩ ?_
  refine b_if_eq (tgt := 22) hx hb dX1_apart_11 (by decide) (fun c_11 => ?_) (fun c_11 => ?_)
  · refine lv_iconst (v := (-1)) hx hb dX1_apart_22 (by decide) ?_
    exact hQ dX1_apart_23 (by unfold aAp; rw [if_neg c_11])
  · obtain ⟨o, ho, rfl⟩ := iN_of (n := fno (sK A)) c_11 (by omega) (by omega)
    refine lv_aload_n hx hb dX1_apart_14 rfl (lv_at hl 0 rfl) ?_
    refine lv_iload_n hx hb dX1_apart_15 rfl (lv_at hl 1 rfl) ?_
    refine ro_callV (As := [.int (nI o)]) (rest := []) ⟨hx, hb, hml, hown, hts⟩ (kX1_apartBy l D h cI cZ A M hI (o) (ho)) (cwV 1 hts gX1_apart_X1_apartBy rfl rfl rfl (by decide +kernel) ⟨Nat.le_of_ble_eq_true rfl, Nat.le_of_ble_eq_true rfl⟩) vB_bl (vB_at hP hK) (va_recv hK hP (ci := 1) (q0 := 0) rfl rfl) rfl hl.1 rfl (Nat.le_of_ble_eq_true rfl) dX1_apart_16 ⟨Nat.zero_le _, Nat.zero_le _⟩ ?_
    refine lv_goto (tgt := 23) hx hb dX1_apart_19 (by decide) ?_
    exact hQ dX1_apart_23 (by unfold aAp; rw [if_pos c_11, cl_nI (n := o) (by omega)])
def rmX1_order : Room := { frames := 4, cells := 0, slots := 0, locals := 102 }
set_option maxHeartbeats 4000000 in
set_option maxRecDepth 100000 in
/-- order -/
theorem kX1_order (l : Launch) (D : va_G) (h : Nat → Nat) (cI cZ : ClassId) (A : St) (M : Nat → Int32) (hI : Inv A) : RO l yX1_order wsX1_order rmX1_order [.ref (h 0)] (vB D (mw h cI cZ A M) [(cI, .int), (cZ, .boolean)]) (aOr A) := by
  refine ro_ofW (cc := cX1_order) (maxL := 3) (by decide) rfl (Nat.le_of_ble_eq_true rfl) ?_
  intro p e s m below meth c args Q hx hb hml hown hts hB hQ ls hl
  have hown : s.vm.findClass RX1 = some m.cls := hown
  obtain ⟨hP, hK⟩ := hB
  have hin0 : ∀ w ∈ u_ws RX1 TX1 13, w ∈ wsX1_order := fun _ h => List.mem_cons_of_mem _ (List.mem_append_right _ h)
  have hl : lv_has ls 3 [(0, .ref (h 0))] := hl
  have hF := hI.F
  have hT := hI.T
  have hK3 := hI.K
  have hJ := hI.J
  have hZ := hI.Z
  have hno := fno_in (sK A)
  refine lv_iconst (v := nI 0) hx hb dX1_order_0 (by decide) ?_
  refine lv_istore_n (lv' := [(1, .int (nI 0)), (0, .ref (h 0))]) hx hb dX1_order_1 rfl hl (by decide) rfl (fun ls hl => ?_)
  refine lv_iconst (v := nI 1) hx hb dX1_order_2 (by decide) ?_
  refine lv_istore_n (lv' := [(2, .int (nI 1)), (1, .int (nI 0)), (0, .ref (h 0))]) hx hb dX1_order_3 rfl hl (by decide) rfl (fun ls hl => ?_)
  have lp4 : ∀ (n4 i : Nat), i + n4 = fno (sK A) - 1 → ∀ (ls : Array Slot), lv_has ls 3 [(0, .ref (h 0)), (1, .int (nI (fle (fap A) i))), (2, .int (nI (i + 1)))] → W p l e rmX1_order s m args below meth c s.heap [] 0 0 Q (F0 m 4 ls []) := by
    intro n4
    induction n4 with
    | zero =>
      intro i hi4 ls hl
      obtain rfl : fno (sK A) - 1 = i := by omega
      refine lv_iload_n hx hb dX1_order_4 rfl (lv_at hl 2 rfl) ?_
      refine lv_aload_n hx hb dX1_order_5 rfl (lv_at hl 0 rfl) ?_
      refine ro_callV (As := []) (rest := [.int (nI ((fno (sK A) - 1) + 1))]) ⟨hx, hb, hml, hown, hts⟩ (kX1_orders l D h cI cZ A M  hI ) (cwV 0 hts gX1_order_X1_orders rfl rfl rfl (by decide +kernel) ⟨Nat.le_of_ble_eq_true rfl, Nat.le_of_ble_eq_true rfl⟩) vB_bl (vB_at hP hK) (va_recv hK hP (ci := 1) (q0 := 0) rfl rfl) rfl hl.1 rfl (Nat.le_of_ble_eq_true rfl) dX1_order_6 ⟨Nat.zero_le _, Nat.zero_le _⟩ ?_
      refine n_icmp_ge (tgt := 37) hx hb (by omega) (by omega) dX1_order_9 (by decide) (fun c_9 => ?_) (fun c_9 => by exfalso; omega)
      refine lv_iload_n hx hb dX1_order_37 rfl (lv_at hl 1 rfl) ?_
      exact hQ dX1_order_38 (rfl)
    | succ n4 ih4 =>
      intro i hi4 ls hl
      refine lv_iload_n hx hb dX1_order_4 rfl (lv_at hl 2 rfl) ?_
      refine lv_aload_n hx hb dX1_order_5 rfl (lv_at hl 0 rfl) ?_
      refine ro_callV (As := []) (rest := [.int (nI (i + 1))]) ⟨hx, hb, hml, hown, hts⟩ (kX1_orders l D h cI cZ A M  hI ) (cwV 0 hts gX1_order_X1_orders rfl rfl rfl (by decide +kernel) ⟨Nat.le_of_ble_eq_true rfl, Nat.le_of_ble_eq_true rfl⟩) vB_bl (vB_at hP hK) (va_recv hK hP (ci := 1) (q0 := 0) rfl rfl) rfl hl.1 rfl (Nat.le_of_ble_eq_true rfl) dX1_order_6 ⟨Nat.zero_le _, Nat.zero_le _⟩ ?_
      refine n_icmp_ge (tgt := 37) hx hb (by omega) (by omega) dX1_order_9 (by decide) (fun c_9 => by exfalso; omega) (fun c_9 => ?_)
      have hfl := fle_le (fap A) i
      refine lv_aload_n hx hb dX1_order_12 rfl (lv_at hl 0 rfl) ?_
      refine lv_iload_n hx hb dX1_order_13 rfl (lv_at hl 2 rfl) ?_
      refine ro_callV (As := [.int (nI (i + 1))]) (rest := []) ⟨hx, hb, hml, hown, hts⟩ (kX1_apartBy l D h cI cZ A M hI (i + 1) (by omega)) (cwV 1 hts gX1_order_X1_apartBy rfl rfl rfl (by decide +kernel) ⟨Nat.le_of_ble_eq_true rfl, Nat.le_of_ble_eq_true rfl⟩) vB_bl (vB_at hP hK) (va_recv hK hP (ci := 1) (q0 := 0) rfl rfl) rfl hl.1 rfl (Nat.le_of_ble_eq_true rfl) dX1_order_14 ⟨Nat.zero_le _, Nat.zero_le _⟩ ?_
      refine lv_aload_n hx hb dX1_order_17 rfl (lv_at hl 0 rfl) ?_
      refine lv_iload_n hx hb dX1_order_18 rfl (lv_at hl 1 rfl) ?_
      refine ro_callV (As := [.int (nI (fle (fap A) i))]) (rest := [.int (fap A (i + 1))]) ⟨hx, hb, hml, hown, hts⟩ (kX1_apartBy l D h cI cZ A M hI (fle (fap A) i) (by omega)) (cwV 1 hts gX1_order_X1_apartBy rfl rfl rfl (by decide +kernel) ⟨Nat.le_of_ble_eq_true rfl, Nat.le_of_ble_eq_true rfl⟩) vB_bl (vB_at hP hK) (va_recv hK hP (ci := 1) (q0 := 0) rfl rfl) rfl hl.1 rfl (Nat.le_of_ble_eq_true rfl) dX1_order_19 ⟨Nat.zero_le _, Nat.zero_le _⟩ ?_
      refine lv_icmp_ge (tgt := 29) hx hb dX1_order_22 (by decide) (fun c_22 => ?_) (fun c_22 => ?_)
      · refine lv_iload_n hx hb dX1_order_29 rfl (lv_at hl 1 rfl) ?_
        refine lv_istore_n (lv' := [(1, .int (nI (fle (fap A) i))), (0, .ref (h 0)), (2, .int (nI (i + 1)))]) hx hb dX1_order_30 rfl hl (by decide) rfl (fun ls hl => ?_)
        have hl : lv_has ls 3 [(1, .int (nI (fle (fap A) (i + 1)))), (0, .ref (h 0)), (2, .int (nI (i + 1)))] := by rw [show fle (fap A) (i + 1) = fle (fap A) i from if_neg (Int32.not_lt.mpr c_22)]; exact hl
        refine lv_iinc (v := nI (i + 1 + 1)) (lv' := [(2, .int (nI (i + 1 + 1))), (1, .int (nI (fle (fap A) (i + 1)))), (0, .ref (h 0))]) hx hb dX1_order_31 hl (k := 2) rfl (nI_inc _) (by decide) rfl (fun ls hl => ?_)
        refine lv_goto (tgt := 4) hx hb dX1_order_34 (by decide) ?_
        exact ih4 (i + 1) (by omega) ls (lv_sub hl [2, 1, 0] rfl)
      · refine lv_iload_n hx hb dX1_order_25 rfl (lv_at hl 2 rfl) ?_
        refine lv_goto (tgt := 30) hx hb dX1_order_26 (by decide) ?_
        refine lv_istore_n (lv' := [(1, .int (nI (i + 1))), (0, .ref (h 0)), (2, .int (nI (i + 1)))]) hx hb dX1_order_30 rfl hl (by decide) rfl (fun ls hl => ?_)
        have hl : lv_has ls 3 [(1, .int (nI (fle (fap A) (i + 1)))), (0, .ref (h 0)), (2, .int (nI (i + 1)))] := by rw [show fle (fap A) (i + 1) = i + 1 from if_pos (Int32.not_le.mp c_22)]; exact hl
        refine lv_iinc (v := nI (i + 1 + 1)) (lv' := [(2, .int (nI (i + 1 + 1))), (1, .int (nI (fle (fap A) (i + 1)))), (0, .ref (h 0))]) hx hb dX1_order_31 hl (k := 2) rfl (nI_inc _) (by decide) rfl (fun ls hl => ?_)
        refine lv_goto (tgt := 4) hx hb dX1_order_34 (by decide) ?_
        exact ih4 (i + 1) (by omega) ls (lv_sub hl [2, 1, 0] rfl)
  exact lp4 (fno (sK A) - 1) (0) (by omega) ls (lv_sub hl [2, 1, 0] rfl)
def rmX1_count : Room := { frames := 0, cells := 0, slots := 0, locals := 0 }
set_option maxHeartbeats 4000000 in
set_option maxRecDepth 100000 in
/-- count -/
theorem kX1_count (l : Launch) (D : va_G) (h : Nat → Nat) (cI cZ : ClassId) (A : St) (M : Nat → Int32) (hI : Inv A) (u : Int32) : RO l yX1_count wsX1_count rmX1_count [.ref (h 0), .int u] (vB D (mw h cI cZ A M) [(cI, .int), (cZ, .boolean)]) (aCo A u) := by
  refine ro_ofW (cc := cX1_count) (maxL := 4) (by decide) rfl (Nat.le_of_ble_eq_true rfl) ?_
  intro p e s m below meth c args Q hx hb hml hown hts hB hQ ls hl
  have hown : s.vm.findClass RX1 = some m.cls := hown
  obtain ⟨hP, hK⟩ := hB
  have hin0 : ∀ w ∈ u_ws RX1 TX1 13, w ∈ wsX1_count := fun _ h => List.mem_cons_of_mem _ (List.mem_append_right _ h)
  have hl : lv_has ls 4 [(0, .ref (h 0)), (1, .int u)] := hl
  have hF := hI.F
  have hT := hI.T
  have hK3 := hI.K
  have hJ := hI.J
  have hZ := hI.Z
  refine lv_iconst (v := nI 0) hx hb dX1_count_0 (by decide) ?_
  refine lv_istore_n (lv' := [(2, .int (nI 0)), (0, .ref (h 0)), (1, .int u)]) hx hb dX1_count_1 rfl hl (by decide) rfl (fun ls hl => ?_)
  refine lv_iload_n hx hb dX1_count_2 rfl (lv_at hl 2 rfl) ?_
  by_cases hw : iN u 8
  · obtain ⟨jw, hjw, rfl⟩ := iN_of hw (by decide) (by decide)
    rcases (show jw = 0 ∨ jw = 1 ∨ jw = 2 ∨ jw = 3 ∨ jw = 4 ∨ jw = 5 ∨ jw = 6 ∨ jw = 7 by omega) with rfl | rfl | rfl | rfl | rfl | rfl | rfl | rfl
    · refine lv_tableIn (off := 45) (tgt := 48) hx hb dX1_count_3 (by decide) (by decide) (by decide) (by decide) ?_
      refine lv_aload_n hx hb dX1_count_48 rfl (lv_at hl 1 rfl) ?_
      refine va_get (D := D) (ci := 1) (v := .int (nI (sF A))) (C := RX1) (T := TX1) (N := 13) hx hb hts hin0 hown hK hP 0 rfl rfl 0 (by decide) (hts (.fieldLink RX1 36 "VoicePartsModel" "tones" "I") (by decide +kernel)) (fun _ h9 => h9) rfl dX1_count_49 ?_
      exact hQ dX1_count_52 (by unfold aCo; rw [if_pos hw]; rfl)
    · refine lv_tableIn (off := 50) (tgt := 53) hx hb dX1_count_3 (by decide) (by decide) (by decide) (by decide) ?_
      refine lv_aload_n hx hb dX1_count_53 rfl (lv_at hl 1 rfl) ?_
      refine va_get (D := D) (ci := 1) (v := .int (nI (sT A))) (C := RX1) (T := TX1) (N := 13) hx hb hts hin0 hown hK hP 0 rfl rfl 1 (by decide) (hts (.fieldLink RX1 40 "VoicePartsModel" "times" "I") (by decide +kernel)) (fun _ h9 => h9) rfl dX1_count_54 ?_
      exact hQ dX1_count_57 (by unfold aCo; rw [if_pos hw]; rfl)
    · refine lv_tableIn (off := 55) (tgt := 58) hx hb dX1_count_3 (by decide) (by decide) (by decide) (by decide) ?_
      refine lv_aload_n hx hb dX1_count_58 rfl (lv_at hl 1 rfl) ?_
      refine va_get (D := D) (ci := 1) (v := .int (nI (sK A))) (C := RX1) (T := TX1) (N := 13) hx hb hts hin0 hown hK hP 0 rfl rfl 2 (by decide) (hts (.fieldLink RX1 43 "VoicePartsModel" "voices" "I") (by decide +kernel)) (fun _ h9 => h9) rfl dX1_count_59 ?_
      exact hQ dX1_count_62 (by unfold aCo; rw [if_pos hw]; rfl)
    · refine lv_tableIn (off := 60) (tgt := 63) hx hb dX1_count_3 (by decide) (by decide) (by decide) (by decide) ?_
      refine lv_aload_n hx hb dX1_count_63 rfl (lv_at hl 1 rfl) ?_
      refine va_get (D := D) (ci := 1) (v := .int (nI (sJ A))) (C := RX1) (T := TX1) (N := 13) hx hb hts hin0 hown hK hP 0 rfl rfl 7 (by decide) (hts (.fieldLink RX1 76 "VoicePartsModel" "judge" "I") (by decide +kernel)) (fun _ h9 => h9) rfl dX1_count_64 ?_
      exact hQ dX1_count_67 (by unfold aCo; rw [if_pos hw]; rfl)
    · refine lv_tableIn (off := 65) (tgt := 68) hx hb dX1_count_3 (by decide) (by decide) (by decide) (by decide) ?_
      refine lv_iconst (v := nI 0) hx hb dX1_count_68 (by decide) ?_
      refine lv_istore_n (lv' := [(3, .int (nI 0)), (2, .int (nI 0)), (0, .ref (h 0)), (1, .int (nI 4))]) hx hb dX1_count_69 rfl hl (by decide) rfl (fun ls hl => ?_)
      have lp70 : ∀ (n70 i : Nat), i + n70 = 48 → ∀ (ls : Array Slot), lv_has ls 4 [(0, .ref (h 0)), (1, .int (nI 4)), (2, .int (nI (cnt (fun j => sX A (j / 16) (j % 16)) i))), (3, .int (nI i))] → W p l e rmX1_count s m args below meth c s.heap [] 0 0 Q (F0 m 70 ls []) := by
        intro n70
        induction n70 with
        | zero =>
          intro i hi70 ls hl
          obtain rfl : 48 = i := by omega
          refine lv_iload_n hx hb dX1_count_70 rfl (lv_at hl 3 rfl) ?_
          refine lv_bipush (v := nI 48) hx hb dX1_count_71 (by decide) ?_
          refine n_icmp_ge (tgt := 99) hx hb (by omega) (by omega) dX1_count_73 (by decide) (fun c_73 => ?_) (fun c_73 => by exfalso; omega)
          refine lv_iload_n hx hb dX1_count_99 rfl (lv_at hl 2 rfl) ?_
          exact hQ dX1_count_100 (by unfold aCo; rw [if_pos hw, cnt48 hI.X]; rfl)
        | succ n70 ih70 =>
          intro i hi70 ls hl
          refine lv_iload_n hx hb dX1_count_70 rfl (lv_at hl 3 rfl) ?_
          refine lv_bipush (v := nI 48) hx hb dX1_count_71 (by decide) ?_
          refine n_icmp_ge (tgt := 99) hx hb (by omega) (by omega) dX1_count_73 (by decide) (fun c_73 => by exfalso; omega) (fun c_73 => ?_)
          refine lv_iload_n hx hb dX1_count_76 rfl (lv_at hl 2 rfl) ?_
          refine lv_aload_n hx hb dX1_count_77 rfl (lv_at hl 0 rfl) ?_
          refine va_get (D := D) (ci := 1) (v := .ref (h 3)) (C := RX1) (T := TX1) (N := 13) hx hb hts hin0 hown hK hP 0 rfl rfl 5 (by decide) (hts (.fieldLink RX1 16 "VoicePartsModel" "isBarred" "[Z") (by decide +kernel)) (fun _ h9 => h9) rfl dX1_count_78 ?_
          refine lv_iload_n hx hb dX1_count_81 rfl (lv_at hl 3 rfl) ?_
          refine n_zald hx hb hK hP 3 1 rfl rfl (by omega) (by decide) dX1_count_82 ?_
          refine b_if_eq (tgt := 90) hx hb dX1_count_83 (by decide) (fun c_83 => ?_) (fun c_83 => ?_)
          · refine lv_iconst (v := nI 0) hx hb dX1_count_90 (by decide) ?_
            refine n_iadd hx hb dX1_count_91 ?_
            refine n_top (y := nI (cnt (fun j => sX A (j / 16) (j % 16)) (i + 1))) (by rw [cnt_no (p := (fun j => sX A (j / 16) (j % 16))) (n := i) (Bool.eq_false_iff.mpr c_83)]; rfl) ?_
            refine lv_istore_n (lv' := [(2, .int (nI (cnt (fun j => sX A (j / 16) (j % 16)) (i + 1)))), (0, .ref (h 0)), (1, .int (nI 4)), (3, .int (nI i))]) hx hb dX1_count_92 rfl hl (by decide) rfl (fun ls hl => ?_)
            refine lv_iinc (v := nI (i + 1)) (lv' := [(3, .int (nI (i + 1))), (2, .int (nI (cnt (fun j => sX A (j / 16) (j % 16)) (i + 1)))), (0, .ref (h 0)), (1, .int (nI 4))]) hx hb dX1_count_93 hl (k := 3) rfl (nI_inc _) (by decide) rfl (fun ls hl => ?_)
            refine lv_goto (tgt := 70) hx hb dX1_count_96 (by decide) ?_
            exact ih70 (i + 1) (by omega) ls (lv_sub hl [2, 3, 1, 0] rfl)
          · refine lv_iconst (v := nI 1) hx hb dX1_count_86 (by decide) ?_
            refine lv_goto (tgt := 91) hx hb dX1_count_87 (by decide) ?_
            refine n_iadd hx hb dX1_count_91 ?_
            refine n_top (y := nI (cnt (fun j => sX A (j / 16) (j % 16)) (i + 1))) (by rw [cnt_yes (p := (fun j => sX A (j / 16) (j % 16))) (n := i) c_83]) ?_
            refine lv_istore_n (lv' := [(2, .int (nI (cnt (fun j => sX A (j / 16) (j % 16)) (i + 1)))), (0, .ref (h 0)), (1, .int (nI 4)), (3, .int (nI i))]) hx hb dX1_count_92 rfl hl (by decide) rfl (fun ls hl => ?_)
            refine lv_iinc (v := nI (i + 1)) (lv' := [(3, .int (nI (i + 1))), (2, .int (nI (cnt (fun j => sX A (j / 16) (j % 16)) (i + 1)))), (0, .ref (h 0)), (1, .int (nI 4))]) hx hb dX1_count_93 hl (k := 3) rfl (nI_inc _) (by decide) rfl (fun ls hl => ?_)
            refine lv_goto (tgt := 70) hx hb dX1_count_96 (by decide) ?_
            exact ih70 (i + 1) (by omega) ls (lv_sub hl [2, 3, 1, 0] rfl)
      exact lp70 (48) (0) (by omega) ls (lv_sub hl [2, 3, 1, 0] rfl)
    · refine lv_tableIn (off := 98) (tgt := 101) hx hb dX1_count_3 (by decide) (by decide) (by decide) (by decide) ?_
      refine lv_aload_n hx hb dX1_count_101 rfl (lv_at hl 1 rfl) ?_
      refine va_get (D := D) (ci := 1) (v := .ref (h 5)) (C := RX1) (T := TX1) (N := 13) hx hb hts hin0 hown hK hP 0 rfl rfl 9 (by decide) (hts (.fieldLink RX1 23 "VoicePartsModel" "heard" "[I") (by decide +kernel)) (fun _ h9 => h9) rfl dX1_count_102 ?_
      refine lv_iconst (v := nI 0) hx hb dX1_count_105 (by decide) ?_
      refine n_iald hx hb hK hP 5 0 rfl rfl (by omega) (by decide) dX1_count_106 ?_
      exact hQ dX1_count_107 (by unfold aCo; rw [if_pos hw]; rfl)
    · refine lv_tableIn (off := 105) (tgt := 108) hx hb dX1_count_3 (by decide) (by decide) (by decide) (by decide) ?_
      refine lv_aload_n hx hb dX1_count_108 rfl (lv_at hl 1 rfl) ?_
      refine va_get (D := D) (ci := 1) (v := .ref (h 5)) (C := RX1) (T := TX1) (N := 13) hx hb hts hin0 hown hK hP 0 rfl rfl 9 (by decide) (hts (.fieldLink RX1 23 "VoicePartsModel" "heard" "[I") (by decide +kernel)) (fun _ h9 => h9) rfl dX1_count_109 ?_
      refine lv_iconst (v := nI 1) hx hb dX1_count_112 (by decide) ?_
      refine n_iald hx hb hK hP 5 0 rfl rfl (by omega) (by decide) dX1_count_113 ?_
      exact hQ dX1_count_114 (by unfold aCo; rw [if_pos hw]; rfl)
    · refine lv_tableIn (off := 112) (tgt := 115) hx hb dX1_count_3 (by decide) (by decide) (by decide) (by decide) ?_
      refine lv_aload_n hx hb dX1_count_115 rfl (lv_at hl 1 rfl) ?_
      refine va_get (D := D) (ci := 1) (v := .int (sN A)) (C := RX1) (T := TX1) (N := 13) hx hb hts hin0 hown hK hP 0 rfl rfl 8 (by decide) (hts (.fieldLink RX1 101 "VoicePartsModel" "roundsDone" "I") (by decide +kernel)) (fun _ h9 => h9) rfl dX1_count_116 ?_
      exact hQ dX1_count_119 (by unfold aCo; rw [if_pos hw]; rfl)
  · refine lv_tableOut (tgt := 120) hx hb dX1_count_3 (by have z := iN_out hw (by decide) (by decide); omega) (by decide) ?_
    refine lv_iconst (v := (-1)) hx hb dX1_count_120 (by decide) ?_
    exact hQ dX1_count_121 (by unfold aCo; rw [if_neg hw])
end
section
/-! the middle one: by rank, and by a row in order -/
theorem i3_way (a b : Int32) : a < b ∨ a = b ∨ b < a := by
  rcases Int.lt_trichotomy a.toInt b.toInt with h | h | h
  · exact Or.inl (Int32.lt_iff_toInt_lt.mpr h)
  · exact Or.inr (Or.inl (Int32.toInt_inj.mp h))
  · exact Or.inr (Or.inr (Int32.lt_iff_toInt_lt.mpr h))
theorem cnt_sub {p q : Nat → Bool} : ∀ {n : Nat}, (∀ k, k < n → p k = true → q k = true) → cnt p n ≤ cnt q n
  | 0, _ => Nat.le_refl 0
  | n + 1, h => by
    have ih := cnt_sub (p := p) (q := q) (n := n) (fun k hk => h k (by omega))
    have h1 := h n (by omega)
    simp only [cnt]
    by_cases hp : p n = true
    · rw [if_pos hp, if_pos (h1 hp)]; omega
    · rw [if_neg hp]; omega
theorem cnt_ssub {p q : Nat → Bool} {j : Nat} : ∀ {n : Nat}, j < n → (∀ k, k < n → p k = true → q k = true) → q j = true → p j = false → cnt p n < cnt q n
  | 0, hj, _, _, _ => absurd hj (Nat.not_lt_zero j)
  | n + 1, hj, h, hq, hp => by
    by_cases e : j = n
    · subst e
      have h1 := cnt_sub (p := p) (q := q) (n := j) (fun k hk => h k (by omega))
      rw [cnt_yes hq, cnt_no hp]; omega
    · have ih := cnt_ssub (p := p) (q := q) (j := j) (n := n) (by omega) (fun k hk => h k (by omega)) hq hp
      have h1 := h n (by omega)
      simp only [cnt]
      by_cases hp : p n = true
      · rw [if_pos hp, if_pos (h1 hp)]; omega
      · rw [if_neg hp]; omega
theorem cnt_dis {p q r : Nat → Bool} : ∀ {n : Nat}, (∀ k, k < n → r k = (p k || q k)) → (∀ k, k < n → ¬ (p k = true ∧ q k = true)) → cnt r n = cnt p n + cnt q n
  | 0, _, _ => rfl
  | n + 1, h, hd => by
    have ih := cnt_dis (p := p) (q := q) (r := r) (n := n) (fun k hk => h k (by omega)) (fun k hk => hd k (by omega))
    have h1 := h n (by omega)
    have h2 := hd n (by omega)
    simp only [cnt]
    rw [h1, ih]
    cases hp : p n <;> cases hq : q n
    · simp
    · simp; omega
    · simp; omega
    · exact absurd ⟨hp, hq⟩ h2
theorem cnt_zero {p : Nat → Bool} : ∀ {n : Nat}, (∀ k, k < n → p k = false) → cnt p n = 0
  | 0, _ => rfl
  | n + 1, h => by rw [cnt_no (h n (by omega)), cnt_zero (fun k hk => h k (by omega))]
theorem cnt_all {p : Nat → Bool} : ∀ {n : Nat}, (∀ k, k < n → p k = true) → cnt p n = n
  | 0, _ => rfl
  | n + 1, h => by rw [cnt_yes (h n (by omega)), cnt_all (fun k hk => h k (by omega))]
theorem cnt_kth {p : Nat → Bool} {k : Nat} : ∀ {n : Nat}, k < cnt p n → ∃ i, i < n ∧ p i = true ∧ cnt p i = k
  | 0, h => absurd h (Nat.not_lt_zero k)
  | n + 1, h => by
    rcases Nat.lt_or_ge k (cnt p n) with q | q
    · obtain ⟨i, h1, h2⟩ := cnt_kth q
      exact ⟨i, by omega, h2⟩
    · by_cases hp : p n = true
      · rw [cnt_yes hp] at h
        exact ⟨n, by omega, hp, by omega⟩
      · rw [cnt_no (Bool.eq_false_iff.mpr hp)] at h
        omega
theorem cnt_cut {p : Nat → Bool} {u : Nat} : ∀ {n : Nat}, u ≤ n → cnt (fun o => p o && decide (o < u)) n = cnt p u
  | 0, h => by
    have e : u = 0 := by omega
    subst e; rfl
  | n + 1, h => by
    by_cases e : u = n + 1
    · subst e
      exact cnt_cong (fun k hk => by simp [hk])
    · have ih := cnt_cut (p := p) (u := u) (n := n) (by omega)
      rw [cnt_no (p := fun o => p o && decide (o < u)) (by simp; omega)]
      exact ih
def pos (g : Nat → Int32) (v : Int32) : Nat → Nat
  | 0 => 0
  | n + 1 => if v < g n then pos g v n else n + 1
def ins (g : Nat → Int32) (n : Nat) (v : Int32) : Nat → Int32 := fun i => if i < pos g v n then g i else if i = pos g v n then v else g (i - 1)
theorem pos_le (g : Nat → Int32) (v : Int32) : ∀ n, pos g v n ≤ n
  | 0 => Nat.le_refl 0
  | n + 1 => by
    have ih := pos_le g v n
    simp only [pos]
    split <;> omega
theorem pos_gt (g : Nat → Int32) (v : Int32) : ∀ n i, pos g v n ≤ i → i < n → v < g i
  | 0, i, _, h => absurd h (Nat.not_lt_zero i)
  | n + 1, i, h1, h2 => by
    by_cases q : v < g n
    · simp only [pos, if_pos q] at h1
      by_cases e : i = n
      · subst e; exact q
      · exact pos_gt g v n i h1 (by omega)
    · simp only [pos, if_neg q] at h1
      omega
theorem pos_low (g : Nat → Int32) (v : Int32) : ∀ n, 0 < pos g v n → ¬ v < g (pos g v n - 1)
  | 0, h => absurd h (Nat.lt_irrefl 0)
  | n + 1, h => by
    by_cases q : v < g n
    · simp only [pos, if_pos q] at h ⊢
      exact pos_low g v n h
    · simp only [pos, if_neg q]
      exact q
def srtd (g : Nat → Int32) (n : Nat) : Prop := ∀ i j, i ≤ j → j < n → g i ≤ g j
theorem ins_srtd {g : Nat → Int32} {n : Nat} {v : Int32} (h : srtd g n) : srtd (ins g n v) (n + 1) := by
  have hl := pos_le g v n
  have hg := pos_gt g v n
  have hw := pos_low g v n
  intro i j hij hj
  unfold ins
  generalize pos g v n = p at *
  by_cases i1 : i < p
  · rw [if_pos i1]
    have lo : g i ≤ v := by
      have h1 := Int32.not_lt.mp (hw (by omega))
      exact Int32.le_trans (h i (p - 1) (by omega) (by omega)) h1
    by_cases j1 : j < p
    · rw [if_pos j1]; exact h i j hij (by omega)
    · rw [if_neg j1]
      by_cases j2 : j = p
      · rw [if_pos j2]; exact lo
      · rw [if_neg j2]; exact h i (j - 1) (by omega) (by omega)
  · rw [if_neg i1, if_neg (show ¬ j < p by omega)]
    by_cases i2 : i = p
    · rw [if_pos i2]
      by_cases j2 : j = p
      · rw [if_pos j2]; exact Int32.le_refl v
      · rw [if_neg j2]; exact Int32.le_of_lt (hg (j - 1) (by omega) (by omega))
    · rw [if_neg i2, if_neg (show ¬ j = p by omega)]
      exact h (i - 1) (j - 1) (by omega) (by omega)
theorem ins_cnt (P : Int32 → Bool) (g : Nat → Int32) (n : Nat) (v : Int32) : cnt (fun i => P (ins g n v i)) (n + 1) = cnt (fun i => P (g i)) n + (if P v then 1 else 0) := by
  have hl := pos_le g v n
  unfold ins
  generalize pos g v n = p at *
  have a1 := cnt_split (fun i => P (if i < p then g i else if i = p then v else g (i - 1))) p (1 + (n - p))
  have a2 := cnt_split (fun j => P (if p + j < p then g (p + j) else if p + j = p then v else g (p + j - 1))) 1 (n - p)
  have a3 := cnt_split (fun i => P (g i)) p (n - p)
  rw [show p + (1 + (n - p)) = n + 1 by omega] at a1
  rw [show p + (n - p) = n by omega] at a3
  have b1 : cnt (fun i => P (if i < p then g i else if i = p then v else g (i - 1))) p = cnt (fun i => P (g i)) p := cnt_cong (fun k hk => by rw [if_pos hk])
  have b2 : cnt (fun j => P (if p + j < p then g (p + j) else if p + j = p then v else g (p + j - 1))) 1 = if P v then 1 else 0 := by
    show 0 + (if P (if p + 0 < p then g (p + 0) else if p + 0 = p then v else g (p + 0 - 1)) = true then 1 else 0) = _
    rw [if_neg (show ¬ p + 0 < p by omega), if_pos (show p + 0 = p by omega), Nat.zero_add]
  have b3 : cnt (fun j => P (if p + (1 + j) < p then g (p + (1 + j)) else if p + (1 + j) = p then v else g (p + (1 + j) - 1))) (n - p) = cnt (fun j => P (g (p + j))) (n - p) := cnt_cong (fun k hk => by rw [if_neg (show ¬ p + (1 + k) < p by omega), if_neg (show ¬ p + (1 + k) = p by omega), show p + (1 + k) - 1 = p + k by omega])
  rw [a1, b1, a2, b2, b3, a3]
  omega
def sg (A : St) (q f t : Nat) : Nat → Nat × (Nat → Int32)
  | 0 => (0, fun _ => 0)
  | o + 1 => if fis q t o = true then ((sg A q f t o).1 + 1, ins (sg A q f t o).2 (sg A q f t o).1 (sB A (f * 8 + o))) else sg A q f t o
theorem sg_all (A : St) (q f t : Nat) : ∀ o, (sg A q f t o).1 = cnt (fis q t) o ∧ srtd (sg A q f t o).2 (sg A q f t o).1 ∧ ∀ P : Int32 → Bool, cnt (fun i => P ((sg A q f t o).2 i)) (sg A q f t o).1 = cnt (fun u => fis q t u && P (sB A (f * 8 + u))) o
  | 0 => ⟨rfl, fun i j _ h => absurd h (Nat.not_lt_zero j), fun _ => rfl⟩
  | o + 1 => by
    obtain ⟨h1, h2, h3⟩ := sg_all A q f t o
    by_cases hf : fis q t o = true
    · simp only [sg, if_pos hf]
      refine ⟨by rw [cnt_yes hf, h1], ins_srtd h2, fun P => ?_⟩
      rw [ins_cnt, h3 P]
      simp only [cnt, hf, Bool.true_and]
    · simp only [sg, if_neg hf]
      have hf' : fis q t o = false := Bool.eq_false_iff.mpr hf
      refine ⟨by rw [cnt_no hf', h1], h2, fun P => ?_⟩
      rw [h3 P]
      simp only [cnt, hf', Bool.false_and]
      simp
def mbg (A : St) (q f t : Nat) : Int32 := (sg A q f t (sT A)).2 (fmi A q t)
theorem fbL_at {c : Nat → Bool} {g : Nat → Int32} {z : Int32} : ∀ (n o : Nat), (∃ u, o ≤ u ∧ u < o + n ∧ c u = true) → ∃ u, o ≤ u ∧ u < o + n ∧ c u = true ∧ fbL c g z n o = g u
  | 0, o, h => by obtain ⟨u, a, b, -⟩ := h; omega
  | n + 1, o, h => by
    by_cases hc : c o = true
    · exact ⟨o, Nat.le_refl o, by omega, hc, if_pos hc⟩
    · obtain ⟨u, a, b, e⟩ := h
      have hu : o ≠ u := fun q => hc (by rw [q]; exact e)
      obtain ⟨w, a2, b2, e2, r⟩ := fbL_at (g := g) (z := z) n (o + 1) ⟨u, by omega, by omega, e⟩
      refine ⟨w, by omega, by omega, e2, ?_⟩
      rw [fbL, if_neg hc]
      exact r
/-- by rank and by order: the same number -/
theorem med_eq {A : St} {q f t : Nat} (ht : t < sT A) : mbg A q f t = fbg A q f t := by
  obtain ⟨h1, h2, h3⟩ := sg_all A q f t (sT A)
  have hn : 1 ≤ cnt (fis q t) (sT A) := cnt_pos (j := t) (show _ = true from decide_eq_true rfl) ht
  have hmid : fmi A q t < (sg A q f t (sT A)).1 := by rw [h1]; unfold fmi; omega
  obtain ⟨m, em⟩ : ∃ m, m = mbg A q f t := ⟨_, rfl⟩
  have em2 : m = (sg A q f t (sT A)).2 (fmi A q t) := em
  have L1 : cnt (fun u => fis q t u && decide (sB A (f * 8 + u) < m)) (sT A) ≤ fmi A q t := by
    rw [← h3 (fun x => decide (x < m))]
    have a := cnt_split (fun i => decide ((sg A q f t (sT A)).2 i < m)) (fmi A q t) ((sg A q f t (sT A)).1 - fmi A q t)
    rw [show fmi A q t + ((sg A q f t (sT A)).1 - fmi A q t) = (sg A q f t (sT A)).1 by omega] at a
    have b : cnt (fun j => decide ((sg A q f t (sT A)).2 (fmi A q t + j) < m)) ((sg A q f t (sT A)).1 - fmi A q t) = 0 := cnt_zero (fun k hk => decide_eq_false (Int32.not_lt.mpr (by rw [em2]; exact h2 _ _ (by omega) (by omega))))
    have c := cnt_le (fun i => decide ((sg A q f t (sT A)).2 i < m)) (fmi A q t)
    omega
  have L2 : fmi A q t < cnt (fun u => fis q t u && decide (sB A (f * 8 + u) ≤ m)) (sT A) := by
    rw [← h3 (fun x => decide (x ≤ m))]
    have a := cnt_split (fun i => decide ((sg A q f t (sT A)).2 i ≤ m)) (fmi A q t + 1) ((sg A q f t (sT A)).1 - (fmi A q t + 1))
    rw [show fmi A q t + 1 + ((sg A q f t (sT A)).1 - (fmi A q t + 1)) = (sg A q f t (sT A)).1 by omega] at a
    have b : cnt (fun i => decide ((sg A q f t (sT A)).2 i ≤ m)) (fmi A q t + 1) = fmi A q t + 1 := cnt_all (fun k hk => decide_eq_true (by rw [em2]; exact h2 _ _ (by omega) (by omega)))
    omega
  have Le : cnt (fun u => fis q t u && decide (sB A (f * 8 + u) ≤ m)) (sT A) = cnt (fun u => fis q t u && decide (sB A (f * 8 + u) < m)) (sT A) + cnt (fun u => fis q t u && decide (sB A (f * 8 + u) = m)) (sT A) := by
    refine cnt_dis (fun k _ => ?_) (fun k _ z => ?_)
    · rcases i3_way (sB A (f * 8 + k)) m with z | z | z
      · simp [z, Int32.le_of_lt z]; exact fun y _ => y
      · simp [z, Int32.le_refl, Int32.lt_irrefl]
      · have y : ¬ sB A (f * 8 + k) ≤ m := Int32.not_le.mpr z
        have y2 : ¬ sB A (f * 8 + k) < m := fun w => y (Int32.le_of_lt w)
        have y3 : ¬ sB A (f * 8 + k) = m := fun w => y (by rw [w]; exact Int32.le_refl m)
        simp [y, y2, y3]
    · have a := z.1
      have b := z.2
      simp only [Bool.and_eq_true, decide_eq_true_eq] at a b
      rw [b.2] at a
      exact Int32.lt_irrefl a.2
  obtain ⟨u, hu, pu, cu⟩ := cnt_kth (p := fun u => fis q t u && decide (sB A (f * 8 + u) = m)) (k := fmi A q t - cnt (fun u => fis q t u && decide (sB A (f * 8 + u) < m)) (sT A)) (n := sT A) (by omega)
  have rank : ∀ v, t % q = v % q → frk A q f v = cnt (fun o => fis q t o && decide (sB A (f * 8 + o) < sB A (f * 8 + v))) (sT A) + cnt (fun o => (fis q t o && decide (sB A (f * 8 + o) = sB A (f * 8 + v))) && decide (o < v)) (sT A) := by
    intro v hv
    unfold frk
    refine cnt_dis (fun k _ => ?_) (fun k _ z => ?_)
    · unfold fra fis
      rw [← hv]
      by_cases a : t % q = k % q <;> by_cases b : sB A (f * 8 + k) < sB A (f * 8 + v) <;> by_cases c : sB A (f * 8 + k) = sB A (f * 8 + v) <;> by_cases d : k < v <;> simp [a, b, c, d]
    · have a := z.1
      have b := z.2
      simp only [Bool.and_eq_true, decide_eq_true_eq] at a b
      rw [b.1.2] at a
      exact Int32.lt_irrefl a.2
  simp only [Bool.and_eq_true, decide_eq_true_eq] at pu
  have pu1 : t % q = u % q := of_decide_eq_true pu.1
  have fu : fbc A q f t u = true := by
    refine decide_eq_true ⟨pu1, ?_⟩
    rw [rank u pu1, cnt_cut (Nat.le_of_lt hu), pu.2]
    omega
  obtain ⟨v, -, hv, fv, rv⟩ := fbL_at (c := fbc A q f t) (g := fun o => sB A (f * 8 + o)) (z := sB A (f * 8 + t)) (sT A) 0 ⟨u, Nat.zero_le u, by omega, fu⟩
  have hv : v < sT A := by omega
  have gv := of_decide_eq_true fv
  show mbg A q f t = fbL (fbc A q f t) (fun o => sB A (f * 8 + o)) (sB A (f * 8 + t)) (sT A) 0
  rw [rv, ← em]
  show m = sB A (f * 8 + v)
  have rk := rank v gv.1
  rw [gv.2] at rk
  have K1 : cnt (fun o => fis q t o && decide (sB A (f * 8 + o) < sB A (f * 8 + v))) (sT A) ≤ fmi A q t := by omega
  have K2 : fmi A q t < cnt (fun o => fis q t o && decide (sB A (f * 8 + o) ≤ sB A (f * 8 + v))) (sT A) := by
    have e := gv.2
    rw [← e]
    unfold frk
    refine cnt_ssub hv (fun k _ hk => ?_) ?_ ?_
    · have z := of_decide_eq_true hk
      simp only [Bool.and_eq_true, decide_eq_true_eq]
      refine ⟨decide_eq_true (gv.1.trans z.1), ?_⟩
      rcases z.2 with y | y
      · exact Int32.le_of_lt y
      · rw [y.1]; exact Int32.le_refl _
    · simp only [Bool.and_eq_true, decide_eq_true_eq]
      exact ⟨decide_eq_true gv.1, Int32.le_refl _⟩
    · refine decide_eq_false (fun z => ?_)
      rcases z.2 with y | y
      · exact Int32.lt_irrefl y
      · exact Nat.lt_irrefl v y.2
  rcases i3_way m (sB A (f * 8 + v)) with z | z | z
  · exfalso
    have c := cnt_sub (p := fun u => fis q t u && decide (sB A (f * 8 + u) ≤ m)) (q := fun o => fis q t o && decide (sB A (f * 8 + o) < sB A (f * 8 + v))) (n := sT A) (fun k _ hk => by
      simp only [Bool.and_eq_true, decide_eq_true_eq] at hk ⊢
      exact ⟨hk.1, Int32.lt_of_le_of_lt hk.2 z⟩)
    omega
  · exact z
  · exfalso
    have c := cnt_sub (p := fun o => fis q t o && decide (sB A (f * 8 + o) ≤ sB A (f * 8 + v))) (q := fun u => fis q t u && decide (sB A (f * 8 + u) < m)) (n := sT A) (fun k _ hk => by
      simp only [Bool.and_eq_true, decide_eq_true_eq] at hk ⊢
      exact ⟨hk.1, Int32.lt_of_le_of_lt hk.2 z⟩)
    omega
theorem sg_skip {A : St} {q f t o : Nat} (ho : o % q = t % q) : ∀ d, 1 ≤ d → d ≤ q → sg A q f t (o + d) = sg A q f t (o + 1)
  | 0, h, _ => absurd h (by decide)
  | 1, _, _ => rfl
  | d + 2, _, h => by
    have ih := sg_skip (A := A) (q := q) (f := f) (t := t) (o := o) ho (d + 1) (by omega) (by omega)
    have hn : ¬ fis q t (o + (d + 1)) = true := by
      intro z
      have z : t % q = (o + (d + 1)) % q := of_decide_eq_true z
      rw [← ho] at z
      have e : (o + (d + 1)) % q = (o % q + (d + 1) % q) % q := Nat.add_mod o (d + 1) q
      rw [Nat.mod_eq_of_lt (show d + 1 < q by omega)] at e
      have l := Nat.mod_lt o (show q > 0 by omega)
      by_cases w : o % q + (d + 1) < q
      · rw [Nat.mod_eq_of_lt w] at e; omega
      · have e2 : (o % q + (d + 1)) % q = o % q + (d + 1) - q := by
          rw [Nat.mod_eq_sub_mod (by omega), Nat.mod_eq_of_lt (by omega)]
        omega
    rw [← ih]
    show (if fis q t (o + (d + 1)) = true then _ else sg A q f t (o + (d + 1))) = _
    rw [if_neg hn]
theorem sg_none {A : St} {q f t : Nat} (hq : 0 < q) : ∀ d, d ≤ t % q → sg A q f t d = (0, fun _ => 0)
  | 0, _ => rfl
  | d + 1, h => by
    have ih := sg_none (A := A) (q := q) (f := f) (t := t) hq d (by omega)
    have l := Nat.mod_lt t hq
    have hn : ¬ fis q t d = true := by
      intro z
      have z : t % q = d % q := of_decide_eq_true z
      rw [Nat.mod_eq_of_lt (show d < q by omega)] at z
      omega
    show (if fis q t d = true then _ else sg A q f t d) = _
    rw [if_neg hn, ih]
theorem sg_step {A : St} {q f t o : Nat} (hq : 0 < q) (ho : o % q = t % q) (hT : o < sT A) : sg A q f t (min (o + q) (sT A)) = ((sg A q f t o).1 + 1, ins (sg A q f t o).2 (sg A q f t o).1 (sB A (f * 8 + o))) := by
  have e : min (o + q) (sT A) = o + min q (sT A - o) := by omega
  rw [e, sg_skip ho _ (by omega) (by omega)]
  show (if fis q t o = true then _ else _) = _
  rw [if_pos (show fis q t o = true from decide_eq_true ho.symm)]
theorem min_o {A : St} {o : Nat} (h : o < sT A) : min o (sT A) = o := by omega
theorem min_T {A : St} {o : Nat} (h : sT A ≤ o) : min o (sT A) = sT A := by omega
end
section
theorem ins_at {g M M1 : Nat → Int32} {n a : Nat} {v : Int32} (e : M1 = upd M a v) (hp : pos g v n = a) (hlo : ∀ i, i < a → M i = g i) (hhi : ∀ i, a < i → i ≤ n → M i = g (i - 1)) : ∀ i, i < n + 1 → M1 i = ins g n v i := by
  intro i hi
  rw [e]
  unfold upd ins
  rw [hp]
  by_cases z : i = a
  · rw [if_pos z, if_neg (by omega), if_pos z]
  · rw [if_neg z]
    by_cases y : i < a
    · rw [if_pos y]; exact hlo i y
    · rw [if_neg y, if_neg z]; exact hhi i (by omega) (by omega)
theorem sh_at {g M M1 : Nat → Int32} {n a : Nat} (e : M1 = upd M (a + 1) (g a)) (hhi : ∀ i, a + 1 < i → i ≤ n → M i = g (i - 1)) : ∀ i, a < i → i ≤ n → M1 i = g (i - 1) := by
  intro i h1 h2
  rw [e]
  unfold upd
  by_cases z : i = a + 1
  · rw [if_pos z, z]; rfl
  · rw [if_neg z]; exact hhi i (by omega) h2
def rmX1_backgroundOf : Room := { frames := 0, cells := 0, slots := 0, locals := 0 }
set_option maxHeartbeats 4000000 in
set_option maxRecDepth 100000 in
theorem kX1_backgroundOf (l : Launch) (D : va_G) (h : Nat → Nat) (cI cZ : ClassId) (A : St) (M : Nat → Int32) (hI : Inv A) (q f t : Nat) (hq : 0 < q) (hq9 : q < 9) (hf : f < 6) (ht : t < sT A) : MX l yX1_backgroundOf wsX1_backgroundOf rmX1_backgroundOf [.ref (h 0), .int (nI q), .int (nI f), .int (nI t)] D [(cI, .int), (cZ, .boolean)] (mw h cI cZ A M) (fun M => mw h cI cZ A M) (fbg A q f t) := by
  refine mx_ofW (cc := cX1_backgroundOf) (maxL := 8) (by decide) rfl (Nat.le_of_ble_eq_true rfl) ?_
  intro p e s m below meth c args Q G H locs hx hb hml hown hts hP hK hD hS hQ ls hl
  have hown : s.vm.findClass RX1 = some m.cls := hown
  have hin0 : ∀ w ∈ u_ws RX1 TX1 13, w ∈ wsX1_backgroundOf := fun _ h => List.mem_cons_of_mem _ (List.mem_append_right _ h)
  have hl : lv_has ls 8 [(0, .ref (h 0)), (1, .int (nI q)), (2, .int (nI f)), (3, .int (nI t))] := hl
  have hT := hI.T
  have lpO : ∀ (fu o n : Nat) (g M : Nat → Int32) (H : Heap) (locs : List Loc), sT A ≤ o + fu → o < 32 → o % q = t % q → sg A q f t (min o (sT A)) = (n, g) → (∀ i, i < n → M i = g i) → va_P D vwCl (mw h cI cZ A M) H → va_S G s.heap H locs → ∀ (ls : Array Slot), lv_has ls 8 [(0, .ref (h 0)), (1, .int (nI q)), (2, .int (nI f)), (3, .int (nI t)), (4, .int (nI n)), (5, .int (nI o))] → W p l e rmX1_backgroundOf s m args below meth c H locs 0 0 Q (F0 m 8 ls []) := by
    intro fu
    induction fu with
    | zero =>
      intro o n g M H locs hfu ho32 hom hsg hM hP hS ls hl
      have hD : va_D G (mw h cI cZ A M) := va_D.to hD rfl
      have e1 : sg A q f t (sT A) = (n, g) := by rw [min_T (by omega)] at hsg; exact hsg
      have e2 : n = cnt (fis q t) (sT A) := by have z := (sg_all A q f t (sT A)).1; rw [e1] at z; exact z
      have hn1 : 1 ≤ n := by rw [e2]; exact cnt_pos (j := t) (show _ = true from decide_eq_true rfl) ht
      have hn8 : n ≤ 8 := by have z := cnt_le (fis q t) (sT A); omega
      refine lv_iload hx hb dX1_backgroundOf_8 (lv_at hl 5 rfl) ?_
      refine lv_aload_n hx hb dX1_backgroundOf_10 rfl (lv_at hl 0 rfl) ?_
      refine va_get (D := D) (ci := 1) (v := .int (nI (sT A))) (C := RX1) (T := TX1) (N := 13) hx hb hts hin0 hown hK hP 0 rfl rfl 1 (by decide) (hts (.fieldLink RX1 40 "VoicePartsModel" "times" "I") (by decide +kernel)) (fun _ h9 => h9) rfl dX1_backgroundOf_11 ?_
      refine n_icmp_ge (tgt := 97) hx hb (by omega) (by omega) dX1_backgroundOf_14 (by decide) (fun c_14 => ?_) (fun c_14 => by exfalso; omega)
      refine lv_aload_n hx hb dX1_backgroundOf_97 rfl (lv_at hl 0 rfl) ?_
      refine va_get (D := D) (ci := 1) (v := .ref (h 7)) (C := RX1) (T := TX1) (N := 13) hx hb hts hin0 hown hK hP 0 rfl rfl 12 (by decide) (hts (.fieldLink RX1 29 "VoicePartsModel" "middle" "[I") (by decide +kernel)) (fun _ h9 => h9) rfl dX1_backgroundOf_98 ?_
      refine lv_iload hx hb dX1_backgroundOf_101 (lv_at hl 4 rfl) ?_
      refine lv_iconst (v := nI 1) hx hb dX1_backgroundOf_103 (by decide) ?_
      refine n_isub hx hb (hn1) dX1_backgroundOf_104 ?_
      refine lv_iconst (v := nI 2) hx hb dX1_backgroundOf_105 (by decide) ?_
      refine lv_idiv hx hb dX1_backgroundOf_106 (by decide) ?_
      refine n_top (y := nI ((n - 1) / 2)) (pk_div (by omega) (by decide) (by decide)) ?_
      refine n_iald hx hb hK hP 7 0 rfl rfl (by omega) (by decide) dX1_backgroundOf_107 ?_
      exact hQ dX1_backgroundOf_108 (by rw [hM _ (by omega), ← med_eq ht]; show g ((n - 1) / 2) = (sg A q f t (sT A)).2 ((cnt (fis q t) (sT A) - 1) / 2); rw [e1, ← e2]) (hP) hS
    | succ fu ih =>
      intro o n g M H locs hfu ho32 hom hsg hM hP hS ls hl
      have hD : va_D G (mw h cI cZ A M) := va_D.to hD rfl
      by_cases hoT : o < sT A
      · have e1 : sg A q f t o = (n, g) := by rw [min_o hoT] at hsg; exact hsg
        have hn8 : n < 8 := by have z := (sg_all A q f t o).1; rw [e1] at z; have y := cnt_le (fis q t) o; have z : n = cnt (fis q t) o := z; omega
        have hex : ∀ (a : Nat) (M : Nat → Int32) (H : Heap) (locs : List Loc) (ls : Array Slot), a ≤ n → pos g (sB A (f * 8 + o)) n = a → (∀ i, i < a → M i = g i) → (∀ i, a < i → i ≤ n → M i = g (i - 1)) → va_P D vwCl (mw h cI cZ A M) H → va_S G s.heap H locs → lv_has ls 8 [(0, .ref (h 0)), (1, .int (nI q)), (2, .int (nI f)), (3, .int (nI t)), (4, .int (nI n)), (5, .int (nI o)), (6, .int (sB A (f * 8 + o))), (7, .int (nI a))] → W p l e rmX1_backgroundOf s m args below meth c H locs 0 0 Q (F0 m 76 ls []) := by
          intro a M H locs ls ha hp hlo hhi hP hS hl
          have hD : va_D G (mw h cI cZ A M) := va_D.to hD rfl
          refine lv_aload_n hx hb dX1_backgroundOf_76 rfl (lv_at hl 0 rfl) ?_
          refine va_get (D := D) (ci := 1) (v := .ref (h 7)) (C := RX1) (T := TX1) (N := 13) hx hb hts hin0 hown hK hP 0 rfl rfl 12 (by decide) (hts (.fieldLink RX1 29 "VoicePartsModel" "middle" "[I") (by decide +kernel)) (fun _ h9 => h9) rfl dX1_backgroundOf_77 ?_
          refine lv_iload hx hb dX1_backgroundOf_80 (lv_at hl 7 rfl) ?_
          refine lv_iload hx hb dX1_backgroundOf_82 (lv_at hl 6 rfl) ?_
          refine n_iast hx hb hK hP hD hS 7 0 rfl rfl (by omega) (by decide) dX1_backgroundOf_84 (fun H locs hP hD hS => ?_)
          obtain ⟨M1, eM1⟩ : ∃ z : Nat → Int32, z = upd M (a) (sB A (f * 8 + o)) := ⟨_, rfl⟩
          have hP : va_P D vwCl (mw h cI cZ A M1) H := by rw [eM1]; exact hP
          have hD : va_D G (mw h cI cZ A M1) := va_D.to hD rfl
          refine lv_iinc (v := nI (n + 1)) (lv' := [(4, .int (nI (n + 1))), (0, .ref (h 0)), (1, .int (nI q)), (2, .int (nI f)), (3, .int (nI t)), (5, .int (nI o)), (6, .int (sB A (f * 8 + o))), (7, .int (nI a))]) hx hb dX1_backgroundOf_85 hl (k := 4) rfl (nI_inc _) (by decide) rfl (fun ls hl => ?_)
          refine lv_iload hx hb dX1_backgroundOf_88 (lv_at hl 5 rfl) ?_
          refine lv_iload_n hx hb dX1_backgroundOf_90 rfl (lv_at hl 2 rfl) ?_
          refine n_iadd hx hb dX1_backgroundOf_91 ?_
          refine lv_istore (lv' := [(5, .int (nI (o + q))), (4, .int (nI (n + 1))), (0, .ref (h 0)), (1, .int (nI q)), (2, .int (nI f)), (3, .int (nI t)), (6, .int (sB A (f * 8 + o))), (7, .int (nI a))]) hx hb dX1_backgroundOf_92 hl (by decide) rfl (fun ls hl => ?_)
          refine lv_goto (tgt := 8) hx hb dX1_backgroundOf_94 (by decide) ?_
          exact ih (o + q) (n + 1) (ins g n (sB A (f * 8 + o))) M1 H locs (by omega) (by omega) (by rw [Nat.add_mod_right]; exact hom) (by rw [sg_step hq hom hoT, e1]) (ins_at (a := a) (by rw [eM1]) hp hlo hhi) hP hS ls (lv_sub hl [2, 3, 4, 5, 1, 0] rfl)
        have hin : ∀ (a : Nat) (M : Nat → Int32) (H : Heap) (locs : List Loc) (ls : Array Slot), a ≤ n → pos g (sB A (f * 8 + o)) n = pos g (sB A (f * 8 + o)) a → (∀ i, i < a → M i = g i) → (∀ i, a < i → i ≤ n → M i = g (i - 1)) → va_P D vwCl (mw h cI cZ A M) H → va_S G s.heap H locs → lv_has ls 8 [(0, .ref (h 0)), (1, .int (nI q)), (2, .int (nI f)), (3, .int (nI t)), (4, .int (nI n)), (5, .int (nI o)), (6, .int (sB A (f * 8 + o))), (7, .int (nI a))] → W p l e rmX1_backgroundOf s m args below meth c H locs 0 0 Q (F0 m 35 ls []) := by
          intro a
          induction a with
          | zero =>
            intro M H locs ls ha hp hlo hhi hP hS hl
            refine lv_iload hx hb dX1_backgroundOf_35 (lv_at hl 7 rfl) ?_
            refine n_if_le (tgt := 76) hx hb (by omega) dX1_backgroundOf_37 (by decide) (fun c_37 => ?_) (fun c_37 => by exfalso; omega)
            exact hex 0 M H locs ls ha hp hlo hhi hP hS (lv_sub hl [0, 1, 2, 3, 4, 5, 6, 7] rfl)
          | succ a iha =>
            intro M H locs ls ha hp hlo hhi hP hS hl
            have hD : va_D G (mw h cI cZ A M) := va_D.to hD rfl
            refine lv_iload hx hb dX1_backgroundOf_35 (lv_at hl 7 rfl) ?_
            refine n_if_le (tgt := 76) hx hb (by omega) dX1_backgroundOf_37 (by decide) (fun c_37 => by exfalso; omega) (fun c_37 => ?_)
            refine lv_aload_n hx hb dX1_backgroundOf_40 rfl (lv_at hl 0 rfl) ?_
            refine va_get (D := D) (ci := 1) (v := .ref (h 7)) (C := RX1) (T := TX1) (N := 13) hx hb hts hin0 hown hK hP 0 rfl rfl 12 (by decide) (hts (.fieldLink RX1 29 "VoicePartsModel" "middle" "[I") (by decide +kernel)) (fun _ h9 => h9) rfl dX1_backgroundOf_41 ?_
            refine lv_iload hx hb dX1_backgroundOf_44 (lv_at hl 7 rfl) ?_
            refine lv_iconst (v := nI 1) hx hb dX1_backgroundOf_46 (by decide) ?_
            refine n_isub hx hb (by omega) dX1_backgroundOf_47 ?_
            refine n_top (y := nI a) (rfl) ?_
            refine n_iald hx hb hK hP 7 0 rfl rfl (by omega) (by decide) dX1_backgroundOf_48 ?_
            refine n_top (y := g a) (hlo a (by omega)) ?_
            refine lv_iload hx hb dX1_backgroundOf_49 (lv_at hl 6 rfl) ?_
            refine lv_icmp_le (tgt := 76) hx hb dX1_backgroundOf_51 (by decide) (fun c_51 => ?_) (fun c_51 => ?_)
            · exact hex (a + 1) M H locs ls ha (hp.trans (show pos g (sB A (f * 8 + o)) (a + 1) = a + 1 from if_neg (Int32.not_lt.mpr c_51))) hlo hhi hP hS (lv_sub hl [0, 1, 2, 3, 4, 5, 6, 7] rfl)
            · refine lv_aload_n hx hb dX1_backgroundOf_54 rfl (lv_at hl 0 rfl) ?_
              refine va_get (D := D) (ci := 1) (v := .ref (h 7)) (C := RX1) (T := TX1) (N := 13) hx hb hts hin0 hown hK hP 0 rfl rfl 12 (by decide) (hts (.fieldLink RX1 29 "VoicePartsModel" "middle" "[I") (by decide +kernel)) (fun _ h9 => h9) rfl dX1_backgroundOf_55 ?_
              refine lv_iload hx hb dX1_backgroundOf_58 (lv_at hl 7 rfl) ?_
              refine lv_aload_n hx hb dX1_backgroundOf_60 rfl (lv_at hl 0 rfl) ?_
              refine va_get (D := D) (ci := 1) (v := .ref (h 7)) (C := RX1) (T := TX1) (N := 13) hx hb hts hin0 hown hK hP 0 rfl rfl 12 (by decide) (hts (.fieldLink RX1 29 "VoicePartsModel" "middle" "[I") (by decide +kernel)) (fun _ h9 => h9) rfl dX1_backgroundOf_61 ?_
              refine lv_iload hx hb dX1_backgroundOf_64 (lv_at hl 7 rfl) ?_
              refine lv_iconst (v := nI 1) hx hb dX1_backgroundOf_66 (by decide) ?_
              refine n_isub hx hb (by omega) dX1_backgroundOf_67 ?_
              refine n_top (y := nI a) (rfl) ?_
              refine n_iald hx hb hK hP 7 0 rfl rfl (by omega) (by decide) dX1_backgroundOf_68 ?_
              refine n_top (y := g a) (hlo a (by omega)) ?_
              refine n_iast hx hb hK hP hD hS 7 0 rfl rfl (by omega) (by decide) dX1_backgroundOf_69 (fun H locs hP hD hS => ?_)
              obtain ⟨M2, eM2⟩ : ∃ z : Nat → Int32, z = upd M (a + 1) (g a) := ⟨_, rfl⟩
              have hP : va_P D vwCl (mw h cI cZ A M2) H := by rw [eM2]; exact hP
              have hD : va_D G (mw h cI cZ A M2) := va_D.to hD rfl
              refine lv_iinc (v := nI a) (lv' := [(7, .int (nI a)), (0, .ref (h 0)), (1, .int (nI q)), (2, .int (nI f)), (3, .int (nI t)), (4, .int (nI n)), (5, .int (nI o)), (6, .int (sB A (f * 8 + o)))]) hx hb dX1_backgroundOf_70 hl (k := 7) rfl (pk_m1 a) (by decide) rfl (fun ls hl => ?_)
              refine lv_goto (tgt := 35) hx hb dX1_backgroundOf_73 (by decide) ?_
              exact iha M2 H locs ls (by omega) (hp.trans (show pos g (sB A (f * 8 + o)) (a + 1) = pos g (sB A (f * 8 + o)) a from if_pos (Int32.not_le.mp c_51))) (fun i hi => by rw [eM2]; unfold upd; rw [if_neg (by omega)]; exact hlo i (by omega)) (sh_at (a := a) (by rw [eM2]) hhi) hP hS (lv_sub hl [1, 2, 3, 4, 5, 6, 7, 0] rfl)
        refine lv_iload hx hb dX1_backgroundOf_8 (lv_at hl 5 rfl) ?_
        refine lv_aload_n hx hb dX1_backgroundOf_10 rfl (lv_at hl 0 rfl) ?_
        refine va_get (D := D) (ci := 1) (v := .int (nI (sT A))) (C := RX1) (T := TX1) (N := 13) hx hb hts hin0 hown hK hP 0 rfl rfl 1 (by decide) (hts (.fieldLink RX1 40 "VoicePartsModel" "times" "I") (by decide +kernel)) (fun _ h9 => h9) rfl dX1_backgroundOf_11 ?_
        refine n_icmp_ge (tgt := 97) hx hb (by omega) (by omega) dX1_backgroundOf_14 (by decide) (fun c_14 => by exfalso; omega) (fun c_14 => ?_)
        refine lv_aload_n hx hb dX1_backgroundOf_17 rfl (lv_at hl 0 rfl) ?_
        refine va_get (D := D) (ci := 1) (v := .ref (h 1)) (C := RX1) (T := TX1) (N := 13) hx hb hts hin0 hown hK hP 0 rfl rfl 3 (by decide) (hts (.fieldLink RX1 7 "VoicePartsModel" "board" "[I") (by decide +kernel)) (fun _ h9 => h9) rfl dX1_backgroundOf_18 ?_
        refine lv_bipush (v := nI 8) hx hb dX1_backgroundOf_21 (by decide) ?_
        refine lv_iload_n hx hb dX1_backgroundOf_23 rfl (lv_at hl 2 rfl) ?_
        refine n_imulc hx hb dX1_backgroundOf_24 ?_
        refine lv_iload hx hb dX1_backgroundOf_25 (lv_at hl 5 rfl) ?_
        refine n_iadd hx hb dX1_backgroundOf_27 ?_
        refine n_iald hx hb hK hP 1 0 rfl rfl (by omega) (by decide) dX1_backgroundOf_28 ?_
        refine lv_istore (lv' := [(6, .int (sB A (f * 8 + o))), (0, .ref (h 0)), (1, .int (nI q)), (2, .int (nI f)), (3, .int (nI t)), (4, .int (nI n)), (5, .int (nI o))]) hx hb dX1_backgroundOf_29 hl (by decide) rfl (fun ls hl => ?_)
        refine lv_iload hx hb dX1_backgroundOf_31 (lv_at hl 5 rfl) ?_
        refine lv_istore (lv' := [(7, .int (nI n)), (6, .int (sB A (f * 8 + o))), (0, .ref (h 0)), (1, .int (nI q)), (2, .int (nI f)), (3, .int (nI t)), (4, .int (nI n)), (5, .int (nI o))]) hx hb dX1_backgroundOf_33 hl (by decide) rfl (fun ls hl => ?_)
        exact hin n M H locs ls (Nat.le_refl n) rfl hM (fun i h1 h2 => absurd h1 (by omega)) hP hS (lv_sub hl [2, 3, 4, 5, 6, 7, 1, 0] rfl)
      · have e1 : sg A q f t (sT A) = (n, g) := by rw [min_T (by omega)] at hsg; exact hsg
        have e2 : n = cnt (fis q t) (sT A) := by have z := (sg_all A q f t (sT A)).1; rw [e1] at z; exact z
        have hn1 : 1 ≤ n := by rw [e2]; exact cnt_pos (j := t) (show _ = true from decide_eq_true rfl) ht
        have hn8 : n ≤ 8 := by have z := cnt_le (fis q t) (sT A); omega
        refine lv_iload hx hb dX1_backgroundOf_8 (lv_at hl 5 rfl) ?_
        refine lv_aload_n hx hb dX1_backgroundOf_10 rfl (lv_at hl 0 rfl) ?_
        refine va_get (D := D) (ci := 1) (v := .int (nI (sT A))) (C := RX1) (T := TX1) (N := 13) hx hb hts hin0 hown hK hP 0 rfl rfl 1 (by decide) (hts (.fieldLink RX1 40 "VoicePartsModel" "times" "I") (by decide +kernel)) (fun _ h9 => h9) rfl dX1_backgroundOf_11 ?_
        refine n_icmp_ge (tgt := 97) hx hb (by omega) (by omega) dX1_backgroundOf_14 (by decide) (fun c_14 => ?_) (fun c_14 => by exfalso; omega)
        refine lv_aload_n hx hb dX1_backgroundOf_97 rfl (lv_at hl 0 rfl) ?_
        refine va_get (D := D) (ci := 1) (v := .ref (h 7)) (C := RX1) (T := TX1) (N := 13) hx hb hts hin0 hown hK hP 0 rfl rfl 12 (by decide) (hts (.fieldLink RX1 29 "VoicePartsModel" "middle" "[I") (by decide +kernel)) (fun _ h9 => h9) rfl dX1_backgroundOf_98 ?_
        refine lv_iload hx hb dX1_backgroundOf_101 (lv_at hl 4 rfl) ?_
        refine lv_iconst (v := nI 1) hx hb dX1_backgroundOf_103 (by decide) ?_
        refine n_isub hx hb (hn1) dX1_backgroundOf_104 ?_
        refine lv_iconst (v := nI 2) hx hb dX1_backgroundOf_105 (by decide) ?_
        refine lv_idiv hx hb dX1_backgroundOf_106 (by decide) ?_
        refine n_top (y := nI ((n - 1) / 2)) (pk_div (by omega) (by decide) (by decide)) ?_
        refine n_iald hx hb hK hP 7 0 rfl rfl (by omega) (by decide) dX1_backgroundOf_107 ?_
        exact hQ dX1_backgroundOf_108 (by rw [hM _ (by omega), ← med_eq ht]; show g ((n - 1) / 2) = (sg A q f t (sT A)).2 ((cnt (fis q t) (sT A) - 1) / 2); rw [e1, ← e2]) (hP) hS
  refine lv_iconst (v := nI 0) hx hb dX1_backgroundOf_0 (by decide) ?_
  refine lv_istore (lv' := [(4, .int (nI 0)), (0, .ref (h 0)), (1, .int (nI q)), (2, .int (nI f)), (3, .int (nI t))]) hx hb dX1_backgroundOf_1 hl (by decide) rfl (fun ls hl => ?_)
  refine lv_iload_n hx hb dX1_backgroundOf_3 rfl (lv_at hl 4 rfl) ?_
  refine lv_iload_n hx hb dX1_backgroundOf_4 rfl (lv_at hl 2 rfl) ?_
  refine lv_irem hx hb dX1_backgroundOf_5 (fun z => by have z2 := (nI_eq (a := q) (b := 0) (by omega) (by decide)).mp z; omega) ?_
  refine n_top (y := nI (t % q)) (pk_rem (by omega) hq (by omega)) ?_
  refine lv_istore (lv' := [(5, .int (nI (t % q))), (4, .int (nI 0)), (0, .ref (h 0)), (1, .int (nI q)), (2, .int (nI f)), (3, .int (nI t))]) hx hb dX1_backgroundOf_6 hl (by decide) rfl (fun ls hl => ?_)
  exact lpO (sT A) (t % q) 0 (fun _ => 0) M H locs (by omega) (by have z := Nat.mod_le t q; omega) (Nat.mod_mod t q) (by rw [min_o (by have z := Nat.mod_le t q; omega), sg_none hq _ (Nat.le_refl _)]) (fun i hi => absurd hi (Nat.not_lt_zero i)) hP hS ls (lv_sub hl [2, 3, 4, 5, 1, 0] rfl)
end
section
theorem fbL_is {c : Nat → Bool} {g : Nat → Int32} {z : Int32} : ∀ (n o : Nat), (∃ u, fbL c g z n o = g u) ∨ fbL c g z n o = z
  | 0, _ => Or.inr rfl
  | n + 1, o => by
    by_cases hc : c o = true
    · exact Or.inl ⟨o, if_pos hc⟩
    · rw [fbL, if_neg hc]
      exact fbL_is n (o + 1)
theorem fbg_in {A : St} (hI : Inv A) (q f t : Nat) : 0 ≤ (fbg A q f t).toInt ∧ (fbg A q f t).toInt ≤ 99 := by
  rcases fbL_is (c := fbc A q f t) (g := fun o => sB A (f * 8 + o)) (z := sB A (f * 8 + t)) (sT A) 0 with ⟨u, hu⟩ | hu
  · unfold fbg; rw [hu]; exact hI.B _
  · unfold fbg; rw [hu]; exact hI.B _
/-- the size of a difference -/
theorem fab_in {x y : Int32} {a b : Nat} (hx : 0 ≤ x.toInt ∧ x.toInt ≤ a) (hy : 0 ≤ y.toInt ∧ y.toInt ≤ b) (h : (a : Int) + b < 2147483647) : 0 ≤ (fab (x - y)).toInt ∧ (fab (x - y)).toInt ≤ (a : Int) + b := by
  have e := Int32_toInt_sub_of (x := x) (y := y) (by omega) (by omega)
  have z : (0 : Int32).toInt = 0 := by decide
  unfold fab
  split
  · next q =>
    have q := Int32.le_iff_toInt_le.mp q
    omega
  · next q =>
    have q : ¬ (0 : Int32).toInt ≤ (x - y).toInt := fun w => q (Int32.le_iff_toInt_le.mpr w)
    have e2 := Int32_toInt_sub_of (x := 0) (y := x - y) (by omega) (by omega)
    omega
theorem l_sum_in2 {g : Nat → Int32} {c N n : Nat} (hn : n ≤ N) (h : ∀ k, k < n → 0 ≤ (g k).toInt ∧ (g k).toInt ≤ c) (hc : (N : Int) * c < 2147483648) : 0 ≤ (l_sum g n).toInt ∧ (l_sum g n).toInt ≤ ((N * c : Nat) : Int) := by
  have e : (n : Int) * c ≤ (N : Int) * c := Int.mul_le_mul_of_nonneg_right (by omega) (by omega)
  have h1 := l_sum_in h (by omega)
  rw [Int.natCast_mul]
  omega
theorem fpr_nn {A : St} (hI : Inv A) {q : Nat} (hq : q ≤ 9) : ¬ fpr A q < 0 := by
  have hF := hI.F
  have hT := hI.T
  intro z
  have z := Int32.lt_iff_toInt_lt.mp z
  have e0 : (0 : Int32).toInt = 0 := by decide
  unfold fpr at z
  rw [acc2_eq] at z
  have h1 : ∀ f, f < sF A → 0 ≤ (l_sum (fun t => fab (sB A (f * 8 + t) - fbg A q f t)) (sT A)).toInt ∧ (l_sum (fun t => fab (sB A (f * 8 + t) - fbg A q f t)) (sT A)).toInt ≤ ((8 * 198 : Nat) : Int) := fun f _ => l_sum_in2 hT.2 (fun k _ => fab_in (a := 99) (b := 99) (hI.B _) (fbg_in hI q f k) (by decide)) (by decide)
  have h2 := l_sum_in2 (N := 6) hF.2 h1 (by decide)
  have h3 : q * sF A ≤ 9 * 6 := Nat.mul_le_mul hq hF.2
  have h4 : (nI (q * sF A)).toInt = ((q * sF A : Nat) : Int) := nI_toInt (by omega)
  rw [Int32_toInt_add_of (by omega) (by omega)] at z
  omega
theorem fbp_keep {pr : Nat → Int32} {i : Nat} (h : ¬ i = 0) (hc : ¬ pr (i + 1) < pr (fbp pr (i - 1))) : fbp pr (i + 1 - 1) = fbp pr (i - 1) := by
  obtain ⟨j, rfl⟩ : ∃ j, i = j + 1 := ⟨i - 1, by omega⟩
  exact if_neg hc
theorem fbp_take {pr : Nat → Int32} {i : Nat} (h : ¬ i = 0) (hc : pr (i + 1) < pr (fbp pr (i - 1))) : fbp pr (i + 1 - 1) = i + 1 := by
  obtain ⟨j, rfl⟩ : ∃ j, i = j + 1 := ⟨i - 1, by omega⟩
  exact if_pos hc
end
section
def rmX1_bestPeriod : Room := { frames := 1, cells := 0, slots := 0, locals := 27 }
set_option maxHeartbeats 4000000 in
set_option maxRecDepth 100000 in
theorem kX1_bestPeriod (l : Launch) (D : va_G) (h : Nat → Nat) (cI cZ : ClassId) (A : St) (M : Nat → Int32) (hI : Inv A) : MX l yX1_bestPeriod wsX1_bestPeriod rmX1_bestPeriod [.ref (h 0)] D [(cI, .int), (cZ, .boolean)] (mw h cI cZ A M) (fun M => mw h cI cZ A M) (nI (fpe A)) := by
  refine mx_ofW (cc := cX1_bestPeriod) (maxL := 7) (by decide) rfl (Nat.le_of_ble_eq_true rfl) ?_
  intro p e s m below meth c args Q G H locs hx hb hml hown hts hP hK hD hS hQ ls hl
  have hown : s.vm.findClass RX1 = some m.cls := hown
  have hin0 : ∀ w ∈ u_ws RX1 TX1 13, w ∈ wsX1_bestPeriod := fun _ h => List.mem_cons_of_mem _ (List.mem_append_right _ h)
  have hl : lv_has ls 7 [(0, .ref (h 0))] := hl
  have hF := hI.F
  have hT := hI.T
  have hK3 := hI.K
  have hJ := hI.J
  have hZ := hI.Z
  refine lv_iconst (v := nI 1) hx hb dX1_bestPeriod_0 (by decide) ?_
  refine lv_istore_n (lv' := [(1, .int (nI 1)), (0, .ref (h 0))]) hx hb dX1_bestPeriod_1 rfl hl (by decide) rfl (fun ls hl => ?_)
  refine lv_iconst (v := (-1)) hx hb dX1_bestPeriod_2 (by decide) ?_
  refine lv_istore_n (lv' := [(2, .int (-1)), (1, .int (nI 1)), (0, .ref (h 0))]) hx hb dX1_bestPeriod_3 rfl hl (by decide) rfl (fun ls hl => ?_)
  refine lv_iconst (v := nI 1) hx hb dX1_bestPeriod_4 (by decide) ?_
  refine lv_istore_n (lv' := [(3, .int (nI 1)), (2, .int (-1)), (1, .int (nI 1)), (0, .ref (h 0))]) hx hb dX1_bestPeriod_5 rfl hl (by decide) rfl (fun ls hl => ?_)
  have lp6 : ∀ (n6 i : Nat), i + n6 = sT A → ∀ (M : Nat → Int32) (H : Heap) (locs : List Loc), va_P D vwCl (mw h cI cZ A M) H → va_S G s.heap H locs → ∀ (ls : Array Slot), lv_has ls 7 [(0, .ref (h 0)), (1, .int (nI (fbp (fpr A) (i - 1)))), (2, .int (if i = 0 then (-1) else fpr A (fbp (fpr A) (i - 1)))), (3, .int (nI (i + 1)))] → W p l e rmX1_bestPeriod s m args below meth c H locs 0 0 Q (F0 m 6 ls []) := by
    intro n6
    induction n6 with
    | zero =>
      intro i hi6 M H locs hP hS ls hl
      obtain rfl : sT A = i := by omega
      have hD : va_D G (mw h cI cZ A M) := va_D.to hD rfl
      refine lv_iload_n hx hb dX1_bestPeriod_6 rfl (lv_at hl 3 rfl) ?_
      refine lv_aload_n hx hb dX1_bestPeriod_7 rfl (lv_at hl 0 rfl) ?_
      refine va_get (D := D) (ci := 1) (v := .int (nI (sT A))) (C := RX1) (T := TX1) (N := 13) hx hb hts hin0 hown hK hP 0 rfl rfl 1 (by decide) (hts (.fieldLink RX1 40 "VoicePartsModel" "times" "I") (by decide +kernel)) (fun _ h9 => h9) rfl dX1_bestPeriod_8 ?_
      refine n_icmp_gt (tgt := 128) hx hb (by omega) (by omega) dX1_bestPeriod_11 (by decide) (fun c_11 => ?_) (fun c_11 => by exfalso; omega)
      refine lv_iload_n hx hb dX1_bestPeriod_128 rfl (lv_at hl 1 rfl) ?_
      exact hQ dX1_bestPeriod_129 (rfl) (hP) hS
    | succ n6 ih6 =>
      intro i hi6 M H locs hP hS ls hl
      have hD : va_D G (mw h cI cZ A M) := va_D.to hD rfl
      refine lv_iload_n hx hb dX1_bestPeriod_6 rfl (lv_at hl 3 rfl) ?_
      refine lv_aload_n hx hb dX1_bestPeriod_7 rfl (lv_at hl 0 rfl) ?_
      refine va_get (D := D) (ci := 1) (v := .int (nI (sT A))) (C := RX1) (T := TX1) (N := 13) hx hb hts hin0 hown hK hP 0 rfl rfl 1 (by decide) (hts (.fieldLink RX1 40 "VoicePartsModel" "times" "I") (by decide +kernel)) (fun _ h9 => h9) rfl dX1_bestPeriod_8 ?_
      refine n_icmp_gt (tgt := 128) hx hb (by omega) (by omega) dX1_bestPeriod_11 (by decide) (fun c_11 => by exfalso; omega) (fun c_11 => ?_)
      refine lv_iload_n hx hb dX1_bestPeriod_14 rfl (lv_at hl 3 rfl) ?_
      refine lv_aload_n hx hb dX1_bestPeriod_15 rfl (lv_at hl 0 rfl) ?_
      refine va_get (D := D) (ci := 1) (v := .int (nI (sF A))) (C := RX1) (T := TX1) (N := 13) hx hb hts hin0 hown hK hP 0 rfl rfl 0 (by decide) (hts (.fieldLink RX1 36 "VoicePartsModel" "tones" "I") (by decide +kernel)) (fun _ h9 => h9) rfl dX1_bestPeriod_16 ?_
      refine n_imul hx hb dX1_bestPeriod_19 ?_
      refine lv_istore (lv' := [(4, .int (nI ((i + 1) * (sF A)))), (0, .ref (h 0)), (1, .int (nI (fbp (fpr A) (i - 1)))), (2, .int (if i = 0 then (-1) else fpr A (fbp (fpr A) (i - 1)))), (3, .int (nI (i + 1)))]) hx hb dX1_bestPeriod_20 hl (by decide) rfl (fun ls hl => ?_)
      refine lv_iconst (v := nI 0) hx hb dX1_bestPeriod_22 (by decide) ?_
      refine lv_istore (lv' := [(5, .int (nI 0)), (4, .int (nI ((i + 1) * (sF A)))), (0, .ref (h 0)), (1, .int (nI (fbp (fpr A) (i - 1)))), (2, .int (if i = 0 then (-1) else fpr A (fbp (fpr A) (i - 1)))), (3, .int (nI (i + 1)))]) hx hb dX1_bestPeriod_23 hl (by decide) rfl (fun ls hl => ?_)
      have lp25 : ∀ (n25 f : Nat), f + n25 = sF A → ∀ (M : Nat → Int32) (H : Heap) (locs : List Loc), va_P D vwCl (mw h cI cZ A M) H → va_S G s.heap H locs → ∀ (ls : Array Slot), lv_has ls 7 [(0, .ref (h 0)), (1, .int (nI (fbp (fpr A) (i - 1)))), (2, .int (if i = 0 then (-1) else fpr A (fbp (fpr A) (i - 1)))), (3, .int (nI (i + 1))), (4, .int (acc2 (nI ((i + 1) * sF A)) (fun f t => fab (sB A (f * 8 + t) - fbg A (i + 1) f t)) (sT A) f)), (5, .int (nI f))] → W p l e rmX1_bestPeriod s m args below meth c H locs 0 0 Q (F0 m 25 ls []) := by
        intro n25
        induction n25 with
        | zero =>
          intro f hi25 M H locs hP hS ls hl
          obtain rfl : sF A = f := by omega
          have hD : va_D G (mw h cI cZ A M) := va_D.to hD rfl
          refine lv_iload hx hb dX1_bestPeriod_25 (lv_at hl 5 rfl) ?_
          refine lv_aload_n hx hb dX1_bestPeriod_27 rfl (lv_at hl 0 rfl) ?_
          refine va_get (D := D) (ci := 1) (v := .int (nI (sF A))) (C := RX1) (T := TX1) (N := 13) hx hb hts hin0 hown hK hP 0 rfl rfl 0 (by decide) (hts (.fieldLink RX1 36 "VoicePartsModel" "tones" "I") (by decide +kernel)) (fun _ h9 => h9) rfl dX1_bestPeriod_28 ?_
          refine n_icmp_ge (tgt := 89) hx hb (by omega) (by omega) dX1_bestPeriod_31 (by decide) (fun c_31 => ?_) (fun c_31 => by exfalso; omega)
          have hl : lv_has ls 7 [(0, .ref (h 0)), (1, .int (nI (fbp (fpr A) (i - 1)))), (2, .int (if i = 0 then (-1) else fpr A (fbp (fpr A) (i - 1)))), (3, .int (nI (i + 1))), (4, .int (fpr A (i + 1))), (5, .int (nI (sF A)))] := by skip; exact hl
          by_cases hi0 : i = 0
          · have e0 : (if i = 0 then (-1) else fpr A (fbp (fpr A) (i - 1))) = (-1) := if_pos hi0
            have hl : lv_has ls 7 [(0, .ref (h 0)), (1, .int (nI (fbp (fpr A) (i - 1)))), (2, .int (-1)), (3, .int (nI (i + 1))), (4, .int (fpr A (i + 1))), (5, .int (nI (sF A)))] := by rw [← e0]; exact hl
            have hl : lv_has ls 7 [(0, .ref (h 0)), (1, .int (nI (fbp (fpr A) (i - 1)))), (2, .int (-1)), (3, .int (nI (i + 1))), (4, .int (fpr A (i + 1))), (5, .int (nI (sF A)))] := by skip; exact hl
            refine lv_iload_n hx hb dX1_bestPeriod_89 rfl (lv_at hl 2 rfl) ?_
            refine lv_if_lt (tgt := 99) hx hb dX1_bestPeriod_90 (by decide) (fun c_90 => ?_) (fun c_90 => absurd (by decide) c_90)
            refine lv_iload_n hx hb dX1_bestPeriod_99 rfl (lv_at hl 3 rfl) ?_
            refine lv_goto (tgt := 104) hx hb dX1_bestPeriod_100 (by decide) ?_
            refine lv_istore_n (lv' := [(1, .int (nI (i + 1))), (0, .ref (h 0)), (2, .int (-1)), (3, .int (nI (i + 1))), (4, .int (fpr A (i + 1))), (5, .int (nI (sF A)))]) hx hb dX1_bestPeriod_104 rfl hl (by decide) rfl (fun ls hl => ?_)
            refine lv_iload_n hx hb dX1_bestPeriod_105 rfl (lv_at hl 2 rfl) ?_
            refine lv_if_lt (tgt := 115) hx hb dX1_bestPeriod_106 (by decide) (fun c_106 => ?_) (fun c_106 => absurd (by decide) c_106)
            refine lv_iload hx hb dX1_bestPeriod_115 (lv_at hl 4 rfl) ?_
            refine lv_goto (tgt := 121) hx hb dX1_bestPeriod_117 (by decide) ?_
            refine lv_istore_n (lv' := [(2, .int (fpr A (i + 1))), (1, .int (nI (i + 1))), (0, .ref (h 0)), (3, .int (nI (i + 1))), (4, .int (fpr A (i + 1))), (5, .int (nI (sF A)))]) hx hb dX1_bestPeriod_121 rfl hl (by decide) rfl (fun ls hl => ?_)
            have hl : lv_has ls 7 [(2, .int (if i + 1 = 0 then (-1) else fpr A (fbp (fpr A) (i + 1 - 1)))), (1, .int (nI (fbp (fpr A) (i + 1 - 1)))), (0, .ref (h 0)), (3, .int (nI (i + 1))), (4, .int (fpr A (i + 1))), (5, .int (nI (sF A)))] := by rw [if_neg (show ¬ i + 1 = 0 by omega), show fbp (fpr A) (i + 1 - 1) = i + 1 from by rw [hi0]; rfl]; exact hl
            refine lv_iinc (v := nI (i + 1 + 1)) (lv' := [(3, .int (nI (i + 1 + 1))), (2, .int (if i + 1 = 0 then (-1) else fpr A (fbp (fpr A) (i + 1 - 1)))), (1, .int (nI (fbp (fpr A) (i + 1 - 1)))), (0, .ref (h 0)), (4, .int (fpr A (i + 1))), (5, .int (nI (sF A)))]) hx hb dX1_bestPeriod_122 hl (k := 3) rfl (nI_inc _) (by decide) rfl (fun ls hl => ?_)
            refine lv_goto (tgt := 6) hx hb dX1_bestPeriod_125 (by decide) ?_
            exact ih6 (i + 1) (by omega) M H locs (hP) hS ls (lv_sub hl [3, 2, 1, 0] rfl)
          · have e0 : (if i = 0 then (-1) else fpr A (fbp (fpr A) (i - 1))) = fpr A (fbp (fpr A) (i - 1)) := if_neg hi0
            have hl : lv_has ls 7 [(0, .ref (h 0)), (1, .int (nI (fbp (fpr A) (i - 1)))), (2, .int (fpr A (fbp (fpr A) (i - 1)))), (3, .int (nI (i + 1))), (4, .int (fpr A (i + 1))), (5, .int (nI (sF A)))] := by rw [← e0]; exact hl
            have hfb := fbp_in (fpr A) (i - 1)
            have hl : lv_has ls 7 [(0, .ref (h 0)), (1, .int (nI (fbp (fpr A) (i - 1)))), (2, .int (fpr A (fbp (fpr A) (i - 1)))), (3, .int (nI (i + 1))), (4, .int (fpr A (i + 1))), (5, .int (nI (sF A)))] := by skip; exact hl
            refine lv_iload_n hx hb dX1_bestPeriod_89 rfl (lv_at hl 2 rfl) ?_
            refine lv_if_lt (tgt := 99) hx hb dX1_bestPeriod_90 (by decide) (fun c_90 => absurd c_90 (fpr_nn hI (by omega))) (fun c_90 => ?_)
            refine lv_iload hx hb dX1_bestPeriod_93 (lv_at hl 4 rfl) ?_
            refine lv_iload_n hx hb dX1_bestPeriod_95 rfl (lv_at hl 2 rfl) ?_
            refine lv_icmp_ge (tgt := 103) hx hb dX1_bestPeriod_96 (by decide) (fun c_96 => ?_) (fun c_96 => ?_)
            · refine lv_iload_n hx hb dX1_bestPeriod_103 rfl (lv_at hl 1 rfl) ?_
              refine lv_istore_n (lv' := [(1, .int (nI (fbp (fpr A) (i - 1)))), (0, .ref (h 0)), (2, .int (fpr A (fbp (fpr A) (i - 1)))), (3, .int (nI (i + 1))), (4, .int (fpr A (i + 1))), (5, .int (nI (sF A)))]) hx hb dX1_bestPeriod_104 rfl hl (by decide) rfl (fun ls hl => ?_)
              refine lv_iload_n hx hb dX1_bestPeriod_105 rfl (lv_at hl 2 rfl) ?_
              refine lv_if_lt (tgt := 115) hx hb dX1_bestPeriod_106 (by decide) (fun c_106 => absurd c_106 (fpr_nn hI (by omega))) (fun c_106 => ?_)
              refine lv_iload hx hb dX1_bestPeriod_109 (lv_at hl 4 rfl) ?_
              refine lv_iload_n hx hb dX1_bestPeriod_111 rfl (lv_at hl 2 rfl) ?_
              refine lv_icmp_ge (tgt := 120) hx hb dX1_bestPeriod_112 (by decide) (fun c_112 => ?_) (fun c_112 => absurd c_96 c_112)
              refine lv_iload_n hx hb dX1_bestPeriod_120 rfl (lv_at hl 2 rfl) ?_
              refine lv_istore_n (lv' := [(2, .int (fpr A (fbp (fpr A) (i - 1)))), (1, .int (nI (fbp (fpr A) (i - 1)))), (0, .ref (h 0)), (3, .int (nI (i + 1))), (4, .int (fpr A (i + 1))), (5, .int (nI (sF A)))]) hx hb dX1_bestPeriod_121 rfl hl (by decide) rfl (fun ls hl => ?_)
              have hl : lv_has ls 7 [(2, .int (if i + 1 = 0 then (-1) else fpr A (fbp (fpr A) (i + 1 - 1)))), (1, .int (nI (fbp (fpr A) (i + 1 - 1)))), (0, .ref (h 0)), (3, .int (nI (i + 1))), (4, .int (fpr A (i + 1))), (5, .int (nI (sF A)))] := by rw [if_neg (show ¬ i + 1 = 0 by omega), fbp_keep hi0 (Int32.not_lt.mpr c_96)]; exact hl
              refine lv_iinc (v := nI (i + 1 + 1)) (lv' := [(3, .int (nI (i + 1 + 1))), (2, .int (if i + 1 = 0 then (-1) else fpr A (fbp (fpr A) (i + 1 - 1)))), (1, .int (nI (fbp (fpr A) (i + 1 - 1)))), (0, .ref (h 0)), (4, .int (fpr A (i + 1))), (5, .int (nI (sF A)))]) hx hb dX1_bestPeriod_122 hl (k := 3) rfl (nI_inc _) (by decide) rfl (fun ls hl => ?_)
              refine lv_goto (tgt := 6) hx hb dX1_bestPeriod_125 (by decide) ?_
              exact ih6 (i + 1) (by omega) M H locs (hP) hS ls (lv_sub hl [3, 2, 1, 0] rfl)
            · refine lv_iload_n hx hb dX1_bestPeriod_99 rfl (lv_at hl 3 rfl) ?_
              refine lv_goto (tgt := 104) hx hb dX1_bestPeriod_100 (by decide) ?_
              refine lv_istore_n (lv' := [(1, .int (nI (i + 1))), (0, .ref (h 0)), (2, .int (fpr A (fbp (fpr A) (i - 1)))), (3, .int (nI (i + 1))), (4, .int (fpr A (i + 1))), (5, .int (nI (sF A)))]) hx hb dX1_bestPeriod_104 rfl hl (by decide) rfl (fun ls hl => ?_)
              refine lv_iload_n hx hb dX1_bestPeriod_105 rfl (lv_at hl 2 rfl) ?_
              refine lv_if_lt (tgt := 115) hx hb dX1_bestPeriod_106 (by decide) (fun c_106 => absurd c_106 (fpr_nn hI (by omega))) (fun c_106 => ?_)
              refine lv_iload hx hb dX1_bestPeriod_109 (lv_at hl 4 rfl) ?_
              refine lv_iload_n hx hb dX1_bestPeriod_111 rfl (lv_at hl 2 rfl) ?_
              refine lv_icmp_ge (tgt := 120) hx hb dX1_bestPeriod_112 (by decide) (fun c_112 => absurd c_112 c_96) (fun c_112 => ?_)
              refine lv_iload hx hb dX1_bestPeriod_115 (lv_at hl 4 rfl) ?_
              refine lv_goto (tgt := 121) hx hb dX1_bestPeriod_117 (by decide) ?_
              refine lv_istore_n (lv' := [(2, .int (fpr A (i + 1))), (1, .int (nI (i + 1))), (0, .ref (h 0)), (3, .int (nI (i + 1))), (4, .int (fpr A (i + 1))), (5, .int (nI (sF A)))]) hx hb dX1_bestPeriod_121 rfl hl (by decide) rfl (fun ls hl => ?_)
              have hl : lv_has ls 7 [(2, .int (if i + 1 = 0 then (-1) else fpr A (fbp (fpr A) (i + 1 - 1)))), (1, .int (nI (fbp (fpr A) (i + 1 - 1)))), (0, .ref (h 0)), (3, .int (nI (i + 1))), (4, .int (fpr A (i + 1))), (5, .int (nI (sF A)))] := by rw [if_neg (show ¬ i + 1 = 0 by omega), fbp_take hi0 (Int32.not_le.mp c_96)]; exact hl
              refine lv_iinc (v := nI (i + 1 + 1)) (lv' := [(3, .int (nI (i + 1 + 1))), (2, .int (if i + 1 = 0 then (-1) else fpr A (fbp (fpr A) (i + 1 - 1)))), (1, .int (nI (fbp (fpr A) (i + 1 - 1)))), (0, .ref (h 0)), (4, .int (fpr A (i + 1))), (5, .int (nI (sF A)))]) hx hb dX1_bestPeriod_122 hl (k := 3) rfl (nI_inc _) (by decide) rfl (fun ls hl => ?_)
              refine lv_goto (tgt := 6) hx hb dX1_bestPeriod_125 (by decide) ?_
              exact ih6 (i + 1) (by omega) M H locs (hP) hS ls (lv_sub hl [3, 2, 1, 0] rfl)
        | succ n25 ih25 =>
          intro f hi25 M H locs hP hS ls hl
          have hD : va_D G (mw h cI cZ A M) := va_D.to hD rfl
          refine lv_iload hx hb dX1_bestPeriod_25 (lv_at hl 5 rfl) ?_
          refine lv_aload_n hx hb dX1_bestPeriod_27 rfl (lv_at hl 0 rfl) ?_
          refine va_get (D := D) (ci := 1) (v := .int (nI (sF A))) (C := RX1) (T := TX1) (N := 13) hx hb hts hin0 hown hK hP 0 rfl rfl 0 (by decide) (hts (.fieldLink RX1 36 "VoicePartsModel" "tones" "I") (by decide +kernel)) (fun _ h9 => h9) rfl dX1_bestPeriod_28 ?_
          refine n_icmp_ge (tgt := 89) hx hb (by omega) (by omega) dX1_bestPeriod_31 (by decide) (fun c_31 => by exfalso; omega) (fun c_31 => ?_)
          refine lv_iconst (v := nI 0) hx hb dX1_bestPeriod_34 (by decide) ?_
          refine lv_istore (lv' := [(6, .int (nI 0)), (0, .ref (h 0)), (1, .int (nI (fbp (fpr A) (i - 1)))), (2, .int (if i = 0 then (-1) else fpr A (fbp (fpr A) (i - 1)))), (3, .int (nI (i + 1))), (4, .int (acc2 (nI ((i + 1) * sF A)) (fun f t => fab (sB A (f * 8 + t) - fbg A (i + 1) f t)) (sT A) f)), (5, .int (nI f))]) hx hb dX1_bestPeriod_35 hl (by decide) rfl (fun ls hl => ?_)
          have lp37 : ∀ (n37 t : Nat), t + n37 = sT A → ∀ (M : Nat → Int32) (H : Heap) (locs : List Loc), va_P D vwCl (mw h cI cZ A M) H → va_S G s.heap H locs → ∀ (ls : Array Slot), lv_has ls 7 [(0, .ref (h 0)), (1, .int (nI (fbp (fpr A) (i - 1)))), (2, .int (if i = 0 then (-1) else fpr A (fbp (fpr A) (i - 1)))), (3, .int (nI (i + 1))), (4, .int (acc (acc2 (nI ((i + 1) * sF A)) (fun f t => fab (sB A (f * 8 + t) - fbg A (i + 1) f t)) (sT A) f) (fun t => fab (sB A (f * 8 + t) - fbg A (i + 1) f t)) t)), (5, .int (nI f)), (6, .int (nI t))] → W p l e rmX1_bestPeriod s m args below meth c H locs 0 0 Q (F0 m 37 ls []) := by
            intro n37
            induction n37 with
            | zero =>
              intro t hi37 M H locs hP hS ls hl
              obtain rfl : sT A = t := by omega
              have hD : va_D G (mw h cI cZ A M) := va_D.to hD rfl
              refine lv_iload hx hb dX1_bestPeriod_37 (lv_at hl 6 rfl) ?_
              refine lv_aload_n hx hb dX1_bestPeriod_39 rfl (lv_at hl 0 rfl) ?_
              refine va_get (D := D) (ci := 1) (v := .int (nI (sT A))) (C := RX1) (T := TX1) (N := 13) hx hb hts hin0 hown hK hP 0 rfl rfl 1 (by decide) (hts (.fieldLink RX1 40 "VoicePartsModel" "times" "I") (by decide +kernel)) (fun _ h9 => h9) rfl dX1_bestPeriod_40 ?_
              refine n_icmp_ge (tgt := 83) hx hb (by omega) (by omega) dX1_bestPeriod_43 (by decide) (fun c_43 => ?_) (fun c_43 => by exfalso; omega)
              refine lv_iinc (v := nI (f + 1)) (lv' := [(5, .int (nI (f + 1))), (0, .ref (h 0)), (1, .int (nI (fbp (fpr A) (i - 1)))), (2, .int (if i = 0 then (-1) else fpr A (fbp (fpr A) (i - 1)))), (3, .int (nI (i + 1))), (4, .int (acc (acc2 (nI ((i + 1) * sF A)) (fun f t => fab (sB A (f * 8 + t) - fbg A (i + 1) f t)) (sT A) f) (fun t => fab (sB A (f * 8 + t) - fbg A (i + 1) f t)) (sT A))), (6, .int (nI (sT A)))]) hx hb dX1_bestPeriod_83 hl (k := 5) rfl (nI_inc _) (by decide) rfl (fun ls hl => ?_)
              refine lv_goto (tgt := 25) hx hb dX1_bestPeriod_86 (by decide) ?_
              exact ih25 (f + 1) (by omega) M H locs (hP) hS ls (lv_sub hl [1, 2, 3, 4, 5, 0] rfl)
            | succ n37 ih37 =>
              intro t hi37 M H locs hP hS ls hl
              have hD : va_D G (mw h cI cZ A M) := va_D.to hD rfl
              refine lv_iload hx hb dX1_bestPeriod_37 (lv_at hl 6 rfl) ?_
              refine lv_aload_n hx hb dX1_bestPeriod_39 rfl (lv_at hl 0 rfl) ?_
              refine va_get (D := D) (ci := 1) (v := .int (nI (sT A))) (C := RX1) (T := TX1) (N := 13) hx hb hts hin0 hown hK hP 0 rfl rfl 1 (by decide) (hts (.fieldLink RX1 40 "VoicePartsModel" "times" "I") (by decide +kernel)) (fun _ h9 => h9) rfl dX1_bestPeriod_40 ?_
              refine n_icmp_ge (tgt := 83) hx hb (by omega) (by omega) dX1_bestPeriod_43 (by decide) (fun c_43 => by exfalso; omega) (fun c_43 => ?_)
              refine lv_iload hx hb dX1_bestPeriod_46 (lv_at hl 4 rfl) ?_
              refine lv_aload_n hx hb dX1_bestPeriod_48 rfl (lv_at hl 0 rfl) ?_
              refine va_get (D := D) (ci := 1) (v := .ref (h 1)) (C := RX1) (T := TX1) (N := 13) hx hb hts hin0 hown hK hP 0 rfl rfl 3 (by decide) (hts (.fieldLink RX1 7 "VoicePartsModel" "board" "[I") (by decide +kernel)) (fun _ h9 => h9) rfl dX1_bestPeriod_49 ?_
              refine lv_bipush (v := nI 8) hx hb dX1_bestPeriod_52 (by decide) ?_
              refine lv_iload hx hb dX1_bestPeriod_54 (lv_at hl 5 rfl) ?_
              refine n_imulc hx hb dX1_bestPeriod_56 ?_
              refine lv_iload hx hb dX1_bestPeriod_57 (lv_at hl 6 rfl) ?_
              refine n_iadd hx hb dX1_bestPeriod_59 ?_
              refine n_iald hx hb hK hP 1 0 rfl rfl (by omega) (by decide) dX1_bestPeriod_60 ?_
              refine lv_aload_n hx hb dX1_bestPeriod_61 rfl (lv_at hl 0 rfl) ?_
              refine lv_iload_n hx hb dX1_bestPeriod_62 rfl (lv_at hl 3 rfl) ?_
              refine lv_iload hx hb dX1_bestPeriod_63 (lv_at hl 5 rfl) ?_
              refine lv_iload hx hb dX1_bestPeriod_65 (lv_at hl 6 rfl) ?_
              refine mx_callV (As := [.int (nI (i + 1)), .int (nI f), .int (nI t)]) (rest := [.int (sB A (f * 8 + t)), .int (acc (acc2 (nI ((i + 1) * sF A)) (fun f t => fab (sB A (f * 8 + t) - fbg A (i + 1) f t)) (sT A) f) (fun t => fab (sB A (f * 8 + t) - fbg A (i + 1) f t)) t)]) ⟨hx, hb, hml, hown, hts⟩ (kX1_backgroundOf l D h cI cZ A M hI (i + 1) (f) (t) (by omega) (by omega) (by omega) (by omega)) (cwV 3 hts gX1_bestPeriod_X1_backgroundOf rfl rfl rfl (by decide +kernel) ⟨Nat.le_of_ble_eq_true rfl, Nat.le_of_ble_eq_true rfl⟩) hP hK hD hS (va_recv hK hP (ci := 1) (q0 := 0) rfl rfl) rfl hl.1 rfl (Nat.le_of_ble_eq_true rfl) dX1_bestPeriod_67 ⟨Nat.zero_le _, Nat.zero_le _⟩ (fun H locs M hP hS _ => ?_)
              have hP : va_P D vwCl (mw h cI cZ A M) H := hP
              have hD : va_D G (mw h cI cZ A M) := va_D.to hD rfl
              refine lv_isub hx hb dX1_bestPeriod_70 ?_
              refine ro_callS (As := [.int ((sB A (f * 8 + t)) - (fbg A (i + 1) f t))]) (rest := [.int (acc (acc2 (nI ((i + 1) * sF A)) (fun f t => fab (sB A (f * 8 + t) - fbg A (i + 1) f t)) (sT A) f) (fun t => fab (sB A (f * 8 + t) - fbg A (i + 1) f t)) t)]) ⟨hx, hb, hml, hown, hts⟩ (kX1_size l ((sB A (f * 8 + t)) - (fbg A (i + 1) f t))) (va_cwS 1 hts gX1_bestPeriod_X1_size rfl rfl rfl (by decide +kernel) ⟨Nat.le_of_ble_eq_true rfl, Nat.le_of_ble_eq_true rfl⟩) vT_bl vT_at rfl hl.1 rfl (Nat.le_of_ble_eq_true rfl) dX1_bestPeriod_71 ⟨Nat.zero_le _, Nat.zero_le _⟩ ?_
              refine lv_iadd hx hb dX1_bestPeriod_74 ?_
              refine lv_istore (lv' := [(4, .int ((acc (acc2 (nI ((i + 1) * sF A)) (fun f t => fab (sB A (f * 8 + t) - fbg A (i + 1) f t)) (sT A) f) (fun t => fab (sB A (f * 8 + t) - fbg A (i + 1) f t)) t) + (fab ((sB A (f * 8 + t)) - (fbg A (i + 1) f t))))), (0, .ref (h 0)), (1, .int (nI (fbp (fpr A) (i - 1)))), (2, .int (if i = 0 then (-1) else fpr A (fbp (fpr A) (i - 1)))), (3, .int (nI (i + 1))), (5, .int (nI f)), (6, .int (nI t))]) hx hb dX1_bestPeriod_75 hl (by decide) rfl (fun ls hl => ?_)
              refine lv_iinc (v := nI (t + 1)) (lv' := [(6, .int (nI (t + 1))), (4, .int ((acc (acc2 (nI ((i + 1) * sF A)) (fun f t => fab (sB A (f * 8 + t) - fbg A (i + 1) f t)) (sT A) f) (fun t => fab (sB A (f * 8 + t) - fbg A (i + 1) f t)) t) + (fab ((sB A (f * 8 + t)) - (fbg A (i + 1) f t))))), (0, .ref (h 0)), (1, .int (nI (fbp (fpr A) (i - 1)))), (2, .int (if i = 0 then (-1) else fpr A (fbp (fpr A) (i - 1)))), (3, .int (nI (i + 1))), (5, .int (nI f))]) hx hb dX1_bestPeriod_77 hl (k := 6) rfl (nI_inc _) (by decide) rfl (fun ls hl => ?_)
              refine lv_goto (tgt := 37) hx hb dX1_bestPeriod_80 (by decide) ?_
              exact ih37 (t + 1) (by omega) M H locs (hP) hS ls (lv_sub hl [2, 3, 4, 5, 1, 6, 0] rfl)
          exact lp37 (sT A) (0) (by omega) M H locs (hP) hS ls (lv_sub hl [1, 2, 3, 4, 5, 6, 0] rfl)
      exact lp25 (sF A) (0) (by omega) M H locs (hP) hS ls (lv_sub hl [2, 3, 4, 5, 1, 0] rfl)
  exact lp6 (sT A) (0) (by omega) M H locs (hP) hS ls (lv_sub hl [3, 2, 1, 0] rfl)
def rmX1_period : Room := { frames := 2, cells := 0, slots := 0, locals := 53 }
set_option maxHeartbeats 4000000 in
set_option maxRecDepth 100000 in
theorem kX1_period (l : Launch) (D : va_G) (h : Nat → Nat) (cI cZ : ClassId) (A : St) (M : Nat → Int32) (hI : Inv A) : MX l yX1_period wsX1_period rmX1_period [.ref (h 0)] D [(cI, .int), (cZ, .boolean)] (mw h cI cZ A M) (fun M => mw h cI cZ A M) (nI (fpe A)) := by
  refine mx_ofW (cc := cX1_period) (maxL := 1) (by decide) rfl (Nat.le_of_ble_eq_true rfl) ?_
  intro p e s m below meth c args Q G H locs hx hb hml hown hts hP hK hD hS hQ ls hl
  have hown : s.vm.findClass RX1 = some m.cls := hown
  have hin0 : ∀ w ∈ u_ws RX1 TX1 13, w ∈ wsX1_period := fun _ h => List.mem_cons_of_mem _ (List.mem_append_right _ h)
  have hl : lv_has ls 1 [(0, .ref (h 0))] := hl
  have hF := hI.F
  have hT := hI.T
  have hK3 := hI.K
  have hJ := hI.J
  have hZ := hI.Z
  refine lv_aload_n hx hb dX1_period_0 rfl (lv_at hl 0 rfl) ?_
  refine mx_callV (As := []) (rest := []) ⟨hx, hb, hml, hown, hts⟩ (kX1_bestPeriod l D h cI cZ A M hI) (cwV 0 hts gX1_period_X1_bestPeriod rfl rfl rfl (by decide +kernel) ⟨Nat.le_of_ble_eq_true rfl, Nat.le_of_ble_eq_true rfl⟩) hP hK hD hS (va_recv hK hP (ci := 1) (q0 := 0) rfl rfl) rfl hl.1 rfl (Nat.le_of_ble_eq_true rfl) dX1_period_1 ⟨Nat.zero_le _, Nat.zero_le _⟩ (fun H locs M hP hS _ => ?_)
  have hP : va_P D vwCl (mw h cI cZ A M) H := hP
  have hD : va_D G (mw h cI cZ A M) := va_D.to hD rfl
  exact hQ dX1_period_4 (rfl) (hP) hS
def rmX1_background : Room := { frames := 2, cells := 0, slots := 0, locals := 44 }
set_option maxHeartbeats 4000000 in
set_option maxRecDepth 100000 in
theorem kX1_background (l : Launch) (D : va_G) (h : Nat → Nat) (cI cZ : ClassId) (A : St) (M : Nat → Int32) (hI : Inv A) (q x y : Int32) : MX l yX1_background wsX1_background rmX1_background [.ref (h 0), .int q, .int x, .int y] D [(cI, .int), (cZ, .boolean)] (mw h cI cZ A M) (fun M => mw h cI cZ A M) (aBg A q x y) := by
  refine mx_ofW (cc := cX1_background) (maxL := 4) (by decide) rfl (Nat.le_of_ble_eq_true rfl) ?_
  intro p e s m below meth c args Q G H locs hx hb hml hown hts hP hK hD hS hQ ls hl
  have hown : s.vm.findClass RX1 = some m.cls := hown
  have hin0 : ∀ w ∈ u_ws RX1 TX1 13, w ∈ wsX1_background := fun _ h => List.mem_cons_of_mem _ (List.mem_append_right _ h)
  have hl : lv_has ls 4 [(0, .ref (h 0)), (1, .int q), (2, .int x), (3, .int y)] := hl
  have hF := hI.F
  have hT := hI.T
  have hK3 := hI.K
  have hJ := hI.J
  have hZ := hI.Z
  refine lv_iload_n hx hb dX1_background_0 rfl (lv_at hl 1 rfl) ?_
  refine lv_iconst (v := nI 1) hx hb dX1_background_1 (by decide) ?_
  refine lv_aload_n hx hb dX1_background_2 rfl (lv_at hl 0 rfl) ?_
  refine va_get (D := D) (ci := 1) (v := .int (nI (sT A))) (C := RX1) (T := TX1) (N := 13) hx hb hts hin0 hown hK hP 0 rfl rfl 1 (by decide) (hts (.fieldLink RX1 40 "VoicePartsModel" "times" "I") (by decide +kernel)) (fun _ h9 => h9) rfl dX1_background_3 ?_
  refine ro_callS (As := [.int q, .int (nI 1), .int (nI (sT A))]) (rest := []) ⟨hx, hb, hml, hown, hts⟩ (kX1_in l (q) (nI 1) (nI (sT A))) (va_cwS 3 hts gX1_background_X1_in rfl rfl rfl (by decide +kernel) ⟨Nat.le_of_ble_eq_true rfl, Nat.le_of_ble_eq_true rfl⟩) vT_bl vT_at rfl hl.1 rfl (Nat.le_of_ble_eq_true rfl) dX1_background_6 ⟨Nat.zero_le _, Nat.zero_le _⟩ ?_
  refine b_if_eq (tgt := 31) hx hb dX1_background_9 (by decide) (fun c_9 => ?_) (fun c_9 => ?_)
  · refine lv_iconst (v := (-1)) hx hb dX1_background_31 (by decide) ?_
    exact hQ dX1_background_32 (by unfold aBg; rw [if_neg (fun z => c_9 z.1)]) (hP) hS
  · refine lv_aload_n hx hb dX1_background_12 rfl (lv_at hl 0 rfl) ?_
    refine lv_iload_n hx hb dX1_background_13 rfl (lv_at hl 2 rfl) ?_
    refine lv_iload_n hx hb dX1_background_14 rfl (lv_at hl 3 rfl) ?_
    refine ro_callV (As := [.int x, .int y]) (rest := []) ⟨hx, hb, hml, hown, hts⟩ (kX1_isPlace l D h cI cZ A M  hI (x) (y)) (cwV 2 hts gX1_background_X1_isPlace rfl rfl rfl (by decide +kernel) ⟨Nat.le_of_ble_eq_true rfl, Nat.le_of_ble_eq_true rfl⟩) vB_bl (vB_at hP hK) (va_recv hK hP (ci := 1) (q0 := 0) rfl rfl) rfl hl.1 rfl (Nat.le_of_ble_eq_true rfl) dX1_background_15 ⟨Nat.zero_le _, Nat.zero_le _⟩ ?_
    refine b_if_eq (tgt := 31) hx hb dX1_background_18 (by decide) (fun c_18 => ?_) (fun c_18 => ?_)
    · refine lv_iconst (v := (-1)) hx hb dX1_background_31 (by decide) ?_
      exact hQ dX1_background_32 (by unfold aBg; rw [if_neg (fun z => c_18 z.2)]) (hP) hS
    · obtain ⟨g, hg, rfl⟩ := q1_of c_9 (by omega)
      obtain ⟨f, hf, rfl⟩ := iN_of (n := sF A) c_18.1 (by omega) (by omega)
      obtain ⟨t, ht, rfl⟩ := iN_of (n := sT A) c_18.2 (by omega) (by omega)
      refine lv_aload_n hx hb dX1_background_21 rfl (lv_at hl 0 rfl) ?_
      refine lv_iload_n hx hb dX1_background_22 rfl (lv_at hl 1 rfl) ?_
      refine lv_iload_n hx hb dX1_background_23 rfl (lv_at hl 2 rfl) ?_
      refine lv_iload_n hx hb dX1_background_24 rfl (lv_at hl 3 rfl) ?_
      refine mx_callV (As := [.int (nI g), .int (nI f), .int (nI t)]) (rest := []) ⟨hx, hb, hml, hown, hts⟩ (kX1_backgroundOf l D h cI cZ A M hI (g) (f) (t) (by omega) (by omega) (by omega) (by omega)) (cwV 3 hts gX1_background_X1_backgroundOf rfl rfl rfl (by decide +kernel) ⟨Nat.le_of_ble_eq_true rfl, Nat.le_of_ble_eq_true rfl⟩) hP hK hD hS (va_recv hK hP (ci := 1) (q0 := 0) rfl rfl) rfl hl.1 rfl (Nat.le_of_ble_eq_true rfl) dX1_background_25 ⟨Nat.zero_le _, Nat.zero_le _⟩ (fun H locs M hP hS _ => ?_)
      have hP : va_P D vwCl (mw h cI cZ A M) H := hP
      have hD : va_D G (mw h cI cZ A M) := va_D.to hD rfl
      refine lv_goto (tgt := 32) hx hb dX1_background_28 (by decide) ?_
      exact hQ dX1_background_32 (by unfold aBg; rw [if_pos ⟨c_9, c_18⟩, cl_nI (n := g) (by omega), cl_nI (n := f) (by omega), cl_nI (n := t) (by omega)]) (hP) hS
def rmX1_at : Room := { frames := 2, cells := 0, slots := 0, locals := 53 }
set_option maxHeartbeats 4000000 in
set_option maxRecDepth 100000 in
theorem kX1_at (l : Launch) (D : va_G) (h : Nat → Nat) (cI cZ : ClassId) (A : St) (M : Nat → Int32) (hI : Inv A) (x y u : Int32) : MX l yX1_at wsX1_at rmX1_at [.ref (h 0), .int x, .int y, .int u] D [(cI, .int), (cZ, .boolean)] (mw h cI cZ A M) (fun M => mw h cI cZ A M) (aAt A x y u) := by
  refine mx_ofW (cc := cX1_at) (maxL := 4) (by decide) rfl (Nat.le_of_ble_eq_true rfl) ?_
  intro p e s m below meth c args Q G H locs hx hb hml hown hts hP hK hD hS hQ ls hl
  have hown : s.vm.findClass RX1 = some m.cls := hown
  have hin0 : ∀ w ∈ u_ws RX1 TX1 13, w ∈ wsX1_at := fun _ h => List.mem_cons_of_mem _ (List.mem_append_right _ h)
  have hl : lv_has ls 4 [(0, .ref (h 0)), (1, .int x), (2, .int y), (3, .int u)] := hl
  have hF := hI.F
  have hT := hI.T
  have hK3 := hI.K
  have hJ := hI.J
  have hZ := hI.Z
  refine lv_aload_n hx hb dX1_at_0 rfl (lv_at hl 0 rfl) ?_
  refine lv_iload_n hx hb dX1_at_1 rfl (lv_at hl 1 rfl) ?_
  refine lv_iload_n hx hb dX1_at_2 rfl (lv_at hl 2 rfl) ?_
  refine ro_callV (As := [.int x, .int y]) (rest := []) ⟨hx, hb, hml, hown, hts⟩ (kX1_isPlace l D h cI cZ A M  hI (x) (y)) (cwV 2 hts gX1_at_X1_isPlace rfl rfl rfl (by decide +kernel) ⟨Nat.le_of_ble_eq_true rfl, Nat.le_of_ble_eq_true rfl⟩) vB_bl (vB_at hP hK) (va_recv hK hP (ci := 1) (q0 := 0) rfl rfl) rfl hl.1 rfl (Nat.le_of_ble_eq_true rfl) dX1_at_3 ⟨Nat.zero_le _, Nat.zero_le _⟩ ?_
  refine b_if_eq (tgt := 18) hx hb dX1_at_6 (by decide) (fun c_6 => ?_) (fun c_6 => ?_)
  · refine lv_iconst (v := (-1)) hx hb dX1_at_18 (by decide) ?_
    exact hQ dX1_at_19 (by unfold aAt; rw [if_neg (fun q => c_6 q.1)]) (hP) hS
  · refine lv_iload_n hx hb dX1_at_9 rfl (lv_at hl 3 rfl) ?_
    refine lv_iconst (v := nI 0) hx hb dX1_at_10 (by decide) ?_
    refine lv_iconst (v := nI 2) hx hb dX1_at_11 (by decide) ?_
    refine ro_callS (As := [.int u, .int (nI 0), .int (nI 2)]) (rest := []) ⟨hx, hb, hml, hown, hts⟩ (kX1_in l (u) (nI 0) (nI 2)) (va_cwS 3 hts gX1_at_X1_in rfl rfl rfl (by decide +kernel) ⟨Nat.le_of_ble_eq_true rfl, Nat.le_of_ble_eq_true rfl⟩) vT_bl vT_at rfl hl.1 rfl (Nat.le_of_ble_eq_true rfl) dX1_at_12 ⟨Nat.zero_le _, Nat.zero_le _⟩ ?_
    refine b_if_ne (tgt := 20) hx hb dX1_at_15 (by decide) (fun c_15 => ?_) (fun c_15 => ?_)
    · obtain ⟨f, hf, rfl⟩ := iN_of (n := sF A) c_6.1 (by omega) (by omega)
      obtain ⟨t, ht, rfl⟩ := iN_of (n := sT A) c_6.2 (by omega) (by omega)
      obtain ⟨g, hg, rfl⟩ := iN_of (n := 3) c_15 (by decide) (by decide)
      refine lv_iload_n hx hb dX1_at_20 rfl (lv_at hl 3 rfl) ?_
      refine n_if_ne (tgt := 38) hx hb (by omega) dX1_at_21 (by decide) (fun c_21 => ?_) (fun c_21 => ?_)
      · refine lv_iload_n hx hb dX1_at_38 rfl (lv_at hl 3 rfl) ?_
        refine lv_iconst (v := nI 1) hx hb dX1_at_39 (by decide) ?_
        refine n_icmp_ne (tgt := 52) hx hb (by omega) (by omega) dX1_at_40 (by decide) (fun c_40 => ?_) (fun c_40 => ?_)
        · refine lv_aload_n hx hb dX1_at_52 rfl (lv_at hl 0 rfl) ?_
          refine lv_aload_n hx hb dX1_at_53 rfl (lv_at hl 0 rfl) ?_
          refine mx_callV (As := []) (rest := [.ref (h 0)]) ⟨hx, hb, hml, hown, hts⟩ (kX1_bestPeriod l D h cI cZ A M hI) (cwV 0 hts gX1_at_X1_bestPeriod rfl rfl rfl (by decide +kernel) ⟨Nat.le_of_ble_eq_true rfl, Nat.le_of_ble_eq_true rfl⟩) hP hK hD hS (va_recv hK hP (ci := 1) (q0 := 0) rfl rfl) rfl hl.1 rfl (Nat.le_of_ble_eq_true rfl) dX1_at_54 ⟨Nat.zero_le _, Nat.zero_le _⟩ (fun H locs M hP hS _ => ?_)
          have hP : va_P D vwCl (mw h cI cZ A M) H := hP
          have hD : va_D G (mw h cI cZ A M) := va_D.to hD rfl
          have hpe : 1 ≤ fpe A ∧ fpe A ≤ sT A - 1 + 1 := fbp_in (fpr A) (sT A - 1)
          refine lv_iload_n hx hb dX1_at_57 rfl (lv_at hl 1 rfl) ?_
          refine lv_iload_n hx hb dX1_at_58 rfl (lv_at hl 2 rfl) ?_
          refine mx_callV (As := [.int (nI (fpe A)), .int (nI f), .int (nI t)]) (rest := []) ⟨hx, hb, hml, hown, hts⟩ (kX1_backgroundOf l D h cI cZ A M hI (fpe A) (f) (t) (by omega) (by omega) (by omega) (by omega)) (cwV 3 hts gX1_at_X1_backgroundOf rfl rfl rfl (by decide +kernel) ⟨Nat.le_of_ble_eq_true rfl, Nat.le_of_ble_eq_true rfl⟩) hP hK hD hS (va_recv hK hP (ci := 1) (q0 := 0) rfl rfl) rfl hl.1 rfl (Nat.le_of_ble_eq_true rfl) dX1_at_59 ⟨Nat.zero_le _, Nat.zero_le _⟩ (fun H locs M hP hS _ => ?_)
          have hP : va_P D vwCl (mw h cI cZ A M) H := hP
          have hD : va_D G (mw h cI cZ A M) := va_D.to hD rfl
          exact hQ dX1_at_62 (by unfold aAt; rw [if_pos ⟨c_6, c_15⟩, cl_nI (n := f) (by omega), cl_nI (n := t) (by omega), cl_nI (n := g) (by omega)]; unfold fAt; rw [if_neg c_21, if_neg c_40]) (hP) hS
        · refine lv_aload_n hx hb dX1_at_43 rfl (lv_at hl 0 rfl) ?_
          refine lv_iload_n hx hb dX1_at_44 rfl (lv_at hl 1 rfl) ?_
          refine lv_iload_n hx hb dX1_at_45 rfl (lv_at hl 2 rfl) ?_
          refine ro_callV (As := [.int (nI f), .int (nI t)]) (rest := []) ⟨hx, hb, hml, hown, hts⟩ (kX1_sumAt l D h cI cZ A M  hI (f) (t) (by omega) (by omega)) (cwV 2 hts gX1_at_X1_sumAt rfl rfl rfl (by decide +kernel) ⟨Nat.le_of_ble_eq_true rfl, Nat.le_of_ble_eq_true rfl⟩) vB_bl (vB_at hP hK) (va_recv hK hP (ci := 1) (q0 := 0) rfl rfl) rfl hl.1 rfl (Nat.le_of_ble_eq_true rfl) dX1_at_46 ⟨Nat.zero_le _, Nat.zero_le _⟩ ?_
          refine lv_goto (tgt := 62) hx hb dX1_at_49 (by decide) ?_
          exact hQ dX1_at_62 (by unfold aAt; rw [if_pos ⟨c_6, c_15⟩, cl_nI (n := f) (by omega), cl_nI (n := t) (by omega), cl_nI (n := g) (by omega)]; unfold fAt; rw [if_neg c_21, if_pos c_40]) (hP) hS
      · refine lv_aload_n hx hb dX1_at_24 rfl (lv_at hl 0 rfl) ?_
        refine va_get (D := D) (ci := 1) (v := .ref (h 1)) (C := RX1) (T := TX1) (N := 13) hx hb hts hin0 hown hK hP 0 rfl rfl 3 (by decide) (hts (.fieldLink RX1 7 "VoicePartsModel" "board" "[I") (by decide +kernel)) (fun _ h9 => h9) rfl dX1_at_25 ?_
        refine lv_bipush (v := nI 8) hx hb dX1_at_28 (by decide) ?_
        refine lv_iload_n hx hb dX1_at_30 rfl (lv_at hl 1 rfl) ?_
        refine n_imulc hx hb dX1_at_31 ?_
        refine lv_iload_n hx hb dX1_at_32 rfl (lv_at hl 2 rfl) ?_
        refine n_iadd hx hb dX1_at_33 ?_
        refine n_iald hx hb hK hP 1 0 rfl rfl (by omega) (by decide) dX1_at_34 ?_
        refine lv_goto (tgt := 62) hx hb dX1_at_35 (by decide) ?_
        exact hQ dX1_at_62 (by unfold aAt; rw [if_pos ⟨c_6, c_15⟩, cl_nI (n := f) (by omega), cl_nI (n := t) (by omega), cl_nI (n := g) (by omega)]; unfold fAt; rw [if_pos c_21]) (hP) hS
    · refine lv_iconst (v := (-1)) hx hb dX1_at_18 (by decide) ?_
      exact hQ dX1_at_19 (by unfold aAt; rw [if_neg (fun q => c_15 q.2)]) (hP) hS
end
section
/-! a ROUND, by the part of MISS along one TONE or TIME, and by MISS: the same -/
def zs (g : Nat → Int) : Nat → Int
  | 0 => 0
  | n + 1 => zs g n + g n
theorem zs_cong {g g' : Nat → Int} : ∀ {n : Nat}, (∀ k, k < n → g k = g' k) → zs g n = zs g' n
  | 0, _ => rfl
  | n + 1, h => by simp only [zs]; rw [zs_cong (fun k hk => h k (Nat.lt_succ_of_lt hk)), h n (Nat.lt_succ_self n)]
theorem zs_sub (g g' : Nat → Int) : ∀ n, zs g n - zs g' n = zs (fun k => g k - g' k) n
  | 0 => rfl
  | n + 1 => by
    have ih := zs_sub g g' n
    simp only [zs]
    omega
theorem zs_zero {g : Nat → Int} : ∀ {n : Nat}, (∀ k, k < n → g k = 0) → zs g n = 0
  | 0, _ => rfl
  | n + 1, h => by simp only [zs]; rw [zs_zero (fun k hk => h k (Nat.lt_succ_of_lt hk)), h n (Nat.lt_succ_self n)]; rfl
theorem zs_one {g g' : Nat → Int} {i : Nat} : ∀ {n : Nat}, i < n → (∀ k, k < n → k ≠ i → g k = g' k) → zs g n - zs g' n = g i - g' i
  | 0, h, _ => absurd h (Nat.not_lt_zero i)
  | n + 1, h, hg => by
    simp only [zs]
    by_cases e : i = n
    · subst e
      have z := zs_cong (g := g) (g' := g') (n := i) (fun k hk => hg k (by omega) (by omega))
      omega
    · have ih := zs_one (g := g) (g' := g') (i := i) (n := n) (by omega) (fun k hk => hg k (by omega))
      have z := hg n (by omega) (fun q => e q.symm)
      omega
theorem l_sum_zs {g : Nat → Int32} {c N : Nat} (hc : (N : Int) * c < 2147483648) : ∀ {n : Nat}, n ≤ N → (∀ k, k < n → 0 ≤ (g k).toInt ∧ (g k).toInt ≤ c) → (l_sum g n).toInt = zs (fun k => (g k).toInt) n
  | 0, _, _ => by rw [l_sum_0]; show (0 : Int32).toInt = 0; decide
  | n + 1, hn, h => by
    have ih := l_sum_zs (g := g) (c := c) (N := N) hc (n := n) (by omega) (fun k hk => h k (Nat.lt_succ_of_lt hk))
    have b := l_sum_in2 (N := N) (c := c) (n := n) (g := g) (by omega) (fun k hk => h k (Nat.lt_succ_of_lt hk)) hc
    have b2 := l_sum_in2 (N := N) (c := c) (n := n + 1) (g := g) hn h hc
    have e : ((n + 1 : Nat) : Int) * (c : Int) ≤ (N : Int) * c := Int.mul_le_mul_of_nonneg_right (by omega) (by omega)
    have e2 : ((n + 1 : Nat) : Int) * (c : Int) = (n : Int) * c + c := by rw [Int.natCast_add, Int.add_mul]; simp
    have b3 := l_sum_in (n := n) (c := c) (g := g) (fun k hk => h k (Nat.lt_succ_of_lt hk)) (by omega)
    have hn1 := h n (Nat.lt_succ_self n)
    rw [l_sum_s, Int32_toInt_add_of (by omega) (by omega), ih]
    rfl
theorem div10 {y : Int32} (h : 0 ≤ y.toInt ∧ y.toInt ≤ 1687401) : 0 ≤ (y / 10).toInt ∧ (y / 10).toInt ≤ 168740 := by
  obtain ⟨n, hn, rfl⟩ : ∃ n : Nat, n ≤ 1687401 ∧ y = nI n := ⟨y.toInt.toNat, by omega, Int32.toInt_inj.mp (by rw [nI_toInt (by omega)]; omega)⟩
  rw [show (10 : Int32) = nI 10 from rfl, pk_div (by omega) (by decide) (by decide), nI_toInt (by omega)]
  omega
theorem fc_in {A : St} (hI : Inv A) (f t : Nat) : 0 ≤ (fc A f t).toInt ∧ (fc A f t).toInt ≤ 1687401 := by
  have hd := fab_in (a := 99) (b := 1200) (hI.B (f * 8 + t)) (fS_in hI f t) (by decide)
  unfold fc fco
  generalize fab (sB A (f * 8 + t) - fS A f t) = d at hd
  have hd2 : 0 ≤ d.toInt ∧ d.toInt ≤ ((1299 : Nat) : Int) := hd
  have h2 := (mul_in hd2 hd2 (by decide)).2
  have h2 : 0 ≤ (d * d).toInt ∧ (d * d).toInt ≤ 1687401 := h2
  have h3 := div10 h2
  split
  · omega
  · split
    · exact h2
    · have e : (90 : Int32).toInt = 90 := by decide
      rw [Int32_toInt_add_of (by omega) (by omega), e]
      omega
theorem fm_zs {A : St} (hI : Inv A) : (fm A).toInt = zs (fun f => zs (fun t => (fc A f t).toInt) (sT A)) (sF A) := by
  have hF := hI.F
  have hT := hI.T
  unfold fm
  have h1 : ∀ f, f < sF A → 0 ≤ (l_sum (fun t => fc A f t) (sT A)).toInt ∧ (l_sum (fun t => fc A f t) (sT A)).toInt ≤ ((8 * 1687401 : Nat) : Int) := fun f _ => l_sum_in2 hT.2 (fun k _ => fc_in hI f k) (by decide)
  rw [l_sum_zs (N := 6) (c := 8 * 1687401) (by decide) hF.2 h1]
  exact zs_cong (fun f _ => l_sum_zs (N := 8) (c := 1687401) (by decide) hT.2 (fun k _ => fc_in hI f k))
theorem fal_zs0 {A : St} (hI : Inv A) (i : Nat) : (fal A 0 i).toInt = zs (fun t => (fc A i t).toInt) (sT A) := l_sum_zs (N := 8) (c := 1687401) (by decide) hI.T.2 (fun k _ => fc_in hI i k)
theorem fal_zs1 {A : St} (hI : Inv A) (i : Nat) : (fal A 1 i).toInt = zs (fun f => (fc A f i).toInt) (sF A) := l_sum_zs (N := 6) (c := 1687401) (by decide) hI.F.2 (fun k _ => fc_in hI k i)
theorem fS_off {A : St} {k q x y f t : Nat} (h1 : f ≠ q) (h2 : 6 + t ≠ q) : fS (tryV A k q x) f t = fS (tryV A k q y) f t := by
  show l_sum (fun j => upV (sV A) k q (nI x) j f * upV (sV A) k q (nI x) j (6 + t)) (sK A) = l_sum (fun j => upV (sV A) k q (nI y) j f * upV (sV A) k q (nI y) j (6 + t)) (sK A)
  apply l_sum_cong
  intro j _
  unfold upV
  rw [if_neg (fun z => h1 z.2), if_neg (fun z => h2 z.2), if_neg (fun z => h1 z.2), if_neg (fun z => h2 z.2)]
theorem fc_off {A : St} {k q x y f t : Nat} (h1 : f ≠ q) (h2 : 6 + t ≠ q) : fc (tryV A k q x) f t = fc (tryV A k q y) f t := by
  unfold fc
  rw [fS_off (x := x) (y := y) h1 h2]
  rfl
theorem miss_part {A : St} (hI : Inv A) {k o i x y : Nat} (ho : o < 2) (hi : i < if o = 0 then sF A else sT A) (hx : x ≤ 20) (hy : y ≤ 20) : (fm (tryV A k (qi o i) x)).toInt - (fm (tryV A k (qi o i) y)).toInt = (fal (tryV A k (qi o i) x) o i).toInt - (fal (tryV A k (qi o i) y) o i).toInt := by
  have hF := hI.F
  have hT := hI.T
  rw [fm_zs (hI.try hx), fm_zs (hI.try hy)]
  rcases (show o = 0 ∨ o = 1 by omega) with rfl | rfl
  · have hi : i < sF A := hi
    rw [fal_zs0 (hI.try hx), fal_zs0 (hI.try hy)]
    exact zs_one (g := fun f => zs (fun t => (fc (tryV A k (qi 0 i) x) f t).toInt) (sT A)) (g' := fun f => zs (fun t => (fc (tryV A k (qi 0 i) y) f t).toInt) (sT A)) (n := sF A) hi (fun f hf hne => zs_cong (fun t _ => by rw [fc_off (x := x) (y := y) (show f ≠ qi 0 i from hne) (show 6 + t ≠ i by omega)]))
  · have hi : i < sT A := hi
    rw [fal_zs1 (hI.try hx), fal_zs1 (hI.try hy)]
    show zs (fun f => zs (fun t => (fc (tryV A k (qi 1 i) x) f t).toInt) (sT A)) (sF A) - zs (fun f => zs (fun t => (fc (tryV A k (qi 1 i) y) f t).toInt) (sT A)) (sF A) = zs (fun f => (fc (tryV A k (qi 1 i) x) f i).toInt) (sF A) - zs (fun f => (fc (tryV A k (qi 1 i) y) f i).toInt) (sF A)
    rw [zs_sub, zs_sub]
    exact zs_cong (fun f hf => zs_one (g := fun t => (fc (tryV A k (qi 1 i) x) f t).toInt) (g' := fun t => (fc (tryV A k (qi 1 i) y) f t).toInt) (n := sT A) hi (fun t ht hne => by
      show (fc (tryV A k (qi 1 i) x) f t).toInt = (fc (tryV A k (qi 1 i) y) f t).toInt
      rw [fc_off (x := x) (y := y) (show f ≠ qi 1 i from (show f ≠ 6 + i by omega)) (show 6 + t ≠ qi 1 i from (show 6 + t ≠ 6 + i by omega))]))
theorem bst_cong {ms ms' : Nat → Int32} {a : Nat} (ha : a ≤ 20) (h : ∀ x y, x ≤ 20 → y ≤ 20 → (ms x < ms y ↔ ms' x < ms' y)) : bst ms a = bst ms' a := by
  have e1 : (if 1 ≤ a ∧ ms (a - 1) < ms a then a - 1 else a) = (if 1 ≤ a ∧ ms' (a - 1) < ms' a then a - 1 else a) := by
    have q := h (a - 1) a (by omega) ha
    by_cases z : 1 ≤ a ∧ ms (a - 1) < ms a
    · rw [if_pos z, if_pos ⟨z.1, q.mp z.2⟩]
    · rw [if_neg z, if_neg (fun w => z ⟨w.1, q.mpr w.2⟩)]
  have hb : (if 1 ≤ a ∧ ms' (a - 1) < ms' a then a - 1 else a) ≤ 20 := by split <;> omega
  unfold bst
  rw [e1]
  generalize (if 1 ≤ a ∧ ms' (a - 1) < ms' a then a - 1 else a) = b at hb
  by_cases z : a + 1 ≤ 20 ∧ ms (a + 1) < ms b
  · rw [if_pos z, if_pos ⟨z.1, (h _ _ z.1 hb).mp z.2⟩]
  · rw [if_neg z, if_neg (fun w => z ⟨w.1, (h _ _ w.1 hb).mpr w.2⟩)]
theorem step_same {A : St} (hI : Inv A) {k o i : Nat} (ho : o < 2) (hi : i < if o = 0 then sF A else sT A) : cst A k o i = mst A k o i := by
  unfold cst mst
  split
  · rfl
  · obtain ⟨a, ha, ea⟩ := V_nI hI k (qi o i)
    rw [ea, cl_nI (by omega)]
    rw [bst_cong ha (fun x y hx hy => ?_)]
    have z := miss_part hI (k := k) (x := x) (y := y) ho hi hx hy
    show fal (tryV A k (qi o i) x) o i < fal (tryV A k (qi o i) y) o i ↔ fm (tryV A k (qi o i) x) < fm (tryV A k (qi o i) y)
    rw [Int32.lt_iff_toInt_lt, Int32.lt_iff_toInt_lt]
    omega
theorem rI_0 (st : St → Nat → Nat → Nat → St) (A : St) (k o : Nat) : rI st A k o 0 = A := rfl
theorem rI_s (st : St → Nat → Nat → Nat → St) (A : St) (k o i : Nat) : rI st A k o (i + 1) = st (rI st A k o i) k o i := rfl
theorem rO_0 (st : St → Nat → Nat → Nat → St) (A : St) (k : Nat) : rO st A k 0 = A := rfl
theorem rO_s (st : St → Nat → Nat → Nat → St) (A : St) (k o : Nat) : rO st A k (o + 1) = rI st (rO st A k o) k o (if o = 0 then sF A else sT A) := rfl
theorem rK_0 (st : St → Nat → Nat → Nat → St) (A : St) : rK st A 0 = A := rfl
theorem rK_s (st : St → Nat → Nat → Nat → St) (A : St) (k : Nat) : rK st A (k + 1) = rO st (rK st A k) k 2 := rfl
theorem rN_0 (st : St → Nat → Nat → Nat → St) (A : St) : rN st A 0 = A := rfl
theorem rN_s (st : St → Nat → Nat → Nat → St) (A : St) (n : Nat) : rN st A (n + 1) = rK st (rN st A n) (sK A) := rfl
theorem rI_same {A : St} (hI : Inv A) {k o : Nat} (ho : o < 2) (i : Nat) : i ≤ (if o = 0 then sF A else sT A) → rI cst A k o i = rI mst A k o i := by
  induction i with
  | zero => intro _; rw [rI_0, rI_0]
  | succ i ih =>
    intro h
    have ih := ih (Nat.le_of_succ_le h)
    have kp := kp_I Kp_mst A k o i
    rw [rI_s, rI_s, ih]
    refine step_same (kp.2 hI) ho ?_
    rw [kp.1.1, kp.1.2.1]
    exact h
theorem rO_same {A : St} (hI : Inv A) {k : Nat} (o : Nat) : o ≤ 2 → rO cst A k o = rO mst A k o := by
  induction o with
  | zero => intro _; rw [rO_0, rO_0]
  | succ o ih =>
    intro h
    have ih := ih (Nat.le_of_succ_le h)
    have kp := kp_O Kp_mst A k o
    rw [rO_s, rO_s, ih]
    refine rI_same (kp.2 hI) h _ ?_
    rw [kp.1.1, kp.1.2.1]
    exact Nat.le_refl _
theorem rK_same {A : St} (hI : Inv A) (k : Nat) : rK cst A k = rK mst A k := by
  induction k with
  | zero => rw [rK_0, rK_0]
  | succ k ih =>
    rw [rK_s, rK_s, ih]
    exact rO_same ((kp_K Kp_mst A k).2 hI) 2 (Nat.le_refl 2)
theorem rN_same {A : St} (hI : Inv A) (n : Nat) : rN cst A n = rN mst A n := by
  induction n with
  | zero => rw [rN_0, rN_0]
  | succ n ih =>
    rw [rN_s, rN_s, ih]
    exact rK_same ((kp_N Kp_mst A n).2 hI) (sK A)
theorem nRn_same {A : St} (hI : Inv A) (x : Int32) : nRm A x = nRn A x := by unfold nRm nRn; rw [rN_same hI]
theorem aRn_same {A : St} (hI : Inv A) (x : Int32) : aRm A x = aRn A x := by unfold aRm aRn; rw [rN_same hI]
end
section
/-! LATER: the one that beats all others -/
def cz (z : Int) : Int32 := Int32.ofInt z
def ph (A : St) (z : Int) : Int := (fpd A (cz z)).toInt
def bts (A : St) (z w : Int) : Prop := ph A w < ph A z ∨ (ph A z = ph A w ∧ (z.natAbs < w.natAbs ∨ (z.natAbs = w.natAbs ∧ z < w)))
theorem bts_tr {A : St} {x y z : Int} (h1 : bts A x y) (h2 : bts A y z) : bts A x z := by
  unfold bts at *
  omega
theorem bts_no {A : St} {x y : Int} (h1 : bts A x y) (h2 : bts A y x) : False := by
  unfold bts at *
  omega
theorem dI_cz : ∀ i, i < 15 → dI i = cz ((i : Int) - 7) := by decide +kernel
theorem fab_dI : ∀ i, i < 15 → ∀ j, j < 15 → (fab (dI i) < fab (dI j) ↔ ((i : Int) - 7).natAbs < ((j : Int) - 7).natAbs) := by decide +kernel
theorem nI_cz : ∀ n, n < 8 → nI n = cz (n : Int) ∧ -(nI n) = cz (-(n : Int)) := by decide +kernel
theorem flb_le (A : St) (i : Nat) : flb A i ≤ i := by
  induction i with
  | zero => exact Nat.le_refl 0
  | succ i ih =>
    simp only [flb]
    split <;> omega
theorem flb_best (A : St) (i : Nat) : i < 15 → ∀ j, j ≤ i → j ≠ flb A i → bts A ((flb A i : Int) - 7) ((j : Int) - 7) := by
  induction i with
  | zero =>
    intro _ j hj hne
    exact absurd (show j = flb A 0 from (show j = 0 by omega)) hne
  | succ i ih =>
    intro hi
    have ih := ih (by omega)
    have hl := flb_le A i
    have e1 : (fpd A (dI (flb A i))).toInt = ph A ((flb A i : Int) - 7) := by unfold ph; rw [dI_cz _ (by omega)]
    have e2 : (fpd A (dI (i + 1))).toInt = ph A (((i + 1 : Nat) : Int) - 7) := by unfold ph; rw [dI_cz _ hi]
    have ef := fab_dI (i + 1) hi (flb A i) (by omega)
    by_cases c : fpd A (dI (flb A i)) < fpd A (dI (i + 1)) ∨ (fpd A (dI (i + 1)) = fpd A (dI (flb A i)) ∧ fab (dI (i + 1)) < fab (dI (flb A i)))
    · have ec : flb A (i + 1) = i + 1 := if_pos c
      rw [ec]
      have b : bts A (((i + 1 : Nat) : Int) - 7) ((flb A i : Int) - 7) := by
        unfold bts
        rcases c with c | c
        · have c := Int32.lt_iff_toInt_lt.mp c
          rw [e1, e2] at c
          exact Or.inl c
        · have c1 := congrArg Int32.toInt c.1
          rw [e1, e2] at c1
          exact Or.inr ⟨c1, Or.inl (ef.mp c.2)⟩
      intro j hj hne
      by_cases q : j = flb A i
      · rw [q]; exact b
      · exact bts_tr b (ih j (by omega) q)
    · have ec : flb A (i + 1) = flb A i := if_neg c
      rw [ec]
      intro j hj hne
      by_cases q : j = i + 1
      · subst q
        have n1 : ¬ (fpd A (dI (flb A i))).toInt < (fpd A (dI (i + 1))).toInt := fun z => c (Or.inl (Int32.lt_iff_toInt_lt.mpr z))
        rw [e1, e2] at n1
        unfold bts
        by_cases n2 : ph A ((flb A i : Int) - 7) = ph A (((i + 1 : Nat) : Int) - 7)
        · have n3 : ¬ (((i + 1 : Nat) : Int) - 7).natAbs < ((flb A i : Int) - 7).natAbs := fun z => c (Or.inr ⟨Int32.toInt_inj.mp (by rw [e1, e2]; exact n2.symm), ef.mpr z⟩)
          omega
        · omega
      · exact ih j (by omega) hne
theorem mlb_best (A : St) (n : Nat) : n < 8 → ∃ z : Int, mlb A n = cz z ∧ z.natAbs ≤ n ∧ ∀ w : Int, w.natAbs ≤ n → w ≠ z → bts A z w := by
  induction n with
  | zero =>
    intro _
    refine ⟨0, (show nI 0 = cz 0 by decide), by decide, fun w hw hne => ?_⟩
    omega
  | succ n ih =>
    intro hn
    obtain ⟨z, e, hz, hb⟩ := ih (by omega)
    have c1 := (nI_cz (n + 1) hn).2
    have c2 := (nI_cz (n + 1) hn).1
    have s1 : ∃ y : Int, mls A (mlb A n) (n + 1) = cz y ∧ (y = z ∨ y = -((n + 1 : Nat) : Int)) ∧ (∀ w : Int, w.natAbs ≤ n → w ≠ y → bts A y w) ∧ (-((n + 1 : Nat) : Int) ≠ y → bts A y (-((n + 1 : Nat) : Int))) := by
      unfold mls
      rw [e, c1]
      by_cases q : fpd A (cz z) < fpd A (cz (-((n + 1 : Nat) : Int)))
      · rw [if_pos q]
        have q := Int32.lt_iff_toInt_lt.mp q
        have b : bts A (-((n + 1 : Nat) : Int)) z := Or.inl q
        refine ⟨_, rfl, Or.inr rfl, fun w hw hne => ?_, fun h => absurd rfl h⟩
        by_cases y : w = z
        · rw [y]; exact b
        · exact bts_tr b (hb w hw y)
      · rw [if_neg q]
        have q : ¬ ph A z < ph A (-((n + 1 : Nat) : Int)) := fun y => q (Int32.lt_iff_toInt_lt.mpr y)
        refine ⟨z, rfl, Or.inl rfl, fun w hw hne => hb w hw hne, fun _ => ?_⟩
        unfold bts
        omega
    obtain ⟨y, ey, hy, hb1, hb2⟩ := s1
    show ∃ z : Int, mlt A (mls A (mlb A n) (n + 1)) (n + 1) = cz z ∧ z.natAbs ≤ n + 1 ∧ ∀ w : Int, w.natAbs ≤ n + 1 → w ≠ z → bts A z w
    unfold mlt
    rw [ey, c2]
    by_cases q : fpd A (cz y) < fpd A (cz ((n + 1 : Nat) : Int))
    · rw [if_pos q]
      have q := Int32.lt_iff_toInt_lt.mp q
      have b : bts A ((n + 1 : Nat) : Int) y := Or.inl q
      refine ⟨_, rfl, by omega, fun w hw hne => ?_⟩
      by_cases w1 : w = y
      · rw [w1]; exact b
      · by_cases w2 : w = -((n + 1 : Nat) : Int)
        · rw [w2]; exact bts_tr b (hb2 (fun x => w1 (by rw [w2]; exact x)))
        · exact bts_tr b (hb1 w (by omega) w1)
    · rw [if_neg q]
      have q : ¬ ph A y < ph A ((n + 1 : Nat) : Int) := fun x => q (Int32.lt_iff_toInt_lt.mpr x)
      refine ⟨y, rfl, by omega, fun w hw hne => ?_⟩
      by_cases w2 : w = -((n + 1 : Nat) : Int)
      · rw [w2]; exact hb2 (fun x => hne (by rw [w2]; exact x))
      · by_cases w3 : w = ((n + 1 : Nat) : Int)
        · rw [w3]
          unfold bts
          omega
        · exact hb1 w (by omega) hne
theorem later_same (A : St) : aLm A = aLa A := by
  unfold aLm aLa
  split
  · rfl
  · obtain ⟨z, e, hz, hb⟩ := mlb_best A 7 (by decide)
    have hl := flb_le A 14
    have hc := flb_best A 14 (by decide)
    rw [e, dI_cz _ (by omega)]
    by_cases q : z = (flb A 14 : Int) - 7
    · rw [q]
    · exfalso
      have b1 := hb ((flb A 14 : Int) - 7) (by omega) (fun x => q x.symm)
      have b2 := hc (z + 7).toNat (by omega) (by omega)
      rw [show (((z + 7).toNat : Nat) : Int) - 7 = z by omega] at b2
      exact bts_no b1 b2
/-! TURNED and BACK -/
theorem fsg_mul (k i : Nat) (x : Int32) : fsg k i * x = if pc3 (k &&& i) % 2 = 1 then -x else x := by
  unfold fsg
  by_cases q : pc3 (k &&& i) % 2 = 0
  · rw [if_pos q, if_neg (by omega), Int32.one_mul]
  · rw [if_neg q, if_pos (by omega)]
    grind
theorem ftu_same (A : St) (k : Nat) : mtu A k = ftu A k := by
  unfold mtu ftu
  apply l_sum_cong
  intro i _
  rw [fsg_mul]
  rfl
theorem fsg_0_0 : fsg 0 0 = 1 := by decide
theorem fsg_0_1 : fsg 0 1 = 1 := by decide
theorem fsg_0_2 : fsg 0 2 = 1 := by decide
theorem fsg_0_3 : fsg 0 3 = 1 := by decide
theorem fsg_0_4 : fsg 0 4 = 1 := by decide
theorem fsg_0_5 : fsg 0 5 = 1 := by decide
theorem fsg_0_6 : fsg 0 6 = 1 := by decide
theorem fsg_0_7 : fsg 0 7 = 1 := by decide
theorem fsg_1_0 : fsg 1 0 = 1 := by decide
theorem fsg_1_1 : fsg 1 1 = -1 := by decide
theorem fsg_1_2 : fsg 1 2 = 1 := by decide
theorem fsg_1_3 : fsg 1 3 = -1 := by decide
theorem fsg_1_4 : fsg 1 4 = 1 := by decide
theorem fsg_1_5 : fsg 1 5 = -1 := by decide
theorem fsg_1_6 : fsg 1 6 = 1 := by decide
theorem fsg_1_7 : fsg 1 7 = -1 := by decide
theorem fsg_2_0 : fsg 2 0 = 1 := by decide
theorem fsg_2_1 : fsg 2 1 = 1 := by decide
theorem fsg_2_2 : fsg 2 2 = -1 := by decide
theorem fsg_2_3 : fsg 2 3 = -1 := by decide
theorem fsg_2_4 : fsg 2 4 = 1 := by decide
theorem fsg_2_5 : fsg 2 5 = 1 := by decide
theorem fsg_2_6 : fsg 2 6 = -1 := by decide
theorem fsg_2_7 : fsg 2 7 = -1 := by decide
theorem fsg_3_0 : fsg 3 0 = 1 := by decide
theorem fsg_3_1 : fsg 3 1 = -1 := by decide
theorem fsg_3_2 : fsg 3 2 = -1 := by decide
theorem fsg_3_3 : fsg 3 3 = 1 := by decide
theorem fsg_3_4 : fsg 3 4 = 1 := by decide
theorem fsg_3_5 : fsg 3 5 = -1 := by decide
theorem fsg_3_6 : fsg 3 6 = -1 := by decide
theorem fsg_3_7 : fsg 3 7 = 1 := by decide
theorem fsg_4_0 : fsg 4 0 = 1 := by decide
theorem fsg_4_1 : fsg 4 1 = 1 := by decide
theorem fsg_4_2 : fsg 4 2 = 1 := by decide
theorem fsg_4_3 : fsg 4 3 = 1 := by decide
theorem fsg_4_4 : fsg 4 4 = -1 := by decide
theorem fsg_4_5 : fsg 4 5 = -1 := by decide
theorem fsg_4_6 : fsg 4 6 = -1 := by decide
theorem fsg_4_7 : fsg 4 7 = -1 := by decide
theorem fsg_5_0 : fsg 5 0 = 1 := by decide
theorem fsg_5_1 : fsg 5 1 = -1 := by decide
theorem fsg_5_2 : fsg 5 2 = 1 := by decide
theorem fsg_5_3 : fsg 5 3 = -1 := by decide
theorem fsg_5_4 : fsg 5 4 = -1 := by decide
theorem fsg_5_5 : fsg 5 5 = 1 := by decide
theorem fsg_5_6 : fsg 5 6 = -1 := by decide
theorem fsg_5_7 : fsg 5 7 = 1 := by decide
theorem fsg_6_0 : fsg 6 0 = 1 := by decide
theorem fsg_6_1 : fsg 6 1 = 1 := by decide
theorem fsg_6_2 : fsg 6 2 = -1 := by decide
theorem fsg_6_3 : fsg 6 3 = -1 := by decide
theorem fsg_6_4 : fsg 6 4 = -1 := by decide
theorem fsg_6_5 : fsg 6 5 = -1 := by decide
theorem fsg_6_6 : fsg 6 6 = 1 := by decide
theorem fsg_6_7 : fsg 6 7 = 1 := by decide
theorem fsg_7_0 : fsg 7 0 = 1 := by decide
theorem fsg_7_1 : fsg 7 1 = -1 := by decide
theorem fsg_7_2 : fsg 7 2 = -1 := by decide
theorem fsg_7_3 : fsg 7 3 = 1 := by decide
theorem fsg_7_4 : fsg 7 4 = -1 := by decide
theorem fsg_7_5 : fsg 7 5 = 1 := by decide
theorem fsg_7_6 : fsg 7 6 = 1 := by decide
theorem fsg_7_7 : fsg 7 7 = -1 := by decide
theorem bk_0 (x0 x1 x2 x3 x4 x5 x6 x7 : Int32) : ((((((((0 + 1 * ((((((((0 + 1 * x0) + 1 * x1) + 1 * x2) + 1 * x3) + 1 * x4) + 1 * x5) + 1 * x6) + 1 * x7)) + 1 * ((((((((0 + 1 * x0) + (-1) * x1) + 1 * x2) + (-1) * x3) + 1 * x4) + (-1) * x5) + 1 * x6) + (-1) * x7)) + 1 * ((((((((0 + 1 * x0) + 1 * x1) + (-1) * x2) + (-1) * x3) + 1 * x4) + 1 * x5) + (-1) * x6) + (-1) * x7)) + 1 * ((((((((0 + 1 * x0) + (-1) * x1) + (-1) * x2) + 1 * x3) + 1 * x4) + (-1) * x5) + (-1) * x6) + 1 * x7)) + 1 * ((((((((0 + 1 * x0) + 1 * x1) + 1 * x2) + 1 * x3) + (-1) * x4) + (-1) * x5) + (-1) * x6) + (-1) * x7)) + 1 * ((((((((0 + 1 * x0) + (-1) * x1) + 1 * x2) + (-1) * x3) + (-1) * x4) + 1 * x5) + (-1) * x6) + 1 * x7)) + 1 * ((((((((0 + 1 * x0) + 1 * x1) + (-1) * x2) + (-1) * x3) + (-1) * x4) + (-1) * x5) + 1 * x6) + 1 * x7)) + 1 * ((((((((0 + 1 * x0) + (-1) * x1) + (-1) * x2) + 1 * x3) + (-1) * x4) + 1 * x5) + 1 * x6) + (-1) * x7)) = 8 * x0 := by grind
theorem bk_1 (x0 x1 x2 x3 x4 x5 x6 x7 : Int32) : ((((((((0 + 1 * ((((((((0 + 1 * x0) + 1 * x1) + 1 * x2) + 1 * x3) + 1 * x4) + 1 * x5) + 1 * x6) + 1 * x7)) + (-1) * ((((((((0 + 1 * x0) + (-1) * x1) + 1 * x2) + (-1) * x3) + 1 * x4) + (-1) * x5) + 1 * x6) + (-1) * x7)) + 1 * ((((((((0 + 1 * x0) + 1 * x1) + (-1) * x2) + (-1) * x3) + 1 * x4) + 1 * x5) + (-1) * x6) + (-1) * x7)) + (-1) * ((((((((0 + 1 * x0) + (-1) * x1) + (-1) * x2) + 1 * x3) + 1 * x4) + (-1) * x5) + (-1) * x6) + 1 * x7)) + 1 * ((((((((0 + 1 * x0) + 1 * x1) + 1 * x2) + 1 * x3) + (-1) * x4) + (-1) * x5) + (-1) * x6) + (-1) * x7)) + (-1) * ((((((((0 + 1 * x0) + (-1) * x1) + 1 * x2) + (-1) * x3) + (-1) * x4) + 1 * x5) + (-1) * x6) + 1 * x7)) + 1 * ((((((((0 + 1 * x0) + 1 * x1) + (-1) * x2) + (-1) * x3) + (-1) * x4) + (-1) * x5) + 1 * x6) + 1 * x7)) + (-1) * ((((((((0 + 1 * x0) + (-1) * x1) + (-1) * x2) + 1 * x3) + (-1) * x4) + 1 * x5) + 1 * x6) + (-1) * x7)) = 8 * x1 := by grind
theorem bk_2 (x0 x1 x2 x3 x4 x5 x6 x7 : Int32) : ((((((((0 + 1 * ((((((((0 + 1 * x0) + 1 * x1) + 1 * x2) + 1 * x3) + 1 * x4) + 1 * x5) + 1 * x6) + 1 * x7)) + 1 * ((((((((0 + 1 * x0) + (-1) * x1) + 1 * x2) + (-1) * x3) + 1 * x4) + (-1) * x5) + 1 * x6) + (-1) * x7)) + (-1) * ((((((((0 + 1 * x0) + 1 * x1) + (-1) * x2) + (-1) * x3) + 1 * x4) + 1 * x5) + (-1) * x6) + (-1) * x7)) + (-1) * ((((((((0 + 1 * x0) + (-1) * x1) + (-1) * x2) + 1 * x3) + 1 * x4) + (-1) * x5) + (-1) * x6) + 1 * x7)) + 1 * ((((((((0 + 1 * x0) + 1 * x1) + 1 * x2) + 1 * x3) + (-1) * x4) + (-1) * x5) + (-1) * x6) + (-1) * x7)) + 1 * ((((((((0 + 1 * x0) + (-1) * x1) + 1 * x2) + (-1) * x3) + (-1) * x4) + 1 * x5) + (-1) * x6) + 1 * x7)) + (-1) * ((((((((0 + 1 * x0) + 1 * x1) + (-1) * x2) + (-1) * x3) + (-1) * x4) + (-1) * x5) + 1 * x6) + 1 * x7)) + (-1) * ((((((((0 + 1 * x0) + (-1) * x1) + (-1) * x2) + 1 * x3) + (-1) * x4) + 1 * x5) + 1 * x6) + (-1) * x7)) = 8 * x2 := by grind
theorem bk_3 (x0 x1 x2 x3 x4 x5 x6 x7 : Int32) : ((((((((0 + 1 * ((((((((0 + 1 * x0) + 1 * x1) + 1 * x2) + 1 * x3) + 1 * x4) + 1 * x5) + 1 * x6) + 1 * x7)) + (-1) * ((((((((0 + 1 * x0) + (-1) * x1) + 1 * x2) + (-1) * x3) + 1 * x4) + (-1) * x5) + 1 * x6) + (-1) * x7)) + (-1) * ((((((((0 + 1 * x0) + 1 * x1) + (-1) * x2) + (-1) * x3) + 1 * x4) + 1 * x5) + (-1) * x6) + (-1) * x7)) + 1 * ((((((((0 + 1 * x0) + (-1) * x1) + (-1) * x2) + 1 * x3) + 1 * x4) + (-1) * x5) + (-1) * x6) + 1 * x7)) + 1 * ((((((((0 + 1 * x0) + 1 * x1) + 1 * x2) + 1 * x3) + (-1) * x4) + (-1) * x5) + (-1) * x6) + (-1) * x7)) + (-1) * ((((((((0 + 1 * x0) + (-1) * x1) + 1 * x2) + (-1) * x3) + (-1) * x4) + 1 * x5) + (-1) * x6) + 1 * x7)) + (-1) * ((((((((0 + 1 * x0) + 1 * x1) + (-1) * x2) + (-1) * x3) + (-1) * x4) + (-1) * x5) + 1 * x6) + 1 * x7)) + 1 * ((((((((0 + 1 * x0) + (-1) * x1) + (-1) * x2) + 1 * x3) + (-1) * x4) + 1 * x5) + 1 * x6) + (-1) * x7)) = 8 * x3 := by grind
theorem bk_4 (x0 x1 x2 x3 x4 x5 x6 x7 : Int32) : ((((((((0 + 1 * ((((((((0 + 1 * x0) + 1 * x1) + 1 * x2) + 1 * x3) + 1 * x4) + 1 * x5) + 1 * x6) + 1 * x7)) + 1 * ((((((((0 + 1 * x0) + (-1) * x1) + 1 * x2) + (-1) * x3) + 1 * x4) + (-1) * x5) + 1 * x6) + (-1) * x7)) + 1 * ((((((((0 + 1 * x0) + 1 * x1) + (-1) * x2) + (-1) * x3) + 1 * x4) + 1 * x5) + (-1) * x6) + (-1) * x7)) + 1 * ((((((((0 + 1 * x0) + (-1) * x1) + (-1) * x2) + 1 * x3) + 1 * x4) + (-1) * x5) + (-1) * x6) + 1 * x7)) + (-1) * ((((((((0 + 1 * x0) + 1 * x1) + 1 * x2) + 1 * x3) + (-1) * x4) + (-1) * x5) + (-1) * x6) + (-1) * x7)) + (-1) * ((((((((0 + 1 * x0) + (-1) * x1) + 1 * x2) + (-1) * x3) + (-1) * x4) + 1 * x5) + (-1) * x6) + 1 * x7)) + (-1) * ((((((((0 + 1 * x0) + 1 * x1) + (-1) * x2) + (-1) * x3) + (-1) * x4) + (-1) * x5) + 1 * x6) + 1 * x7)) + (-1) * ((((((((0 + 1 * x0) + (-1) * x1) + (-1) * x2) + 1 * x3) + (-1) * x4) + 1 * x5) + 1 * x6) + (-1) * x7)) = 8 * x4 := by grind
theorem bk_5 (x0 x1 x2 x3 x4 x5 x6 x7 : Int32) : ((((((((0 + 1 * ((((((((0 + 1 * x0) + 1 * x1) + 1 * x2) + 1 * x3) + 1 * x4) + 1 * x5) + 1 * x6) + 1 * x7)) + (-1) * ((((((((0 + 1 * x0) + (-1) * x1) + 1 * x2) + (-1) * x3) + 1 * x4) + (-1) * x5) + 1 * x6) + (-1) * x7)) + 1 * ((((((((0 + 1 * x0) + 1 * x1) + (-1) * x2) + (-1) * x3) + 1 * x4) + 1 * x5) + (-1) * x6) + (-1) * x7)) + (-1) * ((((((((0 + 1 * x0) + (-1) * x1) + (-1) * x2) + 1 * x3) + 1 * x4) + (-1) * x5) + (-1) * x6) + 1 * x7)) + (-1) * ((((((((0 + 1 * x0) + 1 * x1) + 1 * x2) + 1 * x3) + (-1) * x4) + (-1) * x5) + (-1) * x6) + (-1) * x7)) + 1 * ((((((((0 + 1 * x0) + (-1) * x1) + 1 * x2) + (-1) * x3) + (-1) * x4) + 1 * x5) + (-1) * x6) + 1 * x7)) + (-1) * ((((((((0 + 1 * x0) + 1 * x1) + (-1) * x2) + (-1) * x3) + (-1) * x4) + (-1) * x5) + 1 * x6) + 1 * x7)) + 1 * ((((((((0 + 1 * x0) + (-1) * x1) + (-1) * x2) + 1 * x3) + (-1) * x4) + 1 * x5) + 1 * x6) + (-1) * x7)) = 8 * x5 := by grind
theorem bk_6 (x0 x1 x2 x3 x4 x5 x6 x7 : Int32) : ((((((((0 + 1 * ((((((((0 + 1 * x0) + 1 * x1) + 1 * x2) + 1 * x3) + 1 * x4) + 1 * x5) + 1 * x6) + 1 * x7)) + 1 * ((((((((0 + 1 * x0) + (-1) * x1) + 1 * x2) + (-1) * x3) + 1 * x4) + (-1) * x5) + 1 * x6) + (-1) * x7)) + (-1) * ((((((((0 + 1 * x0) + 1 * x1) + (-1) * x2) + (-1) * x3) + 1 * x4) + 1 * x5) + (-1) * x6) + (-1) * x7)) + (-1) * ((((((((0 + 1 * x0) + (-1) * x1) + (-1) * x2) + 1 * x3) + 1 * x4) + (-1) * x5) + (-1) * x6) + 1 * x7)) + (-1) * ((((((((0 + 1 * x0) + 1 * x1) + 1 * x2) + 1 * x3) + (-1) * x4) + (-1) * x5) + (-1) * x6) + (-1) * x7)) + (-1) * ((((((((0 + 1 * x0) + (-1) * x1) + 1 * x2) + (-1) * x3) + (-1) * x4) + 1 * x5) + (-1) * x6) + 1 * x7)) + 1 * ((((((((0 + 1 * x0) + 1 * x1) + (-1) * x2) + (-1) * x3) + (-1) * x4) + (-1) * x5) + 1 * x6) + 1 * x7)) + 1 * ((((((((0 + 1 * x0) + (-1) * x1) + (-1) * x2) + 1 * x3) + (-1) * x4) + 1 * x5) + 1 * x6) + (-1) * x7)) = 8 * x6 := by grind
theorem bk_7 (x0 x1 x2 x3 x4 x5 x6 x7 : Int32) : ((((((((0 + 1 * ((((((((0 + 1 * x0) + 1 * x1) + 1 * x2) + 1 * x3) + 1 * x4) + 1 * x5) + 1 * x6) + 1 * x7)) + (-1) * ((((((((0 + 1 * x0) + (-1) * x1) + 1 * x2) + (-1) * x3) + 1 * x4) + (-1) * x5) + 1 * x6) + (-1) * x7)) + (-1) * ((((((((0 + 1 * x0) + 1 * x1) + (-1) * x2) + (-1) * x3) + 1 * x4) + 1 * x5) + (-1) * x6) + (-1) * x7)) + 1 * ((((((((0 + 1 * x0) + (-1) * x1) + (-1) * x2) + 1 * x3) + 1 * x4) + (-1) * x5) + (-1) * x6) + 1 * x7)) + (-1) * ((((((((0 + 1 * x0) + 1 * x1) + 1 * x2) + 1 * x3) + (-1) * x4) + (-1) * x5) + (-1) * x6) + (-1) * x7)) + 1 * ((((((((0 + 1 * x0) + (-1) * x1) + 1 * x2) + (-1) * x3) + (-1) * x4) + 1 * x5) + (-1) * x6) + 1 * x7)) + 1 * ((((((((0 + 1 * x0) + 1 * x1) + (-1) * x2) + (-1) * x3) + (-1) * x4) + (-1) * x5) + 1 * x6) + 1 * x7)) + (-1) * ((((((((0 + 1 * x0) + (-1) * x1) + (-1) * x2) + 1 * x3) + (-1) * x4) + 1 * x5) + 1 * x6) + (-1) * x7)) = 8 * x7 := by grind
theorem mul8 : ∀ n, n < 2001 → (8 * (nI n - 1000)) / 8 = nI n - 1000 := by decide +kernel
theorem ffr_in {A : St} (hI : Inv A) (i : Nat) : -1000 ≤ (ffr A i).toInt ∧ (ffr A i).toInt ≤ 1000 := by
  unfold ffr
  split
  · exact hI.R i
  · decide
theorem div8 {x : Int32} (h : -1000 ≤ x.toInt ∧ x.toInt ≤ 1000) : (8 * x) / 8 = x := by
  obtain ⟨n, hn, e⟩ : ∃ n : Nat, n < 2001 ∧ x = nI n - 1000 := by
    refine ⟨(x.toInt + 1000).toNat, by omega, ?_⟩
    apply Int32.toInt_inj.mp
    have e0 : (1000 : Int32).toInt = 1000 := by decide
    have e1 : (nI (x.toInt + 1000).toNat).toInt = x.toInt + 1000 := by rw [nI_toInt (by omega)]; omega
    rw [Int32_toInt_sub_of (by omega) (by omega), e0, e1]
    omega
  rw [e]
  exact mul8 n hn
theorem ftu_ex (A : St) (i : Nat) : ftu A i = ((((((((0 + fsg i 0 * ffr A 0) + fsg i 1 * ffr A 1) + fsg i 2 * ffr A 2) + fsg i 3 * ffr A 3) + fsg i 4 * ffr A 4) + fsg i 5 * ffr A 5) + fsg i 6 * ffr A 6) + fsg i 7 * ffr A 7) := rfl
theorem fba_ex (A : St) (k : Nat) : fba A k = ((((((((0 + fsg k 0 * ftu A 0) + fsg k 1 * ftu A 1) + fsg k 2 * ftu A 2) + fsg k 3 * ftu A 3) + fsg k 4 * ftu A 4) + fsg k 5 * ftu A 5) + fsg k 6 * ftu A 6) + fsg k 7 * ftu A 7) / 8 := rfl
theorem back_same {A : St} (hI : Inv A) {k : Nat} (hk : k < 8) : fba A k = ffr A k := by
  have fin : ∀ j, fba A j = (8 * ffr A j) / 8 → fba A j = ffr A j := fun j e => by rw [e]; exact div8 (ffr_in hI j)
  apply fin
  rw [fba_ex]
  congr 1
  simp only [ftu_ex]
  rcases (show k = 0 ∨ k = 1 ∨ k = 2 ∨ k = 3 ∨ k = 4 ∨ k = 5 ∨ k = 6 ∨ k = 7 by omega) with rfl | rfl | rfl | rfl | rfl | rfl | rfl | rfl
  · simp only [fsg_0_0, fsg_0_1, fsg_0_2, fsg_0_3, fsg_0_4, fsg_0_5, fsg_0_6, fsg_0_7, fsg_1_0, fsg_1_1, fsg_1_2, fsg_1_3, fsg_1_4, fsg_1_5, fsg_1_6, fsg_1_7, fsg_2_0, fsg_2_1, fsg_2_2, fsg_2_3, fsg_2_4, fsg_2_5, fsg_2_6, fsg_2_7, fsg_3_0, fsg_3_1, fsg_3_2, fsg_3_3, fsg_3_4, fsg_3_5, fsg_3_6, fsg_3_7, fsg_4_0, fsg_4_1, fsg_4_2, fsg_4_3, fsg_4_4, fsg_4_5, fsg_4_6, fsg_4_7, fsg_5_0, fsg_5_1, fsg_5_2, fsg_5_3, fsg_5_4, fsg_5_5, fsg_5_6, fsg_5_7, fsg_6_0, fsg_6_1, fsg_6_2, fsg_6_3, fsg_6_4, fsg_6_5, fsg_6_6, fsg_6_7, fsg_7_0, fsg_7_1, fsg_7_2, fsg_7_3, fsg_7_4, fsg_7_5, fsg_7_6, fsg_7_7]; exact bk_0 _ _ _ _ _ _ _ _
  · simp only [fsg_0_0, fsg_0_1, fsg_0_2, fsg_0_3, fsg_0_4, fsg_0_5, fsg_0_6, fsg_0_7, fsg_1_0, fsg_1_1, fsg_1_2, fsg_1_3, fsg_1_4, fsg_1_5, fsg_1_6, fsg_1_7, fsg_2_0, fsg_2_1, fsg_2_2, fsg_2_3, fsg_2_4, fsg_2_5, fsg_2_6, fsg_2_7, fsg_3_0, fsg_3_1, fsg_3_2, fsg_3_3, fsg_3_4, fsg_3_5, fsg_3_6, fsg_3_7, fsg_4_0, fsg_4_1, fsg_4_2, fsg_4_3, fsg_4_4, fsg_4_5, fsg_4_6, fsg_4_7, fsg_5_0, fsg_5_1, fsg_5_2, fsg_5_3, fsg_5_4, fsg_5_5, fsg_5_6, fsg_5_7, fsg_6_0, fsg_6_1, fsg_6_2, fsg_6_3, fsg_6_4, fsg_6_5, fsg_6_6, fsg_6_7, fsg_7_0, fsg_7_1, fsg_7_2, fsg_7_3, fsg_7_4, fsg_7_5, fsg_7_6, fsg_7_7]; exact bk_1 _ _ _ _ _ _ _ _
  · simp only [fsg_0_0, fsg_0_1, fsg_0_2, fsg_0_3, fsg_0_4, fsg_0_5, fsg_0_6, fsg_0_7, fsg_1_0, fsg_1_1, fsg_1_2, fsg_1_3, fsg_1_4, fsg_1_5, fsg_1_6, fsg_1_7, fsg_2_0, fsg_2_1, fsg_2_2, fsg_2_3, fsg_2_4, fsg_2_5, fsg_2_6, fsg_2_7, fsg_3_0, fsg_3_1, fsg_3_2, fsg_3_3, fsg_3_4, fsg_3_5, fsg_3_6, fsg_3_7, fsg_4_0, fsg_4_1, fsg_4_2, fsg_4_3, fsg_4_4, fsg_4_5, fsg_4_6, fsg_4_7, fsg_5_0, fsg_5_1, fsg_5_2, fsg_5_3, fsg_5_4, fsg_5_5, fsg_5_6, fsg_5_7, fsg_6_0, fsg_6_1, fsg_6_2, fsg_6_3, fsg_6_4, fsg_6_5, fsg_6_6, fsg_6_7, fsg_7_0, fsg_7_1, fsg_7_2, fsg_7_3, fsg_7_4, fsg_7_5, fsg_7_6, fsg_7_7]; exact bk_2 _ _ _ _ _ _ _ _
  · simp only [fsg_0_0, fsg_0_1, fsg_0_2, fsg_0_3, fsg_0_4, fsg_0_5, fsg_0_6, fsg_0_7, fsg_1_0, fsg_1_1, fsg_1_2, fsg_1_3, fsg_1_4, fsg_1_5, fsg_1_6, fsg_1_7, fsg_2_0, fsg_2_1, fsg_2_2, fsg_2_3, fsg_2_4, fsg_2_5, fsg_2_6, fsg_2_7, fsg_3_0, fsg_3_1, fsg_3_2, fsg_3_3, fsg_3_4, fsg_3_5, fsg_3_6, fsg_3_7, fsg_4_0, fsg_4_1, fsg_4_2, fsg_4_3, fsg_4_4, fsg_4_5, fsg_4_6, fsg_4_7, fsg_5_0, fsg_5_1, fsg_5_2, fsg_5_3, fsg_5_4, fsg_5_5, fsg_5_6, fsg_5_7, fsg_6_0, fsg_6_1, fsg_6_2, fsg_6_3, fsg_6_4, fsg_6_5, fsg_6_6, fsg_6_7, fsg_7_0, fsg_7_1, fsg_7_2, fsg_7_3, fsg_7_4, fsg_7_5, fsg_7_6, fsg_7_7]; exact bk_3 _ _ _ _ _ _ _ _
  · simp only [fsg_0_0, fsg_0_1, fsg_0_2, fsg_0_3, fsg_0_4, fsg_0_5, fsg_0_6, fsg_0_7, fsg_1_0, fsg_1_1, fsg_1_2, fsg_1_3, fsg_1_4, fsg_1_5, fsg_1_6, fsg_1_7, fsg_2_0, fsg_2_1, fsg_2_2, fsg_2_3, fsg_2_4, fsg_2_5, fsg_2_6, fsg_2_7, fsg_3_0, fsg_3_1, fsg_3_2, fsg_3_3, fsg_3_4, fsg_3_5, fsg_3_6, fsg_3_7, fsg_4_0, fsg_4_1, fsg_4_2, fsg_4_3, fsg_4_4, fsg_4_5, fsg_4_6, fsg_4_7, fsg_5_0, fsg_5_1, fsg_5_2, fsg_5_3, fsg_5_4, fsg_5_5, fsg_5_6, fsg_5_7, fsg_6_0, fsg_6_1, fsg_6_2, fsg_6_3, fsg_6_4, fsg_6_5, fsg_6_6, fsg_6_7, fsg_7_0, fsg_7_1, fsg_7_2, fsg_7_3, fsg_7_4, fsg_7_5, fsg_7_6, fsg_7_7]; exact bk_4 _ _ _ _ _ _ _ _
  · simp only [fsg_0_0, fsg_0_1, fsg_0_2, fsg_0_3, fsg_0_4, fsg_0_5, fsg_0_6, fsg_0_7, fsg_1_0, fsg_1_1, fsg_1_2, fsg_1_3, fsg_1_4, fsg_1_5, fsg_1_6, fsg_1_7, fsg_2_0, fsg_2_1, fsg_2_2, fsg_2_3, fsg_2_4, fsg_2_5, fsg_2_6, fsg_2_7, fsg_3_0, fsg_3_1, fsg_3_2, fsg_3_3, fsg_3_4, fsg_3_5, fsg_3_6, fsg_3_7, fsg_4_0, fsg_4_1, fsg_4_2, fsg_4_3, fsg_4_4, fsg_4_5, fsg_4_6, fsg_4_7, fsg_5_0, fsg_5_1, fsg_5_2, fsg_5_3, fsg_5_4, fsg_5_5, fsg_5_6, fsg_5_7, fsg_6_0, fsg_6_1, fsg_6_2, fsg_6_3, fsg_6_4, fsg_6_5, fsg_6_6, fsg_6_7, fsg_7_0, fsg_7_1, fsg_7_2, fsg_7_3, fsg_7_4, fsg_7_5, fsg_7_6, fsg_7_7]; exact bk_5 _ _ _ _ _ _ _ _
  · simp only [fsg_0_0, fsg_0_1, fsg_0_2, fsg_0_3, fsg_0_4, fsg_0_5, fsg_0_6, fsg_0_7, fsg_1_0, fsg_1_1, fsg_1_2, fsg_1_3, fsg_1_4, fsg_1_5, fsg_1_6, fsg_1_7, fsg_2_0, fsg_2_1, fsg_2_2, fsg_2_3, fsg_2_4, fsg_2_5, fsg_2_6, fsg_2_7, fsg_3_0, fsg_3_1, fsg_3_2, fsg_3_3, fsg_3_4, fsg_3_5, fsg_3_6, fsg_3_7, fsg_4_0, fsg_4_1, fsg_4_2, fsg_4_3, fsg_4_4, fsg_4_5, fsg_4_6, fsg_4_7, fsg_5_0, fsg_5_1, fsg_5_2, fsg_5_3, fsg_5_4, fsg_5_5, fsg_5_6, fsg_5_7, fsg_6_0, fsg_6_1, fsg_6_2, fsg_6_3, fsg_6_4, fsg_6_5, fsg_6_6, fsg_6_7, fsg_7_0, fsg_7_1, fsg_7_2, fsg_7_3, fsg_7_4, fsg_7_5, fsg_7_6, fsg_7_7]; exact bk_6 _ _ _ _ _ _ _ _
  · simp only [fsg_0_0, fsg_0_1, fsg_0_2, fsg_0_3, fsg_0_4, fsg_0_5, fsg_0_6, fsg_0_7, fsg_1_0, fsg_1_1, fsg_1_2, fsg_1_3, fsg_1_4, fsg_1_5, fsg_1_6, fsg_1_7, fsg_2_0, fsg_2_1, fsg_2_2, fsg_2_3, fsg_2_4, fsg_2_5, fsg_2_6, fsg_2_7, fsg_3_0, fsg_3_1, fsg_3_2, fsg_3_3, fsg_3_4, fsg_3_5, fsg_3_6, fsg_3_7, fsg_4_0, fsg_4_1, fsg_4_2, fsg_4_3, fsg_4_4, fsg_4_5, fsg_4_6, fsg_4_7, fsg_5_0, fsg_5_1, fsg_5_2, fsg_5_3, fsg_5_4, fsg_5_5, fsg_5_6, fsg_5_7, fsg_6_0, fsg_6_1, fsg_6_2, fsg_6_3, fsg_6_4, fsg_6_5, fsg_6_6, fsg_6_7, fsg_7_0, fsg_7_1, fsg_7_2, fsg_7_3, fsg_7_4, fsg_7_5, fsg_7_6, fsg_7_7]; exact bk_7 _ _ _ _ _ _ _ _
theorem turned_same {A : St} (hI : Inv A) (k w : Int32) : aTm A k w = aTu A k w := by
  unfold aTm aTu
  split
  · next q =>
    obtain ⟨j, hj, rfl⟩ := iN_of q.1 (by decide) (by decide)
    rw [cl_nI (by omega), ftu_same, back_same hI hj]
  · rfl
end
