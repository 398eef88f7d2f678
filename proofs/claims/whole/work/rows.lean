section
-- ===== PART A: goes FIRST, ahead of the names: the tables' words, and 'selects' of the private methods out of them =====
/-- a private method of a class that the tables say can be made, by its rows of tables_1 -/
def lw_okq (q : MethodName × Nat) : Prop := (q.1.cls ≠ "java/lang/invoke/MethodHandle" ∧ q.1.cls ≠ "java/lang/invoke/VarHandle") ∧ Cond.instantiable q.1.cls q.2 ∈ tables_1 ∧ Cond.privateMethod q.1 ∈ tables_1 ∧ Cond.instanceMethod q.1 ∈ tables_1
theorem lw_p0 : lw_okq (⟨"MeetingCarpets", "setRepeat", "(I)I"⟩, 7) := ⟨⟨by decide +kernel, by decide +kernel⟩, List.mem_of_getElem? (i := 12) (by decide +kernel), List.mem_of_getElem? (i := 209) (by decide +kernel), List.mem_of_getElem? (i := 210) (by decide +kernel)⟩
theorem lw_p1 : lw_okq (⟨"MeetingCarpets$House", "hasTakenPiece", "()Z"⟩, 6) := ⟨⟨by decide +kernel, by decide +kernel⟩, List.mem_of_getElem? (i := 20) (by decide +kernel), List.mem_of_getElem? (i := 216) (by decide +kernel), List.mem_of_getElem? (i := 217) (by decide +kernel)⟩
theorem lw_p2 : lw_okq (⟨"MeetingCarpets$History", "keep", "(LMeetingCarpets$House;)V"⟩, 3) := ⟨⟨by decide +kernel, by decide +kernel⟩, List.mem_of_getElem? (i := 111) (by decide +kernel), List.mem_of_getElem? (i := 220) (by decide +kernel), List.mem_of_getElem? (i := 221) (by decide +kernel)⟩
theorem lw_p3 : lw_okq (⟨"MeetingCarpets$House", "becomeHouse", "(LMeetingCarpets$House;)V"⟩, 6) := ⟨⟨by decide +kernel, by decide +kernel⟩, List.mem_of_getElem? (i := 20) (by decide +kernel), List.mem_of_getElem? (i := 230) (by decide +kernel), List.mem_of_getElem? (i := 231) (by decide +kernel)⟩
theorem lw_p4 : lw_okq (⟨"MeetingCarpets$Stairs", "becomeStairs", "(LMeetingCarpets$Stairs;)V"⟩, 4) := ⟨⟨by decide +kernel, by decide +kernel⟩, List.mem_of_getElem? (i := 26) (by decide +kernel), List.mem_of_getElem? (i := 234) (by decide +kernel), List.mem_of_getElem? (i := 235) (by decide +kernel)⟩
theorem lw_p5 : lw_okq (⟨"MeetingCarpets$Crew", "becomeCrew", "(LMeetingCarpets$Crew;)V"⟩, 6) := ⟨⟨by decide +kernel, by decide +kernel⟩, List.mem_of_getElem? (i := 49) (by decide +kernel), List.mem_of_getElem? (i := 241) (by decide +kernel), List.mem_of_getElem? (i := 242) (by decide +kernel)⟩
theorem lw_p6 : lw_okq (⟨"MeetingCarpets", "setRoll", "(I)I"⟩, 7) := ⟨⟨by decide +kernel, by decide +kernel⟩, List.mem_of_getElem? (i := 12) (by decide +kernel), List.mem_of_getElem? (i := 248) (by decide +kernel), List.mem_of_getElem? (i := 249) (by decide +kernel)⟩
theorem lw_p7 : lw_okq (⟨"MeetingCarpets", "setSlack", "(I)I"⟩, 7) := ⟨⟨by decide +kernel, by decide +kernel⟩, List.mem_of_getElem? (i := 12) (by decide +kernel), List.mem_of_getElem? (i := 252) (by decide +kernel), List.mem_of_getElem? (i := 253) (by decide +kernel)⟩
theorem lw_p8 : lw_okq (⟨"MeetingCarpets$House", "stepsLaid", "()I"⟩, 6) := ⟨⟨by decide +kernel, by decide +kernel⟩, List.mem_of_getElem? (i := 20) (by decide +kernel), List.mem_of_getElem? (i := 260) (by decide +kernel), List.mem_of_getElem? (i := 261) (by decide +kernel)⟩
theorem lw_p9 : lw_okq (⟨"MeetingCarpets$Stairs", "addStep", "(II)V"⟩, 4) := ⟨⟨by decide +kernel, by decide +kernel⟩, List.mem_of_getElem? (i := 26) (by decide +kernel), List.mem_of_getElem? (i := 264) (by decide +kernel), List.mem_of_getElem? (i := 265) (by decide +kernel)⟩
theorem lw_p10 : lw_okq (⟨"MeetingCarpets$Plan", "readFrom", "(LMeetingCarpets$Pad;)I"⟩, 3) := ⟨⟨by decide +kernel, by decide +kernel⟩, List.mem_of_getElem? (i := 163) (by decide +kernel), List.mem_of_getElem? (i := 272) (by decide +kernel), List.mem_of_getElem? (i := 273) (by decide +kernel)⟩
theorem lw_p11 : lw_okq (⟨"MeetingCarpets$Plan", "readFlight", "(LMeetingCarpets$Pad;)Z"⟩, 3) := ⟨⟨by decide +kernel, by decide +kernel⟩, List.mem_of_getElem? (i := 163) (by decide +kernel), List.mem_of_getElem? (i := 276) (by decide +kernel), List.mem_of_getElem? (i := 277) (by decide +kernel)⟩
theorem lw_p12 : lw_okq (⟨"MeetingCarpets$Plan", "readNumber", "(LMeetingCarpets$Pad;II)I"⟩, 3) := ⟨⟨by decide +kernel, by decide +kernel⟩, List.mem_of_getElem? (i := 163) (by decide +kernel), List.mem_of_getElem? (i := 280) (by decide +kernel), List.mem_of_getElem? (i := 281) (by decide +kernel)⟩
theorem lw_p13 : lw_okq (⟨"MeetingCarpets$Pad", "codeOf", "(I)I"⟩, 2) := ⟨⟨by decide +kernel, by decide +kernel⟩, List.mem_of_getElem? (i := 148) (by decide +kernel), List.mem_of_getElem? (i := 284) (by decide +kernel), List.mem_of_getElem? (i := 285) (by decide +kernel)⟩
theorem lw_p14 : lw_okq (⟨"MeetingCarpets$Plan", "readSign", "(LMeetingCarpets$Pad;I)Z"⟩, 3) := ⟨⟨by decide +kernel, by decide +kernel⟩, List.mem_of_getElem? (i := 163) (by decide +kernel), List.mem_of_getElem? (i := 295) (by decide +kernel), List.mem_of_getElem? (i := 296) (by decide +kernel)⟩
theorem lw_p15 : lw_okq (⟨"MeetingCarpets$Plan", "addSteps", "(III)V"⟩, 3) := ⟨⟨by decide +kernel, by decide +kernel⟩, List.mem_of_getElem? (i := 163) (by decide +kernel), List.mem_of_getElem? (i := 299) (by decide +kernel), List.mem_of_getElem? (i := 300) (by decide +kernel)⟩
def lw_privs_1 : List (MethodName × Nat) := [(⟨"MeetingCarpets", "setRepeat", "(I)I"⟩, 7), (⟨"MeetingCarpets$House", "hasTakenPiece", "()Z"⟩, 6), (⟨"MeetingCarpets$History", "keep", "(LMeetingCarpets$House;)V"⟩, 3), (⟨"MeetingCarpets$House", "becomeHouse", "(LMeetingCarpets$House;)V"⟩, 6), (⟨"MeetingCarpets$Stairs", "becomeStairs", "(LMeetingCarpets$Stairs;)V"⟩, 4), (⟨"MeetingCarpets$Crew", "becomeCrew", "(LMeetingCarpets$Crew;)V"⟩, 6), (⟨"MeetingCarpets", "setRoll", "(I)I"⟩, 7), (⟨"MeetingCarpets", "setSlack", "(I)I"⟩, 7), (⟨"MeetingCarpets$House", "stepsLaid", "()I"⟩, 6), (⟨"MeetingCarpets$Stairs", "addStep", "(II)V"⟩, 4), (⟨"MeetingCarpets$Plan", "readFrom", "(LMeetingCarpets$Pad;)I"⟩, 3), (⟨"MeetingCarpets$Plan", "readFlight", "(LMeetingCarpets$Pad;)Z"⟩, 3), (⟨"MeetingCarpets$Plan", "readNumber", "(LMeetingCarpets$Pad;II)I"⟩, 3), (⟨"MeetingCarpets$Pad", "codeOf", "(I)I"⟩, 2), (⟨"MeetingCarpets$Plan", "readSign", "(LMeetingCarpets$Pad;I)Z"⟩, 3), (⟨"MeetingCarpets$Plan", "addSteps", "(III)V"⟩, 3)]
theorem lw_r1 : ∀ q ∈ lw_privs_1, lw_okq q := List.forall_mem_cons.mpr ⟨lw_p0, List.forall_mem_cons.mpr ⟨lw_p1, List.forall_mem_cons.mpr ⟨lw_p2, List.forall_mem_cons.mpr ⟨lw_p3, List.forall_mem_cons.mpr ⟨lw_p4, List.forall_mem_cons.mpr ⟨lw_p5, List.forall_mem_cons.mpr ⟨lw_p6, List.forall_mem_cons.mpr ⟨lw_p7, List.forall_mem_cons.mpr ⟨lw_p8, List.forall_mem_cons.mpr ⟨lw_p9, List.forall_mem_cons.mpr ⟨lw_p10, List.forall_mem_cons.mpr ⟨lw_p11, List.forall_mem_cons.mpr ⟨lw_p12, List.forall_mem_cons.mpr ⟨lw_p13, List.forall_mem_cons.mpr ⟨lw_p14, List.forall_mem_cons.mpr ⟨lw_p15, fun _ h => absurd h List.not_mem_nil⟩⟩⟩⟩⟩⟩⟩⟩⟩⟩⟩⟩⟩⟩⟩⟩
theorem lw_p16 : lw_okq (⟨"MeetingCarpets$Stairs", "addAll", "(LMeetingCarpets$Stairs;)V"⟩, 4) := ⟨⟨by decide +kernel, by decide +kernel⟩, List.mem_of_getElem? (i := 26) (by decide +kernel), List.mem_of_getElem? (i := 304) (by decide +kernel), List.mem_of_getElem? (i := 305) (by decide +kernel)⟩
theorem lw_p17 : lw_okq (⟨"MeetingCarpets$Stairs", "riserOf", "(I)I"⟩, 4) := ⟨⟨by decide +kernel, by decide +kernel⟩, List.mem_of_getElem? (i := 26) (by decide +kernel), List.mem_of_getElem? (i := 308) (by decide +kernel), List.mem_of_getElem? (i := 309) (by decide +kernel)⟩
theorem lw_p18 : lw_okq (⟨"MeetingCarpets$Stairs", "treadOf", "(I)I"⟩, 4) := ⟨⟨by decide +kernel, by decide +kernel⟩, List.mem_of_getElem? (i := 26) (by decide +kernel), List.mem_of_getElem? (i := 313) (by decide +kernel), List.mem_of_getElem? (i := 314) (by decide +kernel)⟩
theorem lw_p19 : lw_okq (⟨"MeetingCarpets$House", "crewOf", "(I)LMeetingCarpets$Crew;"⟩, 6) := ⟨⟨by decide +kernel, by decide +kernel⟩, List.mem_of_getElem? (i := 20) (by decide +kernel), List.mem_of_getElem? (i := 322) (by decide +kernel), List.mem_of_getElem? (i := 323) (by decide +kernel)⟩
theorem lw_p20 : lw_okq (⟨"MeetingCarpets$House", "canLayNext", "(LMeetingCarpets$Crew;)Z"⟩, 6) := ⟨⟨by decide +kernel, by decide +kernel⟩, List.mem_of_getElem? (i := 20) (by decide +kernel), List.mem_of_getElem? (i := 330) (by decide +kernel), List.mem_of_getElem? (i := 331) (by decide +kernel)⟩
theorem lw_p21 : lw_okq (⟨"MeetingCarpets$House", "nextStepOf", "(LMeetingCarpets$Crew;)I"⟩, 6) := ⟨⟨by decide +kernel, by decide +kernel⟩, List.mem_of_getElem? (i := 20) (by decide +kernel), List.mem_of_getElem? (i := 334) (by decide +kernel), List.mem_of_getElem? (i := 335) (by decide +kernel)⟩
theorem lw_p22 : lw_okq (⟨"MeetingCarpets$House", "lowestOfUpper", "()I"⟩, 6) := ⟨⟨by decide +kernel, by decide +kernel⟩, List.mem_of_getElem? (i := 20) (by decide +kernel), List.mem_of_getElem? (i := 339) (by decide +kernel), List.mem_of_getElem? (i := 340) (by decide +kernel)⟩
theorem lw_p23 : lw_okq (⟨"MeetingCarpets$Stairs", "lengthOf", "(I)I"⟩, 4) := ⟨⟨by decide +kernel, by decide +kernel⟩, List.mem_of_getElem? (i := 26) (by decide +kernel), List.mem_of_getElem? (i := 343) (by decide +kernel), List.mem_of_getElem? (i := 344) (by decide +kernel)⟩
theorem lw_p24 : lw_okq (⟨"MeetingCarpets$House", "placeToBegin", "(LMeetingCarpets$Crew;)I"⟩, 6) := ⟨⟨by decide +kernel, by decide +kernel⟩, List.mem_of_getElem? (i := 20) (by decide +kernel), List.mem_of_getElem? (i := 347) (by decide +kernel), List.mem_of_getElem? (i := 348) (by decide +kernel)⟩
theorem lw_p25 : lw_okq (⟨"MeetingCarpets$House", "placeFromBelow", "(I)I"⟩, 6) := ⟨⟨by decide +kernel, by decide +kernel⟩, List.mem_of_getElem? (i := 20) (by decide +kernel), List.mem_of_getElem? (i := 351) (by decide +kernel), List.mem_of_getElem? (i := 352) (by decide +kernel)⟩
theorem lw_p26 : lw_okq (⟨"MeetingCarpets$Stairs", "lengthBelow", "(I)I"⟩, 4) := ⟨⟨by decide +kernel, by decide +kernel⟩, List.mem_of_getElem? (i := 26) (by decide +kernel), List.mem_of_getElem? (i := 355) (by decide +kernel), List.mem_of_getElem? (i := 356) (by decide +kernel)⟩
theorem lw_p27 : lw_okq (⟨"MeetingCarpets$House", "placeFromAbove", "(I)I"⟩, 6) := ⟨⟨by decide +kernel, by decide +kernel⟩, List.mem_of_getElem? (i := 20) (by decide +kernel), List.mem_of_getElem? (i := 362) (by decide +kernel), List.mem_of_getElem? (i := 363) (by decide +kernel)⟩
theorem lw_p28 : lw_okq (⟨"MeetingCarpets$Stairs", "lengthFrom", "(I)I"⟩, 4) := ⟨⟨by decide +kernel, by decide +kernel⟩, List.mem_of_getElem? (i := 26) (by decide +kernel), List.mem_of_getElem? (i := 366) (by decide +kernel), List.mem_of_getElem? (i := 367) (by decide +kernel)⟩
theorem lw_p29 : lw_okq (⟨"MeetingCarpets$House", "cutOff", "(LMeetingCarpets$Crew;II)I"⟩, 6) := ⟨⟨by decide +kernel, by decide +kernel⟩, List.mem_of_getElem? (i := 20) (by decide +kernel), List.mem_of_getElem? (i := 370) (by decide +kernel), List.mem_of_getElem? (i := 371) (by decide +kernel)⟩
theorem lw_p30 : lw_okq (⟨"MeetingCarpets$House", "layNext", "(LMeetingCarpets$Crew;)V"⟩, 6) := ⟨⟨by decide +kernel, by decide +kernel⟩, List.mem_of_getElem? (i := 20) (by decide +kernel), List.mem_of_getElem? (i := 375) (by decide +kernel), List.mem_of_getElem? (i := 376) (by decide +kernel)⟩
theorem lw_p31 : lw_okq (⟨"MeetingCarpets$House", "phaseOf", "(I)I"⟩, 6) := ⟨⟨by decide +kernel, by decide +kernel⟩, List.mem_of_getElem? (i := 20) (by decide +kernel), List.mem_of_getElem? (i := 379) (by decide +kernel), List.mem_of_getElem? (i := 380) (by decide +kernel)⟩
def lw_privs_2 : List (MethodName × Nat) := [(⟨"MeetingCarpets$Stairs", "addAll", "(LMeetingCarpets$Stairs;)V"⟩, 4), (⟨"MeetingCarpets$Stairs", "riserOf", "(I)I"⟩, 4), (⟨"MeetingCarpets$Stairs", "treadOf", "(I)I"⟩, 4), (⟨"MeetingCarpets$House", "crewOf", "(I)LMeetingCarpets$Crew;"⟩, 6), (⟨"MeetingCarpets$House", "canLayNext", "(LMeetingCarpets$Crew;)Z"⟩, 6), (⟨"MeetingCarpets$House", "nextStepOf", "(LMeetingCarpets$Crew;)I"⟩, 6), (⟨"MeetingCarpets$House", "lowestOfUpper", "()I"⟩, 6), (⟨"MeetingCarpets$Stairs", "lengthOf", "(I)I"⟩, 4), (⟨"MeetingCarpets$House", "placeToBegin", "(LMeetingCarpets$Crew;)I"⟩, 6), (⟨"MeetingCarpets$House", "placeFromBelow", "(I)I"⟩, 6), (⟨"MeetingCarpets$Stairs", "lengthBelow", "(I)I"⟩, 4), (⟨"MeetingCarpets$House", "placeFromAbove", "(I)I"⟩, 6), (⟨"MeetingCarpets$Stairs", "lengthFrom", "(I)I"⟩, 4), (⟨"MeetingCarpets$House", "cutOff", "(LMeetingCarpets$Crew;II)I"⟩, 6), (⟨"MeetingCarpets$House", "layNext", "(LMeetingCarpets$Crew;)V"⟩, 6), (⟨"MeetingCarpets$House", "phaseOf", "(I)I"⟩, 6)]
theorem lw_r2 : ∀ q ∈ lw_privs_2, lw_okq q := List.forall_mem_cons.mpr ⟨lw_p16, List.forall_mem_cons.mpr ⟨lw_p17, List.forall_mem_cons.mpr ⟨lw_p18, List.forall_mem_cons.mpr ⟨lw_p19, List.forall_mem_cons.mpr ⟨lw_p20, List.forall_mem_cons.mpr ⟨lw_p21, List.forall_mem_cons.mpr ⟨lw_p22, List.forall_mem_cons.mpr ⟨lw_p23, List.forall_mem_cons.mpr ⟨lw_p24, List.forall_mem_cons.mpr ⟨lw_p25, List.forall_mem_cons.mpr ⟨lw_p26, List.forall_mem_cons.mpr ⟨lw_p27, List.forall_mem_cons.mpr ⟨lw_p28, List.forall_mem_cons.mpr ⟨lw_p29, List.forall_mem_cons.mpr ⟨lw_p30, List.forall_mem_cons.mpr ⟨lw_p31, fun _ h => absurd h List.not_mem_nil⟩⟩⟩⟩⟩⟩⟩⟩⟩⟩⟩⟩⟩⟩⟩⟩
theorem lw_p32 : lw_okq (⟨"MeetingCarpets$House", "takeUpLatest", "(LMeetingCarpets$Crew;)I"⟩, 6) := ⟨⟨by decide +kernel, by decide +kernel⟩, List.mem_of_getElem? (i := 20) (by decide +kernel), List.mem_of_getElem? (i := 387) (by decide +kernel), List.mem_of_getElem? (i := 388) (by decide +kernel)⟩
theorem lw_p33 : lw_okq (⟨"MeetingCarpets$House", "takeAllUp", "()V"⟩, 6) := ⟨⟨by decide +kernel, by decide +kernel⟩, List.mem_of_getElem? (i := 20) (by decide +kernel), List.mem_of_getElem? (i := 395) (by decide +kernel), List.mem_of_getElem? (i := 396) (by decide +kernel)⟩
theorem lw_p34 : lw_okq (⟨"MeetingCarpets$Crew", "beginAnew", "()V"⟩, 6) := ⟨⟨by decide +kernel, by decide +kernel⟩, List.mem_of_getElem? (i := 49) (by decide +kernel), List.mem_of_getElem? (i := 399) (by decide +kernel), List.mem_of_getElem? (i := 400) (by decide +kernel)⟩
theorem lw_p35 : lw_okq (⟨"MeetingCarpets$Stairs", "has", "(I)Z"⟩, 4) := ⟨⟨by decide +kernel, by decide +kernel⟩, List.mem_of_getElem? (i := 26) (by decide +kernel), List.mem_of_getElem? (i := 407) (by decide +kernel), List.mem_of_getElem? (i := 408) (by decide +kernel)⟩
theorem lw_p36 : lw_okq (⟨"MeetingCarpets$House", "layerOf", "(I)I"⟩, 6) := ⟨⟨by decide +kernel, by decide +kernel⟩, List.mem_of_getElem? (i := 20) (by decide +kernel), List.mem_of_getElem? (i := 415) (by decide +kernel), List.mem_of_getElem? (i := 416) (by decide +kernel)⟩
theorem lw_p37 : lw_okq (⟨"MeetingCarpets$House", "isLaid", "(I)Z"⟩, 6) := ⟨⟨by decide +kernel, by decide +kernel⟩, List.mem_of_getElem? (i := 20) (by decide +kernel), List.mem_of_getElem? (i := 419) (by decide +kernel), List.mem_of_getElem? (i := 420) (by decide +kernel)⟩
theorem lw_p38 : lw_okq (⟨"MeetingCarpets$House", "endOf", "(I)I"⟩, 6) := ⟨⟨by decide +kernel, by decide +kernel⟩, List.mem_of_getElem? (i := 20) (by decide +kernel), List.mem_of_getElem? (i := 424) (by decide +kernel), List.mem_of_getElem? (i := 425) (by decide +kernel)⟩
theorem lw_p39 : lw_okq (⟨"MeetingCarpets$House", "patternStartsOn", "(I)I"⟩, 6) := ⟨⟨by decide +kernel, by decide +kernel⟩, List.mem_of_getElem? (i := 20) (by decide +kernel), List.mem_of_getElem? (i := 429) (by decide +kernel), List.mem_of_getElem? (i := 430) (by decide +kernel)⟩
theorem lw_p40 : lw_okq (⟨"MeetingCarpets$Crew", "seams", "()I"⟩, 6) := ⟨⟨by decide +kernel, by decide +kernel⟩, List.mem_of_getElem? (i := 49) (by decide +kernel), List.mem_of_getElem? (i := 437) (by decide +kernel), List.mem_of_getElem? (i := 438) (by decide +kernel)⟩
theorem lw_p41 : lw_okq (⟨"MeetingCarpets$Stairs", "wholeLength", "()I"⟩, 4) := ⟨⟨by decide +kernel, by decide +kernel⟩, List.mem_of_getElem? (i := 26) (by decide +kernel), List.mem_of_getElem? (i := 448) (by decide +kernel), List.mem_of_getElem? (i := 449) (by decide +kernel)⟩
theorem lw_p42 : lw_okq (⟨"MeetingCarpets$House", "lengthLaid", "()I"⟩, 6) := ⟨⟨by decide +kernel, by decide +kernel⟩, List.mem_of_getElem? (i := 20) (by decide +kernel), List.mem_of_getElem? (i := 452) (by decide +kernel), List.mem_of_getElem? (i := 453) (by decide +kernel)⟩
theorem lw_p43 : lw_okq (⟨"MeetingCarpets$House", "carpetTaken", "()I"⟩, 6) := ⟨⟨by decide +kernel, by decide +kernel⟩, List.mem_of_getElem? (i := 20) (by decide +kernel), List.mem_of_getElem? (i := 456) (by decide +kernel), List.mem_of_getElem? (i := 457) (by decide +kernel)⟩
theorem lw_p44 : lw_okq (⟨"MeetingCarpets$House", "allTrims", "()I"⟩, 6) := ⟨⟨by decide +kernel, by decide +kernel⟩, List.mem_of_getElem? (i := 20) (by decide +kernel), List.mem_of_getElem? (i := 460) (by decide +kernel), List.mem_of_getElem? (i := 461) (by decide +kernel)⟩
theorem lw_p45 : lw_okq (⟨"MeetingCarpets$House", "doCrewsMeet", "()Z"⟩, 6) := ⟨⟨by decide +kernel, by decide +kernel⟩, List.mem_of_getElem? (i := 20) (by decide +kernel), List.mem_of_getElem? (i := 464) (by decide +kernel), List.mem_of_getElem? (i := 465) (by decide +kernel)⟩
theorem lw_p46 : lw_okq (⟨"MeetingCarpets$House", "differenceBelow", "(I)I"⟩, 6) := ⟨⟨by decide +kernel, by decide +kernel⟩, List.mem_of_getElem? (i := 20) (by decide +kernel), List.mem_of_getElem? (i := 469) (by decide +kernel), List.mem_of_getElem? (i := 470) (by decide +kernel)⟩
theorem lw_p47 : lw_okq (⟨"MeetingCarpets$House", "differenceOf", "(II)I"⟩, 6) := ⟨⟨by decide +kernel, by decide +kernel⟩, List.mem_of_getElem? (i := 20) (by decide +kernel), List.mem_of_getElem? (i := 473) (by decide +kernel), List.mem_of_getElem? (i := 474) (by decide +kernel)⟩
def lw_privs_3 : List (MethodName × Nat) := [(⟨"MeetingCarpets$House", "takeUpLatest", "(LMeetingCarpets$Crew;)I"⟩, 6), (⟨"MeetingCarpets$House", "takeAllUp", "()V"⟩, 6), (⟨"MeetingCarpets$Crew", "beginAnew", "()V"⟩, 6), (⟨"MeetingCarpets$Stairs", "has", "(I)Z"⟩, 4), (⟨"MeetingCarpets$House", "layerOf", "(I)I"⟩, 6), (⟨"MeetingCarpets$House", "isLaid", "(I)Z"⟩, 6), (⟨"MeetingCarpets$House", "endOf", "(I)I"⟩, 6), (⟨"MeetingCarpets$House", "patternStartsOn", "(I)I"⟩, 6), (⟨"MeetingCarpets$Crew", "seams", "()I"⟩, 6), (⟨"MeetingCarpets$Stairs", "wholeLength", "()I"⟩, 4), (⟨"MeetingCarpets$House", "lengthLaid", "()I"⟩, 6), (⟨"MeetingCarpets$House", "carpetTaken", "()I"⟩, 6), (⟨"MeetingCarpets$House", "allTrims", "()I"⟩, 6), (⟨"MeetingCarpets$House", "doCrewsMeet", "()Z"⟩, 6), (⟨"MeetingCarpets$House", "differenceBelow", "(I)I"⟩, 6), (⟨"MeetingCarpets$House", "differenceOf", "(II)I"⟩, 6)]
theorem lw_r3 : ∀ q ∈ lw_privs_3, lw_okq q := List.forall_mem_cons.mpr ⟨lw_p32, List.forall_mem_cons.mpr ⟨lw_p33, List.forall_mem_cons.mpr ⟨lw_p34, List.forall_mem_cons.mpr ⟨lw_p35, List.forall_mem_cons.mpr ⟨lw_p36, List.forall_mem_cons.mpr ⟨lw_p37, List.forall_mem_cons.mpr ⟨lw_p38, List.forall_mem_cons.mpr ⟨lw_p39, List.forall_mem_cons.mpr ⟨lw_p40, List.forall_mem_cons.mpr ⟨lw_p41, List.forall_mem_cons.mpr ⟨lw_p42, List.forall_mem_cons.mpr ⟨lw_p43, List.forall_mem_cons.mpr ⟨lw_p44, List.forall_mem_cons.mpr ⟨lw_p45, List.forall_mem_cons.mpr ⟨lw_p46, List.forall_mem_cons.mpr ⟨lw_p47, fun _ h => absurd h List.not_mem_nil⟩⟩⟩⟩⟩⟩⟩⟩⟩⟩⟩⟩⟩⟩⟩⟩
theorem lw_p48 : lw_okq (⟨"MeetingCarpets$House", "inPhaseBelow", "(I)I"⟩, 6) := ⟨⟨by decide +kernel, by decide +kernel⟩, List.mem_of_getElem? (i := 20) (by decide +kernel), List.mem_of_getElem? (i := 478) (by decide +kernel), List.mem_of_getElem? (i := 479) (by decide +kernel)⟩
theorem lw_p49 : lw_okq (⟨"MeetingCarpets$House", "differenceStepByStep", "(I)I"⟩, 6) := ⟨⟨by decide +kernel, by decide +kernel⟩, List.mem_of_getElem? (i := 20) (by decide +kernel), List.mem_of_getElem? (i := 487) (by decide +kernel), List.mem_of_getElem? (i := 488) (by decide +kernel)⟩
theorem lw_p50 : lw_okq (⟨"MeetingCarpets$House", "differenceAtOnce", "()I"⟩, 6) := ⟨⟨by decide +kernel, by decide +kernel⟩, List.mem_of_getElem? (i := 20) (by decide +kernel), List.mem_of_getElem? (i := 491) (by decide +kernel), List.mem_of_getElem? (i := 492) (by decide +kernel)⟩
theorem lw_p51 : lw_okq (⟨"MeetingCarpets", "trimsIfLaid", "(I)I"⟩, 7) := ⟨⟨by decide +kernel, by decide +kernel⟩, List.mem_of_getElem? (i := 12) (by decide +kernel), List.mem_of_getElem? (i := 506) (by decide +kernel), List.mem_of_getElem? (i := 507) (by decide +kernel)⟩
theorem lw_p52 : lw_okq (⟨"MeetingCarpets$Pad", "append", "(I)V"⟩, 2) := ⟨⟨by decide +kernel, by decide +kernel⟩, List.mem_of_getElem? (i := 148) (by decide +kernel), List.mem_of_getElem? (i := 526) (by decide +kernel), List.mem_of_getElem? (i := 527) (by decide +kernel)⟩
theorem lw_p53 : lw_okq (⟨"MeetingCarpets$History", "bringBack", "(LMeetingCarpets$House;)V"⟩, 3) := ⟨⟨by decide +kernel, by decide +kernel⟩, List.mem_of_getElem? (i := 111) (by decide +kernel), List.mem_of_getElem? (i := 542) (by decide +kernel), List.mem_of_getElem? (i := 543) (by decide +kernel)⟩
theorem lw_p54 : lw_okq (⟨"MeetingCarpets", "slotOf", "(I)LMeetingCarpets$Slot;"⟩, 7) := ⟨⟨by decide +kernel, by decide +kernel⟩, List.mem_of_getElem? (i := 12) (by decide +kernel), List.mem_of_getElem? (i := 550) (by decide +kernel), List.mem_of_getElem? (i := 551) (by decide +kernel)⟩
theorem lw_p55 : lw_okq (⟨"MeetingCarpetsModel", "record", "()V"⟩, 14) := ⟨⟨by decide +kernel, by decide +kernel⟩, List.mem_of_getElem? (i := 558) (by decide +kernel), List.mem_of_getElem? (i := 623) (by decide +kernel), List.mem_of_getElem? (i := 624) (by decide +kernel)⟩
theorem lw_p56 : lw_okq (⟨"MeetingCarpetsModel", "both", "(I)I"⟩, 14) := ⟨⟨by decide +kernel, by decide +kernel⟩, List.mem_of_getElem? (i := 558) (by decide +kernel), List.mem_of_getElem? (i := 634) (by decide +kernel), List.mem_of_getElem? (i := 635) (by decide +kernel)⟩
theorem lw_p57 : lw_okq (⟨"MeetingCarpetsModel", "of", "(II)I"⟩, 14) := ⟨⟨by decide +kernel, by decide +kernel⟩, List.mem_of_getElem? (i := 558) (by decide +kernel), List.mem_of_getElem? (i := 638) (by decide +kernel), List.mem_of_getElem? (i := 639) (by decide +kernel)⟩
theorem lw_p58 : lw_okq (⟨"MeetingCarpetsModel", "add", "(II)V"⟩, 14) := ⟨⟨by decide +kernel, by decide +kernel⟩, List.mem_of_getElem? (i := 558) (by decide +kernel), List.mem_of_getElem? (i := 646) (by decide +kernel), List.mem_of_getElem? (i := 647) (by decide +kernel)⟩
theorem lw_p59 : lw_okq (⟨"MeetingCarpetsModel", "put", "(III)V"⟩, 14) := ⟨⟨by decide +kernel, by decide +kernel⟩, List.mem_of_getElem? (i := 558) (by decide +kernel), List.mem_of_getElem? (i := 657) (by decide +kernel), List.mem_of_getElem? (i := 658) (by decide +kernel)⟩
theorem lw_p60 : lw_okq (⟨"MeetingCarpetsModel", "nextOf", "(I)I"⟩, 14) := ⟨⟨by decide +kernel, by decide +kernel⟩, List.mem_of_getElem? (i := 558) (by decide +kernel), List.mem_of_getElem? (i := 665) (by decide +kernel), List.mem_of_getElem? (i := 666) (by decide +kernel)⟩
theorem lw_p61 : lw_okq (⟨"MeetingCarpetsModel", "canLay", "(II)Z"⟩, 14) := ⟨⟨by decide +kernel, by decide +kernel⟩, List.mem_of_getElem? (i := 558) (by decide +kernel), List.mem_of_getElem? (i := 669) (by decide +kernel), List.mem_of_getElem? (i := 670) (by decide +kernel)⟩
theorem lw_p62 : lw_okq (⟨"MeetingCarpetsModel", "cut", "(III)I"⟩, 14) := ⟨⟨by decide +kernel, by decide +kernel⟩, List.mem_of_getElem? (i := 558) (by decide +kernel), List.mem_of_getElem? (i := 673) (by decide +kernel), List.mem_of_getElem? (i := 674) (by decide +kernel)⟩
theorem lw_p63 : lw_okq (⟨"MeetingCarpetsModel", "phaseFromBelow", "(I)I"⟩, 14) := ⟨⟨by decide +kernel, by decide +kernel⟩, List.mem_of_getElem? (i := 558) (by decide +kernel), List.mem_of_getElem? (i := 677) (by decide +kernel), List.mem_of_getElem? (i := 678) (by decide +kernel)⟩
def lw_privs_4 : List (MethodName × Nat) := [(⟨"MeetingCarpets$House", "inPhaseBelow", "(I)I"⟩, 6), (⟨"MeetingCarpets$House", "differenceStepByStep", "(I)I"⟩, 6), (⟨"MeetingCarpets$House", "differenceAtOnce", "()I"⟩, 6), (⟨"MeetingCarpets", "trimsIfLaid", "(I)I"⟩, 7), (⟨"MeetingCarpets$Pad", "append", "(I)V"⟩, 2), (⟨"MeetingCarpets$History", "bringBack", "(LMeetingCarpets$House;)V"⟩, 3), (⟨"MeetingCarpets", "slotOf", "(I)LMeetingCarpets$Slot;"⟩, 7), (⟨"MeetingCarpetsModel", "record", "()V"⟩, 14), (⟨"MeetingCarpetsModel", "both", "(I)I"⟩, 14), (⟨"MeetingCarpetsModel", "of", "(II)I"⟩, 14), (⟨"MeetingCarpetsModel", "add", "(II)V"⟩, 14), (⟨"MeetingCarpetsModel", "put", "(III)V"⟩, 14), (⟨"MeetingCarpetsModel", "nextOf", "(I)I"⟩, 14), (⟨"MeetingCarpetsModel", "canLay", "(II)Z"⟩, 14), (⟨"MeetingCarpetsModel", "cut", "(III)I"⟩, 14), (⟨"MeetingCarpetsModel", "phaseFromBelow", "(I)I"⟩, 14)]
theorem lw_r4 : ∀ q ∈ lw_privs_4, lw_okq q := List.forall_mem_cons.mpr ⟨lw_p48, List.forall_mem_cons.mpr ⟨lw_p49, List.forall_mem_cons.mpr ⟨lw_p50, List.forall_mem_cons.mpr ⟨lw_p51, List.forall_mem_cons.mpr ⟨lw_p52, List.forall_mem_cons.mpr ⟨lw_p53, List.forall_mem_cons.mpr ⟨lw_p54, List.forall_mem_cons.mpr ⟨lw_p55, List.forall_mem_cons.mpr ⟨lw_p56, List.forall_mem_cons.mpr ⟨lw_p57, List.forall_mem_cons.mpr ⟨lw_p58, List.forall_mem_cons.mpr ⟨lw_p59, List.forall_mem_cons.mpr ⟨lw_p60, List.forall_mem_cons.mpr ⟨lw_p61, List.forall_mem_cons.mpr ⟨lw_p62, List.forall_mem_cons.mpr ⟨lw_p63, fun _ h => absurd h List.not_mem_nil⟩⟩⟩⟩⟩⟩⟩⟩⟩⟩⟩⟩⟩⟩⟩⟩
theorem lw_p64 : lw_okq (⟨"MeetingCarpetsModel", "lengths", "(II)I"⟩, 14) := ⟨⟨by decide +kernel, by decide +kernel⟩, List.mem_of_getElem? (i := 558) (by decide +kernel), List.mem_of_getElem? (i := 681) (by decide +kernel), List.mem_of_getElem? (i := 682) (by decide +kernel)⟩
theorem lw_p65 : lw_okq (⟨"MeetingCarpetsModel", "lengthOf", "(I)I"⟩, 14) := ⟨⟨by decide +kernel, by decide +kernel⟩, List.mem_of_getElem? (i := 558) (by decide +kernel), List.mem_of_getElem? (i := 685) (by decide +kernel), List.mem_of_getElem? (i := 686) (by decide +kernel)⟩
theorem lw_p66 : lw_okq (⟨"MeetingCarpetsModel", "placeOf", "(I)I"⟩, 14) := ⟨⟨by decide +kernel, by decide +kernel⟩, List.mem_of_getElem? (i := 558) (by decide +kernel), List.mem_of_getElem? (i := 689) (by decide +kernel), List.mem_of_getElem? (i := 690) (by decide +kernel)⟩
theorem lw_p67 : lw_okq (⟨"MeetingCarpetsModel", "phaseFromAbove", "(I)I"⟩, 14) := ⟨⟨by decide +kernel, by decide +kernel⟩, List.mem_of_getElem? (i := 558) (by decide +kernel), List.mem_of_getElem? (i := 693) (by decide +kernel), List.mem_of_getElem? (i := 694) (by decide +kernel)⟩
theorem lw_p68 : lw_okq (⟨"MeetingCarpetsModel", "lays", "(II)Z"⟩, 14) := ⟨⟨by decide +kernel, by decide +kernel⟩, List.mem_of_getElem? (i := 558) (by decide +kernel), List.mem_of_getElem? (i := 697) (by decide +kernel), List.mem_of_getElem? (i := 698) (by decide +kernel)⟩
theorem lw_p69 : lw_okq (⟨"MeetingCarpetsModel", "phaseOf", "(I)I"⟩, 14) := ⟨⟨by decide +kernel, by decide +kernel⟩, List.mem_of_getElem? (i := 558) (by decide +kernel), List.mem_of_getElem? (i := 701) (by decide +kernel), List.mem_of_getElem? (i := 702) (by decide +kernel)⟩
theorem lw_p70 : lw_okq (⟨"MeetingCarpetsModel", "crewOf", "(I)I"⟩, 14) := ⟨⟨by decide +kernel, by decide +kernel⟩, List.mem_of_getElem? (i := 558) (by decide +kernel), List.mem_of_getElem? (i := 705) (by decide +kernel), List.mem_of_getElem? (i := 706) (by decide +kernel)⟩
theorem lw_p71 : lw_okq (⟨"MeetingCarpetsModel", "clearCrew", "(I)V"⟩, 14) := ⟨⟨by decide +kernel, by decide +kernel⟩, List.mem_of_getElem? (i := 558) (by decide +kernel), List.mem_of_getElem? (i := 717) (by decide +kernel), List.mem_of_getElem? (i := 718) (by decide +kernel)⟩
theorem lw_p72 : lw_okq (⟨"MeetingCarpetsModel", "isStep", "(I)Z"⟩, 14) := ⟨⟨by decide +kernel, by decide +kernel⟩, List.mem_of_getElem? (i := 558) (by decide +kernel), List.mem_of_getElem? (i := 725) (by decide +kernel), List.mem_of_getElem? (i := 726) (by decide +kernel)⟩
theorem lw_p73 : lw_okq (⟨"MeetingCarpetsModel", "ofStep", "(II)I"⟩, 14) := ⟨⟨by decide +kernel, by decide +kernel⟩, List.mem_of_getElem? (i := 558) (by decide +kernel), List.mem_of_getElem? (i := 729) (by decide +kernel), List.mem_of_getElem? (i := 730) (by decide +kernel)⟩
theorem lw_p74 : lw_okq (⟨"MeetingCarpetsModel", "seams", "(I)I"⟩, 14) := ⟨⟨by decide +kernel, by decide +kernel⟩, List.mem_of_getElem? (i := 558) (by decide +kernel), List.mem_of_getElem? (i := 737) (by decide +kernel), List.mem_of_getElem? (i := 738) (by decide +kernel)⟩
theorem lw_p75 : lw_okq (⟨"MeetingCarpetsModel", "number", "(I)I"⟩, 14) := ⟨⟨by decide +kernel, by decide +kernel⟩, List.mem_of_getElem? (i := 558) (by decide +kernel), List.mem_of_getElem? (i := 745) (by decide +kernel), List.mem_of_getElem? (i := 746) (by decide +kernel)⟩
theorem lw_p76 : lw_okq (⟨"MeetingCarpetsModel", "met", "()I"⟩, 14) := ⟨⟨by decide +kernel, by decide +kernel⟩, List.mem_of_getElem? (i := 558) (by decide +kernel), List.mem_of_getElem? (i := 749) (by decide +kernel), List.mem_of_getElem? (i := 750) (by decide +kernel)⟩
theorem lw_p77 : lw_okq (⟨"MeetingCarpetsModel", "differs", "(I)I"⟩, 14) := ⟨⟨by decide +kernel, by decide +kernel⟩, List.mem_of_getElem? (i := 558) (by decide +kernel), List.mem_of_getElem? (i := 753) (by decide +kernel), List.mem_of_getElem? (i := 754) (by decide +kernel)⟩
theorem lw_p78 : lw_okq (⟨"MeetingCarpetsModel", "around", "(II)I"⟩, 14) := ⟨⟨by decide +kernel, by decide +kernel⟩, List.mem_of_getElem? (i := 558) (by decide +kernel), List.mem_of_getElem? (i := 757) (by decide +kernel), List.mem_of_getElem? (i := 758) (by decide +kernel)⟩
theorem lw_p79 : lw_okq (⟨"MeetingCarpetsModel", "trimsAt", "(I)I"⟩, 14) := ⟨⟨by decide +kernel, by decide +kernel⟩, List.mem_of_getElem? (i := 558) (by decide +kernel), List.mem_of_getElem? (i := 773) (by decide +kernel), List.mem_of_getElem? (i := 774) (by decide +kernel)⟩
def lw_privs_5 : List (MethodName × Nat) := [(⟨"MeetingCarpetsModel", "lengths", "(II)I"⟩, 14), (⟨"MeetingCarpetsModel", "lengthOf", "(I)I"⟩, 14), (⟨"MeetingCarpetsModel", "placeOf", "(I)I"⟩, 14), (⟨"MeetingCarpetsModel", "phaseFromAbove", "(I)I"⟩, 14), (⟨"MeetingCarpetsModel", "lays", "(II)Z"⟩, 14), (⟨"MeetingCarpetsModel", "phaseOf", "(I)I"⟩, 14), (⟨"MeetingCarpetsModel", "crewOf", "(I)I"⟩, 14), (⟨"MeetingCarpetsModel", "clearCrew", "(I)V"⟩, 14), (⟨"MeetingCarpetsModel", "isStep", "(I)Z"⟩, 14), (⟨"MeetingCarpetsModel", "ofStep", "(II)I"⟩, 14), (⟨"MeetingCarpetsModel", "seams", "(I)I"⟩, 14), (⟨"MeetingCarpetsModel", "number", "(I)I"⟩, 14), (⟨"MeetingCarpetsModel", "met", "()I"⟩, 14), (⟨"MeetingCarpetsModel", "differs", "(I)I"⟩, 14), (⟨"MeetingCarpetsModel", "around", "(II)I"⟩, 14), (⟨"MeetingCarpetsModel", "trimsAt", "(I)I"⟩, 14)]
theorem lw_r5 : ∀ q ∈ lw_privs_5, lw_okq q := List.forall_mem_cons.mpr ⟨lw_p64, List.forall_mem_cons.mpr ⟨lw_p65, List.forall_mem_cons.mpr ⟨lw_p66, List.forall_mem_cons.mpr ⟨lw_p67, List.forall_mem_cons.mpr ⟨lw_p68, List.forall_mem_cons.mpr ⟨lw_p69, List.forall_mem_cons.mpr ⟨lw_p70, List.forall_mem_cons.mpr ⟨lw_p71, List.forall_mem_cons.mpr ⟨lw_p72, List.forall_mem_cons.mpr ⟨lw_p73, List.forall_mem_cons.mpr ⟨lw_p74, List.forall_mem_cons.mpr ⟨lw_p75, List.forall_mem_cons.mpr ⟨lw_p76, List.forall_mem_cons.mpr ⟨lw_p77, List.forall_mem_cons.mpr ⟨lw_p78, List.forall_mem_cons.mpr ⟨lw_p79, fun _ h => absurd h List.not_mem_nil⟩⟩⟩⟩⟩⟩⟩⟩⟩⟩⟩⟩⟩⟩⟩⟩
theorem lw_p80 : lw_okq (⟨"MeetingCarpetsModel", "isText", "()Z"⟩, 14) := ⟨⟨by decide +kernel, by decide +kernel⟩, List.mem_of_getElem? (i := 558) (by decide +kernel), List.mem_of_getElem? (i := 797) (by decide +kernel), List.mem_of_getElem? (i := 798) (by decide +kernel)⟩
theorem lw_p81 : lw_okq (⟨"MeetingCarpetsModel", "readFlight", "()Z"⟩, 14) := ⟨⟨by decide +kernel, by decide +kernel⟩, List.mem_of_getElem? (i := 558) (by decide +kernel), List.mem_of_getElem? (i := 801) (by decide +kernel), List.mem_of_getElem? (i := 802) (by decide +kernel)⟩
theorem lw_p82 : lw_okq (⟨"MeetingCarpetsModel", "reads", "(IIZ)Z"⟩, 14) := ⟨⟨by decide +kernel, by decide +kernel⟩, List.mem_of_getElem? (i := 558) (by decide +kernel), List.mem_of_getElem? (i := 805) (by decide +kernel), List.mem_of_getElem? (i := 806) (by decide +kernel)⟩
theorem lw_p83 : lw_okq (⟨"MeetingCarpetsModel", "sign", "()I"⟩, 14) := ⟨⟨by decide +kernel, by decide +kernel⟩, List.mem_of_getElem? (i := 558) (by decide +kernel), List.mem_of_getElem? (i := 809) (by decide +kernel), List.mem_of_getElem? (i := 810) (by decide +kernel)⟩
theorem lw_p84 : lw_okq (⟨"MeetingCarpetsModel", "takes", "(I)Z"⟩, 14) := ⟨⟨by decide +kernel, by decide +kernel⟩, List.mem_of_getElem? (i := 558) (by decide +kernel), List.mem_of_getElem? (i := 813) (by decide +kernel), List.mem_of_getElem? (i := 814) (by decide +kernel)⟩
def lw_privs_6 : List (MethodName × Nat) := [(⟨"MeetingCarpetsModel", "isText", "()Z"⟩, 14), (⟨"MeetingCarpetsModel", "readFlight", "()Z"⟩, 14), (⟨"MeetingCarpetsModel", "reads", "(IIZ)Z"⟩, 14), (⟨"MeetingCarpetsModel", "sign", "()I"⟩, 14), (⟨"MeetingCarpetsModel", "takes", "(I)Z"⟩, 14)]
theorem lw_r6 : ∀ q ∈ lw_privs_6, lw_okq q := List.forall_mem_cons.mpr ⟨lw_p80, List.forall_mem_cons.mpr ⟨lw_p81, List.forall_mem_cons.mpr ⟨lw_p82, List.forall_mem_cons.mpr ⟨lw_p83, List.forall_mem_cons.mpr ⟨lw_p84, fun _ h => absurd h List.not_mem_nil⟩⟩⟩⟩⟩
def lw_privs : List (MethodName × Nat) := lw_privs_1 ++ (lw_privs_2 ++ (lw_privs_3 ++ (lw_privs_4 ++ (lw_privs_5 ++ (lw_privs_6)))))
def lw_tbl : List Cond := k2_sels lw_privs ++ tables_1
theorem lw_privs_ok : ∀ q ∈ lw_privs, lw_okq q := by
  show ∀ q ∈ lw_privs_1 ++ (lw_privs_2 ++ (lw_privs_3 ++ (lw_privs_4 ++ (lw_privs_5 ++ (lw_privs_6))))), lw_okq q
  exact List.forall_mem_append.mpr ⟨lw_r1, List.forall_mem_append.mpr ⟨lw_r2, List.forall_mem_append.mpr ⟨lw_r3, List.forall_mem_append.mpr ⟨lw_r4, List.forall_mem_append.mpr ⟨lw_r5, lw_r6⟩⟩⟩⟩⟩
def RX0 : String := "MeetingCarpets$Crew"
def TX0 : u_T := fun k => match k with
  | 0 => ("MeetingCarpets$Crew", "fromBelow", "Z", true)
  | 1 => ("MeetingCarpets$Crew", "beginning", "I", false)
  | 2 => ("MeetingCarpets$Crew", "laid", "I", false)
  | 3 => ("MeetingCarpets$Crew", "left", "I", false)
  | 4 => ("MeetingCarpets$Crew", "pieces", "I", false)
  | _ => ("MeetingCarpets$Crew", "trims", "I", false)
def tyX0 : Nat → FieldType := fun k => match k with
  | 0 => .boolean
  | 1 => .int
  | 2 => .int
  | 3 => .int
  | 4 => .int
  | _ => .int
theorem nmX0 : ∀ a, a < 6 → ∀ b, b < 6 → a ≠ b → (TX0 a).2.1 ≠ (TX0 b).2.1 := by decide +kernel
theorem tyX0_ok : ∀ k, k < 6 → parseFieldDescriptor (TX0 k).2.2.1 = some (tyX0 k) := by decide +kernel
def RX1 : String := "MeetingCarpets$History"
def TX1 : u_T := fun k => match k with
  | 0 => ("MeetingCarpets$History", "states", "[LMeetingCarpets$House;", true)
  | 1 => ("MeetingCarpets$History", "next", "I", false)
  | _ => ("MeetingCarpets$History", "kept", "I", false)
def tyX1 : Nat → FieldType := fun k => match k with
  | 0 => .array (.object "MeetingCarpets$House")
  | 1 => .int
  | _ => .int
theorem nmX1 : ∀ a, a < 3 → ∀ b, b < 3 → a ≠ b → (TX1 a).2.1 ≠ (TX1 b).2.1 := by decide +kernel
theorem tyX1_ok : ∀ k, k < 3 → parseFieldDescriptor (TX1 k).2.2.1 = some (tyX1 k) := by decide +kernel
def RX2 : String := "MeetingCarpets$House"
def TX2 : u_T := fun k => match k with
  | 0 => ("MeetingCarpets$House", "repeat", "I", false)
  | 1 => ("MeetingCarpets$House", "roll", "I", false)
  | 2 => ("MeetingCarpets$House", "slack", "I", false)
  | 3 => ("MeetingCarpets$House", "stairs", "LMeetingCarpets$Stairs;", true)
  | 4 => ("MeetingCarpets$House", "lower", "LMeetingCarpets$Crew;", true)
  | _ => ("MeetingCarpets$House", "upper", "LMeetingCarpets$Crew;", true)
def tyX2 : Nat → FieldType := fun k => match k with
  | 0 => .int
  | 1 => .int
  | 2 => .int
  | 3 => .object "MeetingCarpets$Stairs"
  | 4 => .object "MeetingCarpets$Crew"
  | _ => .object "MeetingCarpets$Crew"
theorem nmX2 : ∀ a, a < 6 → ∀ b, b < 6 → a ≠ b → (TX2 a).2.1 ≠ (TX2 b).2.1 := by decide +kernel
theorem tyX2_ok : ∀ k, k < 6 → parseFieldDescriptor (TX2 k).2.2.1 = some (tyX2 k) := by decide +kernel
def RX3 : String := "MeetingCarpets$Pad"
def TX3 : u_T := fun k => match k with
  | 0 => ("MeetingCarpets$Pad", "codes", "[I", true)
  | _ => ("MeetingCarpets$Pad", "length", "I", false)
def tyX3 : Nat → FieldType := fun k => match k with
  | 0 => .array .int
  | _ => .int
theorem nmX3 : ∀ a, a < 2 → ∀ b, b < 2 → a ≠ b → (TX3 a).2.1 ≠ (TX3 b).2.1 := by decide +kernel
theorem tyX3_ok : ∀ k, k < 2 → parseFieldDescriptor (TX3 k).2.2.1 = some (tyX3 k) := by decide +kernel
def RX4 : String := "MeetingCarpets$Plan"
def TX4 : u_T := fun k => match k with
  | 0 => ("MeetingCarpets$Plan", "stairs", "LMeetingCarpets$Stairs;", true)
  | 1 => ("MeetingCarpets$Plan", "stepsWanted", "I", false)
  | _ => ("MeetingCarpets$Plan", "place", "I", false)
def tyX4 : Nat → FieldType := fun k => match k with
  | 0 => .object "MeetingCarpets$Stairs"
  | 1 => .int
  | _ => .int
theorem nmX4 : ∀ a, a < 3 → ∀ b, b < 3 → a ≠ b → (TX4 a).2.1 ≠ (TX4 b).2.1 := by decide +kernel
theorem tyX4_ok : ∀ k, k < 3 → parseFieldDescriptor (TX4 k).2.2.1 = some (tyX4 k) := by decide +kernel
def RX5 : String := "MeetingCarpets$Slot"
def TX5 : u_T := fun k => match k with
  | 0 => ("MeetingCarpets$Slot", "house", "LMeetingCarpets$House;", true)
  | _ => ("MeetingCarpets$Slot", "isFilled", "Z", false)
def tyX5 : Nat → FieldType := fun k => match k with
  | 0 => .object "MeetingCarpets$House"
  | _ => .boolean
theorem nmX5 : ∀ a, a < 2 → ∀ b, b < 2 → a ≠ b → (TX5 a).2.1 ≠ (TX5 b).2.1 := by decide +kernel
theorem tyX5_ok : ∀ k, k < 2 → parseFieldDescriptor (TX5 k).2.2.1 = some (tyX5 k) := by decide +kernel
def RX6 : String := "MeetingCarpets$Stairs"
def TX6 : u_T := fun k => match k with
  | 0 => ("MeetingCarpets$Stairs", "risers", "[I", true)
  | 1 => ("MeetingCarpets$Stairs", "treads", "[I", true)
  | 2 => ("MeetingCarpets$Stairs", "feet", "[I", true)
  | _ => ("MeetingCarpets$Stairs", "steps", "I", false)
def tyX6 : Nat → FieldType := fun k => match k with
  | 0 => .array .int
  | 1 => .array .int
  | 2 => .array .int
  | _ => .int
theorem nmX6 : ∀ a, a < 4 → ∀ b, b < 4 → a ≠ b → (TX6 a).2.1 ≠ (TX6 b).2.1 := by decide +kernel
theorem tyX6_ok : ∀ k, k < 4 → parseFieldDescriptor (TX6 k).2.2.1 = some (tyX6 k) := by decide +kernel
def RX7 : String := "MeetingCarpets"
def TX7 : u_T := fun k => match k with
  | 0 => ("MeetingCarpets", "now", "LMeetingCarpets$House;", true)
  | 1 => ("MeetingCarpets", "trial", "LMeetingCarpets$House;", true)
  | 2 => ("MeetingCarpets", "history", "LMeetingCarpets$History;", true)
  | 3 => ("MeetingCarpets", "firstSlot", "LMeetingCarpets$Slot;", true)
  | 4 => ("MeetingCarpets", "secondSlot", "LMeetingCarpets$Slot;", true)
  | 5 => ("MeetingCarpets", "pad", "LMeetingCarpets$Pad;", true)
  | _ => ("MeetingCarpets", "plan", "LMeetingCarpets$Plan;", true)
def tyX7 : Nat → FieldType := fun k => match k with
  | 0 => .object "MeetingCarpets$House"
  | 1 => .object "MeetingCarpets$House"
  | 2 => .object "MeetingCarpets$History"
  | 3 => .object "MeetingCarpets$Slot"
  | 4 => .object "MeetingCarpets$Slot"
  | 5 => .object "MeetingCarpets$Pad"
  | _ => .object "MeetingCarpets$Plan"
theorem nmX7 : ∀ a, a < 7 → ∀ b, b < 7 → a ≠ b → (TX7 a).2.1 ≠ (TX7 b).2.1 := by decide +kernel
theorem tyX7_ok : ∀ k, k < 7 → parseFieldDescriptor (TX7 k).2.2.1 = some (tyX7 k) := by decide +kernel
def RX8 : String := "MeetingCarpetsModel"
def TX8 : u_T := fun k => match k with
  | 0 => ("MeetingCarpetsModel", "row", "[I", true)
  | 1 => ("MeetingCarpetsModel", "history", "[I", true)
  | 2 => ("MeetingCarpetsModel", "states", "I", false)
  | 3 => ("MeetingCarpetsModel", "slots", "[I", true)
  | 4 => ("MeetingCarpetsModel", "isSaved", "[Z", true)
  | 5 => ("MeetingCarpetsModel", "aside", "[I", true)
  | 6 => ("MeetingCarpetsModel", "pad", "[I", true)
  | 7 => ("MeetingCarpetsModel", "length", "I", false)
  | 8 => ("MeetingCarpetsModel", "spot", "I", false)
  | 9 => ("MeetingCarpetsModel", "number", "I", false)
  | 10 => ("MeetingCarpetsModel", "flights", "I", false)
  | 11 => ("MeetingCarpetsModel", "many", "[I", true)
  | 12 => ("MeetingCarpetsModel", "risers", "[I", true)
  | _ => ("MeetingCarpetsModel", "treads", "[I", true)
def tyX8 : Nat → FieldType := fun k => match k with
  | 0 => .array .int
  | 1 => .array .int
  | 2 => .int
  | 3 => .array .int
  | 4 => .array .boolean
  | 5 => .array .int
  | 6 => .array .int
  | 7 => .int
  | 8 => .int
  | 9 => .int
  | 10 => .int
  | 11 => .array .int
  | 12 => .array .int
  | _ => .array .int
theorem nmX8 : ∀ a, a < 14 → ∀ b, b < 14 → a ≠ b → (TX8 a).2.1 ≠ (TX8 b).2.1 := by decide +kernel
theorem tyX8_ok : ∀ k, k < 14 → parseFieldDescriptor (TX8 k).2.2.1 = some (tyX8 k) := by decide +kernel
abbrev x_CLS : List vw_C := [(RX0, TX0, 6), (RX1, TX1, 3), (RX2, TX2, 6), (RX3, TX3, 2), (RX4, TX4, 3), (RX5, TX5, 2), (RX6, TX6, 4), (RX7, TX7, 7), (RX8, TX8, 14)]
def x_TY (ci : Nat) : Nat → FieldType := ([tyX0, tyX1, tyX2, tyX3, tyX4, tyX5, tyX6, tyX7, tyX8] : List (Nat → FieldType)).getD ci (fun _ => .int)
def x_RCS : List String := ["MeetingCarpets$Crew", "MeetingCarpets$History", "MeetingCarpets$House", "MeetingCarpets$Pad", "MeetingCarpets$Plan", "MeetingCarpets$Slot", "MeetingCarpets$Stairs", "MeetingCarpets", "MeetingCarpetsModel", "java/lang/Math", "MeetingCarpetsLaw"]
def x_RC (c : Nat) : String := x_RCS.getD c ""
def x_dfl (ci : Nat) : List Value := ([[.int 0, .int 0, .int 0, .int 0, .int 0, .int 0], [.null, .int 0, .int 0], [.int 0, .int 0, .int 0, .null, .null, .null], [.null, .int 0], [.null, .int 0, .int 0], [.null, .int 0], [.null, .null, .null, .int 0], [.null, .null, .null, .null, .null, .null, .null], [.null, .null, .int 0, .null, .null, .null, .null, .int 0, .int 0, .int 0, .int 0, .null, .null, .null]] : List (List Value)).getD ci []
def x_CDS : List ByteArray := [prog_2_method_1_code, prog_2_method_2_code, prog_2_method_3_code, prog_2_method_4_code, prog_3_method_1_code, prog_3_method_2_code, prog_3_method_3_code, prog_4_method_1_code, prog_4_method_2_code, prog_4_method_3_code, prog_4_method_4_code, prog_4_method_5_code, prog_4_method_6_code, prog_4_method_7_code, prog_4_method_8_code, prog_4_method_9_code, prog_4_method_10_code, prog_4_method_11_code, prog_4_method_12_code, prog_4_method_13_code, prog_4_method_14_code, prog_4_method_15_code, prog_4_method_16_code, prog_4_method_17_code, prog_4_method_18_code, prog_4_method_19_code, prog_4_method_20_code, prog_4_method_21_code, prog_4_method_22_code, prog_4_method_23_code, prog_4_method_24_code, prog_4_method_25_code, prog_4_method_26_code, prog_4_method_27_code, prog_4_method_28_code, prog_4_method_29_code, prog_5_method_1_code, prog_5_method_2_code, prog_5_method_3_code, prog_6_method_1_code, prog_6_method_2_code, prog_6_method_3_code, prog_6_method_4_code, prog_6_method_5_code, prog_6_method_6_code, prog_6_method_7_code, prog_7_method_1_code, prog_8_method_1_code, prog_8_method_2_code, prog_8_method_3_code, prog_8_method_4_code, prog_8_method_5_code, prog_8_method_6_code, prog_8_method_7_code, prog_8_method_8_code, prog_8_method_9_code, prog_8_method_10_code, prog_8_method_11_code, prog_1_method_1_code, prog_1_method_2_code, prog_1_method_3_code, prog_1_method_4_code, prog_1_method_5_code, prog_1_method_6_code, prog_1_method_7_code, prog_1_method_8_code, prog_1_method_9_code, prog_1_method_10_code, prog_1_method_11_code, prog_1_method_12_code, prog_1_method_13_code, prog_1_method_14_code, prog_1_method_15_code, prog_1_method_16_code, prog_1_method_17_code, prog_1_method_18_code, prog_1_method_19_code, prog_1_method_20_code, prog_1_method_21_code, prog_1_method_22_code, prog_1_method_23_code, prog_1_method_24_code, prog_1_method_25_code, prog_1_method_26_code, prog_1_method_27_code, prog_1_method_28_code, prog_1_method_29_code, prog_1_method_30_code, prog_1_method_31_code, prog_1_method_32_code, prog_1_method_33_code, prog_1_method_34_code, prog_10_method_1_code, prog_10_method_2_code, prog_10_method_3_code, prog_10_method_4_code, prog_10_method_5_code, prog_10_method_6_code, prog_10_method_7_code, prog_10_method_8_code, prog_10_method_9_code, prog_10_method_10_code, prog_10_method_11_code, prog_10_method_12_code, prog_10_method_13_code, prog_10_method_14_code, prog_10_method_15_code, prog_10_method_16_code, prog_10_method_17_code, prog_10_method_18_code, prog_10_method_19_code, prog_10_method_20_code, prog_10_method_21_code, prog_10_method_22_code, prog_10_method_23_code, prog_10_method_24_code, prog_10_method_25_code, prog_10_method_26_code, prog_10_method_27_code, prog_10_method_28_code, prog_10_method_29_code, prog_10_method_30_code, prog_10_method_31_code, prog_10_method_32_code, prog_10_method_33_code, prog_10_method_34_code, prog_10_method_35_code, prog_10_method_36_code, prog_10_method_37_code, prog_10_method_38_code, prog_10_method_39_code, prog_10_method_40_code, prog_10_method_41_code, prog_10_method_42_code, prog_10_method_43_code, prog_10_method_44_code, prog_10_method_45_code, prog_10_method_46_code, prog_10_method_47_code, prog_10_method_48_code, prog_10_method_49_code, prog_10_method_50_code, prog_10_method_51_code, prog_10_method_52_code, prog_10_method_53_code, prog_10_method_54_code, prog_10_method_55_code, prog_11_method_65_code, prog_11_method_69_code, code]
def x_cd (y : Nat) : ByteArray := x_CDS.getD y ByteArray.empty
def x_NMS : List MethodName := [⟨"MeetingCarpets$Crew", "<init>", "(Z)V"⟩, ⟨"MeetingCarpets$Crew", "becomeCrew", "(LMeetingCarpets$Crew;)V"⟩, ⟨"MeetingCarpets$Crew", "beginAnew", "()V"⟩, ⟨"MeetingCarpets$Crew", "seams", "()I"⟩, ⟨"MeetingCarpets$History", "<init>", "()V"⟩, ⟨"MeetingCarpets$History", "keep", "(LMeetingCarpets$House;)V"⟩, ⟨"MeetingCarpets$History", "bringBack", "(LMeetingCarpets$House;)V"⟩, ⟨"MeetingCarpets$House", "<init>", "()V"⟩, ⟨"MeetingCarpets$House", "becomeHouse", "(LMeetingCarpets$House;)V"⟩, ⟨"MeetingCarpets$House", "takeAllUp", "()V"⟩, ⟨"MeetingCarpets$House", "crewOf", "(I)LMeetingCarpets$Crew;"⟩, ⟨"MeetingCarpets$House", "hasTakenPiece", "()Z"⟩, ⟨"MeetingCarpets$House", "stepsLaid", "()I"⟩, ⟨"MeetingCarpets$House", "lengthLaid", "()I"⟩, ⟨"MeetingCarpets$House", "carpetTaken", "()I"⟩, ⟨"MeetingCarpets$House", "allTrims", "()I"⟩, ⟨"MeetingCarpets$House", "lowestOfUpper", "()I"⟩, ⟨"MeetingCarpets$House", "isLaid", "(I)Z"⟩, ⟨"MeetingCarpets$House", "layerOf", "(I)I"⟩, ⟨"MeetingCarpets$House", "nextStepOf", "(LMeetingCarpets$Crew;)I"⟩, ⟨"MeetingCarpets$House", "placeFromBelow", "(I)I"⟩, ⟨"MeetingCarpets$House", "placeFromAbove", "(I)I"⟩, ⟨"MeetingCarpets$House", "phaseOf", "(I)I"⟩, ⟨"MeetingCarpets$House", "endOf", "(I)I"⟩, ⟨"MeetingCarpets$House", "patternStartsOn", "(I)I"⟩, ⟨"MeetingCarpets$House", "placeToBegin", "(LMeetingCarpets$Crew;)I"⟩, ⟨"MeetingCarpets$House", "cutOff", "(LMeetingCarpets$Crew;II)I"⟩, ⟨"MeetingCarpets$House", "canLayNext", "(LMeetingCarpets$Crew;)Z"⟩, ⟨"MeetingCarpets$House", "layNext", "(LMeetingCarpets$Crew;)V"⟩, ⟨"MeetingCarpets$House", "takeUpLatest", "(LMeetingCarpets$Crew;)I"⟩, ⟨"MeetingCarpets$House", "doCrewsMeet", "()Z"⟩, ⟨"MeetingCarpets$House", "differenceOf", "(II)I"⟩, ⟨"MeetingCarpets$House", "differenceBelow", "(I)I"⟩, ⟨"MeetingCarpets$House", "inPhaseBelow", "(I)I"⟩, ⟨"MeetingCarpets$House", "differenceStepByStep", "(I)I"⟩, ⟨"MeetingCarpets$House", "differenceAtOnce", "()I"⟩, ⟨"MeetingCarpets$Pad", "<init>", "()V"⟩, ⟨"MeetingCarpets$Pad", "append", "(I)V"⟩, ⟨"MeetingCarpets$Pad", "codeOf", "(I)I"⟩, ⟨"MeetingCarpets$Plan", "<init>", "()V"⟩, ⟨"MeetingCarpets$Plan", "readFrom", "(LMeetingCarpets$Pad;)I"⟩, ⟨"MeetingCarpets$Plan", "readFlight", "(LMeetingCarpets$Pad;)Z"⟩, ⟨"MeetingCarpets$Plan", "addSteps", "(III)V"⟩, ⟨"MeetingCarpets$Plan", "readSign", "(LMeetingCarpets$Pad;I)Z"⟩, ⟨"MeetingCarpets$Plan", "readNumber", "(LMeetingCarpets$Pad;II)I"⟩, ⟨"MeetingCarpets$Plan", "canBecome", "(III)Z"⟩, ⟨"MeetingCarpets$Slot", "<init>", "()V"⟩, ⟨"MeetingCarpets$Stairs", "<init>", "()V"⟩, ⟨"MeetingCarpets$Stairs", "becomeStairs", "(LMeetingCarpets$Stairs;)V"⟩, ⟨"MeetingCarpets$Stairs", "addAll", "(LMeetingCarpets$Stairs;)V"⟩, ⟨"MeetingCarpets$Stairs", "addStep", "(II)V"⟩, ⟨"MeetingCarpets$Stairs", "has", "(I)Z"⟩, ⟨"MeetingCarpets$Stairs", "riserOf", "(I)I"⟩, ⟨"MeetingCarpets$Stairs", "treadOf", "(I)I"⟩, ⟨"MeetingCarpets$Stairs", "lengthOf", "(I)I"⟩, ⟨"MeetingCarpets$Stairs", "lengthBelow", "(I)I"⟩, ⟨"MeetingCarpets$Stairs", "wholeLength", "()I"⟩, ⟨"MeetingCarpets$Stairs", "lengthFrom", "(I)I"⟩, ⟨"MeetingCarpets", "<init>", "()V"⟩, ⟨"MeetingCarpets", "set", "(II)I"⟩, ⟨"MeetingCarpets", "setRepeat", "(I)I"⟩, ⟨"MeetingCarpets", "setRoll", "(I)I"⟩, ⟨"MeetingCarpets", "setSlack", "(I)I"⟩, ⟨"MeetingCarpets", "build", "(II)I"⟩, ⟨"MeetingCarpets", "read", "()I"⟩, ⟨"MeetingCarpets", "begin", "(II)I"⟩, ⟨"MeetingCarpets", "lay", "(I)I"⟩, ⟨"MeetingCarpets", "takeUp", "(I)I"⟩, ⟨"MeetingCarpets", "clear", "()I"⟩, ⟨"MeetingCarpets", "step", "(II)I"⟩, ⟨"MeetingCarpets", "crew", "(II)I"⟩, ⟨"MeetingCarpets", "count", "(I)I"⟩, ⟨"MeetingCarpets", "ifMet", "(II)I"⟩, ⟨"MeetingCarpets", "bestBeginning", "(I)I"⟩, ⟨"MeetingCarpets", "ifLaid", "(I)I"⟩, ⟨"MeetingCarpets", "trimsIfLaid", "(I)I"⟩, ⟨"MeetingCarpets", "leastTrim", "()I"⟩, ⟨"MeetingCarpets", "put", "(J)I"⟩, ⟨"MeetingCarpets", "wipe", "()I"⟩, ⟨"MeetingCarpets", "fault", "()I"⟩, ⟨"MeetingCarpets", "undo", "()I"⟩, ⟨"MeetingCarpets", "save", "(I)I"⟩, ⟨"MeetingCarpets", "restore", "(I)I"⟩, ⟨"MeetingCarpets", "slotOf", "(I)LMeetingCarpets$Slot;"⟩, ⟨"MeetingCarpets", "isWithin", "(III)Z"⟩, ⟨"MeetingCarpets", "leftOver", "(II)I"⟩, ⟨"MeetingCarpets", "numberAt", "([II)I"⟩, ⟨"MeetingCarpets", "copyNumbers", "([I[I)V"⟩, ⟨"MeetingCarpets", "houseAt", "([LMeetingCarpets$House;I)LMeetingCarpets$House;"⟩, ⟨"MeetingCarpets", "copyHouse", "(LMeetingCarpets$House;LMeetingCarpets$House;)V"⟩, ⟨"MeetingCarpets", "codeAt", "(JI)I"⟩, ⟨"MeetingCarpets", "charactersIn", "(J)I"⟩, ⟨"MeetingCarpetsModel", "<init>", "()V"⟩, ⟨"MeetingCarpetsModel", "in", "(III)Z"⟩, ⟨"MeetingCarpetsModel", "isStep", "(I)Z"⟩, ⟨"MeetingCarpetsModel", "isCrew", "(I)Z"⟩, ⟨"MeetingCarpetsModel", "of", "(II)I"⟩, ⟨"MeetingCarpetsModel", "put", "(III)V"⟩, ⟨"MeetingCarpetsModel", "both", "(I)I"⟩, ⟨"MeetingCarpetsModel", "placeOf", "(I)I"⟩, ⟨"MeetingCarpetsModel", "record", "()V"⟩, ⟨"MeetingCarpetsModel", "undo", "()I"⟩, ⟨"MeetingCarpetsModel", "save", "(I)I"⟩, ⟨"MeetingCarpetsModel", "restore", "(I)I"⟩, ⟨"MeetingCarpetsModel", "lengthOf", "(I)I"⟩, ⟨"MeetingCarpetsModel", "lengths", "(II)I"⟩, ⟨"MeetingCarpetsModel", "phaseFromBelow", "(I)I"⟩, ⟨"MeetingCarpetsModel", "phaseFromAbove", "(I)I"⟩, ⟨"MeetingCarpetsModel", "crewOf", "(I)I"⟩, ⟨"MeetingCarpetsModel", "phaseOf", "(I)I"⟩, ⟨"MeetingCarpetsModel", "nextOf", "(I)I"⟩, ⟨"MeetingCarpetsModel", "cut", "(III)I"⟩, ⟨"MeetingCarpetsModel", "lays", "(II)Z"⟩, ⟨"MeetingCarpetsModel", "clearCrew", "(I)V"⟩, ⟨"MeetingCarpetsModel", "maySet", "(II)Z"⟩, ⟨"MeetingCarpetsModel", "set", "(II)I"⟩, ⟨"MeetingCarpetsModel", "add", "(II)V"⟩, ⟨"MeetingCarpetsModel", "build", "(II)I"⟩, ⟨"MeetingCarpetsModel", "begin", "(II)I"⟩, ⟨"MeetingCarpetsModel", "canLay", "(II)Z"⟩, ⟨"MeetingCarpetsModel", "lay", "(I)I"⟩, ⟨"MeetingCarpetsModel", "takeUp", "(I)I"⟩, ⟨"MeetingCarpetsModel", "clear", "()I"⟩, ⟨"MeetingCarpetsModel", "ofStep", "(II)I"⟩, ⟨"MeetingCarpetsModel", "step", "(II)I"⟩, ⟨"MeetingCarpetsModel", "seams", "(I)I"⟩, ⟨"MeetingCarpetsModel", "crew", "(II)I"⟩, ⟨"MeetingCarpetsModel", "around", "(II)I"⟩, ⟨"MeetingCarpetsModel", "met", "()I"⟩, ⟨"MeetingCarpetsModel", "differs", "(I)I"⟩, ⟨"MeetingCarpetsModel", "number", "(I)I"⟩, ⟨"MeetingCarpetsModel", "count", "(I)I"⟩, ⟨"MeetingCarpetsModel", "ifMet", "(II)I"⟩, ⟨"MeetingCarpetsModel", "bestBeginning", "(I)I"⟩, ⟨"MeetingCarpetsModel", "trimsAt", "(I)I"⟩, ⟨"MeetingCarpetsModel", "ifLaid", "(I)I"⟩, ⟨"MeetingCarpetsModel", "leastTrim", "()I"⟩, ⟨"MeetingCarpetsModel", "codeAt", "(JI)I"⟩, ⟨"MeetingCarpetsModel", "put", "(J)I"⟩, ⟨"MeetingCarpetsModel", "wipe", "()I"⟩, ⟨"MeetingCarpetsModel", "sign", "()I"⟩, ⟨"MeetingCarpetsModel", "takes", "(I)Z"⟩, ⟨"MeetingCarpetsModel", "reads", "(IIZ)Z"⟩, ⟨"MeetingCarpetsModel", "readFlight", "()Z"⟩, ⟨"MeetingCarpetsModel", "isText", "()Z"⟩, ⟨"MeetingCarpetsModel", "fault", "()I"⟩, ⟨"MeetingCarpetsModel", "read", "()I"⟩, ⟨"java/lang/Math", "max", "(II)I"⟩, ⟨"java/lang/Math", "min", "(II)I"⟩, ⟨"MeetingCarpetsLaw", "law", "([I)Z"⟩]
def x_nm (y : Nat) : MethodName := x_NMS.getD y ⟨"", "", ""⟩
def x_MLS : List Nat := [2, 2, 1, 1, 2, 2, 2, 1, 2, 1, 2, 1, 1, 1, 1, 1, 1, 2, 2, 2, 2, 2, 2, 2, 6, 2, 4, 5, 5, 3, 1, 4, 2, 2, 5, 1, 1, 2, 2, 1, 3, 5, 5, 3, 7, 3, 1, 1, 2, 4, 3, 2, 2, 2, 2, 2, 1, 2, 1, 3, 3, 3, 3, 3, 1, 5, 4, 3, 2, 3, 4, 2, 3, 3, 2, 4, 5, 5, 2, 1, 1, 3, 3, 2, 3, 3, 2, 3, 2, 2, 3, 3, 1, 3, 2, 1, 3, 4, 2, 3, 2, 2, 3, 3, 2, 5, 2, 2, 2, 3, 2, 4, 7, 2, 2, 4, 3, 3, 4, 5, 4, 3, 2, 5, 3, 2, 3, 4, 1, 2, 3, 2, 3, 3, 5, 2, 6, 3, 5, 2, 1, 3, 6, 1, 2, 1, 4, 2, 2, 4]
def x_ml (y : Nat) : Nat := x_MLS.getD y 0
def x_RTS : List (Option FieldType) := [none, none, none, some .int, none, none, none, none, none, none, some (.object "MeetingCarpets$Crew"), some .boolean, some .int, some .int, some .int, some .int, some .int, some .boolean, some .int, some .int, some .int, some .int, some .int, some .int, some .int, some .int, some .int, some .boolean, none, some .int, some .boolean, some .int, some .int, some .int, some .int, some .int, none, none, some .int, none, some .int, some .boolean, none, some .boolean, some .int, some .boolean, none, none, none, none, none, some .boolean, some .int, some .int, some .int, some .int, some .int, some .int, none, some .int, some .int, some .int, some .int, some .int, some .int, some .int, some .int, some .int, some .int, some .int, some .int, some .int, some .int, some .int, some .int, some .int, some .int, some .int, some .int, some .int, some .int, some .int, some .int, some (.object "MeetingCarpets$Slot"), some .boolean, some .int, some .int, none, some (.object "MeetingCarpets$House"), none, some .int, some .int, none, some .boolean, some .boolean, some .boolean, some .int, none, some .int, some .int, none, some .int, some .int, some .int, some .int, some .int, some .int, some .int, some .int, some .int, some .int, some .int, some .boolean, none, some .boolean, some .int, none, some .int, some .int, some .boolean, some .int, some .int, some .int, some .int, some .int, some .int, some .int, some .int, some .int, some .int, some .int, some .int, some .int, some .int, some .int, some .int, some .int, some .int, some .int, some .int, some .int, some .boolean, some .boolean, some .boolean, some .boolean, some .int, some .int, some .int, some .int, some .boolean]
def x_rt (y : Nat) : Option FieldType := x_RTS.getD y none
def x_KLS : List Nat := [0, 0, 0, 0, 1, 1, 1, 2, 2, 2, 2, 2, 2, 2, 2, 2, 2, 2, 2, 2, 2, 2, 2, 2, 2, 2, 2, 2, 2, 2, 2, 2, 2, 2, 2, 2, 3, 3, 3, 4, 4, 4, 4, 4, 4, 4, 5, 6, 6, 6, 6, 6, 6, 6, 6, 6, 6, 6, 7, 7, 7, 7, 7, 7, 7, 7, 7, 7, 7, 7, 7, 7, 7, 7, 7, 7, 7, 7, 7, 7, 7, 7, 7, 7, 7, 7, 7, 7, 7, 7, 7, 7, 8, 8, 8, 8, 8, 8, 8, 8, 8, 8, 8, 8, 8, 8, 8, 8, 8, 8, 8, 8, 8, 8, 8, 8, 8, 8, 8, 8, 8, 8, 8, 8, 8, 8, 8, 8, 8, 8, 8, 8, 8, 8, 8, 8, 8, 8, 8, 8, 8, 8, 8, 8, 8, 8, 8, 9, 9, 10]
def x_kl (y : Nat) : Nat := x_KLS.getD y 99
def x_INS : List Bool := [true, false, false, false, true, false, false, true, false, false, false, false, false, false, false, false, false, false, false, false, false, false, false, false, false, false, false, false, false, false, false, false, false, false, false, false, true, false, false, true, false, false, false, false, false, false, true, true, false, false, false, false, false, false, false, false, false, false, true, false, false, false, false, false, false, false, false, false, false, false, false, false, false, false, false, false, false, false, false, false, false, false, false, false, false, false, false, false, false, false, false, false, true, false, false, false, false, false, false, false, false, false, false, false, false, false, false, false, false, false, false, false, false, false, false, false, false, false, false, false, false, false, false, false, false, false, false, false, false, false, false, false, false, false, false, false, false, false, false, false, false, false, false, false, false, false, false, false, false, false]
def x_in (y : Nat) : Bool := x_INS.getD y false
def x_FRS : List Nat := [1, 0, 0, 1, 3, 4, 4, 2, 2, 1, 0, 0, 0, 2, 0, 0, 0, 1, 2, 1, 2, 2, 3, 4, 4, 3, 1, 4, 4, 3, 1, 1, 3, 4, 3, 2, 1, 0, 1, 2, 4, 3, 1, 2, 2, 1, 3, 1, 1, 2, 0, 0, 1, 1, 2, 1, 1, 1, 4, 6, 5, 5, 5, 5, 5, 5, 5, 5, 5, 5, 2, 5, 4, 3, 6, 5, 6, 2, 0, 5, 5, 4, 5, 0, 0, 0, 0, 0, 0, 3, 0, 1, 1, 0, 1, 1, 0, 0, 1, 0, 0, 0, 1, 1, 0, 1, 2, 2, 1, 3, 2, 3, 4, 1, 1, 2, 0, 2, 2, 4, 5, 2, 2, 4, 5, 1, 3, 1, 2, 3, 4, 5, 4, 2, 5, 6, 6, 0, 1, 0, 0, 1, 1, 2, 3, 4, 4, 0, 0, 7]
def x_fr (y : Nat) : Nat := x_FRS.getD y 0
def x_LOS : List Nat := [20, 0, 0, 21, 61, 85, 85, 41, 43, 20, 0, 0, 0, 42, 0, 0, 0, 20, 41, 20, 42, 42, 63, 84, 84, 63, 22, 84, 84, 63, 20, 22, 63, 84, 63, 45, 20, 0, 21, 40, 94, 70, 22, 42, 44, 22, 61, 20, 22, 42, 0, 0, 21, 21, 42, 21, 21, 21, 82, 128, 106, 106, 106, 106, 116, 106, 108, 106, 106, 109, 41, 105, 87, 63, 131, 108, 131, 44, 0, 116, 106, 85, 106, 0, 0, 0, 0, 0, 0, 64, 0, 22, 20, 0, 22, 22, 0, 0, 22, 0, 0, 0, 22, 22, 0, 21, 45, 45, 22, 66, 43, 66, 89, 23, 22, 43, 0, 43, 42, 89, 115, 42, 44, 88, 112, 22, 64, 22, 43, 66, 87, 109, 87, 45, 115, 139, 139, 0, 22, 0, 0, 20, 22, 47, 67, 88, 88, 0, 0, 164]
def x_lo (y : Nat) : Nat := x_LOS.getD y 0
def x_find {α : Type} : List ((Nat × Nat) × α) → Nat → Nat → Option α
  | [], _, _ => none
  | q :: t, c, i => if q.1.1 = c ∧ q.1.2 = i then some q.2 else x_find t c i
def x_GFL : List ((Nat × Nat) × (Nat × Nat)) := [((0, 7), (0, 1)), ((0, 13), (0, 2)), ((0, 16), (0, 3)), ((0, 19), (0, 4)), ((0, 22), (0, 5)), ((0, 25), (0, 0)), ((1, 11), (1, 0)), ((1, 17), (1, 1)), ((1, 21), (1, 2)), ((2, 9), (2, 0)), ((2, 15), (2, 1)), ((2, 18), (2, 2)), ((2, 24), (2, 3)), ((2, 33), (2, 4)), ((2, 37), (2, 5)), ((2, 51), (0, 4)), ((2, 54), (0, 2)), ((2, 68), (0, 5)), ((2, 71), (6, 3)), ((2, 81), (0, 0)), ((2, 85), (0, 1)), ((2, 111), (0, 3)), ((3, 9), (3, 0)), ((3, 15), (3, 1)), ((4, 12), (4, 0)), ((4, 18), (4, 1)), ((4, 22), (4, 2)), ((4, 25), (6, 3)), ((4, 32), (3, 1)), ((5, 10), (5, 0)), ((5, 16), (5, 1)), ((6, 9), (6, 0)), ((6, 15), (6, 1)), ((6, 18), (6, 2)), ((6, 21), (6, 3)), ((7, 10), (7, 0)), ((7, 16), (7, 1)), ((7, 22), (7, 2)), ((7, 29), (7, 3)), ((7, 33), (7, 4)), ((7, 39), (7, 5)), ((7, 46), (7, 6)), ((7, 68), (2, 4)), ((7, 72), (0, 1)), ((7, 78), (2, 5)), ((7, 85), (2, 0)), ((7, 88), (2, 1)), ((7, 91), (2, 2)), ((7, 98), (2, 3)), ((7, 102), (6, 3)), ((7, 115), (4, 1)), ((7, 118), (4, 0)), ((7, 123), (3, 1)), ((7, 130), (0, 2)), ((7, 182), (0, 3)), ((7, 185), (0, 4)), ((7, 191), (0, 5)), ((7, 218), (1, 2)), ((7, 227), (0, 0)), ((7, 263), (5, 0)), ((7, 266), (5, 1)), ((8, 7), (8, 0)), ((8, 13), (8, 1)), ((8, 16), (8, 3)), ((8, 19), (8, 4)), ((8, 23), (8, 5)), ((8, 26), (8, 6)), ((8, 29), (8, 11)), ((8, 32), (8, 12)), ((8, 35), (8, 13)), ((8, 46), (8, 2)), ((8, 130), (8, 7)), ((8, 145), (8, 8)), ((8, 151), (8, 9)), ((8, 153), (8, 10))]
def x_gf (c i : Nat) : Option (Nat × Nat) := x_find x_GFL c i
def x_PFL : List ((Nat × Nat) × (Nat × Nat × Bool)) := [((0, 7), (0, 1, false)), ((0, 13), (0, 2, false)), ((0, 16), (0, 3, false)), ((0, 19), (0, 4, false)), ((0, 22), (0, 5, false)), ((0, 25), (0, 0, true)), ((1, 11), (1, 0, true)), ((1, 17), (1, 1, false)), ((1, 21), (1, 2, false)), ((2, 9), (2, 0, false)), ((2, 15), (2, 1, false)), ((2, 18), (2, 2, false)), ((2, 24), (2, 3, true)), ((2, 33), (2, 4, true)), ((2, 37), (2, 5, true)), ((2, 51), (0, 4, false)), ((2, 54), (0, 2, false)), ((2, 68), (0, 5, false)), ((2, 71), (6, 3, false)), ((2, 85), (0, 1, false)), ((2, 111), (0, 3, false)), ((3, 9), (3, 0, true)), ((3, 15), (3, 1, false)), ((4, 12), (4, 0, true)), ((4, 18), (4, 1, false)), ((4, 22), (4, 2, false)), ((4, 25), (6, 3, false)), ((4, 32), (3, 1, false)), ((5, 10), (5, 0, true)), ((5, 16), (5, 1, false)), ((6, 9), (6, 0, true)), ((6, 15), (6, 1, true)), ((6, 18), (6, 2, true)), ((6, 21), (6, 3, false)), ((7, 10), (7, 0, true)), ((7, 16), (7, 1, true)), ((7, 22), (7, 2, true)), ((7, 29), (7, 3, true)), ((7, 33), (7, 4, true)), ((7, 39), (7, 5, true)), ((7, 46), (7, 6, true)), ((7, 72), (0, 1, false)), ((7, 85), (2, 0, false)), ((7, 88), (2, 1, false)), ((7, 91), (2, 2, false)), ((7, 102), (6, 3, false)), ((7, 115), (4, 1, false)), ((7, 123), (3, 1, false)), ((7, 130), (0, 2, false)), ((7, 182), (0, 3, false)), ((7, 185), (0, 4, false)), ((7, 191), (0, 5, false)), ((7, 218), (1, 2, false)), ((7, 266), (5, 1, false)), ((8, 7), (8, 0, true)), ((8, 13), (8, 1, true)), ((8, 16), (8, 3, true)), ((8, 19), (8, 4, true)), ((8, 23), (8, 5, true)), ((8, 26), (8, 6, true)), ((8, 29), (8, 11, true)), ((8, 32), (8, 12, true)), ((8, 35), (8, 13, true)), ((8, 46), (8, 2, false)), ((8, 130), (8, 7, false)), ((8, 145), (8, 8, false)), ((8, 151), (8, 9, false)), ((8, 153), (8, 10, false))]
def x_pf (c i : Nat) : Option (Nat × Nat × Bool) := x_find x_PFL c i
def x_IVL : List ((Nat × Nat) × (Nat × Nat × Nat)) := [((1, 24), (2, 7, 0)), ((1, 25), (1, 88, 2)), ((1, 29), (1, 89, 2)), ((2, 23), (2, 47, 0)), ((2, 30), (2, 0, 1)), ((2, 40), (0, 48, 1)), ((2, 44), (0, 1, 1)), ((2, 48), (0, 2, 0)), ((2, 57), (0, 55, 1)), ((2, 61), (0, 16, 0)), ((2, 65), (0, 57, 1)), ((2, 74), (0, 17, 1)), ((2, 78), (0, 12, 0)), ((2, 88), (1, 85, 2)), ((2, 92), (0, 20, 1)), ((2, 95), (0, 21, 1)), ((2, 98), (0, 22, 1)), ((2, 101), (0, 54, 1)), ((2, 104), (0, 19, 1)), ((2, 108), (0, 25, 1)), ((2, 114), (0, 26, 3)), ((2, 123), (0, 31, 2)), ((2, 126), (0, 32, 1)), ((2, 129), (0, 56, 0)), ((3, 19), (1, 86, 2)), ((4, 11), (2, 47, 0)), ((4, 28), (0, 41, 1)), ((4, 37), (0, 43, 2)), ((4, 41), (0, 44, 3)), ((4, 45), (1, 84, 3)), ((4, 49), (0, 42, 3)), ((4, 53), (0, 50, 2)), ((4, 57), (0, 38, 1)), ((4, 61), (1, 45, 3)), ((5, 9), (2, 7, 0)), ((6, 25), (1, 87, 2)), ((6, 29), (0, 52, 1)), ((6, 33), (0, 53, 1)), ((6, 36), (0, 50, 2)), ((6, 40), (1, 86, 2)), ((7, 9), (2, 7, 0)), ((7, 21), (2, 4, 0)), ((7, 28), (2, 46, 0)), ((7, 38), (2, 36, 0)), ((7, 45), (2, 39, 0)), ((7, 50), (0, 60, 1)), ((7, 54), (0, 61, 1)), ((7, 57), (0, 62, 1)), ((7, 60), (1, 84, 3)), ((7, 64), (0, 11, 0)), ((7, 81), (0, 5, 1)), ((7, 94), (0, 12, 0)), ((7, 107), (0, 50, 2)), ((7, 111), (0, 40, 1)), ((7, 119), (0, 49, 1)), ((7, 126), (0, 10, 1)), ((7, 133), (0, 27, 1)), ((7, 137), (0, 19, 1)), ((7, 141), (0, 28, 1)), ((7, 145), (0, 22, 1)), ((7, 148), (0, 29, 1)), ((7, 151), (0, 9, 0)), ((7, 154), (0, 51, 1)), ((7, 158), (0, 52, 1)), ((7, 161), (0, 53, 1)), ((7, 164), (0, 54, 1)), ((7, 167), (0, 55, 1)), ((7, 170), (0, 18, 1)), ((7, 173), (0, 17, 1)), ((7, 176), (0, 23, 1)), ((7, 179), (0, 24, 1)), ((7, 188), (0, 3, 0)), ((7, 194), (0, 56, 0)), ((7, 197), (0, 13, 0)), ((7, 200), (0, 14, 0)), ((7, 203), (0, 15, 0)), ((7, 206), (0, 30, 0)), ((7, 209), (0, 16, 0)), ((7, 212), (0, 32, 1)), ((7, 215), (0, 33, 1)), ((7, 221), (0, 34, 1)), ((7, 224), (0, 35, 0)), ((7, 231), (0, 21, 1)), ((7, 234), (0, 20, 1)), ((7, 237), (0, 75, 1)), ((7, 240), (1, 89, 2)), ((7, 244), (1, 91, 1)), ((7, 248), (1, 90, 2)), ((7, 252), (0, 37, 1)), ((7, 256), (0, 6, 1)), ((7, 259), (0, 83, 1)), ((7, 269), (0, 8, 1)), ((8, 38), (1, 93, 3)), ((8, 42), (0, 96, 2)), ((8, 50), (0, 100, 0)), ((8, 53), (0, 104, 1)), ((8, 57), (0, 105, 2)), ((8, 60), (0, 99, 1)), ((8, 63), (0, 108, 1)), ((8, 66), (0, 106, 1)), ((8, 69), (0, 107, 1)), ((8, 72), (0, 98, 1)), ((8, 75), (0, 111, 3)), ((8, 79), (0, 97, 3)), ((8, 83), (1, 114, 2)), ((8, 87), (0, 116, 2)), ((8, 91), (1, 95, 1)), ((8, 95), (0, 110, 1)), ((8, 98), (0, 119, 2)), ((8, 101), (0, 112, 2)), ((8, 104), (0, 109, 1)), ((8, 107), (0, 113, 1)), ((8, 111), (0, 94, 1)), ((8, 114), (0, 123, 2)), ((8, 117), (0, 125, 1)), ((8, 120), (0, 127, 2)), ((8, 123), (0, 128, 0)), ((8, 127), (0, 129, 1)), ((8, 133), (0, 130, 1)), ((8, 136), (0, 134, 1)), ((8, 141), (1, 137, 2)), ((8, 148), (0, 140, 0)), ((8, 156), (0, 142, 3)), ((8, 160), (0, 141, 1)), ((8, 163), (0, 143, 0)), ((8, 167), (0, 144, 0)), ((10, 9), (2, 58, 0)), ((10, 12), (2, 92, 0)), ((10, 13), (0, 59, 2)), ((10, 17), (0, 115, 2)), ((10, 18), (0, 63, 2)), ((10, 21), (0, 117, 2)), ((10, 22), (0, 64, 0)), ((10, 26), (0, 146, 0)), ((10, 27), (0, 65, 2)), ((10, 30), (0, 118, 2)), ((10, 31), (0, 66, 1)), ((10, 35), (0, 120, 1)), ((10, 36), (0, 67, 1)), ((10, 39), (0, 121, 1)), ((10, 40), (0, 68, 0)), ((10, 43), (0, 122, 0)), ((10, 44), (0, 69, 2)), ((10, 47), (0, 124, 2)), ((10, 48), (0, 70, 2)), ((10, 51), (0, 126, 2)), ((10, 52), (0, 71, 1)), ((10, 55), (0, 131, 1)), ((10, 56), (0, 72, 2)), ((10, 59), (0, 132, 2)), ((10, 60), (0, 73, 1)), ((10, 63), (0, 133, 1)), ((10, 64), (0, 74, 1)), ((10, 67), (0, 135, 1)), ((10, 68), (0, 76, 0)), ((10, 71), (0, 136, 0)), ((10, 74), (0, 77, 1)), ((10, 78), (0, 138, 1)), ((10, 79), (0, 78, 0)), ((10, 82), (0, 139, 0)), ((10, 83), (0, 79, 0)), ((10, 86), (0, 145, 0)), ((10, 87), (0, 80, 0)), ((10, 90), (0, 101, 0)), ((10, 91), (0, 81, 1)), ((10, 94), (0, 102, 1)), ((10, 95), (0, 82, 1)), ((10, 98), (0, 103, 1))]
def x_iv (c i : Nat) : Option (Nat × Nat × Nat) := x_find x_IVL c i
def x_NWL : List ((Nat × Nat) × Nat) := [((1, 9), 2), ((2, 21), 6), ((2, 28), 0), ((4, 9), 6), ((5, 7), 2), ((7, 7), 2), ((7, 19), 1), ((7, 26), 5), ((7, 36), 3), ((7, 43), 4), ((10, 7), 7), ((10, 10), 8)]
def x_nw (c i : Nat) : Option Nat := x_find x_NWL c i
def x_LCL : List ((Nat × Nat) × Int64) := [((7, 272), 255), ((8, 139), 255), ((10, 72), 4294967295)]
def x_lc (c i : Nat) : Option Int64 := x_find x_LCL c i
def x_MML : List ((Nat × Nat) × Bool) := [((0, 29), true), ((1, 33), false), ((2, 118), false)]
def x_mm (c i : Nat) : Option Bool := x_find x_MML c i
def x_OIL : List ((Nat × Nat) × Unit) := [((0, 1), ()), ((1, 3), ()), ((2, 3), ()), ((3, 3), ()), ((4, 3), ()), ((5, 1), ()), ((6, 3), ()), ((7, 1), ()), ((8, 1), ())]
def x_oi (c i : Nat) : Bool := (x_find x_OIL c i).isSome
end
section
theorem x_find_mem {α : Type} : ∀ (l : List ((Nat × Nat) × α)) (c i : Nat) (v : α), x_find l c i = some v → ((c, i), v) ∈ l
  | [], _, _, _, h => by cases h
  | q :: t, c, i, v, h => by
    unfold x_find at h
    split at h
    next hq =>
      obtain ⟨⟨a, b⟩, w⟩ := q
      obtain ⟨rfl, rfl⟩ := hq
      cases h
      exact List.mem_cons_self
    next => exact List.mem_cons_of_mem _ (x_find_mem t c i v h)
/-- the words that a callee may ask of its caller -/
def x_TG : List Jvm.Cond := lw_tbl.filter goodWord
/-- the words on nest mates -/
def x_isN : Jvm.Cond → Bool
  | .fieldLinkNest _ _ _ _ _ _ => true
  | .methodLinkNest _ _ _ _ => true
  | _ => false
def x_NW : List Jvm.Cond := lw_tbl.filter x_isN
theorem x_tg {w : Jvm.Cond} (i : Nat) (h : lw_tbl[i]? = some w) (hg : goodWord w = true) : w ∈ x_TG := List.mem_filter.mpr ⟨List.mem_of_getElem? h, hg⟩
theorem x_ng {w : Jvm.Cond} (i : Nat) (h : lw_tbl[i]? = some w) (hg : x_isN w = true) : w ∈ x_NW := List.mem_filter.mpr ⟨List.mem_of_getElem? h, hg⟩
def x_gfOK (q : (Nat × Nat) × (Nat × Nat)) : Prop := ∃ C T N, x_CLS[q.2.1]? = some (C, T, N) ∧ q.2.2 < N ∧ (T q.2.2).1 = C ∧ (Jvm.Cond.fieldLink (x_RC q.1.1) q.1.2 C (T q.2.2).2.1 (T q.2.2).2.2.1 ∈ x_TG ∨ ∃ host, Jvm.Cond.fieldLinkNest (x_RC q.1.1) q.1.2 C (T q.2.2).2.1 (T q.2.2).2.2.1 host ∈ x_NW)
def x_pfOK (q : (Nat × Nat) × (Nat × Nat × Bool)) : Prop := ∃ C T N, x_CLS[q.2.1]? = some (C, T, N) ∧ q.2.2.1 < N ∧ (T q.2.2.1).1 = C ∧ (T q.2.2.1).2.2.2 = q.2.2.2 ∧ (Jvm.Cond.fieldLink (x_RC q.1.1) q.1.2 C (T q.2.2.1).2.1 (T q.2.2.1).2.2.1 ∈ x_TG ∨ (q.2.2.2 = false ∧ ∃ host, Jvm.Cond.fieldLinkNest (x_RC q.1.1) q.1.2 C (T q.2.2.1).2.1 (T q.2.2.1).2.2.1 host ∈ x_NW))
def x_ivOK (q : (Nat × Nat) × (Nat × Nat × Nat)) : Prop :=
  (Jvm.Cond.methodLink (x_RC q.1.1) q.1.2 (x_nm q.2.2.1) ∈ x_TG ∨ ∃ host, Jvm.Cond.methodLinkNest (x_RC q.1.1) q.1.2 (x_nm q.2.2.1) host ∈ x_NW) ∧
  Jvm.Cond.code (x_nm q.2.2.1) (x_cd q.2.2.1) (x_ml q.2.2.1) (x_rt q.2.2.1) ∈ x_TG ∧ Jvm.Cond.initialized (x_nm q.2.2.1).cls ∈ x_TG ∧ ((x_nm q.2.2.1).cls ≠ "java/lang/invoke/MethodHandle" ∧ (x_nm q.2.2.1).cls ≠ "java/lang/invoke/VarHandle") ∧ (parseMethodDescriptor (x_nm q.2.2.1).desc).map (fun d => d.parameters.length) = some q.2.2.2 ∧ plainName (x_nm q.2.2.1).cls = true ∧ (x_nm q.2.2.1).cls = x_RC (x_kl q.2.2.1) ∧
  (q.2.1 = 0 → Jvm.Cond.instanceMethod (x_nm q.2.2.1) ∈ x_TG ∧ Jvm.Cond.selects (x_nm q.2.2.1).cls (x_nm q.2.2.1) (x_nm q.2.2.1) ∈ x_TG ∧ ∃ T N, x_CLS[x_kl q.2.2.1]? = some ((x_nm q.2.2.1).cls, T, N)) ∧
  (q.2.1 = 1 → Jvm.Cond.static (x_nm q.2.2.1) ∈ x_TG) ∧ (q.2.1 = 2 → Jvm.Cond.instanceMethod (x_nm q.2.2.1) ∈ x_TG ∧ (x_nm q.2.2.1).name = "<init>" ∧ x_rt q.2.2.1 = none)
def x_nwOK (q : (Nat × Nat) × Nat) : Prop := ∃ C T N, x_CLS[q.2]? = some (C, T, N) ∧ (x_dfl q.2).length = N ∧ (∀ j, j < N → defaultValue (x_TY q.2 j) = vp_V (x_dfl q.2) j) ∧ Jvm.Cond.classLink (x_RC q.1.1) q.1.2 C ∈ x_TG ∧ Jvm.Cond.instantiable C N ∈ x_TG ∧ Jvm.Cond.initialized C ∈ x_TG
def x_lcOK (q : (Nat × Nat) × Int64) : Prop := Jvm.Cond.constantLong (x_RC q.1.1) q.1.2 q.2 ∈ x_TG
def x_mmOK (q : (Nat × Nat) × Bool) : Prop := if q.2 = true then Jvm.Cond.methodLink (x_RC q.1.1) q.1.2 Lib.Math.max.name ∈ x_TG else Jvm.Cond.methodLink (x_RC q.1.1) q.1.2 Lib.Math.min.name ∈ x_TG
def x_oiOK (q : (Nat × Nat) × Unit) : Prop := Jvm.Cond.methodLink (x_RC q.1.1) q.1.2 objectInit ∈ x_TG
theorem x_gf0 : x_gfOK ((0, 7), (0, 1)) := ⟨RX0, TX0, 6, rfl, by decide, by decide +kernel, Or.inl (x_tg 142 (by decide +kernel) (by decide +kernel))⟩
theorem x_gf1 : x_gfOK ((0, 13), (0, 2)) := ⟨RX0, TX0, 6, rfl, by decide, by decide +kernel, Or.inl (x_tg 145 (by decide +kernel) (by decide +kernel))⟩
theorem x_gf2 : x_gfOK ((0, 16), (0, 3)) := ⟨RX0, TX0, 6, rfl, by decide, by decide +kernel, Or.inl (x_tg 148 (by decide +kernel) (by decide +kernel))⟩
theorem x_gf3 : x_gfOK ((0, 19), (0, 4)) := ⟨RX0, TX0, 6, rfl, by decide, by decide +kernel, Or.inl (x_tg 151 (by decide +kernel) (by decide +kernel))⟩
theorem x_gf4 : x_gfOK ((0, 22), (0, 5)) := ⟨RX0, TX0, 6, rfl, by decide, by decide +kernel, Or.inl (x_tg 154 (by decide +kernel) (by decide +kernel))⟩
theorem x_gf5 : x_gfOK ((0, 25), (0, 0)) := ⟨RX0, TX0, 6, rfl, by decide, by decide +kernel, Or.inl (x_tg 139 (by decide +kernel) (by decide +kernel))⟩
theorem x_gf6 : x_gfOK ((1, 11), (1, 0)) := ⟨RX1, TX1, 3, rfl, by decide, by decide +kernel, Or.inl (x_tg 204 (by decide +kernel) (by decide +kernel))⟩
theorem x_gf7 : x_gfOK ((1, 17), (1, 1)) := ⟨RX1, TX1, 3, rfl, by decide, by decide +kernel, Or.inl (x_tg 205 (by decide +kernel) (by decide +kernel))⟩
theorem x_gf8 : x_gfOK ((1, 21), (1, 2)) := ⟨RX1, TX1, 3, rfl, by decide, by decide +kernel, Or.inl (x_tg 206 (by decide +kernel) (by decide +kernel))⟩
theorem x_gf9 : x_gfOK ((2, 9), (2, 0)) := ⟨RX2, TX2, 6, rfl, by decide, by decide +kernel, Or.inl (x_tg 170 (by decide +kernel) (by decide +kernel))⟩
theorem x_gf10 : x_gfOK ((2, 15), (2, 1)) := ⟨RX2, TX2, 6, rfl, by decide, by decide +kernel, Or.inl (x_tg 172 (by decide +kernel) (by decide +kernel))⟩
theorem x_gf11 : x_gfOK ((2, 18), (2, 2)) := ⟨RX2, TX2, 6, rfl, by decide, by decide +kernel, Or.inl (x_tg 174 (by decide +kernel) (by decide +kernel))⟩
theorem x_gf12 : x_gfOK ((2, 24), (2, 3)) := ⟨RX2, TX2, 6, rfl, by decide, by decide +kernel, Or.inl (x_tg 176 (by decide +kernel) (by decide +kernel))⟩
theorem x_gf13 : x_gfOK ((2, 33), (2, 4)) := ⟨RX2, TX2, 6, rfl, by decide, by decide +kernel, Or.inl (x_tg 178 (by decide +kernel) (by decide +kernel))⟩
theorem x_gf14 : x_gfOK ((2, 37), (2, 5)) := ⟨RX2, TX2, 6, rfl, by decide, by decide +kernel, Or.inl (x_tg 180 (by decide +kernel) (by decide +kernel))⟩
theorem x_gf15 : x_gfOK ((2, 51), (0, 4)) := ⟨RX0, TX0, 6, rfl, by decide, by decide +kernel, Or.inr ⟨"MeetingCarpets", x_ng 152 (by decide +kernel) (by decide +kernel)⟩⟩
theorem x_gf16 : x_gfOK ((2, 54), (0, 2)) := ⟨RX0, TX0, 6, rfl, by decide, by decide +kernel, Or.inr ⟨"MeetingCarpets", x_ng 146 (by decide +kernel) (by decide +kernel)⟩⟩
theorem x_gf17 : x_gfOK ((2, 68), (0, 5)) := ⟨RX0, TX0, 6, rfl, by decide, by decide +kernel, Or.inr ⟨"MeetingCarpets", x_ng 155 (by decide +kernel) (by decide +kernel)⟩⟩
theorem x_gf18 : x_gfOK ((2, 71), (6, 3)) := ⟨RX6, TX6, 4, rfl, by decide, by decide +kernel, Or.inr ⟨"MeetingCarpets", x_ng 122 (by decide +kernel) (by decide +kernel)⟩⟩
theorem x_gf19 : x_gfOK ((2, 81), (0, 0)) := ⟨RX0, TX0, 6, rfl, by decide, by decide +kernel, Or.inr ⟨"MeetingCarpets", x_ng 140 (by decide +kernel) (by decide +kernel)⟩⟩
theorem x_gf20 : x_gfOK ((2, 85), (0, 1)) := ⟨RX0, TX0, 6, rfl, by decide, by decide +kernel, Or.inr ⟨"MeetingCarpets", x_ng 144 (by decide +kernel) (by decide +kernel)⟩⟩
theorem x_gf21 : x_gfOK ((2, 111), (0, 3)) := ⟨RX0, TX0, 6, rfl, by decide, by decide +kernel, Or.inr ⟨"MeetingCarpets", x_ng 150 (by decide +kernel) (by decide +kernel)⟩⟩
theorem x_gf22 : x_gfOK ((3, 9), (3, 0)) := ⟨RX3, TX3, 2, rfl, by decide, by decide +kernel, Or.inl (x_tg 238 (by decide +kernel) (by decide +kernel))⟩
theorem x_gf23 : x_gfOK ((3, 15), (3, 1)) := ⟨RX3, TX3, 2, rfl, by decide, by decide +kernel, Or.inl (x_tg 239 (by decide +kernel) (by decide +kernel))⟩
theorem x_gf24 : x_gfOK ((4, 12), (4, 0)) := ⟨RX4, TX4, 3, rfl, by decide, by decide +kernel, Or.inl (x_tg 255 (by decide +kernel) (by decide +kernel))⟩
theorem x_gf25 : x_gfOK ((4, 18), (4, 1)) := ⟨RX4, TX4, 3, rfl, by decide, by decide +kernel, Or.inl (x_tg 257 (by decide +kernel) (by decide +kernel))⟩
theorem x_gf26 : x_gfOK ((4, 22), (4, 2)) := ⟨RX4, TX4, 3, rfl, by decide, by decide +kernel, Or.inl (x_tg 259 (by decide +kernel) (by decide +kernel))⟩
theorem x_gf27 : x_gfOK ((4, 25), (6, 3)) := ⟨RX6, TX6, 4, rfl, by decide, by decide +kernel, Or.inr ⟨"MeetingCarpets", x_ng 120 (by decide +kernel) (by decide +kernel)⟩⟩
theorem x_gf28 : x_gfOK ((4, 32), (3, 1)) := ⟨RX3, TX3, 2, rfl, by decide, by decide +kernel, Or.inr ⟨"MeetingCarpets", x_ng 240 (by decide +kernel) (by decide +kernel)⟩⟩
theorem x_gf29 : x_gfOK ((5, 10), (5, 0)) := ⟨RX5, TX5, 2, rfl, by decide, by decide +kernel, Or.inl (x_tg 223 (by decide +kernel) (by decide +kernel))⟩
theorem x_gf30 : x_gfOK ((5, 16), (5, 1)) := ⟨RX5, TX5, 2, rfl, by decide, by decide +kernel, Or.inl (x_tg 225 (by decide +kernel) (by decide +kernel))⟩
theorem x_gf31 : x_gfOK ((6, 9), (6, 0)) := ⟨RX6, TX6, 4, rfl, by decide, by decide +kernel, Or.inl (x_tg 116 (by decide +kernel) (by decide +kernel))⟩
theorem x_gf32 : x_gfOK ((6, 15), (6, 1)) := ⟨RX6, TX6, 4, rfl, by decide, by decide +kernel, Or.inl (x_tg 117 (by decide +kernel) (by decide +kernel))⟩
theorem x_gf33 : x_gfOK ((6, 18), (6, 2)) := ⟨RX6, TX6, 4, rfl, by decide, by decide +kernel, Or.inl (x_tg 118 (by decide +kernel) (by decide +kernel))⟩
theorem x_gf34 : x_gfOK ((6, 21), (6, 3)) := ⟨RX6, TX6, 4, rfl, by decide, by decide +kernel, Or.inl (x_tg 119 (by decide +kernel) (by decide +kernel))⟩
theorem x_gf35 : x_gfOK ((7, 10), (7, 0)) := ⟨RX7, TX7, 7, rfl, by decide, by decide +kernel, Or.inl (x_tg 267 (by decide +kernel) (by decide +kernel))⟩
theorem x_gf36 : x_gfOK ((7, 16), (7, 1)) := ⟨RX7, TX7, 7, rfl, by decide, by decide +kernel, Or.inl (x_tg 268 (by decide +kernel) (by decide +kernel))⟩
theorem x_gf37 : x_gfOK ((7, 22), (7, 2)) := ⟨RX7, TX7, 7, rfl, by decide, by decide +kernel, Or.inl (x_tg 269 (by decide +kernel) (by decide +kernel))⟩
theorem x_gf38 : x_gfOK ((7, 29), (7, 3)) := ⟨RX7, TX7, 7, rfl, by decide, by decide +kernel, Or.inl (x_tg 270 (by decide +kernel) (by decide +kernel))⟩
theorem x_gf39 : x_gfOK ((7, 33), (7, 4)) := ⟨RX7, TX7, 7, rfl, by decide, by decide +kernel, Or.inl (x_tg 271 (by decide +kernel) (by decide +kernel))⟩
theorem x_gf40 : x_gfOK ((7, 39), (7, 5)) := ⟨RX7, TX7, 7, rfl, by decide, by decide +kernel, Or.inl (x_tg 272 (by decide +kernel) (by decide +kernel))⟩
theorem x_gf41 : x_gfOK ((7, 46), (7, 6)) := ⟨RX7, TX7, 7, rfl, by decide, by decide +kernel, Or.inl (x_tg 273 (by decide +kernel) (by decide +kernel))⟩
theorem x_gf42 : x_gfOK ((7, 68), (2, 4)) := ⟨RX2, TX2, 6, rfl, by decide, by decide +kernel, Or.inr ⟨"MeetingCarpets", x_ng 179 (by decide +kernel) (by decide +kernel)⟩⟩
theorem x_gf43 : x_gfOK ((7, 72), (0, 1)) := ⟨RX0, TX0, 6, rfl, by decide, by decide +kernel, Or.inr ⟨"MeetingCarpets", x_ng 143 (by decide +kernel) (by decide +kernel)⟩⟩
theorem x_gf44 : x_gfOK ((7, 78), (2, 5)) := ⟨RX2, TX2, 6, rfl, by decide, by decide +kernel, Or.inr ⟨"MeetingCarpets", x_ng 181 (by decide +kernel) (by decide +kernel)⟩⟩
theorem x_gf45 : x_gfOK ((7, 85), (2, 0)) := ⟨RX2, TX2, 6, rfl, by decide, by decide +kernel, Or.inr ⟨"MeetingCarpets", x_ng 171 (by decide +kernel) (by decide +kernel)⟩⟩
theorem x_gf46 : x_gfOK ((7, 88), (2, 1)) := ⟨RX2, TX2, 6, rfl, by decide, by decide +kernel, Or.inr ⟨"MeetingCarpets", x_ng 173 (by decide +kernel) (by decide +kernel)⟩⟩
theorem x_gf47 : x_gfOK ((7, 91), (2, 2)) := ⟨RX2, TX2, 6, rfl, by decide, by decide +kernel, Or.inr ⟨"MeetingCarpets", x_ng 175 (by decide +kernel) (by decide +kernel)⟩⟩
theorem x_gf48 : x_gfOK ((7, 98), (2, 3)) := ⟨RX2, TX2, 6, rfl, by decide, by decide +kernel, Or.inr ⟨"MeetingCarpets", x_ng 177 (by decide +kernel) (by decide +kernel)⟩⟩
theorem x_gf49 : x_gfOK ((7, 102), (6, 3)) := ⟨RX6, TX6, 4, rfl, by decide, by decide +kernel, Or.inr ⟨"MeetingCarpets", x_ng 121 (by decide +kernel) (by decide +kernel)⟩⟩
theorem x_gf50 : x_gfOK ((7, 115), (4, 1)) := ⟨RX4, TX4, 3, rfl, by decide, by decide +kernel, Or.inr ⟨"MeetingCarpets", x_ng 258 (by decide +kernel) (by decide +kernel)⟩⟩
theorem x_gf51 : x_gfOK ((7, 118), (4, 0)) := ⟨RX4, TX4, 3, rfl, by decide, by decide +kernel, Or.inr ⟨"MeetingCarpets", x_ng 256 (by decide +kernel) (by decide +kernel)⟩⟩
theorem x_gf52 : x_gfOK ((7, 123), (3, 1)) := ⟨RX3, TX3, 2, rfl, by decide, by decide +kernel, Or.inr ⟨"MeetingCarpets", x_ng 241 (by decide +kernel) (by decide +kernel)⟩⟩
theorem x_gf53 : x_gfOK ((7, 130), (0, 2)) := ⟨RX0, TX0, 6, rfl, by decide, by decide +kernel, Or.inr ⟨"MeetingCarpets", x_ng 147 (by decide +kernel) (by decide +kernel)⟩⟩
theorem x_gf54 : x_gfOK ((7, 182), (0, 3)) := ⟨RX0, TX0, 6, rfl, by decide, by decide +kernel, Or.inr ⟨"MeetingCarpets", x_ng 149 (by decide +kernel) (by decide +kernel)⟩⟩
theorem x_gf55 : x_gfOK ((7, 185), (0, 4)) := ⟨RX0, TX0, 6, rfl, by decide, by decide +kernel, Or.inr ⟨"MeetingCarpets", x_ng 153 (by decide +kernel) (by decide +kernel)⟩⟩
theorem x_gf56 : x_gfOK ((7, 191), (0, 5)) := ⟨RX0, TX0, 6, rfl, by decide, by decide +kernel, Or.inr ⟨"MeetingCarpets", x_ng 156 (by decide +kernel) (by decide +kernel)⟩⟩
theorem x_gf57 : x_gfOK ((7, 218), (1, 2)) := ⟨RX1, TX1, 3, rfl, by decide, by decide +kernel, Or.inr ⟨"MeetingCarpets", x_ng 207 (by decide +kernel) (by decide +kernel)⟩⟩
theorem x_gf58 : x_gfOK ((7, 227), (0, 0)) := ⟨RX0, TX0, 6, rfl, by decide, by decide +kernel, Or.inr ⟨"MeetingCarpets", x_ng 141 (by decide +kernel) (by decide +kernel)⟩⟩
theorem x_gf59 : x_gfOK ((7, 263), (5, 0)) := ⟨RX5, TX5, 2, rfl, by decide, by decide +kernel, Or.inr ⟨"MeetingCarpets", x_ng 224 (by decide +kernel) (by decide +kernel)⟩⟩
theorem x_gf60 : x_gfOK ((7, 266), (5, 1)) := ⟨RX5, TX5, 2, rfl, by decide, by decide +kernel, Or.inr ⟨"MeetingCarpets", x_ng 226 (by decide +kernel) (by decide +kernel)⟩⟩
theorem x_gf61 : x_gfOK ((8, 7), (8, 0)) := ⟨RX8, TX8, 14, rfl, by decide, by decide +kernel, Or.inl (x_tg 648 (by decide +kernel) (by decide +kernel))⟩
theorem x_gf62 : x_gfOK ((8, 13), (8, 1)) := ⟨RX8, TX8, 14, rfl, by decide, by decide +kernel, Or.inl (x_tg 649 (by decide +kernel) (by decide +kernel))⟩
theorem x_gf63 : x_gfOK ((8, 16), (8, 3)) := ⟨RX8, TX8, 14, rfl, by decide, by decide +kernel, Or.inl (x_tg 651 (by decide +kernel) (by decide +kernel))⟩
theorem x_gf64 : x_gfOK ((8, 19), (8, 4)) := ⟨RX8, TX8, 14, rfl, by decide, by decide +kernel, Or.inl (x_tg 652 (by decide +kernel) (by decide +kernel))⟩
theorem x_gf65 : x_gfOK ((8, 23), (8, 5)) := ⟨RX8, TX8, 14, rfl, by decide, by decide +kernel, Or.inl (x_tg 653 (by decide +kernel) (by decide +kernel))⟩
theorem x_gf66 : x_gfOK ((8, 26), (8, 6)) := ⟨RX8, TX8, 14, rfl, by decide, by decide +kernel, Or.inl (x_tg 654 (by decide +kernel) (by decide +kernel))⟩
theorem x_gf67 : x_gfOK ((8, 29), (8, 11)) := ⟨RX8, TX8, 14, rfl, by decide, by decide +kernel, Or.inl (x_tg 659 (by decide +kernel) (by decide +kernel))⟩
theorem x_gf68 : x_gfOK ((8, 32), (8, 12)) := ⟨RX8, TX8, 14, rfl, by decide, by decide +kernel, Or.inl (x_tg 660 (by decide +kernel) (by decide +kernel))⟩
theorem x_gf69 : x_gfOK ((8, 35), (8, 13)) := ⟨RX8, TX8, 14, rfl, by decide, by decide +kernel, Or.inl (x_tg 661 (by decide +kernel) (by decide +kernel))⟩
theorem x_gf70 : x_gfOK ((8, 46), (8, 2)) := ⟨RX8, TX8, 14, rfl, by decide, by decide +kernel, Or.inl (x_tg 650 (by decide +kernel) (by decide +kernel))⟩
theorem x_gf71 : x_gfOK ((8, 130), (8, 7)) := ⟨RX8, TX8, 14, rfl, by decide, by decide +kernel, Or.inl (x_tg 655 (by decide +kernel) (by decide +kernel))⟩
theorem x_gf72 : x_gfOK ((8, 145), (8, 8)) := ⟨RX8, TX8, 14, rfl, by decide, by decide +kernel, Or.inl (x_tg 656 (by decide +kernel) (by decide +kernel))⟩
theorem x_gf73 : x_gfOK ((8, 151), (8, 9)) := ⟨RX8, TX8, 14, rfl, by decide, by decide +kernel, Or.inl (x_tg 657 (by decide +kernel) (by decide +kernel))⟩
theorem x_gf74 : x_gfOK ((8, 153), (8, 10)) := ⟨RX8, TX8, 14, rfl, by decide, by decide +kernel, Or.inl (x_tg 658 (by decide +kernel) (by decide +kernel))⟩
set_option maxRecDepth 100000 in
theorem x_gfl : ∀ q ∈ x_GFL, x_gfOK q := List.forall_mem_cons.mpr ⟨x_gf0, List.forall_mem_cons.mpr ⟨x_gf1, List.forall_mem_cons.mpr ⟨x_gf2, List.forall_mem_cons.mpr ⟨x_gf3, List.forall_mem_cons.mpr ⟨x_gf4, List.forall_mem_cons.mpr ⟨x_gf5, List.forall_mem_cons.mpr ⟨x_gf6, List.forall_mem_cons.mpr ⟨x_gf7, List.forall_mem_cons.mpr ⟨x_gf8, List.forall_mem_cons.mpr ⟨x_gf9, List.forall_mem_cons.mpr ⟨x_gf10, List.forall_mem_cons.mpr ⟨x_gf11, List.forall_mem_cons.mpr ⟨x_gf12, List.forall_mem_cons.mpr ⟨x_gf13, List.forall_mem_cons.mpr ⟨x_gf14, List.forall_mem_cons.mpr ⟨x_gf15, List.forall_mem_cons.mpr ⟨x_gf16, List.forall_mem_cons.mpr ⟨x_gf17, List.forall_mem_cons.mpr ⟨x_gf18, List.forall_mem_cons.mpr ⟨x_gf19, List.forall_mem_cons.mpr ⟨x_gf20, List.forall_mem_cons.mpr ⟨x_gf21, List.forall_mem_cons.mpr ⟨x_gf22, List.forall_mem_cons.mpr ⟨x_gf23, List.forall_mem_cons.mpr ⟨x_gf24, List.forall_mem_cons.mpr ⟨x_gf25, List.forall_mem_cons.mpr ⟨x_gf26, List.forall_mem_cons.mpr ⟨x_gf27, List.forall_mem_cons.mpr ⟨x_gf28, List.forall_mem_cons.mpr ⟨x_gf29, List.forall_mem_cons.mpr ⟨x_gf30, List.forall_mem_cons.mpr ⟨x_gf31, List.forall_mem_cons.mpr ⟨x_gf32, List.forall_mem_cons.mpr ⟨x_gf33, List.forall_mem_cons.mpr ⟨x_gf34, List.forall_mem_cons.mpr ⟨x_gf35, List.forall_mem_cons.mpr ⟨x_gf36, List.forall_mem_cons.mpr ⟨x_gf37, List.forall_mem_cons.mpr ⟨x_gf38, List.forall_mem_cons.mpr ⟨x_gf39, List.forall_mem_cons.mpr ⟨x_gf40, List.forall_mem_cons.mpr ⟨x_gf41, List.forall_mem_cons.mpr ⟨x_gf42, List.forall_mem_cons.mpr ⟨x_gf43, List.forall_mem_cons.mpr ⟨x_gf44, List.forall_mem_cons.mpr ⟨x_gf45, List.forall_mem_cons.mpr ⟨x_gf46, List.forall_mem_cons.mpr ⟨x_gf47, List.forall_mem_cons.mpr ⟨x_gf48, List.forall_mem_cons.mpr ⟨x_gf49, List.forall_mem_cons.mpr ⟨x_gf50, List.forall_mem_cons.mpr ⟨x_gf51, List.forall_mem_cons.mpr ⟨x_gf52, List.forall_mem_cons.mpr ⟨x_gf53, List.forall_mem_cons.mpr ⟨x_gf54, List.forall_mem_cons.mpr ⟨x_gf55, List.forall_mem_cons.mpr ⟨x_gf56, List.forall_mem_cons.mpr ⟨x_gf57, List.forall_mem_cons.mpr ⟨x_gf58, List.forall_mem_cons.mpr ⟨x_gf59, List.forall_mem_cons.mpr ⟨x_gf60, List.forall_mem_cons.mpr ⟨x_gf61, List.forall_mem_cons.mpr ⟨x_gf62, List.forall_mem_cons.mpr ⟨x_gf63, List.forall_mem_cons.mpr ⟨x_gf64, List.forall_mem_cons.mpr ⟨x_gf65, List.forall_mem_cons.mpr ⟨x_gf66, List.forall_mem_cons.mpr ⟨x_gf67, List.forall_mem_cons.mpr ⟨x_gf68, List.forall_mem_cons.mpr ⟨x_gf69, List.forall_mem_cons.mpr ⟨x_gf70, List.forall_mem_cons.mpr ⟨x_gf71, List.forall_mem_cons.mpr ⟨x_gf72, List.forall_mem_cons.mpr ⟨x_gf73, List.forall_mem_cons.mpr ⟨x_gf74, fun _ h => absurd h List.not_mem_nil⟩⟩⟩⟩⟩⟩⟩⟩⟩⟩⟩⟩⟩⟩⟩⟩⟩⟩⟩⟩⟩⟩⟩⟩⟩⟩⟩⟩⟩⟩⟩⟩⟩⟩⟩⟩⟩⟩⟩⟩⟩⟩⟩⟩⟩⟩⟩⟩⟩⟩⟩⟩⟩⟩⟩⟩⟩⟩⟩⟩⟩⟩⟩⟩⟩⟩⟩⟩⟩⟩⟩⟩⟩⟩⟩
theorem x_pf0 : x_pfOK ((0, 7), (0, 1, false)) := ⟨RX0, TX0, 6, rfl, by decide, by decide +kernel, by decide +kernel, Or.inl (x_tg 142 (by decide +kernel) (by decide +kernel))⟩
theorem x_pf1 : x_pfOK ((0, 13), (0, 2, false)) := ⟨RX0, TX0, 6, rfl, by decide, by decide +kernel, by decide +kernel, Or.inl (x_tg 145 (by decide +kernel) (by decide +kernel))⟩
theorem x_pf2 : x_pfOK ((0, 16), (0, 3, false)) := ⟨RX0, TX0, 6, rfl, by decide, by decide +kernel, by decide +kernel, Or.inl (x_tg 148 (by decide +kernel) (by decide +kernel))⟩
theorem x_pf3 : x_pfOK ((0, 19), (0, 4, false)) := ⟨RX0, TX0, 6, rfl, by decide, by decide +kernel, by decide +kernel, Or.inl (x_tg 151 (by decide +kernel) (by decide +kernel))⟩
theorem x_pf4 : x_pfOK ((0, 22), (0, 5, false)) := ⟨RX0, TX0, 6, rfl, by decide, by decide +kernel, by decide +kernel, Or.inl (x_tg 154 (by decide +kernel) (by decide +kernel))⟩
theorem x_pf5 : x_pfOK ((0, 25), (0, 0, true)) := ⟨RX0, TX0, 6, rfl, by decide, by decide +kernel, by decide +kernel, Or.inl (x_tg 139 (by decide +kernel) (by decide +kernel))⟩
theorem x_pf6 : x_pfOK ((1, 11), (1, 0, true)) := ⟨RX1, TX1, 3, rfl, by decide, by decide +kernel, by decide +kernel, Or.inl (x_tg 204 (by decide +kernel) (by decide +kernel))⟩
theorem x_pf7 : x_pfOK ((1, 17), (1, 1, false)) := ⟨RX1, TX1, 3, rfl, by decide, by decide +kernel, by decide +kernel, Or.inl (x_tg 205 (by decide +kernel) (by decide +kernel))⟩
theorem x_pf8 : x_pfOK ((1, 21), (1, 2, false)) := ⟨RX1, TX1, 3, rfl, by decide, by decide +kernel, by decide +kernel, Or.inl (x_tg 206 (by decide +kernel) (by decide +kernel))⟩
theorem x_pf9 : x_pfOK ((2, 9), (2, 0, false)) := ⟨RX2, TX2, 6, rfl, by decide, by decide +kernel, by decide +kernel, Or.inl (x_tg 170 (by decide +kernel) (by decide +kernel))⟩
theorem x_pf10 : x_pfOK ((2, 15), (2, 1, false)) := ⟨RX2, TX2, 6, rfl, by decide, by decide +kernel, by decide +kernel, Or.inl (x_tg 172 (by decide +kernel) (by decide +kernel))⟩
theorem x_pf11 : x_pfOK ((2, 18), (2, 2, false)) := ⟨RX2, TX2, 6, rfl, by decide, by decide +kernel, by decide +kernel, Or.inl (x_tg 174 (by decide +kernel) (by decide +kernel))⟩
theorem x_pf12 : x_pfOK ((2, 24), (2, 3, true)) := ⟨RX2, TX2, 6, rfl, by decide, by decide +kernel, by decide +kernel, Or.inl (x_tg 176 (by decide +kernel) (by decide +kernel))⟩
theorem x_pf13 : x_pfOK ((2, 33), (2, 4, true)) := ⟨RX2, TX2, 6, rfl, by decide, by decide +kernel, by decide +kernel, Or.inl (x_tg 178 (by decide +kernel) (by decide +kernel))⟩
theorem x_pf14 : x_pfOK ((2, 37), (2, 5, true)) := ⟨RX2, TX2, 6, rfl, by decide, by decide +kernel, by decide +kernel, Or.inl (x_tg 180 (by decide +kernel) (by decide +kernel))⟩
theorem x_pf15 : x_pfOK ((2, 51), (0, 4, false)) := ⟨RX0, TX0, 6, rfl, by decide, by decide +kernel, by decide +kernel, Or.inr ⟨rfl, "MeetingCarpets", x_ng 152 (by decide +kernel) (by decide +kernel)⟩⟩
theorem x_pf16 : x_pfOK ((2, 54), (0, 2, false)) := ⟨RX0, TX0, 6, rfl, by decide, by decide +kernel, by decide +kernel, Or.inr ⟨rfl, "MeetingCarpets", x_ng 146 (by decide +kernel) (by decide +kernel)⟩⟩
theorem x_pf17 : x_pfOK ((2, 68), (0, 5, false)) := ⟨RX0, TX0, 6, rfl, by decide, by decide +kernel, by decide +kernel, Or.inr ⟨rfl, "MeetingCarpets", x_ng 155 (by decide +kernel) (by decide +kernel)⟩⟩
theorem x_pf18 : x_pfOK ((2, 71), (6, 3, false)) := ⟨RX6, TX6, 4, rfl, by decide, by decide +kernel, by decide +kernel, Or.inr ⟨rfl, "MeetingCarpets", x_ng 122 (by decide +kernel) (by decide +kernel)⟩⟩
theorem x_pf19 : x_pfOK ((2, 85), (0, 1, false)) := ⟨RX0, TX0, 6, rfl, by decide, by decide +kernel, by decide +kernel, Or.inr ⟨rfl, "MeetingCarpets", x_ng 144 (by decide +kernel) (by decide +kernel)⟩⟩
theorem x_pf20 : x_pfOK ((2, 111), (0, 3, false)) := ⟨RX0, TX0, 6, rfl, by decide, by decide +kernel, by decide +kernel, Or.inr ⟨rfl, "MeetingCarpets", x_ng 150 (by decide +kernel) (by decide +kernel)⟩⟩
theorem x_pf21 : x_pfOK ((3, 9), (3, 0, true)) := ⟨RX3, TX3, 2, rfl, by decide, by decide +kernel, by decide +kernel, Or.inl (x_tg 238 (by decide +kernel) (by decide +kernel))⟩
theorem x_pf22 : x_pfOK ((3, 15), (3, 1, false)) := ⟨RX3, TX3, 2, rfl, by decide, by decide +kernel, by decide +kernel, Or.inl (x_tg 239 (by decide +kernel) (by decide +kernel))⟩
theorem x_pf23 : x_pfOK ((4, 12), (4, 0, true)) := ⟨RX4, TX4, 3, rfl, by decide, by decide +kernel, by decide +kernel, Or.inl (x_tg 255 (by decide +kernel) (by decide +kernel))⟩
theorem x_pf24 : x_pfOK ((4, 18), (4, 1, false)) := ⟨RX4, TX4, 3, rfl, by decide, by decide +kernel, by decide +kernel, Or.inl (x_tg 257 (by decide +kernel) (by decide +kernel))⟩
theorem x_pf25 : x_pfOK ((4, 22), (4, 2, false)) := ⟨RX4, TX4, 3, rfl, by decide, by decide +kernel, by decide +kernel, Or.inl (x_tg 259 (by decide +kernel) (by decide +kernel))⟩
theorem x_pf26 : x_pfOK ((4, 25), (6, 3, false)) := ⟨RX6, TX6, 4, rfl, by decide, by decide +kernel, by decide +kernel, Or.inr ⟨rfl, "MeetingCarpets", x_ng 120 (by decide +kernel) (by decide +kernel)⟩⟩
theorem x_pf27 : x_pfOK ((4, 32), (3, 1, false)) := ⟨RX3, TX3, 2, rfl, by decide, by decide +kernel, by decide +kernel, Or.inr ⟨rfl, "MeetingCarpets", x_ng 240 (by decide +kernel) (by decide +kernel)⟩⟩
theorem x_pf28 : x_pfOK ((5, 10), (5, 0, true)) := ⟨RX5, TX5, 2, rfl, by decide, by decide +kernel, by decide +kernel, Or.inl (x_tg 223 (by decide +kernel) (by decide +kernel))⟩
theorem x_pf29 : x_pfOK ((5, 16), (5, 1, false)) := ⟨RX5, TX5, 2, rfl, by decide, by decide +kernel, by decide +kernel, Or.inl (x_tg 225 (by decide +kernel) (by decide +kernel))⟩
theorem x_pf30 : x_pfOK ((6, 9), (6, 0, true)) := ⟨RX6, TX6, 4, rfl, by decide, by decide +kernel, by decide +kernel, Or.inl (x_tg 116 (by decide +kernel) (by decide +kernel))⟩
theorem x_pf31 : x_pfOK ((6, 15), (6, 1, true)) := ⟨RX6, TX6, 4, rfl, by decide, by decide +kernel, by decide +kernel, Or.inl (x_tg 117 (by decide +kernel) (by decide +kernel))⟩
theorem x_pf32 : x_pfOK ((6, 18), (6, 2, true)) := ⟨RX6, TX6, 4, rfl, by decide, by decide +kernel, by decide +kernel, Or.inl (x_tg 118 (by decide +kernel) (by decide +kernel))⟩
theorem x_pf33 : x_pfOK ((6, 21), (6, 3, false)) := ⟨RX6, TX6, 4, rfl, by decide, by decide +kernel, by decide +kernel, Or.inl (x_tg 119 (by decide +kernel) (by decide +kernel))⟩
theorem x_pf34 : x_pfOK ((7, 10), (7, 0, true)) := ⟨RX7, TX7, 7, rfl, by decide, by decide +kernel, by decide +kernel, Or.inl (x_tg 267 (by decide +kernel) (by decide +kernel))⟩
theorem x_pf35 : x_pfOK ((7, 16), (7, 1, true)) := ⟨RX7, TX7, 7, rfl, by decide, by decide +kernel, by decide +kernel, Or.inl (x_tg 268 (by decide +kernel) (by decide +kernel))⟩
theorem x_pf36 : x_pfOK ((7, 22), (7, 2, true)) := ⟨RX7, TX7, 7, rfl, by decide, by decide +kernel, by decide +kernel, Or.inl (x_tg 269 (by decide +kernel) (by decide +kernel))⟩
theorem x_pf37 : x_pfOK ((7, 29), (7, 3, true)) := ⟨RX7, TX7, 7, rfl, by decide, by decide +kernel, by decide +kernel, Or.inl (x_tg 270 (by decide +kernel) (by decide +kernel))⟩
theorem x_pf38 : x_pfOK ((7, 33), (7, 4, true)) := ⟨RX7, TX7, 7, rfl, by decide, by decide +kernel, by decide +kernel, Or.inl (x_tg 271 (by decide +kernel) (by decide +kernel))⟩
theorem x_pf39 : x_pfOK ((7, 39), (7, 5, true)) := ⟨RX7, TX7, 7, rfl, by decide, by decide +kernel, by decide +kernel, Or.inl (x_tg 272 (by decide +kernel) (by decide +kernel))⟩
theorem x_pf40 : x_pfOK ((7, 46), (7, 6, true)) := ⟨RX7, TX7, 7, rfl, by decide, by decide +kernel, by decide +kernel, Or.inl (x_tg 273 (by decide +kernel) (by decide +kernel))⟩
theorem x_pf41 : x_pfOK ((7, 72), (0, 1, false)) := ⟨RX0, TX0, 6, rfl, by decide, by decide +kernel, by decide +kernel, Or.inr ⟨rfl, "MeetingCarpets", x_ng 143 (by decide +kernel) (by decide +kernel)⟩⟩
theorem x_pf42 : x_pfOK ((7, 85), (2, 0, false)) := ⟨RX2, TX2, 6, rfl, by decide, by decide +kernel, by decide +kernel, Or.inr ⟨rfl, "MeetingCarpets", x_ng 171 (by decide +kernel) (by decide +kernel)⟩⟩
theorem x_pf43 : x_pfOK ((7, 88), (2, 1, false)) := ⟨RX2, TX2, 6, rfl, by decide, by decide +kernel, by decide +kernel, Or.inr ⟨rfl, "MeetingCarpets", x_ng 173 (by decide +kernel) (by decide +kernel)⟩⟩
theorem x_pf44 : x_pfOK ((7, 91), (2, 2, false)) := ⟨RX2, TX2, 6, rfl, by decide, by decide +kernel, by decide +kernel, Or.inr ⟨rfl, "MeetingCarpets", x_ng 175 (by decide +kernel) (by decide +kernel)⟩⟩
theorem x_pf45 : x_pfOK ((7, 102), (6, 3, false)) := ⟨RX6, TX6, 4, rfl, by decide, by decide +kernel, by decide +kernel, Or.inr ⟨rfl, "MeetingCarpets", x_ng 121 (by decide +kernel) (by decide +kernel)⟩⟩
theorem x_pf46 : x_pfOK ((7, 115), (4, 1, false)) := ⟨RX4, TX4, 3, rfl, by decide, by decide +kernel, by decide +kernel, Or.inr ⟨rfl, "MeetingCarpets", x_ng 258 (by decide +kernel) (by decide +kernel)⟩⟩
theorem x_pf47 : x_pfOK ((7, 123), (3, 1, false)) := ⟨RX3, TX3, 2, rfl, by decide, by decide +kernel, by decide +kernel, Or.inr ⟨rfl, "MeetingCarpets", x_ng 241 (by decide +kernel) (by decide +kernel)⟩⟩
theorem x_pf48 : x_pfOK ((7, 130), (0, 2, false)) := ⟨RX0, TX0, 6, rfl, by decide, by decide +kernel, by decide +kernel, Or.inr ⟨rfl, "MeetingCarpets", x_ng 147 (by decide +kernel) (by decide +kernel)⟩⟩
theorem x_pf49 : x_pfOK ((7, 182), (0, 3, false)) := ⟨RX0, TX0, 6, rfl, by decide, by decide +kernel, by decide +kernel, Or.inr ⟨rfl, "MeetingCarpets", x_ng 149 (by decide +kernel) (by decide +kernel)⟩⟩
theorem x_pf50 : x_pfOK ((7, 185), (0, 4, false)) := ⟨RX0, TX0, 6, rfl, by decide, by decide +kernel, by decide +kernel, Or.inr ⟨rfl, "MeetingCarpets", x_ng 153 (by decide +kernel) (by decide +kernel)⟩⟩
theorem x_pf51 : x_pfOK ((7, 191), (0, 5, false)) := ⟨RX0, TX0, 6, rfl, by decide, by decide +kernel, by decide +kernel, Or.inr ⟨rfl, "MeetingCarpets", x_ng 156 (by decide +kernel) (by decide +kernel)⟩⟩
theorem x_pf52 : x_pfOK ((7, 218), (1, 2, false)) := ⟨RX1, TX1, 3, rfl, by decide, by decide +kernel, by decide +kernel, Or.inr ⟨rfl, "MeetingCarpets", x_ng 207 (by decide +kernel) (by decide +kernel)⟩⟩
theorem x_pf53 : x_pfOK ((7, 266), (5, 1, false)) := ⟨RX5, TX5, 2, rfl, by decide, by decide +kernel, by decide +kernel, Or.inr ⟨rfl, "MeetingCarpets", x_ng 226 (by decide +kernel) (by decide +kernel)⟩⟩
theorem x_pf54 : x_pfOK ((8, 7), (8, 0, true)) := ⟨RX8, TX8, 14, rfl, by decide, by decide +kernel, by decide +kernel, Or.inl (x_tg 648 (by decide +kernel) (by decide +kernel))⟩
theorem x_pf55 : x_pfOK ((8, 13), (8, 1, true)) := ⟨RX8, TX8, 14, rfl, by decide, by decide +kernel, by decide +kernel, Or.inl (x_tg 649 (by decide +kernel) (by decide +kernel))⟩
theorem x_pf56 : x_pfOK ((8, 16), (8, 3, true)) := ⟨RX8, TX8, 14, rfl, by decide, by decide +kernel, by decide +kernel, Or.inl (x_tg 651 (by decide +kernel) (by decide +kernel))⟩
theorem x_pf57 : x_pfOK ((8, 19), (8, 4, true)) := ⟨RX8, TX8, 14, rfl, by decide, by decide +kernel, by decide +kernel, Or.inl (x_tg 652 (by decide +kernel) (by decide +kernel))⟩
theorem x_pf58 : x_pfOK ((8, 23), (8, 5, true)) := ⟨RX8, TX8, 14, rfl, by decide, by decide +kernel, by decide +kernel, Or.inl (x_tg 653 (by decide +kernel) (by decide +kernel))⟩
theorem x_pf59 : x_pfOK ((8, 26), (8, 6, true)) := ⟨RX8, TX8, 14, rfl, by decide, by decide +kernel, by decide +kernel, Or.inl (x_tg 654 (by decide +kernel) (by decide +kernel))⟩
theorem x_pf60 : x_pfOK ((8, 29), (8, 11, true)) := ⟨RX8, TX8, 14, rfl, by decide, by decide +kernel, by decide +kernel, Or.inl (x_tg 659 (by decide +kernel) (by decide +kernel))⟩
theorem x_pf61 : x_pfOK ((8, 32), (8, 12, true)) := ⟨RX8, TX8, 14, rfl, by decide, by decide +kernel, by decide +kernel, Or.inl (x_tg 660 (by decide +kernel) (by decide +kernel))⟩
theorem x_pf62 : x_pfOK ((8, 35), (8, 13, true)) := ⟨RX8, TX8, 14, rfl, by decide, by decide +kernel, by decide +kernel, Or.inl (x_tg 661 (by decide +kernel) (by decide +kernel))⟩
theorem x_pf63 : x_pfOK ((8, 46), (8, 2, false)) := ⟨RX8, TX8, 14, rfl, by decide, by decide +kernel, by decide +kernel, Or.inl (x_tg 650 (by decide +kernel) (by decide +kernel))⟩
theorem x_pf64 : x_pfOK ((8, 130), (8, 7, false)) := ⟨RX8, TX8, 14, rfl, by decide, by decide +kernel, by decide +kernel, Or.inl (x_tg 655 (by decide +kernel) (by decide +kernel))⟩
theorem x_pf65 : x_pfOK ((8, 145), (8, 8, false)) := ⟨RX8, TX8, 14, rfl, by decide, by decide +kernel, by decide +kernel, Or.inl (x_tg 656 (by decide +kernel) (by decide +kernel))⟩
theorem x_pf66 : x_pfOK ((8, 151), (8, 9, false)) := ⟨RX8, TX8, 14, rfl, by decide, by decide +kernel, by decide +kernel, Or.inl (x_tg 657 (by decide +kernel) (by decide +kernel))⟩
theorem x_pf67 : x_pfOK ((8, 153), (8, 10, false)) := ⟨RX8, TX8, 14, rfl, by decide, by decide +kernel, by decide +kernel, Or.inl (x_tg 658 (by decide +kernel) (by decide +kernel))⟩
set_option maxRecDepth 100000 in
theorem x_pfl : ∀ q ∈ x_PFL, x_pfOK q := List.forall_mem_cons.mpr ⟨x_pf0, List.forall_mem_cons.mpr ⟨x_pf1, List.forall_mem_cons.mpr ⟨x_pf2, List.forall_mem_cons.mpr ⟨x_pf3, List.forall_mem_cons.mpr ⟨x_pf4, List.forall_mem_cons.mpr ⟨x_pf5, List.forall_mem_cons.mpr ⟨x_pf6, List.forall_mem_cons.mpr ⟨x_pf7, List.forall_mem_cons.mpr ⟨x_pf8, List.forall_mem_cons.mpr ⟨x_pf9, List.forall_mem_cons.mpr ⟨x_pf10, List.forall_mem_cons.mpr ⟨x_pf11, List.forall_mem_cons.mpr ⟨x_pf12, List.forall_mem_cons.mpr ⟨x_pf13, List.forall_mem_cons.mpr ⟨x_pf14, List.forall_mem_cons.mpr ⟨x_pf15, List.forall_mem_cons.mpr ⟨x_pf16, List.forall_mem_cons.mpr ⟨x_pf17, List.forall_mem_cons.mpr ⟨x_pf18, List.forall_mem_cons.mpr ⟨x_pf19, List.forall_mem_cons.mpr ⟨x_pf20, List.forall_mem_cons.mpr ⟨x_pf21, List.forall_mem_cons.mpr ⟨x_pf22, List.forall_mem_cons.mpr ⟨x_pf23, List.forall_mem_cons.mpr ⟨x_pf24, List.forall_mem_cons.mpr ⟨x_pf25, List.forall_mem_cons.mpr ⟨x_pf26, List.forall_mem_cons.mpr ⟨x_pf27, List.forall_mem_cons.mpr ⟨x_pf28, List.forall_mem_cons.mpr ⟨x_pf29, List.forall_mem_cons.mpr ⟨x_pf30, List.forall_mem_cons.mpr ⟨x_pf31, List.forall_mem_cons.mpr ⟨x_pf32, List.forall_mem_cons.mpr ⟨x_pf33, List.forall_mem_cons.mpr ⟨x_pf34, List.forall_mem_cons.mpr ⟨x_pf35, List.forall_mem_cons.mpr ⟨x_pf36, List.forall_mem_cons.mpr ⟨x_pf37, List.forall_mem_cons.mpr ⟨x_pf38, List.forall_mem_cons.mpr ⟨x_pf39, List.forall_mem_cons.mpr ⟨x_pf40, List.forall_mem_cons.mpr ⟨x_pf41, List.forall_mem_cons.mpr ⟨x_pf42, List.forall_mem_cons.mpr ⟨x_pf43, List.forall_mem_cons.mpr ⟨x_pf44, List.forall_mem_cons.mpr ⟨x_pf45, List.forall_mem_cons.mpr ⟨x_pf46, List.forall_mem_cons.mpr ⟨x_pf47, List.forall_mem_cons.mpr ⟨x_pf48, List.forall_mem_cons.mpr ⟨x_pf49, List.forall_mem_cons.mpr ⟨x_pf50, List.forall_mem_cons.mpr ⟨x_pf51, List.forall_mem_cons.mpr ⟨x_pf52, List.forall_mem_cons.mpr ⟨x_pf53, List.forall_mem_cons.mpr ⟨x_pf54, List.forall_mem_cons.mpr ⟨x_pf55, List.forall_mem_cons.mpr ⟨x_pf56, List.forall_mem_cons.mpr ⟨x_pf57, List.forall_mem_cons.mpr ⟨x_pf58, List.forall_mem_cons.mpr ⟨x_pf59, List.forall_mem_cons.mpr ⟨x_pf60, List.forall_mem_cons.mpr ⟨x_pf61, List.forall_mem_cons.mpr ⟨x_pf62, List.forall_mem_cons.mpr ⟨x_pf63, List.forall_mem_cons.mpr ⟨x_pf64, List.forall_mem_cons.mpr ⟨x_pf65, List.forall_mem_cons.mpr ⟨x_pf66, List.forall_mem_cons.mpr ⟨x_pf67, fun _ h => absurd h List.not_mem_nil⟩⟩⟩⟩⟩⟩⟩⟩⟩⟩⟩⟩⟩⟩⟩⟩⟩⟩⟩⟩⟩⟩⟩⟩⟩⟩⟩⟩⟩⟩⟩⟩⟩⟩⟩⟩⟩⟩⟩⟩⟩⟩⟩⟩⟩⟩⟩⟩⟩⟩⟩⟩⟩⟩⟩⟩⟩⟩⟩⟩⟩⟩⟩⟩⟩⟩⟩⟩
end
section
theorem x_iv0 : x_ivOK ((1, 24), (2, 7, 0)) := ⟨Or.inr ⟨"MeetingCarpets", x_ng 203 (by decide +kernel) (by decide +kernel)⟩, x_tg 108 (by decide +kernel) (by decide +kernel), x_tg 87 (by decide +kernel) (by decide +kernel), ⟨by decide +kernel, by decide +kernel⟩, by decide +kernel, by decide +kernel, by decide +kernel, fun h => absurd h (by decide), fun h => absurd h (by decide), fun h => ⟨x_tg 107 (by decide +kernel) (by decide +kernel), by decide +kernel, by decide +kernel⟩⟩
theorem x_iv1 : x_ivOK ((1, 25), (1, 88, 2)) := ⟨Or.inr ⟨"MeetingCarpets", x_ng 308 (by decide +kernel) (by decide +kernel)⟩, x_tg 310 (by decide +kernel) (by decide +kernel), x_tg 86 (by decide +kernel) (by decide +kernel), ⟨by decide +kernel, by decide +kernel⟩, by decide +kernel, by decide +kernel, by decide +kernel, fun h => absurd h (by decide), fun h => x_tg 309 (by decide +kernel) (by decide +kernel), fun h => absurd h (by decide)⟩
theorem x_iv2 : x_ivOK ((1, 29), (1, 89, 2)) := ⟨Or.inr ⟨"MeetingCarpets", x_ng 311 (by decide +kernel) (by decide +kernel)⟩, x_tg 313 (by decide +kernel) (by decide +kernel), x_tg 86 (by decide +kernel) (by decide +kernel), ⟨by decide +kernel, by decide +kernel⟩, by decide +kernel, by decide +kernel, by decide +kernel, fun h => absurd h (by decide), fun h => x_tg 312 (by decide +kernel) (by decide +kernel), fun h => absurd h (by decide)⟩
theorem x_iv3 : x_ivOK ((2, 23), (2, 47, 0)) := ⟨Or.inr ⟨"MeetingCarpets", x_ng 112 (by decide +kernel) (by decide +kernel)⟩, x_tg 114 (by decide +kernel) (by decide +kernel), x_tg 88 (by decide +kernel) (by decide +kernel), ⟨by decide +kernel, by decide +kernel⟩, by decide +kernel, by decide +kernel, by decide +kernel, fun h => absurd h (by decide), fun h => absurd h (by decide), fun h => ⟨x_tg 113 (by decide +kernel) (by decide +kernel), by decide +kernel, by decide +kernel⟩⟩
theorem x_iv4 : x_ivOK ((2, 30), (2, 0, 1)) := ⟨Or.inr ⟨"MeetingCarpets", x_ng 135 (by decide +kernel) (by decide +kernel)⟩, x_tg 137 (by decide +kernel) (by decide +kernel), x_tg 89 (by decide +kernel) (by decide +kernel), ⟨by decide +kernel, by decide +kernel⟩, by decide +kernel, by decide +kernel, by decide +kernel, fun h => absurd h (by decide), fun h => absurd h (by decide), fun h => ⟨x_tg 136 (by decide +kernel) (by decide +kernel), by decide +kernel, by decide +kernel⟩⟩
theorem x_iv5 : x_ivOK ((2, 40), (0, 48, 1)) := ⟨Or.inr ⟨"MeetingCarpets", x_ng 318 (by decide +kernel) (by decide +kernel)⟩, x_tg 321 (by decide +kernel) (by decide +kernel), x_tg 88 (by decide +kernel) (by decide +kernel), ⟨by decide +kernel, by decide +kernel⟩, by decide +kernel, by decide +kernel, by decide +kernel, fun h => ⟨x_tg 320 (by decide +kernel) (by decide +kernel), x_tg 4 (by decide +kernel) (by decide +kernel), TX6, 4, rfl⟩, fun h => absurd h (by decide), fun h => absurd h (by decide)⟩
theorem x_iv6 : x_ivOK ((2, 44), (0, 1, 1)) := ⟨Or.inr ⟨"MeetingCarpets", x_ng 325 (by decide +kernel) (by decide +kernel)⟩, x_tg 328 (by decide +kernel) (by decide +kernel), x_tg 89 (by decide +kernel) (by decide +kernel), ⟨by decide +kernel, by decide +kernel⟩, by decide +kernel, by decide +kernel, by decide +kernel, fun h => ⟨x_tg 327 (by decide +kernel) (by decide +kernel), x_tg 5 (by decide +kernel) (by decide +kernel), TX0, 6, rfl⟩, fun h => absurd h (by decide), fun h => absurd h (by decide)⟩
theorem x_iv7 : x_ivOK ((2, 48), (0, 2, 0)) := ⟨Or.inr ⟨"MeetingCarpets", x_ng 483 (by decide +kernel) (by decide +kernel)⟩, x_tg 486 (by decide +kernel) (by decide +kernel), x_tg 89 (by decide +kernel) (by decide +kernel), ⟨by decide +kernel, by decide +kernel⟩, by decide +kernel, by decide +kernel, by decide +kernel, fun h => ⟨x_tg 485 (by decide +kernel) (by decide +kernel), x_tg 34 (by decide +kernel) (by decide +kernel), TX0, 6, rfl⟩, fun h => absurd h (by decide), fun h => absurd h (by decide)⟩
theorem x_iv8 : x_ivOK ((2, 57), (0, 55, 1)) := ⟨Or.inr ⟨"MeetingCarpets", x_ng 439 (by decide +kernel) (by decide +kernel)⟩, x_tg 442 (by decide +kernel) (by decide +kernel), x_tg 88 (by decide +kernel) (by decide +kernel), ⟨by decide +kernel, by decide +kernel⟩, by decide +kernel, by decide +kernel, by decide +kernel, fun h => ⟨x_tg 441 (by decide +kernel) (by decide +kernel), x_tg 26 (by decide +kernel) (by decide +kernel), TX6, 4, rfl⟩, fun h => absurd h (by decide), fun h => absurd h (by decide)⟩
theorem x_iv9 : x_ivOK ((2, 61), (0, 16, 0)) := ⟨Or.inl (x_tg 423 (by decide +kernel) (by decide +kernel)), x_tg 426 (by decide +kernel) (by decide +kernel), x_tg 87 (by decide +kernel) (by decide +kernel), ⟨by decide +kernel, by decide +kernel⟩, by decide +kernel, by decide +kernel, by decide +kernel, fun h => ⟨x_tg 425 (by decide +kernel) (by decide +kernel), x_tg 22 (by decide +kernel) (by decide +kernel), TX2, 6, rfl⟩, fun h => absurd h (by decide), fun h => absurd h (by decide)⟩
theorem x_iv10 : x_ivOK ((2, 65), (0, 57, 1)) := ⟨Or.inr ⟨"MeetingCarpets", x_ng 450 (by decide +kernel) (by decide +kernel)⟩, x_tg 453 (by decide +kernel) (by decide +kernel), x_tg 88 (by decide +kernel) (by decide +kernel), ⟨by decide +kernel, by decide +kernel⟩, by decide +kernel, by decide +kernel, by decide +kernel, fun h => ⟨x_tg 452 (by decide +kernel) (by decide +kernel), x_tg 28 (by decide +kernel) (by decide +kernel), TX6, 4, rfl⟩, fun h => absurd h (by decide), fun h => absurd h (by decide)⟩
theorem x_iv11 : x_ivOK ((2, 74), (0, 17, 1)) := ⟨Or.inl (x_tg 503 (by decide +kernel) (by decide +kernel)), x_tg 506 (by decide +kernel) (by decide +kernel), x_tg 87 (by decide +kernel) (by decide +kernel), ⟨by decide +kernel, by decide +kernel⟩, by decide +kernel, by decide +kernel, by decide +kernel, fun h => ⟨x_tg 505 (by decide +kernel) (by decide +kernel), x_tg 37 (by decide +kernel) (by decide +kernel), TX2, 6, rfl⟩, fun h => absurd h (by decide), fun h => absurd h (by decide)⟩
theorem x_iv12 : x_ivOK ((2, 78), (0, 12, 0)) := ⟨Or.inl (x_tg 422 (by decide +kernel) (by decide +kernel)), x_tg 347 (by decide +kernel) (by decide +kernel), x_tg 87 (by decide +kernel) (by decide +kernel), ⟨by decide +kernel, by decide +kernel⟩, by decide +kernel, by decide +kernel, by decide +kernel, fun h => ⟨x_tg 346 (by decide +kernel) (by decide +kernel), x_tg 8 (by decide +kernel) (by decide +kernel), TX2, 6, rfl⟩, fun h => absurd h (by decide), fun h => absurd h (by decide)⟩
theorem x_iv13 : x_ivOK ((2, 88), (1, 85, 2)) := ⟨Or.inr ⟨"MeetingCarpets", x_ng 443 (by decide +kernel) (by decide +kernel)⟩, x_tg 445 (by decide +kernel) (by decide +kernel), x_tg 86 (by decide +kernel) (by decide +kernel), ⟨by decide +kernel, by decide +kernel⟩, by decide +kernel, by decide +kernel, by decide +kernel, fun h => absurd h (by decide), fun h => x_tg 444 (by decide +kernel) (by decide +kernel), fun h => absurd h (by decide)⟩
theorem x_iv14 : x_ivOK ((2, 92), (0, 20, 1)) := ⟨Or.inl (x_tg 435 (by decide +kernel) (by decide +kernel)), x_tg 438 (by decide +kernel) (by decide +kernel), x_tg 87 (by decide +kernel) (by decide +kernel), ⟨by decide +kernel, by decide +kernel⟩, by decide +kernel, by decide +kernel, by decide +kernel, fun h => ⟨x_tg 437 (by decide +kernel) (by decide +kernel), x_tg 25 (by decide +kernel) (by decide +kernel), TX2, 6, rfl⟩, fun h => absurd h (by decide), fun h => absurd h (by decide)⟩
theorem x_iv15 : x_ivOK ((2, 95), (0, 21, 1)) := ⟨Or.inl (x_tg 446 (by decide +kernel) (by decide +kernel)), x_tg 449 (by decide +kernel) (by decide +kernel), x_tg 87 (by decide +kernel) (by decide +kernel), ⟨by decide +kernel, by decide +kernel⟩, by decide +kernel, by decide +kernel, by decide +kernel, fun h => ⟨x_tg 448 (by decide +kernel) (by decide +kernel), x_tg 27 (by decide +kernel) (by decide +kernel), TX2, 6, rfl⟩, fun h => absurd h (by decide), fun h => absurd h (by decide)⟩
theorem x_iv16 : x_ivOK ((2, 98), (0, 22, 1)) := ⟨Or.inl (x_tg 512 (by decide +kernel) (by decide +kernel)), x_tg 466 (by decide +kernel) (by decide +kernel), x_tg 87 (by decide +kernel) (by decide +kernel), ⟨by decide +kernel, by decide +kernel⟩, by decide +kernel, by decide +kernel, by decide +kernel, fun h => ⟨x_tg 465 (by decide +kernel) (by decide +kernel), x_tg 31 (by decide +kernel) (by decide +kernel), TX2, 6, rfl⟩, fun h => absurd h (by decide), fun h => absurd h (by decide)⟩
theorem x_iv17 : x_ivOK ((2, 101), (0, 54, 1)) := ⟨Or.inr ⟨"MeetingCarpets", x_ng 427 (by decide +kernel) (by decide +kernel)⟩, x_tg 430 (by decide +kernel) (by decide +kernel), x_tg 88 (by decide +kernel) (by decide +kernel), ⟨by decide +kernel, by decide +kernel⟩, by decide +kernel, by decide +kernel, by decide +kernel, fun h => ⟨x_tg 429 (by decide +kernel) (by decide +kernel), x_tg 23 (by decide +kernel) (by decide +kernel), TX6, 4, rfl⟩, fun h => absurd h (by decide), fun h => absurd h (by decide)⟩
theorem x_iv18 : x_ivOK ((2, 104), (0, 19, 1)) := ⟨Or.inl (x_tg 418 (by decide +kernel) (by decide +kernel)), x_tg 421 (by decide +kernel) (by decide +kernel), x_tg 87 (by decide +kernel) (by decide +kernel), ⟨by decide +kernel, by decide +kernel⟩, by decide +kernel, by decide +kernel, by decide +kernel, fun h => ⟨x_tg 420 (by decide +kernel) (by decide +kernel), x_tg 21 (by decide +kernel) (by decide +kernel), TX2, 6, rfl⟩, fun h => absurd h (by decide), fun h => absurd h (by decide)⟩
theorem x_iv19 : x_ivOK ((2, 108), (0, 25, 1)) := ⟨Or.inl (x_tg 431 (by decide +kernel) (by decide +kernel)), x_tg 434 (by decide +kernel) (by decide +kernel), x_tg 87 (by decide +kernel) (by decide +kernel), ⟨by decide +kernel, by decide +kernel⟩, by decide +kernel, by decide +kernel, by decide +kernel, fun h => ⟨x_tg 433 (by decide +kernel) (by decide +kernel), x_tg 24 (by decide +kernel) (by decide +kernel), TX2, 6, rfl⟩, fun h => absurd h (by decide), fun h => absurd h (by decide)⟩
theorem x_iv20 : x_ivOK ((2, 114), (0, 26, 3)) := ⟨Or.inl (x_tg 454 (by decide +kernel) (by decide +kernel)), x_tg 457 (by decide +kernel) (by decide +kernel), x_tg 87 (by decide +kernel) (by decide +kernel), ⟨by decide +kernel, by decide +kernel⟩, by decide +kernel, by decide +kernel, by decide +kernel, fun h => ⟨x_tg 456 (by decide +kernel) (by decide +kernel), x_tg 29 (by decide +kernel) (by decide +kernel), TX2, 6, rfl⟩, fun h => absurd h (by decide), fun h => absurd h (by decide)⟩
theorem x_iv21 : x_ivOK ((2, 123), (0, 31, 2)) := ⟨Or.inl (x_tg 557 (by decide +kernel) (by decide +kernel)), x_tg 560 (by decide +kernel) (by decide +kernel), x_tg 87 (by decide +kernel) (by decide +kernel), ⟨by decide +kernel, by decide +kernel⟩, by decide +kernel, by decide +kernel, by decide +kernel, fun h => ⟨x_tg 559 (by decide +kernel) (by decide +kernel), x_tg 47 (by decide +kernel) (by decide +kernel), TX2, 6, rfl⟩, fun h => absurd h (by decide), fun h => absurd h (by decide)⟩
theorem x_iv22 : x_ivOK ((2, 126), (0, 32, 1)) := ⟨Or.inl (x_tg 566 (by decide +kernel) (by decide +kernel)), x_tg 556 (by decide +kernel) (by decide +kernel), x_tg 87 (by decide +kernel) (by decide +kernel), ⟨by decide +kernel, by decide +kernel⟩, by decide +kernel, by decide +kernel, by decide +kernel, fun h => ⟨x_tg 555 (by decide +kernel) (by decide +kernel), x_tg 46 (by decide +kernel) (by decide +kernel), TX2, 6, rfl⟩, fun h => absurd h (by decide), fun h => absurd h (by decide)⟩
theorem x_iv23 : x_ivOK ((2, 129), (0, 56, 0)) := ⟨Or.inr ⟨"MeetingCarpets", x_ng 579 (by decide +kernel) (by decide +kernel)⟩, x_tg 535 (by decide +kernel) (by decide +kernel), x_tg 88 (by decide +kernel) (by decide +kernel), ⟨by decide +kernel, by decide +kernel⟩, by decide +kernel, by decide +kernel, by decide +kernel, fun h => ⟨x_tg 534 (by decide +kernel) (by decide +kernel), x_tg 41 (by decide +kernel) (by decide +kernel), TX6, 4, rfl⟩, fun h => absurd h (by decide), fun h => absurd h (by decide)⟩
theorem x_iv24 : x_ivOK ((3, 19), (1, 86, 2)) := ⟨Or.inr ⟨"MeetingCarpets", x_ng 372 (by decide +kernel) (by decide +kernel)⟩, x_tg 374 (by decide +kernel) (by decide +kernel), x_tg 86 (by decide +kernel) (by decide +kernel), ⟨by decide +kernel, by decide +kernel⟩, by decide +kernel, by decide +kernel, by decide +kernel, fun h => absurd h (by decide), fun h => x_tg 373 (by decide +kernel) (by decide +kernel), fun h => absurd h (by decide)⟩
theorem x_iv25 : x_ivOK ((4, 11), (2, 47, 0)) := ⟨Or.inr ⟨"MeetingCarpets", x_ng 254 (by decide +kernel) (by decide +kernel)⟩, x_tg 114 (by decide +kernel) (by decide +kernel), x_tg 88 (by decide +kernel) (by decide +kernel), ⟨by decide +kernel, by decide +kernel⟩, by decide +kernel, by decide +kernel, by decide +kernel, fun h => absurd h (by decide), fun h => absurd h (by decide), fun h => ⟨x_tg 113 (by decide +kernel) (by decide +kernel), by decide +kernel, by decide +kernel⟩⟩
theorem x_iv26 : x_ivOK ((4, 28), (0, 41, 1)) := ⟨Or.inl (x_tg 360 (by decide +kernel) (by decide +kernel)), x_tg 363 (by decide +kernel) (by decide +kernel), x_tg 93 (by decide +kernel) (by decide +kernel), ⟨by decide +kernel, by decide +kernel⟩, by decide +kernel, by decide +kernel, by decide +kernel, fun h => ⟨x_tg 362 (by decide +kernel) (by decide +kernel), x_tg 11 (by decide +kernel) (by decide +kernel), TX4, 3, rfl⟩, fun h => absurd h (by decide), fun h => absurd h (by decide)⟩
theorem x_iv27 : x_ivOK ((4, 37), (0, 43, 2)) := ⟨Or.inl (x_tg 379 (by decide +kernel) (by decide +kernel)), x_tg 382 (by decide +kernel) (by decide +kernel), x_tg 93 (by decide +kernel) (by decide +kernel), ⟨by decide +kernel, by decide +kernel⟩, by decide +kernel, by decide +kernel, by decide +kernel, fun h => ⟨x_tg 381 (by decide +kernel) (by decide +kernel), x_tg 14 (by decide +kernel) (by decide +kernel), TX4, 3, rfl⟩, fun h => absurd h (by decide), fun h => absurd h (by decide)⟩
theorem x_iv28 : x_ivOK ((4, 41), (0, 44, 3)) := ⟨Or.inl (x_tg 364 (by decide +kernel) (by decide +kernel)), x_tg 367 (by decide +kernel) (by decide +kernel), x_tg 93 (by decide +kernel) (by decide +kernel), ⟨by decide +kernel, by decide +kernel⟩, by decide +kernel, by decide +kernel, by decide +kernel, fun h => ⟨x_tg 366 (by decide +kernel) (by decide +kernel), x_tg 12 (by decide +kernel) (by decide +kernel), TX4, 3, rfl⟩, fun h => absurd h (by decide), fun h => absurd h (by decide)⟩
theorem x_iv29 : x_ivOK ((4, 45), (1, 84, 3)) := ⟨Or.inr ⟨"MeetingCarpets", x_ng 375 (by decide +kernel) (by decide +kernel)⟩, x_tg 299 (by decide +kernel) (by decide +kernel), x_tg 86 (by decide +kernel) (by decide +kernel), ⟨by decide +kernel, by decide +kernel⟩, by decide +kernel, by decide +kernel, by decide +kernel, fun h => absurd h (by decide), fun h => x_tg 298 (by decide +kernel) (by decide +kernel), fun h => absurd h (by decide)⟩
theorem x_iv30 : x_ivOK ((4, 49), (0, 42, 3)) := ⟨Or.inl (x_tg 383 (by decide +kernel) (by decide +kernel)), x_tg 386 (by decide +kernel) (by decide +kernel), x_tg 93 (by decide +kernel) (by decide +kernel), ⟨by decide +kernel, by decide +kernel⟩, by decide +kernel, by decide +kernel, by decide +kernel, fun h => ⟨x_tg 385 (by decide +kernel) (by decide +kernel), x_tg 15 (by decide +kernel) (by decide +kernel), TX4, 3, rfl⟩, fun h => absurd h (by decide), fun h => absurd h (by decide)⟩
theorem x_iv31 : x_ivOK ((4, 53), (0, 50, 2)) := ⟨Or.inr ⟨"MeetingCarpets", x_ng 387 (by decide +kernel) (by decide +kernel)⟩, x_tg 351 (by decide +kernel) (by decide +kernel), x_tg 88 (by decide +kernel) (by decide +kernel), ⟨by decide +kernel, by decide +kernel⟩, by decide +kernel, by decide +kernel, by decide +kernel, fun h => ⟨x_tg 350 (by decide +kernel) (by decide +kernel), x_tg 9 (by decide +kernel) (by decide +kernel), TX6, 4, rfl⟩, fun h => absurd h (by decide), fun h => absurd h (by decide)⟩
theorem x_iv32 : x_ivOK ((4, 57), (0, 38, 1)) := ⟨Or.inr ⟨"MeetingCarpets", x_ng 368 (by decide +kernel) (by decide +kernel)⟩, x_tg 371 (by decide +kernel) (by decide +kernel), x_tg 92 (by decide +kernel) (by decide +kernel), ⟨by decide +kernel, by decide +kernel⟩, by decide +kernel, by decide +kernel, by decide +kernel, fun h => ⟨x_tg 370 (by decide +kernel) (by decide +kernel), x_tg 13 (by decide +kernel) (by decide +kernel), TX3, 2, rfl⟩, fun h => absurd h (by decide), fun h => absurd h (by decide)⟩
theorem x_iv33 : x_ivOK ((4, 61), (1, 45, 3)) := ⟨Or.inl (x_tg 376 (by decide +kernel) (by decide +kernel)), x_tg 378 (by decide +kernel) (by decide +kernel), x_tg 93 (by decide +kernel) (by decide +kernel), ⟨by decide +kernel, by decide +kernel⟩, by decide +kernel, by decide +kernel, by decide +kernel, fun h => absurd h (by decide), fun h => x_tg 377 (by decide +kernel) (by decide +kernel), fun h => absurd h (by decide)⟩
theorem x_iv34 : x_ivOK ((5, 9), (2, 7, 0)) := ⟨Or.inr ⟨"MeetingCarpets", x_ng 222 (by decide +kernel) (by decide +kernel)⟩, x_tg 108 (by decide +kernel) (by decide +kernel), x_tg 87 (by decide +kernel) (by decide +kernel), ⟨by decide +kernel, by decide +kernel⟩, by decide +kernel, by decide +kernel, by decide +kernel, fun h => absurd h (by decide), fun h => absurd h (by decide), fun h => ⟨x_tg 107 (by decide +kernel) (by decide +kernel), by decide +kernel, by decide +kernel⟩⟩
theorem x_iv35 : x_ivOK ((6, 25), (1, 87, 2)) := ⟨Or.inr ⟨"MeetingCarpets", x_ng 322 (by decide +kernel) (by decide +kernel)⟩, x_tg 324 (by decide +kernel) (by decide +kernel), x_tg 86 (by decide +kernel) (by decide +kernel), ⟨by decide +kernel, by decide +kernel⟩, by decide +kernel, by decide +kernel, by decide +kernel, fun h => absurd h (by decide), fun h => x_tg 323 (by decide +kernel) (by decide +kernel), fun h => absurd h (by decide)⟩
theorem x_iv36 : x_ivOK ((6, 29), (0, 52, 1)) := ⟨Or.inl (x_tg 392 (by decide +kernel) (by decide +kernel)), x_tg 395 (by decide +kernel) (by decide +kernel), x_tg 88 (by decide +kernel) (by decide +kernel), ⟨by decide +kernel, by decide +kernel⟩, by decide +kernel, by decide +kernel, by decide +kernel, fun h => ⟨x_tg 394 (by decide +kernel) (by decide +kernel), x_tg 17 (by decide +kernel) (by decide +kernel), TX6, 4, rfl⟩, fun h => absurd h (by decide), fun h => absurd h (by decide)⟩
theorem x_iv37 : x_ivOK ((6, 33), (0, 53, 1)) := ⟨Or.inl (x_tg 397 (by decide +kernel) (by decide +kernel)), x_tg 400 (by decide +kernel) (by decide +kernel), x_tg 88 (by decide +kernel) (by decide +kernel), ⟨by decide +kernel, by decide +kernel⟩, by decide +kernel, by decide +kernel, by decide +kernel, fun h => ⟨x_tg 399 (by decide +kernel) (by decide +kernel), x_tg 18 (by decide +kernel) (by decide +kernel), TX6, 4, rfl⟩, fun h => absurd h (by decide), fun h => absurd h (by decide)⟩
theorem x_iv38 : x_ivOK ((6, 36), (0, 50, 2)) := ⟨Or.inl (x_tg 401 (by decide +kernel) (by decide +kernel)), x_tg 351 (by decide +kernel) (by decide +kernel), x_tg 88 (by decide +kernel) (by decide +kernel), ⟨by decide +kernel, by decide +kernel⟩, by decide +kernel, by decide +kernel, by decide +kernel, fun h => ⟨x_tg 350 (by decide +kernel) (by decide +kernel), x_tg 9 (by decide +kernel) (by decide +kernel), TX6, 4, rfl⟩, fun h => absurd h (by decide), fun h => absurd h (by decide)⟩
theorem x_iv39 : x_ivOK ((6, 40), (1, 86, 2)) := ⟨Or.inr ⟨"MeetingCarpets", x_ng 396 (by decide +kernel) (by decide +kernel)⟩, x_tg 374 (by decide +kernel) (by decide +kernel), x_tg 86 (by decide +kernel) (by decide +kernel), ⟨by decide +kernel, by decide +kernel⟩, by decide +kernel, by decide +kernel, by decide +kernel, fun h => absurd h (by decide), fun h => x_tg 373 (by decide +kernel) (by decide +kernel), fun h => absurd h (by decide)⟩
theorem x_iv40 : x_ivOK ((7, 9), (2, 7, 0)) := ⟨Or.inr ⟨"MeetingCarpets", x_ng 106 (by decide +kernel) (by decide +kernel)⟩, x_tg 108 (by decide +kernel) (by decide +kernel), x_tg 87 (by decide +kernel) (by decide +kernel), ⟨by decide +kernel, by decide +kernel⟩, by decide +kernel, by decide +kernel, by decide +kernel, fun h => absurd h (by decide), fun h => absurd h (by decide), fun h => ⟨x_tg 107 (by decide +kernel) (by decide +kernel), by decide +kernel, by decide +kernel⟩⟩
theorem x_iv41 : x_ivOK ((7, 21), (2, 4, 0)) := ⟨Or.inr ⟨"MeetingCarpets", x_ng 197 (by decide +kernel) (by decide +kernel)⟩, x_tg 199 (by decide +kernel) (by decide +kernel), x_tg 90 (by decide +kernel) (by decide +kernel), ⟨by decide +kernel, by decide +kernel⟩, by decide +kernel, by decide +kernel, by decide +kernel, fun h => absurd h (by decide), fun h => absurd h (by decide), fun h => ⟨x_tg 198 (by decide +kernel) (by decide +kernel), by decide +kernel, by decide +kernel⟩⟩
theorem x_iv42 : x_ivOK ((7, 28), (2, 46, 0)) := ⟨Or.inr ⟨"MeetingCarpets", x_ng 217 (by decide +kernel) (by decide +kernel)⟩, x_tg 219 (by decide +kernel) (by decide +kernel), x_tg 91 (by decide +kernel) (by decide +kernel), ⟨by decide +kernel, by decide +kernel⟩, by decide +kernel, by decide +kernel, by decide +kernel, fun h => absurd h (by decide), fun h => absurd h (by decide), fun h => ⟨x_tg 218 (by decide +kernel) (by decide +kernel), by decide +kernel, by decide +kernel⟩⟩
theorem x_iv43 : x_ivOK ((7, 38), (2, 36, 0)) := ⟨Or.inr ⟨"MeetingCarpets", x_ng 234 (by decide +kernel) (by decide +kernel)⟩, x_tg 236 (by decide +kernel) (by decide +kernel), x_tg 92 (by decide +kernel) (by decide +kernel), ⟨by decide +kernel, by decide +kernel⟩, by decide +kernel, by decide +kernel, by decide +kernel, fun h => absurd h (by decide), fun h => absurd h (by decide), fun h => ⟨x_tg 235 (by decide +kernel) (by decide +kernel), by decide +kernel, by decide +kernel⟩⟩
theorem x_iv44 : x_ivOK ((7, 45), (2, 39, 0)) := ⟨Or.inr ⟨"MeetingCarpets", x_ng 249 (by decide +kernel) (by decide +kernel)⟩, x_tg 251 (by decide +kernel) (by decide +kernel), x_tg 93 (by decide +kernel) (by decide +kernel), ⟨by decide +kernel, by decide +kernel⟩, by decide +kernel, by decide +kernel, by decide +kernel, fun h => absurd h (by decide), fun h => absurd h (by decide), fun h => ⟨x_tg 250 (by decide +kernel) (by decide +kernel), by decide +kernel, by decide +kernel⟩⟩
theorem x_iv45 : x_ivOK ((7, 50), (0, 60, 1)) := ⟨Or.inl (x_tg 293 (by decide +kernel) (by decide +kernel)), x_tg 296 (by decide +kernel) (by decide +kernel), x_tg 86 (by decide +kernel) (by decide +kernel), ⟨by decide +kernel, by decide +kernel⟩, by decide +kernel, by decide +kernel, by decide +kernel, fun h => ⟨x_tg 295 (by decide +kernel) (by decide +kernel), x_tg 0 (by decide +kernel) (by decide +kernel), TX7, 7, rfl⟩, fun h => absurd h (by decide), fun h => absurd h (by decide)⟩
theorem x_iv46 : x_ivOK ((7, 54), (0, 61, 1)) := ⟨Or.inl (x_tg 332 (by decide +kernel) (by decide +kernel)), x_tg 335 (by decide +kernel) (by decide +kernel), x_tg 86 (by decide +kernel) (by decide +kernel), ⟨by decide +kernel, by decide +kernel⟩, by decide +kernel, by decide +kernel, by decide +kernel, fun h => ⟨x_tg 334 (by decide +kernel) (by decide +kernel), x_tg 6 (by decide +kernel) (by decide +kernel), TX7, 7, rfl⟩, fun h => absurd h (by decide), fun h => absurd h (by decide)⟩
theorem x_iv47 : x_ivOK ((7, 57), (0, 62, 1)) := ⟨Or.inl (x_tg 336 (by decide +kernel) (by decide +kernel)), x_tg 339 (by decide +kernel) (by decide +kernel), x_tg 86 (by decide +kernel) (by decide +kernel), ⟨by decide +kernel, by decide +kernel⟩, by decide +kernel, by decide +kernel, by decide +kernel, fun h => ⟨x_tg 338 (by decide +kernel) (by decide +kernel), x_tg 7 (by decide +kernel) (by decide +kernel), TX7, 7, rfl⟩, fun h => absurd h (by decide), fun h => absurd h (by decide)⟩
theorem x_iv48 : x_ivOK ((7, 60), (1, 84, 3)) := ⟨Or.inl (x_tg 297 (by decide +kernel) (by decide +kernel)), x_tg 299 (by decide +kernel) (by decide +kernel), x_tg 86 (by decide +kernel) (by decide +kernel), ⟨by decide +kernel, by decide +kernel⟩, by decide +kernel, by decide +kernel, by decide +kernel, fun h => absurd h (by decide), fun h => x_tg 298 (by decide +kernel) (by decide +kernel), fun h => absurd h (by decide)⟩
theorem x_iv49 : x_ivOK ((7, 64), (0, 11, 0)) := ⟨Or.inr ⟨"MeetingCarpets", x_ng 300 (by decide +kernel) (by decide +kernel)⟩, x_tg 303 (by decide +kernel) (by decide +kernel), x_tg 87 (by decide +kernel) (by decide +kernel), ⟨by decide +kernel, by decide +kernel⟩, by decide +kernel, by decide +kernel, by decide +kernel, fun h => ⟨x_tg 302 (by decide +kernel) (by decide +kernel), x_tg 1 (by decide +kernel) (by decide +kernel), TX2, 6, rfl⟩, fun h => absurd h (by decide), fun h => absurd h (by decide)⟩
theorem x_iv50 : x_ivOK ((7, 81), (0, 5, 1)) := ⟨Or.inr ⟨"MeetingCarpets", x_ng 304 (by decide +kernel) (by decide +kernel)⟩, x_tg 307 (by decide +kernel) (by decide +kernel), x_tg 90 (by decide +kernel) (by decide +kernel), ⟨by decide +kernel, by decide +kernel⟩, by decide +kernel, by decide +kernel, by decide +kernel, fun h => ⟨x_tg 306 (by decide +kernel) (by decide +kernel), x_tg 2 (by decide +kernel) (by decide +kernel), TX1, 3, rfl⟩, fun h => absurd h (by decide), fun h => absurd h (by decide)⟩
theorem x_iv51 : x_ivOK ((7, 94), (0, 12, 0)) := ⟨Or.inr ⟨"MeetingCarpets", x_ng 344 (by decide +kernel) (by decide +kernel)⟩, x_tg 347 (by decide +kernel) (by decide +kernel), x_tg 87 (by decide +kernel) (by decide +kernel), ⟨by decide +kernel, by decide +kernel⟩, by decide +kernel, by decide +kernel, by decide +kernel, fun h => ⟨x_tg 346 (by decide +kernel) (by decide +kernel), x_tg 8 (by decide +kernel) (by decide +kernel), TX2, 6, rfl⟩, fun h => absurd h (by decide), fun h => absurd h (by decide)⟩
theorem x_iv52 : x_ivOK ((7, 107), (0, 50, 2)) := ⟨Or.inr ⟨"MeetingCarpets", x_ng 348 (by decide +kernel) (by decide +kernel)⟩, x_tg 351 (by decide +kernel) (by decide +kernel), x_tg 88 (by decide +kernel) (by decide +kernel), ⟨by decide +kernel, by decide +kernel⟩, by decide +kernel, by decide +kernel, by decide +kernel, fun h => ⟨x_tg 350 (by decide +kernel) (by decide +kernel), x_tg 9 (by decide +kernel) (by decide +kernel), TX6, 4, rfl⟩, fun h => absurd h (by decide), fun h => absurd h (by decide)⟩
theorem x_iv53 : x_ivOK ((7, 111), (0, 40, 1)) := ⟨Or.inr ⟨"MeetingCarpets", x_ng 356 (by decide +kernel) (by decide +kernel)⟩, x_tg 359 (by decide +kernel) (by decide +kernel), x_tg 93 (by decide +kernel) (by decide +kernel), ⟨by decide +kernel, by decide +kernel⟩, by decide +kernel, by decide +kernel, by decide +kernel, fun h => ⟨x_tg 358 (by decide +kernel) (by decide +kernel), x_tg 10 (by decide +kernel) (by decide +kernel), TX4, 3, rfl⟩, fun h => absurd h (by decide), fun h => absurd h (by decide)⟩
theorem x_iv54 : x_ivOK ((7, 119), (0, 49, 1)) := ⟨Or.inr ⟨"MeetingCarpets", x_ng 388 (by decide +kernel) (by decide +kernel)⟩, x_tg 391 (by decide +kernel) (by decide +kernel), x_tg 88 (by decide +kernel) (by decide +kernel), ⟨by decide +kernel, by decide +kernel⟩, by decide +kernel, by decide +kernel, by decide +kernel, fun h => ⟨x_tg 390 (by decide +kernel) (by decide +kernel), x_tg 16 (by decide +kernel) (by decide +kernel), TX6, 4, rfl⟩, fun h => absurd h (by decide), fun h => absurd h (by decide)⟩
theorem x_iv55 : x_ivOK ((7, 126), (0, 10, 1)) := ⟨Or.inr ⟨"MeetingCarpets", x_ng 406 (by decide +kernel) (by decide +kernel)⟩, x_tg 409 (by decide +kernel) (by decide +kernel), x_tg 87 (by decide +kernel) (by decide +kernel), ⟨by decide +kernel, by decide +kernel⟩, by decide +kernel, by decide +kernel, by decide +kernel, fun h => ⟨x_tg 408 (by decide +kernel) (by decide +kernel), x_tg 19 (by decide +kernel) (by decide +kernel), TX2, 6, rfl⟩, fun h => absurd h (by decide), fun h => absurd h (by decide)⟩
theorem x_iv56 : x_ivOK ((7, 133), (0, 27, 1)) := ⟨Or.inr ⟨"MeetingCarpets", x_ng 414 (by decide +kernel) (by decide +kernel)⟩, x_tg 417 (by decide +kernel) (by decide +kernel), x_tg 87 (by decide +kernel) (by decide +kernel), ⟨by decide +kernel, by decide +kernel⟩, by decide +kernel, by decide +kernel, by decide +kernel, fun h => ⟨x_tg 416 (by decide +kernel) (by decide +kernel), x_tg 20 (by decide +kernel) (by decide +kernel), TX2, 6, rfl⟩, fun h => absurd h (by decide), fun h => absurd h (by decide)⟩
theorem x_iv57 : x_ivOK ((7, 137), (0, 19, 1)) := ⟨Or.inr ⟨"MeetingCarpets", x_ng 458 (by decide +kernel) (by decide +kernel)⟩, x_tg 421 (by decide +kernel) (by decide +kernel), x_tg 87 (by decide +kernel) (by decide +kernel), ⟨by decide +kernel, by decide +kernel⟩, by decide +kernel, by decide +kernel, by decide +kernel, fun h => ⟨x_tg 420 (by decide +kernel) (by decide +kernel), x_tg 21 (by decide +kernel) (by decide +kernel), TX2, 6, rfl⟩, fun h => absurd h (by decide), fun h => absurd h (by decide)⟩
theorem x_iv58 : x_ivOK ((7, 141), (0, 28, 1)) := ⟨Or.inr ⟨"MeetingCarpets", x_ng 459 (by decide +kernel) (by decide +kernel)⟩, x_tg 462 (by decide +kernel) (by decide +kernel), x_tg 87 (by decide +kernel) (by decide +kernel), ⟨by decide +kernel, by decide +kernel⟩, by decide +kernel, by decide +kernel, by decide +kernel, fun h => ⟨x_tg 461 (by decide +kernel) (by decide +kernel), x_tg 30 (by decide +kernel) (by decide +kernel), TX2, 6, rfl⟩, fun h => absurd h (by decide), fun h => absurd h (by decide)⟩
theorem x_iv59 : x_ivOK ((7, 145), (0, 22, 1)) := ⟨Or.inr ⟨"MeetingCarpets", x_ng 463 (by decide +kernel) (by decide +kernel)⟩, x_tg 466 (by decide +kernel) (by decide +kernel), x_tg 87 (by decide +kernel) (by decide +kernel), ⟨by decide +kernel, by decide +kernel⟩, by decide +kernel, by decide +kernel, by decide +kernel, fun h => ⟨x_tg 465 (by decide +kernel) (by decide +kernel), x_tg 31 (by decide +kernel) (by decide +kernel), TX2, 6, rfl⟩, fun h => absurd h (by decide), fun h => absurd h (by decide)⟩
theorem x_iv60 : x_ivOK ((7, 148), (0, 29, 1)) := ⟨Or.inr ⟨"MeetingCarpets", x_ng 471 (by decide +kernel) (by decide +kernel)⟩, x_tg 474 (by decide +kernel) (by decide +kernel), x_tg 87 (by decide +kernel) (by decide +kernel), ⟨by decide +kernel, by decide +kernel⟩, by decide +kernel, by decide +kernel, by decide +kernel, fun h => ⟨x_tg 473 (by decide +kernel) (by decide +kernel), x_tg 32 (by decide +kernel) (by decide +kernel), TX2, 6, rfl⟩, fun h => absurd h (by decide), fun h => absurd h (by decide)⟩
theorem x_iv61 : x_ivOK ((7, 151), (0, 9, 0)) := ⟨Or.inr ⟨"MeetingCarpets", x_ng 479 (by decide +kernel) (by decide +kernel)⟩, x_tg 482 (by decide +kernel) (by decide +kernel), x_tg 87 (by decide +kernel) (by decide +kernel), ⟨by decide +kernel, by decide +kernel⟩, by decide +kernel, by decide +kernel, by decide +kernel, fun h => ⟨x_tg 481 (by decide +kernel) (by decide +kernel), x_tg 33 (by decide +kernel) (by decide +kernel), TX2, 6, rfl⟩, fun h => absurd h (by decide), fun h => absurd h (by decide)⟩
theorem x_iv62 : x_ivOK ((7, 154), (0, 51, 1)) := ⟨Or.inr ⟨"MeetingCarpets", x_ng 491 (by decide +kernel) (by decide +kernel)⟩, x_tg 494 (by decide +kernel) (by decide +kernel), x_tg 88 (by decide +kernel) (by decide +kernel), ⟨by decide +kernel, by decide +kernel⟩, by decide +kernel, by decide +kernel, by decide +kernel, fun h => ⟨x_tg 493 (by decide +kernel) (by decide +kernel), x_tg 35 (by decide +kernel) (by decide +kernel), TX6, 4, rfl⟩, fun h => absurd h (by decide), fun h => absurd h (by decide)⟩
theorem x_iv63 : x_ivOK ((7, 158), (0, 52, 1)) := ⟨Or.inr ⟨"MeetingCarpets", x_ng 495 (by decide +kernel) (by decide +kernel)⟩, x_tg 395 (by decide +kernel) (by decide +kernel), x_tg 88 (by decide +kernel) (by decide +kernel), ⟨by decide +kernel, by decide +kernel⟩, by decide +kernel, by decide +kernel, by decide +kernel, fun h => ⟨x_tg 394 (by decide +kernel) (by decide +kernel), x_tg 17 (by decide +kernel) (by decide +kernel), TX6, 4, rfl⟩, fun h => absurd h (by decide), fun h => absurd h (by decide)⟩
theorem x_iv64 : x_ivOK ((7, 161), (0, 53, 1)) := ⟨Or.inr ⟨"MeetingCarpets", x_ng 496 (by decide +kernel) (by decide +kernel)⟩, x_tg 400 (by decide +kernel) (by decide +kernel), x_tg 88 (by decide +kernel) (by decide +kernel), ⟨by decide +kernel, by decide +kernel⟩, by decide +kernel, by decide +kernel, by decide +kernel, fun h => ⟨x_tg 399 (by decide +kernel) (by decide +kernel), x_tg 18 (by decide +kernel) (by decide +kernel), TX6, 4, rfl⟩, fun h => absurd h (by decide), fun h => absurd h (by decide)⟩
theorem x_iv65 : x_ivOK ((7, 164), (0, 54, 1)) := ⟨Or.inr ⟨"MeetingCarpets", x_ng 497 (by decide +kernel) (by decide +kernel)⟩, x_tg 430 (by decide +kernel) (by decide +kernel), x_tg 88 (by decide +kernel) (by decide +kernel), ⟨by decide +kernel, by decide +kernel⟩, by decide +kernel, by decide +kernel, by decide +kernel, fun h => ⟨x_tg 429 (by decide +kernel) (by decide +kernel), x_tg 23 (by decide +kernel) (by decide +kernel), TX6, 4, rfl⟩, fun h => absurd h (by decide), fun h => absurd h (by decide)⟩
theorem x_iv66 : x_ivOK ((7, 167), (0, 55, 1)) := ⟨Or.inr ⟨"MeetingCarpets", x_ng 498 (by decide +kernel) (by decide +kernel)⟩, x_tg 442 (by decide +kernel) (by decide +kernel), x_tg 88 (by decide +kernel) (by decide +kernel), ⟨by decide +kernel, by decide +kernel⟩, by decide +kernel, by decide +kernel, by decide +kernel, fun h => ⟨x_tg 441 (by decide +kernel) (by decide +kernel), x_tg 26 (by decide +kernel) (by decide +kernel), TX6, 4, rfl⟩, fun h => absurd h (by decide), fun h => absurd h (by decide)⟩
theorem x_iv67 : x_ivOK ((7, 170), (0, 18, 1)) := ⟨Or.inr ⟨"MeetingCarpets", x_ng 499 (by decide +kernel) (by decide +kernel)⟩, x_tg 502 (by decide +kernel) (by decide +kernel), x_tg 87 (by decide +kernel) (by decide +kernel), ⟨by decide +kernel, by decide +kernel⟩, by decide +kernel, by decide +kernel, by decide +kernel, fun h => ⟨x_tg 501 (by decide +kernel) (by decide +kernel), x_tg 36 (by decide +kernel) (by decide +kernel), TX2, 6, rfl⟩, fun h => absurd h (by decide), fun h => absurd h (by decide)⟩
theorem x_iv68 : x_ivOK ((7, 173), (0, 17, 1)) := ⟨Or.inr ⟨"MeetingCarpets", x_ng 507 (by decide +kernel) (by decide +kernel)⟩, x_tg 506 (by decide +kernel) (by decide +kernel), x_tg 87 (by decide +kernel) (by decide +kernel), ⟨by decide +kernel, by decide +kernel⟩, by decide +kernel, by decide +kernel, by decide +kernel, fun h => ⟨x_tg 505 (by decide +kernel) (by decide +kernel), x_tg 37 (by decide +kernel) (by decide +kernel), TX2, 6, rfl⟩, fun h => absurd h (by decide), fun h => absurd h (by decide)⟩
theorem x_iv69 : x_ivOK ((7, 176), (0, 23, 1)) := ⟨Or.inr ⟨"MeetingCarpets", x_ng 508 (by decide +kernel) (by decide +kernel)⟩, x_tg 511 (by decide +kernel) (by decide +kernel), x_tg 87 (by decide +kernel) (by decide +kernel), ⟨by decide +kernel, by decide +kernel⟩, by decide +kernel, by decide +kernel, by decide +kernel, fun h => ⟨x_tg 510 (by decide +kernel) (by decide +kernel), x_tg 38 (by decide +kernel) (by decide +kernel), TX2, 6, rfl⟩, fun h => absurd h (by decide), fun h => absurd h (by decide)⟩
theorem x_iv70 : x_ivOK ((7, 179), (0, 24, 1)) := ⟨Or.inr ⟨"MeetingCarpets", x_ng 513 (by decide +kernel) (by decide +kernel)⟩, x_tg 516 (by decide +kernel) (by decide +kernel), x_tg 87 (by decide +kernel) (by decide +kernel), ⟨by decide +kernel, by decide +kernel⟩, by decide +kernel, by decide +kernel, by decide +kernel, fun h => ⟨x_tg 515 (by decide +kernel) (by decide +kernel), x_tg 39 (by decide +kernel) (by decide +kernel), TX2, 6, rfl⟩, fun h => absurd h (by decide), fun h => absurd h (by decide)⟩
theorem x_iv71 : x_ivOK ((7, 188), (0, 3, 0)) := ⟨Or.inr ⟨"MeetingCarpets", x_ng 521 (by decide +kernel) (by decide +kernel)⟩, x_tg 524 (by decide +kernel) (by decide +kernel), x_tg 89 (by decide +kernel) (by decide +kernel), ⟨by decide +kernel, by decide +kernel⟩, by decide +kernel, by decide +kernel, by decide +kernel, fun h => ⟨x_tg 523 (by decide +kernel) (by decide +kernel), x_tg 40 (by decide +kernel) (by decide +kernel), TX0, 6, rfl⟩, fun h => absurd h (by decide), fun h => absurd h (by decide)⟩
theorem x_iv72 : x_ivOK ((7, 194), (0, 56, 0)) := ⟨Or.inr ⟨"MeetingCarpets", x_ng 532 (by decide +kernel) (by decide +kernel)⟩, x_tg 535 (by decide +kernel) (by decide +kernel), x_tg 88 (by decide +kernel) (by decide +kernel), ⟨by decide +kernel, by decide +kernel⟩, by decide +kernel, by decide +kernel, by decide +kernel, fun h => ⟨x_tg 534 (by decide +kernel) (by decide +kernel), x_tg 41 (by decide +kernel) (by decide +kernel), TX6, 4, rfl⟩, fun h => absurd h (by decide), fun h => absurd h (by decide)⟩
theorem x_iv73 : x_ivOK ((7, 197), (0, 13, 0)) := ⟨Or.inr ⟨"MeetingCarpets", x_ng 536 (by decide +kernel) (by decide +kernel)⟩, x_tg 539 (by decide +kernel) (by decide +kernel), x_tg 87 (by decide +kernel) (by decide +kernel), ⟨by decide +kernel, by decide +kernel⟩, by decide +kernel, by decide +kernel, by decide +kernel, fun h => ⟨x_tg 538 (by decide +kernel) (by decide +kernel), x_tg 42 (by decide +kernel) (by decide +kernel), TX2, 6, rfl⟩, fun h => absurd h (by decide), fun h => absurd h (by decide)⟩
theorem x_iv74 : x_ivOK ((7, 200), (0, 14, 0)) := ⟨Or.inr ⟨"MeetingCarpets", x_ng 540 (by decide +kernel) (by decide +kernel)⟩, x_tg 543 (by decide +kernel) (by decide +kernel), x_tg 87 (by decide +kernel) (by decide +kernel), ⟨by decide +kernel, by decide +kernel⟩, by decide +kernel, by decide +kernel, by decide +kernel, fun h => ⟨x_tg 542 (by decide +kernel) (by decide +kernel), x_tg 43 (by decide +kernel) (by decide +kernel), TX2, 6, rfl⟩, fun h => absurd h (by decide), fun h => absurd h (by decide)⟩
theorem x_iv75 : x_ivOK ((7, 203), (0, 15, 0)) := ⟨Or.inr ⟨"MeetingCarpets", x_ng 544 (by decide +kernel) (by decide +kernel)⟩, x_tg 547 (by decide +kernel) (by decide +kernel), x_tg 87 (by decide +kernel) (by decide +kernel), ⟨by decide +kernel, by decide +kernel⟩, by decide +kernel, by decide +kernel, by decide +kernel, fun h => ⟨x_tg 546 (by decide +kernel) (by decide +kernel), x_tg 44 (by decide +kernel) (by decide +kernel), TX2, 6, rfl⟩, fun h => absurd h (by decide), fun h => absurd h (by decide)⟩
theorem x_iv76 : x_ivOK ((7, 206), (0, 30, 0)) := ⟨Or.inr ⟨"MeetingCarpets", x_ng 548 (by decide +kernel) (by decide +kernel)⟩, x_tg 551 (by decide +kernel) (by decide +kernel), x_tg 87 (by decide +kernel) (by decide +kernel), ⟨by decide +kernel, by decide +kernel⟩, by decide +kernel, by decide +kernel, by decide +kernel, fun h => ⟨x_tg 550 (by decide +kernel) (by decide +kernel), x_tg 45 (by decide +kernel) (by decide +kernel), TX2, 6, rfl⟩, fun h => absurd h (by decide), fun h => absurd h (by decide)⟩
theorem x_iv77 : x_ivOK ((7, 209), (0, 16, 0)) := ⟨Or.inr ⟨"MeetingCarpets", x_ng 552 (by decide +kernel) (by decide +kernel)⟩, x_tg 426 (by decide +kernel) (by decide +kernel), x_tg 87 (by decide +kernel) (by decide +kernel), ⟨by decide +kernel, by decide +kernel⟩, by decide +kernel, by decide +kernel, by decide +kernel, fun h => ⟨x_tg 425 (by decide +kernel) (by decide +kernel), x_tg 22 (by decide +kernel) (by decide +kernel), TX2, 6, rfl⟩, fun h => absurd h (by decide), fun h => absurd h (by decide)⟩
theorem x_iv78 : x_ivOK ((7, 212), (0, 32, 1)) := ⟨Or.inr ⟨"MeetingCarpets", x_ng 553 (by decide +kernel) (by decide +kernel)⟩, x_tg 556 (by decide +kernel) (by decide +kernel), x_tg 87 (by decide +kernel) (by decide +kernel), ⟨by decide +kernel, by decide +kernel⟩, by decide +kernel, by decide +kernel, by decide +kernel, fun h => ⟨x_tg 555 (by decide +kernel) (by decide +kernel), x_tg 46 (by decide +kernel) (by decide +kernel), TX2, 6, rfl⟩, fun h => absurd h (by decide), fun h => absurd h (by decide)⟩
theorem x_iv79 : x_ivOK ((7, 215), (0, 33, 1)) := ⟨Or.inr ⟨"MeetingCarpets", x_ng 562 (by decide +kernel) (by decide +kernel)⟩, x_tg 565 (by decide +kernel) (by decide +kernel), x_tg 87 (by decide +kernel) (by decide +kernel), ⟨by decide +kernel, by decide +kernel⟩, by decide +kernel, by decide +kernel, by decide +kernel, fun h => ⟨x_tg 564 (by decide +kernel) (by decide +kernel), x_tg 48 (by decide +kernel) (by decide +kernel), TX2, 6, rfl⟩, fun h => absurd h (by decide), fun h => absurd h (by decide)⟩
theorem x_iv80 : x_ivOK ((7, 221), (0, 34, 1)) := ⟨Or.inr ⟨"MeetingCarpets", x_ng 571 (by decide +kernel) (by decide +kernel)⟩, x_tg 574 (by decide +kernel) (by decide +kernel), x_tg 87 (by decide +kernel) (by decide +kernel), ⟨by decide +kernel, by decide +kernel⟩, by decide +kernel, by decide +kernel, by decide +kernel, fun h => ⟨x_tg 573 (by decide +kernel) (by decide +kernel), x_tg 49 (by decide +kernel) (by decide +kernel), TX2, 6, rfl⟩, fun h => absurd h (by decide), fun h => absurd h (by decide)⟩
theorem x_iv81 : x_ivOK ((7, 224), (0, 35, 0)) := ⟨Or.inr ⟨"MeetingCarpets", x_ng 575 (by decide +kernel) (by decide +kernel)⟩, x_tg 578 (by decide +kernel) (by decide +kernel), x_tg 87 (by decide +kernel) (by decide +kernel), ⟨by decide +kernel, by decide +kernel⟩, by decide +kernel, by decide +kernel, by decide +kernel, fun h => ⟨x_tg 577 (by decide +kernel) (by decide +kernel), x_tg 50 (by decide +kernel) (by decide +kernel), TX2, 6, rfl⟩, fun h => absurd h (by decide), fun h => absurd h (by decide)⟩
theorem x_iv82 : x_ivOK ((7, 231), (0, 21, 1)) := ⟨Or.inr ⟨"MeetingCarpets", x_ng 584 (by decide +kernel) (by decide +kernel)⟩, x_tg 449 (by decide +kernel) (by decide +kernel), x_tg 87 (by decide +kernel) (by decide +kernel), ⟨by decide +kernel, by decide +kernel⟩, by decide +kernel, by decide +kernel, by decide +kernel, fun h => ⟨x_tg 448 (by decide +kernel) (by decide +kernel), x_tg 27 (by decide +kernel) (by decide +kernel), TX2, 6, rfl⟩, fun h => absurd h (by decide), fun h => absurd h (by decide)⟩
theorem x_iv83 : x_ivOK ((7, 234), (0, 20, 1)) := ⟨Or.inr ⟨"MeetingCarpets", x_ng 585 (by decide +kernel) (by decide +kernel)⟩, x_tg 438 (by decide +kernel) (by decide +kernel), x_tg 87 (by decide +kernel) (by decide +kernel), ⟨by decide +kernel, by decide +kernel⟩, by decide +kernel, by decide +kernel, by decide +kernel, fun h => ⟨x_tg 437 (by decide +kernel) (by decide +kernel), x_tg 25 (by decide +kernel) (by decide +kernel), TX2, 6, rfl⟩, fun h => absurd h (by decide), fun h => absurd h (by decide)⟩
theorem x_iv84 : x_ivOK ((7, 237), (0, 75, 1)) := ⟨Or.inl (x_tg 590 (by decide +kernel) (by decide +kernel)), x_tg 593 (by decide +kernel) (by decide +kernel), x_tg 86 (by decide +kernel) (by decide +kernel), ⟨by decide +kernel, by decide +kernel⟩, by decide +kernel, by decide +kernel, by decide +kernel, fun h => ⟨x_tg 592 (by decide +kernel) (by decide +kernel), x_tg 51 (by decide +kernel) (by decide +kernel), TX7, 7, rfl⟩, fun h => absurd h (by decide), fun h => absurd h (by decide)⟩
theorem x_iv85 : x_ivOK ((7, 240), (1, 89, 2)) := ⟨Or.inl (x_tg 594 (by decide +kernel) (by decide +kernel)), x_tg 313 (by decide +kernel) (by decide +kernel), x_tg 86 (by decide +kernel) (by decide +kernel), ⟨by decide +kernel, by decide +kernel⟩, by decide +kernel, by decide +kernel, by decide +kernel, fun h => absurd h (by decide), fun h => x_tg 312 (by decide +kernel) (by decide +kernel), fun h => absurd h (by decide)⟩
theorem x_iv86 : x_ivOK ((7, 244), (1, 91, 1)) := ⟨Or.inl (x_tg 603 (by decide +kernel) (by decide +kernel)), x_tg 605 (by decide +kernel) (by decide +kernel), x_tg 86 (by decide +kernel) (by decide +kernel), ⟨by decide +kernel, by decide +kernel⟩, by decide +kernel, by decide +kernel, by decide +kernel, fun h => absurd h (by decide), fun h => x_tg 604 (by decide +kernel) (by decide +kernel), fun h => absurd h (by decide)⟩
theorem x_iv87 : x_ivOK ((7, 248), (1, 90, 2)) := ⟨Or.inl (x_tg 606 (by decide +kernel) (by decide +kernel)), x_tg 608 (by decide +kernel) (by decide +kernel), x_tg 86 (by decide +kernel) (by decide +kernel), ⟨by decide +kernel, by decide +kernel⟩, by decide +kernel, by decide +kernel, by decide +kernel, fun h => absurd h (by decide), fun h => x_tg 607 (by decide +kernel) (by decide +kernel), fun h => absurd h (by decide)⟩
theorem x_iv88 : x_ivOK ((7, 252), (0, 37, 1)) := ⟨Or.inr ⟨"MeetingCarpets", x_ng 610 (by decide +kernel) (by decide +kernel)⟩, x_tg 613 (by decide +kernel) (by decide +kernel), x_tg 92 (by decide +kernel) (by decide +kernel), ⟨by decide +kernel, by decide +kernel⟩, by decide +kernel, by decide +kernel, by decide +kernel, fun h => ⟨x_tg 612 (by decide +kernel) (by decide +kernel), x_tg 52 (by decide +kernel) (by decide +kernel), TX3, 2, rfl⟩, fun h => absurd h (by decide), fun h => absurd h (by decide)⟩
theorem x_iv89 : x_ivOK ((7, 256), (0, 6, 1)) := ⟨Or.inr ⟨"MeetingCarpets", x_ng 626 (by decide +kernel) (by decide +kernel)⟩, x_tg 629 (by decide +kernel) (by decide +kernel), x_tg 90 (by decide +kernel) (by decide +kernel), ⟨by decide +kernel, by decide +kernel⟩, by decide +kernel, by decide +kernel, by decide +kernel, fun h => ⟨x_tg 628 (by decide +kernel) (by decide +kernel), x_tg 53 (by decide +kernel) (by decide +kernel), TX1, 3, rfl⟩, fun h => absurd h (by decide), fun h => absurd h (by decide)⟩
theorem x_iv90 : x_ivOK ((7, 259), (0, 83, 1)) := ⟨Or.inl (x_tg 634 (by decide +kernel) (by decide +kernel)), x_tg 637 (by decide +kernel) (by decide +kernel), x_tg 86 (by decide +kernel) (by decide +kernel), ⟨by decide +kernel, by decide +kernel⟩, by decide +kernel, by decide +kernel, by decide +kernel, fun h => ⟨x_tg 636 (by decide +kernel) (by decide +kernel), x_tg 54 (by decide +kernel) (by decide +kernel), TX7, 7, rfl⟩, fun h => absurd h (by decide), fun h => absurd h (by decide)⟩
theorem x_iv91 : x_ivOK ((7, 269), (0, 8, 1)) := ⟨Or.inr ⟨"MeetingCarpets", x_ng 314 (by decide +kernel) (by decide +kernel)⟩, x_tg 317 (by decide +kernel) (by decide +kernel), x_tg 87 (by decide +kernel) (by decide +kernel), ⟨by decide +kernel, by decide +kernel⟩, by decide +kernel, by decide +kernel, by decide +kernel, fun h => ⟨x_tg 316 (by decide +kernel) (by decide +kernel), x_tg 3 (by decide +kernel) (by decide +kernel), TX2, 6, rfl⟩, fun h => absurd h (by decide), fun h => absurd h (by decide)⟩
theorem x_iv92 : x_ivOK ((8, 38), (1, 93, 3)) := ⟨Or.inl (x_tg 700 (by decide +kernel) (by decide +kernel)), x_tg 702 (by decide +kernel) (by decide +kernel), x_tg 94 (by decide +kernel) (by decide +kernel), ⟨by decide +kernel, by decide +kernel⟩, by decide +kernel, by decide +kernel, by decide +kernel, fun h => absurd h (by decide), fun h => x_tg 701 (by decide +kernel) (by decide +kernel), fun h => absurd h (by decide)⟩
theorem x_iv93 : x_ivOK ((8, 42), (0, 96, 2)) := ⟨Or.inl (x_tg 722 (by decide +kernel) (by decide +kernel)), x_tg 725 (by decide +kernel) (by decide +kernel), x_tg 94 (by decide +kernel) (by decide +kernel), ⟨by decide +kernel, by decide +kernel⟩, by decide +kernel, by decide +kernel, by decide +kernel, fun h => ⟨x_tg 724 (by decide +kernel) (by decide +kernel), x_tg 57 (by decide +kernel) (by decide +kernel), TX8, 14, rfl⟩, fun h => absurd h (by decide), fun h => absurd h (by decide)⟩
theorem x_iv94 : x_ivOK ((8, 50), (0, 100, 0)) := ⟨Or.inl (x_tg 707 (by decide +kernel) (by decide +kernel)), x_tg 710 (by decide +kernel) (by decide +kernel), x_tg 94 (by decide +kernel) (by decide +kernel), ⟨by decide +kernel, by decide +kernel⟩, by decide +kernel, by decide +kernel, by decide +kernel, fun h => ⟨x_tg 709 (by decide +kernel) (by decide +kernel), x_tg 55 (by decide +kernel) (by decide +kernel), TX8, 14, rfl⟩, fun h => absurd h (by decide), fun h => absurd h (by decide)⟩
theorem x_iv95 : x_ivOK ((8, 53), (0, 104, 1)) := ⟨Or.inl (x_tg 769 (by decide +kernel) (by decide +kernel)), x_tg 772 (by decide +kernel) (by decide +kernel), x_tg 94 (by decide +kernel) (by decide +kernel), ⟨by decide +kernel, by decide +kernel⟩, by decide +kernel, by decide +kernel, by decide +kernel, fun h => ⟨x_tg 771 (by decide +kernel) (by decide +kernel), x_tg 65 (by decide +kernel) (by decide +kernel), TX8, 14, rfl⟩, fun h => absurd h (by decide), fun h => absurd h (by decide)⟩
theorem x_iv96 : x_ivOK ((8, 57), (0, 105, 2)) := ⟨Or.inl (x_tg 765 (by decide +kernel) (by decide +kernel)), x_tg 768 (by decide +kernel) (by decide +kernel), x_tg 94 (by decide +kernel) (by decide +kernel), ⟨by decide +kernel, by decide +kernel⟩, by decide +kernel, by decide +kernel, by decide +kernel, fun h => ⟨x_tg 767 (by decide +kernel) (by decide +kernel), x_tg 64 (by decide +kernel) (by decide +kernel), TX8, 14, rfl⟩, fun h => absurd h (by decide), fun h => absurd h (by decide)⟩
theorem x_iv97 : x_ivOK ((8, 60), (0, 99, 1)) := ⟨Or.inl (x_tg 773 (by decide +kernel) (by decide +kernel)), x_tg 776 (by decide +kernel) (by decide +kernel), x_tg 94 (by decide +kernel) (by decide +kernel), ⟨by decide +kernel, by decide +kernel⟩, by decide +kernel, by decide +kernel, by decide +kernel, fun h => ⟨x_tg 775 (by decide +kernel) (by decide +kernel), x_tg 66 (by decide +kernel) (by decide +kernel), TX8, 14, rfl⟩, fun h => absurd h (by decide), fun h => absurd h (by decide)⟩
theorem x_iv98 : x_ivOK ((8, 63), (0, 108, 1)) := ⟨Or.inl (x_tg 789 (by decide +kernel) (by decide +kernel)), x_tg 792 (by decide +kernel) (by decide +kernel), x_tg 94 (by decide +kernel) (by decide +kernel), ⟨by decide +kernel, by decide +kernel⟩, by decide +kernel, by decide +kernel, by decide +kernel, fun h => ⟨x_tg 791 (by decide +kernel) (by decide +kernel), x_tg 70 (by decide +kernel) (by decide +kernel), TX8, 14, rfl⟩, fun h => absurd h (by decide), fun h => absurd h (by decide)⟩
theorem x_iv99 : x_ivOK ((8, 66), (0, 106, 1)) := ⟨Or.inl (x_tg 761 (by decide +kernel) (by decide +kernel)), x_tg 764 (by decide +kernel) (by decide +kernel), x_tg 94 (by decide +kernel) (by decide +kernel), ⟨by decide +kernel, by decide +kernel⟩, by decide +kernel, by decide +kernel, by decide +kernel, fun h => ⟨x_tg 763 (by decide +kernel) (by decide +kernel), x_tg 63 (by decide +kernel) (by decide +kernel), TX8, 14, rfl⟩, fun h => absurd h (by decide), fun h => absurd h (by decide)⟩
theorem x_iv100 : x_ivOK ((8, 69), (0, 107, 1)) := ⟨Or.inl (x_tg 777 (by decide +kernel) (by decide +kernel)), x_tg 780 (by decide +kernel) (by decide +kernel), x_tg 94 (by decide +kernel) (by decide +kernel), ⟨by decide +kernel, by decide +kernel⟩, by decide +kernel, by decide +kernel, by decide +kernel, fun h => ⟨x_tg 779 (by decide +kernel) (by decide +kernel), x_tg 67 (by decide +kernel) (by decide +kernel), TX8, 14, rfl⟩, fun h => absurd h (by decide), fun h => absurd h (by decide)⟩
theorem x_iv101 : x_ivOK ((8, 72), (0, 98, 1)) := ⟨Or.inl (x_tg 718 (by decide +kernel) (by decide +kernel)), x_tg 721 (by decide +kernel) (by decide +kernel), x_tg 94 (by decide +kernel) (by decide +kernel), ⟨by decide +kernel, by decide +kernel⟩, by decide +kernel, by decide +kernel, by decide +kernel, fun h => ⟨x_tg 720 (by decide +kernel) (by decide +kernel), x_tg 56 (by decide +kernel) (by decide +kernel), TX8, 14, rfl⟩, fun h => absurd h (by decide), fun h => absurd h (by decide)⟩
theorem x_iv102 : x_ivOK ((8, 75), (0, 111, 3)) := ⟨Or.inl (x_tg 757 (by decide +kernel) (by decide +kernel)), x_tg 760 (by decide +kernel) (by decide +kernel), x_tg 94 (by decide +kernel) (by decide +kernel), ⟨by decide +kernel, by decide +kernel⟩, by decide +kernel, by decide +kernel, by decide +kernel, fun h => ⟨x_tg 759 (by decide +kernel) (by decide +kernel), x_tg 62 (by decide +kernel) (by decide +kernel), TX8, 14, rfl⟩, fun h => absurd h (by decide), fun h => absurd h (by decide)⟩
theorem x_iv103 : x_ivOK ((8, 79), (0, 97, 3)) := ⟨Or.inl (x_tg 741 (by decide +kernel) (by decide +kernel)), x_tg 744 (by decide +kernel) (by decide +kernel), x_tg 94 (by decide +kernel) (by decide +kernel), ⟨by decide +kernel, by decide +kernel⟩, by decide +kernel, by decide +kernel, by decide +kernel, fun h => ⟨x_tg 743 (by decide +kernel) (by decide +kernel), x_tg 59 (by decide +kernel) (by decide +kernel), TX8, 14, rfl⟩, fun h => absurd h (by decide), fun h => absurd h (by decide)⟩
theorem x_iv104 : x_ivOK ((8, 83), (1, 114, 2)) := ⟨Or.inl (x_tg 715 (by decide +kernel) (by decide +kernel)), x_tg 717 (by decide +kernel) (by decide +kernel), x_tg 94 (by decide +kernel) (by decide +kernel), ⟨by decide +kernel, by decide +kernel⟩, by decide +kernel, by decide +kernel, by decide +kernel, fun h => absurd h (by decide), fun h => x_tg 716 (by decide +kernel) (by decide +kernel), fun h => absurd h (by decide)⟩
theorem x_iv105 : x_ivOK ((8, 87), (0, 116, 2)) := ⟨Or.inl (x_tg 730 (by decide +kernel) (by decide +kernel)), x_tg 733 (by decide +kernel) (by decide +kernel), x_tg 94 (by decide +kernel) (by decide +kernel), ⟨by decide +kernel, by decide +kernel⟩, by decide +kernel, by decide +kernel, by decide +kernel, fun h => ⟨x_tg 732 (by decide +kernel) (by decide +kernel), x_tg 58 (by decide +kernel) (by decide +kernel), TX8, 14, rfl⟩, fun h => absurd h (by decide), fun h => absurd h (by decide)⟩
theorem x_iv106 : x_ivOK ((8, 91), (1, 95, 1)) := ⟨Or.inl (x_tg 738 (by decide +kernel) (by decide +kernel)), x_tg 740 (by decide +kernel) (by decide +kernel), x_tg 94 (by decide +kernel) (by decide +kernel), ⟨by decide +kernel, by decide +kernel⟩, by decide +kernel, by decide +kernel, by decide +kernel, fun h => absurd h (by decide), fun h => x_tg 739 (by decide +kernel) (by decide +kernel), fun h => absurd h (by decide)⟩
theorem x_iv107 : x_ivOK ((8, 95), (0, 110, 1)) := ⟨Or.inl (x_tg 749 (by decide +kernel) (by decide +kernel)), x_tg 752 (by decide +kernel) (by decide +kernel), x_tg 94 (by decide +kernel) (by decide +kernel), ⟨by decide +kernel, by decide +kernel⟩, by decide +kernel, by decide +kernel, by decide +kernel, fun h => ⟨x_tg 751 (by decide +kernel) (by decide +kernel), x_tg 60 (by decide +kernel) (by decide +kernel), TX8, 14, rfl⟩, fun h => absurd h (by decide), fun h => absurd h (by decide)⟩
theorem x_iv108 : x_ivOK ((8, 98), (0, 119, 2)) := ⟨Or.inl (x_tg 753 (by decide +kernel) (by decide +kernel)), x_tg 756 (by decide +kernel) (by decide +kernel), x_tg 94 (by decide +kernel) (by decide +kernel), ⟨by decide +kernel, by decide +kernel⟩, by decide +kernel, by decide +kernel, by decide +kernel, fun h => ⟨x_tg 755 (by decide +kernel) (by decide +kernel), x_tg 61 (by decide +kernel) (by decide +kernel), TX8, 14, rfl⟩, fun h => absurd h (by decide), fun h => absurd h (by decide)⟩
theorem x_iv109 : x_ivOK ((8, 101), (0, 112, 2)) := ⟨Or.inl (x_tg 781 (by decide +kernel) (by decide +kernel)), x_tg 784 (by decide +kernel) (by decide +kernel), x_tg 94 (by decide +kernel) (by decide +kernel), ⟨by decide +kernel, by decide +kernel⟩, by decide +kernel, by decide +kernel, by decide +kernel, fun h => ⟨x_tg 783 (by decide +kernel) (by decide +kernel), x_tg 68 (by decide +kernel) (by decide +kernel), TX8, 14, rfl⟩, fun h => absurd h (by decide), fun h => absurd h (by decide)⟩
theorem x_iv110 : x_ivOK ((8, 104), (0, 109, 1)) := ⟨Or.inl (x_tg 785 (by decide +kernel) (by decide +kernel)), x_tg 788 (by decide +kernel) (by decide +kernel), x_tg 94 (by decide +kernel) (by decide +kernel), ⟨by decide +kernel, by decide +kernel⟩, by decide +kernel, by decide +kernel, by decide +kernel, fun h => ⟨x_tg 787 (by decide +kernel) (by decide +kernel), x_tg 69 (by decide +kernel) (by decide +kernel), TX8, 14, rfl⟩, fun h => absurd h (by decide), fun h => absurd h (by decide)⟩
theorem x_iv111 : x_ivOK ((8, 107), (0, 113, 1)) := ⟨Or.inl (x_tg 801 (by decide +kernel) (by decide +kernel)), x_tg 804 (by decide +kernel) (by decide +kernel), x_tg 94 (by decide +kernel) (by decide +kernel), ⟨by decide +kernel, by decide +kernel⟩, by decide +kernel, by decide +kernel, by decide +kernel, fun h => ⟨x_tg 803 (by decide +kernel) (by decide +kernel), x_tg 71 (by decide +kernel) (by decide +kernel), TX8, 14, rfl⟩, fun h => absurd h (by decide), fun h => absurd h (by decide)⟩
theorem x_iv112 : x_ivOK ((8, 111), (0, 94, 1)) := ⟨Or.inl (x_tg 809 (by decide +kernel) (by decide +kernel)), x_tg 812 (by decide +kernel) (by decide +kernel), x_tg 94 (by decide +kernel) (by decide +kernel), ⟨by decide +kernel, by decide +kernel⟩, by decide +kernel, by decide +kernel, by decide +kernel, fun h => ⟨x_tg 811 (by decide +kernel) (by decide +kernel), x_tg 72 (by decide +kernel) (by decide +kernel), TX8, 14, rfl⟩, fun h => absurd h (by decide), fun h => absurd h (by decide)⟩
theorem x_iv113 : x_ivOK ((8, 114), (0, 123, 2)) := ⟨Or.inl (x_tg 813 (by decide +kernel) (by decide +kernel)), x_tg 816 (by decide +kernel) (by decide +kernel), x_tg 94 (by decide +kernel) (by decide +kernel), ⟨by decide +kernel, by decide +kernel⟩, by decide +kernel, by decide +kernel, by decide +kernel, fun h => ⟨x_tg 815 (by decide +kernel) (by decide +kernel), x_tg 73 (by decide +kernel) (by decide +kernel), TX8, 14, rfl⟩, fun h => absurd h (by decide), fun h => absurd h (by decide)⟩
theorem x_iv114 : x_ivOK ((8, 117), (0, 125, 1)) := ⟨Or.inl (x_tg 821 (by decide +kernel) (by decide +kernel)), x_tg 824 (by decide +kernel) (by decide +kernel), x_tg 94 (by decide +kernel) (by decide +kernel), ⟨by decide +kernel, by decide +kernel⟩, by decide +kernel, by decide +kernel, by decide +kernel, fun h => ⟨x_tg 823 (by decide +kernel) (by decide +kernel), x_tg 74 (by decide +kernel) (by decide +kernel), TX8, 14, rfl⟩, fun h => absurd h (by decide), fun h => absurd h (by decide)⟩
theorem x_iv115 : x_ivOK ((8, 120), (0, 127, 2)) := ⟨Or.inl (x_tg 841 (by decide +kernel) (by decide +kernel)), x_tg 844 (by decide +kernel) (by decide +kernel), x_tg 94 (by decide +kernel) (by decide +kernel), ⟨by decide +kernel, by decide +kernel⟩, by decide +kernel, by decide +kernel, by decide +kernel, fun h => ⟨x_tg 843 (by decide +kernel) (by decide +kernel), x_tg 78 (by decide +kernel) (by decide +kernel), TX8, 14, rfl⟩, fun h => absurd h (by decide), fun h => absurd h (by decide)⟩
theorem x_iv116 : x_ivOK ((8, 123), (0, 128, 0)) := ⟨Or.inl (x_tg 833 (by decide +kernel) (by decide +kernel)), x_tg 836 (by decide +kernel) (by decide +kernel), x_tg 94 (by decide +kernel) (by decide +kernel), ⟨by decide +kernel, by decide +kernel⟩, by decide +kernel, by decide +kernel, by decide +kernel, fun h => ⟨x_tg 835 (by decide +kernel) (by decide +kernel), x_tg 76 (by decide +kernel) (by decide +kernel), TX8, 14, rfl⟩, fun h => absurd h (by decide), fun h => absurd h (by decide)⟩
theorem x_iv117 : x_ivOK ((8, 127), (0, 129, 1)) := ⟨Or.inl (x_tg 837 (by decide +kernel) (by decide +kernel)), x_tg 840 (by decide +kernel) (by decide +kernel), x_tg 94 (by decide +kernel) (by decide +kernel), ⟨by decide +kernel, by decide +kernel⟩, by decide +kernel, by decide +kernel, by decide +kernel, fun h => ⟨x_tg 839 (by decide +kernel) (by decide +kernel), x_tg 77 (by decide +kernel) (by decide +kernel), TX8, 14, rfl⟩, fun h => absurd h (by decide), fun h => absurd h (by decide)⟩
theorem x_iv118 : x_ivOK ((8, 133), (0, 130, 1)) := ⟨Or.inl (x_tg 829 (by decide +kernel) (by decide +kernel)), x_tg 832 (by decide +kernel) (by decide +kernel), x_tg 94 (by decide +kernel) (by decide +kernel), ⟨by decide +kernel, by decide +kernel⟩, by decide +kernel, by decide +kernel, by decide +kernel, fun h => ⟨x_tg 831 (by decide +kernel) (by decide +kernel), x_tg 75 (by decide +kernel) (by decide +kernel), TX8, 14, rfl⟩, fun h => absurd h (by decide), fun h => absurd h (by decide)⟩
theorem x_iv119 : x_ivOK ((8, 136), (0, 134, 1)) := ⟨Or.inl (x_tg 857 (by decide +kernel) (by decide +kernel)), x_tg 860 (by decide +kernel) (by decide +kernel), x_tg 94 (by decide +kernel) (by decide +kernel), ⟨by decide +kernel, by decide +kernel⟩, by decide +kernel, by decide +kernel, by decide +kernel, fun h => ⟨x_tg 859 (by decide +kernel) (by decide +kernel), x_tg 79 (by decide +kernel) (by decide +kernel), TX8, 14, rfl⟩, fun h => absurd h (by decide), fun h => absurd h (by decide)⟩
theorem x_iv120 : x_ivOK ((8, 141), (1, 137, 2)) := ⟨Or.inl (x_tg 869 (by decide +kernel) (by decide +kernel)), x_tg 871 (by decide +kernel) (by decide +kernel), x_tg 94 (by decide +kernel) (by decide +kernel), ⟨by decide +kernel, by decide +kernel⟩, by decide +kernel, by decide +kernel, by decide +kernel, fun h => absurd h (by decide), fun h => x_tg 870 (by decide +kernel) (by decide +kernel), fun h => absurd h (by decide)⟩
theorem x_iv121 : x_ivOK ((8, 148), (0, 140, 0)) := ⟨Or.inl (x_tg 893 (by decide +kernel) (by decide +kernel)), x_tg 896 (by decide +kernel) (by decide +kernel), x_tg 94 (by decide +kernel) (by decide +kernel), ⟨by decide +kernel, by decide +kernel⟩, by decide +kernel, by decide +kernel, by decide +kernel, fun h => ⟨x_tg 895 (by decide +kernel) (by decide +kernel), x_tg 83 (by decide +kernel) (by decide +kernel), TX8, 14, rfl⟩, fun h => absurd h (by decide), fun h => absurd h (by decide)⟩
theorem x_iv122 : x_ivOK ((8, 156), (0, 142, 3)) := ⟨Or.inl (x_tg 889 (by decide +kernel) (by decide +kernel)), x_tg 892 (by decide +kernel) (by decide +kernel), x_tg 94 (by decide +kernel) (by decide +kernel), ⟨by decide +kernel, by decide +kernel⟩, by decide +kernel, by decide +kernel, by decide +kernel, fun h => ⟨x_tg 891 (by decide +kernel) (by decide +kernel), x_tg 82 (by decide +kernel) (by decide +kernel), TX8, 14, rfl⟩, fun h => absurd h (by decide), fun h => absurd h (by decide)⟩
theorem x_iv123 : x_ivOK ((8, 160), (0, 141, 1)) := ⟨Or.inl (x_tg 897 (by decide +kernel) (by decide +kernel)), x_tg 900 (by decide +kernel) (by decide +kernel), x_tg 94 (by decide +kernel) (by decide +kernel), ⟨by decide +kernel, by decide +kernel⟩, by decide +kernel, by decide +kernel, by decide +kernel, fun h => ⟨x_tg 899 (by decide +kernel) (by decide +kernel), x_tg 84 (by decide +kernel) (by decide +kernel), TX8, 14, rfl⟩, fun h => absurd h (by decide), fun h => absurd h (by decide)⟩
theorem x_iv124 : x_ivOK ((8, 163), (0, 143, 0)) := ⟨Or.inl (x_tg 885 (by decide +kernel) (by decide +kernel)), x_tg 888 (by decide +kernel) (by decide +kernel), x_tg 94 (by decide +kernel) (by decide +kernel), ⟨by decide +kernel, by decide +kernel⟩, by decide +kernel, by decide +kernel, by decide +kernel, fun h => ⟨x_tg 887 (by decide +kernel) (by decide +kernel), x_tg 81 (by decide +kernel) (by decide +kernel), TX8, 14, rfl⟩, fun h => absurd h (by decide), fun h => absurd h (by decide)⟩
theorem x_iv125 : x_ivOK ((8, 167), (0, 144, 0)) := ⟨Or.inl (x_tg 881 (by decide +kernel) (by decide +kernel)), x_tg 884 (by decide +kernel) (by decide +kernel), x_tg 94 (by decide +kernel) (by decide +kernel), ⟨by decide +kernel, by decide +kernel⟩, by decide +kernel, by decide +kernel, by decide +kernel, fun h => ⟨x_tg 883 (by decide +kernel) (by decide +kernel), x_tg 80 (by decide +kernel) (by decide +kernel), TX8, 14, rfl⟩, fun h => absurd h (by decide), fun h => absurd h (by decide)⟩
theorem x_iv126 : x_ivOK ((10, 9), (2, 58, 0)) := ⟨Or.inl (x_tg 98 (by decide +kernel) (by decide +kernel)), x_tg 100 (by decide +kernel) (by decide +kernel), x_tg 86 (by decide +kernel) (by decide +kernel), ⟨by decide +kernel, by decide +kernel⟩, by decide +kernel, by decide +kernel, by decide +kernel, fun h => absurd h (by decide), fun h => absurd h (by decide), fun h => ⟨x_tg 99 (by decide +kernel) (by decide +kernel), by decide +kernel, by decide +kernel⟩⟩
theorem x_iv127 : x_ivOK ((10, 12), (2, 92, 0)) := ⟨Or.inl (x_tg 644 (by decide +kernel) (by decide +kernel)), x_tg 646 (by decide +kernel) (by decide +kernel), x_tg 94 (by decide +kernel) (by decide +kernel), ⟨by decide +kernel, by decide +kernel⟩, by decide +kernel, by decide +kernel, by decide +kernel, fun h => absurd h (by decide), fun h => absurd h (by decide), fun h => ⟨x_tg 645 (by decide +kernel) (by decide +kernel), by decide +kernel, by decide +kernel⟩⟩
theorem x_iv128 : x_ivOK ((10, 13), (0, 59, 2)) := ⟨Or.inl (x_tg 289 (by decide +kernel) (by decide +kernel)), x_tg 292 (by decide +kernel) (by decide +kernel), x_tg 86 (by decide +kernel) (by decide +kernel), ⟨by decide +kernel, by decide +kernel⟩, by decide +kernel, by decide +kernel, by decide +kernel, fun h => ⟨x_tg 290 (by decide +kernel) (by decide +kernel), x_tg 291 (by decide +kernel) (by decide +kernel), TX7, 7, rfl⟩, fun h => absurd h (by decide), fun h => absurd h (by decide)⟩
theorem x_iv129 : x_ivOK ((10, 17), (0, 115, 2)) := ⟨Or.inl (x_tg 711 (by decide +kernel) (by decide +kernel)), x_tg 714 (by decide +kernel) (by decide +kernel), x_tg 94 (by decide +kernel) (by decide +kernel), ⟨by decide +kernel, by decide +kernel⟩, by decide +kernel, by decide +kernel, by decide +kernel, fun h => ⟨x_tg 712 (by decide +kernel) (by decide +kernel), x_tg 713 (by decide +kernel) (by decide +kernel), TX8, 14, rfl⟩, fun h => absurd h (by decide), fun h => absurd h (by decide)⟩
theorem x_iv130 : x_ivOK ((10, 18), (0, 63, 2)) := ⟨Or.inl (x_tg 340 (by decide +kernel) (by decide +kernel)), x_tg 343 (by decide +kernel) (by decide +kernel), x_tg 86 (by decide +kernel) (by decide +kernel), ⟨by decide +kernel, by decide +kernel⟩, by decide +kernel, by decide +kernel, by decide +kernel, fun h => ⟨x_tg 341 (by decide +kernel) (by decide +kernel), x_tg 342 (by decide +kernel) (by decide +kernel), TX7, 7, rfl⟩, fun h => absurd h (by decide), fun h => absurd h (by decide)⟩
theorem x_iv131 : x_ivOK ((10, 21), (0, 117, 2)) := ⟨Or.inl (x_tg 726 (by decide +kernel) (by decide +kernel)), x_tg 729 (by decide +kernel) (by decide +kernel), x_tg 94 (by decide +kernel) (by decide +kernel), ⟨by decide +kernel, by decide +kernel⟩, by decide +kernel, by decide +kernel, by decide +kernel, fun h => ⟨x_tg 727 (by decide +kernel) (by decide +kernel), x_tg 728 (by decide +kernel) (by decide +kernel), TX8, 14, rfl⟩, fun h => absurd h (by decide), fun h => absurd h (by decide)⟩
theorem x_iv132 : x_ivOK ((10, 22), (0, 64, 0)) := ⟨Or.inl (x_tg 352 (by decide +kernel) (by decide +kernel)), x_tg 355 (by decide +kernel) (by decide +kernel), x_tg 86 (by decide +kernel) (by decide +kernel), ⟨by decide +kernel, by decide +kernel⟩, by decide +kernel, by decide +kernel, by decide +kernel, fun h => ⟨x_tg 353 (by decide +kernel) (by decide +kernel), x_tg 354 (by decide +kernel) (by decide +kernel), TX7, 7, rfl⟩, fun h => absurd h (by decide), fun h => absurd h (by decide)⟩
theorem x_iv133 : x_ivOK ((10, 26), (0, 146, 0)) := ⟨Or.inl (x_tg 901 (by decide +kernel) (by decide +kernel)), x_tg 904 (by decide +kernel) (by decide +kernel), x_tg 94 (by decide +kernel) (by decide +kernel), ⟨by decide +kernel, by decide +kernel⟩, by decide +kernel, by decide +kernel, by decide +kernel, fun h => ⟨x_tg 902 (by decide +kernel) (by decide +kernel), x_tg 903 (by decide +kernel) (by decide +kernel), TX8, 14, rfl⟩, fun h => absurd h (by decide), fun h => absurd h (by decide)⟩
theorem x_iv134 : x_ivOK ((10, 27), (0, 65, 2)) := ⟨Or.inl (x_tg 402 (by decide +kernel) (by decide +kernel)), x_tg 405 (by decide +kernel) (by decide +kernel), x_tg 86 (by decide +kernel) (by decide +kernel), ⟨by decide +kernel, by decide +kernel⟩, by decide +kernel, by decide +kernel, by decide +kernel, fun h => ⟨x_tg 403 (by decide +kernel) (by decide +kernel), x_tg 404 (by decide +kernel) (by decide +kernel), TX7, 7, rfl⟩, fun h => absurd h (by decide), fun h => absurd h (by decide)⟩
theorem x_iv135 : x_ivOK ((10, 30), (0, 118, 2)) := ⟨Or.inl (x_tg 734 (by decide +kernel) (by decide +kernel)), x_tg 737 (by decide +kernel) (by decide +kernel), x_tg 94 (by decide +kernel) (by decide +kernel), ⟨by decide +kernel, by decide +kernel⟩, by decide +kernel, by decide +kernel, by decide +kernel, fun h => ⟨x_tg 735 (by decide +kernel) (by decide +kernel), x_tg 736 (by decide +kernel) (by decide +kernel), TX8, 14, rfl⟩, fun h => absurd h (by decide), fun h => absurd h (by decide)⟩
theorem x_iv136 : x_ivOK ((10, 31), (0, 66, 1)) := ⟨Or.inl (x_tg 410 (by decide +kernel) (by decide +kernel)), x_tg 413 (by decide +kernel) (by decide +kernel), x_tg 86 (by decide +kernel) (by decide +kernel), ⟨by decide +kernel, by decide +kernel⟩, by decide +kernel, by decide +kernel, by decide +kernel, fun h => ⟨x_tg 411 (by decide +kernel) (by decide +kernel), x_tg 412 (by decide +kernel) (by decide +kernel), TX7, 7, rfl⟩, fun h => absurd h (by decide), fun h => absurd h (by decide)⟩
theorem x_iv137 : x_ivOK ((10, 35), (0, 120, 1)) := ⟨Or.inl (x_tg 745 (by decide +kernel) (by decide +kernel)), x_tg 748 (by decide +kernel) (by decide +kernel), x_tg 94 (by decide +kernel) (by decide +kernel), ⟨by decide +kernel, by decide +kernel⟩, by decide +kernel, by decide +kernel, by decide +kernel, fun h => ⟨x_tg 746 (by decide +kernel) (by decide +kernel), x_tg 747 (by decide +kernel) (by decide +kernel), TX8, 14, rfl⟩, fun h => absurd h (by decide), fun h => absurd h (by decide)⟩
theorem x_iv138 : x_ivOK ((10, 36), (0, 67, 1)) := ⟨Or.inl (x_tg 467 (by decide +kernel) (by decide +kernel)), x_tg 470 (by decide +kernel) (by decide +kernel), x_tg 86 (by decide +kernel) (by decide +kernel), ⟨by decide +kernel, by decide +kernel⟩, by decide +kernel, by decide +kernel, by decide +kernel, fun h => ⟨x_tg 468 (by decide +kernel) (by decide +kernel), x_tg 469 (by decide +kernel) (by decide +kernel), TX7, 7, rfl⟩, fun h => absurd h (by decide), fun h => absurd h (by decide)⟩
theorem x_iv139 : x_ivOK ((10, 39), (0, 121, 1)) := ⟨Or.inl (x_tg 793 (by decide +kernel) (by decide +kernel)), x_tg 796 (by decide +kernel) (by decide +kernel), x_tg 94 (by decide +kernel) (by decide +kernel), ⟨by decide +kernel, by decide +kernel⟩, by decide +kernel, by decide +kernel, by decide +kernel, fun h => ⟨x_tg 794 (by decide +kernel) (by decide +kernel), x_tg 795 (by decide +kernel) (by decide +kernel), TX8, 14, rfl⟩, fun h => absurd h (by decide), fun h => absurd h (by decide)⟩
theorem x_iv140 : x_ivOK ((10, 40), (0, 68, 0)) := ⟨Or.inl (x_tg 475 (by decide +kernel) (by decide +kernel)), x_tg 478 (by decide +kernel) (by decide +kernel), x_tg 86 (by decide +kernel) (by decide +kernel), ⟨by decide +kernel, by decide +kernel⟩, by decide +kernel, by decide +kernel, by decide +kernel, fun h => ⟨x_tg 476 (by decide +kernel) (by decide +kernel), x_tg 477 (by decide +kernel) (by decide +kernel), TX7, 7, rfl⟩, fun h => absurd h (by decide), fun h => absurd h (by decide)⟩
theorem x_iv141 : x_ivOK ((10, 43), (0, 122, 0)) := ⟨Or.inl (x_tg 797 (by decide +kernel) (by decide +kernel)), x_tg 800 (by decide +kernel) (by decide +kernel), x_tg 94 (by decide +kernel) (by decide +kernel), ⟨by decide +kernel, by decide +kernel⟩, by decide +kernel, by decide +kernel, by decide +kernel, fun h => ⟨x_tg 798 (by decide +kernel) (by decide +kernel), x_tg 799 (by decide +kernel) (by decide +kernel), TX8, 14, rfl⟩, fun h => absurd h (by decide), fun h => absurd h (by decide)⟩
theorem x_iv142 : x_ivOK ((10, 44), (0, 69, 2)) := ⟨Or.inl (x_tg 487 (by decide +kernel) (by decide +kernel)), x_tg 490 (by decide +kernel) (by decide +kernel), x_tg 86 (by decide +kernel) (by decide +kernel), ⟨by decide +kernel, by decide +kernel⟩, by decide +kernel, by decide +kernel, by decide +kernel, fun h => ⟨x_tg 488 (by decide +kernel) (by decide +kernel), x_tg 489 (by decide +kernel) (by decide +kernel), TX7, 7, rfl⟩, fun h => absurd h (by decide), fun h => absurd h (by decide)⟩
theorem x_iv143 : x_ivOK ((10, 47), (0, 124, 2)) := ⟨Or.inl (x_tg 805 (by decide +kernel) (by decide +kernel)), x_tg 808 (by decide +kernel) (by decide +kernel), x_tg 94 (by decide +kernel) (by decide +kernel), ⟨by decide +kernel, by decide +kernel⟩, by decide +kernel, by decide +kernel, by decide +kernel, fun h => ⟨x_tg 806 (by decide +kernel) (by decide +kernel), x_tg 807 (by decide +kernel) (by decide +kernel), TX8, 14, rfl⟩, fun h => absurd h (by decide), fun h => absurd h (by decide)⟩
theorem x_iv144 : x_ivOK ((10, 48), (0, 70, 2)) := ⟨Or.inl (x_tg 517 (by decide +kernel) (by decide +kernel)), x_tg 520 (by decide +kernel) (by decide +kernel), x_tg 86 (by decide +kernel) (by decide +kernel), ⟨by decide +kernel, by decide +kernel⟩, by decide +kernel, by decide +kernel, by decide +kernel, fun h => ⟨x_tg 518 (by decide +kernel) (by decide +kernel), x_tg 519 (by decide +kernel) (by decide +kernel), TX7, 7, rfl⟩, fun h => absurd h (by decide), fun h => absurd h (by decide)⟩
theorem x_iv145 : x_ivOK ((10, 51), (0, 126, 2)) := ⟨Or.inl (x_tg 817 (by decide +kernel) (by decide +kernel)), x_tg 820 (by decide +kernel) (by decide +kernel), x_tg 94 (by decide +kernel) (by decide +kernel), ⟨by decide +kernel, by decide +kernel⟩, by decide +kernel, by decide +kernel, by decide +kernel, fun h => ⟨x_tg 818 (by decide +kernel) (by decide +kernel), x_tg 819 (by decide +kernel) (by decide +kernel), TX8, 14, rfl⟩, fun h => absurd h (by decide), fun h => absurd h (by decide)⟩
theorem x_iv146 : x_ivOK ((10, 52), (0, 71, 1)) := ⟨Or.inl (x_tg 528 (by decide +kernel) (by decide +kernel)), x_tg 531 (by decide +kernel) (by decide +kernel), x_tg 86 (by decide +kernel) (by decide +kernel), ⟨by decide +kernel, by decide +kernel⟩, by decide +kernel, by decide +kernel, by decide +kernel, fun h => ⟨x_tg 529 (by decide +kernel) (by decide +kernel), x_tg 530 (by decide +kernel) (by decide +kernel), TX7, 7, rfl⟩, fun h => absurd h (by decide), fun h => absurd h (by decide)⟩
theorem x_iv147 : x_ivOK ((10, 55), (0, 131, 1)) := ⟨Or.inl (x_tg 825 (by decide +kernel) (by decide +kernel)), x_tg 828 (by decide +kernel) (by decide +kernel), x_tg 94 (by decide +kernel) (by decide +kernel), ⟨by decide +kernel, by decide +kernel⟩, by decide +kernel, by decide +kernel, by decide +kernel, fun h => ⟨x_tg 826 (by decide +kernel) (by decide +kernel), x_tg 827 (by decide +kernel) (by decide +kernel), TX8, 14, rfl⟩, fun h => absurd h (by decide), fun h => absurd h (by decide)⟩
theorem x_iv148 : x_ivOK ((10, 56), (0, 72, 2)) := ⟨Or.inl (x_tg 567 (by decide +kernel) (by decide +kernel)), x_tg 570 (by decide +kernel) (by decide +kernel), x_tg 86 (by decide +kernel) (by decide +kernel), ⟨by decide +kernel, by decide +kernel⟩, by decide +kernel, by decide +kernel, by decide +kernel, fun h => ⟨x_tg 568 (by decide +kernel) (by decide +kernel), x_tg 569 (by decide +kernel) (by decide +kernel), TX7, 7, rfl⟩, fun h => absurd h (by decide), fun h => absurd h (by decide)⟩
theorem x_iv149 : x_ivOK ((10, 59), (0, 132, 2)) := ⟨Or.inl (x_tg 845 (by decide +kernel) (by decide +kernel)), x_tg 848 (by decide +kernel) (by decide +kernel), x_tg 94 (by decide +kernel) (by decide +kernel), ⟨by decide +kernel, by decide +kernel⟩, by decide +kernel, by decide +kernel, by decide +kernel, fun h => ⟨x_tg 846 (by decide +kernel) (by decide +kernel), x_tg 847 (by decide +kernel) (by decide +kernel), TX8, 14, rfl⟩, fun h => absurd h (by decide), fun h => absurd h (by decide)⟩
theorem x_iv150 : x_ivOK ((10, 60), (0, 73, 1)) := ⟨Or.inl (x_tg 580 (by decide +kernel) (by decide +kernel)), x_tg 583 (by decide +kernel) (by decide +kernel), x_tg 86 (by decide +kernel) (by decide +kernel), ⟨by decide +kernel, by decide +kernel⟩, by decide +kernel, by decide +kernel, by decide +kernel, fun h => ⟨x_tg 581 (by decide +kernel) (by decide +kernel), x_tg 582 (by decide +kernel) (by decide +kernel), TX7, 7, rfl⟩, fun h => absurd h (by decide), fun h => absurd h (by decide)⟩
theorem x_iv151 : x_ivOK ((10, 63), (0, 133, 1)) := ⟨Or.inl (x_tg 849 (by decide +kernel) (by decide +kernel)), x_tg 852 (by decide +kernel) (by decide +kernel), x_tg 94 (by decide +kernel) (by decide +kernel), ⟨by decide +kernel, by decide +kernel⟩, by decide +kernel, by decide +kernel, by decide +kernel, fun h => ⟨x_tg 850 (by decide +kernel) (by decide +kernel), x_tg 851 (by decide +kernel) (by decide +kernel), TX8, 14, rfl⟩, fun h => absurd h (by decide), fun h => absurd h (by decide)⟩
theorem x_iv152 : x_ivOK ((10, 64), (0, 74, 1)) := ⟨Or.inl (x_tg 586 (by decide +kernel) (by decide +kernel)), x_tg 589 (by decide +kernel) (by decide +kernel), x_tg 86 (by decide +kernel) (by decide +kernel), ⟨by decide +kernel, by decide +kernel⟩, by decide +kernel, by decide +kernel, by decide +kernel, fun h => ⟨x_tg 587 (by decide +kernel) (by decide +kernel), x_tg 588 (by decide +kernel) (by decide +kernel), TX7, 7, rfl⟩, fun h => absurd h (by decide), fun h => absurd h (by decide)⟩
theorem x_iv153 : x_ivOK ((10, 67), (0, 135, 1)) := ⟨Or.inl (x_tg 853 (by decide +kernel) (by decide +kernel)), x_tg 856 (by decide +kernel) (by decide +kernel), x_tg 94 (by decide +kernel) (by decide +kernel), ⟨by decide +kernel, by decide +kernel⟩, by decide +kernel, by decide +kernel, by decide +kernel, fun h => ⟨x_tg 854 (by decide +kernel) (by decide +kernel), x_tg 855 (by decide +kernel) (by decide +kernel), TX8, 14, rfl⟩, fun h => absurd h (by decide), fun h => absurd h (by decide)⟩
theorem x_iv154 : x_ivOK ((10, 68), (0, 76, 0)) := ⟨Or.inl (x_tg 595 (by decide +kernel) (by decide +kernel)), x_tg 598 (by decide +kernel) (by decide +kernel), x_tg 86 (by decide +kernel) (by decide +kernel), ⟨by decide +kernel, by decide +kernel⟩, by decide +kernel, by decide +kernel, by decide +kernel, fun h => ⟨x_tg 596 (by decide +kernel) (by decide +kernel), x_tg 597 (by decide +kernel) (by decide +kernel), TX7, 7, rfl⟩, fun h => absurd h (by decide), fun h => absurd h (by decide)⟩
theorem x_iv155 : x_ivOK ((10, 71), (0, 136, 0)) := ⟨Or.inl (x_tg 861 (by decide +kernel) (by decide +kernel)), x_tg 864 (by decide +kernel) (by decide +kernel), x_tg 94 (by decide +kernel) (by decide +kernel), ⟨by decide +kernel, by decide +kernel⟩, by decide +kernel, by decide +kernel, by decide +kernel, fun h => ⟨x_tg 862 (by decide +kernel) (by decide +kernel), x_tg 863 (by decide +kernel) (by decide +kernel), TX8, 14, rfl⟩, fun h => absurd h (by decide), fun h => absurd h (by decide)⟩
theorem x_iv156 : x_ivOK ((10, 74), (0, 77, 1)) := ⟨Or.inl (x_tg 599 (by decide +kernel) (by decide +kernel)), x_tg 602 (by decide +kernel) (by decide +kernel), x_tg 86 (by decide +kernel) (by decide +kernel), ⟨by decide +kernel, by decide +kernel⟩, by decide +kernel, by decide +kernel, by decide +kernel, fun h => ⟨x_tg 600 (by decide +kernel) (by decide +kernel), x_tg 601 (by decide +kernel) (by decide +kernel), TX7, 7, rfl⟩, fun h => absurd h (by decide), fun h => absurd h (by decide)⟩
theorem x_iv157 : x_ivOK ((10, 78), (0, 138, 1)) := ⟨Or.inl (x_tg 865 (by decide +kernel) (by decide +kernel)), x_tg 868 (by decide +kernel) (by decide +kernel), x_tg 94 (by decide +kernel) (by decide +kernel), ⟨by decide +kernel, by decide +kernel⟩, by decide +kernel, by decide +kernel, by decide +kernel, fun h => ⟨x_tg 866 (by decide +kernel) (by decide +kernel), x_tg 867 (by decide +kernel) (by decide +kernel), TX8, 14, rfl⟩, fun h => absurd h (by decide), fun h => absurd h (by decide)⟩
theorem x_iv158 : x_ivOK ((10, 79), (0, 78, 0)) := ⟨Or.inl (x_tg 614 (by decide +kernel) (by decide +kernel)), x_tg 617 (by decide +kernel) (by decide +kernel), x_tg 86 (by decide +kernel) (by decide +kernel), ⟨by decide +kernel, by decide +kernel⟩, by decide +kernel, by decide +kernel, by decide +kernel, fun h => ⟨x_tg 615 (by decide +kernel) (by decide +kernel), x_tg 616 (by decide +kernel) (by decide +kernel), TX7, 7, rfl⟩, fun h => absurd h (by decide), fun h => absurd h (by decide)⟩
theorem x_iv159 : x_ivOK ((10, 82), (0, 139, 0)) := ⟨Or.inl (x_tg 873 (by decide +kernel) (by decide +kernel)), x_tg 876 (by decide +kernel) (by decide +kernel), x_tg 94 (by decide +kernel) (by decide +kernel), ⟨by decide +kernel, by decide +kernel⟩, by decide +kernel, by decide +kernel, by decide +kernel, fun h => ⟨x_tg 874 (by decide +kernel) (by decide +kernel), x_tg 875 (by decide +kernel) (by decide +kernel), TX8, 14, rfl⟩, fun h => absurd h (by decide), fun h => absurd h (by decide)⟩
theorem x_iv160 : x_ivOK ((10, 83), (0, 79, 0)) := ⟨Or.inl (x_tg 618 (by decide +kernel) (by decide +kernel)), x_tg 621 (by decide +kernel) (by decide +kernel), x_tg 86 (by decide +kernel) (by decide +kernel), ⟨by decide +kernel, by decide +kernel⟩, by decide +kernel, by decide +kernel, by decide +kernel, fun h => ⟨x_tg 619 (by decide +kernel) (by decide +kernel), x_tg 620 (by decide +kernel) (by decide +kernel), TX7, 7, rfl⟩, fun h => absurd h (by decide), fun h => absurd h (by decide)⟩
theorem x_iv161 : x_ivOK ((10, 86), (0, 145, 0)) := ⟨Or.inl (x_tg 877 (by decide +kernel) (by decide +kernel)), x_tg 880 (by decide +kernel) (by decide +kernel), x_tg 94 (by decide +kernel) (by decide +kernel), ⟨by decide +kernel, by decide +kernel⟩, by decide +kernel, by decide +kernel, by decide +kernel, fun h => ⟨x_tg 878 (by decide +kernel) (by decide +kernel), x_tg 879 (by decide +kernel) (by decide +kernel), TX8, 14, rfl⟩, fun h => absurd h (by decide), fun h => absurd h (by decide)⟩
theorem x_iv162 : x_ivOK ((10, 87), (0, 80, 0)) := ⟨Or.inl (x_tg 622 (by decide +kernel) (by decide +kernel)), x_tg 625 (by decide +kernel) (by decide +kernel), x_tg 86 (by decide +kernel) (by decide +kernel), ⟨by decide +kernel, by decide +kernel⟩, by decide +kernel, by decide +kernel, by decide +kernel, fun h => ⟨x_tg 623 (by decide +kernel) (by decide +kernel), x_tg 624 (by decide +kernel) (by decide +kernel), TX7, 7, rfl⟩, fun h => absurd h (by decide), fun h => absurd h (by decide)⟩
theorem x_iv163 : x_ivOK ((10, 90), (0, 101, 0)) := ⟨Or.inl (x_tg 692 (by decide +kernel) (by decide +kernel)), x_tg 695 (by decide +kernel) (by decide +kernel), x_tg 94 (by decide +kernel) (by decide +kernel), ⟨by decide +kernel, by decide +kernel⟩, by decide +kernel, by decide +kernel, by decide +kernel, fun h => ⟨x_tg 693 (by decide +kernel) (by decide +kernel), x_tg 694 (by decide +kernel) (by decide +kernel), TX8, 14, rfl⟩, fun h => absurd h (by decide), fun h => absurd h (by decide)⟩
theorem x_iv164 : x_ivOK ((10, 91), (0, 81, 1)) := ⟨Or.inl (x_tg 630 (by decide +kernel) (by decide +kernel)), x_tg 633 (by decide +kernel) (by decide +kernel), x_tg 86 (by decide +kernel) (by decide +kernel), ⟨by decide +kernel, by decide +kernel⟩, by decide +kernel, by decide +kernel, by decide +kernel, fun h => ⟨x_tg 631 (by decide +kernel) (by decide +kernel), x_tg 632 (by decide +kernel) (by decide +kernel), TX7, 7, rfl⟩, fun h => absurd h (by decide), fun h => absurd h (by decide)⟩
theorem x_iv165 : x_ivOK ((10, 94), (0, 102, 1)) := ⟨Or.inl (x_tg 696 (by decide +kernel) (by decide +kernel)), x_tg 699 (by decide +kernel) (by decide +kernel), x_tg 94 (by decide +kernel) (by decide +kernel), ⟨by decide +kernel, by decide +kernel⟩, by decide +kernel, by decide +kernel, by decide +kernel, fun h => ⟨x_tg 697 (by decide +kernel) (by decide +kernel), x_tg 698 (by decide +kernel) (by decide +kernel), TX8, 14, rfl⟩, fun h => absurd h (by decide), fun h => absurd h (by decide)⟩
theorem x_iv166 : x_ivOK ((10, 95), (0, 82, 1)) := ⟨Or.inl (x_tg 638 (by decide +kernel) (by decide +kernel)), x_tg 641 (by decide +kernel) (by decide +kernel), x_tg 86 (by decide +kernel) (by decide +kernel), ⟨by decide +kernel, by decide +kernel⟩, by decide +kernel, by decide +kernel, by decide +kernel, fun h => ⟨x_tg 639 (by decide +kernel) (by decide +kernel), x_tg 640 (by decide +kernel) (by decide +kernel), TX7, 7, rfl⟩, fun h => absurd h (by decide), fun h => absurd h (by decide)⟩
theorem x_iv167 : x_ivOK ((10, 98), (0, 103, 1)) := ⟨Or.inl (x_tg 703 (by decide +kernel) (by decide +kernel)), x_tg 706 (by decide +kernel) (by decide +kernel), x_tg 94 (by decide +kernel) (by decide +kernel), ⟨by decide +kernel, by decide +kernel⟩, by decide +kernel, by decide +kernel, by decide +kernel, fun h => ⟨x_tg 704 (by decide +kernel) (by decide +kernel), x_tg 705 (by decide +kernel) (by decide +kernel), TX8, 14, rfl⟩, fun h => absurd h (by decide), fun h => absurd h (by decide)⟩
set_option maxRecDepth 100000 in
theorem x_ivl : ∀ q ∈ x_IVL, x_ivOK q := List.forall_mem_cons.mpr ⟨x_iv0, List.forall_mem_cons.mpr ⟨x_iv1, List.forall_mem_cons.mpr ⟨x_iv2, List.forall_mem_cons.mpr ⟨x_iv3, List.forall_mem_cons.mpr ⟨x_iv4, List.forall_mem_cons.mpr ⟨x_iv5, List.forall_mem_cons.mpr ⟨x_iv6, List.forall_mem_cons.mpr ⟨x_iv7, List.forall_mem_cons.mpr ⟨x_iv8, List.forall_mem_cons.mpr ⟨x_iv9, List.forall_mem_cons.mpr ⟨x_iv10, List.forall_mem_cons.mpr ⟨x_iv11, List.forall_mem_cons.mpr ⟨x_iv12, List.forall_mem_cons.mpr ⟨x_iv13, List.forall_mem_cons.mpr ⟨x_iv14, List.forall_mem_cons.mpr ⟨x_iv15, List.forall_mem_cons.mpr ⟨x_iv16, List.forall_mem_cons.mpr ⟨x_iv17, List.forall_mem_cons.mpr ⟨x_iv18, List.forall_mem_cons.mpr ⟨x_iv19, List.forall_mem_cons.mpr ⟨x_iv20, List.forall_mem_cons.mpr ⟨x_iv21, List.forall_mem_cons.mpr ⟨x_iv22, List.forall_mem_cons.mpr ⟨x_iv23, List.forall_mem_cons.mpr ⟨x_iv24, List.forall_mem_cons.mpr ⟨x_iv25, List.forall_mem_cons.mpr ⟨x_iv26, List.forall_mem_cons.mpr ⟨x_iv27, List.forall_mem_cons.mpr ⟨x_iv28, List.forall_mem_cons.mpr ⟨x_iv29, List.forall_mem_cons.mpr ⟨x_iv30, List.forall_mem_cons.mpr ⟨x_iv31, List.forall_mem_cons.mpr ⟨x_iv32, List.forall_mem_cons.mpr ⟨x_iv33, List.forall_mem_cons.mpr ⟨x_iv34, List.forall_mem_cons.mpr ⟨x_iv35, List.forall_mem_cons.mpr ⟨x_iv36, List.forall_mem_cons.mpr ⟨x_iv37, List.forall_mem_cons.mpr ⟨x_iv38, List.forall_mem_cons.mpr ⟨x_iv39, List.forall_mem_cons.mpr ⟨x_iv40, List.forall_mem_cons.mpr ⟨x_iv41, List.forall_mem_cons.mpr ⟨x_iv42, List.forall_mem_cons.mpr ⟨x_iv43, List.forall_mem_cons.mpr ⟨x_iv44, List.forall_mem_cons.mpr ⟨x_iv45, List.forall_mem_cons.mpr ⟨x_iv46, List.forall_mem_cons.mpr ⟨x_iv47, List.forall_mem_cons.mpr ⟨x_iv48, List.forall_mem_cons.mpr ⟨x_iv49, List.forall_mem_cons.mpr ⟨x_iv50, List.forall_mem_cons.mpr ⟨x_iv51, List.forall_mem_cons.mpr ⟨x_iv52, List.forall_mem_cons.mpr ⟨x_iv53, List.forall_mem_cons.mpr ⟨x_iv54, List.forall_mem_cons.mpr ⟨x_iv55, List.forall_mem_cons.mpr ⟨x_iv56, List.forall_mem_cons.mpr ⟨x_iv57, List.forall_mem_cons.mpr ⟨x_iv58, List.forall_mem_cons.mpr ⟨x_iv59, List.forall_mem_cons.mpr ⟨x_iv60, List.forall_mem_cons.mpr ⟨x_iv61, List.forall_mem_cons.mpr ⟨x_iv62, List.forall_mem_cons.mpr ⟨x_iv63, List.forall_mem_cons.mpr ⟨x_iv64, List.forall_mem_cons.mpr ⟨x_iv65, List.forall_mem_cons.mpr ⟨x_iv66, List.forall_mem_cons.mpr ⟨x_iv67, List.forall_mem_cons.mpr ⟨x_iv68, List.forall_mem_cons.mpr ⟨x_iv69, List.forall_mem_cons.mpr ⟨x_iv70, List.forall_mem_cons.mpr ⟨x_iv71, List.forall_mem_cons.mpr ⟨x_iv72, List.forall_mem_cons.mpr ⟨x_iv73, List.forall_mem_cons.mpr ⟨x_iv74, List.forall_mem_cons.mpr ⟨x_iv75, List.forall_mem_cons.mpr ⟨x_iv76, List.forall_mem_cons.mpr ⟨x_iv77, List.forall_mem_cons.mpr ⟨x_iv78, List.forall_mem_cons.mpr ⟨x_iv79, List.forall_mem_cons.mpr ⟨x_iv80, List.forall_mem_cons.mpr ⟨x_iv81, List.forall_mem_cons.mpr ⟨x_iv82, List.forall_mem_cons.mpr ⟨x_iv83, List.forall_mem_cons.mpr ⟨x_iv84, List.forall_mem_cons.mpr ⟨x_iv85, List.forall_mem_cons.mpr ⟨x_iv86, List.forall_mem_cons.mpr ⟨x_iv87, List.forall_mem_cons.mpr ⟨x_iv88, List.forall_mem_cons.mpr ⟨x_iv89, List.forall_mem_cons.mpr ⟨x_iv90, List.forall_mem_cons.mpr ⟨x_iv91, List.forall_mem_cons.mpr ⟨x_iv92, List.forall_mem_cons.mpr ⟨x_iv93, List.forall_mem_cons.mpr ⟨x_iv94, List.forall_mem_cons.mpr ⟨x_iv95, List.forall_mem_cons.mpr ⟨x_iv96, List.forall_mem_cons.mpr ⟨x_iv97, List.forall_mem_cons.mpr ⟨x_iv98, List.forall_mem_cons.mpr ⟨x_iv99, List.forall_mem_cons.mpr ⟨x_iv100, List.forall_mem_cons.mpr ⟨x_iv101, List.forall_mem_cons.mpr ⟨x_iv102, List.forall_mem_cons.mpr ⟨x_iv103, List.forall_mem_cons.mpr ⟨x_iv104, List.forall_mem_cons.mpr ⟨x_iv105, List.forall_mem_cons.mpr ⟨x_iv106, List.forall_mem_cons.mpr ⟨x_iv107, List.forall_mem_cons.mpr ⟨x_iv108, List.forall_mem_cons.mpr ⟨x_iv109, List.forall_mem_cons.mpr ⟨x_iv110, List.forall_mem_cons.mpr ⟨x_iv111, List.forall_mem_cons.mpr ⟨x_iv112, List.forall_mem_cons.mpr ⟨x_iv113, List.forall_mem_cons.mpr ⟨x_iv114, List.forall_mem_cons.mpr ⟨x_iv115, List.forall_mem_cons.mpr ⟨x_iv116, List.forall_mem_cons.mpr ⟨x_iv117, List.forall_mem_cons.mpr ⟨x_iv118, List.forall_mem_cons.mpr ⟨x_iv119, List.forall_mem_cons.mpr ⟨x_iv120, List.forall_mem_cons.mpr ⟨x_iv121, List.forall_mem_cons.mpr ⟨x_iv122, List.forall_mem_cons.mpr ⟨x_iv123, List.forall_mem_cons.mpr ⟨x_iv124, List.forall_mem_cons.mpr ⟨x_iv125, List.forall_mem_cons.mpr ⟨x_iv126, List.forall_mem_cons.mpr ⟨x_iv127, List.forall_mem_cons.mpr ⟨x_iv128, List.forall_mem_cons.mpr ⟨x_iv129, List.forall_mem_cons.mpr ⟨x_iv130, List.forall_mem_cons.mpr ⟨x_iv131, List.forall_mem_cons.mpr ⟨x_iv132, List.forall_mem_cons.mpr ⟨x_iv133, List.forall_mem_cons.mpr ⟨x_iv134, List.forall_mem_cons.mpr ⟨x_iv135, List.forall_mem_cons.mpr ⟨x_iv136, List.forall_mem_cons.mpr ⟨x_iv137, List.forall_mem_cons.mpr ⟨x_iv138, List.forall_mem_cons.mpr ⟨x_iv139, List.forall_mem_cons.mpr ⟨x_iv140, List.forall_mem_cons.mpr ⟨x_iv141, List.forall_mem_cons.mpr ⟨x_iv142, List.forall_mem_cons.mpr ⟨x_iv143, List.forall_mem_cons.mpr ⟨x_iv144, List.forall_mem_cons.mpr ⟨x_iv145, List.forall_mem_cons.mpr ⟨x_iv146, List.forall_mem_cons.mpr ⟨x_iv147, List.forall_mem_cons.mpr ⟨x_iv148, List.forall_mem_cons.mpr ⟨x_iv149, List.forall_mem_cons.mpr ⟨x_iv150, List.forall_mem_cons.mpr ⟨x_iv151, List.forall_mem_cons.mpr ⟨x_iv152, List.forall_mem_cons.mpr ⟨x_iv153, List.forall_mem_cons.mpr ⟨x_iv154, List.forall_mem_cons.mpr ⟨x_iv155, List.forall_mem_cons.mpr ⟨x_iv156, List.forall_mem_cons.mpr ⟨x_iv157, List.forall_mem_cons.mpr ⟨x_iv158, List.forall_mem_cons.mpr ⟨x_iv159, List.forall_mem_cons.mpr ⟨x_iv160, List.forall_mem_cons.mpr ⟨x_iv161, List.forall_mem_cons.mpr ⟨x_iv162, List.forall_mem_cons.mpr ⟨x_iv163, List.forall_mem_cons.mpr ⟨x_iv164, List.forall_mem_cons.mpr ⟨x_iv165, List.forall_mem_cons.mpr ⟨x_iv166, List.forall_mem_cons.mpr ⟨x_iv167, fun _ h => absurd h List.not_mem_nil⟩⟩⟩⟩⟩⟩⟩⟩⟩⟩⟩⟩⟩⟩⟩⟩⟩⟩⟩⟩⟩⟩⟩⟩⟩⟩⟩⟩⟩⟩⟩⟩⟩⟩⟩⟩⟩⟩⟩⟩⟩⟩⟩⟩⟩⟩⟩⟩⟩⟩⟩⟩⟩⟩⟩⟩⟩⟩⟩⟩⟩⟩⟩⟩⟩⟩⟩⟩⟩⟩⟩⟩⟩⟩⟩⟩⟩⟩⟩⟩⟩⟩⟩⟩⟩⟩⟩⟩⟩⟩⟩⟩⟩⟩⟩⟩⟩⟩⟩⟩⟩⟩⟩⟩⟩⟩⟩⟩⟩⟩⟩⟩⟩⟩⟩⟩⟩⟩⟩⟩⟩⟩⟩⟩⟩⟩⟩⟩⟩⟩⟩⟩⟩⟩⟩⟩⟩⟩⟩⟩⟩⟩⟩⟩⟩⟩⟩⟩⟩⟩⟩⟩⟩⟩⟩⟩⟩⟩⟩⟩⟩⟩⟩⟩⟩⟩⟩⟩
theorem x_nw0 : x_nwOK ((1, 9), 2) := ⟨RX2, TX2, 6, rfl, by decide +kernel, by decide +kernel, x_tg 201 (by decide +kernel) (by decide +kernel), x_tg 105 (by decide +kernel) (by decide +kernel), x_tg 87 (by decide +kernel) (by decide +kernel)⟩
theorem x_nw1 : x_nwOK ((2, 21), 6) := ⟨RX6, TX6, 4, rfl, by decide +kernel, by decide +kernel, x_tg 110 (by decide +kernel) (by decide +kernel), x_tg 111 (by decide +kernel) (by decide +kernel), x_tg 88 (by decide +kernel) (by decide +kernel)⟩
theorem x_nw2 : x_nwOK ((2, 28), 0) := ⟨RX0, TX0, 6, rfl, by decide +kernel, by decide +kernel, x_tg 133 (by decide +kernel) (by decide +kernel), x_tg 134 (by decide +kernel) (by decide +kernel), x_tg 89 (by decide +kernel) (by decide +kernel)⟩
theorem x_nw3 : x_nwOK ((4, 9), 6) := ⟨RX6, TX6, 4, rfl, by decide +kernel, by decide +kernel, x_tg 253 (by decide +kernel) (by decide +kernel), x_tg 111 (by decide +kernel) (by decide +kernel), x_tg 88 (by decide +kernel) (by decide +kernel)⟩
theorem x_nw4 : x_nwOK ((5, 7), 2) := ⟨RX2, TX2, 6, rfl, by decide +kernel, by decide +kernel, x_tg 221 (by decide +kernel) (by decide +kernel), x_tg 105 (by decide +kernel) (by decide +kernel), x_tg 87 (by decide +kernel) (by decide +kernel)⟩
theorem x_nw5 : x_nwOK ((7, 7), 2) := ⟨RX2, TX2, 6, rfl, by decide +kernel, by decide +kernel, x_tg 104 (by decide +kernel) (by decide +kernel), x_tg 105 (by decide +kernel) (by decide +kernel), x_tg 87 (by decide +kernel) (by decide +kernel)⟩
theorem x_nw6 : x_nwOK ((7, 19), 1) := ⟨RX1, TX1, 3, rfl, by decide +kernel, by decide +kernel, x_tg 195 (by decide +kernel) (by decide +kernel), x_tg 196 (by decide +kernel) (by decide +kernel), x_tg 90 (by decide +kernel) (by decide +kernel)⟩
theorem x_nw7 : x_nwOK ((7, 26), 5) := ⟨RX5, TX5, 2, rfl, by decide +kernel, by decide +kernel, x_tg 215 (by decide +kernel) (by decide +kernel), x_tg 216 (by decide +kernel) (by decide +kernel), x_tg 91 (by decide +kernel) (by decide +kernel)⟩
theorem x_nw8 : x_nwOK ((7, 36), 3) := ⟨RX3, TX3, 2, rfl, by decide +kernel, by decide +kernel, x_tg 232 (by decide +kernel) (by decide +kernel), x_tg 233 (by decide +kernel) (by decide +kernel), x_tg 92 (by decide +kernel) (by decide +kernel)⟩
theorem x_nw9 : x_nwOK ((7, 43), 4) := ⟨RX4, TX4, 3, rfl, by decide +kernel, by decide +kernel, x_tg 247 (by decide +kernel) (by decide +kernel), x_tg 248 (by decide +kernel) (by decide +kernel), x_tg 93 (by decide +kernel) (by decide +kernel)⟩
theorem x_nw10 : x_nwOK ((10, 7), 7) := ⟨RX7, TX7, 7, rfl, by decide +kernel, by decide +kernel, x_tg 96 (by decide +kernel) (by decide +kernel), x_tg 97 (by decide +kernel) (by decide +kernel), x_tg 86 (by decide +kernel) (by decide +kernel)⟩
theorem x_nw11 : x_nwOK ((10, 10), 8) := ⟨RX8, TX8, 14, rfl, by decide +kernel, by decide +kernel, x_tg 642 (by decide +kernel) (by decide +kernel), x_tg 643 (by decide +kernel) (by decide +kernel), x_tg 94 (by decide +kernel) (by decide +kernel)⟩
theorem x_nwl : ∀ q ∈ x_NWL, x_nwOK q := List.forall_mem_cons.mpr ⟨x_nw0, List.forall_mem_cons.mpr ⟨x_nw1, List.forall_mem_cons.mpr ⟨x_nw2, List.forall_mem_cons.mpr ⟨x_nw3, List.forall_mem_cons.mpr ⟨x_nw4, List.forall_mem_cons.mpr ⟨x_nw5, List.forall_mem_cons.mpr ⟨x_nw6, List.forall_mem_cons.mpr ⟨x_nw7, List.forall_mem_cons.mpr ⟨x_nw8, List.forall_mem_cons.mpr ⟨x_nw9, List.forall_mem_cons.mpr ⟨x_nw10, List.forall_mem_cons.mpr ⟨x_nw11, fun _ h => absurd h List.not_mem_nil⟩⟩⟩⟩⟩⟩⟩⟩⟩⟩⟩⟩
theorem x_lc0 : x_lcOK ((7, 272), 255) := x_tg 609 (by decide +kernel) (by decide +kernel)
theorem x_lc1 : x_lcOK ((8, 139), 255) := x_tg 872 (by decide +kernel) (by decide +kernel)
theorem x_lc2 : x_lcOK ((10, 72), 4294967295) := x_tg 905 (by decide +kernel) (by decide +kernel)
theorem x_lcl : ∀ q ∈ x_LCL, x_lcOK q := List.forall_mem_cons.mpr ⟨x_lc0, List.forall_mem_cons.mpr ⟨x_lc1, List.forall_mem_cons.mpr ⟨x_lc2, fun _ h => absurd h List.not_mem_nil⟩⟩⟩
theorem x_mm0 : x_mmOK ((0, 29), true) := by
  unfold x_mmOK
  first
    | (rw [if_pos rfl]; exact x_tg 525 (by decide +kernel) (by decide +kernel))
    | (rw [if_neg (by decide)]; exact x_tg 525 (by decide +kernel) (by decide +kernel))
theorem x_mm1 : x_mmOK ((1, 33), false) := by
  unfold x_mmOK
  first
    | (rw [if_pos rfl]; exact x_tg 329 (by decide +kernel) (by decide +kernel))
    | (rw [if_neg (by decide)]; exact x_tg 329 (by decide +kernel) (by decide +kernel))
theorem x_mm2 : x_mmOK ((2, 118), false) := by
  unfold x_mmOK
  first
    | (rw [if_pos rfl]; exact x_tg 561 (by decide +kernel) (by decide +kernel))
    | (rw [if_neg (by decide)]; exact x_tg 561 (by decide +kernel) (by decide +kernel))
theorem x_mml : ∀ q ∈ x_MML, x_mmOK q := List.forall_mem_cons.mpr ⟨x_mm0, List.forall_mem_cons.mpr ⟨x_mm1, List.forall_mem_cons.mpr ⟨x_mm2, fun _ h => absurd h List.not_mem_nil⟩⟩⟩
theorem x_jmI : Jvm.Cond.initialized "java/lang/Math" ∈ x_TG := x_tg 95 (by decide +kernel) (by decide +kernel)
theorem x_jmS_max : Jvm.Cond.static Lib.Math.max.name ∈ x_TG := x_tg 526 (by decide +kernel) (by decide +kernel)
theorem x_jmC_max : Jvm.Cond.code Lib.Math.max.name Lib.Math.max.code 2 (some .int) ∈ x_TG := x_tg 527 (by decide +kernel) (by decide +kernel)
theorem x_jmS_min : Jvm.Cond.static Lib.Math.min.name ∈ x_TG := x_tg 330 (by decide +kernel) (by decide +kernel)
theorem x_jmC_min : Jvm.Cond.code Lib.Math.min.name Lib.Math.min.code 2 (some .int) ∈ x_TG := x_tg 331 (by decide +kernel) (by decide +kernel)
theorem x_oi0 : x_oiOK ((0, 1), ()) := x_tg 138 (by decide +kernel) (by decide +kernel)
theorem x_oi1 : x_oiOK ((1, 3), ()) := x_tg 200 (by decide +kernel) (by decide +kernel)
theorem x_oi2 : x_oiOK ((2, 3), ()) := x_tg 109 (by decide +kernel) (by decide +kernel)
theorem x_oi3 : x_oiOK ((3, 3), ()) := x_tg 237 (by decide +kernel) (by decide +kernel)
theorem x_oi4 : x_oiOK ((4, 3), ()) := x_tg 252 (by decide +kernel) (by decide +kernel)
theorem x_oi5 : x_oiOK ((5, 1), ()) := x_tg 220 (by decide +kernel) (by decide +kernel)
theorem x_oi6 : x_oiOK ((6, 3), ()) := x_tg 115 (by decide +kernel) (by decide +kernel)
theorem x_oi7 : x_oiOK ((7, 1), ()) := x_tg 101 (by decide +kernel) (by decide +kernel)
theorem x_oi8 : x_oiOK ((8, 1), ()) := x_tg 647 (by decide +kernel) (by decide +kernel)
theorem x_oil : ∀ q ∈ x_OIL, x_oiOK q := List.forall_mem_cons.mpr ⟨x_oi0, List.forall_mem_cons.mpr ⟨x_oi1, List.forall_mem_cons.mpr ⟨x_oi2, List.forall_mem_cons.mpr ⟨x_oi3, List.forall_mem_cons.mpr ⟨x_oi4, List.forall_mem_cons.mpr ⟨x_oi5, List.forall_mem_cons.mpr ⟨x_oi6, List.forall_mem_cons.mpr ⟨x_oi7, List.forall_mem_cons.mpr ⟨x_oi8, fun _ h => absurd h List.not_mem_nil⟩⟩⟩⟩⟩⟩⟩⟩⟩
theorem x_oiI : Jvm.Cond.instanceMethod objectInit ∈ x_TG := x_tg 102 (by decide +kernel) (by decide +kernel)
theorem x_oiC : Jvm.Cond.code objectInit ⟨#[0xb1]⟩ 1 none ∈ x_TG := x_tg 103 (by decide +kernel) (by decide +kernel)
theorem x_acI : Jvm.Cond.arrayClass .int ∈ x_TG := x_tg 132 (by decide +kernel) (by decide +kernel)
theorem x_acZ : Jvm.Cond.arrayClass .boolean ∈ x_TG := x_tg 691 (by decide +kernel) (by decide +kernel)
theorem x_us0 : ∀ w ∈ u_ws RX0 TX0 6, w ∈ x_TG := by
  show ∀ w ∈ (List.range 6).map (u_lay RX0 TX0), w ∈ x_TG
  simp only [List.range, List.range.loop, List.map_cons, List.map_nil]
  exact List.forall_mem_cons.mpr ⟨x_tg 157 (by decide +kernel) (by decide +kernel), List.forall_mem_cons.mpr ⟨x_tg 159 (by decide +kernel) (by decide +kernel), List.forall_mem_cons.mpr ⟨x_tg 161 (by decide +kernel) (by decide +kernel), List.forall_mem_cons.mpr ⟨x_tg 163 (by decide +kernel) (by decide +kernel), List.forall_mem_cons.mpr ⟨x_tg 165 (by decide +kernel) (by decide +kernel), List.forall_mem_cons.mpr ⟨x_tg 167 (by decide +kernel) (by decide +kernel), fun _ h => absurd h List.not_mem_nil⟩⟩⟩⟩⟩⟩
theorem x_us1 : ∀ w ∈ u_ws RX1 TX1 3, w ∈ x_TG := by
  show ∀ w ∈ (List.range 3).map (u_lay RX1 TX1), w ∈ x_TG
  simp only [List.range, List.range.loop, List.map_cons, List.map_nil]
  exact List.forall_mem_cons.mpr ⟨x_tg 208 (by decide +kernel) (by decide +kernel), List.forall_mem_cons.mpr ⟨x_tg 210 (by decide +kernel) (by decide +kernel), List.forall_mem_cons.mpr ⟨x_tg 212 (by decide +kernel) (by decide +kernel), fun _ h => absurd h List.not_mem_nil⟩⟩⟩
theorem x_us2 : ∀ w ∈ u_ws RX2 TX2 6, w ∈ x_TG := by
  show ∀ w ∈ (List.range 6).map (u_lay RX2 TX2), w ∈ x_TG
  simp only [List.range, List.range.loop, List.map_cons, List.map_nil]
  exact List.forall_mem_cons.mpr ⟨x_tg 182 (by decide +kernel) (by decide +kernel), List.forall_mem_cons.mpr ⟨x_tg 184 (by decide +kernel) (by decide +kernel), List.forall_mem_cons.mpr ⟨x_tg 186 (by decide +kernel) (by decide +kernel), List.forall_mem_cons.mpr ⟨x_tg 188 (by decide +kernel) (by decide +kernel), List.forall_mem_cons.mpr ⟨x_tg 190 (by decide +kernel) (by decide +kernel), List.forall_mem_cons.mpr ⟨x_tg 192 (by decide +kernel) (by decide +kernel), fun _ h => absurd h List.not_mem_nil⟩⟩⟩⟩⟩⟩
theorem x_us3 : ∀ w ∈ u_ws RX3 TX3 2, w ∈ x_TG := by
  show ∀ w ∈ (List.range 2).map (u_lay RX3 TX3), w ∈ x_TG
  simp only [List.range, List.range.loop, List.map_cons, List.map_nil]
  exact List.forall_mem_cons.mpr ⟨x_tg 242 (by decide +kernel) (by decide +kernel), List.forall_mem_cons.mpr ⟨x_tg 244 (by decide +kernel) (by decide +kernel), fun _ h => absurd h List.not_mem_nil⟩⟩
theorem x_us4 : ∀ w ∈ u_ws RX4 TX4 3, w ∈ x_TG := by
  show ∀ w ∈ (List.range 3).map (u_lay RX4 TX4), w ∈ x_TG
  simp only [List.range, List.range.loop, List.map_cons, List.map_nil]
  exact List.forall_mem_cons.mpr ⟨x_tg 260 (by decide +kernel) (by decide +kernel), List.forall_mem_cons.mpr ⟨x_tg 262 (by decide +kernel) (by decide +kernel), List.forall_mem_cons.mpr ⟨x_tg 264 (by decide +kernel) (by decide +kernel), fun _ h => absurd h List.not_mem_nil⟩⟩⟩
theorem x_us5 : ∀ w ∈ u_ws RX5 TX5 2, w ∈ x_TG := by
  show ∀ w ∈ (List.range 2).map (u_lay RX5 TX5), w ∈ x_TG
  simp only [List.range, List.range.loop, List.map_cons, List.map_nil]
  exact List.forall_mem_cons.mpr ⟨x_tg 227 (by decide +kernel) (by decide +kernel), List.forall_mem_cons.mpr ⟨x_tg 229 (by decide +kernel) (by decide +kernel), fun _ h => absurd h List.not_mem_nil⟩⟩
theorem x_us6 : ∀ w ∈ u_ws RX6 TX6 4, w ∈ x_TG := by
  show ∀ w ∈ (List.range 4).map (u_lay RX6 TX6), w ∈ x_TG
  simp only [List.range, List.range.loop, List.map_cons, List.map_nil]
  exact List.forall_mem_cons.mpr ⟨x_tg 123 (by decide +kernel) (by decide +kernel), List.forall_mem_cons.mpr ⟨x_tg 125 (by decide +kernel) (by decide +kernel), List.forall_mem_cons.mpr ⟨x_tg 127 (by decide +kernel) (by decide +kernel), List.forall_mem_cons.mpr ⟨x_tg 129 (by decide +kernel) (by decide +kernel), fun _ h => absurd h List.not_mem_nil⟩⟩⟩⟩
theorem x_us7 : ∀ w ∈ u_ws RX7 TX7 7, w ∈ x_TG := by
  show ∀ w ∈ (List.range 7).map (u_lay RX7 TX7), w ∈ x_TG
  simp only [List.range, List.range.loop, List.map_cons, List.map_nil]
  exact List.forall_mem_cons.mpr ⟨x_tg 274 (by decide +kernel) (by decide +kernel), List.forall_mem_cons.mpr ⟨x_tg 276 (by decide +kernel) (by decide +kernel), List.forall_mem_cons.mpr ⟨x_tg 278 (by decide +kernel) (by decide +kernel), List.forall_mem_cons.mpr ⟨x_tg 280 (by decide +kernel) (by decide +kernel), List.forall_mem_cons.mpr ⟨x_tg 282 (by decide +kernel) (by decide +kernel), List.forall_mem_cons.mpr ⟨x_tg 284 (by decide +kernel) (by decide +kernel), List.forall_mem_cons.mpr ⟨x_tg 286 (by decide +kernel) (by decide +kernel), fun _ h => absurd h List.not_mem_nil⟩⟩⟩⟩⟩⟩⟩
theorem x_us8 : ∀ w ∈ u_ws RX8 TX8 14, w ∈ x_TG := by
  show ∀ w ∈ (List.range 14).map (u_lay RX8 TX8), w ∈ x_TG
  simp only [List.range, List.range.loop, List.map_cons, List.map_nil]
  exact List.forall_mem_cons.mpr ⟨x_tg 662 (by decide +kernel) (by decide +kernel), List.forall_mem_cons.mpr ⟨x_tg 664 (by decide +kernel) (by decide +kernel), List.forall_mem_cons.mpr ⟨x_tg 666 (by decide +kernel) (by decide +kernel), List.forall_mem_cons.mpr ⟨x_tg 668 (by decide +kernel) (by decide +kernel), List.forall_mem_cons.mpr ⟨x_tg 670 (by decide +kernel) (by decide +kernel), List.forall_mem_cons.mpr ⟨x_tg 672 (by decide +kernel) (by decide +kernel), List.forall_mem_cons.mpr ⟨x_tg 674 (by decide +kernel) (by decide +kernel), List.forall_mem_cons.mpr ⟨x_tg 676 (by decide +kernel) (by decide +kernel), List.forall_mem_cons.mpr ⟨x_tg 678 (by decide +kernel) (by decide +kernel), List.forall_mem_cons.mpr ⟨x_tg 680 (by decide +kernel) (by decide +kernel), List.forall_mem_cons.mpr ⟨x_tg 682 (by decide +kernel) (by decide +kernel), List.forall_mem_cons.mpr ⟨x_tg 684 (by decide +kernel) (by decide +kernel), List.forall_mem_cons.mpr ⟨x_tg 686 (by decide +kernel) (by decide +kernel), List.forall_mem_cons.mpr ⟨x_tg 688 (by decide +kernel) (by decide +kernel), fun _ h => absurd h List.not_mem_nil⟩⟩⟩⟩⟩⟩⟩⟩⟩⟩⟩⟩⟩⟩
def x_clOK (ci : Nat) : Prop := ∀ C T N, x_CLS[ci]? = some (C, T, N) → (∀ w ∈ u_ws C T N, w ∈ x_TG) ∧ (∀ k, k < N → parseFieldDescriptor (T k).2.2.1 = some (x_TY ci k)) ∧ (∀ a, a < N → ∀ b, b < N → a ≠ b → (T a).2.1 ≠ (T b).2.1)
theorem x_cl0 : x_clOK 0 := by
  intro C T N h
  cases h
  exact ⟨x_us0, tyX0_ok, nmX0⟩
theorem x_cl1 : x_clOK 1 := by
  intro C T N h
  cases h
  exact ⟨x_us1, tyX1_ok, nmX1⟩
theorem x_cl2 : x_clOK 2 := by
  intro C T N h
  cases h
  exact ⟨x_us2, tyX2_ok, nmX2⟩
theorem x_cl3 : x_clOK 3 := by
  intro C T N h
  cases h
  exact ⟨x_us3, tyX3_ok, nmX3⟩
theorem x_cl4 : x_clOK 4 := by
  intro C T N h
  cases h
  exact ⟨x_us4, tyX4_ok, nmX4⟩
theorem x_cl5 : x_clOK 5 := by
  intro C T N h
  cases h
  exact ⟨x_us5, tyX5_ok, nmX5⟩
theorem x_cl6 : x_clOK 6 := by
  intro C T N h
  cases h
  exact ⟨x_us6, tyX6_ok, nmX6⟩
theorem x_cl7 : x_clOK 7 := by
  intro C T N h
  cases h
  exact ⟨x_us7, tyX7_ok, nmX7⟩
theorem x_cl8 : x_clOK 8 := by
  intro C T N h
  cases h
  exact ⟨x_us8, tyX8_ok, nmX8⟩
theorem x_clA : ∀ ci, x_clOK ci
  | 0 => x_cl0
  | 1 => x_cl1
  | 2 => x_cl2
  | 3 => x_cl3
  | 4 => x_cl4
  | 5 => x_cl5
  | 6 => x_cl6
  | 7 => x_cl7
  | 8 => x_cl8
  | n + 9 => fun C T N h => by simp at h
end
section
/-- the class of which an array is made, and its number -/
def x_AOI : Nat := 2
/-- the law's own method, which alone reads the script -/
def x_LAW : Nat := 149
def x_AOC : String := "MeetingCarpets$House"
/-! A small machine over a heap of values: 'x_s' is one instruction, 'x_r' a run; part 05 shows that what it answers the Java machine does. -/
abbrev xM : Type := Nat → va_E
abbrev xH : Type := (Nat × Nat) × xM
abbrev xO : Type := Option ((Nat × List Value × List Value × xH) ⊕ (Option Value ⊕ (Nat × List Value × Nat × List Value × List Value)))
def unk : Value := .retAddr 0
def mu (m : xM) (a : Nat) (e : va_E) : xM := fun q => if q = a then e else m q
def k2 (v : Value) : Value := if v.category = 2 then unk else v
def xmod : List Value → Nat → List Value
  | [], _ => []
  | a :: t, 0 => k2 a :: t
  | a :: t, n + 1 => a :: xmod t n
def sto (L : List Value) (k : Nat) (v : Value) : List Value := (match k with | 0 => L | j + 1 => xmod L j).set k v
def lg (L : List Value) (k : Nat) : Value := L.getD k unk
def x_okl : Instr → Nat → Bool
  | .bipush _, n => n == 2
  | .iload _, n => n == 2
  | .istore _, n => n == 2
  | .lload _, n => n == 2
  | .aload _, n => n == 2
  | .astore _, n => n == 2
  | .newarray _, n => n == 2
  | .sipush _, n => n == 3
  | .ldc2_w _, n => n == 3
  | .iinc _ _, n => n == 3
  | .ifCond _ _, n => n == 3
  | .if_icmp _ _, n => n == 3
  | .goto _, n => n == 3
  | .ifnull _, n => n == 3
  | .ifnonnull _, n => n == 3
  | .getfield _, n => n == 3
  | .putfield _, n => n == 3
  | .invokevirtual _, n => n == 3
  | .invokestatic _, n => n == 3
  | .invokespecial _, n => n == 3
  | .new _, n => n == 3
  | .anewarray _, n => n == 3
  | .tableswitch _ _ _ _, _ => true
  | .lookupswitch _ _, _ => true
  | _, n => n == 1
def x_fe (y pc : Nat) : Option (Instr × Nat) := match decode (x_cd y) pc with
  | .ok (i, len) => if x_okl i len = true then some (i, len) else none
  | .error _ => none
def nx (pc : Nat) (L st : List Value) (h : xH) : xO := some (.inl (pc, L, st, h))
def jp (pc : Nat) (off : Int) (L st : List Value) (h : xH) : xO := if 0 ≤ (pc : Int) + off then nx ((pc : Int) + off).toNat L st h else none
def xLi (pc : Nat) (L : List Value) (k : Nat) (st : List Value) (h : xH) : xO := match lg L k with | .int x => nx pc L (.int x :: st) h | _ => none
def xLl (pc : Nat) (L : List Value) (k : Nat) (st : List Value) (h : xH) : xO := match lg L k with | .long x => nx pc L (.long x :: st) h | _ => none
def xLa (pc : Nat) (L : List Value) (k : Nat) (st : List Value) (h : xH) : xO := match lg L k with | .ref x => nx pc L (.ref x :: st) h | .null => nx pc L (.null :: st) h | _ => none
def xSi (pc : Nat) (L : List Value) (k : Nat) (st : List Value) (h : xH) : xO := match st with | .int x :: t => (if k < L.length then nx pc (sto L k (.int x)) t h else none) | _ => none
def xSa (pc : Nat) (L : List Value) (k : Nat) (st : List Value) (h : xH) : xO := match st with | .ref x :: t => (if k < L.length then nx pc (sto L k (.ref x)) t h else none) | .null :: t => (if k < L.length then nx pc (sto L k .null) t h else none) | _ => none
def xInc (pc : Nat) (L : List Value) (k : Nat) (n : Int) (st : List Value) (h : xH) : xO := match lg L k with | .int x => (if k < L.length then nx pc (sto L k (.int (x + Int32.ofInt n))) st h else none) | _ => none
def x2i (st : List Value) (f : Int32 → Int32 → List Value → xO) : xO := match st with | .int b :: .int a :: t => f a b t | _ => none
def x2l (st : List Value) (f : Int64 → Int64 → List Value → xO) : xO := match st with | .long b :: .long a :: t => f a b t | _ => none
def xli (st : List Value) (f : Int64 → Int32 → List Value → xO) : xO := match st with | .int b :: .long a :: t => f a b t | _ => none
def xc : Jvm.ClassFile.Cond → Int32 → Int32 → Bool
  | .eq, x, y => decide (x = y)
  | .ne, x, y => decide (¬ x = y)
  | .lt, x, y => decide (x < y)
  | .ge, x, y => decide (y ≤ x)
  | .gt, x, y => decide (y < x)
  | .le, x, y => decide (x ≤ y)
def xIf (pc : Nat) (b : Bool) (off : Int) (L st : List Value) (h : xH) : xO := if 0 ≤ (pc : Int) + off then nx (match b with | true => ((pc : Int) + off).toNat | false => pc + 3) L st h else none
def x_fits : FieldType → Value → Bool
  | .int, .int _ => true
  | .boolean, .int v => v == 0 || v == 1
  | .object _, .ref _ => true
  | .object _, .null => true
  | .array _, .ref _ => true
  | .array _, .null => true
  | _, _ => false
def isF (e : va_E) (ci k : Nat) : Bool := match e with | .inr (cj, fs) => decide (cj = ci) && decide (k < fs.length) | _ => false
def fld (e : va_E) (k : Nat) : Value := match e with | .inr (_, fs) => fs.getD k .null | _ => .null
def fset (e : va_E) (k : Nat) (v : Value) : va_E := match e with | .inr (cj, fs) => .inr (cj, fs.set k v) | e => e
def isK (e : va_E) (ci : Nat) : Bool := match e with | .inr (cj, _) => decide (cj = ci) | _ => false
/-- an int may be read there -/
def inA (y : Nat) (e : va_E) (i : Int32) : Bool := match e with | .inl (t, n, .inl _) => (decide (t = 0) || (decide (t = 3) && decide (y = x_LAW))) && (decide (¬ i < 0) && decide (i.toNatClampNeg < n)) | _ => false
/-- an int may be written there -/
def inW (e : va_E) (i : Int32) : Bool := match e with | .inl (t, n, .inl _) => decide (t = 0) && (decide (¬ i < 0) && decide (i.toNatClampNeg < n)) | _ => false
def inZ (e : va_E) (i : Int32) : Bool := match e with | .inl (t, n, .inl _) => decide (t = 1) && (decide (¬ i < 0) && decide (i.toNatClampNeg < n)) | _ => false
def inQ (e : va_E) (i : Int32) : Bool := match e with | .inl (t, n, .inr (.inr (.inr (.inr _)))) => decide (t = 2) && (decide (¬ i < 0) && decide (i.toNatClampNeg < n)) | _ => false
def aget (e : va_E) (i : Int32) : Int32 := match e with | .inl (_, _, .inl f) => f i.toNatClampNeg | _ => 0
def aset (e : va_E) (i x : Int32) : va_E := match e with | .inl (t, n, .inl f) => .inl (t, n, .inl (upd f i.toNatClampNeg x)) | e => e
def qget (e : va_E) (i : Int32) : Value := match e with | .inl (_, _, .inr (.inr (.inr (.inr f)))) => va_rf (f i.toNatClampNeg) | _ => .null
def qset (e : va_E) (i : Int32) (v : Nat) : va_E := match e with | .inl (t, n, .inr (.inr (.inr (.inr f)))) => .inl (t, n, .inr (.inr (.inr (.inr (va_up f i.toNatClampNeg (some v)))))) | e => e
def isA (y : Nat) (e : va_E) : Bool := match e with | .inl (t, _, .inl _) => decide (t < 3) || (decide (t = 3) && decide (y = x_LAW)) | .inl (t, _) => decide (t < 3) | _ => false
def alen (e : va_E) : Nat := match e with | .inl (_, n, _) => n | _ => 0
def xGet (y ix pc : Nat) (L st : List Value) (h : xH) : xO := match st with
  | .ref a :: t => (match x_gf (x_kl y) ix with
    | some (ci, k) => (match isF (h.2 a) ci k with | true => nx (pc + 3) L (fld (h.2 a) k :: t) h | false => none)
    | none => none)
  | _ => none
def xPut (y ix pc : Nat) (L st : List Value) (h : xH) : xO := match st with
  | v :: .ref a :: t => (match x_pf (x_kl y) ix with
    | some (ci, k, fin) => (match isF (h.2 a) ci k && (x_fits (x_TY ci k) v && (!fin || (x_in y && decide (ci = x_kl y)))) with | true => nx (pc + 3) L t (h.1, mu h.2 a (fset (h.2 a) k v)) | false => none)
    | none => none)
  | _ => none
def xIald (y pc : Nat) (L st : List Value) (h : xH) : xO := match st with
  | .int i :: .ref a :: t => (match inA y (h.2 a) i with | true => nx (pc + 1) L (.int (aget (h.2 a) i) :: t) h | false => none)
  | _ => none
def xIast (pc : Nat) (L st : List Value) (h : xH) : xO := match st with
  | .int x :: .int i :: .ref a :: t => (match inW (h.2 a) i with | true => nx (pc + 1) L t (h.1, mu h.2 a (aset (h.2 a) i x)) | false => none)
  | _ => none
def xZald (pc : Nat) (L st : List Value) (h : xH) : xO := match st with
  | .int i :: .ref a :: t => (match inZ (h.2 a) i with | true => nx (pc + 1) L (.int (aget (h.2 a) i) :: t) h | false => none)
  | _ => none
def xZast (pc : Nat) (L st : List Value) (h : xH) : xO := match st with
  | .int x :: .int i :: .ref a :: t => (match inZ (h.2 a) i with | true => nx (pc + 1) L t (h.1, mu h.2 a (aset (h.2 a) i (vp_nar .boolean x))) | false => none)
  | _ => none
def xAald (pc : Nat) (L st : List Value) (h : xH) : xO := match st with
  | .int i :: .ref a :: t => (match inQ (h.2 a) i with | true => nx (pc + 1) L (qget (h.2 a) i :: t) h | false => none)
  | _ => none
def xAast (pc : Nat) (L st : List Value) (h : xH) : xO := match st with
  | .ref v :: .int i :: .ref a :: t => (match inQ (h.2 a) i && isK (h.2 v) x_AOI with | true => nx (pc + 1) L t (h.1, mu h.2 a (qset (h.2 a) i v)) | false => none)
  | _ => none
def xAlen (y pc : Nat) (L st : List Value) (h : xH) : xO := match st with
  | .ref a :: t => (match isA y (h.2 a) with | true => nx (pc + 1) L (.int (Int32.ofNat (alen (h.2 a))) :: t) h | false => none)
  | _ => none
def xNew (y ix pc : Nat) (L st : List Value) (h : xH) : xO := match x_nw (x_kl y) ix with
  | some ci => nx (pc + 3) L (.ref h.1.1 :: st) ((h.1.1 + 1, h.1.2 + (x_dfl ci).length), mu h.2 h.1.1 (.inr (ci, x_dfl ci)))
  | none => none
def xNarr (pc tg : Nat) (L st : List Value) (h : xH) : xO := match st with
  | .int n :: t => (if ¬ n < 0 ∧ n.toNatClampNeg * 4 ≤ 536870912 then nx (pc + 2) L (.ref h.1.1 :: t) ((h.1.1 + 1, h.1.2 + n.toNatClampNeg), mu h.2 h.1.1 (.inl (tg, n.toNatClampNeg, .inl (fun _ => 0)))) else none)
  | _ => none
def xAnew (y ix pc : Nat) (L st : List Value) (h : xH) : xO := match st with
  | .int n :: t => (match x_nw (x_kl y) ix with
    | some ci => (if ci = x_AOI ∧ ¬ n < 0 ∧ n.toNatClampNeg * 4 ≤ 536870912 then nx (pc + 3) L (.ref h.1.1 :: t) ((h.1.1 + 1, h.1.2 + n.toNatClampNeg), mu h.2 h.1.1 (.inl (2, n.toNatClampNeg, .inr (.inr (.inr (.inr (fun _ => none))))))) else none)
    | none => none)
  | _ => none
def xsp : List Value → List Value
  | [] => []
  | v :: vs => if v.category = 2 then v :: unk :: xsp vs else v :: xsp vs
def xInv (y pc : Nat) (L : List Value) (z : Nat) (as t : List Value) : xO := if x_fr z + 1 ≤ x_fr y ∧ 8 + (x_ml z + 11) + x_lo z ≤ x_lo y ∧ t.length ≤ 4 ∧ (xsp as).length ≤ x_ml z ∧ z ≠ x_LAW then some (.inr (.inr (z, as, pc + 3, L, t))) else none
def xIv (y ix pc : Nat) (L st : List Value) (h : xH) : xO := match x_iv (x_kl y) ix with
  | some (0, z, n) => (match st.drop n with
    | .ref b :: t => (match isK (h.2 b) (x_kl z) with | true => (if (st.take n).length = n then xInv y pc L z (.ref b :: (st.take n).reverse) t else none) | false => none)
    | _ => none)
  | _ => none
def mx (b : Bool) (v w : Int32) : Int32 := match b with | true => if v < w then w else v | false => if w < v then w else v
def xIs (y ix pc : Nat) (L st : List Value) (h : xH) : xO := match x_mm (x_kl y) ix with
  | some b => (match st with
    | .int w :: .int v :: t => (if 1 ≤ x_fr y ∧ 21 ≤ x_lo y ∧ t.length ≤ 4 then nx (pc + 3) L (.int (mx b v w) :: t) h else none)
    | _ => none)
  | none => (match x_iv (x_kl y) ix with
    | some (1, z, n) => (if (st.take n).length = n then xInv y pc L z (st.take n).reverse (st.drop n) else none)
    | _ => none)
def xIp (y ix pc : Nat) (L st : List Value) (h : xH) : xO := match x_oi (x_kl y) ix with
  | true => (match st with
    | .ref _ :: t => (if 1 ≤ x_fr y ∧ 20 ≤ x_lo y ∧ t.length ≤ 4 then nx (pc + 3) L t h else none)
    | _ => none)
  | false => (match x_iv (x_kl y) ix with
    | some (2, z, n) => (match st.drop n with
      | .ref b :: t => (if (st.take n).length = n then xInv y pc L z (.ref b :: (st.take n).reverse) t else none)
      | _ => none)
    | _ => none)
def xTab (pc : Nat) (dflt lo hi : Int) (offs : Array Int) (L st : List Value) (h : xH) : xO := match st with
  | .int x :: t => (if x.toInt < lo ∨ hi < x.toInt then jp pc dflt L t h else match offs[(x.toInt - lo).toNat]? with | some off => jp pc off L t h | none => none)
  | _ => none
def xLook (pc : Nat) (dflt : Int) (ps : Array (Int × Int)) (L st : List Value) (h : xH) : xO := match st with
  | .int x :: t => (if (ps.toList.zip (ps.toList.drop 1)).all (fun (a, next) => a.1 < next.1) = true then jp pc (Op.lookupswitch.offset ps.toList dflt x.toInt) L t h else none)
  | _ => none
def xRet (y : Nat) (st : List Value) : xO := match st with
  | [.int x] => (match x_rt y with
    | some ty => (match x_fits ty (.int x) with | true => some (.inr (.inl (some (.int x)))) | false => none)
    | none => none)
  | _ => none
def xRea (y : Nat) (st : List Value) : xO := match st with
  | [.ref a] => (match x_rt y with | some (.object _) => some (.inr (.inl (some (.ref a)))) | _ => none)
  | [.null] => (match x_rt y with | some (.object _) => some (.inr (.inl (some .null))) | _ => none)
  | _ => none
def xRev (y : Nat) (st : List Value) : xO := match st with
  | [] => (match x_rt y with | none => some (.inr (.inl none)) | _ => none)
  | _ => none
def x_s (y : Nat) (i : Instr) (pc : Nat) (L st : List Value) (h : xH) : xO :=
  match i with
  | .iconst n => nx (pc + 1) L (.int (Int32.ofInt n) :: st) h
  | .bipush n => nx (pc + 2) L (.int (Int8.ofInt n).toInt32 :: st) h
  | .sipush n => nx (pc + 3) L (.int (Int16.ofInt n).toInt32 :: st) h
  | .lconst n => nx (pc + 1) L (.long (Int64.ofNat (n : Nat)) :: st) h
  | .ldc2_w ix => (match x_lc (x_kl y) ix with | some v => nx (pc + 3) L (.long v :: st) h | none => none)
  | .aconst_null => nx (pc + 1) L (.null :: st) h
  | .iload_n k => xLi (pc + 1) L k st h
  | .iload k => xLi (pc + 2) L k st h
  | .lload_n k => xLl (pc + 1) L k st h
  | .lload k => xLl (pc + 2) L k st h
  | .aload_n k => xLa (pc + 1) L k st h
  | .aload k => xLa (pc + 2) L k st h
  | .istore_n k => xSi (pc + 1) L k st h
  | .istore k => xSi (pc + 2) L k st h
  | .astore_n k => xSa (pc + 1) L k st h
  | .astore k => xSa (pc + 2) L k st h
  | .iinc k n => xInc (pc + 3) L k n st h
  | .iadd => x2i st fun a b t => nx (pc + 1) L (.int (a + b) :: t) h
  | .isub => x2i st fun a b t => nx (pc + 1) L (.int (a - b) :: t) h
  | .imul => x2i st fun a b t => nx (pc + 1) L (.int (a * b) :: t) h
  | .iand => x2i st fun a b t => nx (pc + 1) L (.int (a &&& b) :: t) h
  | .idiv => x2i st fun a b t => if b = 0 then none else nx (pc + 1) L (.int (a / b) :: t) h
  | .irem => x2i st fun a b t => if b = 0 then none else nx (pc + 1) L (.int (a - a / b * b) :: t) h
  | .land => x2l st fun a b t => nx (pc + 1) L (.long (a &&& b) :: t) h
  | .lor => x2l st fun a b t => nx (pc + 1) L (.long (a ||| b) :: t) h
  | .lcmp => x2l st fun a b t => nx (pc + 1) L (.int (lg_cmp a b) :: t) h
  | .lshl => xli st fun a b t => nx (pc + 1) L (.long (a <<< (b.toInt64 &&& 63)) :: t) h
  | .lushr => xli st fun a b t => nx (pc + 1) L (.long (a.toUInt64 >>> (b.toInt64.toUInt64 &&& Int64.toUInt64 63)).toInt64 :: t) h
  | .i2l => (match st with | .int a :: t => nx (pc + 1) L (.long a.toInt64 :: t) h | _ => none)
  | .l2i => (match st with | .long a :: t => nx (pc + 1) L (.int a.toInt32 :: t) h | _ => none)
  | .dup => (match st with | v :: t => (if v.category = 1 then nx (pc + 1) L (v :: v :: t) h else none) | _ => none)
  | .dup2 => (match st with | v :: w :: t => (if v.category = 1 ∧ w.category = 1 then nx (pc + 1) L (v :: w :: v :: w :: t) h else none) | _ => none)
  | .ifCond c off => (match st with | .int x :: t => xIf pc (xc c x 0) off L t h | _ => none)
  | .if_icmp c off => x2i st fun a b t => xIf pc (xc c a b) off L t h
  | .goto off => jp pc off L st h
  | .ifnull off => (match st with | .ref _ :: t => nx (pc + 3) L t h | .null :: t => jp pc off L t h | _ => none)
  | .ifnonnull off => (match st with | .ref _ :: t => jp pc off L t h | .null :: t => nx (pc + 3) L t h | _ => none)
  | .tableswitch dflt lo hi offs => xTab pc dflt lo hi offs L st h
  | .lookupswitch dflt ps => xLook pc dflt ps L st h
  | .getfield ix => xGet y ix pc L st h
  | .putfield ix => xPut y ix pc L st h
  | .iaload => xIald y pc L st h
  | .iastore => xIast pc L st h
  | .baload => xZald pc L st h
  | .bastore => xZast pc L st h
  | .aaload => xAald pc L st h
  | .aastore => xAast pc L st h
  | .arraylength => xAlen y pc L st h
  | .new ix => xNew y ix pc L st h
  | .newarray .int => xNarr pc 0 L st h
  | .newarray .boolean => xNarr pc 1 L st h
  | .anewarray ix => xAnew y ix pc L st h
  | .invokevirtual ix => xIv y ix pc L st h
  | .invokestatic ix => xIs y ix pc L st h
  | .invokespecial ix => xIp y ix pc L st h
  | .ireturn => xRet y st
  | .areturn => xRea y st
  | .return_ => xRev y st
  | _ => none
def xen (as : List Value) (n : Nat) : List Value := xsp as ++ List.replicate (n - (xsp as).length) unk
def x_r : Nat → Nat → Nat → List Value → List Value → xH → Option (Option Value × xH)
  | 0, _, _, _, _, _ => none
  | n + 1, y, pc, L, st, h => match x_fe y pc with
    | none => none
    | some (i, _) => match x_s y i pc L st h with
      | none => none
      | some (.inl (pc', L', st', h')) => x_r n y pc' L' st' h'
      | some (.inr (.inl v)) => some (v, h)
      | some (.inr (.inr (z, as, pc', L', t))) => match x_r n z 0 (xen as (x_ml z)) [] h with
        | none => none
        | some (v, h') => x_r n y pc' L' (v.toList ++ t) h'
theorem x_r_nx {n y pc pc' len : Nat} {L st L' st' : List Value} {h h' : xH} {i : Instr} (hf : x_fe y pc = some (i, len)) (hs : x_s y i pc L st h = some (.inl (pc', L', st', h'))) : x_r (n + 1) y pc L st h = x_r n y pc' L' st' h' := by
  simp only [x_r, hf, hs]
theorem x_r_rt {n y pc len : Nat} {L st : List Value} {h : xH} {i : Instr} {v : Option Value} (hf : x_fe y pc = some (i, len)) (hs : x_s y i pc L st h = some (.inr (.inl v))) : x_r (n + 1) y pc L st h = some (v, h) := by
  simp only [x_r, hf, hs]
theorem x_r_cl {n y pc pc' z len : Nat} {L st L' as t : List Value} {h : xH} {i : Instr} (hf : x_fe y pc = some (i, len)) (hs : x_s y i pc L st h = some (.inr (.inr (z, as, pc', L', t)))) : x_r (n + 1) y pc L st h = match x_r n z 0 (xen as (x_ml z)) [] h with | none => none | some (v, h') => x_r n y pc' L' (v.toList ++ t) h' := by
  simp only [x_r, hf, hs]
/-- what a run's step can be -/
theorem x_r_some {n y pc : Nat} {L st : List Value} {h : xH} {r : Option Value × xH} (hr : x_r n y pc L st h = some r) : ∃ k i len, n = k + 1 ∧ x_fe y pc = some (i, len) ∧
    ((∃ pc' L' st' h', x_s y i pc L st h = some (.inl (pc', L', st', h')) ∧ x_r k y pc' L' st' h' = some r) ∨ (x_s y i pc L st h = some (.inr (.inl r.1)) ∧ r.2 = h) ∨
      ∃ z as pc' L' t v h', x_s y i pc L st h = some (.inr (.inr (z, as, pc', L', t))) ∧ x_r k z 0 (xen as (x_ml z)) [] h = some (v, h') ∧ x_r k y pc' L' (v.toList ++ t) h' = some r) := by
  cases n with
  | zero => cases hr
  | succ k =>
    cases hf : x_fe y pc with
    | none => simp [x_r, hf] at hr
    | some il =>
      obtain ⟨i, len⟩ := il
      refine ⟨k, i, len, rfl, rfl, ?_⟩
      cases hs : x_s y i pc L st h with
      | none => simp [x_r, hf, hs] at hr
      | some o =>
        rcases o with ⟨pc', L', st', h'⟩ | v | ⟨z, as, pc', L', t⟩
        · rw [x_r_nx hf hs] at hr
          exact Or.inl ⟨_, _, _, _, rfl, hr⟩
        · rw [x_r_rt hf hs] at hr
          cases hr
          exact Or.inr (Or.inl ⟨rfl, rfl⟩)
        · rw [x_r_cl hf hs] at hr
          cases hc : x_r k z 0 (xen as (x_ml z)) [] h with
          | none => rw [hc] at hr; cases hr
          | some vh =>
            obtain ⟨v, h'⟩ := vh
            rw [hc] at hr
            exact Or.inr (Or.inr ⟨_, _, _, _, _, _, _, rfl, hc, hr⟩)
theorem x_r_mono1 : ∀ (n y pc : Nat) (L st : List Value) (h : xH) (r : Option Value × xH), x_r n y pc L st h = some r → x_r (n + 1) y pc L st h = some r := by
  intro n
  induction n with
  | zero => intro y pc L st h r hr; cases hr
  | succ n ih =>
    intro y pc L st h r hr
    obtain ⟨k, i, len, e, hf, hc⟩ := x_r_some hr
    cases e
    rcases hc with ⟨pc', L', st', h', hs, hk⟩ | ⟨hs, hh⟩ | ⟨z, as, pc', L', t, v, h', hs, hz, hk⟩
    · rw [x_r_nx hf hs]
      exact ih _ _ _ _ _ _ hk
    · rw [x_r_rt hf hs, ← hh]
    · rw [x_r_cl hf hs, ih _ _ _ _ _ _ hz]
      exact ih _ _ _ _ _ _ hk
theorem x_r_mono {n m y pc : Nat} {L st : List Value} {h : xH} {r : Option Value × xH} (hr : x_r n y pc L st h = some r) (hm : n ≤ m) : x_r m y pc L st h = some r := by
  obtain ⟨k, rfl⟩ := Nat.exists_eq_add_of_le hm
  clear hm
  induction k with
  | zero => exact hr
  | succ k ih => exact x_r_mono1 _ _ _ _ _ _ _ ih
theorem x_r_det {n m y pc : Nat} {L st : List Value} {h : xH} {r r' : Option Value × xH} (h1 : x_r n y pc L st h = some r) (h2 : x_r m y pc L st h = some r') : r = r' := by
  have a := x_r_mono h1 (Nat.le_max_left n m)
  have b := x_r_mono h2 (Nat.le_max_right n m)
  exact Option.some.inj (a.symm.trans b)
/-- a run, however long -/
noncomputable def rn (y pc : Nat) (L st : List Value) (h : xH) : Option (Option Value × xH) :=
  @dite _ (∃ r n, x_r n y pc L st h = some r) (Classical.propDecidable _) (fun hx => some (Classical.choose hx)) (fun _ => none)
theorem rn_of {n y pc : Nat} {L st : List Value} {h : xH} {r : Option Value × xH} (hr : x_r n y pc L st h = some r) : rn y pc L st h = some r := by
  have hx : ∃ r n, x_r n y pc L st h = some r := ⟨r, n, hr⟩
  unfold rn
  rw [dif_pos hx]
  obtain ⟨n', h'⟩ := Classical.choose_spec hx
  rw [x_r_det h' hr]
theorem rn_ex {y pc : Nat} {L st : List Value} {h : xH} {r : Option Value × xH} (hr : rn y pc L st h = some r) : ∃ n, x_r n y pc L st h = some r := by
  unfold rn at hr
  split at hr
  next hx =>
    obtain ⟨n', h'⟩ := Classical.choose_spec hx
    cases hr
    exact ⟨n', h'⟩
  next => cases hr
theorem rn_iff {y pc : Nat} {L st : List Value} {h : xH} {r : Option Value × xH} : rn y pc L st h = some r ↔ ∃ n, x_r n y pc L st h = some r := ⟨rn_ex, fun ⟨_, hr⟩ => rn_of hr⟩
theorem rn_nx {y pc pc' len : Nat} {L st L' st' : List Value} {h h' : xH} {i : Instr} (hf : x_fe y pc = some (i, len)) (hs : x_s y i pc L st h = some (.inl (pc', L', st', h'))) : rn y pc L st h = rn y pc' L' st' h' := by
  apply Option.ext
  intro r
  rw [rn_iff, rn_iff]
  constructor
  · rintro ⟨n, hr⟩
    cases n with
    | zero => cases hr
    | succ n => exact ⟨n, by rw [← x_r_nx hf hs]; exact hr⟩
  · rintro ⟨n, hr⟩
    exact ⟨n + 1, by rw [x_r_nx hf hs]; exact hr⟩
theorem rn_rt {y pc len : Nat} {L st : List Value} {h : xH} {i : Instr} {v : Option Value} (hf : x_fe y pc = some (i, len)) (hs : x_s y i pc L st h = some (.inr (.inl v))) : rn y pc L st h = some (v, h) :=
  rn_of (n := 1) (x_r_rt hf hs)
/-- a call -/
noncomputable def cl (z : Nat) (as : List Value) (h : xH) : Option (Option Value × xH) := rn z 0 (xen as (x_ml z)) [] h
def rv (o : Option (Option Value × xH)) : List Value := match o with | some (v, _) => v.toList | none => []
def rh (o : Option (Option Value × xH)) : xH := match o with | some (_, h) => h | none => ((0, 0), fun _ => .inr (99, []))
theorem rn_cl {y pc pc' z len : Nat} {L st L' as t : List Value} {h : xH} {i : Instr} (hf : x_fe y pc = some (i, len)) (hs : x_s y i pc L st h = some (.inr (.inr (z, as, pc', L', t)))) (hc : (cl z as h).isSome = true) : rn y pc L st h = rn y pc' L' (rv (cl z as h) ++ t) (rh (cl z as h)) := by
  obtain ⟨⟨v, h'⟩, hv⟩ := Option.isSome_iff_exists.mp hc
  rw [hv]
  show _ = rn y pc' L' (v.toList ++ t) h'
  obtain ⟨n1, hn1⟩ := rn_ex hv
  apply Option.ext
  intro r
  rw [rn_iff, rn_iff]
  constructor
  · rintro ⟨n, hr⟩
    obtain ⟨k, i', len', e, hf', hc'⟩ := x_r_some hr
    rw [hf] at hf'
    cases hf'
    rcases hc' with ⟨_, _, _, _, hs', -⟩ | ⟨hs', -⟩ | ⟨z', as', pc'', L'', t', v', h'', hs', hz, hk⟩
    · rw [hs] at hs'; cases hs'
    · rw [hs] at hs'; cases hs'
    · rw [hs] at hs'
      cases hs'
      have := x_r_det hz hn1
      cases this
      exact ⟨k, hk⟩
  · rintro ⟨n, hr⟩
    refine ⟨max n n1 + 1, ?_⟩
    rw [x_r_cl hf hs, x_r_mono hn1 (Nat.le_max_right n n1)]
    exact x_r_mono hr (Nat.le_max_left n n1)
end
section
/-! what the small machine answers, the Java machine does -/
def x_tys (T3 : Nat → ClassId) : List (ClassId × FieldType) := [(T3 0, .int), (T3 1, .boolean), (T3 2, .object x_AOC)]
def x_cell (T3 : Nat → ClassId) : va_E → va_E
  | .inl (t, a) => .inl (T3 t, a)
  | .inr o => .inr o
def x_trk : va_E → Bool
  | .inl (t, _) => decide (t < 3)
  | .inr (ci, _) => decide (ci < x_CLS.length)
def x_wr : va_E → Bool
  | .inl (t, _) => decide (t < 3)
  | .inr (ci, _) => decide (ci < x_CLS.length)
def RelH (D : va_G) (T3 : Nat → ClassId) (SX : Nat → Nat → (Nat → Int32) → Prop) (A : Nat → Prop) (h : xH) (H : Heap) : Prop := H.size = h.1.1 ∧ (∀ q, x_trk (h.2 q) = true → va_at D x_CLS (q, x_cell T3 (h.2 q)) H) ∧ (∀ q, x_wr (h.2 q) = true → A q) ∧ ∀ q n f, h.2 q = .inl (3, n, .inl f) → SX q n f
def KK (D : va_G) (T3 : Nat → ClassId) (U : State) : Prop := va_K D x_CLS (x_tys T3) U ∧ (∀ w ∈ x_NW, va_Nw w U) ∧ va_AO x_AOC U
def CX (SX : Nat → Nat → (Nat → Int32) → Prop) (A : Nat → Prop) (H0 : Heap) (D : va_G) (T3 : Nat → ClassId) (p : Program) (R : Room) (s : State) (m : MethodId) (args : Array Value) (meth : Method) (c : Code) (y : Nat) : Prop :=
  p.tables.exec = Jvm.exec ∧ c.code = x_cd y ∧ c.maxLocals = x_ml y ∧ s.vm.findClass (x_RC (x_kl y)) = some m.cls ∧ (∀ w ∈ x_TG, w.before args s = true) ∧ KK D T3 s ∧ x_fr y ≤ R.frames ∧ x_lo y ≤ R.locals ∧ (x_in y = true → meth.name = "<init>") ∧ (y = x_LAW → ∀ q n f, SX q n f → va_X q n f s H0 ∧ q < H0.size ∧ ¬ A q)
def LH (ls : Array Slot) (L : List Value) : Prop := lv_wf ls ∧ L.length = ls.size ∧ ∀ (i : Nat) (v : Value), L[i]? = some v → v ≠ unk → ls[i]? = some (.val v)
def ST (D : va_G) (T3 : Nat → ClassId) (SX : Nat → Nat → (Nat → Int32) → Prop) (A : Nat → Prop) (H0 : Heap) (z0 : Nat × Nat) (s0 y : Nat) (ls : Array Slot) (L : List Value) (h : xH) (H : Heap) (locs : List Loc) (cells slots : Nat) : Prop :=
  ls.size = x_ml y ∧ LH ls L ∧ RelH D T3 SX A h H ∧ va_S A H0 H locs ∧ h.1.1 = z0.1 + cells ∧ h.1.2 = z0.2 + slots ∧ ∀ q, s0 ≤ q → A q
def WS (p : Program) (l : Launch) (e : Env) (R : Room) (s : State) (m : MethodId) (args : Array Value) (below : List Frame) (meth : Method) (c : Code) (Q : State → Prop) (D : va_G) (T3 : Nat → ClassId) (SX : Nat → Nat → (Nat → Int32) → Prop) (A : Nat → Prop) (H0 : Heap) (z0 : Nat × Nat) (y pc : Nat) (L st : List Value) (h : xH) : Prop :=
  ∀ (ls : Array Slot) (H : Heap) (locs : List Loc) (cells slots : Nat), ST D T3 SX A H0 z0 H0.size y ls L h H locs cells slots → W p l e R s m args below meth c H locs cells slots Q (F0 m pc ls st)
theorem x_fe_of {y pc len : Nat} {i : Instr} (h : x_fe y pc = some (i, len)) : decode (x_cd y) pc = .ok (i, len) ∧ x_okl i len = true := by
  unfold x_fe at h
  split at h
  next i' len' hd =>
    split at h
    next ho => cases h; exact ⟨hd, ho⟩
    next => cases h
  next => cases h
-- memory
theorem mu_s (m : xM) (a : Nat) (e : va_E) : mu m a e a = e := by simp [mu]
theorem mu_n (m : xM) {a q : Nat} (e : va_E) (h : q ≠ a) : mu m a e q = m q := by simp [mu, h]
theorem RelH.put {D : va_G} {T3 : Nat → ClassId} {SX : Nat → Nat → (Nat → Int32) → Prop} {A : Nat → Prop} {h : xH} {H H' : Heap} {a : Nat} {x : va_E} (hR : RelH D T3 SX A h H) (h3 : ∀ n f, x ≠ .inl (3, n, .inl f)) (ha : A a) (hz : H'.size = H.size) (he : va_at D x_CLS (a, x_cell T3 x) H') (ho : ∀ q : Nat, q ≠ a → H'[q]? = H[q]?) : RelH D T3 SX A (h.1, mu h.2 a x) H' := by
  refine ⟨hz.trans hR.1, fun q hq => ?_, fun q hq => ?_, fun q n f hq => ?_⟩
  · by_cases hqa : q = a
    · subst hqa
      show va_at D x_CLS (q, x_cell T3 (mu h.2 q x q)) H'
      rw [mu_s]
      exact he
    · have e1 : mu h.2 a x q = h.2 q := mu_n _ _ hqa
      show va_at D x_CLS (q, x_cell T3 (mu h.2 a x q)) H'
      have hq' : x_trk (mu h.2 a x q) = true := hq
      rw [e1] at hq' ⊢
      exact (hR.2.1 q hq').kept (ho q hqa)
  · by_cases hqa : q = a
    · rw [hqa]; exact ha
    · have hq' : x_wr (mu h.2 a x q) = true := hq
      rw [mu_n _ _ hqa] at hq'
      exact hR.2.2.1 q hq'
  · have hq' : mu h.2 a x q = .inl (3, n, .inl f) := hq
    by_cases hqa : q = a
    · subst hqa
      rw [mu_s] at hq'
      exact absurd hq' (h3 n f)
    · rw [mu_n _ _ hqa] at hq'
      exact hR.2.2.2 q n f hq'
theorem RelH.new {D : va_G} {T3 : Nat → ClassId} {SX : Nat → Nat → (Nat → Int32) → Prop} {A : Nat → Prop} {h : xH} {H H' : Heap} {x : va_E} {w : Nat} (hR : RelH D T3 SX A h H) (h3 : ∀ n f, x ≠ .inl (3, n, .inl f)) (ha : A H.size) (hz : H'.size = H.size + 1) (he : va_at D x_CLS (H.size, x_cell T3 x) H') (ho : ∀ q : Nat, q < H.size → H'[q]? = H[q]?) : RelH D T3 SX A ((h.1.1 + 1, w), mu h.2 h.1.1 x) H' := by
  have hs := hR.1
  refine ⟨by rw [hz, hs], fun q hq => ?_, fun q hq => ?_, fun q n f hq => ?_⟩
  · by_cases hqa : q = h.1.1
    · subst hqa
      show va_at D x_CLS (h.1.1, x_cell T3 (mu h.2 h.1.1 x h.1.1)) H'
      rw [mu_s, ← hs]
      exact he
    · have e1 : mu h.2 h.1.1 x q = h.2 q := mu_n _ _ hqa
      show va_at D x_CLS (q, x_cell T3 (mu h.2 h.1.1 x q)) H'
      have hq' : x_trk (mu h.2 h.1.1 x q) = true := hq
      rw [e1] at hq' ⊢
      exact (hR.2.1 q hq').kept (ho q (hR.2.1 q hq').lt)
  · by_cases hqa : q = h.1.1
    · rw [hqa, ← hs]; exact ha
    · have hq' : x_wr (mu h.2 h.1.1 x q) = true := hq
      rw [mu_n _ _ hqa] at hq'
      exact hR.2.2.1 q hq'
  · have hq' : mu h.2 h.1.1 x q = .inl (3, n, .inl f) := hq
    by_cases hqa : q = h.1.1
    · subst hqa
      rw [mu_s] at hq'
      exact absurd hq' (h3 n f)
    · rw [mu_n _ _ hqa] at hq'
      exact hR.2.2.2 q n f hq'
theorem va_one {D : va_G} {q : Nat × va_E} {H : Heap} (h : va_at D x_CLS q H) : va_P D x_CLS [q] H := by
  intro k x hk
  cases k with
  | zero => cases hk; exact h
  | succ k => simp at hk
theorem va_S.new {A : Nat → Prop} {H0 H H1 : Heap} {locs : List Loc} (h : va_S A H0 H locs) (z : H1.size = H.size + 1) (o1 : ∀ q : Nat, q < H.size → H1[q]? = H[q]?) : va_S A H0 H1 locs :=
  ⟨Nat.le_trans h.1 (by omega), fun x h1 h2 => (o1 x (Nat.lt_of_lt_of_le h1 h.1)).trans (h.2.1 x h1 h2), h.2.2⟩
theorem x_clsN {ci : Nat} {r : vw_C} (h : x_CLS[ci]? = some r) : ci < x_CLS.length := (List.getElem?_eq_some_iff.mp h).1
-- locals
theorem LH.get {ls : Array Slot} {L : List Value} (h : LH ls L) {k : Nat} {v : Value} (hk : lg L k = v) (hv : v ≠ unk) : ls[k]? = some (.val v) := by
  refine h.2.2 k v ?_ hv
  unfold lg at hk
  rw [List.getD_eq_getElem?_getD] at hk
  cases hL : L[k]? with
  | none => rw [hL] at hk; exact absurd hk.symm hv
  | some w => rw [hL] at hk; exact congrArg some hk
def lvl (L : List Value) : List (Nat × Value) := ((List.range L.length).map (fun i => (i, lg L i))).filter (fun q => decide (q.2 ≠ unk))
theorem lvl_mem {L : List Value} {q : Nat × Value} : q ∈ lvl L ↔ L[q.1]? = some q.2 ∧ q.2 ≠ unk := by
  obtain ⟨i, v⟩ := q
  unfold lvl
  simp only [List.mem_filter, List.mem_map, List.mem_range, decide_eq_true_eq, Prod.mk.injEq]
  constructor
  · rintro ⟨⟨j, hj, rfl, hv⟩, hn⟩
    refine ⟨?_, hn⟩
    rw [← hv]
    unfold lg
    rw [List.getD_eq_getElem?_getD, List.getElem?_eq_getElem hj]
    rfl
  · rintro ⟨hv, hn⟩
    have hj : i < L.length := (List.getElem?_eq_some_iff.mp hv).1
    refine ⟨⟨i, hj, rfl, ?_⟩, hn⟩
    unfold lg
    rw [List.getD_eq_getElem?_getD, hv]
    rfl
theorem LH.has {ls : Array Slot} {L : List Value} (h : LH ls L) {n : Nat} (hn : ls.size = n) : lv_has ls n (lvl L) := by
  refine ⟨hn, h.1, fun q hq => ?_⟩
  obtain ⟨h1, h2⟩ := lvl_mem.mp hq
  exact h.2.2 _ _ h1 h2
theorem xmod_len : ∀ (L : List Value) (j : Nat), (xmod L j).length = L.length
  | [], _ => rfl
  | _ :: _, 0 => rfl
  | _ :: t, n + 1 => by simp [xmod, xmod_len t n]
theorem xmod_get : ∀ (L : List Value) (j i : Nat), (xmod L j)[i]? = if i = j then (L[i]?).map k2 else L[i]?
  | [], _, _ => by simp [xmod]
  | a :: t, 0, 0 => by simp [xmod]
  | a :: t, 0, i + 1 => by simp [xmod]
  | a :: t, n + 1, 0 => by simp [xmod]
  | a :: t, n + 1, i + 1 => by
    simp only [xmod, List.getElem?_cons_succ, xmod_get t n i, Nat.add_right_cancel_iff]
theorem sto_len (L : List Value) (k : Nat) (v : Value) : (sto L k v).length = L.length := by
  unfold sto
  cases k with
  | zero => simp
  | succ j => simp [xmod_len]
theorem LH_sto {ls ls' : Array Slot} {L : List Value} {k n : Nat} {v : Value} (h : LH ls L) (h' : lv_has ls' n ((k, v) :: (lvl L).filter (fun q => !(q.1 == k) && !(q.1 + 1 == k && q.2.category == 2)))) (hn : ls.size = n) : LH ls' (sto L k v) := by
  refine ⟨h'.2.1, by rw [sto_len, h.2.1, h'.1, hn], fun i w hi hw => ?_⟩
  by_cases hik : i = k
  · subst hik
    have hlt : i < (sto L i v).length := (List.getElem?_eq_some_iff.mp hi).1
    have e1 : (sto L i v)[i]? = some v := by
      unfold sto at hlt ⊢
      rw [List.length_set] at hlt
      rw [List.getElem?_set_self hlt]
    rw [e1] at hi
    cases hi
    exact h'.2.2 _ List.mem_cons_self
  · have key : L[i]? = some w ∧ ¬ (i + 1 = k ∧ w.category = 2) := by
      unfold sto at hi
      rw [List.getElem?_set_ne (Ne.symm hik)] at hi
      cases k with
      | zero => exact ⟨hi, fun q => by omega⟩
      | succ j =>
        simp only [xmod_get] at hi
        split at hi
        next hij =>
          subst hij
          cases hL : L[i]? with
          | none => rw [hL] at hi; cases hi
          | some x =>
            rw [hL] at hi
            simp only [Option.map_some, Option.some.injEq] at hi
            unfold k2 at hi
            split at hi
            next => exact absurd hi.symm hw
            next hc => subst hi; exact ⟨rfl, fun q => hc q.2⟩
        next hij => exact ⟨hi, fun q => hij (by omega)⟩
    refine h'.2.2 (i, w) (List.mem_cons_of_mem _ (List.mem_filter.mpr ⟨lvl_mem.mpr ⟨key.1, hw⟩, ?_⟩))
    have h2 := key.2
    simp only [Bool.and_eq_true, Bool.not_eq_true', beq_eq_false_iff_ne, ne_eq, Bool.and_eq_false_iff]
    refine ⟨hik, ?_⟩
    by_cases h3 : i + 1 = k
    · exact Or.inr (fun q => h2 ⟨h3, q⟩)
    · exact Or.inl h3
theorem LH.same {ls : Array Slot} {L : List Value} {k : Nat} (h : LH ls L) (hk : k < L.length) : k < ls.size := by rw [← h.2.1]; exact hk
-- steps
theorem ws_jp {p : Program} {l : Launch} {e : Env} {R : Room} {s : State} {m : MethodId} {args : Array Value} {below : List Frame} {meth : Method} {c : Code} {Q : State → Prop} {D : va_G} {T3 : Nat → ClassId} {A : Nat → Prop} {H0 : Heap} {z0 : Nat × Nat} {y : Nat} {SX : Nat → Nat → (Nat → Int32) → Prop} {pc : Nat} {off : Int} {tgt : Nat} {pc pc' : Nat} {L st L' st' : List Value} {h h' : xH} (hj : jp pc off L st h = some (.inl (pc', L', st', h'))) : (pc : Int) + off = (pc' : Int) ∧ L' = L ∧ st' = st ∧ h' = h := by
  unfold jp at hj
  split at hj
  next h0 => cases hj; exact ⟨(Int.toNat_of_nonneg h0).symm, rfl, rfl, rfl⟩
  next => cases hj
end
section
theorem s_iconst {p : Program} {l : Launch} {e : Env} {R : Room} {s : State} {m : MethodId} {args : Array Value} {below : List Frame} {meth : Method} {c : Code} {Q : State → Prop} {D : va_G} {T3 : Nat → ClassId} {A : Nat → Prop} {H0 : Heap} {z0 : Nat × Nat} {y : Nat} {SX : Nat → Nat → (Nat → Int32) → Prop} {pc pc' : Nat} {L st L' st' : List Value} {h h' : xH} (hC : CX SX A H0 D T3 p R s m args meth c y) {n : Int} (hd : decode (x_cd y) pc = .ok (.iconst n, 1)) (hs : nx (pc + 1) L (.int (Int32.ofInt n) :: st) h = some (.inl (pc', L', st', h'))) (hk : WS p l e R s m args below meth c Q D T3 SX A H0 z0 y pc' L' st' h') : WS p l e R s m args below meth c Q D T3 SX A H0 z0 y pc L st h := by
  cases hs
  intro ls H locs cells slots hst
  exact lv_iconst hC.1 hC.2.1 hd rfl (hk _ _ _ _ _ hst)
theorem s_bipush {p : Program} {l : Launch} {e : Env} {R : Room} {s : State} {m : MethodId} {args : Array Value} {below : List Frame} {meth : Method} {c : Code} {Q : State → Prop} {D : va_G} {T3 : Nat → ClassId} {A : Nat → Prop} {H0 : Heap} {z0 : Nat × Nat} {y : Nat} {SX : Nat → Nat → (Nat → Int32) → Prop} {pc pc' : Nat} {L st L' st' : List Value} {h h' : xH} (hC : CX SX A H0 D T3 p R s m args meth c y) {n : Int} (hd : decode (x_cd y) pc = .ok (.bipush n, 2)) (hs : nx (pc + 2) L (.int (Int8.ofInt n).toInt32 :: st) h = some (.inl (pc', L', st', h'))) (hk : WS p l e R s m args below meth c Q D T3 SX A H0 z0 y pc' L' st' h') : WS p l e R s m args below meth c Q D T3 SX A H0 z0 y pc L st h := by
  cases hs
  intro ls H locs cells slots hst
  exact lv_bipush hC.1 hC.2.1 hd rfl (hk _ _ _ _ _ hst)
theorem s_sipush {p : Program} {l : Launch} {e : Env} {R : Room} {s : State} {m : MethodId} {args : Array Value} {below : List Frame} {meth : Method} {c : Code} {Q : State → Prop} {D : va_G} {T3 : Nat → ClassId} {A : Nat → Prop} {H0 : Heap} {z0 : Nat × Nat} {y : Nat} {SX : Nat → Nat → (Nat → Int32) → Prop} {pc pc' : Nat} {L st L' st' : List Value} {h h' : xH} (hC : CX SX A H0 D T3 p R s m args meth c y) {n : Int} (hd : decode (x_cd y) pc = .ok (.sipush n, 3)) (hs : nx (pc + 3) L (.int (Int16.ofInt n).toInt32 :: st) h = some (.inl (pc', L', st', h'))) (hk : WS p l e R s m args below meth c Q D T3 SX A H0 z0 y pc' L' st' h') : WS p l e R s m args below meth c Q D T3 SX A H0 z0 y pc L st h := by
  cases hs
  intro ls H locs cells slots hst
  exact lv_sipush hC.1 hC.2.1 hd rfl (hk _ _ _ _ _ hst)
theorem s_lconst {p : Program} {l : Launch} {e : Env} {R : Room} {s : State} {m : MethodId} {args : Array Value} {below : List Frame} {meth : Method} {c : Code} {Q : State → Prop} {D : va_G} {T3 : Nat → ClassId} {A : Nat → Prop} {H0 : Heap} {z0 : Nat × Nat} {y : Nat} {SX : Nat → Nat → (Nat → Int32) → Prop} {pc pc' : Nat} {L st L' st' : List Value} {h h' : xH} (hC : CX SX A H0 D T3 p R s m args meth c y) {n : Fin 2} (hd : decode (x_cd y) pc = .ok (.lconst n, 1)) (hs : nx (pc + 1) L (.long (Int64.ofNat (n : Nat)) :: st) h = some (.inl (pc', L', st', h'))) (hk : WS p l e R s m args below meth c Q D T3 SX A H0 z0 y pc' L' st' h') : WS p l e R s m args below meth c Q D T3 SX A H0 z0 y pc L st h := by
  cases hs
  intro ls H locs cells slots hst
  exact lv_lconst hC.1 hC.2.1 hd rfl (hk _ _ _ _ _ hst)
theorem s_ldc2 {p : Program} {l : Launch} {e : Env} {R : Room} {s : State} {m : MethodId} {args : Array Value} {below : List Frame} {meth : Method} {c : Code} {Q : State → Prop} {D : va_G} {T3 : Nat → ClassId} {A : Nat → Prop} {H0 : Heap} {z0 : Nat × Nat} {y : Nat} {SX : Nat → Nat → (Nat → Int32) → Prop} {pc pc' : Nat} {L st L' st' : List Value} {h h' : xH} (hC : CX SX A H0 D T3 p R s m args meth c y) {ix : Nat} (hd : decode (x_cd y) pc = .ok (.ldc2_w ix, 3)) (hs : (match x_lc (x_kl y) ix with | some v => nx (pc + 3) L (.long v :: st) h | none => none) = some (.inl (pc', L', st', h'))) (hk : WS p l e R s m args below meth c Q D T3 SX A H0 z0 y pc' L' st' h') : WS p l e R s m args below meth c Q D T3 SX A H0 z0 y pc L st h := by
  split at hs
  next v hv =>
    cases hs
    intro ls H locs cells slots hst
    have hw : x_lcOK ((x_kl y, ix), v) := x_lcl _ (x_find_mem _ _ _ _ hv)
    exact lv_ldc2 hC.1 hC.2.1 hC.2.2.2.1 (hC.2.2.2.2.1 _ hw) hd (hk _ _ _ _ _ hst)
  next => cases hs
theorem s_null {p : Program} {l : Launch} {e : Env} {R : Room} {s : State} {m : MethodId} {args : Array Value} {below : List Frame} {meth : Method} {c : Code} {Q : State → Prop} {D : va_G} {T3 : Nat → ClassId} {A : Nat → Prop} {H0 : Heap} {z0 : Nat × Nat} {y : Nat} {SX : Nat → Nat → (Nat → Int32) → Prop} {pc pc' : Nat} {L st L' st' : List Value} {h h' : xH} (hC : CX SX A H0 D T3 p R s m args meth c y) (hd : decode (x_cd y) pc = .ok (.aconst_null, 1)) (hs : nx (pc + 1) L (.null :: st) h = some (.inl (pc', L', st', h'))) (hk : WS p l e R s m args below meth c Q D T3 SX A H0 z0 y pc' L' st' h') : WS p l e R s m args below meth c Q D T3 SX A H0 z0 y pc L st h := by
  cases hs
  intro ls H locs cells slots hst
  exact lv_null hC.1 hC.2.1 hd (hk _ _ _ _ _ hst)
theorem s_iload_n {p : Program} {l : Launch} {e : Env} {R : Room} {s : State} {m : MethodId} {args : Array Value} {below : List Frame} {meth : Method} {c : Code} {Q : State → Prop} {D : va_G} {T3 : Nat → ClassId} {A : Nat → Prop} {H0 : Heap} {z0 : Nat × Nat} {y : Nat} {SX : Nat → Nat → (Nat → Int32) → Prop} {pc pc' : Nat} {L st L' st' : List Value} {h h' : xH} (hC : CX SX A H0 D T3 p R s m args meth c y) {k : Fin 4} (hd : decode (x_cd y) pc = .ok (.iload_n k, 1)) (hs : xLi (pc + 1) L k st h = some (.inl (pc', L', st', h'))) (hk : WS p l e R s m args below meth c Q D T3 SX A H0 z0 y pc' L' st' h') : WS p l e R s m args below meth c Q D T3 SX A H0 z0 y pc L st h := by
  unfold xLi at hs
  split at hs
  next x hx =>
    cases hs
    intro ls H locs cells slots hst
    exact lv_iload_n hC.1 hC.2.1 hd rfl (hst.2.1.get hx (by simp [unk])) (hk _ _ _ _ _ hst)
  next => cases hs
theorem s_iload {p : Program} {l : Launch} {e : Env} {R : Room} {s : State} {m : MethodId} {args : Array Value} {below : List Frame} {meth : Method} {c : Code} {Q : State → Prop} {D : va_G} {T3 : Nat → ClassId} {A : Nat → Prop} {H0 : Heap} {z0 : Nat × Nat} {y : Nat} {SX : Nat → Nat → (Nat → Int32) → Prop} {pc pc' : Nat} {L st L' st' : List Value} {h h' : xH} (hC : CX SX A H0 D T3 p R s m args meth c y) {k : Nat} (hd : decode (x_cd y) pc = .ok (.iload k, 2)) (hs : xLi (pc + 2) L k st h = some (.inl (pc', L', st', h'))) (hk : WS p l e R s m args below meth c Q D T3 SX A H0 z0 y pc' L' st' h') : WS p l e R s m args below meth c Q D T3 SX A H0 z0 y pc L st h := by
  unfold xLi at hs
  split at hs
  next x hx =>
    cases hs
    intro ls H locs cells slots hst
    exact lv_iload hC.1 hC.2.1 hd (hst.2.1.get hx (by simp [unk])) (hk _ _ _ _ _ hst)
  next => cases hs
theorem s_lload_n {p : Program} {l : Launch} {e : Env} {R : Room} {s : State} {m : MethodId} {args : Array Value} {below : List Frame} {meth : Method} {c : Code} {Q : State → Prop} {D : va_G} {T3 : Nat → ClassId} {A : Nat → Prop} {H0 : Heap} {z0 : Nat × Nat} {y : Nat} {SX : Nat → Nat → (Nat → Int32) → Prop} {pc pc' : Nat} {L st L' st' : List Value} {h h' : xH} (hC : CX SX A H0 D T3 p R s m args meth c y) {k : Fin 4} (hd : decode (x_cd y) pc = .ok (.lload_n k, 1)) (hs : xLl (pc + 1) L k st h = some (.inl (pc', L', st', h'))) (hk : WS p l e R s m args below meth c Q D T3 SX A H0 z0 y pc' L' st' h') : WS p l e R s m args below meth c Q D T3 SX A H0 z0 y pc L st h := by
  unfold xLl at hs
  split at hs
  next x hx =>
    cases hs
    intro ls H locs cells slots hst
    exact lv_lload_n hC.1 hC.2.1 hd rfl (hst.2.1.get hx (by simp [unk])) (hk _ _ _ _ _ hst)
  next => cases hs
theorem s_lload {p : Program} {l : Launch} {e : Env} {R : Room} {s : State} {m : MethodId} {args : Array Value} {below : List Frame} {meth : Method} {c : Code} {Q : State → Prop} {D : va_G} {T3 : Nat → ClassId} {A : Nat → Prop} {H0 : Heap} {z0 : Nat × Nat} {y : Nat} {SX : Nat → Nat → (Nat → Int32) → Prop} {pc pc' : Nat} {L st L' st' : List Value} {h h' : xH} (hC : CX SX A H0 D T3 p R s m args meth c y) {k : Nat} (hd : decode (x_cd y) pc = .ok (.lload k, 2)) (hs : xLl (pc + 2) L k st h = some (.inl (pc', L', st', h'))) (hk : WS p l e R s m args below meth c Q D T3 SX A H0 z0 y pc' L' st' h') : WS p l e R s m args below meth c Q D T3 SX A H0 z0 y pc L st h := by
  unfold xLl at hs
  split at hs
  next x hx =>
    cases hs
    intro ls H locs cells slots hst
    exact lv_lload hC.1 hC.2.1 hd (hst.2.1.get hx (by simp [unk])) (hk _ _ _ _ _ hst)
  next => cases hs
theorem s_aload_n {p : Program} {l : Launch} {e : Env} {R : Room} {s : State} {m : MethodId} {args : Array Value} {below : List Frame} {meth : Method} {c : Code} {Q : State → Prop} {D : va_G} {T3 : Nat → ClassId} {A : Nat → Prop} {H0 : Heap} {z0 : Nat × Nat} {y : Nat} {SX : Nat → Nat → (Nat → Int32) → Prop} {pc pc' : Nat} {L st L' st' : List Value} {h h' : xH} (hC : CX SX A H0 D T3 p R s m args meth c y) {k : Fin 4} (hd : decode (x_cd y) pc = .ok (.aload_n k, 1)) (hs : xLa (pc + 1) L k st h = some (.inl (pc', L', st', h'))) (hk : WS p l e R s m args below meth c Q D T3 SX A H0 z0 y pc' L' st' h') : WS p l e R s m args below meth c Q D T3 SX A H0 z0 y pc L st h := by
  unfold xLa at hs
  split at hs
  next x hx =>
    cases hs
    intro ls H locs cells slots hst
    exact lv_aload_n hC.1 hC.2.1 hd rfl (hst.2.1.get hx (by simp [unk])) (hk _ _ _ _ _ hst)
  next hx =>
    cases hs
    intro ls H locs cells slots hst
    exact lv_aload_nN hC.1 hC.2.1 hd rfl (hst.2.1.get hx (by simp [unk])) (hk _ _ _ _ _ hst)
  next => cases hs
theorem s_aload {p : Program} {l : Launch} {e : Env} {R : Room} {s : State} {m : MethodId} {args : Array Value} {below : List Frame} {meth : Method} {c : Code} {Q : State → Prop} {D : va_G} {T3 : Nat → ClassId} {A : Nat → Prop} {H0 : Heap} {z0 : Nat × Nat} {y : Nat} {SX : Nat → Nat → (Nat → Int32) → Prop} {pc pc' : Nat} {L st L' st' : List Value} {h h' : xH} (hC : CX SX A H0 D T3 p R s m args meth c y) {k : Nat} (hd : decode (x_cd y) pc = .ok (.aload k, 2)) (hs : xLa (pc + 2) L k st h = some (.inl (pc', L', st', h'))) (hk : WS p l e R s m args below meth c Q D T3 SX A H0 z0 y pc' L' st' h') : WS p l e R s m args below meth c Q D T3 SX A H0 z0 y pc L st h := by
  unfold xLa at hs
  split at hs
  next x hx =>
    cases hs
    intro ls H locs cells slots hst
    exact lv_aload hC.1 hC.2.1 hd (hst.2.1.get hx (by simp [unk])) (hk _ _ _ _ _ hst)
  next hx =>
    cases hs
    intro ls H locs cells slots hst
    exact lv_aloadN hC.1 hC.2.1 hd (hst.2.1.get hx (by simp [unk])) (hk _ _ _ _ _ hst)
  next => cases hs
theorem ST.sto {D : va_G} {T3 : Nat → ClassId} {SX : Nat → Nat → (Nat → Int32) → Prop} {A : Nat → Prop} {H0 : Heap} {z0 : Nat × Nat} {s0 y : Nat} {ls ls' : Array Slot} {L : List Value} {h : xH} {H : Heap} {locs : List Loc} {cells slots : Nat} {k : Nat} {v : Value} (hst : ST D T3 SX A H0 z0 s0 y ls L h H locs cells slots) (h' : lv_has ls' (x_ml y) ((k, v) :: (lvl L).filter (fun q => !(q.1 == k) && !(q.1 + 1 == k && q.2.category == 2)))) : ST D T3 SX A H0 z0 s0 y ls' (sto L k v) h H locs cells slots :=
  ⟨h'.1, LH_sto hst.2.1 h' hst.1, hst.2.2⟩
theorem s_istore_n {p : Program} {l : Launch} {e : Env} {R : Room} {s : State} {m : MethodId} {args : Array Value} {below : List Frame} {meth : Method} {c : Code} {Q : State → Prop} {D : va_G} {T3 : Nat → ClassId} {A : Nat → Prop} {H0 : Heap} {z0 : Nat × Nat} {y : Nat} {SX : Nat → Nat → (Nat → Int32) → Prop} {pc pc' : Nat} {L st L' st' : List Value} {h h' : xH} (hC : CX SX A H0 D T3 p R s m args meth c y) {k : Fin 4} (hd : decode (x_cd y) pc = .ok (.istore_n k, 1)) (hs : xSi (pc + 1) L k st h = some (.inl (pc', L', st', h'))) (hk : WS p l e R s m args below meth c Q D T3 SX A H0 z0 y pc' L' st' h') : WS p l e R s m args below meth c Q D T3 SX A H0 z0 y pc L st h := by
  unfold xSi at hs
  split at hs
  next x t =>
    split at hs
    next hlt =>
      cases hs
      intro ls H locs cells slots hst
      exact lv_istore_n hC.1 hC.2.1 hd rfl (hst.2.1.has hst.1) (hst.1 ▸ hst.2.1.same hlt) rfl (fun ls' h' => hk _ _ _ _ _ (hst.sto h'))
    next => cases hs
  next => cases hs
theorem s_istore {p : Program} {l : Launch} {e : Env} {R : Room} {s : State} {m : MethodId} {args : Array Value} {below : List Frame} {meth : Method} {c : Code} {Q : State → Prop} {D : va_G} {T3 : Nat → ClassId} {A : Nat → Prop} {H0 : Heap} {z0 : Nat × Nat} {y : Nat} {SX : Nat → Nat → (Nat → Int32) → Prop} {pc pc' : Nat} {L st L' st' : List Value} {h h' : xH} (hC : CX SX A H0 D T3 p R s m args meth c y) {k : Nat} (hd : decode (x_cd y) pc = .ok (.istore k, 2)) (hs : xSi (pc + 2) L k st h = some (.inl (pc', L', st', h'))) (hk : WS p l e R s m args below meth c Q D T3 SX A H0 z0 y pc' L' st' h') : WS p l e R s m args below meth c Q D T3 SX A H0 z0 y pc L st h := by
  unfold xSi at hs
  split at hs
  next x t =>
    split at hs
    next hlt =>
      cases hs
      intro ls H locs cells slots hst
      exact lv_istore hC.1 hC.2.1 hd (hst.2.1.has hst.1) (hst.1 ▸ hst.2.1.same hlt) rfl (fun ls' h' => hk _ _ _ _ _ (hst.sto h'))
    next => cases hs
  next => cases hs
theorem s_astore_n {p : Program} {l : Launch} {e : Env} {R : Room} {s : State} {m : MethodId} {args : Array Value} {below : List Frame} {meth : Method} {c : Code} {Q : State → Prop} {D : va_G} {T3 : Nat → ClassId} {A : Nat → Prop} {H0 : Heap} {z0 : Nat × Nat} {y : Nat} {SX : Nat → Nat → (Nat → Int32) → Prop} {pc pc' : Nat} {L st L' st' : List Value} {h h' : xH} (hC : CX SX A H0 D T3 p R s m args meth c y) {k : Fin 4} (hd : decode (x_cd y) pc = .ok (.astore_n k, 1)) (hs : xSa (pc + 1) L k st h = some (.inl (pc', L', st', h'))) (hk : WS p l e R s m args below meth c Q D T3 SX A H0 z0 y pc' L' st' h') : WS p l e R s m args below meth c Q D T3 SX A H0 z0 y pc L st h := by
  unfold xSa at hs
  split at hs
  next x t =>
    split at hs
    next hlt =>
      cases hs
      intro ls H locs cells slots hst
      exact lv_astore_n hC.1 hC.2.1 hd rfl (hst.2.1.has hst.1) (hst.1 ▸ hst.2.1.same hlt) rfl (fun ls' h' => hk _ _ _ _ _ (hst.sto h'))
    next => cases hs
  next t =>
    split at hs
    next hlt =>
      cases hs
      intro ls H locs cells slots hst
      exact lv_astore_nN hC.1 hC.2.1 hd rfl (hst.2.1.has hst.1) (hst.1 ▸ hst.2.1.same hlt) rfl (fun ls' h' => hk _ _ _ _ _ (hst.sto h'))
    next => cases hs
  next => cases hs
theorem s_astore {p : Program} {l : Launch} {e : Env} {R : Room} {s : State} {m : MethodId} {args : Array Value} {below : List Frame} {meth : Method} {c : Code} {Q : State → Prop} {D : va_G} {T3 : Nat → ClassId} {A : Nat → Prop} {H0 : Heap} {z0 : Nat × Nat} {y : Nat} {SX : Nat → Nat → (Nat → Int32) → Prop} {pc pc' : Nat} {L st L' st' : List Value} {h h' : xH} (hC : CX SX A H0 D T3 p R s m args meth c y) {k : Nat} (hd : decode (x_cd y) pc = .ok (.astore k, 2)) (hs : xSa (pc + 2) L k st h = some (.inl (pc', L', st', h'))) (hk : WS p l e R s m args below meth c Q D T3 SX A H0 z0 y pc' L' st' h') : WS p l e R s m args below meth c Q D T3 SX A H0 z0 y pc L st h := by
  unfold xSa at hs
  split at hs
  next x t =>
    split at hs
    next hlt =>
      cases hs
      intro ls H locs cells slots hst
      exact lv_astore hC.1 hC.2.1 hd (hst.2.1.has hst.1) (hst.1 ▸ hst.2.1.same hlt) rfl (fun ls' h' => hk _ _ _ _ _ (hst.sto h'))
    next => cases hs
  next t =>
    split at hs
    next hlt =>
      cases hs
      intro ls H locs cells slots hst
      exact lv_astoreN hC.1 hC.2.1 hd (hst.2.1.has hst.1) (hst.1 ▸ hst.2.1.same hlt) rfl (fun ls' h' => hk _ _ _ _ _ (hst.sto h'))
    next => cases hs
  next => cases hs
theorem s_iinc {p : Program} {l : Launch} {e : Env} {R : Room} {s : State} {m : MethodId} {args : Array Value} {below : List Frame} {meth : Method} {c : Code} {Q : State → Prop} {D : va_G} {T3 : Nat → ClassId} {A : Nat → Prop} {H0 : Heap} {z0 : Nat × Nat} {y : Nat} {SX : Nat → Nat → (Nat → Int32) → Prop} {pc pc' : Nat} {L st L' st' : List Value} {h h' : xH} (hC : CX SX A H0 D T3 p R s m args meth c y) {k : Nat} {n : Int} (hd : decode (x_cd y) pc = .ok (.iinc k n, 3)) (hs : xInc (pc + 3) L k n st h = some (.inl (pc', L', st', h'))) (hk : WS p l e R s m args below meth c Q D T3 SX A H0 z0 y pc' L' st' h') : WS p l e R s m args below meth c Q D T3 SX A H0 z0 y pc L st h := by
  unfold xInc at hs
  split at hs
  next x hx =>
    split at hs
    next hlt =>
      cases hs
      intro ls H locs cells slots hst
      have hm : (k, Value.int x) ∈ lvl L := by
        refine lvl_mem.mpr ⟨?_, by simp [unk]⟩
        unfold lg at hx
        rw [List.getD_eq_getElem?_getD] at hx
        rw [List.getElem?_eq_getElem hlt] at hx ⊢
        exact congrArg some hx
      obtain ⟨j, hj⟩ := List.getElem?_of_mem hm
      exact lv_iinc (k := j) hC.1 hC.2.1 hd (hst.2.1.has hst.1) hj rfl (hst.1 ▸ hst.2.1.same hlt) rfl (fun ls' h' => hk _ _ _ _ _ (hst.sto h'))
    next => cases hs
  next => cases hs
theorem x2i_of {st : List Value} {f : Int32 → Int32 → List Value → xO} {o : Nat × List Value × List Value × xH} (hs : x2i st f = some (.inl o)) : ∃ a b t, st = .int b :: .int a :: t ∧ f a b t = some (.inl o) := by
  unfold x2i at hs
  split at hs
  next b a t => exact ⟨a, b, t, rfl, hs⟩
  next => cases hs
theorem x2l_of {st : List Value} {f : Int64 → Int64 → List Value → xO} {o : Nat × List Value × List Value × xH} (hs : x2l st f = some (.inl o)) : ∃ a b t, st = .long b :: .long a :: t ∧ f a b t = some (.inl o) := by
  unfold x2l at hs
  split at hs
  next b a t => exact ⟨a, b, t, rfl, hs⟩
  next => cases hs
theorem xli_of {st : List Value} {f : Int64 → Int32 → List Value → xO} {o : Nat × List Value × List Value × xH} (hs : xli st f = some (.inl o)) : ∃ a b t, st = .int b :: .long a :: t ∧ f a b t = some (.inl o) := by
  unfold xli at hs
  split at hs
  next b a t => exact ⟨a, b, t, rfl, hs⟩
  next => cases hs
theorem s_iadd {p : Program} {l : Launch} {e : Env} {R : Room} {s : State} {m : MethodId} {args : Array Value} {below : List Frame} {meth : Method} {c : Code} {Q : State → Prop} {D : va_G} {T3 : Nat → ClassId} {A : Nat → Prop} {H0 : Heap} {z0 : Nat × Nat} {y : Nat} {SX : Nat → Nat → (Nat → Int32) → Prop} {pc pc' : Nat} {L st L' st' : List Value} {h h' : xH} (hC : CX SX A H0 D T3 p R s m args meth c y) (hd : decode (x_cd y) pc = .ok (.iadd, 1)) (hs : (x2i st fun a b t => nx (pc + 1) L (.int (a + b) :: t) h) = some (.inl (pc', L', st', h'))) (hk : WS p l e R s m args below meth c Q D T3 SX A H0 z0 y pc' L' st' h') : WS p l e R s m args below meth c Q D T3 SX A H0 z0 y pc L st h := by
  obtain ⟨a, b, t, rfl, hs2⟩ := x2i_of hs
  clear hs
  have hs := hs2
  cases hs
  exact fun ls H locs cells slots hst => lv_iadd hC.1 hC.2.1 hd (hk _ _ _ _ _ hst)
theorem s_isub {p : Program} {l : Launch} {e : Env} {R : Room} {s : State} {m : MethodId} {args : Array Value} {below : List Frame} {meth : Method} {c : Code} {Q : State → Prop} {D : va_G} {T3 : Nat → ClassId} {A : Nat → Prop} {H0 : Heap} {z0 : Nat × Nat} {y : Nat} {SX : Nat → Nat → (Nat → Int32) → Prop} {pc pc' : Nat} {L st L' st' : List Value} {h h' : xH} (hC : CX SX A H0 D T3 p R s m args meth c y) (hd : decode (x_cd y) pc = .ok (.isub, 1)) (hs : (x2i st fun a b t => nx (pc + 1) L (.int (a - b) :: t) h) = some (.inl (pc', L', st', h'))) (hk : WS p l e R s m args below meth c Q D T3 SX A H0 z0 y pc' L' st' h') : WS p l e R s m args below meth c Q D T3 SX A H0 z0 y pc L st h := by
  obtain ⟨a, b, t, rfl, hs2⟩ := x2i_of hs
  clear hs
  have hs := hs2
  cases hs
  exact fun ls H locs cells slots hst => lv_isub hC.1 hC.2.1 hd (hk _ _ _ _ _ hst)
theorem s_imul {p : Program} {l : Launch} {e : Env} {R : Room} {s : State} {m : MethodId} {args : Array Value} {below : List Frame} {meth : Method} {c : Code} {Q : State → Prop} {D : va_G} {T3 : Nat → ClassId} {A : Nat → Prop} {H0 : Heap} {z0 : Nat × Nat} {y : Nat} {SX : Nat → Nat → (Nat → Int32) → Prop} {pc pc' : Nat} {L st L' st' : List Value} {h h' : xH} (hC : CX SX A H0 D T3 p R s m args meth c y) (hd : decode (x_cd y) pc = .ok (.imul, 1)) (hs : (x2i st fun a b t => nx (pc + 1) L (.int (a * b) :: t) h) = some (.inl (pc', L', st', h'))) (hk : WS p l e R s m args below meth c Q D T3 SX A H0 z0 y pc' L' st' h') : WS p l e R s m args below meth c Q D T3 SX A H0 z0 y pc L st h := by
  obtain ⟨a, b, t, rfl, hs2⟩ := x2i_of hs
  clear hs
  have hs := hs2
  cases hs
  exact fun ls H locs cells slots hst => lv_imul hC.1 hC.2.1 hd (hk _ _ _ _ _ hst)
theorem s_iand {p : Program} {l : Launch} {e : Env} {R : Room} {s : State} {m : MethodId} {args : Array Value} {below : List Frame} {meth : Method} {c : Code} {Q : State → Prop} {D : va_G} {T3 : Nat → ClassId} {A : Nat → Prop} {H0 : Heap} {z0 : Nat × Nat} {y : Nat} {SX : Nat → Nat → (Nat → Int32) → Prop} {pc pc' : Nat} {L st L' st' : List Value} {h h' : xH} (hC : CX SX A H0 D T3 p R s m args meth c y) (hd : decode (x_cd y) pc = .ok (.iand, 1)) (hs : (x2i st fun a b t => nx (pc + 1) L (.int (a &&& b) :: t) h) = some (.inl (pc', L', st', h'))) (hk : WS p l e R s m args below meth c Q D T3 SX A H0 z0 y pc' L' st' h') : WS p l e R s m args below meth c Q D T3 SX A H0 z0 y pc L st h := by
  obtain ⟨a, b, t, rfl, hs2⟩ := x2i_of hs
  clear hs
  have hs := hs2
  cases hs
  exact fun ls H locs cells slots hst => lv_iand hC.1 hC.2.1 hd (hk _ _ _ _ _ hst)
theorem s_idiv {p : Program} {l : Launch} {e : Env} {R : Room} {s : State} {m : MethodId} {args : Array Value} {below : List Frame} {meth : Method} {c : Code} {Q : State → Prop} {D : va_G} {T3 : Nat → ClassId} {A : Nat → Prop} {H0 : Heap} {z0 : Nat × Nat} {y : Nat} {SX : Nat → Nat → (Nat → Int32) → Prop} {pc pc' : Nat} {L st L' st' : List Value} {h h' : xH} (hC : CX SX A H0 D T3 p R s m args meth c y) (hd : decode (x_cd y) pc = .ok (.idiv, 1)) (hs : (x2i st fun a b t => if b = 0 then none else nx (pc + 1) L (.int (a / b) :: t) h) = some (.inl (pc', L', st', h'))) (hk : WS p l e R s m args below meth c Q D T3 SX A H0 z0 y pc' L' st' h') : WS p l e R s m args below meth c Q D T3 SX A H0 z0 y pc L st h := by
  obtain ⟨a, b, t, rfl, hs2⟩ := x2i_of hs
  clear hs
  have hs := hs2
  split at hs
  next => cases hs
  next hb =>
    cases hs
    exact fun ls H locs cells slots hst => lv_idiv hC.1 hC.2.1 hd hb (hk _ _ _ _ _ hst)
theorem s_irem {p : Program} {l : Launch} {e : Env} {R : Room} {s : State} {m : MethodId} {args : Array Value} {below : List Frame} {meth : Method} {c : Code} {Q : State → Prop} {D : va_G} {T3 : Nat → ClassId} {A : Nat → Prop} {H0 : Heap} {z0 : Nat × Nat} {y : Nat} {SX : Nat → Nat → (Nat → Int32) → Prop} {pc pc' : Nat} {L st L' st' : List Value} {h h' : xH} (hC : CX SX A H0 D T3 p R s m args meth c y) (hd : decode (x_cd y) pc = .ok (.irem, 1)) (hs : (x2i st fun a b t => if b = 0 then none else nx (pc + 1) L (.int (a - a / b * b) :: t) h) = some (.inl (pc', L', st', h'))) (hk : WS p l e R s m args below meth c Q D T3 SX A H0 z0 y pc' L' st' h') : WS p l e R s m args below meth c Q D T3 SX A H0 z0 y pc L st h := by
  obtain ⟨a, b, t, rfl, hs2⟩ := x2i_of hs
  clear hs
  have hs := hs2
  split at hs
  next => cases hs
  next hb =>
    cases hs
    exact fun ls H locs cells slots hst => lv_irem hC.1 hC.2.1 hd hb (hk _ _ _ _ _ hst)
theorem s_land {p : Program} {l : Launch} {e : Env} {R : Room} {s : State} {m : MethodId} {args : Array Value} {below : List Frame} {meth : Method} {c : Code} {Q : State → Prop} {D : va_G} {T3 : Nat → ClassId} {A : Nat → Prop} {H0 : Heap} {z0 : Nat × Nat} {y : Nat} {SX : Nat → Nat → (Nat → Int32) → Prop} {pc pc' : Nat} {L st L' st' : List Value} {h h' : xH} (hC : CX SX A H0 D T3 p R s m args meth c y) (hd : decode (x_cd y) pc = .ok (.land, 1)) (hs : (x2l st fun a b t => nx (pc + 1) L (.long (a &&& b) :: t) h) = some (.inl (pc', L', st', h'))) (hk : WS p l e R s m args below meth c Q D T3 SX A H0 z0 y pc' L' st' h') : WS p l e R s m args below meth c Q D T3 SX A H0 z0 y pc L st h := by
  obtain ⟨a, b, t, rfl, hs2⟩ := x2l_of hs
  clear hs
  have hs := hs2
  cases hs
  exact fun ls H locs cells slots hst => lv_land hC.1 hC.2.1 hd (hk _ _ _ _ _ hst)
theorem s_lor {p : Program} {l : Launch} {e : Env} {R : Room} {s : State} {m : MethodId} {args : Array Value} {below : List Frame} {meth : Method} {c : Code} {Q : State → Prop} {D : va_G} {T3 : Nat → ClassId} {A : Nat → Prop} {H0 : Heap} {z0 : Nat × Nat} {y : Nat} {SX : Nat → Nat → (Nat → Int32) → Prop} {pc pc' : Nat} {L st L' st' : List Value} {h h' : xH} (hC : CX SX A H0 D T3 p R s m args meth c y) (hd : decode (x_cd y) pc = .ok (.lor, 1)) (hs : (x2l st fun a b t => nx (pc + 1) L (.long (a ||| b) :: t) h) = some (.inl (pc', L', st', h'))) (hk : WS p l e R s m args below meth c Q D T3 SX A H0 z0 y pc' L' st' h') : WS p l e R s m args below meth c Q D T3 SX A H0 z0 y pc L st h := by
  obtain ⟨a, b, t, rfl, hs2⟩ := x2l_of hs
  clear hs
  have hs := hs2
  cases hs
  exact fun ls H locs cells slots hst => lv_lor hC.1 hC.2.1 hd (hk _ _ _ _ _ hst)
theorem s_lcmp {p : Program} {l : Launch} {e : Env} {R : Room} {s : State} {m : MethodId} {args : Array Value} {below : List Frame} {meth : Method} {c : Code} {Q : State → Prop} {D : va_G} {T3 : Nat → ClassId} {A : Nat → Prop} {H0 : Heap} {z0 : Nat × Nat} {y : Nat} {SX : Nat → Nat → (Nat → Int32) → Prop} {pc pc' : Nat} {L st L' st' : List Value} {h h' : xH} (hC : CX SX A H0 D T3 p R s m args meth c y) (hd : decode (x_cd y) pc = .ok (.lcmp, 1)) (hs : (x2l st fun a b t => nx (pc + 1) L (.int (lg_cmp a b) :: t) h) = some (.inl (pc', L', st', h'))) (hk : WS p l e R s m args below meth c Q D T3 SX A H0 z0 y pc' L' st' h') : WS p l e R s m args below meth c Q D T3 SX A H0 z0 y pc L st h := by
  obtain ⟨a, b, t, rfl, hs2⟩ := x2l_of hs
  clear hs
  have hs := hs2
  cases hs
  exact fun ls H locs cells slots hst => W.lcmp hC.1 hC.2.1 hd (hk _ _ _ _ _ hst)
theorem s_lshl {p : Program} {l : Launch} {e : Env} {R : Room} {s : State} {m : MethodId} {args : Array Value} {below : List Frame} {meth : Method} {c : Code} {Q : State → Prop} {D : va_G} {T3 : Nat → ClassId} {A : Nat → Prop} {H0 : Heap} {z0 : Nat × Nat} {y : Nat} {SX : Nat → Nat → (Nat → Int32) → Prop} {pc pc' : Nat} {L st L' st' : List Value} {h h' : xH} (hC : CX SX A H0 D T3 p R s m args meth c y) (hd : decode (x_cd y) pc = .ok (.lshl, 1)) (hs : (xli st fun a b t => nx (pc + 1) L (.long (a <<< (b.toInt64 &&& 63)) :: t) h) = some (.inl (pc', L', st', h'))) (hk : WS p l e R s m args below meth c Q D T3 SX A H0 z0 y pc' L' st' h') : WS p l e R s m args below meth c Q D T3 SX A H0 z0 y pc L st h := by
  obtain ⟨a, b, t, rfl, hs2⟩ := xli_of hs
  clear hs
  have hs := hs2
  cases hs
  exact fun ls H locs cells slots hst => lv_lshl hC.1 hC.2.1 hd rfl (hk _ _ _ _ _ hst)
theorem s_lushr {p : Program} {l : Launch} {e : Env} {R : Room} {s : State} {m : MethodId} {args : Array Value} {below : List Frame} {meth : Method} {c : Code} {Q : State → Prop} {D : va_G} {T3 : Nat → ClassId} {A : Nat → Prop} {H0 : Heap} {z0 : Nat × Nat} {y : Nat} {SX : Nat → Nat → (Nat → Int32) → Prop} {pc pc' : Nat} {L st L' st' : List Value} {h h' : xH} (hC : CX SX A H0 D T3 p R s m args meth c y) (hd : decode (x_cd y) pc = .ok (.lushr, 1)) (hs : (xli st fun a b t => nx (pc + 1) L (.long (a.toUInt64 >>> (b.toInt64.toUInt64 &&& Int64.toUInt64 63)).toInt64 :: t) h) = some (.inl (pc', L', st', h'))) (hk : WS p l e R s m args below meth c Q D T3 SX A H0 z0 y pc' L' st' h') : WS p l e R s m args below meth c Q D T3 SX A H0 z0 y pc L st h := by
  obtain ⟨a, b, t, rfl, hs2⟩ := xli_of hs
  clear hs
  have hs := hs2
  cases hs
  exact fun ls H locs cells slots hst => lv_lushr hC.1 hC.2.1 hd rfl (hk _ _ _ _ _ hst)
theorem s_i2l {p : Program} {l : Launch} {e : Env} {R : Room} {s : State} {m : MethodId} {args : Array Value} {below : List Frame} {meth : Method} {c : Code} {Q : State → Prop} {D : va_G} {T3 : Nat → ClassId} {A : Nat → Prop} {H0 : Heap} {z0 : Nat × Nat} {y : Nat} {SX : Nat → Nat → (Nat → Int32) → Prop} {pc pc' : Nat} {L st L' st' : List Value} {h h' : xH} (hC : CX SX A H0 D T3 p R s m args meth c y) (hd : decode (x_cd y) pc = .ok (.i2l, 1)) (hs : (match st with | .int a :: t => nx (pc + 1) L (.long a.toInt64 :: t) h | _ => none) = some (.inl (pc', L', st', h'))) (hk : WS p l e R s m args below meth c Q D T3 SX A H0 z0 y pc' L' st' h') : WS p l e R s m args below meth c Q D T3 SX A H0 z0 y pc L st h := by
  split at hs
  next a t =>
    cases hs
    exact fun ls H locs cells slots hst => lv_i2l hC.1 hC.2.1 hd rfl (hk _ _ _ _ _ hst)
  next => cases hs
theorem s_l2i {p : Program} {l : Launch} {e : Env} {R : Room} {s : State} {m : MethodId} {args : Array Value} {below : List Frame} {meth : Method} {c : Code} {Q : State → Prop} {D : va_G} {T3 : Nat → ClassId} {A : Nat → Prop} {H0 : Heap} {z0 : Nat × Nat} {y : Nat} {SX : Nat → Nat → (Nat → Int32) → Prop} {pc pc' : Nat} {L st L' st' : List Value} {h h' : xH} (hC : CX SX A H0 D T3 p R s m args meth c y) (hd : decode (x_cd y) pc = .ok (.l2i, 1)) (hs : (match st with | .long a :: t => nx (pc + 1) L (.int a.toInt32 :: t) h | _ => none) = some (.inl (pc', L', st', h'))) (hk : WS p l e R s m args below meth c Q D T3 SX A H0 z0 y pc' L' st' h') : WS p l e R s m args below meth c Q D T3 SX A H0 z0 y pc L st h := by
  split at hs
  next a t =>
    cases hs
    exact fun ls H locs cells slots hst => lv_l2i hC.1 hC.2.1 hd rfl (hk _ _ _ _ _ hst)
  next => cases hs
theorem s_dup {p : Program} {l : Launch} {e : Env} {R : Room} {s : State} {m : MethodId} {args : Array Value} {below : List Frame} {meth : Method} {c : Code} {Q : State → Prop} {D : va_G} {T3 : Nat → ClassId} {A : Nat → Prop} {H0 : Heap} {z0 : Nat × Nat} {y : Nat} {SX : Nat → Nat → (Nat → Int32) → Prop} {pc pc' : Nat} {L st L' st' : List Value} {h h' : xH} (hC : CX SX A H0 D T3 p R s m args meth c y) (hd : decode (x_cd y) pc = .ok (.dup, 1)) (hs : (match st with | v :: t => (if v.category = 1 then nx (pc + 1) L (v :: v :: t) h else none) | _ => none) = some (.inl (pc', L', st', h'))) (hk : WS p l e R s m args below meth c Q D T3 SX A H0 z0 y pc' L' st' h') : WS p l e R s m args below meth c Q D T3 SX A H0 z0 y pc L st h := by
  split at hs
  next v t =>
    split at hs
    next hv =>
      cases hs
      exact fun ls H locs cells slots hst => lv_dup hC.1 hC.2.1 hd hv (hk _ _ _ _ _ hst)
    next => cases hs
  next => cases hs
theorem s_dup2 {p : Program} {l : Launch} {e : Env} {R : Room} {s : State} {m : MethodId} {args : Array Value} {below : List Frame} {meth : Method} {c : Code} {Q : State → Prop} {D : va_G} {T3 : Nat → ClassId} {A : Nat → Prop} {H0 : Heap} {z0 : Nat × Nat} {y : Nat} {SX : Nat → Nat → (Nat → Int32) → Prop} {pc pc' : Nat} {L st L' st' : List Value} {h h' : xH} (hC : CX SX A H0 D T3 p R s m args meth c y) (hd : decode (x_cd y) pc = .ok (.dup2, 1)) (hs : (match st with | v :: w :: t => (if v.category = 1 ∧ w.category = 1 then nx (pc + 1) L (v :: w :: v :: w :: t) h else none) | _ => none) = some (.inl (pc', L', st', h'))) (hk : WS p l e R s m args below meth c Q D T3 SX A H0 z0 y pc' L' st' h') : WS p l e R s m args below meth c Q D T3 SX A H0 z0 y pc L st h := by
  split at hs
  next v w t =>
    split at hs
    next hv =>
      cases hs
      exact fun ls H locs cells slots hst => lv_dup2_11 hC.1 hC.2.1 hd hv.1 hv.2 (hk _ _ _ _ _ hst)
    next => cases hs
  next => cases hs
theorem ws_if {pc pc' : Nat} {L st L' st' : List Value} {h h' : xH} {b : Bool} {off : Int} (hs : xIf pc b off L st h = some (.inl (pc', L', st', h'))) : L' = L ∧ st' = st ∧ h' = h ∧ (pc : Int) + off = ((((pc : Int) + off).toNat : Nat) : Int) ∧ ((b = true ∧ pc' = ((pc : Int) + off).toNat) ∨ (b = false ∧ pc' = pc + 3)) := by
  unfold xIf at hs
  split at hs
  next h0 =>
    cases hs
    refine ⟨rfl, rfl, rfl, (Int.toNat_of_nonneg h0).symm, ?_⟩
    cases b
    · exact Or.inr ⟨rfl, rfl⟩
    · exact Or.inl ⟨rfl, rfl⟩
  next => cases hs
theorem ws_goto {pc pc' : Nat} {L st L' st' : List Value} {h h' : xH} {off : Int} (hs : jp pc off L st h = some (.inl (pc', L', st', h'))) : L' = L ∧ st' = st ∧ h' = h ∧ (pc : Int) + off = (pc' : Int) := by
  unfold jp at hs
  split at hs
  next h0 => cases hs; exact ⟨rfl, rfl, rfl, (Int.toNat_of_nonneg h0).symm⟩
  next => cases hs
theorem s_if_eq {p : Program} {l : Launch} {e : Env} {R : Room} {s : State} {m : MethodId} {args : Array Value} {below : List Frame} {meth : Method} {c : Code} {Q : State → Prop} {D : va_G} {T3 : Nat → ClassId} {A : Nat → Prop} {H0 : Heap} {z0 : Nat × Nat} {y : Nat} {SX : Nat → Nat → (Nat → Int32) → Prop} {pc pc' : Nat} {L t L' st' : List Value} {h h' : xH} (hC : CX SX A H0 D T3 p R s m args meth c y) {x : Int32} {off : Int} (hd : decode (x_cd y) pc = .ok (.ifCond .eq off, 3)) (hs : xIf pc (xc .eq x 0) off L t h = some (.inl (pc', L', st', h'))) (hk : WS p l e R s m args below meth c Q D T3 SX A H0 z0 y pc' L' st' h') : WS p l e R s m args below meth c Q D T3 SX A H0 z0 y pc L (.int x :: t) h := by
  obtain ⟨rfl, rfl, rfl, ht, ⟨hb, rfl⟩ | ⟨hb, rfl⟩⟩ := ws_if hs
  · intro ls H locs cells slots hst
    have hb : decide (x = 0) = true := hb
    exact lv_if_eq hC.1 hC.2.1 hd ht (fun q => hk _ _ _ _ _ hst) (fun q => absurd (of_decide_eq_true hb) q)
  · intro ls H locs cells slots hst
    have hb : decide (x = 0) = false := hb
    exact lv_if_eq hC.1 hC.2.1 hd ht (fun q => absurd q (of_decide_eq_false hb)) (fun q => hk _ _ _ _ _ hst)
theorem s_if_ne {p : Program} {l : Launch} {e : Env} {R : Room} {s : State} {m : MethodId} {args : Array Value} {below : List Frame} {meth : Method} {c : Code} {Q : State → Prop} {D : va_G} {T3 : Nat → ClassId} {A : Nat → Prop} {H0 : Heap} {z0 : Nat × Nat} {y : Nat} {SX : Nat → Nat → (Nat → Int32) → Prop} {pc pc' : Nat} {L t L' st' : List Value} {h h' : xH} (hC : CX SX A H0 D T3 p R s m args meth c y) {x : Int32} {off : Int} (hd : decode (x_cd y) pc = .ok (.ifCond .ne off, 3)) (hs : xIf pc (xc .ne x 0) off L t h = some (.inl (pc', L', st', h'))) (hk : WS p l e R s m args below meth c Q D T3 SX A H0 z0 y pc' L' st' h') : WS p l e R s m args below meth c Q D T3 SX A H0 z0 y pc L (.int x :: t) h := by
  obtain ⟨rfl, rfl, rfl, ht, ⟨hb, rfl⟩ | ⟨hb, rfl⟩⟩ := ws_if hs
  · intro ls H locs cells slots hst
    have hb : decide (¬ x = 0) = true := hb
    exact lv_if_ne hC.1 hC.2.1 hd ht (fun q => hk _ _ _ _ _ hst) (fun q => absurd q (of_decide_eq_true hb))
  · intro ls H locs cells slots hst
    have hb : decide (¬ x = 0) = false := hb
    exact lv_if_ne hC.1 hC.2.1 hd ht (fun q => absurd q (of_decide_eq_false hb)) (fun q => hk _ _ _ _ _ hst)
theorem s_if_lt {p : Program} {l : Launch} {e : Env} {R : Room} {s : State} {m : MethodId} {args : Array Value} {below : List Frame} {meth : Method} {c : Code} {Q : State → Prop} {D : va_G} {T3 : Nat → ClassId} {A : Nat → Prop} {H0 : Heap} {z0 : Nat × Nat} {y : Nat} {SX : Nat → Nat → (Nat → Int32) → Prop} {pc pc' : Nat} {L t L' st' : List Value} {h h' : xH} (hC : CX SX A H0 D T3 p R s m args meth c y) {x : Int32} {off : Int} (hd : decode (x_cd y) pc = .ok (.ifCond .lt off, 3)) (hs : xIf pc (xc .lt x 0) off L t h = some (.inl (pc', L', st', h'))) (hk : WS p l e R s m args below meth c Q D T3 SX A H0 z0 y pc' L' st' h') : WS p l e R s m args below meth c Q D T3 SX A H0 z0 y pc L (.int x :: t) h := by
  obtain ⟨rfl, rfl, rfl, ht, ⟨hb, rfl⟩ | ⟨hb, rfl⟩⟩ := ws_if hs
  · intro ls H locs cells slots hst
    have hb : decide (x < 0) = true := hb
    exact lv_if_lt hC.1 hC.2.1 hd ht (fun q => hk _ _ _ _ _ hst) (fun q => absurd (of_decide_eq_true hb) q)
  · intro ls H locs cells slots hst
    have hb : decide (x < 0) = false := hb
    exact lv_if_lt hC.1 hC.2.1 hd ht (fun q => absurd q (of_decide_eq_false hb)) (fun q => hk _ _ _ _ _ hst)
theorem s_if_ge {p : Program} {l : Launch} {e : Env} {R : Room} {s : State} {m : MethodId} {args : Array Value} {below : List Frame} {meth : Method} {c : Code} {Q : State → Prop} {D : va_G} {T3 : Nat → ClassId} {A : Nat → Prop} {H0 : Heap} {z0 : Nat × Nat} {y : Nat} {SX : Nat → Nat → (Nat → Int32) → Prop} {pc pc' : Nat} {L t L' st' : List Value} {h h' : xH} (hC : CX SX A H0 D T3 p R s m args meth c y) {x : Int32} {off : Int} (hd : decode (x_cd y) pc = .ok (.ifCond .ge off, 3)) (hs : xIf pc (xc .ge x 0) off L t h = some (.inl (pc', L', st', h'))) (hk : WS p l e R s m args below meth c Q D T3 SX A H0 z0 y pc' L' st' h') : WS p l e R s m args below meth c Q D T3 SX A H0 z0 y pc L (.int x :: t) h := by
  obtain ⟨rfl, rfl, rfl, ht, ⟨hb, rfl⟩ | ⟨hb, rfl⟩⟩ := ws_if hs
  · intro ls H locs cells slots hst
    have hb : decide (0 ≤ x) = true := hb
    exact lv_if_ge hC.1 hC.2.1 hd ht (fun q => hk _ _ _ _ _ hst) (fun q => absurd (of_decide_eq_true hb) q)
  · intro ls H locs cells slots hst
    have hb : decide (0 ≤ x) = false := hb
    exact lv_if_ge hC.1 hC.2.1 hd ht (fun q => absurd q (of_decide_eq_false hb)) (fun q => hk _ _ _ _ _ hst)
theorem s_if_gt {p : Program} {l : Launch} {e : Env} {R : Room} {s : State} {m : MethodId} {args : Array Value} {below : List Frame} {meth : Method} {c : Code} {Q : State → Prop} {D : va_G} {T3 : Nat → ClassId} {A : Nat → Prop} {H0 : Heap} {z0 : Nat × Nat} {y : Nat} {SX : Nat → Nat → (Nat → Int32) → Prop} {pc pc' : Nat} {L t L' st' : List Value} {h h' : xH} (hC : CX SX A H0 D T3 p R s m args meth c y) {x : Int32} {off : Int} (hd : decode (x_cd y) pc = .ok (.ifCond .gt off, 3)) (hs : xIf pc (xc .gt x 0) off L t h = some (.inl (pc', L', st', h'))) (hk : WS p l e R s m args below meth c Q D T3 SX A H0 z0 y pc' L' st' h') : WS p l e R s m args below meth c Q D T3 SX A H0 z0 y pc L (.int x :: t) h := by
  obtain ⟨rfl, rfl, rfl, ht, ⟨hb, rfl⟩ | ⟨hb, rfl⟩⟩ := ws_if hs
  · intro ls H locs cells slots hst
    have hb : decide (0 < x) = true := hb
    exact lv_if_gt hC.1 hC.2.1 hd ht (fun q => hk _ _ _ _ _ hst) (fun q => absurd (of_decide_eq_true hb) q)
  · intro ls H locs cells slots hst
    have hb : decide (0 < x) = false := hb
    exact lv_if_gt hC.1 hC.2.1 hd ht (fun q => absurd q (of_decide_eq_false hb)) (fun q => hk _ _ _ _ _ hst)
theorem s_if_le {p : Program} {l : Launch} {e : Env} {R : Room} {s : State} {m : MethodId} {args : Array Value} {below : List Frame} {meth : Method} {c : Code} {Q : State → Prop} {D : va_G} {T3 : Nat → ClassId} {A : Nat → Prop} {H0 : Heap} {z0 : Nat × Nat} {y : Nat} {SX : Nat → Nat → (Nat → Int32) → Prop} {pc pc' : Nat} {L t L' st' : List Value} {h h' : xH} (hC : CX SX A H0 D T3 p R s m args meth c y) {x : Int32} {off : Int} (hd : decode (x_cd y) pc = .ok (.ifCond .le off, 3)) (hs : xIf pc (xc .le x 0) off L t h = some (.inl (pc', L', st', h'))) (hk : WS p l e R s m args below meth c Q D T3 SX A H0 z0 y pc' L' st' h') : WS p l e R s m args below meth c Q D T3 SX A H0 z0 y pc L (.int x :: t) h := by
  obtain ⟨rfl, rfl, rfl, ht, ⟨hb, rfl⟩ | ⟨hb, rfl⟩⟩ := ws_if hs
  · intro ls H locs cells slots hst
    have hb : decide (x ≤ 0) = true := hb
    exact lv_if_le hC.1 hC.2.1 hd ht (fun q => hk _ _ _ _ _ hst) (fun q => absurd (of_decide_eq_true hb) q)
  · intro ls H locs cells slots hst
    have hb : decide (x ≤ 0) = false := hb
    exact lv_if_le hC.1 hC.2.1 hd ht (fun q => absurd q (of_decide_eq_false hb)) (fun q => hk _ _ _ _ _ hst)
theorem s_icmp_eq {p : Program} {l : Launch} {e : Env} {R : Room} {s : State} {m : MethodId} {args : Array Value} {below : List Frame} {meth : Method} {c : Code} {Q : State → Prop} {D : va_G} {T3 : Nat → ClassId} {A : Nat → Prop} {H0 : Heap} {z0 : Nat × Nat} {y : Nat} {SX : Nat → Nat → (Nat → Int32) → Prop} {pc pc' : Nat} {L t L' st' : List Value} {h h' : xH} (hC : CX SX A H0 D T3 p R s m args meth c y) {x yy : Int32} {off : Int} (hd : decode (x_cd y) pc = .ok (.if_icmp .eq off, 3)) (hs : xIf pc (xc .eq x yy) off L t h = some (.inl (pc', L', st', h'))) (hk : WS p l e R s m args below meth c Q D T3 SX A H0 z0 y pc' L' st' h') : WS p l e R s m args below meth c Q D T3 SX A H0 z0 y pc L (.int yy :: .int x :: t) h := by
  obtain ⟨rfl, rfl, rfl, ht, ⟨hb, rfl⟩ | ⟨hb, rfl⟩⟩ := ws_if hs
  · intro ls H locs cells slots hst
    have hb : decide (x = yy) = true := hb
    exact lv_icmp_eq hC.1 hC.2.1 hd ht (fun q => hk _ _ _ _ _ hst) (fun q => absurd (of_decide_eq_true hb) q)
  · intro ls H locs cells slots hst
    have hb : decide (x = yy) = false := hb
    exact lv_icmp_eq hC.1 hC.2.1 hd ht (fun q => absurd q (of_decide_eq_false hb)) (fun q => hk _ _ _ _ _ hst)
theorem s_icmp_ne {p : Program} {l : Launch} {e : Env} {R : Room} {s : State} {m : MethodId} {args : Array Value} {below : List Frame} {meth : Method} {c : Code} {Q : State → Prop} {D : va_G} {T3 : Nat → ClassId} {A : Nat → Prop} {H0 : Heap} {z0 : Nat × Nat} {y : Nat} {SX : Nat → Nat → (Nat → Int32) → Prop} {pc pc' : Nat} {L t L' st' : List Value} {h h' : xH} (hC : CX SX A H0 D T3 p R s m args meth c y) {x yy : Int32} {off : Int} (hd : decode (x_cd y) pc = .ok (.if_icmp .ne off, 3)) (hs : xIf pc (xc .ne x yy) off L t h = some (.inl (pc', L', st', h'))) (hk : WS p l e R s m args below meth c Q D T3 SX A H0 z0 y pc' L' st' h') : WS p l e R s m args below meth c Q D T3 SX A H0 z0 y pc L (.int yy :: .int x :: t) h := by
  obtain ⟨rfl, rfl, rfl, ht, ⟨hb, rfl⟩ | ⟨hb, rfl⟩⟩ := ws_if hs
  · intro ls H locs cells slots hst
    have hb : decide (¬ x = yy) = true := hb
    exact lv_icmp_ne hC.1 hC.2.1 hd ht (fun q => hk _ _ _ _ _ hst) (fun q => absurd q (of_decide_eq_true hb))
  · intro ls H locs cells slots hst
    have hb : decide (¬ x = yy) = false := hb
    exact lv_icmp_ne hC.1 hC.2.1 hd ht (fun q => absurd q (of_decide_eq_false hb)) (fun q => hk _ _ _ _ _ hst)
theorem s_icmp_lt {p : Program} {l : Launch} {e : Env} {R : Room} {s : State} {m : MethodId} {args : Array Value} {below : List Frame} {meth : Method} {c : Code} {Q : State → Prop} {D : va_G} {T3 : Nat → ClassId} {A : Nat → Prop} {H0 : Heap} {z0 : Nat × Nat} {y : Nat} {SX : Nat → Nat → (Nat → Int32) → Prop} {pc pc' : Nat} {L t L' st' : List Value} {h h' : xH} (hC : CX SX A H0 D T3 p R s m args meth c y) {x yy : Int32} {off : Int} (hd : decode (x_cd y) pc = .ok (.if_icmp .lt off, 3)) (hs : xIf pc (xc .lt x yy) off L t h = some (.inl (pc', L', st', h'))) (hk : WS p l e R s m args below meth c Q D T3 SX A H0 z0 y pc' L' st' h') : WS p l e R s m args below meth c Q D T3 SX A H0 z0 y pc L (.int yy :: .int x :: t) h := by
  obtain ⟨rfl, rfl, rfl, ht, ⟨hb, rfl⟩ | ⟨hb, rfl⟩⟩ := ws_if hs
  · intro ls H locs cells slots hst
    have hb : decide (x < yy) = true := hb
    exact lv_icmp_lt hC.1 hC.2.1 hd ht (fun q => hk _ _ _ _ _ hst) (fun q => absurd (of_decide_eq_true hb) q)
  · intro ls H locs cells slots hst
    have hb : decide (x < yy) = false := hb
    exact lv_icmp_lt hC.1 hC.2.1 hd ht (fun q => absurd q (of_decide_eq_false hb)) (fun q => hk _ _ _ _ _ hst)
theorem s_icmp_ge {p : Program} {l : Launch} {e : Env} {R : Room} {s : State} {m : MethodId} {args : Array Value} {below : List Frame} {meth : Method} {c : Code} {Q : State → Prop} {D : va_G} {T3 : Nat → ClassId} {A : Nat → Prop} {H0 : Heap} {z0 : Nat × Nat} {y : Nat} {SX : Nat → Nat → (Nat → Int32) → Prop} {pc pc' : Nat} {L t L' st' : List Value} {h h' : xH} (hC : CX SX A H0 D T3 p R s m args meth c y) {x yy : Int32} {off : Int} (hd : decode (x_cd y) pc = .ok (.if_icmp .ge off, 3)) (hs : xIf pc (xc .ge x yy) off L t h = some (.inl (pc', L', st', h'))) (hk : WS p l e R s m args below meth c Q D T3 SX A H0 z0 y pc' L' st' h') : WS p l e R s m args below meth c Q D T3 SX A H0 z0 y pc L (.int yy :: .int x :: t) h := by
  obtain ⟨rfl, rfl, rfl, ht, ⟨hb, rfl⟩ | ⟨hb, rfl⟩⟩ := ws_if hs
  · intro ls H locs cells slots hst
    have hb : decide (yy ≤ x) = true := hb
    exact lv_icmp_ge hC.1 hC.2.1 hd ht (fun q => hk _ _ _ _ _ hst) (fun q => absurd (of_decide_eq_true hb) q)
  · intro ls H locs cells slots hst
    have hb : decide (yy ≤ x) = false := hb
    exact lv_icmp_ge hC.1 hC.2.1 hd ht (fun q => absurd q (of_decide_eq_false hb)) (fun q => hk _ _ _ _ _ hst)
theorem s_icmp_gt {p : Program} {l : Launch} {e : Env} {R : Room} {s : State} {m : MethodId} {args : Array Value} {below : List Frame} {meth : Method} {c : Code} {Q : State → Prop} {D : va_G} {T3 : Nat → ClassId} {A : Nat → Prop} {H0 : Heap} {z0 : Nat × Nat} {y : Nat} {SX : Nat → Nat → (Nat → Int32) → Prop} {pc pc' : Nat} {L t L' st' : List Value} {h h' : xH} (hC : CX SX A H0 D T3 p R s m args meth c y) {x yy : Int32} {off : Int} (hd : decode (x_cd y) pc = .ok (.if_icmp .gt off, 3)) (hs : xIf pc (xc .gt x yy) off L t h = some (.inl (pc', L', st', h'))) (hk : WS p l e R s m args below meth c Q D T3 SX A H0 z0 y pc' L' st' h') : WS p l e R s m args below meth c Q D T3 SX A H0 z0 y pc L (.int yy :: .int x :: t) h := by
  obtain ⟨rfl, rfl, rfl, ht, ⟨hb, rfl⟩ | ⟨hb, rfl⟩⟩ := ws_if hs
  · intro ls H locs cells slots hst
    have hb : decide (yy < x) = true := hb
    exact lv_icmp_gt hC.1 hC.2.1 hd ht (fun q => hk _ _ _ _ _ hst) (fun q => absurd (of_decide_eq_true hb) q)
  · intro ls H locs cells slots hst
    have hb : decide (yy < x) = false := hb
    exact lv_icmp_gt hC.1 hC.2.1 hd ht (fun q => absurd q (of_decide_eq_false hb)) (fun q => hk _ _ _ _ _ hst)
theorem s_icmp_le {p : Program} {l : Launch} {e : Env} {R : Room} {s : State} {m : MethodId} {args : Array Value} {below : List Frame} {meth : Method} {c : Code} {Q : State → Prop} {D : va_G} {T3 : Nat → ClassId} {A : Nat → Prop} {H0 : Heap} {z0 : Nat × Nat} {y : Nat} {SX : Nat → Nat → (Nat → Int32) → Prop} {pc pc' : Nat} {L t L' st' : List Value} {h h' : xH} (hC : CX SX A H0 D T3 p R s m args meth c y) {x yy : Int32} {off : Int} (hd : decode (x_cd y) pc = .ok (.if_icmp .le off, 3)) (hs : xIf pc (xc .le x yy) off L t h = some (.inl (pc', L', st', h'))) (hk : WS p l e R s m args below meth c Q D T3 SX A H0 z0 y pc' L' st' h') : WS p l e R s m args below meth c Q D T3 SX A H0 z0 y pc L (.int yy :: .int x :: t) h := by
  obtain ⟨rfl, rfl, rfl, ht, ⟨hb, rfl⟩ | ⟨hb, rfl⟩⟩ := ws_if hs
  · intro ls H locs cells slots hst
    have hb : decide (x ≤ yy) = true := hb
    exact lv_icmp_le hC.1 hC.2.1 hd ht (fun q => hk _ _ _ _ _ hst) (fun q => absurd (of_decide_eq_true hb) q)
  · intro ls H locs cells slots hst
    have hb : decide (x ≤ yy) = false := hb
    exact lv_icmp_le hC.1 hC.2.1 hd ht (fun q => absurd q (of_decide_eq_false hb)) (fun q => hk _ _ _ _ _ hst)
theorem s_if {p : Program} {l : Launch} {e : Env} {R : Room} {s : State} {m : MethodId} {args : Array Value} {below : List Frame} {meth : Method} {c : Code} {Q : State → Prop} {D : va_G} {T3 : Nat → ClassId} {A : Nat → Prop} {H0 : Heap} {z0 : Nat × Nat} {y : Nat} {SX : Nat → Nat → (Nat → Int32) → Prop} {pc pc' : Nat} {L st L' st' : List Value} {h h' : xH} (hC : CX SX A H0 D T3 p R s m args meth c y) {cnd : Jvm.ClassFile.Cond} {off : Int} (hd : decode (x_cd y) pc = .ok (.ifCond cnd off, 3)) (hs : (match st with | .int x :: t => xIf pc (xc cnd x 0) off L t h | _ => none) = some (.inl (pc', L', st', h'))) (hk : WS p l e R s m args below meth c Q D T3 SX A H0 z0 y pc' L' st' h') : WS p l e R s m args below meth c Q D T3 SX A H0 z0 y pc L st h := by
  split at hs
  next x t =>
    cases cnd
    · exact s_if_eq hC hd hs hk
    · exact s_if_ne hC hd hs hk
    · exact s_if_lt hC hd hs hk
    · exact s_if_ge hC hd hs hk
    · exact s_if_gt hC hd hs hk
    · exact s_if_le hC hd hs hk
  next => cases hs
theorem s_icmp {p : Program} {l : Launch} {e : Env} {R : Room} {s : State} {m : MethodId} {args : Array Value} {below : List Frame} {meth : Method} {c : Code} {Q : State → Prop} {D : va_G} {T3 : Nat → ClassId} {A : Nat → Prop} {H0 : Heap} {z0 : Nat × Nat} {y : Nat} {SX : Nat → Nat → (Nat → Int32) → Prop} {pc pc' : Nat} {L st L' st' : List Value} {h h' : xH} (hC : CX SX A H0 D T3 p R s m args meth c y) {cnd : Jvm.ClassFile.Cond} {off : Int} (hd : decode (x_cd y) pc = .ok (.if_icmp cnd off, 3)) (hs : (x2i st fun a b t => xIf pc (xc cnd a b) off L t h) = some (.inl (pc', L', st', h'))) (hk : WS p l e R s m args below meth c Q D T3 SX A H0 z0 y pc' L' st' h') : WS p l e R s m args below meth c Q D T3 SX A H0 z0 y pc L st h := by
  obtain ⟨a, b, t, rfl, hs2⟩ := x2i_of hs
  clear hs
  have hs := hs2
  cases cnd
  · exact s_icmp_eq hC hd hs hk
  · exact s_icmp_ne hC hd hs hk
  · exact s_icmp_lt hC hd hs hk
  · exact s_icmp_ge hC hd hs hk
  · exact s_icmp_gt hC hd hs hk
  · exact s_icmp_le hC hd hs hk
theorem s_goto {p : Program} {l : Launch} {e : Env} {R : Room} {s : State} {m : MethodId} {args : Array Value} {below : List Frame} {meth : Method} {c : Code} {Q : State → Prop} {D : va_G} {T3 : Nat → ClassId} {A : Nat → Prop} {H0 : Heap} {z0 : Nat × Nat} {y : Nat} {SX : Nat → Nat → (Nat → Int32) → Prop} {pc pc' : Nat} {L st L' st' : List Value} {h h' : xH} (hC : CX SX A H0 D T3 p R s m args meth c y) {off : Int} (hd : decode (x_cd y) pc = .ok (.goto off, 3)) (hs : jp pc off L st h = some (.inl (pc', L', st', h'))) (hk : WS p l e R s m args below meth c Q D T3 SX A H0 z0 y pc' L' st' h') : WS p l e R s m args below meth c Q D T3 SX A H0 z0 y pc L st h := by
  obtain ⟨rfl, rfl, rfl, ht⟩ := ws_goto hs
  exact fun ls H locs cells slots hst => lv_goto hC.1 hC.2.1 hd ht (hk _ _ _ _ _ hst)
theorem s_ifnull {p : Program} {l : Launch} {e : Env} {R : Room} {s : State} {m : MethodId} {args : Array Value} {below : List Frame} {meth : Method} {c : Code} {Q : State → Prop} {D : va_G} {T3 : Nat → ClassId} {A : Nat → Prop} {H0 : Heap} {z0 : Nat × Nat} {y : Nat} {SX : Nat → Nat → (Nat → Int32) → Prop} {pc pc' : Nat} {L st L' st' : List Value} {h h' : xH} (hC : CX SX A H0 D T3 p R s m args meth c y) {off : Int} (hd : decode (x_cd y) pc = .ok (.ifnull off, 3)) (hs : (match st with | .ref _ :: t => nx (pc + 3) L t h | .null :: t => jp pc off L t h | _ => none) = some (.inl (pc', L', st', h'))) (hk : WS p l e R s m args below meth c Q D T3 SX A H0 z0 y pc' L' st' h') : WS p l e R s m args below meth c Q D T3 SX A H0 z0 y pc L st h := by
  split at hs
  next x t =>
    cases hs
    exact fun ls H locs cells slots hst => lv_ifnull hC.1 hC.2.1 hd (hk _ _ _ _ _ hst)
  next t =>
    obtain ⟨rfl, rfl, rfl, ht⟩ := ws_goto hs
    exact fun ls H locs cells slots hst => lv_ifnullN hC.1 hC.2.1 hd ht (hk _ _ _ _ _ hst)
  next => cases hs
theorem s_ifnonnull {p : Program} {l : Launch} {e : Env} {R : Room} {s : State} {m : MethodId} {args : Array Value} {below : List Frame} {meth : Method} {c : Code} {Q : State → Prop} {D : va_G} {T3 : Nat → ClassId} {A : Nat → Prop} {H0 : Heap} {z0 : Nat × Nat} {y : Nat} {SX : Nat → Nat → (Nat → Int32) → Prop} {pc pc' : Nat} {L st L' st' : List Value} {h h' : xH} (hC : CX SX A H0 D T3 p R s m args meth c y) {off : Int} (hd : decode (x_cd y) pc = .ok (.ifnonnull off, 3)) (hs : (match st with | .ref _ :: t => jp pc off L t h | .null :: t => nx (pc + 3) L t h | _ => none) = some (.inl (pc', L', st', h'))) (hk : WS p l e R s m args below meth c Q D T3 SX A H0 z0 y pc' L' st' h') : WS p l e R s m args below meth c Q D T3 SX A H0 z0 y pc L st h := by
  split at hs
  next x t =>
    obtain ⟨rfl, rfl, rfl, ht⟩ := ws_goto hs
    exact fun ls H locs cells slots hst => lv_ifnonnull hC.1 hC.2.1 hd ht (hk _ _ _ _ _ hst)
  next t =>
    cases hs
    exact fun ls H locs cells slots hst => lv_ifnonnullN hC.1 hC.2.1 hd (hk _ _ _ _ _ hst)
  next => cases hs
theorem s_table {p : Program} {l : Launch} {e : Env} {R : Room} {s : State} {m : MethodId} {args : Array Value} {below : List Frame} {meth : Method} {c : Code} {Q : State → Prop} {D : va_G} {T3 : Nat → ClassId} {A : Nat → Prop} {H0 : Heap} {z0 : Nat × Nat} {y : Nat} {SX : Nat → Nat → (Nat → Int32) → Prop} {pc pc' : Nat} {L st L' st' : List Value} {h h' : xH} (hC : CX SX A H0 D T3 p R s m args meth c y) {dflt lo hi : Int} {offs : Array Int} {len : Nat} (hd : decode (x_cd y) pc = .ok (.tableswitch dflt lo hi offs, len)) (hs : xTab pc dflt lo hi offs L st h = some (.inl (pc', L', st', h'))) (hk : WS p l e R s m args below meth c Q D T3 SX A H0 z0 y pc' L' st' h') : WS p l e R s m args below meth c Q D T3 SX A H0 z0 y pc L st h := by
  unfold xTab at hs
  split at hs
  next x t =>
    split at hs
    next hx =>
      obtain ⟨rfl, rfl, rfl, ht⟩ := ws_goto hs
      exact fun ls H locs cells slots hst => lv_tableOut hC.1 hC.2.1 hd hx ht (hk _ _ _ _ _ hst)
    next hx =>
      split at hs
      next off ho =>
        obtain ⟨rfl, rfl, rfl, ht⟩ := ws_goto hs
        exact fun ls H locs cells slots hst => lv_tableIn hC.1 hC.2.1 hd (fun q => hx (Or.inl q)) (fun q => hx (Or.inr q)) ho ht (hk _ _ _ _ _ hst)
      next => cases hs
  next => cases hs
theorem s_look {p : Program} {l : Launch} {e : Env} {R : Room} {s : State} {m : MethodId} {args : Array Value} {below : List Frame} {meth : Method} {c : Code} {Q : State → Prop} {D : va_G} {T3 : Nat → ClassId} {A : Nat → Prop} {H0 : Heap} {z0 : Nat × Nat} {y : Nat} {SX : Nat → Nat → (Nat → Int32) → Prop} {pc pc' : Nat} {L st L' st' : List Value} {h h' : xH} (hC : CX SX A H0 D T3 p R s m args meth c y) {dflt : Int} {ps : Array (Int × Int)} {len : Nat} (hd : decode (x_cd y) pc = .ok (.lookupswitch dflt ps, len)) (hs : xLook pc dflt ps L st h = some (.inl (pc', L', st', h'))) (hk : WS p l e R s m args below meth c Q D T3 SX A H0 z0 y pc' L' st' h') : WS p l e R s m args below meth c Q D T3 SX A H0 z0 y pc L st h := by
  unfold xLook at hs
  split at hs
  next x t =>
    split at hs
    next hx =>
      obtain ⟨rfl, rfl, rfl, ht⟩ := ws_goto hs
      exact fun ls H locs cells slots hst => lv_lookup hC.1 hC.2.1 hd hx rfl ht (hk _ _ _ _ _ hst)
    next => cases hs
  next => cases hs
end
section
theorem x_clsRC : ∀ (ci : Nat) (r : vw_C), x_CLS[ci]? = some r → x_RC ci = r.1
  | 0, r, h => by cases h; rfl
  | 1, r, h => by cases h; rfl
  | 2, r, h => by cases h; rfl
  | 3, r, h => by cases h; rfl
  | 4, r, h => by cases h; rfl
  | 5, r, h => by cases h; rfl
  | 6, r, h => by cases h; rfl
  | 7, r, h => by cases h; rfl
  | 8, r, h => by cases h; rfl
  | n + 9, r, h => by simp at h
theorem isF_of {x : va_E} {ci k : Nat} (h : isF x ci k = true) : ∃ fs : List Value, x = .inr (ci, fs) ∧ k < fs.length := by
  unfold isF at h
  split at h
  next cj fs =>
    simp only [Bool.and_eq_true, decide_eq_true_eq] at h
    obtain ⟨rfl, h2⟩ := h
    exact ⟨fs, rfl, h2⟩
  next => cases h
theorem x_hts {p : Program} {R : Room} {s : State} {m : MethodId} {args : Array Value} {meth : Method} {c : Code} {D : va_G} {T3 : Nat → ClassId} {y : Nat} {SX : Nat → Nat → (Nat → Int32) → Prop} {A : Nat → Prop} {H0 : Heap} (hC : CX SX A H0 D T3 p R s m args meth c y) : ∀ w ∈ x_TG, w.before args s = true := hC.2.2.2.2.1
theorem x_own {p : Program} {R : Room} {s : State} {m : MethodId} {args : Array Value} {meth : Method} {c : Code} {D : va_G} {T3 : Nat → ClassId} {y : Nat} {SX : Nat → Nat → (Nat → Int32) → Prop} {A : Nat → Prop} {H0 : Heap} (hC : CX SX A H0 D T3 p R s m args meth c y) : s.vm.findClass (x_RC (x_kl y)) = some m.cls := hC.2.2.2.1
theorem x_KK {p : Program} {R : Room} {s : State} {m : MethodId} {args : Array Value} {meth : Method} {c : Code} {D : va_G} {T3 : Nat → ClassId} {y : Nat} {SX : Nat → Nat → (Nat → Int32) → Prop} {A : Nat → Prop} {H0 : Heap} (hC : CX SX A H0 D T3 p R s m args meth c y) : KK D T3 s := hC.2.2.2.2.2.1
theorem s_get {p : Program} {l : Launch} {e : Env} {R : Room} {s : State} {m : MethodId} {args : Array Value} {below : List Frame} {meth : Method} {c : Code} {Q : State → Prop} {D : va_G} {T3 : Nat → ClassId} {A : Nat → Prop} {H0 : Heap} {z0 : Nat × Nat} {y : Nat} {SX : Nat → Nat → (Nat → Int32) → Prop} {pc pc' : Nat} {L st L' st' : List Value} {h h' : xH} (hC : CX SX A H0 D T3 p R s m args meth c y) {ix : Nat} (hd : decode (x_cd y) pc = .ok (.getfield ix, 3)) (hs : xGet y ix pc L st h = some (.inl (pc', L', st', h'))) (hk : WS p l e R s m args below meth c Q D T3 SX A H0 z0 y pc' L' st' h') : WS p l e R s m args below meth c Q D T3 SX A H0 z0 y pc L st h := by
  unfold xGet at hs
  split at hs
  next a t =>
    split at hs
    next ci k hg =>
      split at hs
      next hf =>
        cases hs
        intro ls H locs cells slots hst
        obtain ⟨C, T, N, h1, h2, h3, h4⟩ := x_gfl _ (x_find_mem _ _ _ _ hg)
        obtain ⟨fs, he, hlen⟩ := isF_of hf
        have hat := hst.2.2.1.2.1 a (by rw [he]; exact decide_eq_true (x_clsN h1))
        rw [he] at hat
        have hv : fs[k]? = some (fld (h.2 a) k) := by
          rw [he]
          show _ = some (fs.getD k .null)
          rw [List.getD_eq_getElem?_getD, List.getElem?_eq_getElem hlen]
          rfl
        have hsame : ∀ x, s.fieldFound? (T k).1 (T k).2.1 (T k).2.2.1 = some x → s.fieldFound? C (T k).2.1 (T k).2.2.1 = some x := fun x hx => by
          have h3' : (T k).1 = C := h3
          rw [h3'] at hx; exact hx
        have hcl := x_clA ci C T N h1
        rcases h4 with hl | ⟨host, hl⟩
        · exact va_get hC.1 hC.2.1 (x_hts hC) hcl.1 (x_own hC) (x_KK hC).1 (va_one hat) 0 rfl h1 k h2 (x_hts hC _ hl) hsame hv hd (hk _ _ _ _ _ hst)
        · exact va_getN hC.1 hC.2.1 (x_hts hC) hcl.1 (x_own hC) (x_KK hC).1 (va_one hat) 0 rfl h1 k h2 (va_Nw.use rfl ((x_KK hC).2.1 _ hl)) hsame hv hd (hk _ _ _ _ _ hst)
      next => cases hs
    next => cases hs
  next => cases hs
theorem x_fits_of {ty : FieldType} {v : Value} (h : x_fits ty v = true) : narrow ty v = v ∧ fits ty v = true := by
  unfold x_fits at h
  split at h
  · exact ⟨rfl, rfl⟩
  · next v =>
    simp only [Bool.or_eq_true, beq_iff_eq] at h
    rcases h with rfl | rfl
    · exact ⟨rfl, rfl⟩
    · exact ⟨rfl, rfl⟩
  · exact ⟨rfl, rfl⟩
  · exact ⟨rfl, rfl⟩
  · exact ⟨rfl, rfl⟩
  · exact ⟨rfl, rfl⟩
  · cases h
theorem ST.put {D : va_G} {T3 : Nat → ClassId} {SX : Nat → Nat → (Nat → Int32) → Prop} {A : Nat → Prop} {H0 H H' : Heap} {z0 : Nat × Nat} {s0 y : Nat} {ls : Array Slot} {L : List Value} {h : xH} {locs : List Loc} {cells slots a k : Nat} {x : va_E} (hst : ST D T3 SX A H0 z0 s0 y ls L h H locs cells slots) (h3 : ∀ n f, x ≠ .inl (3, n, .inl f)) (ha : A a) (hz : H'.size = H.size) (he : va_at D x_CLS (a, x_cell T3 x) H') (ho : ∀ q : Nat, q ≠ a → H'[q]? = H[q]?) : ST D T3 SX A H0 z0 s0 y ls L (h.1, mu h.2 a x) H' (locs ++ [⟨a, k⟩]) cells slots :=
  ⟨hst.1, hst.2.1, hst.2.2.1.put h3 ha hz he ho, hst.2.2.2.1.put hz ho ha, hst.2.2.2.2⟩
theorem s_put {p : Program} {l : Launch} {e : Env} {R : Room} {s : State} {m : MethodId} {args : Array Value} {below : List Frame} {meth : Method} {c : Code} {Q : State → Prop} {D : va_G} {T3 : Nat → ClassId} {A : Nat → Prop} {H0 : Heap} {z0 : Nat × Nat} {y : Nat} {SX : Nat → Nat → (Nat → Int32) → Prop} {pc pc' : Nat} {L st L' st' : List Value} {h h' : xH} (hC : CX SX A H0 D T3 p R s m args meth c y) {ix : Nat} (hd : decode (x_cd y) pc = .ok (.putfield ix, 3)) (hs : xPut y ix pc L st h = some (.inl (pc', L', st', h'))) (hk : WS p l e R s m args below meth c Q D T3 SX A H0 z0 y pc' L' st' h') : WS p l e R s m args below meth c Q D T3 SX A H0 z0 y pc L st h := by
  unfold xPut at hs
  split at hs
  next v a t =>
    split at hs
    next ci k fin hg =>
      split at hs
      next hf =>
        cases hs
        intro ls H locs cells slots hst
        obtain ⟨C, T, N, h1, h2, h3, h4, h5⟩ := x_pfl _ (x_find_mem _ _ _ _ hg)
        simp only [Bool.and_eq_true] at hf
        obtain ⟨hf1, hf2, hf3⟩ := hf
        obtain ⟨fs, he, hlen⟩ := isF_of hf1
        have hset : fset (h.2 a) k v = .inr (ci, fs.set k v) := by rw [he]; rfl
        have hat := hst.2.2.1.2.1 a (by rw [he]; exact decide_eq_true (x_clsN h1))
        have hAa : A a := hst.2.2.1.2.2.1 a (by rw [he]; exact decide_eq_true (x_clsN h1))
        rw [he] at hat
        have hsame : ∀ x, s.fieldFound? (T k).1 (T k).2.1 (T k).2.2.1 = some x → s.fieldFound? C (T k).2.1 (T k).2.2.1 = some x := fun x hx => by
          have h3' : (T k).1 = C := h3
          rw [h3'] at hx; exact hx
        have hcl := x_clA ci C T N h1
        have hap := va_apart (own := x_RC (x_kl y)) (x_hts hC) hcl.1 (x_TY ci) hcl.2.1 hcl.2.2 (x_KK hC).1 h1
        have hty := hcl.2.1 k h2
        obtain ⟨hn, hfit⟩ := x_fits_of hf2
        obtain ⟨r, hr1, cell, q1, q2, q3, q4⟩ := hat
        have hr : r = (C, T, N) := Option.some.inj (hr1.symm.trans h1)
        subst hr
        obtain ⟨hS, hfc, kC, hkC, hkind⟩ := (x_KK hC).1.1 ci _ h1
        obtain ⟨cf, kf, fi, f, hi, hsl⟩ := hS k h2
        have hlay := x_hts hC _ (hcl.1 _ (u_in_lay h2))
        have hstat := (u_facts hfc hkC (u_lays (x_hts hC) hcl.1 h2) hi).1
        unfold u_lay at hlay
        have hfin : (T k).2.2.2 = fin := h4
        have fin_ok : ∀ H' : Heap, H'[a]? = some (cell.setSlot (D.2 ci k) v) → H'.size = H.size → (∀ q : Nat, q ≠ a → H'[q]? = H[q]?) → W p l e R s m args below meth c H' (locs ++ [⟨a, D.2 ci k⟩]) cells slots Q (F0 m (pc + 3) ls st') := by
          intro H' e1 e2 e3
          refine hk ls H' _ cells slots ?_
          rw [hset]
          refine hst.put (fun _ _ q => by cases q) hAa e2 ?_ e3
          exact ⟨_, h1, t_OB.to (V := updV (vp_V fs) k v) ⟨_, e1, q2, q3, t_set q4 hap h2 v⟩ (fun j _ => vp_updV_set hlen v j)⟩
        cases fin with
        | false =>
          rw [if_neg (by rw [hfin]; decide)] at hlay
          have h6 := u_store hfc hkC hkind hlay hi hty hn hfit
          rcases h5 with hl | ⟨-, host, hl⟩
          · refine W.putK hC.1 hC.2.1 (f := f) ⟨x_own hC, x_hts hC _ hl, ⟨_, _, _, hsame _ hi⟩, hstat⟩ (by rw [q2]; exact h6) q1 q3 (by rw [hsl]; exact k2_hasslot (q4 k h2)) rfl rfl hd fun H' e1 e2 e3 => ?_
            rw [hsl] at e1 ⊢
            exact fin_ok H' e1 e2 e3
          · refine va_WputK hC.1 hC.2.1 (f := f) (x_own hC) (va_Nw.use rfl ((x_KK hC).2.1 _ hl)) (hsame _ hi) hstat (by rw [q2]; exact h6) q1 q3 (by rw [hsl]; exact k2_hasslot (q4 k h2)) rfl rfl hd fun H' e1 e2 e3 => ?_
            rw [hsl] at e1 ⊢
            exact fin_ok H' e1 e2 e3
        | true =>
          rw [if_pos hfin] at hlay
          rcases h5 with hl | ⟨hff, -⟩
          · simp only [Bool.not_true, Bool.false_or, Bool.and_eq_true, decide_eq_true_eq] at hf3
            have hci : x_RC (x_kl y) = C := by
              rw [← hf3.2]
              have h7 : ∀ (ci : Nat) (r : vw_C), x_CLS[ci]? = some r → x_RC ci = r.1 := x_clsRC
              exact h7 ci _ h1
            have hdecl : (T k).1 = x_RC (x_kl y) := by rw [hci]; exact h3
            have hcf : m.cls = cf := by
              obtain ⟨_, _, c', _, _, _, -, -, hf', -, -, -, hown2, -⟩ := Cond.laysFinal_spec hlay
              have e1 : c' = cf := by have := hi.symm.trans hf'; simp at this; exact this.1.symm
              rw [hdecl] at hown2
              rw [← e1]; exact Option.some.inj ((x_own hC).symm.trans hown2)
            have h6 := u_fits hfc hkC hkind (Or.inr hlay) hi hty hn hfit
            refine W.putFinK hC.1 hC.2.1 (x_own hC) (x_hts hC _ hl) (hsame _ hi) hstat hcf (hC.2.2.2.2.2.2.2.2.1 hf3.1) (by rw [q2]; exact h6) q1 q3 (by rw [hsl]; exact k2_hasslot (q4 k h2)) rfl rfl hd fun H' e1 e2 e3 => ?_
            rw [hsl] at e1 ⊢
            exact fin_ok H' e1 e2 e3
          · cases hff
      next => cases hs
    next => cases hs
  next => cases hs
theorem inA_of {y : Nat} {x : va_E} {i : Int32} (h : inA y x i = true) : ∃ (t n : Nat) (f : Nat → Int32), x = .inl (t, n, .inl f) ∧ (t = 0 ∨ (t = 3 ∧ y = x_LAW)) ∧ vp_in i n := by
  unfold inA at h
  split at h
  next t n f =>
    simp only [Bool.and_eq_true, Bool.or_eq_true, decide_eq_true_eq] at h
    exact ⟨t, n, f, rfl, h.1, fun q => q.elim h.2.1 (fun q => Nat.not_le.mpr h.2.2 q)⟩
  next => cases h
theorem inW_of {x : va_E} {i : Int32} (h : inW x i = true) : ∃ (n : Nat) (f : Nat → Int32), x = .inl (0, n, .inl f) ∧ vp_in i n := by
  unfold inW at h
  split at h
  next t n f =>
    simp only [Bool.and_eq_true, decide_eq_true_eq] at h
    obtain ⟨rfl, h1, h2⟩ := h
    exact ⟨n, f, rfl, fun q => q.elim h1 (fun q => Nat.not_le.mpr h2 q)⟩
  next => cases h
theorem inZ_of {x : va_E} {i : Int32} (h : inZ x i = true) : ∃ (n : Nat) (f : Nat → Int32), x = .inl (1, n, .inl f) ∧ vp_in i n := by
  unfold inZ at h
  split at h
  next t n f =>
    simp only [Bool.and_eq_true, decide_eq_true_eq] at h
    obtain ⟨rfl, h1, h2⟩ := h
    exact ⟨n, f, rfl, fun q => q.elim h1 (fun q => Nat.not_le.mpr h2 q)⟩
  next => cases h
theorem inQ_of {x : va_E} {i : Int32} (h : inQ x i = true) : ∃ (n : Nat) (f : Nat → Option Nat), x = .inl (2, n, .inr (.inr (.inr (.inr f)))) ∧ vp_in i n := by
  unfold inQ at h
  split at h
  next t n f =>
    simp only [Bool.and_eq_true, decide_eq_true_eq] at h
    obtain ⟨rfl, h1, h2⟩ := h
    exact ⟨n, f, rfl, fun q => q.elim h1 (fun q => Nat.not_le.mpr h2 q)⟩
  next => cases h
theorem isK_of {x : va_E} {ci : Nat} (h : isK x ci = true) : ∃ fs : List Value, x = .inr (ci, fs) := by
  unfold isK at h
  split at h
  next cj fs =>
    simp only [decide_eq_true_eq] at h
    subst h
    exact ⟨fs, rfl⟩
  next => cases h
theorem s_iald {p : Program} {l : Launch} {e : Env} {R : Room} {s : State} {m : MethodId} {args : Array Value} {below : List Frame} {meth : Method} {c : Code} {Q : State → Prop} {D : va_G} {T3 : Nat → ClassId} {A : Nat → Prop} {H0 : Heap} {z0 : Nat × Nat} {y : Nat} {SX : Nat → Nat → (Nat → Int32) → Prop} {pc pc' : Nat} {L st L' st' : List Value} {h h' : xH} (hC : CX SX A H0 D T3 p R s m args meth c y) (hd : decode (x_cd y) pc = .ok (.iaload, 1)) (hs : xIald y pc L st h = some (.inl (pc', L', st', h'))) (hk : WS p l e R s m args below meth c Q D T3 SX A H0 z0 y pc' L' st' h') : WS p l e R s m args below meth c Q D T3 SX A H0 z0 y pc L st h := by
  unfold xIald at hs
  split at hs
  next i a t =>
    split at hs
    next hf =>
      cases hs
      intro ls H locs cells slots hst
      obtain ⟨tg, n, f, he, ht, hin⟩ := inA_of hf
      have hg : aget (h.2 a) i = f i.toNatClampNeg := by rw [he]; rfl
      rw [hg] at hk
      rcases ht with rfl | ⟨rfl, hy⟩
      · have hat := hst.2.2.1.2.1 a (by rw [he]; rfl)
        rw [he] at hat
        exact va_iald hC.1 hC.2.1 (x_KK hC).1 (va_one hat) 0 0 rfl rfl hin hd (hk _ _ _ _ _ hst)
      · obtain ⟨g1, g2, g3⟩ := hC.2.2.2.2.2.2.2.2.2 hy _ _ _ (hst.2.2.1.2.2.2 _ _ _ he)
        exact va_sld hC.1 hC.2.1 g1 g2 g3 hst.2.2.2.1 hin hd (hk _ _ _ _ _ hst)
    next => cases hs
  next => cases hs
theorem s_zald {p : Program} {l : Launch} {e : Env} {R : Room} {s : State} {m : MethodId} {args : Array Value} {below : List Frame} {meth : Method} {c : Code} {Q : State → Prop} {D : va_G} {T3 : Nat → ClassId} {A : Nat → Prop} {H0 : Heap} {z0 : Nat × Nat} {y : Nat} {SX : Nat → Nat → (Nat → Int32) → Prop} {pc pc' : Nat} {L st L' st' : List Value} {h h' : xH} (hC : CX SX A H0 D T3 p R s m args meth c y) (hd : decode (x_cd y) pc = .ok (.baload, 1)) (hs : xZald pc L st h = some (.inl (pc', L', st', h'))) (hk : WS p l e R s m args below meth c Q D T3 SX A H0 z0 y pc' L' st' h') : WS p l e R s m args below meth c Q D T3 SX A H0 z0 y pc L st h := by
  unfold xZald at hs
  split at hs
  next i a t =>
    split at hs
    next hf =>
      cases hs
      intro ls H locs cells slots hst
      obtain ⟨n, f, he, hin⟩ := inZ_of hf
      have hat := hst.2.2.1.2.1 a (by rw [he]; rfl)
      have hg : aget (h.2 a) i = f i.toNatClampNeg := by rw [he]; rfl
      rw [he] at hat
      rw [hg] at hk
      exact va_zald hC.1 hC.2.1 (x_KK hC).1 (va_one hat) 0 1 rfl rfl hin hd (hk _ _ _ _ _ hst)
    next => cases hs
  next => cases hs
theorem s_aald {p : Program} {l : Launch} {e : Env} {R : Room} {s : State} {m : MethodId} {args : Array Value} {below : List Frame} {meth : Method} {c : Code} {Q : State → Prop} {D : va_G} {T3 : Nat → ClassId} {A : Nat → Prop} {H0 : Heap} {z0 : Nat × Nat} {y : Nat} {SX : Nat → Nat → (Nat → Int32) → Prop} {pc pc' : Nat} {L st L' st' : List Value} {h h' : xH} (hC : CX SX A H0 D T3 p R s m args meth c y) (hd : decode (x_cd y) pc = .ok (.aaload, 1)) (hs : xAald pc L st h = some (.inl (pc', L', st', h'))) (hk : WS p l e R s m args below meth c Q D T3 SX A H0 z0 y pc' L' st' h') : WS p l e R s m args below meth c Q D T3 SX A H0 z0 y pc L st h := by
  unfold xAald at hs
  split at hs
  next i a t =>
    split at hs
    next hf =>
      cases hs
      intro ls H locs cells slots hst
      obtain ⟨n, f, he, hin⟩ := inQ_of hf
      have hat := hst.2.2.1.2.1 a (by rw [he]; rfl)
      have hg : qget (h.2 a) i = va_rf (f i.toNatClampNeg) := by rw [he]; rfl
      rw [he] at hat
      rw [hg] at hk
      exact va_aldq hC.1 hC.2.1 (x_KK hC).1 (va_one hat) 0 2 rfl rfl hin hd (hk _ _ _ _ _ hst)
    next => cases hs
  next => cases hs
theorem s_iast {p : Program} {l : Launch} {e : Env} {R : Room} {s : State} {m : MethodId} {args : Array Value} {below : List Frame} {meth : Method} {c : Code} {Q : State → Prop} {D : va_G} {T3 : Nat → ClassId} {A : Nat → Prop} {H0 : Heap} {z0 : Nat × Nat} {y : Nat} {SX : Nat → Nat → (Nat → Int32) → Prop} {pc pc' : Nat} {L st L' st' : List Value} {h h' : xH} (hC : CX SX A H0 D T3 p R s m args meth c y) (hd : decode (x_cd y) pc = .ok (.iastore, 1)) (hs : xIast pc L st h = some (.inl (pc', L', st', h'))) (hk : WS p l e R s m args below meth c Q D T3 SX A H0 z0 y pc' L' st' h') : WS p l e R s m args below meth c Q D T3 SX A H0 z0 y pc L st h := by
  unfold xIast at hs
  split at hs
  next x i a t =>
    split at hs
    next hf =>
      cases hs
      intro ls H locs cells slots hst
      obtain ⟨n, f, he, hin⟩ := inW_of hf
      have hat := hst.2.2.1.2.1 a (by rw [he]; rfl)
      have hAa : A a := hst.2.2.1.2.2.1 a (by rw [he]; rfl)
      have hg : aset (h.2 a) i x = .inl (0, n, .inl (upd f i.toNatClampNeg x)) := by rw [he]; rfl
      rw [he] at hat
      rw [hg] at hk
      refine W.iast hC.1 hC.2.1 hat (((x_KK hC).1.2 0 _ rfl).1 n (fun j => .int (f j))) (fun q => by cases q) (by show ¬ (i < 0 ∨ (arrV _ _ _).slots.size ≤ _); rw [arrV_size]; exact hin) rfl rfl hd fun H1 e1 z oq => ?_
      refine hk _ _ _ _ _ (hst.put (fun _ _ q => by cases q) hAa z ?_ oq)
      show H1[a]? = some (vp_cell _ _)
      rw [e1]
      rw [vp_cell_i, vp_cell_i, arrV_store]
      congr 2
      funext q
      by_cases hq : q = i.toNatClampNeg
      · subst hq
        simp [updV, upd]
      · simp [updV, upd, hq]
    next => cases hs
  next => cases hs
theorem s_zast {p : Program} {l : Launch} {e : Env} {R : Room} {s : State} {m : MethodId} {args : Array Value} {below : List Frame} {meth : Method} {c : Code} {Q : State → Prop} {D : va_G} {T3 : Nat → ClassId} {A : Nat → Prop} {H0 : Heap} {z0 : Nat × Nat} {y : Nat} {SX : Nat → Nat → (Nat → Int32) → Prop} {pc pc' : Nat} {L st L' st' : List Value} {h h' : xH} (hC : CX SX A H0 D T3 p R s m args meth c y) (hd : decode (x_cd y) pc = .ok (.bastore, 1)) (hs : xZast pc L st h = some (.inl (pc', L', st', h'))) (hk : WS p l e R s m args below meth c Q D T3 SX A H0 z0 y pc' L' st' h') : WS p l e R s m args below meth c Q D T3 SX A H0 z0 y pc L st h := by
  unfold xZast at hs
  split at hs
  next x i a t =>
    split at hs
    next hf =>
      cases hs
      intro ls H locs cells slots hst
      obtain ⟨n, f, he, hin⟩ := inZ_of hf
      have hat := hst.2.2.1.2.1 a (by rw [he]; rfl)
      have hAa : A a := hst.2.2.1.2.2.1 a (by rw [he]; rfl)
      have hg : aset (h.2 a) i (vp_nar .boolean x) = .inl (1, n, .inl (upd f i.toNatClampNeg (vp_nar .boolean x))) := by rw [he]; rfl
      rw [he] at hat
      rw [hg] at hk
      refine W.zast hC.1 hC.2.1 hat (((x_KK hC).1.2 1 _ rfl).1 n (fun j => .int (f j))) (fun q => by cases q) (by show ¬ (i < 0 ∨ (arrV _ _ _).slots.size ≤ _); rw [arrV_size]; exact hin) rfl rfl hd fun H1 e1 z oq => ?_
      refine hk _ _ _ _ _ (hst.put (fun _ _ q => by cases q) hAa z ?_ oq)
      show H1[a]? = some (vp_cell _ _)
      rw [e1]
      rw [vp_cell_i, vp_cell_i, arrV_store]
      congr 2
      funext q
      by_cases hq : q = i.toNatClampNeg
      · subst hq
        simp [updV, upd, vp_nar]
        try rfl
      · simp [updV, upd, hq]
    next => cases hs
  next => cases hs
theorem s_aast {p : Program} {l : Launch} {e : Env} {R : Room} {s : State} {m : MethodId} {args : Array Value} {below : List Frame} {meth : Method} {c : Code} {Q : State → Prop} {D : va_G} {T3 : Nat → ClassId} {A : Nat → Prop} {H0 : Heap} {z0 : Nat × Nat} {y : Nat} {SX : Nat → Nat → (Nat → Int32) → Prop} {pc pc' : Nat} {L st L' st' : List Value} {h h' : xH} (hC : CX SX A H0 D T3 p R s m args meth c y) (hd : decode (x_cd y) pc = .ok (.aastore, 1)) (hs : xAast pc L st h = some (.inl (pc', L', st', h'))) (hk : WS p l e R s m args below meth c Q D T3 SX A H0 z0 y pc' L' st' h') : WS p l e R s m args below meth c Q D T3 SX A H0 z0 y pc L st h := by
  unfold xAast at hs
  split at hs
  next v i a t =>
    split at hs
    next hf =>
      cases hs
      intro ls H locs cells slots hst
      simp only [Bool.and_eq_true] at hf
      obtain ⟨n, f, he, hin⟩ := inQ_of hf.1
      obtain ⟨vs, hev⟩ := isK_of hf.2
      have hat := hst.2.2.1.2.1 a (by rw [he]; rfl)
      have hatv := hst.2.2.1.2.1 v (by rw [hev]; rfl)
      have hAa : A a := hst.2.2.1.2.2.1 a (by rw [he]; rfl)
      have hg : qset (h.2 a) i v = .inl (2, n, .inr (.inr (.inr (.inr (va_up f i.toNatClampNeg (some v)))))) := by rw [he]; rfl
      rw [he] at hat
      rw [hev] at hatv
      rw [hg] at hk
      have hlt : i.toNatClampNeg < n := Nat.not_le.mp fun q => hin (Or.inr q)
      have h0 : ¬ i < 0 := fun q => hin (Or.inl q)
      obtain ⟨r', hr', cellV, g1, g2, g3, -⟩ := hatv
      have hr0 : r'.1 = x_AOC := by cases hr'; rfl
      have hcls := ((x_KK hC).1.1 x_AOI r' hr').2
      obtain ⟨kA, comp, k1, k2', k3, -⟩ := ((x_KK hC).1.2 2 _ rfl).2
      have hcls1 : s.vm.findClass x_AOC = some (D.1 x_AOI) := by rw [← hr0]; exact hcls.1
      have hcomp : comp = D.1 x_AOI := Option.some.inj (k3.symm.trans hcls1)
      subst hcomp
      obtain ⟨kC, hkC, -⟩ := hcls.2
      refine W.aast hC.1 hC.2.1 hat (fun q h => by cases h) (fun h => by cases h) k1 k2' rfl hkC ⟨h0, by show _ < (arrV _ _ _).slots.size; rw [arrV_size]; exact hlt⟩ g1 (fun q h => by rw [g3] at h; cases h) (by rw [g2]; exact hkC) (by rw [g2]; exact va_assign hcls) rfl rfl hd fun H1 e1 z oq => ?_
      refine hk _ _ _ _ _ (hst.put (fun _ _ q => by cases q) hAa z ?_ oq)
      show H1[a]? = some (vp_cell _ _)
      rw [e1]
      rw [vp_cell_q, vp_cell_q, arrV_store]
      congr 2
      funext q
      by_cases hq : q = i.toNatClampNeg
      · subst hq
        simp [updV, va_up, va_rf]
      · simp [updV, va_up, hq]
    next => cases hs
  next => cases hs
theorem s_alen {p : Program} {l : Launch} {e : Env} {R : Room} {s : State} {m : MethodId} {args : Array Value} {below : List Frame} {meth : Method} {c : Code} {Q : State → Prop} {D : va_G} {T3 : Nat → ClassId} {A : Nat → Prop} {H0 : Heap} {z0 : Nat × Nat} {y : Nat} {SX : Nat → Nat → (Nat → Int32) → Prop} {pc pc' : Nat} {L st L' st' : List Value} {h h' : xH} (hC : CX SX A H0 D T3 p R s m args meth c y) (hd : decode (x_cd y) pc = .ok (.arraylength, 1)) (hs : xAlen y pc L st h = some (.inl (pc', L', st', h'))) (hk : WS p l e R s m args below meth c Q D T3 SX A H0 z0 y pc' L' st' h') : WS p l e R s m args below meth c Q D T3 SX A H0 z0 y pc L st h := by
  unfold xAlen at hs
  split at hs
  next a t =>
    split at hs
    next hf =>
      cases hs
      intro ls H locs cells slots hst
      have key : ∀ (tg n : Nat) (x : (Nat → Int32) ⊕ (Nat → Int64) ⊕ (Nat → UInt32) ⊕ (Nat → UInt64) ⊕ (Nat → Option Nat)), h.2 a = .inl (tg, n, x) → tg < 3 → W p l e R s m args below meth c H locs cells slots Q (F0 m pc ls (.ref a :: t)) := by
        intro tg n x he ht
        have hat := hst.2.2.1.2.1 a (by rw [he]; exact decide_eq_true ht)
        rw [he] at hat hk
        have hty : ∀ k : Nat, k < 3 → ∃ (t0 : Nat) (ty : FieldType), (x_tys T3)[t0]? = some (T3 k, ty) := by
          intro k hk
          rcases (show k = 0 ∨ k = 1 ∨ k = 2 by omega) with rfl | rfl | rfl
          · exact ⟨0, _, rfl⟩
          · exact ⟨1, _, rfl⟩
          · exact ⟨2, _, rfl⟩
        obtain ⟨t0, ty, ht0⟩ := hty tg ht
        exact va_alen hC.1 hC.2.1 (x_KK hC).1 (va_one hat) 0 t0 rfl ht0 rfl hd (hk _ _ _ _ _ hst)
      cases he : h.2 a with
      | inr o => rw [he] at hf; cases hf
      | inl o =>
        obtain ⟨tg, n, x⟩ := o
        rw [he] at hf
        cases x with
        | inr x => exact key tg n (.inr x) he (of_decide_eq_true hf)
        | inl f =>
          have hf : (decide (tg < 3) || (decide (tg = 3) && decide (y = x_LAW))) = true := hf
          simp only [Bool.or_eq_true, Bool.and_eq_true, decide_eq_true_eq] at hf
          rcases hf with ht | ⟨rfl, hy⟩
          · exact key tg n (.inl f) he ht
          · obtain ⟨g1, g2, g3⟩ := hC.2.2.2.2.2.2.2.2.2 hy _ _ _ (hst.2.2.1.2.2.2 _ _ _ he)
            rw [he] at hk
            exact va_slen hC.1 hC.2.1 g1 g2 g3 hst.2.2.2.1 hd (hk _ _ _ _ _ hst)
    next => cases hs
  next => cases hs
theorem ST.alloc {D : va_G} {T3 : Nat → ClassId} {SX : Nat → Nat → (Nat → Int32) → Prop} {A : Nat → Prop} {H0 H H' : Heap} {z0 : Nat × Nat} {y : Nat} {ls : Array Slot} {L : List Value} {h : xH} {locs : List Loc} {cells slots w : Nat} {x : va_E} (hst : ST D T3 SX A H0 z0 H0.size y ls L h H locs cells slots) (h3 : ∀ n f, x ≠ .inl (3, n, .inl f)) (hz : H'.size = h.1.1 + 1) (he : va_at D x_CLS (h.1.1, x_cell T3 x) H') (ho : ∀ q : Nat, q < h.1.1 → H'[q]? = H[q]?) : ST D T3 SX A H0 z0 H0.size y ls L ((h.1.1 + 1, h.1.2 + w), mu h.2 h.1.1 x) H' locs (cells + 1) (slots + w) := by
  have hs := hst.2.2.1.1
  refine ⟨hst.1, hst.2.1, hst.2.2.1.new h3 (hst.2.2.2.2.2.2 _ hst.2.2.2.1.1) (by rw [hz, hs]) (by rw [hs]; exact he) (by rw [hs]; exact ho), hst.2.2.2.1.new (by rw [hz, hs]) (by rw [hs]; exact ho), ?_, ?_, hst.2.2.2.2.2.2⟩
  · show h.1.1 + 1 = _; have := hst.2.2.2.2.1; omega
  · show h.1.2 + w = _; have := hst.2.2.2.2.2.1; omega
theorem s_new {p : Program} {l : Launch} {e : Env} {R : Room} {s : State} {m : MethodId} {args : Array Value} {below : List Frame} {meth : Method} {c : Code} {Q : State → Prop} {D : va_G} {T3 : Nat → ClassId} {A : Nat → Prop} {H0 : Heap} {z0 : Nat × Nat} {y : Nat} {SX : Nat → Nat → (Nat → Int32) → Prop} {pc pc' : Nat} {L st L' st' : List Value} {h h' : xH} (hC : CX SX A H0 D T3 p R s m args meth c y) (hr1 : h'.1.1 ≤ z0.1 + R.cells) (hr2 : h'.1.2 ≤ z0.2 + R.slots) {ix : Nat} (hd : decode (x_cd y) pc = .ok (.new ix, 3)) (hs : xNew y ix pc L st h = some (.inl (pc', L', st', h'))) (hk : WS p l e R s m args below meth c Q D T3 SX A H0 z0 y pc' L' st' h') : WS p l e R s m args below meth c Q D T3 SX A H0 z0 y pc L st h := by
  unfold xNew at hs
  split at hs
  next ci hg =>
    cases hs
    intro ls H locs cells slots hst
    obtain ⟨C, T, N, h1, h2, h3, h4, h5, h6⟩ := x_nwl _ (x_find_mem _ _ _ _ hg)
    have h2 : (x_dfl ci).length = N := h2
    have hcl := x_clA ci C T N h1
    have hKn := (x_KK hC).1.1 ci _ h1
    have a1 := hst.2.2.2.2.1
    have a2 := hst.2.2.2.2.2.1
    have hr1 : h.1.1 + 1 ≤ z0.1 + R.cells := hr1
    have hr2 : h.1.2 + (x_dfl ci).length ≤ z0.2 + R.slots := hr2
    rw [h2] at hr2
    refine W.newcK hC.1 hC.2.1 (x_own hC) (x_hts hC _ h4) (x_hts hC _ h5) (x_hts hC _ h6) rfl hd (by omega) (by omega) hKn.2.1 hst.2.2.1.1 fun H1 kC hkC e1 z1 o1 => ?_
    have hh := hst.alloc (w := (x_dfl ci).length) (x := .inr (ci, x_dfl ci)) (fun _ _ q => by cases q) z1 ⟨_, h1, (u_born (x_TY ci) (x_hts hC) hcl.1 hKn hkC e1 hcl.2.1).to h3⟩ o1
    have := hk _ _ _ _ _ hh
    rw [h2] at this
    exact this
  next => cases hs
theorem s_narrI {p : Program} {l : Launch} {e : Env} {R : Room} {s : State} {m : MethodId} {args : Array Value} {below : List Frame} {meth : Method} {c : Code} {Q : State → Prop} {D : va_G} {T3 : Nat → ClassId} {A : Nat → Prop} {H0 : Heap} {z0 : Nat × Nat} {y : Nat} {SX : Nat → Nat → (Nat → Int32) → Prop} {pc pc' : Nat} {L st L' st' : List Value} {h h' : xH} (hC : CX SX A H0 D T3 p R s m args meth c y) (hr1 : h'.1.1 ≤ z0.1 + R.cells) (hr2 : h'.1.2 ≤ z0.2 + R.slots) (hd : decode (x_cd y) pc = .ok (.newarray .int, 2)) (hs : xNarr pc 0 L st h = some (.inl (pc', L', st', h'))) (hk : WS p l e R s m args below meth c Q D T3 SX A H0 z0 y pc' L' st' h') : WS p l e R s m args below meth c Q D T3 SX A H0 z0 y pc L st h := by
  unfold xNarr at hs
  split at hs
  next n t =>
    split at hs
    next hn =>
      cases hs
      intro ls H locs cells slots hst
      have a1 := hst.2.2.2.2.1
      have a2 := hst.2.2.2.2.2.1
      have hr1 : h.1.1 + 1 ≤ z0.1 + R.cells := hr1
      have hr2 : h.1.2 + n.toNatClampNeg ≤ z0.2 + R.slots := hr2
      refine va_newaK (atype := .int) hC.1 hC.2.1 (x_hts hC _ x_acI) rfl hd rfl hn.1 rfl hn.2 (by omega) (by omega) hst.2.2.1.1 fun H1 cA e1 z1 o1 hAr hNm => ?_
      have hcA : cA = T3 0 := by
        have h0 := ((x_KK hC).1.2 0 _ rfl).2
        exact Option.some.inj (hNm.symm.trans h0)
      subst hcA
      exact hk _ _ _ _ _ (hst.alloc (w := n.toNatClampNeg) (x := .inl (0, n.toNatClampNeg, .inl (fun _ => 0))) (fun _ _ q => by cases q) z1 e1 o1)
    next => cases hs
  next => cases hs
theorem s_narrZ {p : Program} {l : Launch} {e : Env} {R : Room} {s : State} {m : MethodId} {args : Array Value} {below : List Frame} {meth : Method} {c : Code} {Q : State → Prop} {D : va_G} {T3 : Nat → ClassId} {A : Nat → Prop} {H0 : Heap} {z0 : Nat × Nat} {y : Nat} {SX : Nat → Nat → (Nat → Int32) → Prop} {pc pc' : Nat} {L st L' st' : List Value} {h h' : xH} (hC : CX SX A H0 D T3 p R s m args meth c y) (hr1 : h'.1.1 ≤ z0.1 + R.cells) (hr2 : h'.1.2 ≤ z0.2 + R.slots) (hd : decode (x_cd y) pc = .ok (.newarray .boolean, 2)) (hs : xNarr pc 1 L st h = some (.inl (pc', L', st', h'))) (hk : WS p l e R s m args below meth c Q D T3 SX A H0 z0 y pc' L' st' h') : WS p l e R s m args below meth c Q D T3 SX A H0 z0 y pc L st h := by
  unfold xNarr at hs
  split at hs
  next n t =>
    split at hs
    next hn =>
      cases hs
      intro ls H locs cells slots hst
      have a1 := hst.2.2.2.2.1
      have a2 := hst.2.2.2.2.2.1
      have hr1 : h.1.1 + 1 ≤ z0.1 + R.cells := hr1
      have hr2 : h.1.2 + n.toNatClampNeg ≤ z0.2 + R.slots := hr2
      refine va_newaK (atype := .boolean) hC.1 hC.2.1 (x_hts hC _ x_acZ) rfl hd rfl hn.1 rfl (by show n.toNatClampNeg * 1 ≤ _; have := hn.2; omega) (by omega) (by omega) hst.2.2.1.1 fun H1 cA e1 z1 o1 hAr hNm => ?_
      have hcA : cA = T3 1 := by
        have h0 := ((x_KK hC).1.2 1 _ rfl).2
        exact Option.some.inj (hNm.symm.trans h0)
      subst hcA
      exact hk _ _ _ _ _ (hst.alloc (w := n.toNatClampNeg) (x := .inl (1, n.toNatClampNeg, .inl (fun _ => 0))) (fun _ _ q => by cases q) z1 e1 o1)
    next => cases hs
  next => cases hs
theorem s_anew {p : Program} {l : Launch} {e : Env} {R : Room} {s : State} {m : MethodId} {args : Array Value} {below : List Frame} {meth : Method} {c : Code} {Q : State → Prop} {D : va_G} {T3 : Nat → ClassId} {A : Nat → Prop} {H0 : Heap} {z0 : Nat × Nat} {y : Nat} {SX : Nat → Nat → (Nat → Int32) → Prop} {pc pc' : Nat} {L st L' st' : List Value} {h h' : xH} (hC : CX SX A H0 D T3 p R s m args meth c y) (hr1 : h'.1.1 ≤ z0.1 + R.cells) (hr2 : h'.1.2 ≤ z0.2 + R.slots) {ix : Nat} (hd : decode (x_cd y) pc = .ok (.anewarray ix, 3)) (hs : xAnew y ix pc L st h = some (.inl (pc', L', st', h'))) (hk : WS p l e R s m args below meth c Q D T3 SX A H0 z0 y pc' L' st' h') : WS p l e R s m args below meth c Q D T3 SX A H0 z0 y pc L st h := by
  unfold xAnew at hs
  split at hs
  next n t =>
    split at hs
    next ci hg =>
      split at hs
      next hn =>
        cases hs
        intro ls H locs cells slots hst
        obtain ⟨hci, hn1, hn2⟩ := hn
        subst hci
        obtain ⟨C, T, N, h1, h2, h3, h4, h5, h6⟩ := x_nwl _ (x_find_mem _ _ _ _ hg)
        have hC0 : C = x_AOC := by cases h1; rfl
        subst hC0
        have a1 := hst.2.2.2.2.1
        have a2 := hst.2.2.2.2.2.1
        have hr1 : h.1.1 + 1 ≤ z0.1 + R.cells := hr1
        have hr2 : h.1.2 + n.toNatClampNeg ≤ z0.2 + R.slots := hr2
        have hsz := hst.2.2.1.1
        refine W.anew hC.1 hC.2.1 (x_own hC) (x_hts hC _ h4) (va_AO.use (x_KK hC).2.2) rfl hd rfl hn1 hn2 (by omega) (by omega) fun cA kA comp f1 f2 f3 f4 => ?_
        have hcA : cA = T3 2 := by
          obtain ⟨_, _, _, _, _, h0⟩ := ((x_KK hC).1.2 2 _ rfl).2
          exact Option.some.inj (f1.symm.trans h0)
        subst hcA
        generalize hH1 : H.push ({ cls := T3 2, slots := Array.replicate n.toNatClampNeg .null, vm := .none } : Cell) = H1
        have z1 : H1.size = h.1.1 + 1 := by rw [← hH1, Array.size_push, hsz]
        have e1 : H1[h.1.1]? = some (arrV (T3 2) n.toNatClampNeg (fun _ => .null)) := by rw [← hH1, ← hsz, Array.getElem?_push_size, ← arrV_new]
        have o1 : ∀ q : Nat, q < h.1.1 → H1[q]? = H[q]? := fun q hq => by rw [← hsz] at hq; rw [← hH1, Array.getElem?_push, if_neg (Nat.ne_of_lt hq)]
        have := hk _ _ _ _ _ (hst.alloc (w := n.toNatClampNeg) (x := .inl (2, n.toNatClampNeg, .inr (.inr (.inr (.inr (fun _ => none)))))) (fun _ _ q => by cases q) z1 e1 o1)
        rw [hsz]
        exact this
      next => cases hs
    next => cases hs
  next => cases hs
theorem cats_le : ∀ (t : List Value), (t.map fun v => v.category).sum ≤ 2 * t.length
  | [] => by simp
  | v :: t => by
    have := cats_le t
    have h2 : v.category ≤ 2 := by cases v <;> simp [Value.category]
    simp only [List.map_cons, List.sum_cons, List.length_cons]
    omega
theorem s_oinit {p : Program} {l : Launch} {e : Env} {R : Room} {s : State} {m : MethodId} {args : Array Value} {below : List Frame} {meth : Method} {c : Code} {Q : State → Prop} {D : va_G} {T3 : Nat → ClassId} {A : Nat → Prop} {H0 : Heap} {z0 : Nat × Nat} {y : Nat} {SX : Nat → Nat → (Nat → Int32) → Prop} {pc pc' : Nat} {L st L' st' : List Value} {h h' : xH} (hC : CX SX A H0 D T3 p R s m args meth c y) {ix : Nat} (hd : decode (x_cd y) pc = .ok (.invokespecial ix, 3)) (ho : x_oi (x_kl y) ix = true) (hs : (match st with | .ref _ :: t => (if 1 ≤ x_fr y ∧ 20 ≤ x_lo y ∧ t.length ≤ 4 then nx (pc + 3) L t h else none) | _ => none) = some (.inl (pc', L', st', h'))) (hk : WS p l e R s m args below meth c Q D T3 SX A H0 z0 y pc' L' st' h') : WS p l e R s m args below meth c Q D T3 SX A H0 z0 y pc L st h := by
  split at hs
  next a t =>
    split at hs
    next hr =>
      cases hs
      intro ls H locs cells slots hst
      obtain ⟨u, hu⟩ := Option.isSome_iff_exists.mp ho
      have hw : Jvm.Cond.methodLink (x_RC (x_kl y)) ix objectInit ∈ x_TG := x_oil _ (x_find_mem _ _ _ _ hu)
      have c1 := cats_le st'
      have c2 := hC.2.2.2.2.2.2.1
      have c3 := hC.2.2.2.2.2.2.2.1
      refine W.objInit hC.1 hC.2.1 (x_own hC) (x_hts hC _ hw) (x_hts hC _ x_oiI) (x_hts hC _ x_oiC) rfl (by rw [hC.2.2.1]; exact hst.1) rfl hd (by omega) (by show 2 * 0 + _ + 12 ≤ _; omega) ?_
      exact hk _ _ _ _ _ hst
    next => cases hs
  next => cases hs
theorem s_math {p : Program} {l : Launch} {e : Env} {R : Room} {s : State} {m : MethodId} {args : Array Value} {below : List Frame} {meth : Method} {c : Code} {Q : State → Prop} {D : va_G} {T3 : Nat → ClassId} {A : Nat → Prop} {H0 : Heap} {z0 : Nat × Nat} {y : Nat} {SX : Nat → Nat → (Nat → Int32) → Prop} {pc pc' : Nat} {L st L' st' : List Value} {h h' : xH} (hC : CX SX A H0 D T3 p R s m args meth c y) (hr1 : h'.1.1 ≤ z0.1 + R.cells) (hr2 : h'.1.2 ≤ z0.2 + R.slots) {ix : Nat} {b : Bool} (hd : decode (x_cd y) pc = .ok (.invokestatic ix, 3)) (hb : x_mm (x_kl y) ix = some b) (hs : (match st with | .int w :: .int v :: t => (if 1 ≤ x_fr y ∧ 21 ≤ x_lo y ∧ t.length ≤ 4 then nx (pc + 3) L (.int (mx b v w) :: t) h else none) | _ => none) = some (.inl (pc', L', st', h'))) (hk : WS p l e R s m args below meth c Q D T3 SX A H0 z0 y pc' L' st' h') : WS p l e R s m args below meth c Q D T3 SX A H0 z0 y pc L st h := by
  split at hs
  next w v t =>
    split at hs
    next hr =>
      cases hs
      intro ls H locs cells slots hst
      have hw := x_mml _ (x_find_mem _ _ _ _ hb)
      have c1 := cats_le t
      have c2 := hC.2.2.2.2.2.2.1
      have c3 := hC.2.2.2.2.2.2.2.1
      have a1 := hst.2.2.2.2.1
      have a2 := hst.2.2.2.2.2.1
      cases b with
      | true =>
        exact va_mmax hC.1 hC.2.1 (by rw [hC.2.2.1]; exact hst.1.symm) (x_own hC) (x_hts hC _ hw) (x_hts hC _ x_jmS_max) (x_hts hC _ x_jmI) (x_hts hC _ x_jmC_max) (by omega) (by omega) (by omega) (by omega) hd (hk _ _ _ _ _ hst)
      | false =>
        exact va_mmin hC.1 hC.2.1 (by rw [hC.2.2.1]; exact hst.1.symm) (x_own hC) (x_hts hC _ hw) (x_hts hC _ x_jmS_min) (x_hts hC _ x_jmI) (x_hts hC _ x_jmC_min) (by omega) (by omega) (by omega) (by omega) hd (hk _ _ _ _ _ hst)
    next => cases hs
  next => cases hs
end
section
/-- any step that goes on in the same method -/
theorem s_all {p : Program} {l : Launch} {e : Env} {R : Room} {s : State} {m : MethodId} {args : Array Value} {below : List Frame} {meth : Method} {c : Code} {Q : State → Prop} {D : va_G} {T3 : Nat → ClassId} {A : Nat → Prop} {H0 : Heap} {z0 : Nat × Nat} {y : Nat} {SX : Nat → Nat → (Nat → Int32) → Prop} {pc pc' : Nat} {L st L' st' : List Value} {h h' : xH} (hC : CX SX A H0 D T3 p R s m args meth c y) (hr1 : h'.1.1 ≤ z0.1 + R.cells) (hr2 : h'.1.2 ≤ z0.2 + R.slots) {i : Instr} {len : Nat} (hf : x_fe y pc = some (i, len)) (hs : x_s y i pc L st h = some (.inl (pc', L', st', h'))) (hk : WS p l e R s m args below meth c Q D T3 SX A H0 z0 y pc' L' st' h') : WS p l e R s m args below meth c Q D T3 SX A H0 z0 y pc L st h := by
  obtain ⟨hd, ho⟩ := x_fe_of hf
  cases i with
  | iconst n => obtain rfl := eq_of_beq ho; exact s_iconst hC hd hs hk
  | bipush n => obtain rfl := eq_of_beq ho; exact s_bipush hC hd hs hk
  | sipush n => obtain rfl := eq_of_beq ho; exact s_sipush hC hd hs hk
  | lconst n => obtain rfl := eq_of_beq ho; exact s_lconst hC hd hs hk
  | ldc2_w ix => obtain rfl := eq_of_beq ho; exact s_ldc2 hC hd hs hk
  | aconst_null => obtain rfl := eq_of_beq ho; exact s_null hC hd hs hk
  | iload_n k => obtain rfl := eq_of_beq ho; exact s_iload_n hC hd hs hk
  | iload k => obtain rfl := eq_of_beq ho; exact s_iload hC hd hs hk
  | lload_n k => obtain rfl := eq_of_beq ho; exact s_lload_n hC hd hs hk
  | lload k => obtain rfl := eq_of_beq ho; exact s_lload hC hd hs hk
  | aload_n k => obtain rfl := eq_of_beq ho; exact s_aload_n hC hd hs hk
  | aload k => obtain rfl := eq_of_beq ho; exact s_aload hC hd hs hk
  | istore_n k => obtain rfl := eq_of_beq ho; exact s_istore_n hC hd hs hk
  | istore k => obtain rfl := eq_of_beq ho; exact s_istore hC hd hs hk
  | astore_n k => obtain rfl := eq_of_beq ho; exact s_astore_n hC hd hs hk
  | astore k => obtain rfl := eq_of_beq ho; exact s_astore hC hd hs hk
  | iinc k n => obtain rfl := eq_of_beq ho; exact s_iinc hC hd hs hk
  | iadd => obtain rfl := eq_of_beq ho; exact s_iadd hC hd hs hk
  | isub => obtain rfl := eq_of_beq ho; exact s_isub hC hd hs hk
  | imul => obtain rfl := eq_of_beq ho; exact s_imul hC hd hs hk
  | iand => obtain rfl := eq_of_beq ho; exact s_iand hC hd hs hk
  | idiv => obtain rfl := eq_of_beq ho; exact s_idiv hC hd hs hk
  | irem => obtain rfl := eq_of_beq ho; exact s_irem hC hd hs hk
  | land => obtain rfl := eq_of_beq ho; exact s_land hC hd hs hk
  | lor => obtain rfl := eq_of_beq ho; exact s_lor hC hd hs hk
  | lcmp => obtain rfl := eq_of_beq ho; exact s_lcmp hC hd hs hk
  | lshl => obtain rfl := eq_of_beq ho; exact s_lshl hC hd hs hk
  | lushr => obtain rfl := eq_of_beq ho; exact s_lushr hC hd hs hk
  | i2l => obtain rfl := eq_of_beq ho; exact s_i2l hC hd hs hk
  | l2i => obtain rfl := eq_of_beq ho; exact s_l2i hC hd hs hk
  | dup => obtain rfl := eq_of_beq ho; exact s_dup hC hd hs hk
  | dup2 => obtain rfl := eq_of_beq ho; exact s_dup2 hC hd hs hk
  | ifCond c off => obtain rfl := eq_of_beq ho; exact s_if hC hd hs hk
  | if_icmp c off => obtain rfl := eq_of_beq ho; exact s_icmp hC hd hs hk
  | goto off => obtain rfl := eq_of_beq ho; exact s_goto hC hd hs hk
  | ifnull off => obtain rfl := eq_of_beq ho; exact s_ifnull hC hd hs hk
  | ifnonnull off => obtain rfl := eq_of_beq ho; exact s_ifnonnull hC hd hs hk
  | tableswitch dflt lo hi offs => exact s_table hC hd hs hk
  | lookupswitch dflt ps => exact s_look hC hd hs hk
  | getfield ix => obtain rfl := eq_of_beq ho; exact s_get hC hd hs hk
  | putfield ix => obtain rfl := eq_of_beq ho; exact s_put hC hd hs hk
  | iaload => obtain rfl := eq_of_beq ho; exact s_iald hC hd hs hk
  | iastore => obtain rfl := eq_of_beq ho; exact s_iast hC hd hs hk
  | baload => obtain rfl := eq_of_beq ho; exact s_zald hC hd hs hk
  | bastore => obtain rfl := eq_of_beq ho; exact s_zast hC hd hs hk
  | aaload => obtain rfl := eq_of_beq ho; exact s_aald hC hd hs hk
  | aastore => obtain rfl := eq_of_beq ho; exact s_aast hC hd hs hk
  | arraylength => obtain rfl := eq_of_beq ho; exact s_alen hC hd hs hk
  | new ix => obtain rfl := eq_of_beq ho; exact s_new hC hr1 hr2 hd hs hk
  | newarray t =>
    obtain rfl := eq_of_beq ho
    cases t with
    | int => exact s_narrI hC hr1 hr2 hd hs hk
    | boolean => exact s_narrZ hC hr1 hr2 hd hs hk
    | _ => cases hs
  | anewarray ix => obtain rfl := eq_of_beq ho; exact s_anew hC hr1 hr2 hd hs hk
  | invokevirtual ix =>
    have hs : xIv y ix pc L st h = some (.inl (pc', L', st', h')) := hs
    unfold xIv at hs
    split at hs
    · split at hs
      · split at hs
        · split at hs
          · unfold xInv at hs
            split at hs
            · cases hs
            · cases hs
          · cases hs
        · cases hs
      · cases hs
    · cases hs
  | invokestatic ix =>
    obtain rfl := eq_of_beq ho
    have hs : xIs y ix pc L st h = some (.inl (pc', L', st', h')) := hs
    unfold xIs at hs
    split at hs
    next b hb => exact s_math hC hr1 hr2 hd hb hs hk
    next =>
      split at hs
      · split at hs
        · unfold xInv at hs
          split at hs
          · cases hs
          · cases hs
        · cases hs
      · cases hs
  | invokespecial ix =>
    obtain rfl := eq_of_beq ho
    have hs : xIp y ix pc L st h = some (.inl (pc', L', st', h')) := hs
    unfold xIp at hs
    split at hs
    next hb => exact s_oinit hC hd hb hs hk
    next =>
      split at hs
      · split at hs
        · split at hs
          · unfold xInv at hs
            split at hs
            · cases hs
            · cases hs
          · cases hs
        · cases hs
      · cases hs
  | ireturn =>
    have hs : xRet y st = some (.inl (pc', L', st', h')) := hs
    unfold xRet at hs
    split at hs
    · split at hs
      · split at hs
        · cases hs
        · cases hs
      · cases hs
    · cases hs
  | areturn =>
    have hs : xRea y st = some (.inl (pc', L', st', h')) := hs
    unfold xRea at hs
    split at hs
    · split at hs
      · cases hs
      · cases hs
    · split at hs
      · cases hs
      · cases hs
    · cases hs
  | return_ =>
    have hs : xRev y st = some (.inl (pc', L', st', h')) := hs
    unfold xRev at hs
    split at hs
    · split at hs
      · cases hs
      · cases hs
    · cases hs
  | _ => cases hs
/-- a run makes cells, and takes none away -/
theorem x_s_mono {y pc pc' : Nat} {L st L' st' : List Value} {h h' : xH} {i : Instr} (hs : x_s y i pc L st h = some (.inl (pc', L', st', h'))) : h.1.1 ≤ h'.1.1 ∧ h.1.2 ≤ h'.1.2 := by
  have go : ∀ j : Instr, (∀ t, j ≠ .newarray t) → x_s y j pc L st h = some (.inl (pc', L', st', h')) → h.1.1 ≤ h'.1.1 ∧ h.1.2 ≤ h'.1.2 := by
    intro j hj hs
    cases j with
    | newarray t => exact absurd rfl (hj t)
    | _ =>
      simp only [x_s, nx, jp, xLi, xLl, xLa, xSi, xSa, xInc, x2i, x2l, xli, xIf, xGet, xPut, xIald, xIast, xZald, xZast, xAald, xAast, xAlen, xNew, xAnew, xIv, xIs, xIp, xInv, xTab, xLook, xRet, xRea, xRev] at hs
      repeat' split at hs
      all_goals first
        | (cases hs; exact ⟨Nat.le_refl _, Nat.le_refl _⟩)
        | (cases hs; exact ⟨Nat.le_succ _, Nat.le_add_right _ _⟩)
        | (cases hs; done)
  by_cases hn : ∃ t, i = .newarray t
  · obtain ⟨t, rfl⟩ := hn
    have key : ∀ tg : Nat, xNarr pc tg L st h = some (.inl (pc', L', st', h')) → h.1.1 ≤ h'.1.1 ∧ h.1.2 ≤ h'.1.2 := by
      intro tg hs
      unfold xNarr at hs
      split at hs
      · split at hs
        · cases hs; exact ⟨Nat.le_succ _, Nat.le_add_right _ _⟩
        · cases hs
      · cases hs
    cases t with
    | int => exact key 0 hs
    | boolean => exact key 1 hs
    | _ => cases hs
  · exact go i (fun t q => hn ⟨t, q⟩) hs
theorem x_r_grow : ∀ (n y pc : Nat) (L st : List Value) (h : xH) (r : Option Value × xH), x_r n y pc L st h = some r → h.1.1 ≤ r.2.1.1 ∧ h.1.2 ≤ r.2.1.2 := by
  intro n
  induction n with
  | zero => intro y pc L st h r hr; cases hr
  | succ n ih =>
    intro y pc L st h r hr
    obtain ⟨k, i, len, e, hf, hc⟩ := x_r_some hr
    cases e
    rcases hc with ⟨pc', L', st', h', hs, hk⟩ | ⟨hs, hh⟩ | ⟨z, as, pc', L', t, v, h', hs, hz, hk⟩
    · have a := x_s_mono hs
      have b := ih _ _ _ _ _ _ hk
      exact ⟨Nat.le_trans a.1 b.1, Nat.le_trans a.2 b.2⟩
    · rw [hh]; exact ⟨Nat.le_refl _, Nat.le_refl _⟩
    · have a := ih _ _ _ _ _ _ hz
      have b := ih _ _ _ _ _ _ hk
      exact ⟨Nat.le_trans a.1 b.1, Nat.le_trans a.2 b.2⟩
end
section
def x_ws (z : Nat) : List Jvm.Cond := Jvm.Cond.code (x_nm z) (x_cd z) (x_ml z) (x_rt z) :: x_TG
def x_rm (z mc ms : Nat) : Room := { frames := x_fr z, cells := mc, slots := ms, locals := x_lo z }
/-- what a callee may write -/
def x_A (h : xH) : Nat → Prop := fun q => x_wr (h.2 q) = true ∨ h.1.1 ≤ q
def x_Pc (D : va_G) (T3 : Nat → ClassId) (SX : Nat → Nat → (Nat → Int32) → Prop) (as : List Value) (h : xH) : Array Value → State → Prop := va_Pc as (fun U => RelH D T3 SX (x_A h) h U.heap ∧ KK D T3 U)
def x_Qc (D : va_G) (T3 : Nat → ClassId) (SX : Nat → Nat → (Nat → Int32) → Prop) (h h' : xH) (v : Option Value) : Array Value → State → Outcome → State → Prop := fun _ st o t => o = .returned v ∧ RelH D T3 SX (x_A h) h' t.heap ∧ va_F (x_A h) st t
def x_met (l : Launch) (z : Nat) (as : List Value) (h h' : xH) (v : Option Value) : Prop := ∀ (D : va_G) (T3 : Nat → ClassId) (SX : Nat → Nat → (Nat → Int32) → Prop), Met l (x_nm z) (x_ws z) (x_rm z (h'.1.1 - h.1.1) (h'.1.2 - h.1.2)) (x_Pc D T3 SX as h) (x_Qc D T3 SX h h' v) (h'.1.1 - h.1.1) (h'.1.2 - h.1.2) (x_A h)
theorem KK.warm {D : va_G} {T3 : Nat → ClassId} {s U : State} (hW : s.WarmedH U.vm) (h : KK D T3 s) : KK D T3 U := by
  refine ⟨va_K.moved hW.alike h.1, fun w hw => ?_, va_AO.moved hW.alike h.2.2⟩
  have h1 := h.2.1 w hw
  have h2 : x_isN w = true := (List.mem_filter.mp hw).2
  cases w with
  | fieldLinkNest a b c d e f => exact va_Nw.warmF hW h1
  | methodLinkNest a b c d => exact va_Nw.warmM hW h1
  | _ => cases h2
theorem KK.calling {D : va_G} {T3 : Nat → ClassId} {U : State} {g : JFrame} {mk : MethodId} {a : Array Value} (h : KK D T3 U) : KK D T3 (U.calling g mk a) := by
  refine ⟨va_K.moved (u := U) (U := U.calling g mk a) (Vm.Alike.refl U.vm) h.1, fun w hw => ?_, va_AO.moved (u := U) (U := U.calling g mk a) (Vm.Alike.refl U.vm) h.2.2⟩
  have h1 := h.2.1 w hw
  have h2 : x_isN w = true := (List.mem_filter.mp hw).2
  have h3 : w.onTables = true := by cases w <;> first | rfl | cases h2
  exact va_Nw.same (u := U) (U := U.calling g mk a) h3 rfl h1
theorem x_blind {D : va_G} {T3 : Nat → ClassId} {SX : Nat → Nat → (Nat → Int32) → Prop} {as : List Value} {h : xH} : FrameBlind (x_Pc D T3 SX as h) := by
  intro a U g mk q
  obtain ⟨q1, q2, q3⟩ := q
  exact ⟨q1, q2, q3.calling⟩
/-- the callee's cells are its caller's -/
theorem x_A_sub {D : va_G} {T3 : Nat → ClassId} {SX : Nat → Nat → (Nat → Int32) → Prop} {A : Nat → Prop} {H0 H : Heap} {z0 : Nat × Nat} {y : Nat} {ls : Array Slot} {L : List Value} {h : xH} {locs : List Loc} {cells slots : Nat} (hst : ST D T3 SX A H0 z0 H0.size y ls L h H locs cells slots) : ∀ q, x_A h q → A q := by
  intro q hq
  rcases hq with hq | hq
  · exact hst.2.2.1.2.2.1 q hq
  · refine hst.2.2.2.2.2.2 q (Nat.le_trans hst.2.2.2.1.1 ?_)
    rw [hst.2.2.1.1]
    exact hq
theorem run_cont {p : Program} {l : Launch} {e : Env} {R : Room} {s : State} {m : MethodId} {args : Array Value} {below : List Frame} {meth : Method} {c : Code} {Q : State → Prop} {D : va_G} {T3 : Nat → ClassId} {A : Nat → Prop} {H0 : Heap} {z0 : Nat × Nat} {y : Nat} {SX : Nat → Nat → (Nat → Int32) → Prop} {pc : Nat} {L st t : List Value} {h h1 : xH} {ls : Array Slot} {H : Heap} {locs : List Loc} {cells slots : Nat} {v : Option Value} {aa : Array Value} (hst : ST D T3 SX A H0 z0 H0.size y ls L h H locs cells slots) (hg1 : h.1.1 ≤ h1.1.1) (hg2 : h.1.2 ≤ h1.1.2)
    (hr : va_Run p l e R s m args below meth c H locs cells slots (h1.1.1 - h.1.1) (h1.1.2 - h.1.2) (F0 m pc ls st) t (x_Qc D T3 SX h h1 v aa) (x_A h)) (hk : WS p l e R s m args below meth c Q D T3 SX A H0 z0 y (pc + 3) L (v.toList ++ t) h1) : W p l e R s m args below meth c H locs cells slots Q (F0 m pc ls st) := by
  intro T hT X
  obtain ⟨v', st₀, t', T', Lc, h0, X', hL, e1, e2, ⟨hv, hR', hF⟩, hgo⟩ := hr T hT X
  cases hv
  have hsub := x_A_sub hst
  have hsz := hst.2.2.1.1
  have hH0 := hst.2.2.2.1
  have hF1 : H.size ≤ T'.heap.size := by have := hF.1; rw [h0] at this; rw [e1]; exact this
  have hF2 : ∀ q : Nat, q < H.size → ¬ x_A h q → T'.heap[q]? = H[q]? := fun q g1 g2 => by
    have := hF.2 q (by rw [h0]; exact g1) g2
    rw [h0] at this
    rw [e1]; exact this
  have hst1 : ST D T3 SX A H0 z0 H0.size y ls L h1 T'.heap (locs ++ Lc) (cells + (h1.1.1 - h.1.1)) (slots + (h1.1.2 - h.1.2)) := by
    refine ⟨hst.1, hst.2.1, ?_, ⟨Nat.le_trans hH0.1 hF1, fun q g1 g2 => ?_, fun q hq => ?_⟩, ?_, ?_, hst.2.2.2.2.2.2⟩
    · rw [e1]
      exact ⟨hR'.1, hR'.2.1, fun q hq => hsub q (hR'.2.2.1 q hq), hR'.2.2.2⟩
    · rw [hF2 q (Nat.lt_of_lt_of_le g1 hH0.1) (fun z => g2 (hsub q z))]
      exact hH0.2.1 q g1 g2
    · rcases List.mem_append.mp hq with g | g
      · exact hH0.2.2 q g
      · exact hsub _ (hL q g)
    · have := hst.2.2.2.2.1; omega
    · have := hst.2.2.2.2.2.1; omega
  obtain ⟨t2, a1, b1⟩ := hk ls T'.heap (locs ++ Lc) _ _ hst1 T' rfl X'
  exact ⟨t2, hgo t2 a1, b1⟩
theorem x_cats {t : List Value} (h : t.length ≤ 4) : 2 * (F0 (m := (default : MethodId)) 0 #[] []).monitorRoom + (t.map fun v => v.category).sum ≤ 8 := by
  have := cats_le t
  show 2 * 0 + _ ≤ 8
  omega
theorem x_hws {z : Nat} {p : Program} {R : Room} {s : State} {m : MethodId} {args : Array Value} {meth : Method} {c : Code} {D : va_G} {T3 : Nat → ClassId} {y : Nat} {SX : Nat → Nat → (Nat → Int32) → Prop} {A : Nat → Prop} {H0 : Heap} (hC : CX SX A H0 D T3 p R s m args meth c y) (hcode : Jvm.Cond.code (x_nm z) (x_cd z) (x_ml z) (x_rt z) ∈ x_TG) : ∀ w ∈ x_ws z, ∀ (a' : Array Value) (U : State), s.WarmedH U.vm → w.before a' U = true := by
  intro w hw a' U hW
  have hw' : w ∈ x_TG := by
    rcases List.mem_cons.mp hw with rfl | hw
    · exact hcode
    · exact hw
  exact word_at hW (good_of_word (List.mem_filter.mp hw').2) (x_hts hC w hw')
theorem x_s_isC {y pc : Nat} {L st : List Value} {h : xH} {i : Instr} {q : Nat × List Value × Nat × List Value × List Value} (hs : x_s y i pc L st h = some (.inr (.inr q))) : (∃ ix, i = .invokevirtual ix) ∨ (∃ ix, i = .invokestatic ix) ∨ ∃ ix, i = .invokespecial ix := by
  cases i with
  | invokevirtual ix => exact Or.inl ⟨ix, rfl⟩
  | invokestatic ix => exact Or.inr (Or.inl ⟨ix, rfl⟩)
  | invokespecial ix => exact Or.inr (Or.inr ⟨ix, rfl⟩)
  | newarray t =>
    exfalso
    have key : ∀ tg : Nat, xNarr pc tg L st h = some (.inr (.inr q)) → False := by
      intro tg hs
      unfold xNarr at hs
      split at hs
      · split at hs
        · cases hs
        · cases hs
      · cases hs
    cases t with
    | int => exact key 0 hs
    | boolean => exact key 1 hs
    | _ => cases hs
  | _ =>
    exfalso
    simp only [x_s, nx, jp, xLi, xLl, xLa, xSi, xSa, xInc, x2i, x2l, xli, xIf, xGet, xPut, xIald, xIast, xZald, xZast, xAald, xAast, xAlen, xNew, xAnew, xIv, xIs, xIp, xInv, xTab, xLook, xRet, xRea, xRev] at hs
    repeat' split at hs
    all_goals cases hs
theorem x_s_isR {y pc : Nat} {L st : List Value} {h : xH} {i : Instr} {v : Option Value} (hs : x_s y i pc L st h = some (.inr (.inl v))) : i = .ireturn ∨ i = .areturn ∨ i = .return_ := by
  cases i with
  | ireturn => exact Or.inl rfl
  | areturn => exact Or.inr (Or.inl rfl)
  | return_ => exact Or.inr (Or.inr rfl)
  | newarray t =>
    exfalso
    have key : ∀ tg : Nat, xNarr pc tg L st h = some (.inr (.inl v)) → False := by
      intro tg hs
      unfold xNarr at hs
      split at hs
      · split at hs
        · cases hs
        · cases hs
      · cases hs
    cases t with
    | int => exact key 0 hs
    | boolean => exact key 1 hs
    | _ => cases hs
  | _ =>
    exfalso
    simp only [x_s, nx, jp, xLi, xLl, xLa, xSi, xSa, xInc, x2i, x2l, xli, xIf, xGet, xPut, xIald, xIast, xZald, xZast, xAald, xAast, xAlen, xNew, xAnew, xIv, xIs, xIp, xInv, xTab, xLook, xRet, xRea, xRev] at hs
    repeat' split at hs
    all_goals cases hs
/-- a call, by the callee's contract -/
theorem x_call {p : Program} {l : Launch} {e : Env} {R : Room} {s : State} {m : MethodId} {args : Array Value} {below : List Frame} {meth : Method} {c : Code} {Q : State → Prop} {D : va_G} {T3 : Nat → ClassId} {A : Nat → Prop} {H0 : Heap} {z0 : Nat × Nat} {y : Nat} {SX : Nat → Nat → (Nat → Int32) → Prop} {pc pc' z len : Nat} {L st L' as t : List Value} {h h1 : xH} {i : Instr} {v : Option Value} (hC : CX SX A H0 D T3 p R s m args meth c y) (hf : x_fe y pc = some (i, len)) (hs : x_s y i pc L st h = some (.inr (.inr (z, as, pc', L', t)))) (hm : ∀ q : (Nat × Nat) × (Nat × Nat × Nat), q.2.2.1 = z → x_ivOK q → (xsp as).length ≤ x_ml z → z ≠ x_LAW → x_met l z as h h1 v) (hg1 : h.1.1 ≤ h1.1.1) (hg2 : h.1.2 ≤ h1.1.2) (hr1 : h1.1.1 ≤ z0.1 + R.cells) (hr2 : h1.1.2 ≤ z0.2 + R.slots)
    (hk : WS p l e R s m args below meth c Q D T3 SX A H0 z0 y pc' L' (v.toList ++ t) h1) : WS p l e R s m args below meth c Q D T3 SX A H0 z0 y pc L st h := by
  obtain ⟨hd, ho⟩ := x_fe_of hf
  have hfix : CallFix p m c (x_cd y) (x_ml y) s args x_TG (x_RC (x_kl y)) := ⟨hC.1, hC.2.1, hC.2.2.1, x_own hC, x_hts hC⟩
  have hfr := hC.2.2.2.2.2.2.1
  have hlo := hC.2.2.2.2.2.2.2.1
  cases i with
  | invokevirtual ix =>
    obtain rfl := eq_of_beq ho
    have hs : xIv y ix pc L st h = some (.inr (.inr (z, as, pc', L', t))) := hs
    unfold xIv at hs
    split at hs
    next zz n hiv =>
      split at hs
      next b t0 hdrop =>
        split at hs
        next hK =>
          split at hs
          next hlen =>
            unfold xInv at hs
            split at hs
            next hroom =>
              cases hs
              intro ls H locs cells slots hst
              obtain ⟨r1, r2, r3, r4, r5⟩ := hroom
              have hok := x_ivl _ (x_find_mem _ _ _ _ hiv)
              have hM := hm _ rfl hok r4 r5 D T3 SX
              obtain ⟨hlink, hcode, hini, hne, hpar, hpl, hcls, h0, -, -⟩ := hok
              obtain ⟨hinst, hsel, T, N, hcl⟩ := h0 rfl
              obtain ⟨fs, he⟩ := isK_of hK
              have hat := hst.2.2.1.2.1 b (by rw [he]; exact decide_eq_true (x_clsN hcl))
              rw [he] at hat
              have hst' : st = ((st.take n).reverse).reverse ++ .ref b :: t := by
                rw [List.reverse_reverse, ← hdrop, List.take_append_drop]
              have a1 := hst.2.2.2.2.1
              have a2 := hst.2.2.2.2.2.1
              have hp : PreV s H (x_nm z).cls b (x_Pc D T3 SX (.ref b :: (st.take n).reverse) h) (st.take n).reverse := by
                refine ⟨x_blind, va_recv (x_KK hC).1 (va_one hat) hcl (q0 := 0) rfl, fun U hU hW => ⟨rfl, ?_, (x_KK hC).warm hW⟩⟩
                rw [hU]
                exact ⟨hst.2.2.1.1, hst.2.2.1.2.1, fun q hq => Or.inl hq, hst.2.2.1.2.2.2⟩
              have hsig : ∀ sig, parseMethodDescriptor (x_nm z).desc = some sig → n = sig.parameters.length := fun sig hsg => by
                have h2 := hpar
                dsimp only at h2
                rw [hsg] at h2
                exact (Option.some.inj h2).symm
              refine run_cont hst hg1 hg2 (v := v) (aa := (Value.ref b :: (st.take n).reverse).toArray) (t := t) ?_ hk
              rcases hlink with hl | ⟨host, hl⟩
              · exact va_runV (As := (st.take n).reverse) (rest := t) hfix hM ⟨⟨rfl, rfl, by show x_fr z + 1 ≤ _; omega, by show 8 + (x_ml z + 11) + x_lo z ≤ _; omega, x_hws hC hcode, List.mem_cons_self, x_hts hC _ hcode, x_hts hC _ hini, hne, hsig, x_hts hC _ hl⟩, x_hts hC _ hinst, x_hts hC _ hsel⟩ hp rfl (by rw [List.length_reverse]; exact hlen) hst.1 hst' (x_cats r3) hd ⟨by omega, by omega⟩
              · exact va_runVN (As := (st.take n).reverse) (rest := t) (C := (x_nm z).cls) hfix hM ⟨⟨⟨rfl, rfl, by show x_fr z + 1 ≤ _; omega, by show 8 + (x_ml z + 11) + x_lo z ≤ _; omega, x_hws hC hcode, List.mem_cons_self⟩, x_hts hC _ hcode, x_hts hC _ hini, hne, hsig, va_Nw.use rfl ((x_KK hC).2.1 _ hl)⟩, x_hts hC _ hinst, x_hts hC _ hsel⟩ hp rfl (by rw [List.length_reverse]; exact hlen) hst.1 hst' (x_cats r3) hd ⟨by omega, by omega⟩
            next => cases hs
          next => cases hs
        next => cases hs
      next => cases hs
    next => cases hs
  | invokestatic ix =>
    obtain rfl := eq_of_beq ho
    have hs : xIs y ix pc L st h = some (.inr (.inr (z, as, pc', L', t))) := hs
    unfold xIs at hs
    split at hs
    next b hb =>
      split at hs
      · split at hs
        · cases hs
        · cases hs
      · cases hs
    next =>
      split at hs
      next zz n hiv =>
        split at hs
        next hlen =>
          unfold xInv at hs
          split at hs
          next hroom =>
            cases hs
            intro ls H locs cells slots hst
            obtain ⟨r1, r2, r3, r4, r5⟩ := hroom
            have hok := x_ivl _ (x_find_mem _ _ _ _ hiv)
            have hM := hm _ rfl hok r4 r5 D T3 SX
            obtain ⟨hlink, hcode, hini, hne, hpar, hpl, hcls, -, h0, -⟩ := hok
            have hstat := h0 rfl
            have hst' : st = ((st.take n).reverse).reverse ++ st.drop n := by
              rw [List.reverse_reverse, List.take_append_drop]
            have a1 := hst.2.2.2.2.1
            have a2 := hst.2.2.2.2.2.1
            have hp : PreS s H (x_Pc D T3 SX (st.take n).reverse h) (st.take n).reverse := by
              refine ⟨x_blind, fun U hU hW => ⟨rfl, ?_, (x_KK hC).warm hW⟩⟩
              rw [hU]
              exact ⟨hst.2.2.1.1, hst.2.2.1.2.1, fun q hq => Or.inl hq, hst.2.2.1.2.2.2⟩
            have hsig : ∀ sig, parseMethodDescriptor (x_nm z).desc = some sig → n = sig.parameters.length := fun sig hsg => by
              have h2 := hpar
              dsimp only at h2
              rw [hsg] at h2
              exact (Option.some.inj h2).symm
            refine run_cont hst hg1 hg2 (v := v) (aa := ((st.take n).reverse).toArray) (t := st.drop n) ?_ hk
            rcases hlink with hl | ⟨host, hl⟩
            · exact va_runS (As := (st.take n).reverse) (rest := st.drop n) hfix hM ⟨⟨rfl, rfl, by show x_fr z + 1 ≤ _; omega, by show 8 + (x_ml z + 11) + x_lo z ≤ _; omega, x_hws hC hcode, List.mem_cons_self, x_hts hC _ hcode, x_hts hC _ hini, hne, hsig, x_hts hC _ hl⟩, x_hts hC _ hstat⟩ hp rfl (by rw [List.length_reverse]; exact hlen) hst.1 hst' (x_cats r3) hd ⟨by omega, by omega⟩
            · exact va_runSN (As := (st.take n).reverse) (rest := st.drop n) hfix hM ⟨⟨⟨rfl, rfl, by show x_fr z + 1 ≤ _; omega, by show 8 + (x_ml z + 11) + x_lo z ≤ _; omega, x_hws hC hcode, List.mem_cons_self⟩, x_hts hC _ hcode, x_hts hC _ hini, hne, hsig, va_Nw.use rfl ((x_KK hC).2.1 _ hl)⟩, x_hts hC _ hstat, trivial⟩ hp rfl (by rw [List.length_reverse]; exact hlen) hst.1 hst' (x_cats r3) hd ⟨by omega, by omega⟩
          next => cases hs
        next => cases hs
      next => cases hs
  | invokespecial ix =>
    obtain rfl := eq_of_beq ho
    have hs : xIp y ix pc L st h = some (.inr (.inr (z, as, pc', L', t))) := hs
    unfold xIp at hs
    split at hs
    next hb =>
      split at hs
      · split at hs
        · cases hs
        · cases hs
      · cases hs
    next =>
      split at hs
      next zz n hiv =>
        split at hs
        next b t0 hdrop =>
          split at hs
          next hlen =>
            unfold xInv at hs
            split at hs
            next hroom =>
              cases hs
              intro ls H locs cells slots hst
              obtain ⟨r1, r2, r3, r4, r5⟩ := hroom
              have hok := x_ivl _ (x_find_mem _ _ _ _ hiv)
              have hM := hm _ rfl hok r4 r5 D T3 SX
              obtain ⟨hlink, hcode, hini, hne, hpar, hpl, hcls, -, -, h0⟩ := hok
              obtain ⟨hinst, hname, hret⟩ := h0 rfl
              have hst' : st = ((st.take n).reverse).reverse ++ .ref b :: t := by
                rw [List.reverse_reverse, ← hdrop, List.take_append_drop]
              have a1 := hst.2.2.2.2.1
              have a2 := hst.2.2.2.2.2.1
              have hp : PreS s H (x_Pc D T3 SX (.ref b :: (st.take n).reverse) h) (.ref b :: (st.take n).reverse) := by
                refine ⟨x_blind, fun U hU hW => ⟨rfl, ?_, (x_KK hC).warm hW⟩⟩
                rw [hU]
                exact ⟨hst.2.2.1.1, hst.2.2.1.2.1, fun q hq => Or.inl hq, hst.2.2.1.2.2.2⟩
              have hret' : x_rt z = none := hret
              have hcode' : Jvm.Cond.code (x_nm z) (x_cd z) (x_ml z) none ∈ x_TG := by rw [← hret']; exact hcode
              have hmem : Jvm.Cond.code (x_nm z) (x_cd z) (x_ml z) none ∈ x_ws z := by unfold x_ws; rw [hret']; exact List.mem_cons_self
              have hsig : ∀ sig, parseMethodDescriptor (x_nm z).desc = some sig → n = sig.parameters.length := fun sig hsg => by
                have h2 := hpar
                dsimp only at h2
                rw [hsg] at h2
                exact (Option.some.inj h2).symm
              refine run_cont hst hg1 hg2 (v := v) (aa := (Value.ref b :: (st.take n).reverse).toArray) (t := t) ?_ hk
              rcases hlink with hl | ⟨host, hl⟩
              · exact va_runI (As := (st.take n).reverse) (rest := t) hfix hM ⟨⟨rfl, rfl, by show x_fr z + 1 ≤ _; omega, by show 8 + (x_ml z + 11) + x_lo z ≤ _; omega, x_hws hC hcode, hmem, x_hts hC _ hcode', x_hts hC _ hini, hne, hsig, x_hts hC _ hl⟩, hname, x_hts hC _ hinst⟩ hp rfl (by rw [List.length_reverse]; exact hlen) hst.1 hst' (x_cats r3) hd ⟨by omega, by omega⟩
              · exact va_runIN (As := (st.take n).reverse) (rest := t) hfix hM ⟨⟨⟨rfl, rfl, by show x_fr z + 1 ≤ _; omega, by show 8 + (x_ml z + 11) + x_lo z ≤ _; omega, x_hws hC hcode, hmem⟩, x_hts hC _ hcode', x_hts hC _ hini, hne, hsig, va_Nw.use rfl ((x_KK hC).2.1 _ hl)⟩, hname, x_hts hC _ hinst⟩ hp rfl (by rw [List.length_reverse]; exact hlen) hst.1 hst' (x_cats r3) hd ⟨by omega, by omega⟩
            next => cases hs
          next => cases hs
        next => cases hs
      next => cases hs
  | _ => exact absurd (x_s_isC hs) (by rintro (⟨_, q⟩ | ⟨_, q⟩ | ⟨_, q⟩) <;> cases q)
end
section
/-- what a return leaves -/
def x_ret (p : Program) (l : Launch) (e : Env) (R : Room) (s : State) (m : MethodId) (args : Array Value) (below : List Frame) (meth : Method) (c : Code) (Q : State → Prop) (D : va_G) (T3 : Nat → ClassId) (SX : Nat → Nat → (Nat → Int32) → Prop) (A : Nat → Prop) (H0 : Heap) (z0 : Nat × Nat) (y : Nat) (v : Option Value) (h' : xH) : Prop :=
  ∀ (pc : Nat) (i : Instr) (L st : List Value), decode (x_cd y) pc = .ok (i, 1) → x_s y i pc L st h' = some (.inr (.inl v)) → ∀ (ls : Array Slot) (H : Heap) (locs : List Loc) (cells slots : Nat), ST D T3 SX A H0 z0 H0.size y ls L h' H locs cells slots → W p l e R s m args below meth c H locs cells slots Q (F0 m pc ls st)
/-- a run of n steps is a run of the Java machine -/
def x_snd (l : Launch) (n : Nat) : Prop := ∀ (y pc : Nat) (L st : List Value) (h h' : xH) (v : Option Value), x_r n y pc L st h = some (v, h') →
  ∀ (p : Program) (e : Env) (R : Room) (s : State) (m : MethodId) (args : Array Value) (below : List Frame) (meth : Method) (c : Code) (Q : State → Prop) (D : va_G) (T3 : Nat → ClassId) (SX : Nat → Nat → (Nat → Int32) → Prop) (A : Nat → Prop) (H0 : Heap) (z0 : Nat × Nat),
    CX SX A H0 D T3 p R s m args meth c y → h'.1.1 ≤ z0.1 + R.cells → h'.1.2 ≤ z0.2 + R.slots → x_ret p l e R s m args below meth c Q D T3 SX A H0 z0 y v h' → WS p l e R s m args below meth c Q D T3 SX A H0 z0 y pc L st h
theorem xsp_get : ∀ (as : List Value) (i : Nat) (v : Value), (xsp as)[i]? = some v → v ≠ unk → (lg_sl as)[i]? = some (.val v)
  | [], _, _, h, _ => by simp [xsp] at h
  | w :: ws, i, v, h, hv => by
    have ih := xsp_get ws
    by_cases hc : w.category = 2
    · simp only [xsp, hc, if_true] at h
      have e1 : lg_sl (w :: ws) = .val w :: .second :: lg_sl ws := by simp [lg_sl, hc]
      rw [e1]
      match i, h with
      | 0, h => simp at h; simp [h]
      | 1, h => simp at h; exact absurd h.symm hv
      | i + 2, h => simp at h ⊢; exact ih i v h hv
    · simp only [xsp, hc, if_false] at h
      have e1 : lg_sl (w :: ws) = .val w :: lg_sl ws := by simp [lg_sl, hc]
      rw [e1]
      match i, h with
      | 0, h => simp at h; simp [h]
      | i + 1, h => simp at h ⊢; exact ih i v h hv
theorem xsp_len : ∀ (as : List Value), (xsp as).length = (lg_sl as).length
  | [] => rfl
  | w :: ws => by
    have ih := xsp_len ws
    by_cases hc : w.category = 2
    · have e1 : lg_sl (w :: ws) = .val w :: .second :: lg_sl ws := by simp [lg_sl, hc]
      rw [e1]
      simp [xsp, hc, ih]
    · have e1 : lg_sl (w :: ws) = .val w :: lg_sl ws := by simp [lg_sl, hc]
      rw [e1]
      simp [xsp, hc, ih]
theorem x_entry (as : List Value) {n : Nat} (hn : (xsp as).length ≤ n) : LH ((lg_sl as ++ List.replicate (n - (lg_sl as).length) Slot.unset).toArray) (xen as n) ∧ ((lg_sl as ++ List.replicate (n - (lg_sl as).length) Slot.unset).toArray).size = n := by
  have hl := lv_entry as (n := n) (by rw [← xsp_len]; exact hn)
  refine ⟨⟨hl.2.1, ?_, fun i v hi hv => ?_⟩, hl.1⟩
  · rw [hl.1]
    unfold xen
    rw [List.length_append, List.length_replicate]
    omega
  · unfold xen at hi
    by_cases h1 : i < (xsp as).length
    · rw [List.getElem?_append_left h1] at hi
      have h2 := xsp_get as i v hi hv
      rw [List.getElem?_toArray, List.getElem?_append_left (by rw [← xsp_len]; exact h1)]
      exact h2
    · rw [List.getElem?_append_right (by omega)] at hi
      rw [List.getElem?_replicate] at hi
      split at hi
      · exact absurd (Option.some.inj hi).symm hv
      · cases hi
theorem x_met_of {l : Launch} {n z : Nat} {as : List Value} {h h' : xH} {v : Option Value} (hP : x_snd l n) (hr : x_r n z 0 (xen as (x_ml z)) [] h = some (v, h')) (q : (Nat × Nat) × (Nat × Nat × Nat)) (hq : q.2.2.1 = z) (hok : x_ivOK q) (hlen : (xsp as).length ≤ x_ml z) (hin : x_in z = true → (x_nm z).name = "<init>") (hlaw : z ≠ x_LAW) : x_met l z as h h' v := by
  intro D T3 SX
  subst hq
  obtain ⟨-, hcode, -, -, -, hpl, hcls, -⟩ := hok
  refine Met.ofW (cc := x_cd q.2.2.1) (maxL := x_ml q.2.2.1) (ret := x_rt q.2.2.1) hpl rfl ?_
  intro p e s m args below meth c s₁ B hml hv
  obtain ⟨rfl, hR, hK⟩ := hv
  have hts := atoms_spec (ws := x_ws q.2.2.1) B.pre
  have hown : s.vm.findClass (x_nm q.2.2.1).cls = some m.cls := findClass_of_methodNamed B.named
  have hnm : meth.name = (x_nm q.2.2.1).name := (name_of_methodNamed B.named B.method).1
  have hg := x_r_grow _ _ _ _ _ _ _ hr
  have hlocks := B.notSynchronized
  rw [lg_entry_eq]
  obtain ⟨e1, e2⟩ := x_entry as hlen
  have hC : CX SX (x_A h) s.heap D T3 p (headSpec (x_ws q.2.2.1) (x_rm q.2.2.1 (h'.1.1 - h.1.1) (h'.1.2 - h.1.2))).room s m as.toArray meth c q.2.2.1 :=
    ⟨B.exec, B.bytes, hml, by rw [← hcls]; exact hown, fun w hw => hts w (List.mem_cons_of_mem _ hw), hK, Nat.le_refl _, Nat.le_refl _, fun hi => by rw [hnm]; exact hin hi, fun hl => absurd hl hlaw⟩
  refine hP q.2.2.1 0 (xen as (x_ml q.2.2.1)) [] h h' v hr p e _ s m as.toArray below meth c _ D T3 SX (x_A h) s.heap h.1 hC ?_ ?_ ?_ _ s.heap [] 0 0 ⟨e2, e1, hR, va_S.rf, rfl, rfl, fun q hq => Or.inr (by rw [← hR.1]; exact hq)⟩
  · show h'.1.1 ≤ h.1.1 + (h'.1.1 - h.1.1); have := hg.1; omega
  · show h'.1.2 ≤ h.1.2 + (h'.1.2 - h.1.2); have := hg.2; omega
  · intro pc i L st hd hs ls H locs cells slots hst
    have c1 : cells = h'.1.1 - h.1.1 := by have := hst.2.2.2.2.1; omega
    have c2 : slots = h'.1.2 - h.1.2 := by have := hst.2.2.2.2.2.1; omega
    subst c1; subst c2
    have hQ : ∀ t : State, t.heap = H → s.WarmedH t.vm → x_Qc D T3 SX h h' v as.toArray s (.returned v) t := by
      intro t ht hW
      refine ⟨rfl, by rw [ht]; exact hst.2.2.1, hst.2.2.2.1.F ht⟩
    have hF : ∀ q ∈ locs, x_A h q.base := hst.2.2.2.1.2.2
    rcases x_s_isR hs with rfl | rfl | rfl
    · have hs : xRet q.2.2.1 st = some (.inr (.inl v)) := hs
      unfold xRet at hs
      split at hs
      next x =>
        split at hs
        next ty hty =>
          split at hs
          next hf =>
            cases hs
            exact W.zret (ty := ty) hC.1 hC.2.1 (by rw [← hty]; exact B.returns) (x_fits_of hf).1 hQ hF hd
          next => cases hs
        next => cases hs
      next => cases hs
    · have hs : xRea q.2.2.1 st = some (.inr (.inl v)) := hs
      unfold xRea at hs
      split at hs
      next a =>
        split at hs
        next nm hty =>
          cases hs
          exact W.aret (rt := .object nm) hC.1 hC.2.1 (by rw [← hty]; exact B.returns) (Or.inl ⟨_, rfl⟩) (Or.inr ⟨_, rfl⟩) hQ hF hd
        next => cases hs
      next =>
        split at hs
        next nm hty =>
          cases hs
          exact W.aret (rt := .object nm) hC.1 hC.2.1 (by rw [← hty]; exact B.returns) (Or.inl ⟨_, rfl⟩) (Or.inl rfl) hQ hF hd
        next => cases hs
      next => cases hs
    · have hs : xRev q.2.2.1 st = some (.inr (.inl v)) := hs
      unfold xRev at hs
      split at hs
      next =>
        split at hs
        next hty =>
          cases hs
          exact W.vret hC.1 hC.2.1 (by rw [← hty]; exact B.returns) hQ hF hd
        next => cases hs
      next => cases hs
theorem x_inN : ∀ z, x_in z = true → (x_nm z).name = "<init>" := by
  have h : ∀ z, z < x_INS.length → x_INS.getD z false = true → (x_nm z).name = "<init>" := by decide +kernel
  intro z hz
  by_cases hl : z < x_INS.length
  · exact h z hl hz
  · unfold x_in at hz
    rw [List.getD_eq_getElem?_getD, List.getElem?_eq_none (by omega)] at hz
    cases hz
/-- SOUND: what the small machine answers, the Java machine does -/
theorem x_sound (l : Launch) : ∀ n, x_snd l n := by
  intro n
  induction n with
  | zero => intro y pc L st h h' v hr; cases hr
  | succ n ih =>
    intro y pc L st h h' v hr p e R s m args below meth c Q D T3 SX A H0 z0 hC hr1 hr2 hret
    have hgr := x_r_grow _ _ _ _ _ _ _ hr
    obtain ⟨k, i, len, ek, hf, hc⟩ := x_r_some hr
    cases ek
    rcases hc with ⟨pc', L', st', h1, hs, hk⟩ | ⟨hs, hh⟩ | ⟨z, as, pc', L', t, v1, h1, hs, hz, hk⟩
    · have hg := x_r_grow _ _ _ _ _ _ _ hk
      have hg1 : h1.1.1 ≤ h'.1.1 := hg.1
      have hg2 : h1.1.2 ≤ h'.1.2 := hg.2
      exact s_all hC (by omega) (by omega) hf hs (ih _ _ _ _ _ _ _ hk p e R s m args below meth c Q D T3 SX A H0 z0 hC hr1 hr2 hret)
    · have hh : h' = h := hh
      subst hh
      have hs : x_s y i pc L st h' = some (.inr (.inl v)) := hs
      obtain ⟨hd, ho⟩ := x_fe_of hf
      intro ls H locs cells slots hst
      refine hret pc i L st ?_ hs ls H locs cells slots hst
      rcases x_s_isR hs with rfl | rfl | rfl
      · obtain rfl := eq_of_beq ho; exact hd
      · obtain rfl := eq_of_beq ho; exact hd
      · obtain rfl := eq_of_beq ho; exact hd
    · have hg := x_r_grow _ _ _ _ _ _ _ hk
      have hg1 : h1.1.1 ≤ h'.1.1 := hg.1
      have hg2 : h1.1.2 ≤ h'.1.2 := hg.2
      have hgz := x_r_grow _ _ _ _ _ _ _ hz
      exact x_call hC hf hs (fun q hq hok hlen hlaw => x_met_of ih hz q hq hok hlen (x_inN z) hlaw) hgz.1 hgz.2 (by omega) (by omega) (ih _ _ _ _ _ _ _ hk p e R s m args below meth c Q D T3 SX A H0 z0 hC hr1 hr2 hret)
end
section
-- ===== end of PART A; then your names; then what follows =====
/-! THE CLAIM OUT OF ONE WALK OF THE LAW'S BODY. Your part is whole_start (and what it stands on); all else here is the same for every law, but numbers. -/
def R_law : String := "MeetingCarpetsLaw"
def lw_P (b : Addr) (xs : List Int32) (args : Array Value) (s : State) : Prop := args = #[.ref b] ∧ s.IntsAt b xs ∧ xs.length ≤ 1536 ∧ (Jvm.Cond.and given_1 narrow_1).before args s = true
def lw_Q (_ : Array Value) (s : State) (o : Outcome) (t : State) : Prop := o = .returned (some (.int 1)) ∧ Framed s o t [] 600000 7302250
def lw_Z (below : List Frame) (a : Array Value) (s : State) : State → Prop := fun t => ∃ o, t.status = .running ∧ Ended t below o ∧ lw_Q a s o t
/-- the law's own end, with 1 on the stack, nothing written that was there before, its room as the claim has it -/
theorem lw_ret {p : Program} {l : Launch} {e : Env} {s : State} {m : MethodId} {below : List Frame} {meth : Method} {c : Code} {b : Nat} (hx : p.tables.exec = Jvm.exec) (hb : c.code = code) (hr : meth.sig.returnType = ret) (hlocks : meth.locks = false) {pc : Nat} {H : Heap} {ls : Array Slot} (hdg : decode code pc = .ok (.ireturn, 1)) : W p l e room_1 s m #[Value.ref b] below meth c H [] 600000 7302250 (lw_Z below #[Value.ref b] s) (F0 m pc ls [.int 1]) := by
  intro T hT X
  obtain ⟨fs, hret, hrun, hended, hW, hframe⟩ := X.leave (v := some (.int 1)) (hlocks := hlocks) (fun h => by rw [hr] at h; cases h)
  have hmeth' : T.vm.method? m = some meth := X.method'
  refine ⟨T.setFrames fs, ?_, .returned (some (.int 1)), hrun, hended, rfl, ⟨_, rfl⟩, hW, hframe⟩
  jvm_step X.here [X.here.top, hx, hb, hdg, hmeth', hr, ret, narrow_b1]
  (try refine ⟨rfl, ?_⟩); (try refine ⟨rfl, ?_⟩)
  first | (intro acts; rw [hret _ acts rfl rfl rfl]) | rw [hret _ _ rfl rfl rfl]
  exact Steps.refl _
/-- what holds at the law's entry: the machine, the code, the tables' words (any of lw_tbl by 'hts w (by decide +kernel)'), the script of L ints xs at the cell b, what the Statement gives of the start (any of its parts by flat_of_before) -/
def lw_At (p : Program) (s : State) (m : MethodId) (meth : Method) (c : Code) (b L : Nat) (xs : Nat → Int32) : Prop :=
  p.tables.exec = Jvm.exec ∧ c.code = code ∧ meth.sig.returnType = ret ∧ c.maxLocals = 4 ∧ s.vm.findClass R_law = some m.cls ∧ (∀ w ∈ lw_tbl, w.before #[Value.ref b] s = true) ∧ va_X b L xs s s.heap ∧ b < s.heap.size ∧ meth.locks = false ∧ (Jvm.Cond.and given_1 narrow_1).before #[Value.ref b] s = true
theorem x_ins : ∀ (ci : Nat) (C : String) (T : u_T) (N : Nat), x_CLS[ci]? = some (C, T, N) → Jvm.Cond.instantiable C N ∈ x_TG
  | 0, _, _, _, h => by cases h; exact x_tg 134 (by decide +kernel) (by decide +kernel)
  | 1, _, _, _, h => by cases h; exact x_tg 196 (by decide +kernel) (by decide +kernel)
  | 2, _, _, _, h => by cases h; exact x_tg 105 (by decide +kernel) (by decide +kernel)
  | 3, _, _, _, h => by cases h; exact x_tg 233 (by decide +kernel) (by decide +kernel)
  | 4, _, _, _, h => by cases h; exact x_tg 248 (by decide +kernel) (by decide +kernel)
  | 5, _, _, _, h => by cases h; exact x_tg 216 (by decide +kernel) (by decide +kernel)
  | 6, _, _, _, h => by cases h; exact x_tg 111 (by decide +kernel) (by decide +kernel)
  | 7, _, _, _, h => by cases h; exact x_tg 97 (by decide +kernel) (by decide +kernel)
  | 8, _, _, _, h => by cases h; exact x_tg 643 (by decide +kernel) (by decide +kernel)
  | n + 9, _, _, _, h => by simp at h
/-- the law's start: the script alone -/
def x_h0 (b L : Nat) (xs : Nat → Int32) : xM := fun q => if q = b then .inl (3, L, .inl xs) else .inr (99, [])
set_option maxHeartbeats 4000000 in
theorem x_whole {p : Program} {e : Env} {s : State} {m : MethodId} {below : List Frame} {meth : Method} {c : Code} (l : Launch) {b L : Nat} {xs : Nat → Int32} (C0 : lw_At p s m meth c b L xs) (hrun : ∃ hf : xH, rn x_LAW 0 [.ref b, unk, unk, unk] [] ((s.heap.size, 0), x_h0 b L xs) = some (some (.int 1), hf) ∧ hf.1.1 ≤ s.heap.size + 600000 ∧ hf.1.2 ≤ 7302250) : W p l e room_1 s m #[Value.ref b] below meth c s.heap [] 0 0 (lw_Z below #[Value.ref b] s) (entryFrame m ([Value.ref b] : List Value).toArray 4) := by
  obtain ⟨hx, hb, hr, hml, hown, hts0, hX, hbl, hlocks, hgv⟩ := C0
  obtain ⟨hf, hrn, hc1, hc2⟩ := hrun
  have hts : ∀ w ∈ x_TG, w.before #[Value.ref b] s = true := fun w hw => hts0 w (List.mem_filter.mp hw).1
  have hcl : ∀ k : Nat, ∃ cC : ClassId, ∃ iS : Nat → Nat, ∀ r : vw_C, x_CLS[k]? = some r → u_Kn s r.1 r.2.1 r.2.2 cC iS := by
    intro k
    cases hk : x_CLS[k]? with
    | none => exact ⟨0, fun _ => 0, fun r h => by cases h⟩
    | some r =>
      obtain ⟨C, T, N⟩ := r
      obtain ⟨cC, iS, h⟩ := u_known (C := C) (T := T) (N := N) (n := N) hts (x_clA k C T N hk).1 (hts _ (x_ins k C T N hk))
      exact ⟨cC, iS, fun r hr => by cases hr; exact h⟩
  obtain ⟨dC, hdC⟩ := Classical.axiomOfChoice hcl
  obtain ⟨dI, hdI⟩ := Classical.axiomOfChoice hdC
  obtain ⟨cI, kI, pI, i1, i2, i3⟩ := Cond.arrayClass_spec (hts _ x_acI)
  obtain ⟨cZ, kZ, pZ, j1, j2, j3⟩ := Cond.arrayClass_spec (hts _ x_acZ)
  have hAO : va_AO x_AOC s := va_AO.of (hts0 (.arrayOver (.object x_AOC)) (List.mem_of_getElem? (i := 202) (by decide +kernel)))
  obtain ⟨pH, cH, kH, g1, -, g3, g4, g5⟩ := Cond.arrayOver_spec hAO
  have hKK : KK (dC, dI) (fun k => if k = 0 then cI else if k = 1 then cZ else cH) s := by
    refine ⟨⟨fun k r hk => hdI k r hk, fun k q hk => ?_⟩, fun w hw => ?_, hAO⟩
    · match k, hk with
      | 0, hk => cases hk; exact ⟨fun n z => ⟨fun k h => (by cases h), kI, i2, pI, i3⟩, i1⟩
      | 1, hk => cases hk; exact ⟨fun n z => ⟨fun k h => (by cases h), kZ, j2, pZ, j3⟩, j1⟩
      | 2, hk => cases hk; exact ⟨fun n z => ⟨fun k h => (by cases h), kH, g3, pH, g4⟩, kH, pH, g3, g4, g1, g5⟩
      | k + 3, hk => simp [x_tys] at hk
    · have h1 := hts0 w (List.mem_filter.mp hw).1
      have h2 : x_isN w = true := (List.mem_filter.mp hw).2
      have h3 : w.onTables = true := by cases w <;> first | rfl | cases h2
      exact va_Nw.of h3 h1
  have hC : CX (fun q n f => q = b ∧ n = L ∧ f = xs) (fun q => s.heap.size ≤ q) s.heap (dC, dI) (fun k => if k = 0 then cI else if k = 1 then cZ else cH) p room_1 s m #[Value.ref b] meth c x_LAW := by
    refine ⟨hx, hb, hml, hown, hts, hKK, by decide +kernel, by decide +kernel, fun h => absurd h (by decide +kernel), fun _ q n f hq => ?_⟩
    obtain ⟨rfl, rfl, rfl⟩ := hq
    exact ⟨hX, hbl, Nat.not_le.mpr hbl⟩
  obtain ⟨n, hn⟩ := rn_ex hrn
  rw [lg_entry_eq]
  obtain ⟨e1, e2⟩ := x_entry [Value.ref b] (n := 4) (Nat.le_of_ble_eq_true rfl)
  refine x_sound l n x_LAW 0 [.ref b, unk, unk, unk] [] ((s.heap.size, 0), x_h0 b L xs) hf (some (.int 1)) hn p e room_1 s m #[Value.ref b] below meth c _ _ _ _ _ s.heap (s.heap.size, 0) hC hc1 (by show hf.1.2 ≤ 0 + _; rw [Nat.zero_add]; exact hc2) ?_ _ s.heap [] 0 0 ⟨e2, e1, ⟨rfl, fun q hq => ?_, fun q hq => ?_, fun q n f hq => ?_⟩, va_S.rf, rfl, rfl, fun q hq => hq⟩
  · intro pc i L1 st hd hs ls H locs cells slots hst
    have c1 := hst.2.2.2.2.1
    have c2 := hst.2.2.2.2.2.1
    have c1 : hf.1.1 = s.heap.size + cells := c1
    have c2 : hf.1.2 = 0 + slots := c2
    refine va_forget (fun q hq => hst.2.2.2.1.2.2 q hq) ?_
    refine W.widen (k := 600000) (n := 7302250) (by omega) (by omega) ?_
    rcases x_s_isR hs with rfl | rfl | rfl
    · have hs : xRet x_LAW st = some (.inr (.inl (some (.int 1)))) := hs
      unfold xRet at hs
      split at hs
      next x =>
        split at hs
        next ty hty =>
          split at hs
          next hf => cases hs; exact lw_ret hx hb hr hlocks hd
          next => cases hs
        next => cases hs
      next => cases hs
    · have hs : xRea x_LAW st = some (.inr (.inl (some (.int 1)))) := hs
      unfold xRea at hs
      split at hs
      · split at hs <;> cases hs
      · split at hs <;> cases hs
      · cases hs
    · have hs : xRev x_LAW st = some (.inr (.inl (some (.int 1)))) := hs
      unfold xRev at hs
      split at hs
      · split at hs <;> cases hs
      · cases hs
  · have hq : x_trk (x_h0 b L xs q) = true := hq
    unfold x_h0 at hq
    split at hq <;> exact (Bool.false_ne_true hq).elim
  · have hq : x_wr (x_h0 b L xs q) = true := hq
    unfold x_h0 at hq
    split at hq <;> exact (Bool.false_ne_true hq).elim
  · have hq : x_h0 b L xs q = .inl (3, n, .inl f) := hq
    unfold x_h0 at hq
    split at hq
    next h => cases hq; exact ⟨h, rfl, rfl⟩
    next => cases hq
end
section
/-! one equation an instruction -/
theorem e_iconst {y pc len : Nat} {L st : List Value} {h : xH} {n : Int} {v : Int32} (hf : x_fe y pc = some (.iconst n, len)) (hv : Int32.ofInt n = v) : rn y pc L st h = rn y (pc + 1) L (.int v :: st) h := by subst hv; exact rn_nx hf rfl
theorem e_bipush {y pc len : Nat} {L st : List Value} {h : xH} {n : Int} {v : Int32} (hf : x_fe y pc = some (.bipush n, len)) (hv : (Int8.ofInt n).toInt32 = v) : rn y pc L st h = rn y (pc + 2) L (.int v :: st) h := by subst hv; exact rn_nx hf rfl
theorem e_sipush {y pc len : Nat} {L st : List Value} {h : xH} {n : Int} {v : Int32} (hf : x_fe y pc = some (.sipush n, len)) (hv : (Int16.ofInt n).toInt32 = v) : rn y pc L st h = rn y (pc + 3) L (.int v :: st) h := by subst hv; exact rn_nx hf rfl
theorem e_lconst {y pc len : Nat} {L st : List Value} {h : xH} {n : Fin 2} {v : Int64} (hf : x_fe y pc = some (.lconst n, len)) (hv : Int64.ofNat (n : Nat) = v) : rn y pc L st h = rn y (pc + 1) L (.long v :: st) h := by subst hv; exact rn_nx hf rfl
theorem e_ldc2 {y pc len : Nat} {L st : List Value} {h : xH} {ix : Nat} {v : Int64} (hf : x_fe y pc = some (.ldc2_w ix, len)) (hv : x_lc (x_kl y) ix = some v) : rn y pc L st h = rn y (pc + 3) L (.long v :: st) h := rn_nx hf (by simp only [x_s, hv]; rfl)
theorem e_null {y pc len : Nat} {L st : List Value} {h : xH} (hf : x_fe y pc = some (.aconst_null, len)) : rn y pc L st h = rn y (pc + 1) L (.null :: st) h := rn_nx hf rfl
theorem e_iload_n {y pc len : Nat} {L st : List Value} {h : xH} {k : Fin 4} {x : Int32} (hf : x_fe y pc = some (.iload_n k, len)) (hl : lg L k = .int x) : rn y pc L st h = rn y (pc + 1) L (.int x :: st) h := rn_nx hf (by simp only [x_s, xLi, hl]; rfl)
theorem e_iload {y pc len : Nat} {L st : List Value} {h : xH} {k : Nat} {x : Int32} (hf : x_fe y pc = some (.iload k, len)) (hl : lg L k = .int x) : rn y pc L st h = rn y (pc + 2) L (.int x :: st) h := rn_nx hf (by simp only [x_s, xLi, hl]; rfl)
theorem e_lload_n {y pc len : Nat} {L st : List Value} {h : xH} {k : Fin 4} {x : Int64} (hf : x_fe y pc = some (.lload_n k, len)) (hl : lg L k = .long x) : rn y pc L st h = rn y (pc + 1) L (.long x :: st) h := rn_nx hf (by simp only [x_s, xLl, hl]; rfl)
theorem e_aload_n {y pc len : Nat} {L st : List Value} {h : xH} {k : Fin 4} {x : Nat} (hf : x_fe y pc = some (.aload_n k, len)) (hl : lg L k = .ref x) : rn y pc L st h = rn y (pc + 1) L (.ref x :: st) h := rn_nx hf (by simp only [x_s, xLa, hl]; rfl)
theorem e_aload {y pc len : Nat} {L st : List Value} {h : xH} {k : Nat} {x : Nat} (hf : x_fe y pc = some (.aload k, len)) (hl : lg L k = .ref x) : rn y pc L st h = rn y (pc + 2) L (.ref x :: st) h := rn_nx hf (by simp only [x_s, xLa, hl]; rfl)
theorem e_aload_nN {y pc len : Nat} {L st : List Value} {h : xH} {k : Fin 4} (hf : x_fe y pc = some (.aload_n k, len)) (hl : lg L k = .null) : rn y pc L st h = rn y (pc + 1) L (.null :: st) h := rn_nx hf (by simp only [x_s, xLa, hl]; rfl)
theorem e_aloadN {y pc len : Nat} {L st : List Value} {h : xH} {k : Nat} (hf : x_fe y pc = some (.aload k, len)) (hl : lg L k = .null) : rn y pc L st h = rn y (pc + 2) L (.null :: st) h := rn_nx hf (by simp only [x_s, xLa, hl]; rfl)
theorem e_istore_n {y pc len : Nat} {L st : List Value} {h : xH} {k : Fin 4} {x : Int32} {L' : List Value} (hf : x_fe y pc = some (.istore_n k, len)) (hk : (k : Nat) < L.length) (hl : sto L k (.int x) = L') : rn y pc L (.int x :: st) h = rn y (pc + 1) L' st h := rn_nx hf (by simp only [x_s, xSi, if_pos hk, hl]; rfl)
theorem e_istore {y pc len : Nat} {L st : List Value} {h : xH} {k : Nat} {x : Int32} {L' : List Value} (hf : x_fe y pc = some (.istore k, len)) (hk : (k : Nat) < L.length) (hl : sto L k (.int x) = L') : rn y pc L (.int x :: st) h = rn y (pc + 2) L' st h := rn_nx hf (by simp only [x_s, xSi, if_pos hk, hl]; rfl)
theorem e_astore_n {y pc len : Nat} {L st : List Value} {h : xH} {k : Fin 4} {x : Nat} {L' : List Value} (hf : x_fe y pc = some (.astore_n k, len)) (hk : (k : Nat) < L.length) (hl : sto L k (.ref x) = L') : rn y pc L (.ref x :: st) h = rn y (pc + 1) L' st h := rn_nx hf (by simp only [x_s, xSa, if_pos hk, hl]; rfl)
theorem e_astore {y pc len : Nat} {L st : List Value} {h : xH} {k : Nat} {x : Nat} {L' : List Value} (hf : x_fe y pc = some (.astore k, len)) (hk : (k : Nat) < L.length) (hl : sto L k (.ref x) = L') : rn y pc L (.ref x :: st) h = rn y (pc + 2) L' st h := rn_nx hf (by simp only [x_s, xSa, if_pos hk, hl]; rfl)
theorem e_astore_nN {y pc len : Nat} {L st : List Value} {h : xH} {k : Fin 4} {L' : List Value} (hf : x_fe y pc = some (.astore_n k, len)) (hk : (k : Nat) < L.length) (hl : sto L k .null = L') : rn y pc L (.null :: st) h = rn y (pc + 1) L' st h := rn_nx hf (by simp only [x_s, xSa, if_pos hk, hl]; rfl)
theorem e_astoreN {y pc len : Nat} {L st : List Value} {h : xH} {k : Nat} {L' : List Value} (hf : x_fe y pc = some (.astore k, len)) (hk : (k : Nat) < L.length) (hl : sto L k .null = L') : rn y pc L (.null :: st) h = rn y (pc + 2) L' st h := rn_nx hf (by simp only [x_s, xSa, if_pos hk, hl]; rfl)
theorem e_iinc {y pc len : Nat} {L st : List Value} {h : xH} {k : Nat} {n : Int} {x v : Int32} {L' : List Value} (hf : x_fe y pc = some (.iinc k n, len)) (hv : Int32.ofInt n = v) (hx : lg L k = .int x) (hk : k < L.length) (hl : sto L k (.int (x + v)) = L') : rn y pc L st h = rn y (pc + 3) L' st h := rn_nx hf (by subst hv; simp only [x_s, xInc, hx, if_pos hk, hl]; rfl)
theorem e_iadd {y pc len : Nat} {L st : List Value} {h : xH} {a b : Int32} (hf : x_fe y pc = some (.iadd, len)) : rn y pc L (.int b :: .int a :: st) h = rn y (pc + 1) L (.int (a + b) :: st) h := rn_nx hf rfl
theorem e_isub {y pc len : Nat} {L st : List Value} {h : xH} {a b : Int32} (hf : x_fe y pc = some (.isub, len)) : rn y pc L (.int b :: .int a :: st) h = rn y (pc + 1) L (.int (a - b) :: st) h := rn_nx hf rfl
theorem e_imul {y pc len : Nat} {L st : List Value} {h : xH} {a b : Int32} (hf : x_fe y pc = some (.imul, len)) : rn y pc L (.int b :: .int a :: st) h = rn y (pc + 1) L (.int (a * b) :: st) h := rn_nx hf rfl
theorem e_iand {y pc len : Nat} {L st : List Value} {h : xH} {a b : Int32} (hf : x_fe y pc = some (.iand, len)) : rn y pc L (.int b :: .int a :: st) h = rn y (pc + 1) L (.int (a &&& b) :: st) h := rn_nx hf rfl
theorem e_idiv {y pc len : Nat} {L st : List Value} {h : xH} {a b : Int32} (hf : x_fe y pc = some (.idiv, len)) (hb : ¬ b = 0) : rn y pc L (.int b :: .int a :: st) h = rn y (pc + 1) L (.int (a / b) :: st) h := rn_nx hf (by simp only [x_s, x2i, if_neg hb]; rfl)
theorem e_irem {y pc len : Nat} {L st : List Value} {h : xH} {a b : Int32} (hf : x_fe y pc = some (.irem, len)) (hb : ¬ b = 0) : rn y pc L (.int b :: .int a :: st) h = rn y (pc + 1) L (.int (a - a / b * b) :: st) h := rn_nx hf (by simp only [x_s, x2i, if_neg hb]; rfl)
theorem e_land {y pc len : Nat} {L st : List Value} {h : xH} {a b : Int64} (hf : x_fe y pc = some (.land, len)) : rn y pc L (.long b :: .long a :: st) h = rn y (pc + 1) L (.long (a &&& b) :: st) h := rn_nx hf rfl
theorem e_lor {y pc len : Nat} {L st : List Value} {h : xH} {a b : Int64} (hf : x_fe y pc = some (.lor, len)) : rn y pc L (.long b :: .long a :: st) h = rn y (pc + 1) L (.long (a ||| b) :: st) h := rn_nx hf rfl
theorem e_lcmp {y pc len : Nat} {L st : List Value} {h : xH} {a b : Int64} (hf : x_fe y pc = some (.lcmp, len)) : rn y pc L (.long b :: .long a :: st) h = rn y (pc + 1) L (.int (lg_cmp a b) :: st) h := rn_nx hf rfl
theorem e_lshl {y pc len : Nat} {L st : List Value} {h : xH} {a : Int64} {b : Int32} (hf : x_fe y pc = some (.lshl, len)) : rn y pc L (.int b :: .long a :: st) h = rn y (pc + 1) L (.long (a <<< (b.toInt64 &&& 63)) :: st) h := rn_nx hf rfl
theorem e_lushr {y pc len : Nat} {L st : List Value} {h : xH} {a : Int64} {b : Int32} (hf : x_fe y pc = some (.lushr, len)) : rn y pc L (.int b :: .long a :: st) h = rn y (pc + 1) L (.long (a.toUInt64 >>> (b.toInt64.toUInt64 &&& Int64.toUInt64 63)).toInt64 :: st) h := rn_nx hf rfl
theorem e_i2l {y pc len : Nat} {L st : List Value} {h : xH} {a : Int32} (hf : x_fe y pc = some (.i2l, len)) : rn y pc L (.int a :: st) h = rn y (pc + 1) L (.long a.toInt64 :: st) h := rn_nx hf rfl
theorem e_l2i {y pc len : Nat} {L st : List Value} {h : xH} {a : Int64} (hf : x_fe y pc = some (.l2i, len)) : rn y pc L (.long a :: st) h = rn y (pc + 1) L (.int a.toInt32 :: st) h := rn_nx hf rfl
theorem e_dupI {y pc len : Nat} {L st : List Value} {h : xH} {a : Int32} (hf : x_fe y pc = some (.dup, len)) : rn y pc L (.int a :: st) h = rn y (pc + 1) L (.int a :: .int a :: st) h := rn_nx hf rfl
theorem e_dupA {y pc len : Nat} {L st : List Value} {h : xH} {a : Nat} (hf : x_fe y pc = some (.dup, len)) : rn y pc L (.ref a :: st) h = rn y (pc + 1) L (.ref a :: .ref a :: st) h := rn_nx hf rfl
theorem e_dup2 {y pc len : Nat} {L st : List Value} {h : xH} {i : Int32} {a : Nat} (hf : x_fe y pc = some (.dup2, len)) : rn y pc L (.int i :: .ref a :: st) h = rn y (pc + 1) L (.int i :: .ref a :: .int i :: .ref a :: st) h := rn_nx hf rfl
theorem e_goto {y pc len : Nat} {L st : List Value} {h : xH} {off : Int} {tgt : Nat} (hf : x_fe y pc = some (.goto off, len)) (ht : (pc : Int) + off = (tgt : Int)) : rn y pc L st h = rn y tgt L st h := rn_nx hf (by simp only [x_s, jp, ht, if_pos (Int.natCast_nonneg tgt), Int.toNat_natCast]; rfl)
theorem e_if0 {y pc len : Nat} {L st : List Value} {h : xH} {cnd : Jvm.ClassFile.Cond} {off : Int} {tgt : Nat} {x : Int32} {b : Bool} (hf : x_fe y pc = some (.ifCond cnd off, len)) (ht : (pc : Int) + off = (tgt : Int)) (hb : xc cnd x 0 = b) : rn y pc L (.int x :: st) h = rn y (bif b then tgt else pc + 3) L st h := rn_nx hf (by
  cases b <;> simp only [x_s, xIf, hb, ht, if_pos (Int.natCast_nonneg tgt), Int.toNat_natCast] <;> rfl)
theorem e_icmp0 {y pc len : Nat} {L st : List Value} {h : xH} {cnd : Jvm.ClassFile.Cond} {off : Int} {tgt : Nat} {x w : Int32} {b : Bool} (hf : x_fe y pc = some (.if_icmp cnd off, len)) (ht : (pc : Int) + off = (tgt : Int)) (hb : xc cnd x w = b) : rn y pc L (.int w :: .int x :: st) h = rn y (bif b then tgt else pc + 3) L st h := rn_nx hf (by
  cases b <;> simp only [x_s, x2i, xIf, hb, ht, if_pos (Int.natCast_nonneg tgt), Int.toNat_natCast] <;> rfl)
theorem e_if_eq {y pc len : Nat} {L st : List Value} {h : xH} {off : Int} {tgt : Nat} {x : Int32} (hf : x_fe y pc = some (.ifCond .eq off, len)) (ht : (pc : Int) + off = (tgt : Int)) : rn y pc L (.int x :: st) h = if x = 0 then rn y tgt L st h else rn y (pc + 3) L st h := by
  split
  next hx => exact e_if0 (b := true) hf ht (by simp [xc, hx])
  next hx => exact e_if0 (b := false) hf ht (by simp [xc, hx])
theorem e_if_ne {y pc len : Nat} {L st : List Value} {h : xH} {off : Int} {tgt : Nat} {x : Int32} (hf : x_fe y pc = some (.ifCond .ne off, len)) (ht : (pc : Int) + off = (tgt : Int)) : rn y pc L (.int x :: st) h = if x = 0 then rn y (pc + 3) L st h else rn y tgt L st h := by
  split
  next hx => exact e_if0 (b := false) hf ht (by simp [xc, hx])
  next hx => exact e_if0 (b := true) hf ht (by simp [xc, hx])
theorem e_if_lt {y pc len : Nat} {L st : List Value} {h : xH} {off : Int} {tgt : Nat} {x : Int32} (hf : x_fe y pc = some (.ifCond .lt off, len)) (ht : (pc : Int) + off = (tgt : Int)) : rn y pc L (.int x :: st) h = if x < 0 then rn y tgt L st h else rn y (pc + 3) L st h := by
  split
  next hx => exact e_if0 (b := true) hf ht (by simp [xc, hx])
  next hx => exact e_if0 (b := false) hf ht (by simpa [xc] using hx)
theorem e_if_ge {y pc len : Nat} {L st : List Value} {h : xH} {off : Int} {tgt : Nat} {x : Int32} (hf : x_fe y pc = some (.ifCond .ge off, len)) (ht : (pc : Int) + off = (tgt : Int)) : rn y pc L (.int x :: st) h = if x < 0 then rn y (pc + 3) L st h else rn y tgt L st h := by
  split
  next hx => exact e_if0 (b := false) hf ht (by simpa [xc] using hx)
  next hx => exact e_if0 (b := true) hf ht (by simpa [xc] using hx)
theorem e_if_gt {y pc len : Nat} {L st : List Value} {h : xH} {off : Int} {tgt : Nat} {x : Int32} (hf : x_fe y pc = some (.ifCond .gt off, len)) (ht : (pc : Int) + off = (tgt : Int)) : rn y pc L (.int x :: st) h = if 0 < x then rn y tgt L st h else rn y (pc + 3) L st h := by
  split
  next hx => exact e_if0 (b := true) hf ht (by simp [xc, hx])
  next hx => exact e_if0 (b := false) hf ht (by simpa [xc] using hx)
theorem e_if_le {y pc len : Nat} {L st : List Value} {h : xH} {off : Int} {tgt : Nat} {x : Int32} (hf : x_fe y pc = some (.ifCond .le off, len)) (ht : (pc : Int) + off = (tgt : Int)) : rn y pc L (.int x :: st) h = if 0 < x then rn y (pc + 3) L st h else rn y tgt L st h := by
  split
  next hx => exact e_if0 (b := false) hf ht (by simpa [xc] using hx)
  next hx => exact e_if0 (b := true) hf ht (by simpa [xc] using hx)
theorem e_icmp_eq {y pc len : Nat} {L st : List Value} {h : xH} {off : Int} {tgt : Nat} {x w : Int32} (hf : x_fe y pc = some (.if_icmp .eq off, len)) (ht : (pc : Int) + off = (tgt : Int)) : rn y pc L (.int w :: .int x :: st) h = if x = w then rn y tgt L st h else rn y (pc + 3) L st h := by
  split
  next hx => exact e_icmp0 (b := true) hf ht (by simp [xc, hx])
  next hx => exact e_icmp0 (b := false) hf ht (by simp [xc, hx])
theorem e_icmp_ne {y pc len : Nat} {L st : List Value} {h : xH} {off : Int} {tgt : Nat} {x w : Int32} (hf : x_fe y pc = some (.if_icmp .ne off, len)) (ht : (pc : Int) + off = (tgt : Int)) : rn y pc L (.int w :: .int x :: st) h = if x = w then rn y (pc + 3) L st h else rn y tgt L st h := by
  split
  next hx => exact e_icmp0 (b := false) hf ht (by simp [xc, hx])
  next hx => exact e_icmp0 (b := true) hf ht (by simp [xc, hx])
theorem e_icmp_lt {y pc len : Nat} {L st : List Value} {h : xH} {off : Int} {tgt : Nat} {x w : Int32} (hf : x_fe y pc = some (.if_icmp .lt off, len)) (ht : (pc : Int) + off = (tgt : Int)) : rn y pc L (.int w :: .int x :: st) h = if x < w then rn y tgt L st h else rn y (pc + 3) L st h := by
  split
  next hx => exact e_icmp0 (b := true) hf ht (by simp [xc, hx])
  next hx => exact e_icmp0 (b := false) hf ht (by simpa [xc] using hx)
theorem e_icmp_ge {y pc len : Nat} {L st : List Value} {h : xH} {off : Int} {tgt : Nat} {x w : Int32} (hf : x_fe y pc = some (.if_icmp .ge off, len)) (ht : (pc : Int) + off = (tgt : Int)) : rn y pc L (.int w :: .int x :: st) h = if x < w then rn y (pc + 3) L st h else rn y tgt L st h := by
  split
  next hx => exact e_icmp0 (b := false) hf ht (by simpa [xc] using hx)
  next hx => exact e_icmp0 (b := true) hf ht (by simpa [xc] using hx)
theorem e_icmp_gt {y pc len : Nat} {L st : List Value} {h : xH} {off : Int} {tgt : Nat} {x w : Int32} (hf : x_fe y pc = some (.if_icmp .gt off, len)) (ht : (pc : Int) + off = (tgt : Int)) : rn y pc L (.int w :: .int x :: st) h = if w < x then rn y tgt L st h else rn y (pc + 3) L st h := by
  split
  next hx => exact e_icmp0 (b := true) hf ht (by simp [xc, hx])
  next hx => exact e_icmp0 (b := false) hf ht (by simpa [xc] using hx)
theorem e_icmp_le {y pc len : Nat} {L st : List Value} {h : xH} {off : Int} {tgt : Nat} {x w : Int32} (hf : x_fe y pc = some (.if_icmp .le off, len)) (ht : (pc : Int) + off = (tgt : Int)) : rn y pc L (.int w :: .int x :: st) h = if w < x then rn y (pc + 3) L st h else rn y tgt L st h := by
  split
  next hx => exact e_icmp0 (b := false) hf ht (by simpa [xc] using hx)
  next hx => exact e_icmp0 (b := true) hf ht (by simpa [xc] using hx)
theorem e_ifnullA {y pc len : Nat} {L st : List Value} {h : xH} {off : Int} {a : Nat} (hf : x_fe y pc = some (.ifnull off, len)) : rn y pc L (.ref a :: st) h = rn y (pc + 3) L st h := rn_nx hf rfl
theorem e_ifnullN {y pc len : Nat} {L st : List Value} {h : xH} {off : Int} {tgt : Nat} (hf : x_fe y pc = some (.ifnull off, len)) (ht : (pc : Int) + off = (tgt : Int)) : rn y pc L (.null :: st) h = rn y tgt L st h := rn_nx hf (by simp only [x_s, jp, ht, if_pos (Int.natCast_nonneg tgt), Int.toNat_natCast]; rfl)
theorem e_ifnonnullA {y pc len : Nat} {L st : List Value} {h : xH} {off : Int} {tgt : Nat} {a : Nat} (hf : x_fe y pc = some (.ifnonnull off, len)) (ht : (pc : Int) + off = (tgt : Int)) : rn y pc L (.ref a :: st) h = rn y tgt L st h := rn_nx hf (by simp only [x_s, jp, ht, if_pos (Int.natCast_nonneg tgt), Int.toNat_natCast]; rfl)
theorem e_ifnonnullN {y pc len : Nat} {L st : List Value} {h : xH} {off : Int} (hf : x_fe y pc = some (.ifnonnull off, len)) : rn y pc L (.null :: st) h = rn y (pc + 3) L st h := rn_nx hf rfl
theorem e_tabOut {y pc len : Nat} {L st : List Value} {h : xH} {dflt lo hi : Int} {offs : Array Int} {x : Int32} {tgt : Nat} (hf : x_fe y pc = some (.tableswitch dflt lo hi offs, len)) (hx : x.toInt < lo ∨ hi < x.toInt) (ht : (pc : Int) + dflt = (tgt : Int)) : rn y pc L (.int x :: st) h = rn y tgt L st h := rn_nx hf (by simp only [x_s, xTab, if_pos hx, jp, ht, if_pos (Int.natCast_nonneg tgt), Int.toNat_natCast]; rfl)
theorem e_tabIn {y pc len : Nat} {L st : List Value} {h : xH} {dflt lo hi : Int} {offs : Array Int} {x : Int32} {tgt : Nat} {off : Int} (hf : x_fe y pc = some (.tableswitch dflt lo hi offs, len)) (hx : ¬ (x.toInt < lo ∨ hi < x.toInt)) (ho : offs[(x.toInt - lo).toNat]? = some off) (ht : (pc : Int) + off = (tgt : Int)) : rn y pc L (.int x :: st) h = rn y tgt L st h := rn_nx hf (by simp only [x_s, xTab, if_neg hx, ho, jp, ht, if_pos (Int.natCast_nonneg tgt), Int.toNat_natCast]; rfl)
theorem e_look {y pc len : Nat} {L st : List Value} {h : xH} {dflt : Int} {ps : Array (Int × Int)} {x : Int32} {tgt : Nat} {off : Int} (hf : x_fe y pc = some (.lookupswitch dflt ps, len)) (hp : (ps.toList.zip (ps.toList.drop 1)).all (fun (a, next) => a.1 < next.1) = true) (ho : Op.lookupswitch.offset ps.toList dflt x.toInt = off) (ht : (pc : Int) + off = (tgt : Int)) : rn y pc L (.int x :: st) h = rn y tgt L st h := rn_nx hf (by simp only [x_s, xLook, if_pos hp, ho, jp, ht, if_pos (Int.natCast_nonneg tgt), Int.toNat_natCast]; rfl)
theorem e_get {y pc len : Nat} {L st : List Value} {h : xH} {ix ci k a : Nat} (hf : x_fe y pc = some (.getfield ix, len)) (hg : x_gf (x_kl y) ix = some (ci, k)) (hF : isF (h.2 a) ci k = true) : rn y pc L (.ref a :: st) h = rn y (pc + 3) L (fld (h.2 a) k :: st) h := rn_nx hf (by simp only [x_s, xGet, hg, hF]; rfl)
theorem e_put {y pc len : Nat} {L st : List Value} {h : xH} {ix ci k a : Nat} {fin : Bool} {v : Value} (hf : x_fe y pc = some (.putfield ix, len)) (hg : x_pf (x_kl y) ix = some (ci, k, fin)) (hq : (!fin || (x_in y && decide (ci = x_kl y))) = true) (hv : x_fits (x_TY ci k) v = true) (hF : isF (h.2 a) ci k = true) : rn y pc L (v :: .ref a :: st) h = rn y (pc + 3) L st (h.1, mu h.2 a (fset (h.2 a) k v)) := rn_nx hf (by simp only [x_s, xPut, hg, hF, hv, hq]; rfl)
theorem e_iald {y pc len : Nat} {L st : List Value} {h : xH} {a : Nat} {i : Int32} (hf : x_fe y pc = some (.iaload, len)) (hF : inA y (h.2 a) i = true) : rn y pc L (.int i :: .ref a :: st) h = rn y (pc + 1) L (.int (aget (h.2 a) i) :: st) h := rn_nx hf (by simp only [x_s, xIald, hF]; rfl)
theorem e_iast {y pc len : Nat} {L st : List Value} {h : xH} {a : Nat} {i x : Int32} (hf : x_fe y pc = some (.iastore, len)) (hF : inW (h.2 a) i = true) : rn y pc L (.int x :: .int i :: .ref a :: st) h = rn y (pc + 1) L st (h.1, mu h.2 a (aset (h.2 a) i x)) := rn_nx hf (by simp only [x_s, xIast, hF]; rfl)
theorem e_zald {y pc len : Nat} {L st : List Value} {h : xH} {a : Nat} {i : Int32} (hf : x_fe y pc = some (.baload, len)) (hF : inZ (h.2 a) i = true) : rn y pc L (.int i :: .ref a :: st) h = rn y (pc + 1) L (.int (aget (h.2 a) i) :: st) h := rn_nx hf (by simp only [x_s, xZald, hF]; rfl)
theorem e_zast {y pc len : Nat} {L st : List Value} {h : xH} {a : Nat} {i x : Int32} (hf : x_fe y pc = some (.bastore, len)) (hF : inZ (h.2 a) i = true) : rn y pc L (.int x :: .int i :: .ref a :: st) h = rn y (pc + 1) L st (h.1, mu h.2 a (aset (h.2 a) i (vp_nar .boolean x))) := rn_nx hf (by simp only [x_s, xZast, hF]; rfl)
theorem e_aald {y pc len : Nat} {L st : List Value} {h : xH} {a : Nat} {i : Int32} (hf : x_fe y pc = some (.aaload, len)) (hF : inQ (h.2 a) i = true) : rn y pc L (.int i :: .ref a :: st) h = rn y (pc + 1) L (qget (h.2 a) i :: st) h := rn_nx hf (by simp only [x_s, xAald, hF]; rfl)
theorem e_aast {y pc len : Nat} {L st : List Value} {h : xH} {a v : Nat} {i : Int32} (hf : x_fe y pc = some (.aastore, len)) (hF : inQ (h.2 a) i = true) (hK : isK (h.2 v) x_AOI = true) : rn y pc L (.ref v :: .int i :: .ref a :: st) h = rn y (pc + 1) L st (h.1, mu h.2 a (qset (h.2 a) i v)) := rn_nx hf (by simp only [x_s, xAast, hF, hK]; rfl)
theorem e_alen {y pc len : Nat} {L st : List Value} {h : xH} {a : Nat} (hf : x_fe y pc = some (.arraylength, len)) (hF : isA y (h.2 a) = true) : rn y pc L (.ref a :: st) h = rn y (pc + 1) L (.int (Int32.ofNat (alen (h.2 a))) :: st) h := rn_nx hf (by simp only [x_s, xAlen, hF]; rfl)
theorem e_new {y pc len : Nat} {L st : List Value} {h : xH} {ix ci : Nat} {fs : List Value} {w : Nat} (hf : x_fe y pc = some (.new ix, len)) (hg : x_nw (x_kl y) ix = some ci) (hfs : x_dfl ci = fs) (hw : (x_dfl ci).length = w) : rn y pc L st h = rn y (pc + 3) L (.ref h.1.1 :: st) ((h.1.1 + 1, h.1.2 + w), mu h.2 h.1.1 (.inr (ci, fs))) := rn_nx hf (by subst hfs; subst hw; simp only [x_s, xNew, hg]; rfl)
theorem e_narrI {y pc len : Nat} {L st : List Value} {h : xH} {n : Int32} (hf : x_fe y pc = some (.newarray .int, len)) (hn : ¬ n < 0 ∧ n.toNatClampNeg * 4 ≤ 536870912) : rn y pc L (.int n :: st) h = rn y (pc + 2) L (.ref h.1.1 :: st) ((h.1.1 + 1, h.1.2 + n.toNatClampNeg), mu h.2 h.1.1 (.inl (0, n.toNatClampNeg, .inl (fun _ => 0)))) := rn_nx hf (by simp only [x_s, xNarr, if_pos hn]; rfl)
theorem e_narrZ {y pc len : Nat} {L st : List Value} {h : xH} {n : Int32} (hf : x_fe y pc = some (.newarray .boolean, len)) (hn : ¬ n < 0 ∧ n.toNatClampNeg * 4 ≤ 536870912) : rn y pc L (.int n :: st) h = rn y (pc + 2) L (.ref h.1.1 :: st) ((h.1.1 + 1, h.1.2 + n.toNatClampNeg), mu h.2 h.1.1 (.inl (1, n.toNatClampNeg, .inl (fun _ => 0)))) := rn_nx hf (by simp only [x_s, xNarr, if_pos hn]; rfl)
theorem e_anew {y pc len : Nat} {L st : List Value} {h : xH} {ix : Nat} {n : Int32} (hf : x_fe y pc = some (.anewarray ix, len)) (hg : x_nw (x_kl y) ix = some x_AOI) (hn : ¬ n < 0 ∧ n.toNatClampNeg * 4 ≤ 536870912) : rn y pc L (.int n :: st) h = rn y (pc + 3) L (.ref h.1.1 :: st) ((h.1.1 + 1, h.1.2 + n.toNatClampNeg), mu h.2 h.1.1 (.inl (2, n.toNatClampNeg, .inr (.inr (.inr (.inr (fun _ => none))))))) := rn_nx hf (by simp only [x_s, xAnew, hg, true_and, if_pos hn]; rfl)
theorem e_math {y pc len : Nat} {L st : List Value} {h : xH} {ix : Nat} {b : Bool} {w v : Int32} (hf : x_fe y pc = some (.invokestatic ix, len)) (hm : x_mm (x_kl y) ix = some b) (hr : 1 ≤ x_fr y ∧ 21 ≤ x_lo y ∧ st.length ≤ 4) : rn y pc L (.int w :: .int v :: st) h = rn y (pc + 3) L (.int (mx b v w) :: st) h := rn_nx hf (by simp only [x_s, xIs, hm, if_pos hr]; rfl)
theorem e_oinit {y pc len : Nat} {L st : List Value} {h : xH} {ix a : Nat} (hf : x_fe y pc = some (.invokespecial ix, len)) (ho : x_oi (x_kl y) ix = true) (hr : 1 ≤ x_fr y ∧ 20 ≤ x_lo y ∧ st.length ≤ 4) : rn y pc L (.ref a :: st) h = rn y (pc + 3) L st h := rn_nx hf (by simp only [x_s, xIp, ho, if_pos hr]; rfl)
theorem e_callV {y pc len : Nat} {L st : List Value} {h : xH} {ix z n b : Nat} {as t : List Value} (hf : x_fe y pc = some (.invokevirtual ix, len)) (hi : x_iv (x_kl y) ix = some (0, z, n)) (hd : st.drop n = .ref b :: t) (hn : (st.take n).length = n) (has : .ref b :: (st.take n).reverse = as) (hr : x_fr z + 1 ≤ x_fr y ∧ 8 + (x_ml z + 11) + x_lo z ≤ x_lo y ∧ t.length ≤ 4 ∧ (xsp as).length ≤ x_ml z ∧ z ≠ x_LAW) (hK : isK (h.2 b) (x_kl z) = true) (hc : (cl z as h).isSome = true) : rn y pc L st h = rn y (pc + 3) L (rv (cl z as h) ++ t) (rh (cl z as h)) := rn_cl hf (by subst has; simp only [x_s, xIv, hi, hd, hK, xInv, if_pos hn, if_pos hr]) hc
theorem e_callS {y pc len : Nat} {L st : List Value} {h : xH} {ix z n : Nat} {as t : List Value} (hf : x_fe y pc = some (.invokestatic ix, len)) (hm : x_mm (x_kl y) ix = none) (hi : x_iv (x_kl y) ix = some (1, z, n)) (hd : st.drop n = t) (hn : (st.take n).length = n) (has : (st.take n).reverse = as) (hr : x_fr z + 1 ≤ x_fr y ∧ 8 + (x_ml z + 11) + x_lo z ≤ x_lo y ∧ t.length ≤ 4 ∧ (xsp as).length ≤ x_ml z ∧ z ≠ x_LAW) (hc : (cl z as h).isSome = true) : rn y pc L st h = rn y (pc + 3) L (rv (cl z as h) ++ t) (rh (cl z as h)) := rn_cl hf (by subst has; subst hd; simp only [x_s, xIs, hm, hi, xInv, if_pos hn, if_pos hr]) hc
theorem e_callI {y pc len : Nat} {L st : List Value} {h : xH} {ix z n b : Nat} {as t : List Value} (hf : x_fe y pc = some (.invokespecial ix, len)) (ho : x_oi (x_kl y) ix = false) (hi : x_iv (x_kl y) ix = some (2, z, n)) (hd : st.drop n = .ref b :: t) (hn : (st.take n).length = n) (has : .ref b :: (st.take n).reverse = as) (hr : x_fr z + 1 ≤ x_fr y ∧ 8 + (x_ml z + 11) + x_lo z ≤ x_lo y ∧ t.length ≤ 4 ∧ (xsp as).length ≤ x_ml z ∧ z ≠ x_LAW) (hc : (cl z as h).isSome = true) : rn y pc L st h = rn y (pc + 3) L (rv (cl z as h) ++ t) (rh (cl z as h)) := rn_cl hf (by subst has; simp only [x_s, xIp, ho, hi, hd, xInv, if_pos hn, if_pos hr]) hc
theorem e_iret {y pc len : Nat} {L st : List Value} {h : xH} {x : Int32} {ty : FieldType} (hf : x_fe y pc = some (.ireturn, len)) (ht : x_rt y = some ty) (hx : x_fits ty (.int x) = true) : rn y pc L [.int x] h = some (some (.int x), h) := rn_rt hf (by simp only [x_s, xRet, ht, hx])
theorem e_areA {y pc len : Nat} {L st : List Value} {h : xH} {a : Nat} {n : String} (hf : x_fe y pc = some (.areturn, len)) (ht : x_rt y = some (.object n)) : rn y pc L [.ref a] h = some (some (.ref a), h) := rn_rt hf (by simp only [x_s, xRea, ht])
theorem e_areN {y pc len : Nat} {L st : List Value} {h : xH} {n : String} (hf : x_fe y pc = some (.areturn, len)) (ht : x_rt y = some (.object n)) : rn y pc L [.null] h = some (some .null, h) := rn_rt hf (by simp only [x_s, xRea, ht])
theorem e_ret {y pc len : Nat} {L st : List Value} {h : xH} (hf : x_fe y pc = some (.return_, len)) (ht : x_rt y = none) : rn y pc L [] h = some (none, h) := rn_rt hf (by simp only [x_s, xRev, ht])
end
section
theorem c0 (x0 : Nat) (x1 : Int32) (h : xH) : cl 0 [.ref x0, .int x1] h = rn 0 0 [.ref x0, .int x1] [] h := rfl
theorem q0_0 (v1 : Value) (x : Nat) (st : List Value) (h : xH) : rn 0 0 [.ref x, v1] st h = rn 0 1 [.ref x, v1] (.ref x :: st) h := e_aload_n (show x_fe 0 0 = some (.aload_n 0, 1) by decide +kernel) rfl
theorem q0_1 (L : List Value) (h : xH) (a : Nat) : rn 0 1 L [.ref a] h = rn 0 4 L [] h := e_oinit (show x_fe 0 1 = some (.invokespecial 1, 3) by decide +kernel) (by decide +kernel) (by decide +kernel)
theorem q0_4 (v1 : Value) (x : Nat) (st : List Value) (h : xH) : rn 0 4 [.ref x, v1] st h = rn 0 5 [.ref x, v1] (.ref x :: st) h := e_aload_n (show x_fe 0 4 = some (.aload_n 0, 1) by decide +kernel) rfl
theorem q0_5 (L st : List Value) (h : xH) : rn 0 5 L st h = rn 0 6 L (.int 0 :: st) h := e_iconst (show x_fe 0 5 = some (.iconst 0, 1) by decide +kernel) (by decide)
theorem q0_6 (L st : List Value) (h : xH) (x : Int32) (a : Nat) (hF : isF (h.2 a) 0 1 = true) : rn 0 6 L (.int x :: .ref a :: st) h = rn 0 9 L st (h.1, mu h.2 a (fset (h.2 a) 1 (.int x))) := e_put (fin := false) (ci := 0) (k := 1) (show x_fe 0 6 = some (.putfield 7, 3) by decide +kernel) (by decide +kernel) (by decide +kernel) rfl hF
theorem q0_9 (v1 : Value) (x : Nat) (st : List Value) (h : xH) : rn 0 9 [.ref x, v1] st h = rn 0 10 [.ref x, v1] (.ref x :: st) h := e_aload_n (show x_fe 0 9 = some (.aload_n 0, 1) by decide +kernel) rfl
theorem q0_10 (L st : List Value) (h : xH) : rn 0 10 L st h = rn 0 11 L (.int 0 :: st) h := e_iconst (show x_fe 0 10 = some (.iconst 0, 1) by decide +kernel) (by decide)
theorem q0_11 (L st : List Value) (h : xH) (x : Int32) (a : Nat) (hF : isF (h.2 a) 0 2 = true) : rn 0 11 L (.int x :: .ref a :: st) h = rn 0 14 L st (h.1, mu h.2 a (fset (h.2 a) 2 (.int x))) := e_put (fin := false) (ci := 0) (k := 2) (show x_fe 0 11 = some (.putfield 13, 3) by decide +kernel) (by decide +kernel) (by decide +kernel) rfl hF
theorem q0_14 (v1 : Value) (x : Nat) (st : List Value) (h : xH) : rn 0 14 [.ref x, v1] st h = rn 0 15 [.ref x, v1] (.ref x :: st) h := e_aload_n (show x_fe 0 14 = some (.aload_n 0, 1) by decide +kernel) rfl
theorem q0_15 (L st : List Value) (h : xH) : rn 0 15 L st h = rn 0 16 L (.int 0 :: st) h := e_iconst (show x_fe 0 15 = some (.iconst 0, 1) by decide +kernel) (by decide)
theorem q0_16 (L st : List Value) (h : xH) (x : Int32) (a : Nat) (hF : isF (h.2 a) 0 3 = true) : rn 0 16 L (.int x :: .ref a :: st) h = rn 0 19 L st (h.1, mu h.2 a (fset (h.2 a) 3 (.int x))) := e_put (fin := false) (ci := 0) (k := 3) (show x_fe 0 16 = some (.putfield 16, 3) by decide +kernel) (by decide +kernel) (by decide +kernel) rfl hF
theorem q0_19 (v1 : Value) (x : Nat) (st : List Value) (h : xH) : rn 0 19 [.ref x, v1] st h = rn 0 20 [.ref x, v1] (.ref x :: st) h := e_aload_n (show x_fe 0 19 = some (.aload_n 0, 1) by decide +kernel) rfl
theorem q0_20 (L st : List Value) (h : xH) : rn 0 20 L st h = rn 0 21 L (.int 0 :: st) h := e_iconst (show x_fe 0 20 = some (.iconst 0, 1) by decide +kernel) (by decide)
theorem q0_21 (L st : List Value) (h : xH) (x : Int32) (a : Nat) (hF : isF (h.2 a) 0 4 = true) : rn 0 21 L (.int x :: .ref a :: st) h = rn 0 24 L st (h.1, mu h.2 a (fset (h.2 a) 4 (.int x))) := e_put (fin := false) (ci := 0) (k := 4) (show x_fe 0 21 = some (.putfield 19, 3) by decide +kernel) (by decide +kernel) (by decide +kernel) rfl hF
theorem q0_24 (v1 : Value) (x : Nat) (st : List Value) (h : xH) : rn 0 24 [.ref x, v1] st h = rn 0 25 [.ref x, v1] (.ref x :: st) h := e_aload_n (show x_fe 0 24 = some (.aload_n 0, 1) by decide +kernel) rfl
theorem q0_25 (L st : List Value) (h : xH) : rn 0 25 L st h = rn 0 26 L (.int 0 :: st) h := e_iconst (show x_fe 0 25 = some (.iconst 0, 1) by decide +kernel) (by decide)
theorem q0_26 (L st : List Value) (h : xH) (x : Int32) (a : Nat) (hF : isF (h.2 a) 0 5 = true) : rn 0 26 L (.int x :: .ref a :: st) h = rn 0 29 L st (h.1, mu h.2 a (fset (h.2 a) 5 (.int x))) := e_put (fin := false) (ci := 0) (k := 5) (show x_fe 0 26 = some (.putfield 22, 3) by decide +kernel) (by decide +kernel) (by decide +kernel) rfl hF
theorem q0_29 (v1 : Value) (x : Nat) (st : List Value) (h : xH) : rn 0 29 [.ref x, v1] st h = rn 0 30 [.ref x, v1] (.ref x :: st) h := e_aload_n (show x_fe 0 29 = some (.aload_n 0, 1) by decide +kernel) rfl
theorem q0_30 (v0 : Value) (x : Int32) (st : List Value) (h : xH) : rn 0 30 [v0, .int x] st h = rn 0 31 [v0, .int x] (.int x :: st) h := e_iload_n (show x_fe 0 30 = some (.iload_n 1, 1) by decide +kernel) rfl
theorem q0_31 (L st : List Value) (h : xH) (x : Int32) (hx : (x == 0 || x == 1) = true) (a : Nat) (hF : isF (h.2 a) 0 0 = true) : rn 0 31 L (.int x :: .ref a :: st) h = rn 0 34 L st (h.1, mu h.2 a (fset (h.2 a) 0 (.int x))) := e_put (fin := true) (ci := 0) (k := 0) (show x_fe 0 31 = some (.putfield 25, 3) by decide +kernel) (by decide +kernel) (by decide +kernel) hx hF
theorem q0_34 (L : List Value) (h : xH) : rn 0 34 L [] h = some (none, h) := e_ret (st := []) (show x_fe 0 34 = some (.return_, 1) by decide +kernel) (by decide +kernel)
theorem c1 (x0 : Nat) (x1 : Nat) (h : xH) : cl 1 [.ref x0, .ref x1] h = rn 1 0 [.ref x0, .ref x1] [] h := rfl
theorem q1_0 (v1 : Value) (x : Nat) (st : List Value) (h : xH) : rn 1 0 [.ref x, v1] st h = rn 1 1 [.ref x, v1] (.ref x :: st) h := e_aload_n (show x_fe 1 0 = some (.aload_n 0, 1) by decide +kernel) rfl
theorem q1_1 (v0 : Value) (x : Nat) (st : List Value) (h : xH) : rn 1 1 [v0, .ref x] st h = rn 1 2 [v0, .ref x] (.ref x :: st) h := e_aload_n (show x_fe 1 1 = some (.aload_n 1, 1) by decide +kernel) rfl
theorem q1_1N (v0 : Value) (st : List Value) (h : xH) : rn 1 1 [v0, .null] st h = rn 1 2 [v0, .null] (.null :: st) h := e_aload_nN (show x_fe 1 1 = some (.aload_n 1, 1) by decide +kernel) rfl
theorem q1_2 (L st : List Value) (h : xH) (a : Nat) (hF : isF (h.2 a) 0 1 = true) : rn 1 2 L (.ref a :: st) h = rn 1 5 L (fld (h.2 a) 1 :: st) h := e_get (show x_fe 1 2 = some (.getfield 7, 3) by decide +kernel) (by decide +kernel) hF
theorem q1_5 (L st : List Value) (h : xH) (x : Int32) (a : Nat) (hF : isF (h.2 a) 0 1 = true) : rn 1 5 L (.int x :: .ref a :: st) h = rn 1 8 L st (h.1, mu h.2 a (fset (h.2 a) 1 (.int x))) := e_put (fin := false) (ci := 0) (k := 1) (show x_fe 1 5 = some (.putfield 7, 3) by decide +kernel) (by decide +kernel) (by decide +kernel) rfl hF
theorem q1_8 (v1 : Value) (x : Nat) (st : List Value) (h : xH) : rn 1 8 [.ref x, v1] st h = rn 1 9 [.ref x, v1] (.ref x :: st) h := e_aload_n (show x_fe 1 8 = some (.aload_n 0, 1) by decide +kernel) rfl
theorem q1_9 (v0 : Value) (x : Nat) (st : List Value) (h : xH) : rn 1 9 [v0, .ref x] st h = rn 1 10 [v0, .ref x] (.ref x :: st) h := e_aload_n (show x_fe 1 9 = some (.aload_n 1, 1) by decide +kernel) rfl
theorem q1_9N (v0 : Value) (st : List Value) (h : xH) : rn 1 9 [v0, .null] st h = rn 1 10 [v0, .null] (.null :: st) h := e_aload_nN (show x_fe 1 9 = some (.aload_n 1, 1) by decide +kernel) rfl
theorem q1_10 (L st : List Value) (h : xH) (a : Nat) (hF : isF (h.2 a) 0 2 = true) : rn 1 10 L (.ref a :: st) h = rn 1 13 L (fld (h.2 a) 2 :: st) h := e_get (show x_fe 1 10 = some (.getfield 13, 3) by decide +kernel) (by decide +kernel) hF
theorem q1_13 (L st : List Value) (h : xH) (x : Int32) (a : Nat) (hF : isF (h.2 a) 0 2 = true) : rn 1 13 L (.int x :: .ref a :: st) h = rn 1 16 L st (h.1, mu h.2 a (fset (h.2 a) 2 (.int x))) := e_put (fin := false) (ci := 0) (k := 2) (show x_fe 1 13 = some (.putfield 13, 3) by decide +kernel) (by decide +kernel) (by decide +kernel) rfl hF
theorem q1_16 (v1 : Value) (x : Nat) (st : List Value) (h : xH) : rn 1 16 [.ref x, v1] st h = rn 1 17 [.ref x, v1] (.ref x :: st) h := e_aload_n (show x_fe 1 16 = some (.aload_n 0, 1) by decide +kernel) rfl
theorem q1_17 (v0 : Value) (x : Nat) (st : List Value) (h : xH) : rn 1 17 [v0, .ref x] st h = rn 1 18 [v0, .ref x] (.ref x :: st) h := e_aload_n (show x_fe 1 17 = some (.aload_n 1, 1) by decide +kernel) rfl
theorem q1_17N (v0 : Value) (st : List Value) (h : xH) : rn 1 17 [v0, .null] st h = rn 1 18 [v0, .null] (.null :: st) h := e_aload_nN (show x_fe 1 17 = some (.aload_n 1, 1) by decide +kernel) rfl
theorem q1_18 (L st : List Value) (h : xH) (a : Nat) (hF : isF (h.2 a) 0 3 = true) : rn 1 18 L (.ref a :: st) h = rn 1 21 L (fld (h.2 a) 3 :: st) h := e_get (show x_fe 1 18 = some (.getfield 16, 3) by decide +kernel) (by decide +kernel) hF
theorem q1_21 (L st : List Value) (h : xH) (x : Int32) (a : Nat) (hF : isF (h.2 a) 0 3 = true) : rn 1 21 L (.int x :: .ref a :: st) h = rn 1 24 L st (h.1, mu h.2 a (fset (h.2 a) 3 (.int x))) := e_put (fin := false) (ci := 0) (k := 3) (show x_fe 1 21 = some (.putfield 16, 3) by decide +kernel) (by decide +kernel) (by decide +kernel) rfl hF
theorem q1_24 (v1 : Value) (x : Nat) (st : List Value) (h : xH) : rn 1 24 [.ref x, v1] st h = rn 1 25 [.ref x, v1] (.ref x :: st) h := e_aload_n (show x_fe 1 24 = some (.aload_n 0, 1) by decide +kernel) rfl
theorem q1_25 (v0 : Value) (x : Nat) (st : List Value) (h : xH) : rn 1 25 [v0, .ref x] st h = rn 1 26 [v0, .ref x] (.ref x :: st) h := e_aload_n (show x_fe 1 25 = some (.aload_n 1, 1) by decide +kernel) rfl
theorem q1_25N (v0 : Value) (st : List Value) (h : xH) : rn 1 25 [v0, .null] st h = rn 1 26 [v0, .null] (.null :: st) h := e_aload_nN (show x_fe 1 25 = some (.aload_n 1, 1) by decide +kernel) rfl
theorem q1_26 (L st : List Value) (h : xH) (a : Nat) (hF : isF (h.2 a) 0 4 = true) : rn 1 26 L (.ref a :: st) h = rn 1 29 L (fld (h.2 a) 4 :: st) h := e_get (show x_fe 1 26 = some (.getfield 19, 3) by decide +kernel) (by decide +kernel) hF
theorem q1_29 (L st : List Value) (h : xH) (x : Int32) (a : Nat) (hF : isF (h.2 a) 0 4 = true) : rn 1 29 L (.int x :: .ref a :: st) h = rn 1 32 L st (h.1, mu h.2 a (fset (h.2 a) 4 (.int x))) := e_put (fin := false) (ci := 0) (k := 4) (show x_fe 1 29 = some (.putfield 19, 3) by decide +kernel) (by decide +kernel) (by decide +kernel) rfl hF
theorem q1_32 (v1 : Value) (x : Nat) (st : List Value) (h : xH) : rn 1 32 [.ref x, v1] st h = rn 1 33 [.ref x, v1] (.ref x :: st) h := e_aload_n (show x_fe 1 32 = some (.aload_n 0, 1) by decide +kernel) rfl
theorem q1_33 (v0 : Value) (x : Nat) (st : List Value) (h : xH) : rn 1 33 [v0, .ref x] st h = rn 1 34 [v0, .ref x] (.ref x :: st) h := e_aload_n (show x_fe 1 33 = some (.aload_n 1, 1) by decide +kernel) rfl
theorem q1_33N (v0 : Value) (st : List Value) (h : xH) : rn 1 33 [v0, .null] st h = rn 1 34 [v0, .null] (.null :: st) h := e_aload_nN (show x_fe 1 33 = some (.aload_n 1, 1) by decide +kernel) rfl
theorem q1_34 (L st : List Value) (h : xH) (a : Nat) (hF : isF (h.2 a) 0 5 = true) : rn 1 34 L (.ref a :: st) h = rn 1 37 L (fld (h.2 a) 5 :: st) h := e_get (show x_fe 1 34 = some (.getfield 22, 3) by decide +kernel) (by decide +kernel) hF
theorem q1_37 (L st : List Value) (h : xH) (x : Int32) (a : Nat) (hF : isF (h.2 a) 0 5 = true) : rn 1 37 L (.int x :: .ref a :: st) h = rn 1 40 L st (h.1, mu h.2 a (fset (h.2 a) 5 (.int x))) := e_put (fin := false) (ci := 0) (k := 5) (show x_fe 1 37 = some (.putfield 22, 3) by decide +kernel) (by decide +kernel) (by decide +kernel) rfl hF
theorem q1_40 (L : List Value) (h : xH) : rn 1 40 L [] h = some (none, h) := e_ret (st := []) (show x_fe 1 40 = some (.return_, 1) by decide +kernel) (by decide +kernel)
theorem c2 (x0 : Nat) (h : xH) : cl 2 [.ref x0] h = rn 2 0 [.ref x0] [] h := rfl
theorem q2_0 (x : Nat) (st : List Value) (h : xH) : rn 2 0 [.ref x] st h = rn 2 1 [.ref x] (.ref x :: st) h := e_aload_n (show x_fe 2 0 = some (.aload_n 0, 1) by decide +kernel) rfl
theorem q2_1 (L st : List Value) (h : xH) : rn 2 1 L st h = rn 2 2 L (.int 0 :: st) h := e_iconst (show x_fe 2 1 = some (.iconst 0, 1) by decide +kernel) (by decide)
theorem q2_2 (L st : List Value) (h : xH) (x : Int32) (a : Nat) (hF : isF (h.2 a) 0 2 = true) : rn 2 2 L (.int x :: .ref a :: st) h = rn 2 5 L st (h.1, mu h.2 a (fset (h.2 a) 2 (.int x))) := e_put (fin := false) (ci := 0) (k := 2) (show x_fe 2 2 = some (.putfield 13, 3) by decide +kernel) (by decide +kernel) (by decide +kernel) rfl hF
theorem q2_5 (x : Nat) (st : List Value) (h : xH) : rn 2 5 [.ref x] st h = rn 2 6 [.ref x] (.ref x :: st) h := e_aload_n (show x_fe 2 5 = some (.aload_n 0, 1) by decide +kernel) rfl
theorem q2_6 (L st : List Value) (h : xH) : rn 2 6 L st h = rn 2 7 L (.int 0 :: st) h := e_iconst (show x_fe 2 6 = some (.iconst 0, 1) by decide +kernel) (by decide)
theorem q2_7 (L st : List Value) (h : xH) (x : Int32) (a : Nat) (hF : isF (h.2 a) 0 3 = true) : rn 2 7 L (.int x :: .ref a :: st) h = rn 2 10 L st (h.1, mu h.2 a (fset (h.2 a) 3 (.int x))) := e_put (fin := false) (ci := 0) (k := 3) (show x_fe 2 7 = some (.putfield 16, 3) by decide +kernel) (by decide +kernel) (by decide +kernel) rfl hF
theorem q2_10 (x : Nat) (st : List Value) (h : xH) : rn 2 10 [.ref x] st h = rn 2 11 [.ref x] (.ref x :: st) h := e_aload_n (show x_fe 2 10 = some (.aload_n 0, 1) by decide +kernel) rfl
theorem q2_11 (L st : List Value) (h : xH) : rn 2 11 L st h = rn 2 12 L (.int 0 :: st) h := e_iconst (show x_fe 2 11 = some (.iconst 0, 1) by decide +kernel) (by decide)
theorem q2_12 (L st : List Value) (h : xH) (x : Int32) (a : Nat) (hF : isF (h.2 a) 0 4 = true) : rn 2 12 L (.int x :: .ref a :: st) h = rn 2 15 L st (h.1, mu h.2 a (fset (h.2 a) 4 (.int x))) := e_put (fin := false) (ci := 0) (k := 4) (show x_fe 2 12 = some (.putfield 19, 3) by decide +kernel) (by decide +kernel) (by decide +kernel) rfl hF
theorem q2_15 (x : Nat) (st : List Value) (h : xH) : rn 2 15 [.ref x] st h = rn 2 16 [.ref x] (.ref x :: st) h := e_aload_n (show x_fe 2 15 = some (.aload_n 0, 1) by decide +kernel) rfl
theorem q2_16 (L st : List Value) (h : xH) : rn 2 16 L st h = rn 2 17 L (.int 0 :: st) h := e_iconst (show x_fe 2 16 = some (.iconst 0, 1) by decide +kernel) (by decide)
theorem q2_17 (L st : List Value) (h : xH) (x : Int32) (a : Nat) (hF : isF (h.2 a) 0 5 = true) : rn 2 17 L (.int x :: .ref a :: st) h = rn 2 20 L st (h.1, mu h.2 a (fset (h.2 a) 5 (.int x))) := e_put (fin := false) (ci := 0) (k := 5) (show x_fe 2 17 = some (.putfield 22, 3) by decide +kernel) (by decide +kernel) (by decide +kernel) rfl hF
theorem q2_20 (L : List Value) (h : xH) : rn 2 20 L [] h = some (none, h) := e_ret (st := []) (show x_fe 2 20 = some (.return_, 1) by decide +kernel) (by decide +kernel)
theorem c3 (x0 : Nat) (h : xH) : cl 3 [.ref x0] h = rn 3 0 [.ref x0] [] h := rfl
theorem q3_0 (L st : List Value) (h : xH) : rn 3 0 L st h = rn 3 1 L (.int 0 :: st) h := e_iconst (show x_fe 3 0 = some (.iconst 0, 1) by decide +kernel) (by decide)
theorem q3_1 (x : Nat) (st : List Value) (h : xH) : rn 3 1 [.ref x] st h = rn 3 2 [.ref x] (.ref x :: st) h := e_aload_n (show x_fe 3 1 = some (.aload_n 0, 1) by decide +kernel) rfl
theorem q3_2 (L st : List Value) (h : xH) (a : Nat) (hF : isF (h.2 a) 0 4 = true) : rn 3 2 L (.ref a :: st) h = rn 3 5 L (fld (h.2 a) 4 :: st) h := e_get (show x_fe 3 2 = some (.getfield 19, 3) by decide +kernel) (by decide +kernel) hF
theorem q3_5 (L st : List Value) (h : xH) : rn 3 5 L st h = rn 3 6 L (.int 1 :: st) h := e_iconst (show x_fe 3 5 = some (.iconst 1, 1) by decide +kernel) (by decide)
theorem q3_6 (L st : List Value) (h : xH) (a b : Int32) : rn 3 6 L (.int b :: .int a :: st) h = rn 3 7 L (.int (a - b) :: st) h := e_isub (show x_fe 3 6 = some (.isub, 1) by decide +kernel)
theorem q3_7 (L : List Value) (h : xH) (v w : Int32) : rn 3 7 L [.int w, .int v] h = rn 3 10 L [.int (if v < w then w else v)] h := e_math (b := true) (show x_fe 3 7 = some (.invokestatic 29, 3) by decide +kernel) (by decide +kernel) (by decide +kernel)
theorem q3_10 (L : List Value) (h : xH) (x : Int32) : rn 3 10 L [.int x] h = some (some (.int x), h) := e_iret (st := []) (ty := .int) (show x_fe 3 10 = some (.ireturn, 1) by decide +kernel) (by decide +kernel) rfl
theorem c4 (x0 : Nat) (h : xH) : cl 4 [.ref x0] h = rn 4 0 [.ref x0, unk] [] h := rfl
theorem q4_0 (v1 : Value) (x : Nat) (st : List Value) (h : xH) : rn 4 0 [.ref x, v1] st h = rn 4 1 [.ref x, v1] (.ref x :: st) h := e_aload_n (show x_fe 4 0 = some (.aload_n 0, 1) by decide +kernel) rfl
theorem q4_1 (L : List Value) (h : xH) (a : Nat) : rn 4 1 L [.ref a] h = rn 4 4 L [] h := e_oinit (show x_fe 4 1 = some (.invokespecial 3, 3) by decide +kernel) (by decide +kernel) (by decide +kernel)
theorem q4_4 (v1 : Value) (x : Nat) (st : List Value) (h : xH) : rn 4 4 [.ref x, v1] st h = rn 4 5 [.ref x, v1] (.ref x :: st) h := e_aload_n (show x_fe 4 4 = some (.aload_n 0, 1) by decide +kernel) rfl
theorem q4_5 (L st : List Value) (h : xH) : rn 4 5 L st h = rn 4 7 L (.int 6 :: st) h := e_bipush (show x_fe 4 5 = some (.bipush 6, 2) by decide +kernel) (by decide)
theorem q4_7 (L st : List Value) (h : xH) (n : Int32) (hn : ¬ n < 0 ∧ n.toNatClampNeg * 4 ≤ 536870912) : rn 4 7 L (.int n :: st) h = rn 4 10 L (.ref h.1.1 :: st) ((h.1.1 + 1, h.1.2 + n.toNatClampNeg), mu h.2 h.1.1 (.inl (2, n.toNatClampNeg, .inr (.inr (.inr (.inr (fun _ => none))))))) := e_anew (show x_fe 4 7 = some (.anewarray 9, 3) by decide +kernel) (by decide +kernel) hn
theorem q4_10 (L st : List Value) (h : xH) (x : Nat) (a : Nat) (hF : isF (h.2 a) 1 0 = true) : rn 4 10 L (.ref x :: .ref a :: st) h = rn 4 13 L st (h.1, mu h.2 a (fset (h.2 a) 0 (.ref x))) := e_put (fin := true) (ci := 1) (k := 0) (show x_fe 4 10 = some (.putfield 11, 3) by decide +kernel) (by decide +kernel) (by decide +kernel) rfl hF
theorem q4_13 (v1 : Value) (x : Nat) (st : List Value) (h : xH) : rn 4 13 [.ref x, v1] st h = rn 4 14 [.ref x, v1] (.ref x :: st) h := e_aload_n (show x_fe 4 13 = some (.aload_n 0, 1) by decide +kernel) rfl
theorem q4_14 (L st : List Value) (h : xH) : rn 4 14 L st h = rn 4 15 L (.int 0 :: st) h := e_iconst (show x_fe 4 14 = some (.iconst 0, 1) by decide +kernel) (by decide)
theorem q4_15 (L st : List Value) (h : xH) (x : Int32) (a : Nat) (hF : isF (h.2 a) 1 1 = true) : rn 4 15 L (.int x :: .ref a :: st) h = rn 4 18 L st (h.1, mu h.2 a (fset (h.2 a) 1 (.int x))) := e_put (fin := false) (ci := 1) (k := 1) (show x_fe 4 15 = some (.putfield 17, 3) by decide +kernel) (by decide +kernel) (by decide +kernel) rfl hF
theorem q4_18 (v1 : Value) (x : Nat) (st : List Value) (h : xH) : rn 4 18 [.ref x, v1] st h = rn 4 19 [.ref x, v1] (.ref x :: st) h := e_aload_n (show x_fe 4 18 = some (.aload_n 0, 1) by decide +kernel) rfl
theorem q4_19 (L st : List Value) (h : xH) : rn 4 19 L st h = rn 4 20 L (.int 0 :: st) h := e_iconst (show x_fe 4 19 = some (.iconst 0, 1) by decide +kernel) (by decide)
theorem q4_20 (L st : List Value) (h : xH) (x : Int32) (a : Nat) (hF : isF (h.2 a) 1 2 = true) : rn 4 20 L (.int x :: .ref a :: st) h = rn 4 23 L st (h.1, mu h.2 a (fset (h.2 a) 2 (.int x))) := e_put (fin := false) (ci := 1) (k := 2) (show x_fe 4 20 = some (.putfield 21, 3) by decide +kernel) (by decide +kernel) (by decide +kernel) rfl hF
theorem q4_23 (L st : List Value) (h : xH) : rn 4 23 L st h = rn 4 24 L (.int 0 :: st) h := e_iconst (show x_fe 4 23 = some (.iconst 0, 1) by decide +kernel) (by decide)
theorem q4_24 (v0 v1 : Value) (x : Int32) (st : List Value) (h : xH) : rn 4 24 [v0, v1] (.int x :: st) h = rn 4 25 [k2 v0, .int x] st h := e_istore_n (show x_fe 4 24 = some (.istore_n 1, 1) by decide +kernel) (Nat.le_of_ble_eq_true rfl) rfl
theorem q4_25 (v0 : Value) (x : Int32) (st : List Value) (h : xH) : rn 4 25 [v0, .int x] st h = rn 4 26 [v0, .int x] (.int x :: st) h := e_iload_n (show x_fe 4 25 = some (.iload_n 1, 1) by decide +kernel) rfl
theorem q4_26 (v1 : Value) (x : Nat) (st : List Value) (h : xH) : rn 4 26 [.ref x, v1] st h = rn 4 27 [.ref x, v1] (.ref x :: st) h := e_aload_n (show x_fe 4 26 = some (.aload_n 0, 1) by decide +kernel) rfl
theorem q4_27 (L st : List Value) (h : xH) (a : Nat) (hF : isF (h.2 a) 1 0 = true) : rn 4 27 L (.ref a :: st) h = rn 4 30 L (fld (h.2 a) 0 :: st) h := e_get (show x_fe 4 27 = some (.getfield 11, 3) by decide +kernel) (by decide +kernel) hF
theorem q4_30 (L st : List Value) (h : xH) (a : Nat) (hF : isA 4 (h.2 a) = true) : rn 4 30 L (.ref a :: st) h = rn 4 31 L (.int (Int32.ofNat (alen (h.2 a))) :: st) h := e_alen (show x_fe 4 30 = some (.arraylength, 1) by decide +kernel) hF
theorem q4_31 (L st : List Value) (h : xH) (x w : Int32) : rn 4 31 L (.int w :: .int x :: st) h = if x < w then rn 4 34 L st h else rn 4 53 L st h := e_icmp_ge (show x_fe 4 31 = some (.if_icmp .ge 22, 3) by decide +kernel) (by decide)
theorem q4_34 (v1 : Value) (x : Nat) (st : List Value) (h : xH) : rn 4 34 [.ref x, v1] st h = rn 4 35 [.ref x, v1] (.ref x :: st) h := e_aload_n (show x_fe 4 34 = some (.aload_n 0, 1) by decide +kernel) rfl
theorem q4_35 (L st : List Value) (h : xH) (a : Nat) (hF : isF (h.2 a) 1 0 = true) : rn 4 35 L (.ref a :: st) h = rn 4 38 L (fld (h.2 a) 0 :: st) h := e_get (show x_fe 4 35 = some (.getfield 11, 3) by decide +kernel) (by decide +kernel) hF
theorem q4_38 (v0 : Value) (x : Int32) (st : List Value) (h : xH) : rn 4 38 [v0, .int x] st h = rn 4 39 [v0, .int x] (.int x :: st) h := e_iload_n (show x_fe 4 38 = some (.iload_n 1, 1) by decide +kernel) rfl
theorem q4_39 (L st : List Value) (h : xH) : rn 4 39 L st h = rn 4 42 L (.ref h.1.1 :: st) ((h.1.1 + 1, h.1.2 + 6), mu h.2 h.1.1 (.inr (2, [.int 0, .int 0, .int 0, .null, .null, .null]))) := e_new (show x_fe 4 39 = some (.new 9, 3) by decide +kernel) (by decide +kernel) (by decide +kernel) (by decide +kernel)
theorem q4_42 (L st : List Value) (h : xH) (a : Nat) : rn 4 42 L (.ref a :: st) h = rn 4 43 L (.ref a :: .ref a :: st) h := e_dupA (show x_fe 4 42 = some (.dup, 1) by decide +kernel)
theorem q4_43 (L : List Value) (s0 s1 s2 : Value) (h : xH)  (b : Nat) (hc : (cl 7 [.ref b] h).isSome = true) : rn 4 43 L [.ref b, s0, s1, s2] h = rn 4 46 L (rv (cl 7 [.ref b] h) ++ [s0, s1, s2]) (rh (cl 7 [.ref b] h)) := e_callI (n := 0) (show x_fe 4 43 = some (.invokespecial 24, 3) by decide +kernel) (by decide +kernel) (by decide +kernel) rfl rfl rfl ⟨by decide +kernel, by decide +kernel, Nat.le_of_ble_eq_true rfl, Nat.le_of_ble_eq_true rfl, by decide⟩ hc
theorem q4_46 (L st : List Value) (h : xH) (a v : Nat) (i : Int32) (hF : inQ (h.2 a) i = true) (hK : isK (h.2 v) x_AOI = true) : rn 4 46 L (.ref v :: .int i :: .ref a :: st) h = rn 4 47 L st (h.1, mu h.2 a (qset (h.2 a) i v)) := e_aast (show x_fe 4 46 = some (.aastore, 1) by decide +kernel) hF hK
theorem q4_47 (v0 : Value) (x : Int32) (st : List Value) (h : xH) : rn 4 47 [v0, .int x] st h = rn 4 50 [k2 v0, .int (x + 1)] st h := e_iinc (show x_fe 4 47 = some (.iinc 1 1, 3) by decide +kernel) (by decide) rfl (Nat.le_of_ble_eq_true rfl) rfl
theorem q4_50 (L st : List Value) (h : xH) : rn 4 50 L st h = rn 4 25 L st h := e_goto (show x_fe 4 50 = some (.goto (-25), 3) by decide +kernel) (by decide)
theorem q4_53 (L : List Value) (h : xH) : rn 4 53 L [] h = some (none, h) := e_ret (st := []) (show x_fe 4 53 = some (.return_, 1) by decide +kernel) (by decide +kernel)
theorem c5 (x0 : Nat) (x1 : Nat) (h : xH) : cl 5 [.ref x0, .ref x1] h = rn 5 0 [.ref x0, .ref x1] [] h := rfl
theorem q5_0 (v0 : Value) (x : Nat) (st : List Value) (h : xH) : rn 5 0 [v0, .ref x] st h = rn 5 1 [v0, .ref x] (.ref x :: st) h := e_aload_n (show x_fe 5 0 = some (.aload_n 1, 1) by decide +kernel) rfl
theorem q5_0N (v0 : Value) (st : List Value) (h : xH) : rn 5 0 [v0, .null] st h = rn 5 1 [v0, .null] (.null :: st) h := e_aload_nN (show x_fe 5 0 = some (.aload_n 1, 1) by decide +kernel) rfl
theorem q5_1 (v1 : Value) (x : Nat) (st : List Value) (h : xH) : rn 5 1 [.ref x, v1] st h = rn 5 2 [.ref x, v1] (.ref x :: st) h := e_aload_n (show x_fe 5 1 = some (.aload_n 0, 1) by decide +kernel) rfl
theorem q5_2 (L st : List Value) (h : xH) (a : Nat) (hF : isF (h.2 a) 1 0 = true) : rn 5 2 L (.ref a :: st) h = rn 5 5 L (fld (h.2 a) 0 :: st) h := e_get (show x_fe 5 2 = some (.getfield 11, 3) by decide +kernel) (by decide +kernel) hF
theorem q5_5 (v1 : Value) (x : Nat) (st : List Value) (h : xH) : rn 5 5 [.ref x, v1] st h = rn 5 6 [.ref x, v1] (.ref x :: st) h := e_aload_n (show x_fe 5 5 = some (.aload_n 0, 1) by decide +kernel) rfl
theorem q5_6 (L st : List Value) (h : xH) (a : Nat) (hF : isF (h.2 a) 1 1 = true) : rn 5 6 L (.ref a :: st) h = rn 5 9 L (fld (h.2 a) 1 :: st) h := e_get (show x_fe 5 6 = some (.getfield 17, 3) by decide +kernel) (by decide +kernel) hF
theorem q5_9 (L : List Value) (s0 : Value) (h : xH) (x0 : Nat) (x1 : Int32) (hc : (cl 88 [.ref x0, .int x1] h).isSome = true) : rn 5 9 L [.int x1, .ref x0, s0] h = rn 5 12 L (rv (cl 88 [.ref x0, .int x1] h) ++ [s0]) (rh (cl 88 [.ref x0, .int x1] h)) := e_callS (n := 2) (show x_fe 5 9 = some (.invokestatic 25, 3) by decide +kernel) (by decide +kernel) (by decide +kernel) rfl rfl rfl ⟨by decide +kernel, by decide +kernel, Nat.le_of_ble_eq_true rfl, Nat.le_of_ble_eq_true rfl, by decide⟩ hc
theorem q5_12 (L : List Value) (h : xH) (x0 : Nat) (x1 : Nat) (hc : (cl 89 [.ref x0, .ref x1] h).isSome = true) : rn 5 12 L [.ref x1, .ref x0] h = rn 5 15 L (rv (cl 89 [.ref x0, .ref x1] h) ++ []) (rh (cl 89 [.ref x0, .ref x1] h)) := e_callS (n := 2) (show x_fe 5 12 = some (.invokestatic 29, 3) by decide +kernel) (by decide +kernel) (by decide +kernel) rfl rfl rfl ⟨by decide +kernel, by decide +kernel, Nat.le_of_ble_eq_true rfl, Nat.le_of_ble_eq_true rfl, by decide⟩ hc
theorem q5_15 (v1 : Value) (x : Nat) (st : List Value) (h : xH) : rn 5 15 [.ref x, v1] st h = rn 5 16 [.ref x, v1] (.ref x :: st) h := e_aload_n (show x_fe 5 15 = some (.aload_n 0, 1) by decide +kernel) rfl
theorem q5_16 (v1 : Value) (x : Nat) (st : List Value) (h : xH) : rn 5 16 [.ref x, v1] st h = rn 5 17 [.ref x, v1] (.ref x :: st) h := e_aload_n (show x_fe 5 16 = some (.aload_n 0, 1) by decide +kernel) rfl
theorem q5_17 (L st : List Value) (h : xH) (a : Nat) (hF : isF (h.2 a) 1 1 = true) : rn 5 17 L (.ref a :: st) h = rn 5 20 L (fld (h.2 a) 1 :: st) h := e_get (show x_fe 5 17 = some (.getfield 17, 3) by decide +kernel) (by decide +kernel) hF
theorem q5_20 (L st : List Value) (h : xH) : rn 5 20 L st h = rn 5 21 L (.int 1 :: st) h := e_iconst (show x_fe 5 20 = some (.iconst 1, 1) by decide +kernel) (by decide)
theorem q5_21 (L st : List Value) (h : xH) (a b : Int32) : rn 5 21 L (.int b :: .int a :: st) h = rn 5 22 L (.int (a + b) :: st) h := e_iadd (show x_fe 5 21 = some (.iadd, 1) by decide +kernel)
theorem q5_22 (L st : List Value) (h : xH) : rn 5 22 L st h = rn 5 24 L (.int 6 :: st) h := e_bipush (show x_fe 5 22 = some (.bipush 6, 2) by decide +kernel) (by decide)
theorem q5_24 (L st : List Value) (h : xH) (x w : Int32) : rn 5 24 L (.int w :: .int x :: st) h = if x < w then rn 5 27 L st h else rn 5 36 L st h := e_icmp_ge (show x_fe 5 24 = some (.if_icmp .ge 12, 3) by decide +kernel) (by decide)
theorem q5_27 (v1 : Value) (x : Nat) (st : List Value) (h : xH) : rn 5 27 [.ref x, v1] st h = rn 5 28 [.ref x, v1] (.ref x :: st) h := e_aload_n (show x_fe 5 27 = some (.aload_n 0, 1) by decide +kernel) rfl
theorem q5_28 (L st : List Value) (h : xH) (a : Nat) (hF : isF (h.2 a) 1 1 = true) : rn 5 28 L (.ref a :: st) h = rn 5 31 L (fld (h.2 a) 1 :: st) h := e_get (show x_fe 5 28 = some (.getfield 17, 3) by decide +kernel) (by decide +kernel) hF
theorem q5_31 (L st : List Value) (h : xH) : rn 5 31 L st h = rn 5 32 L (.int 1 :: st) h := e_iconst (show x_fe 5 31 = some (.iconst 1, 1) by decide +kernel) (by decide)
theorem q5_32 (L st : List Value) (h : xH) (a b : Int32) : rn 5 32 L (.int b :: .int a :: st) h = rn 5 33 L (.int (a + b) :: st) h := e_iadd (show x_fe 5 32 = some (.iadd, 1) by decide +kernel)
theorem q5_33 (L st : List Value) (h : xH) : rn 5 33 L st h = rn 5 37 L st h := e_goto (show x_fe 5 33 = some (.goto 4, 3) by decide +kernel) (by decide)
theorem q5_36 (L st : List Value) (h : xH) : rn 5 36 L st h = rn 5 37 L (.int 0 :: st) h := e_iconst (show x_fe 5 36 = some (.iconst 0, 1) by decide +kernel) (by decide)
theorem q5_37 (L st : List Value) (h : xH) (x : Int32) (a : Nat) (hF : isF (h.2 a) 1 1 = true) : rn 5 37 L (.int x :: .ref a :: st) h = rn 5 40 L st (h.1, mu h.2 a (fset (h.2 a) 1 (.int x))) := e_put (fin := false) (ci := 1) (k := 1) (show x_fe 5 37 = some (.putfield 17, 3) by decide +kernel) (by decide +kernel) (by decide +kernel) rfl hF
theorem q5_40 (v1 : Value) (x : Nat) (st : List Value) (h : xH) : rn 5 40 [.ref x, v1] st h = rn 5 41 [.ref x, v1] (.ref x :: st) h := e_aload_n (show x_fe 5 40 = some (.aload_n 0, 1) by decide +kernel) rfl
theorem q5_41 (v1 : Value) (x : Nat) (st : List Value) (h : xH) : rn 5 41 [.ref x, v1] st h = rn 5 42 [.ref x, v1] (.ref x :: st) h := e_aload_n (show x_fe 5 41 = some (.aload_n 0, 1) by decide +kernel) rfl
theorem q5_42 (L st : List Value) (h : xH) (a : Nat) (hF : isF (h.2 a) 1 2 = true) : rn 5 42 L (.ref a :: st) h = rn 5 45 L (fld (h.2 a) 2 :: st) h := e_get (show x_fe 5 42 = some (.getfield 21, 3) by decide +kernel) (by decide +kernel) hF
theorem q5_45 (L st : List Value) (h : xH) : rn 5 45 L st h = rn 5 46 L (.int 1 :: st) h := e_iconst (show x_fe 5 45 = some (.iconst 1, 1) by decide +kernel) (by decide)
theorem q5_46 (L st : List Value) (h : xH) (a b : Int32) : rn 5 46 L (.int b :: .int a :: st) h = rn 5 47 L (.int (a + b) :: st) h := e_iadd (show x_fe 5 46 = some (.iadd, 1) by decide +kernel)
theorem q5_47 (L st : List Value) (h : xH) : rn 5 47 L st h = rn 5 49 L (.int 6 :: st) h := e_bipush (show x_fe 5 47 = some (.bipush 6, 2) by decide +kernel) (by decide)
theorem q5_49 (L : List Value) (s0 : Value) (h : xH) (v w : Int32) : rn 5 49 L [.int w, .int v, s0] h = rn 5 52 L [.int (if w < v then w else v), s0] h := e_math (b := false) (show x_fe 5 49 = some (.invokestatic 33, 3) by decide +kernel) (by decide +kernel) ⟨by decide +kernel, by decide +kernel, Nat.le_of_ble_eq_true rfl⟩
theorem q5_52 (L st : List Value) (h : xH) (x : Int32) (a : Nat) (hF : isF (h.2 a) 1 2 = true) : rn 5 52 L (.int x :: .ref a :: st) h = rn 5 55 L st (h.1, mu h.2 a (fset (h.2 a) 2 (.int x))) := e_put (fin := false) (ci := 1) (k := 2) (show x_fe 5 52 = some (.putfield 21, 3) by decide +kernel) (by decide +kernel) (by decide +kernel) rfl hF
theorem q5_55 (L : List Value) (h : xH) : rn 5 55 L [] h = some (none, h) := e_ret (st := []) (show x_fe 5 55 = some (.return_, 1) by decide +kernel) (by decide +kernel)
theorem c6 (x0 : Nat) (x1 : Nat) (h : xH) : cl 6 [.ref x0, .ref x1] h = rn 6 0 [.ref x0, .ref x1] [] h := rfl
theorem q6_0 (v1 : Value) (x : Nat) (st : List Value) (h : xH) : rn 6 0 [.ref x, v1] st h = rn 6 1 [.ref x, v1] (.ref x :: st) h := e_aload_n (show x_fe 6 0 = some (.aload_n 0, 1) by decide +kernel) rfl
theorem q6_1 (L st : List Value) (h : xH) (a : Nat) (hF : isF (h.2 a) 1 2 = true) : rn 6 1 L (.ref a :: st) h = rn 6 4 L (fld (h.2 a) 2 :: st) h := e_get (show x_fe 6 1 = some (.getfield 21, 3) by decide +kernel) (by decide +kernel) hF
theorem q6_4 (L st : List Value) (h : xH) (x : Int32) : rn 6 4 L (.int x :: st) h = if 0 < x then rn 6 7 L st h else rn 6 53 L st h := e_if_le (show x_fe 6 4 = some (.ifCond .le 49, 3) by decide +kernel) (by decide)
theorem q6_7 (v1 : Value) (x : Nat) (st : List Value) (h : xH) : rn 6 7 [.ref x, v1] st h = rn 6 8 [.ref x, v1] (.ref x :: st) h := e_aload_n (show x_fe 6 7 = some (.aload_n 0, 1) by decide +kernel) rfl
theorem q6_8 (v1 : Value) (x : Nat) (st : List Value) (h : xH) : rn 6 8 [.ref x, v1] st h = rn 6 9 [.ref x, v1] (.ref x :: st) h := e_aload_n (show x_fe 6 8 = some (.aload_n 0, 1) by decide +kernel) rfl
theorem q6_9 (L st : List Value) (h : xH) (a : Nat) (hF : isF (h.2 a) 1 1 = true) : rn 6 9 L (.ref a :: st) h = rn 6 12 L (fld (h.2 a) 1 :: st) h := e_get (show x_fe 6 9 = some (.getfield 17, 3) by decide +kernel) (by decide +kernel) hF
theorem q6_12 (L st : List Value) (h : xH) (x : Int32) : rn 6 12 L (.int x :: st) h = if 0 < x then rn 6 15 L st h else rn 6 24 L st h := e_if_le (show x_fe 6 12 = some (.ifCond .le 12, 3) by decide +kernel) (by decide)
theorem q6_15 (v1 : Value) (x : Nat) (st : List Value) (h : xH) : rn 6 15 [.ref x, v1] st h = rn 6 16 [.ref x, v1] (.ref x :: st) h := e_aload_n (show x_fe 6 15 = some (.aload_n 0, 1) by decide +kernel) rfl
theorem q6_16 (L st : List Value) (h : xH) (a : Nat) (hF : isF (h.2 a) 1 1 = true) : rn 6 16 L (.ref a :: st) h = rn 6 19 L (fld (h.2 a) 1 :: st) h := e_get (show x_fe 6 16 = some (.getfield 17, 3) by decide +kernel) (by decide +kernel) hF
theorem q6_19 (L st : List Value) (h : xH) : rn 6 19 L st h = rn 6 20 L (.int 1 :: st) h := e_iconst (show x_fe 6 19 = some (.iconst 1, 1) by decide +kernel) (by decide)
theorem q6_20 (L st : List Value) (h : xH) (a b : Int32) : rn 6 20 L (.int b :: .int a :: st) h = rn 6 21 L (.int (a - b) :: st) h := e_isub (show x_fe 6 20 = some (.isub, 1) by decide +kernel)
theorem q6_21 (L st : List Value) (h : xH) : rn 6 21 L st h = rn 6 25 L st h := e_goto (show x_fe 6 21 = some (.goto 4, 3) by decide +kernel) (by decide)
theorem q6_24 (L st : List Value) (h : xH) : rn 6 24 L st h = rn 6 25 L (.int 5 :: st) h := e_iconst (show x_fe 6 24 = some (.iconst 5, 1) by decide +kernel) (by decide)
theorem q6_25 (L st : List Value) (h : xH) (x : Int32) (a : Nat) (hF : isF (h.2 a) 1 1 = true) : rn 6 25 L (.int x :: .ref a :: st) h = rn 6 28 L st (h.1, mu h.2 a (fset (h.2 a) 1 (.int x))) := e_put (fin := false) (ci := 1) (k := 1) (show x_fe 6 25 = some (.putfield 17, 3) by decide +kernel) (by decide +kernel) (by decide +kernel) rfl hF
theorem q6_28 (v1 : Value) (x : Nat) (st : List Value) (h : xH) : rn 6 28 [.ref x, v1] st h = rn 6 29 [.ref x, v1] (.ref x :: st) h := e_aload_n (show x_fe 6 28 = some (.aload_n 0, 1) by decide +kernel) rfl
theorem q6_29 (L st : List Value) (h : xH) (a : Nat) : rn 6 29 L (.ref a :: st) h = rn 6 30 L (.ref a :: .ref a :: st) h := e_dupA (show x_fe 6 29 = some (.dup, 1) by decide +kernel)
theorem q6_30 (L st : List Value) (h : xH) (a : Nat) (hF : isF (h.2 a) 1 2 = true) : rn 6 30 L (.ref a :: st) h = rn 6 33 L (fld (h.2 a) 2 :: st) h := e_get (show x_fe 6 30 = some (.getfield 21, 3) by decide +kernel) (by decide +kernel) hF
theorem q6_33 (L st : List Value) (h : xH) : rn 6 33 L st h = rn 6 34 L (.int 1 :: st) h := e_iconst (show x_fe 6 33 = some (.iconst 1, 1) by decide +kernel) (by decide)
theorem q6_34 (L st : List Value) (h : xH) (a b : Int32) : rn 6 34 L (.int b :: .int a :: st) h = rn 6 35 L (.int (a - b) :: st) h := e_isub (show x_fe 6 34 = some (.isub, 1) by decide +kernel)
theorem q6_35 (L st : List Value) (h : xH) (x : Int32) (a : Nat) (hF : isF (h.2 a) 1 2 = true) : rn 6 35 L (.int x :: .ref a :: st) h = rn 6 38 L st (h.1, mu h.2 a (fset (h.2 a) 2 (.int x))) := e_put (fin := false) (ci := 1) (k := 2) (show x_fe 6 35 = some (.putfield 21, 3) by decide +kernel) (by decide +kernel) (by decide +kernel) rfl hF
theorem q6_38 (v1 : Value) (x : Nat) (st : List Value) (h : xH) : rn 6 38 [.ref x, v1] st h = rn 6 39 [.ref x, v1] (.ref x :: st) h := e_aload_n (show x_fe 6 38 = some (.aload_n 0, 1) by decide +kernel) rfl
theorem q6_39 (L st : List Value) (h : xH) (a : Nat) (hF : isF (h.2 a) 1 0 = true) : rn 6 39 L (.ref a :: st) h = rn 6 42 L (fld (h.2 a) 0 :: st) h := e_get (show x_fe 6 39 = some (.getfield 11, 3) by decide +kernel) (by decide +kernel) hF
theorem q6_42 (v1 : Value) (x : Nat) (st : List Value) (h : xH) : rn 6 42 [.ref x, v1] st h = rn 6 43 [.ref x, v1] (.ref x :: st) h := e_aload_n (show x_fe 6 42 = some (.aload_n 0, 1) by decide +kernel) rfl
theorem q6_43 (L st : List Value) (h : xH) (a : Nat) (hF : isF (h.2 a) 1 1 = true) : rn 6 43 L (.ref a :: st) h = rn 6 46 L (fld (h.2 a) 1 :: st) h := e_get (show x_fe 6 43 = some (.getfield 17, 3) by decide +kernel) (by decide +kernel) hF
theorem q6_46 (L : List Value) (h : xH) (x0 : Nat) (x1 : Int32) (hc : (cl 88 [.ref x0, .int x1] h).isSome = true) : rn 6 46 L [.int x1, .ref x0] h = rn 6 49 L (rv (cl 88 [.ref x0, .int x1] h) ++ []) (rh (cl 88 [.ref x0, .int x1] h)) := e_callS (n := 2) (show x_fe 6 46 = some (.invokestatic 25, 3) by decide +kernel) (by decide +kernel) (by decide +kernel) rfl rfl rfl ⟨by decide +kernel, by decide +kernel, Nat.le_of_ble_eq_true rfl, Nat.le_of_ble_eq_true rfl, by decide⟩ hc
theorem q6_49 (v0 : Value) (x : Nat) (st : List Value) (h : xH) : rn 6 49 [v0, .ref x] st h = rn 6 50 [v0, .ref x] (.ref x :: st) h := e_aload_n (show x_fe 6 49 = some (.aload_n 1, 1) by decide +kernel) rfl
theorem q6_49N (v0 : Value) (st : List Value) (h : xH) : rn 6 49 [v0, .null] st h = rn 6 50 [v0, .null] (.null :: st) h := e_aload_nN (show x_fe 6 49 = some (.aload_n 1, 1) by decide +kernel) rfl
theorem q6_50 (L : List Value) (h : xH) (x0 : Nat) (x1 : Nat) (hc : (cl 89 [.ref x0, .ref x1] h).isSome = true) : rn 6 50 L [.ref x1, .ref x0] h = rn 6 53 L (rv (cl 89 [.ref x0, .ref x1] h) ++ []) (rh (cl 89 [.ref x0, .ref x1] h)) := e_callS (n := 2) (show x_fe 6 50 = some (.invokestatic 29, 3) by decide +kernel) (by decide +kernel) (by decide +kernel) rfl rfl rfl ⟨by decide +kernel, by decide +kernel, Nat.le_of_ble_eq_true rfl, Nat.le_of_ble_eq_true rfl, by decide⟩ hc
theorem q6_53 (L : List Value) (h : xH) : rn 6 53 L [] h = some (none, h) := e_ret (st := []) (show x_fe 6 53 = some (.return_, 1) by decide +kernel) (by decide +kernel)
theorem c7 (x0 : Nat) (h : xH) : cl 7 [.ref x0] h = rn 7 0 [.ref x0] [] h := rfl
theorem q7_0 (x : Nat) (st : List Value) (h : xH) : rn 7 0 [.ref x] st h = rn 7 1 [.ref x] (.ref x :: st) h := e_aload_n (show x_fe 7 0 = some (.aload_n 0, 1) by decide +kernel) rfl
theorem q7_1 (L : List Value) (h : xH) (a : Nat) : rn 7 1 L [.ref a] h = rn 7 4 L [] h := e_oinit (show x_fe 7 1 = some (.invokespecial 3, 3) by decide +kernel) (by decide +kernel) (by decide +kernel)
theorem q7_4 (x : Nat) (st : List Value) (h : xH) : rn 7 4 [.ref x] st h = rn 7 5 [.ref x] (.ref x :: st) h := e_aload_n (show x_fe 7 4 = some (.aload_n 0, 1) by decide +kernel) rfl
theorem q7_5 (L st : List Value) (h : xH) : rn 7 5 L st h = rn 7 7 L (.int 24 :: st) h := e_bipush (show x_fe 7 5 = some (.bipush 24, 2) by decide +kernel) (by decide)
theorem q7_7 (L st : List Value) (h : xH) (x : Int32) (a : Nat) (hF : isF (h.2 a) 2 0 = true) : rn 7 7 L (.int x :: .ref a :: st) h = rn 7 10 L st (h.1, mu h.2 a (fset (h.2 a) 0 (.int x))) := e_put (fin := false) (ci := 2) (k := 0) (show x_fe 7 7 = some (.putfield 9, 3) by decide +kernel) (by decide +kernel) (by decide +kernel) rfl hF
theorem q7_10 (x : Nat) (st : List Value) (h : xH) : rn 7 10 [.ref x] st h = rn 7 11 [.ref x] (.ref x :: st) h := e_aload_n (show x_fe 7 10 = some (.aload_n 0, 1) by decide +kernel) rfl
theorem q7_11 (L st : List Value) (h : xH) : rn 7 11 L st h = rn 7 13 L (.int 120 :: st) h := e_bipush (show x_fe 7 11 = some (.bipush 120, 2) by decide +kernel) (by decide)
theorem q7_13 (L st : List Value) (h : xH) (x : Int32) (a : Nat) (hF : isF (h.2 a) 2 1 = true) : rn 7 13 L (.int x :: .ref a :: st) h = rn 7 16 L st (h.1, mu h.2 a (fset (h.2 a) 1 (.int x))) := e_put (fin := false) (ci := 2) (k := 1) (show x_fe 7 13 = some (.putfield 15, 3) by decide +kernel) (by decide +kernel) (by decide +kernel) rfl hF
theorem q7_16 (x : Nat) (st : List Value) (h : xH) : rn 7 16 [.ref x] st h = rn 7 17 [.ref x] (.ref x :: st) h := e_aload_n (show x_fe 7 16 = some (.aload_n 0, 1) by decide +kernel) rfl
theorem q7_17 (L st : List Value) (h : xH) : rn 7 17 L st h = rn 7 18 L (.int 0 :: st) h := e_iconst (show x_fe 7 17 = some (.iconst 0, 1) by decide +kernel) (by decide)
theorem q7_18 (L st : List Value) (h : xH) (x : Int32) (a : Nat) (hF : isF (h.2 a) 2 2 = true) : rn 7 18 L (.int x :: .ref a :: st) h = rn 7 21 L st (h.1, mu h.2 a (fset (h.2 a) 2 (.int x))) := e_put (fin := false) (ci := 2) (k := 2) (show x_fe 7 18 = some (.putfield 18, 3) by decide +kernel) (by decide +kernel) (by decide +kernel) rfl hF
theorem q7_21 (x : Nat) (st : List Value) (h : xH) : rn 7 21 [.ref x] st h = rn 7 22 [.ref x] (.ref x :: st) h := e_aload_n (show x_fe 7 21 = some (.aload_n 0, 1) by decide +kernel) rfl
theorem q7_22 (L st : List Value) (h : xH) : rn 7 22 L st h = rn 7 25 L (.ref h.1.1 :: st) ((h.1.1 + 1, h.1.2 + 4), mu h.2 h.1.1 (.inr (6, [.null, .null, .null, .int 0]))) := e_new (show x_fe 7 22 = some (.new 21, 3) by decide +kernel) (by decide +kernel) (by decide +kernel) (by decide +kernel)
theorem q7_25 (L st : List Value) (h : xH) (a : Nat) : rn 7 25 L (.ref a :: st) h = rn 7 26 L (.ref a :: .ref a :: st) h := e_dupA (show x_fe 7 25 = some (.dup, 1) by decide +kernel)
theorem q7_26 (L : List Value) (s0 s1 : Value) (h : xH)  (b : Nat) (hc : (cl 47 [.ref b] h).isSome = true) : rn 7 26 L [.ref b, s0, s1] h = rn 7 29 L (rv (cl 47 [.ref b] h) ++ [s0, s1]) (rh (cl 47 [.ref b] h)) := e_callI (n := 0) (show x_fe 7 26 = some (.invokespecial 23, 3) by decide +kernel) (by decide +kernel) (by decide +kernel) rfl rfl rfl ⟨by decide +kernel, by decide +kernel, Nat.le_of_ble_eq_true rfl, Nat.le_of_ble_eq_true rfl, by decide⟩ hc
theorem q7_29 (L st : List Value) (h : xH) (x : Nat) (a : Nat) (hF : isF (h.2 a) 2 3 = true) : rn 7 29 L (.ref x :: .ref a :: st) h = rn 7 32 L st (h.1, mu h.2 a (fset (h.2 a) 3 (.ref x))) := e_put (fin := true) (ci := 2) (k := 3) (show x_fe 7 29 = some (.putfield 24, 3) by decide +kernel) (by decide +kernel) (by decide +kernel) rfl hF
theorem q7_32 (x : Nat) (st : List Value) (h : xH) : rn 7 32 [.ref x] st h = rn 7 33 [.ref x] (.ref x :: st) h := e_aload_n (show x_fe 7 32 = some (.aload_n 0, 1) by decide +kernel) rfl
theorem q7_33 (L st : List Value) (h : xH) : rn 7 33 L st h = rn 7 36 L (.ref h.1.1 :: st) ((h.1.1 + 1, h.1.2 + 6), mu h.2 h.1.1 (.inr (0, [.int 0, .int 0, .int 0, .int 0, .int 0, .int 0]))) := e_new (show x_fe 7 33 = some (.new 28, 3) by decide +kernel) (by decide +kernel) (by decide +kernel) (by decide +kernel)
theorem q7_36 (L st : List Value) (h : xH) (a : Nat) : rn 7 36 L (.ref a :: st) h = rn 7 37 L (.ref a :: .ref a :: st) h := e_dupA (show x_fe 7 36 = some (.dup, 1) by decide +kernel)
theorem q7_37 (L st : List Value) (h : xH) : rn 7 37 L st h = rn 7 38 L (.int 1 :: st) h := e_iconst (show x_fe 7 37 = some (.iconst 1, 1) by decide +kernel) (by decide)
theorem q7_38 (L : List Value) (s0 s1 : Value) (h : xH) (x0 : Int32) (b : Nat) (hc : (cl 0 [.ref b, .int x0] h).isSome = true) : rn 7 38 L [.int x0, .ref b, s0, s1] h = rn 7 41 L (rv (cl 0 [.ref b, .int x0] h) ++ [s0, s1]) (rh (cl 0 [.ref b, .int x0] h)) := e_callI (n := 1) (show x_fe 7 38 = some (.invokespecial 30, 3) by decide +kernel) (by decide +kernel) (by decide +kernel) rfl rfl rfl ⟨by decide +kernel, by decide +kernel, Nat.le_of_ble_eq_true rfl, Nat.le_of_ble_eq_true rfl, by decide⟩ hc
theorem q7_41 (L st : List Value) (h : xH) (x : Nat) (a : Nat) (hF : isF (h.2 a) 2 4 = true) : rn 7 41 L (.ref x :: .ref a :: st) h = rn 7 44 L st (h.1, mu h.2 a (fset (h.2 a) 4 (.ref x))) := e_put (fin := true) (ci := 2) (k := 4) (show x_fe 7 41 = some (.putfield 33, 3) by decide +kernel) (by decide +kernel) (by decide +kernel) rfl hF
theorem q7_44 (x : Nat) (st : List Value) (h : xH) : rn 7 44 [.ref x] st h = rn 7 45 [.ref x] (.ref x :: st) h := e_aload_n (show x_fe 7 44 = some (.aload_n 0, 1) by decide +kernel) rfl
theorem q7_45 (L st : List Value) (h : xH) : rn 7 45 L st h = rn 7 48 L (.ref h.1.1 :: st) ((h.1.1 + 1, h.1.2 + 6), mu h.2 h.1.1 (.inr (0, [.int 0, .int 0, .int 0, .int 0, .int 0, .int 0]))) := e_new (show x_fe 7 45 = some (.new 28, 3) by decide +kernel) (by decide +kernel) (by decide +kernel) (by decide +kernel)
theorem q7_48 (L st : List Value) (h : xH) (a : Nat) : rn 7 48 L (.ref a :: st) h = rn 7 49 L (.ref a :: .ref a :: st) h := e_dupA (show x_fe 7 48 = some (.dup, 1) by decide +kernel)
theorem q7_49 (L st : List Value) (h : xH) : rn 7 49 L st h = rn 7 50 L (.int 0 :: st) h := e_iconst (show x_fe 7 49 = some (.iconst 0, 1) by decide +kernel) (by decide)
theorem q7_50 (L : List Value) (s0 s1 : Value) (h : xH) (x0 : Int32) (b : Nat) (hc : (cl 0 [.ref b, .int x0] h).isSome = true) : rn 7 50 L [.int x0, .ref b, s0, s1] h = rn 7 53 L (rv (cl 0 [.ref b, .int x0] h) ++ [s0, s1]) (rh (cl 0 [.ref b, .int x0] h)) := e_callI (n := 1) (show x_fe 7 50 = some (.invokespecial 30, 3) by decide +kernel) (by decide +kernel) (by decide +kernel) rfl rfl rfl ⟨by decide +kernel, by decide +kernel, Nat.le_of_ble_eq_true rfl, Nat.le_of_ble_eq_true rfl, by decide⟩ hc
theorem q7_53 (L st : List Value) (h : xH) (x : Nat) (a : Nat) (hF : isF (h.2 a) 2 5 = true) : rn 7 53 L (.ref x :: .ref a :: st) h = rn 7 56 L st (h.1, mu h.2 a (fset (h.2 a) 5 (.ref x))) := e_put (fin := true) (ci := 2) (k := 5) (show x_fe 7 53 = some (.putfield 37, 3) by decide +kernel) (by decide +kernel) (by decide +kernel) rfl hF
theorem q7_56 (L : List Value) (h : xH) : rn 7 56 L [] h = some (none, h) := e_ret (st := []) (show x_fe 7 56 = some (.return_, 1) by decide +kernel) (by decide +kernel)
theorem c8 (x0 : Nat) (x1 : Nat) (h : xH) : cl 8 [.ref x0, .ref x1] h = rn 8 0 [.ref x0, .ref x1] [] h := rfl
theorem q8_0 (v1 : Value) (x : Nat) (st : List Value) (h : xH) : rn 8 0 [.ref x, v1] st h = rn 8 1 [.ref x, v1] (.ref x :: st) h := e_aload_n (show x_fe 8 0 = some (.aload_n 0, 1) by decide +kernel) rfl
theorem q8_1 (v0 : Value) (x : Nat) (st : List Value) (h : xH) : rn 8 1 [v0, .ref x] st h = rn 8 2 [v0, .ref x] (.ref x :: st) h := e_aload_n (show x_fe 8 1 = some (.aload_n 1, 1) by decide +kernel) rfl
theorem q8_1N (v0 : Value) (st : List Value) (h : xH) : rn 8 1 [v0, .null] st h = rn 8 2 [v0, .null] (.null :: st) h := e_aload_nN (show x_fe 8 1 = some (.aload_n 1, 1) by decide +kernel) rfl
theorem q8_2 (L st : List Value) (h : xH) (a : Nat) (hF : isF (h.2 a) 2 0 = true) : rn 8 2 L (.ref a :: st) h = rn 8 5 L (fld (h.2 a) 0 :: st) h := e_get (show x_fe 8 2 = some (.getfield 9, 3) by decide +kernel) (by decide +kernel) hF
theorem q8_5 (L st : List Value) (h : xH) (x : Int32) (a : Nat) (hF : isF (h.2 a) 2 0 = true) : rn 8 5 L (.int x :: .ref a :: st) h = rn 8 8 L st (h.1, mu h.2 a (fset (h.2 a) 0 (.int x))) := e_put (fin := false) (ci := 2) (k := 0) (show x_fe 8 5 = some (.putfield 9, 3) by decide +kernel) (by decide +kernel) (by decide +kernel) rfl hF
theorem q8_8 (v1 : Value) (x : Nat) (st : List Value) (h : xH) : rn 8 8 [.ref x, v1] st h = rn 8 9 [.ref x, v1] (.ref x :: st) h := e_aload_n (show x_fe 8 8 = some (.aload_n 0, 1) by decide +kernel) rfl
theorem q8_9 (v0 : Value) (x : Nat) (st : List Value) (h : xH) : rn 8 9 [v0, .ref x] st h = rn 8 10 [v0, .ref x] (.ref x :: st) h := e_aload_n (show x_fe 8 9 = some (.aload_n 1, 1) by decide +kernel) rfl
theorem q8_9N (v0 : Value) (st : List Value) (h : xH) : rn 8 9 [v0, .null] st h = rn 8 10 [v0, .null] (.null :: st) h := e_aload_nN (show x_fe 8 9 = some (.aload_n 1, 1) by decide +kernel) rfl
theorem q8_10 (L st : List Value) (h : xH) (a : Nat) (hF : isF (h.2 a) 2 1 = true) : rn 8 10 L (.ref a :: st) h = rn 8 13 L (fld (h.2 a) 1 :: st) h := e_get (show x_fe 8 10 = some (.getfield 15, 3) by decide +kernel) (by decide +kernel) hF
theorem q8_13 (L st : List Value) (h : xH) (x : Int32) (a : Nat) (hF : isF (h.2 a) 2 1 = true) : rn 8 13 L (.int x :: .ref a :: st) h = rn 8 16 L st (h.1, mu h.2 a (fset (h.2 a) 1 (.int x))) := e_put (fin := false) (ci := 2) (k := 1) (show x_fe 8 13 = some (.putfield 15, 3) by decide +kernel) (by decide +kernel) (by decide +kernel) rfl hF
theorem q8_16 (v1 : Value) (x : Nat) (st : List Value) (h : xH) : rn 8 16 [.ref x, v1] st h = rn 8 17 [.ref x, v1] (.ref x :: st) h := e_aload_n (show x_fe 8 16 = some (.aload_n 0, 1) by decide +kernel) rfl
theorem q8_17 (v0 : Value) (x : Nat) (st : List Value) (h : xH) : rn 8 17 [v0, .ref x] st h = rn 8 18 [v0, .ref x] (.ref x :: st) h := e_aload_n (show x_fe 8 17 = some (.aload_n 1, 1) by decide +kernel) rfl
theorem q8_17N (v0 : Value) (st : List Value) (h : xH) : rn 8 17 [v0, .null] st h = rn 8 18 [v0, .null] (.null :: st) h := e_aload_nN (show x_fe 8 17 = some (.aload_n 1, 1) by decide +kernel) rfl
theorem q8_18 (L st : List Value) (h : xH) (a : Nat) (hF : isF (h.2 a) 2 2 = true) : rn 8 18 L (.ref a :: st) h = rn 8 21 L (fld (h.2 a) 2 :: st) h := e_get (show x_fe 8 18 = some (.getfield 18, 3) by decide +kernel) (by decide +kernel) hF
theorem q8_21 (L st : List Value) (h : xH) (x : Int32) (a : Nat) (hF : isF (h.2 a) 2 2 = true) : rn 8 21 L (.int x :: .ref a :: st) h = rn 8 24 L st (h.1, mu h.2 a (fset (h.2 a) 2 (.int x))) := e_put (fin := false) (ci := 2) (k := 2) (show x_fe 8 21 = some (.putfield 18, 3) by decide +kernel) (by decide +kernel) (by decide +kernel) rfl hF
theorem q8_24 (v1 : Value) (x : Nat) (st : List Value) (h : xH) : rn 8 24 [.ref x, v1] st h = rn 8 25 [.ref x, v1] (.ref x :: st) h := e_aload_n (show x_fe 8 24 = some (.aload_n 0, 1) by decide +kernel) rfl
theorem q8_25 (L st : List Value) (h : xH) (a : Nat) (hF : isF (h.2 a) 2 3 = true) : rn 8 25 L (.ref a :: st) h = rn 8 28 L (fld (h.2 a) 3 :: st) h := e_get (show x_fe 8 25 = some (.getfield 24, 3) by decide +kernel) (by decide +kernel) hF
theorem q8_28 (v0 : Value) (x : Nat) (st : List Value) (h : xH) : rn 8 28 [v0, .ref x] st h = rn 8 29 [v0, .ref x] (.ref x :: st) h := e_aload_n (show x_fe 8 28 = some (.aload_n 1, 1) by decide +kernel) rfl
theorem q8_28N (v0 : Value) (st : List Value) (h : xH) : rn 8 28 [v0, .null] st h = rn 8 29 [v0, .null] (.null :: st) h := e_aload_nN (show x_fe 8 28 = some (.aload_n 1, 1) by decide +kernel) rfl
theorem q8_29 (L st : List Value) (h : xH) (a : Nat) (hF : isF (h.2 a) 2 3 = true) : rn 8 29 L (.ref a :: st) h = rn 8 32 L (fld (h.2 a) 3 :: st) h := e_get (show x_fe 8 29 = some (.getfield 24, 3) by decide +kernel) (by decide +kernel) hF
theorem q8_32 (L : List Value) (h : xH) (x0 : Nat) (b : Nat) (hK : isK (h.2 b) 6 = true) (hc : (cl 48 [.ref b, .ref x0] h).isSome = true) : rn 8 32 L [.ref x0, .ref b] h = rn 8 35 L (rv (cl 48 [.ref b, .ref x0] h) ++ []) (rh (cl 48 [.ref b, .ref x0] h)) := e_callV (n := 1) (show x_fe 8 32 = some (.invokevirtual 40, 3) by decide +kernel) (by decide +kernel) rfl rfl rfl ⟨by decide +kernel, by decide +kernel, Nat.le_of_ble_eq_true rfl, Nat.le_of_ble_eq_true rfl, by decide⟩ hK hc
theorem q8_35 (v1 : Value) (x : Nat) (st : List Value) (h : xH) : rn 8 35 [.ref x, v1] st h = rn 8 36 [.ref x, v1] (.ref x :: st) h := e_aload_n (show x_fe 8 35 = some (.aload_n 0, 1) by decide +kernel) rfl
theorem q8_36 (L st : List Value) (h : xH) (a : Nat) (hF : isF (h.2 a) 2 4 = true) : rn 8 36 L (.ref a :: st) h = rn 8 39 L (fld (h.2 a) 4 :: st) h := e_get (show x_fe 8 36 = some (.getfield 33, 3) by decide +kernel) (by decide +kernel) hF
theorem q8_39 (v0 : Value) (x : Nat) (st : List Value) (h : xH) : rn 8 39 [v0, .ref x] st h = rn 8 40 [v0, .ref x] (.ref x :: st) h := e_aload_n (show x_fe 8 39 = some (.aload_n 1, 1) by decide +kernel) rfl
theorem q8_39N (v0 : Value) (st : List Value) (h : xH) : rn 8 39 [v0, .null] st h = rn 8 40 [v0, .null] (.null :: st) h := e_aload_nN (show x_fe 8 39 = some (.aload_n 1, 1) by decide +kernel) rfl
theorem q8_40 (L st : List Value) (h : xH) (a : Nat) (hF : isF (h.2 a) 2 4 = true) : rn 8 40 L (.ref a :: st) h = rn 8 43 L (fld (h.2 a) 4 :: st) h := e_get (show x_fe 8 40 = some (.getfield 33, 3) by decide +kernel) (by decide +kernel) hF
theorem q8_43 (L : List Value) (h : xH) (x0 : Nat) (b : Nat) (hK : isK (h.2 b) 0 = true) (hc : (cl 1 [.ref b, .ref x0] h).isSome = true) : rn 8 43 L [.ref x0, .ref b] h = rn 8 46 L (rv (cl 1 [.ref b, .ref x0] h) ++ []) (rh (cl 1 [.ref b, .ref x0] h)) := e_callV (n := 1) (show x_fe 8 43 = some (.invokevirtual 44, 3) by decide +kernel) (by decide +kernel) rfl rfl rfl ⟨by decide +kernel, by decide +kernel, Nat.le_of_ble_eq_true rfl, Nat.le_of_ble_eq_true rfl, by decide⟩ hK hc
theorem q8_46 (v1 : Value) (x : Nat) (st : List Value) (h : xH) : rn 8 46 [.ref x, v1] st h = rn 8 47 [.ref x, v1] (.ref x :: st) h := e_aload_n (show x_fe 8 46 = some (.aload_n 0, 1) by decide +kernel) rfl
theorem q8_47 (L st : List Value) (h : xH) (a : Nat) (hF : isF (h.2 a) 2 5 = true) : rn 8 47 L (.ref a :: st) h = rn 8 50 L (fld (h.2 a) 5 :: st) h := e_get (show x_fe 8 47 = some (.getfield 37, 3) by decide +kernel) (by decide +kernel) hF
theorem q8_50 (v0 : Value) (x : Nat) (st : List Value) (h : xH) : rn 8 50 [v0, .ref x] st h = rn 8 51 [v0, .ref x] (.ref x :: st) h := e_aload_n (show x_fe 8 50 = some (.aload_n 1, 1) by decide +kernel) rfl
theorem q8_50N (v0 : Value) (st : List Value) (h : xH) : rn 8 50 [v0, .null] st h = rn 8 51 [v0, .null] (.null :: st) h := e_aload_nN (show x_fe 8 50 = some (.aload_n 1, 1) by decide +kernel) rfl
theorem q8_51 (L st : List Value) (h : xH) (a : Nat) (hF : isF (h.2 a) 2 5 = true) : rn 8 51 L (.ref a :: st) h = rn 8 54 L (fld (h.2 a) 5 :: st) h := e_get (show x_fe 8 51 = some (.getfield 37, 3) by decide +kernel) (by decide +kernel) hF
theorem q8_54 (L : List Value) (h : xH) (x0 : Nat) (b : Nat) (hK : isK (h.2 b) 0 = true) (hc : (cl 1 [.ref b, .ref x0] h).isSome = true) : rn 8 54 L [.ref x0, .ref b] h = rn 8 57 L (rv (cl 1 [.ref b, .ref x0] h) ++ []) (rh (cl 1 [.ref b, .ref x0] h)) := e_callV (n := 1) (show x_fe 8 54 = some (.invokevirtual 44, 3) by decide +kernel) (by decide +kernel) rfl rfl rfl ⟨by decide +kernel, by decide +kernel, Nat.le_of_ble_eq_true rfl, Nat.le_of_ble_eq_true rfl, by decide⟩ hK hc
theorem q8_57 (L : List Value) (h : xH) : rn 8 57 L [] h = some (none, h) := e_ret (st := []) (show x_fe 8 57 = some (.return_, 1) by decide +kernel) (by decide +kernel)
theorem c9 (x0 : Nat) (h : xH) : cl 9 [.ref x0] h = rn 9 0 [.ref x0] [] h := rfl
theorem q9_0 (x : Nat) (st : List Value) (h : xH) : rn 9 0 [.ref x] st h = rn 9 1 [.ref x] (.ref x :: st) h := e_aload_n (show x_fe 9 0 = some (.aload_n 0, 1) by decide +kernel) rfl
theorem q9_1 (L st : List Value) (h : xH) (a : Nat) (hF : isF (h.2 a) 2 4 = true) : rn 9 1 L (.ref a :: st) h = rn 9 4 L (fld (h.2 a) 4 :: st) h := e_get (show x_fe 9 1 = some (.getfield 33, 3) by decide +kernel) (by decide +kernel) hF
theorem q9_4 (L : List Value) (h : xH)  (b : Nat) (hK : isK (h.2 b) 0 = true) (hc : (cl 2 [.ref b] h).isSome = true) : rn 9 4 L [.ref b] h = rn 9 7 L (rv (cl 2 [.ref b] h) ++ []) (rh (cl 2 [.ref b] h)) := e_callV (n := 0) (show x_fe 9 4 = some (.invokevirtual 48, 3) by decide +kernel) (by decide +kernel) rfl rfl rfl ⟨by decide +kernel, by decide +kernel, Nat.le_of_ble_eq_true rfl, Nat.le_of_ble_eq_true rfl, by decide⟩ hK hc
theorem q9_7 (x : Nat) (st : List Value) (h : xH) : rn 9 7 [.ref x] st h = rn 9 8 [.ref x] (.ref x :: st) h := e_aload_n (show x_fe 9 7 = some (.aload_n 0, 1) by decide +kernel) rfl
theorem q9_8 (L st : List Value) (h : xH) (a : Nat) (hF : isF (h.2 a) 2 5 = true) : rn 9 8 L (.ref a :: st) h = rn 9 11 L (fld (h.2 a) 5 :: st) h := e_get (show x_fe 9 8 = some (.getfield 37, 3) by decide +kernel) (by decide +kernel) hF
theorem q9_11 (L : List Value) (h : xH)  (b : Nat) (hK : isK (h.2 b) 0 = true) (hc : (cl 2 [.ref b] h).isSome = true) : rn 9 11 L [.ref b] h = rn 9 14 L (rv (cl 2 [.ref b] h) ++ []) (rh (cl 2 [.ref b] h)) := e_callV (n := 0) (show x_fe 9 11 = some (.invokevirtual 48, 3) by decide +kernel) (by decide +kernel) rfl rfl rfl ⟨by decide +kernel, by decide +kernel, Nat.le_of_ble_eq_true rfl, Nat.le_of_ble_eq_true rfl, by decide⟩ hK hc
theorem q9_14 (L : List Value) (h : xH) : rn 9 14 L [] h = some (none, h) := e_ret (st := []) (show x_fe 9 14 = some (.return_, 1) by decide +kernel) (by decide +kernel)
theorem c10 (x0 : Nat) (x1 : Int32) (h : xH) : cl 10 [.ref x0, .int x1] h = rn 10 0 [.ref x0, .int x1] [] h := rfl
theorem q10_0 (v0 : Value) (x : Int32) (st : List Value) (h : xH) : rn 10 0 [v0, .int x] st h = rn 10 1 [v0, .int x] (.int x :: st) h := e_iload_n (show x_fe 10 0 = some (.iload_n 1, 1) by decide +kernel) rfl
theorem q10_1 (L st : List Value) (h : xH) (x : Int32) : rn 10 1 L (.int x :: st) h = if x = 0 then rn 10 4 L st h else rn 10 9 L st h := e_if_ne (show x_fe 10 1 = some (.ifCond .ne 8, 3) by decide +kernel) (by decide)
theorem q10_4 (v1 : Value) (x : Nat) (st : List Value) (h : xH) : rn 10 4 [.ref x, v1] st h = rn 10 5 [.ref x, v1] (.ref x :: st) h := e_aload_n (show x_fe 10 4 = some (.aload_n 0, 1) by decide +kernel) rfl
theorem q10_5 (L st : List Value) (h : xH) (a : Nat) (hF : isF (h.2 a) 2 4 = true) : rn 10 5 L (.ref a :: st) h = rn 10 8 L (fld (h.2 a) 4 :: st) h := e_get (show x_fe 10 5 = some (.getfield 33, 3) by decide +kernel) (by decide +kernel) hF
theorem q10_8 (L : List Value) (h : xH) (a : Nat) : rn 10 8 L [.ref a] h = some (some (.ref a), h) := e_areA (st := []) (n := "MeetingCarpets$Crew") (show x_fe 10 8 = some (.areturn, 1) by decide +kernel) (by decide +kernel)
theorem q10_8N (L : List Value) (h : xH) : rn 10 8 L [.null] h = some (some .null, h) := e_areN (st := []) (n := "MeetingCarpets$Crew") (show x_fe 10 8 = some (.areturn, 1) by decide +kernel) (by decide +kernel)
theorem q10_9 (v0 : Value) (x : Int32) (st : List Value) (h : xH) : rn 10 9 [v0, .int x] st h = rn 10 10 [v0, .int x] (.int x :: st) h := e_iload_n (show x_fe 10 9 = some (.iload_n 1, 1) by decide +kernel) rfl
theorem q10_10 (L st : List Value) (h : xH) : rn 10 10 L st h = rn 10 11 L (.int 1 :: st) h := e_iconst (show x_fe 10 10 = some (.iconst 1, 1) by decide +kernel) (by decide)
theorem q10_11 (L st : List Value) (h : xH) (x w : Int32) : rn 10 11 L (.int w :: .int x :: st) h = if x = w then rn 10 14 L st h else rn 10 21 L st h := e_icmp_ne (show x_fe 10 11 = some (.if_icmp .ne 10, 3) by decide +kernel) (by decide)
theorem q10_14 (v1 : Value) (x : Nat) (st : List Value) (h : xH) : rn 10 14 [.ref x, v1] st h = rn 10 15 [.ref x, v1] (.ref x :: st) h := e_aload_n (show x_fe 10 14 = some (.aload_n 0, 1) by decide +kernel) rfl
theorem q10_15 (L st : List Value) (h : xH) (a : Nat) (hF : isF (h.2 a) 2 5 = true) : rn 10 15 L (.ref a :: st) h = rn 10 18 L (fld (h.2 a) 5 :: st) h := e_get (show x_fe 10 15 = some (.getfield 37, 3) by decide +kernel) (by decide +kernel) hF
theorem q10_18 (L st : List Value) (h : xH) : rn 10 18 L st h = rn 10 22 L st h := e_goto (show x_fe 10 18 = some (.goto 4, 3) by decide +kernel) (by decide)
theorem q10_21 (L st : List Value) (h : xH) : rn 10 21 L st h = rn 10 22 L (.null :: st) h := e_null (show x_fe 10 21 = some (.aconst_null, 1) by decide +kernel)
theorem q10_22 (L : List Value) (h : xH) (a : Nat) : rn 10 22 L [.ref a] h = some (some (.ref a), h) := e_areA (st := []) (n := "MeetingCarpets$Crew") (show x_fe 10 22 = some (.areturn, 1) by decide +kernel) (by decide +kernel)
theorem q10_22N (L : List Value) (h : xH) : rn 10 22 L [.null] h = some (some .null, h) := e_areN (st := []) (n := "MeetingCarpets$Crew") (show x_fe 10 22 = some (.areturn, 1) by decide +kernel) (by decide +kernel)
theorem c11 (x0 : Nat) (h : xH) : cl 11 [.ref x0] h = rn 11 0 [.ref x0] [] h := rfl
theorem q11_0 (x : Nat) (st : List Value) (h : xH) : rn 11 0 [.ref x] st h = rn 11 1 [.ref x] (.ref x :: st) h := e_aload_n (show x_fe 11 0 = some (.aload_n 0, 1) by decide +kernel) rfl
theorem q11_1 (L st : List Value) (h : xH) (a : Nat) (hF : isF (h.2 a) 2 4 = true) : rn 11 1 L (.ref a :: st) h = rn 11 4 L (fld (h.2 a) 4 :: st) h := e_get (show x_fe 11 1 = some (.getfield 33, 3) by decide +kernel) (by decide +kernel) hF
theorem q11_4 (L st : List Value) (h : xH) (a : Nat) (hF : isF (h.2 a) 0 4 = true) : rn 11 4 L (.ref a :: st) h = rn 11 7 L (fld (h.2 a) 4 :: st) h := e_get (show x_fe 11 4 = some (.getfield 51, 3) by decide +kernel) (by decide +kernel) hF
theorem q11_7 (L st : List Value) (h : xH) (x : Int32) : rn 11 7 L (.int x :: st) h = if 0 < x then rn 11 20 L st h else rn 11 10 L st h := e_if_gt (show x_fe 11 7 = some (.ifCond .gt 13, 3) by decide +kernel) (by decide)
theorem q11_10 (x : Nat) (st : List Value) (h : xH) : rn 11 10 [.ref x] st h = rn 11 11 [.ref x] (.ref x :: st) h := e_aload_n (show x_fe 11 10 = some (.aload_n 0, 1) by decide +kernel) rfl
theorem q11_11 (L st : List Value) (h : xH) (a : Nat) (hF : isF (h.2 a) 2 5 = true) : rn 11 11 L (.ref a :: st) h = rn 11 14 L (fld (h.2 a) 5 :: st) h := e_get (show x_fe 11 11 = some (.getfield 37, 3) by decide +kernel) (by decide +kernel) hF
theorem q11_14 (L st : List Value) (h : xH) (a : Nat) (hF : isF (h.2 a) 0 4 = true) : rn 11 14 L (.ref a :: st) h = rn 11 17 L (fld (h.2 a) 4 :: st) h := e_get (show x_fe 11 14 = some (.getfield 51, 3) by decide +kernel) (by decide +kernel) hF
theorem q11_17 (L st : List Value) (h : xH) (x : Int32) : rn 11 17 L (.int x :: st) h = if 0 < x then rn 11 20 L st h else rn 11 24 L st h := e_if_le (show x_fe 11 17 = some (.ifCond .le 7, 3) by decide +kernel) (by decide)
theorem q11_20 (L st : List Value) (h : xH) : rn 11 20 L st h = rn 11 21 L (.int 1 :: st) h := e_iconst (show x_fe 11 20 = some (.iconst 1, 1) by decide +kernel) (by decide)
theorem q11_21 (L st : List Value) (h : xH) : rn 11 21 L st h = rn 11 25 L st h := e_goto (show x_fe 11 21 = some (.goto 4, 3) by decide +kernel) (by decide)
theorem q11_24 (L st : List Value) (h : xH) : rn 11 24 L st h = rn 11 25 L (.int 0 :: st) h := e_iconst (show x_fe 11 24 = some (.iconst 0, 1) by decide +kernel) (by decide)
theorem q11_25 (L : List Value) (h : xH) (x : Int32) (hx : (x == 0 || x == 1) = true) : rn 11 25 L [.int x] h = some (some (.int x), h) := e_iret (st := []) (ty := .boolean) (show x_fe 11 25 = some (.ireturn, 1) by decide +kernel) (by decide +kernel) hx
theorem c12 (x0 : Nat) (h : xH) : cl 12 [.ref x0] h = rn 12 0 [.ref x0] [] h := rfl
theorem q12_0 (x : Nat) (st : List Value) (h : xH) : rn 12 0 [.ref x] st h = rn 12 1 [.ref x] (.ref x :: st) h := e_aload_n (show x_fe 12 0 = some (.aload_n 0, 1) by decide +kernel) rfl
theorem q12_1 (L st : List Value) (h : xH) (a : Nat) (hF : isF (h.2 a) 2 4 = true) : rn 12 1 L (.ref a :: st) h = rn 12 4 L (fld (h.2 a) 4 :: st) h := e_get (show x_fe 12 1 = some (.getfield 33, 3) by decide +kernel) (by decide +kernel) hF
theorem q12_4 (L st : List Value) (h : xH) (a : Nat) (hF : isF (h.2 a) 0 2 = true) : rn 12 4 L (.ref a :: st) h = rn 12 7 L (fld (h.2 a) 2 :: st) h := e_get (show x_fe 12 4 = some (.getfield 54, 3) by decide +kernel) (by decide +kernel) hF
theorem q12_7 (x : Nat) (st : List Value) (h : xH) : rn 12 7 [.ref x] st h = rn 12 8 [.ref x] (.ref x :: st) h := e_aload_n (show x_fe 12 7 = some (.aload_n 0, 1) by decide +kernel) rfl
theorem q12_8 (L st : List Value) (h : xH) (a : Nat) (hF : isF (h.2 a) 2 5 = true) : rn 12 8 L (.ref a :: st) h = rn 12 11 L (fld (h.2 a) 5 :: st) h := e_get (show x_fe 12 8 = some (.getfield 37, 3) by decide +kernel) (by decide +kernel) hF
theorem q12_11 (L st : List Value) (h : xH) (a : Nat) (hF : isF (h.2 a) 0 2 = true) : rn 12 11 L (.ref a :: st) h = rn 12 14 L (fld (h.2 a) 2 :: st) h := e_get (show x_fe 12 11 = some (.getfield 54, 3) by decide +kernel) (by decide +kernel) hF
theorem q12_14 (L st : List Value) (h : xH) (a b : Int32) : rn 12 14 L (.int b :: .int a :: st) h = rn 12 15 L (.int (a + b) :: st) h := e_iadd (show x_fe 12 14 = some (.iadd, 1) by decide +kernel)
theorem q12_15 (L : List Value) (h : xH) (x : Int32) : rn 12 15 L [.int x] h = some (some (.int x), h) := e_iret (st := []) (ty := .int) (show x_fe 12 15 = some (.ireturn, 1) by decide +kernel) (by decide +kernel) rfl
theorem c13 (x0 : Nat) (h : xH) : cl 13 [.ref x0] h = rn 13 0 [.ref x0] [] h := rfl
theorem q13_0 (x : Nat) (st : List Value) (h : xH) : rn 13 0 [.ref x] st h = rn 13 1 [.ref x] (.ref x :: st) h := e_aload_n (show x_fe 13 0 = some (.aload_n 0, 1) by decide +kernel) rfl
theorem q13_1 (L st : List Value) (h : xH) (a : Nat) (hF : isF (h.2 a) 2 3 = true) : rn 13 1 L (.ref a :: st) h = rn 13 4 L (fld (h.2 a) 3 :: st) h := e_get (show x_fe 13 1 = some (.getfield 24, 3) by decide +kernel) (by decide +kernel) hF
theorem q13_4 (x : Nat) (st : List Value) (h : xH) : rn 13 4 [.ref x] st h = rn 13 5 [.ref x] (.ref x :: st) h := e_aload_n (show x_fe 13 4 = some (.aload_n 0, 1) by decide +kernel) rfl
theorem q13_5 (L st : List Value) (h : xH) (a : Nat) (hF : isF (h.2 a) 2 4 = true) : rn 13 5 L (.ref a :: st) h = rn 13 8 L (fld (h.2 a) 4 :: st) h := e_get (show x_fe 13 5 = some (.getfield 33, 3) by decide +kernel) (by decide +kernel) hF
theorem q13_8 (L st : List Value) (h : xH) (a : Nat) (hF : isF (h.2 a) 0 2 = true) : rn 13 8 L (.ref a :: st) h = rn 13 11 L (fld (h.2 a) 2 :: st) h := e_get (show x_fe 13 8 = some (.getfield 54, 3) by decide +kernel) (by decide +kernel) hF
theorem q13_11 (L : List Value) (h : xH) (x0 : Int32) (b : Nat) (hK : isK (h.2 b) 6 = true) (hc : (cl 55 [.ref b, .int x0] h).isSome = true) : rn 13 11 L [.int x0, .ref b] h = rn 13 14 L (rv (cl 55 [.ref b, .int x0] h) ++ []) (rh (cl 55 [.ref b, .int x0] h)) := e_callV (n := 1) (show x_fe 13 11 = some (.invokevirtual 57, 3) by decide +kernel) (by decide +kernel) rfl rfl rfl ⟨by decide +kernel, by decide +kernel, Nat.le_of_ble_eq_true rfl, Nat.le_of_ble_eq_true rfl, by decide⟩ hK hc
theorem q13_14 (x : Nat) (st : List Value) (h : xH) : rn 13 14 [.ref x] st h = rn 13 15 [.ref x] (.ref x :: st) h := e_aload_n (show x_fe 13 14 = some (.aload_n 0, 1) by decide +kernel) rfl
theorem q13_15 (L st : List Value) (h : xH) (a : Nat) (hF : isF (h.2 a) 2 3 = true) : rn 13 15 L (.ref a :: st) h = rn 13 18 L (fld (h.2 a) 3 :: st) h := e_get (show x_fe 13 15 = some (.getfield 24, 3) by decide +kernel) (by decide +kernel) hF
theorem q13_18 (x : Nat) (st : List Value) (h : xH) : rn 13 18 [.ref x] st h = rn 13 19 [.ref x] (.ref x :: st) h := e_aload_n (show x_fe 13 18 = some (.aload_n 0, 1) by decide +kernel) rfl
theorem q13_19 (L : List Value) (s0 s1 : Value) (h : xH)  (b : Nat) (hK : isK (h.2 b) 2 = true) (hc : (cl 16 [.ref b] h).isSome = true) : rn 13 19 L [.ref b, s0, s1] h = rn 13 22 L (rv (cl 16 [.ref b] h) ++ [s0, s1]) (rh (cl 16 [.ref b] h)) := e_callV (n := 0) (show x_fe 13 19 = some (.invokevirtual 61, 3) by decide +kernel) (by decide +kernel) rfl rfl rfl ⟨by decide +kernel, by decide +kernel, Nat.le_of_ble_eq_true rfl, Nat.le_of_ble_eq_true rfl, by decide⟩ hK hc
theorem q13_22 (L : List Value) (s0 : Value) (h : xH) (x0 : Int32) (b : Nat) (hK : isK (h.2 b) 6 = true) (hc : (cl 57 [.ref b, .int x0] h).isSome = true) : rn 13 22 L [.int x0, .ref b, s0] h = rn 13 25 L (rv (cl 57 [.ref b, .int x0] h) ++ [s0]) (rh (cl 57 [.ref b, .int x0] h)) := e_callV (n := 1) (show x_fe 13 22 = some (.invokevirtual 65, 3) by decide +kernel) (by decide +kernel) rfl rfl rfl ⟨by decide +kernel, by decide +kernel, Nat.le_of_ble_eq_true rfl, Nat.le_of_ble_eq_true rfl, by decide⟩ hK hc
theorem q13_25 (L st : List Value) (h : xH) (a b : Int32) : rn 13 25 L (.int b :: .int a :: st) h = rn 13 26 L (.int (a + b) :: st) h := e_iadd (show x_fe 13 25 = some (.iadd, 1) by decide +kernel)
theorem q13_26 (L : List Value) (h : xH) (x : Int32) : rn 13 26 L [.int x] h = some (some (.int x), h) := e_iret (st := []) (ty := .int) (show x_fe 13 26 = some (.ireturn, 1) by decide +kernel) (by decide +kernel) rfl
theorem c14 (x0 : Nat) (h : xH) : cl 14 [.ref x0] h = rn 14 0 [.ref x0] [] h := rfl
theorem q14_0 (x : Nat) (st : List Value) (h : xH) : rn 14 0 [.ref x] st h = rn 14 1 [.ref x] (.ref x :: st) h := e_aload_n (show x_fe 14 0 = some (.aload_n 0, 1) by decide +kernel) rfl
theorem q14_1 (L st : List Value) (h : xH) (a : Nat) (hF : isF (h.2 a) 2 4 = true) : rn 14 1 L (.ref a :: st) h = rn 14 4 L (fld (h.2 a) 4 :: st) h := e_get (show x_fe 14 1 = some (.getfield 33, 3) by decide +kernel) (by decide +kernel) hF
theorem q14_4 (L st : List Value) (h : xH) (a : Nat) (hF : isF (h.2 a) 0 4 = true) : rn 14 4 L (.ref a :: st) h = rn 14 7 L (fld (h.2 a) 4 :: st) h := e_get (show x_fe 14 4 = some (.getfield 51, 3) by decide +kernel) (by decide +kernel) hF
theorem q14_7 (x : Nat) (st : List Value) (h : xH) : rn 14 7 [.ref x] st h = rn 14 8 [.ref x] (.ref x :: st) h := e_aload_n (show x_fe 14 7 = some (.aload_n 0, 1) by decide +kernel) rfl
theorem q14_8 (L st : List Value) (h : xH) (a : Nat) (hF : isF (h.2 a) 2 5 = true) : rn 14 8 L (.ref a :: st) h = rn 14 11 L (fld (h.2 a) 5 :: st) h := e_get (show x_fe 14 8 = some (.getfield 37, 3) by decide +kernel) (by decide +kernel) hF
theorem q14_11 (L st : List Value) (h : xH) (a : Nat) (hF : isF (h.2 a) 0 4 = true) : rn 14 11 L (.ref a :: st) h = rn 14 14 L (fld (h.2 a) 4 :: st) h := e_get (show x_fe 14 11 = some (.getfield 51, 3) by decide +kernel) (by decide +kernel) hF
theorem q14_14 (L st : List Value) (h : xH) (a b : Int32) : rn 14 14 L (.int b :: .int a :: st) h = rn 14 15 L (.int (a + b) :: st) h := e_iadd (show x_fe 14 14 = some (.iadd, 1) by decide +kernel)
theorem q14_15 (x : Nat) (st : List Value) (h : xH) : rn 14 15 [.ref x] st h = rn 14 16 [.ref x] (.ref x :: st) h := e_aload_n (show x_fe 14 15 = some (.aload_n 0, 1) by decide +kernel) rfl
theorem q14_16 (L st : List Value) (h : xH) (a : Nat) (hF : isF (h.2 a) 2 1 = true) : rn 14 16 L (.ref a :: st) h = rn 14 19 L (fld (h.2 a) 1 :: st) h := e_get (show x_fe 14 16 = some (.getfield 15, 3) by decide +kernel) (by decide +kernel) hF
theorem q14_19 (L st : List Value) (h : xH) (a b : Int32) : rn 14 19 L (.int b :: .int a :: st) h = rn 14 20 L (.int (a * b) :: st) h := e_imul (show x_fe 14 19 = some (.imul, 1) by decide +kernel)
theorem q14_20 (L : List Value) (h : xH) (x : Int32) : rn 14 20 L [.int x] h = some (some (.int x), h) := e_iret (st := []) (ty := .int) (show x_fe 14 20 = some (.ireturn, 1) by decide +kernel) (by decide +kernel) rfl
theorem c15 (x0 : Nat) (h : xH) : cl 15 [.ref x0] h = rn 15 0 [.ref x0] [] h := rfl
theorem q15_0 (x : Nat) (st : List Value) (h : xH) : rn 15 0 [.ref x] st h = rn 15 1 [.ref x] (.ref x :: st) h := e_aload_n (show x_fe 15 0 = some (.aload_n 0, 1) by decide +kernel) rfl
theorem q15_1 (L st : List Value) (h : xH) (a : Nat) (hF : isF (h.2 a) 2 4 = true) : rn 15 1 L (.ref a :: st) h = rn 15 4 L (fld (h.2 a) 4 :: st) h := e_get (show x_fe 15 1 = some (.getfield 33, 3) by decide +kernel) (by decide +kernel) hF
theorem q15_4 (L st : List Value) (h : xH) (a : Nat) (hF : isF (h.2 a) 0 5 = true) : rn 15 4 L (.ref a :: st) h = rn 15 7 L (fld (h.2 a) 5 :: st) h := e_get (show x_fe 15 4 = some (.getfield 68, 3) by decide +kernel) (by decide +kernel) hF
theorem q15_7 (x : Nat) (st : List Value) (h : xH) : rn 15 7 [.ref x] st h = rn 15 8 [.ref x] (.ref x :: st) h := e_aload_n (show x_fe 15 7 = some (.aload_n 0, 1) by decide +kernel) rfl
theorem q15_8 (L st : List Value) (h : xH) (a : Nat) (hF : isF (h.2 a) 2 5 = true) : rn 15 8 L (.ref a :: st) h = rn 15 11 L (fld (h.2 a) 5 :: st) h := e_get (show x_fe 15 8 = some (.getfield 37, 3) by decide +kernel) (by decide +kernel) hF
theorem q15_11 (L st : List Value) (h : xH) (a : Nat) (hF : isF (h.2 a) 0 5 = true) : rn 15 11 L (.ref a :: st) h = rn 15 14 L (fld (h.2 a) 5 :: st) h := e_get (show x_fe 15 11 = some (.getfield 68, 3) by decide +kernel) (by decide +kernel) hF
theorem q15_14 (L st : List Value) (h : xH) (a b : Int32) : rn 15 14 L (.int b :: .int a :: st) h = rn 15 15 L (.int (a + b) :: st) h := e_iadd (show x_fe 15 14 = some (.iadd, 1) by decide +kernel)
theorem q15_15 (L : List Value) (h : xH) (x : Int32) : rn 15 15 L [.int x] h = some (some (.int x), h) := e_iret (st := []) (ty := .int) (show x_fe 15 15 = some (.ireturn, 1) by decide +kernel) (by decide +kernel) rfl
theorem c16 (x0 : Nat) (h : xH) : cl 16 [.ref x0] h = rn 16 0 [.ref x0] [] h := rfl
theorem q16_0 (x : Nat) (st : List Value) (h : xH) : rn 16 0 [.ref x] st h = rn 16 1 [.ref x] (.ref x :: st) h := e_aload_n (show x_fe 16 0 = some (.aload_n 0, 1) by decide +kernel) rfl
theorem q16_1 (L st : List Value) (h : xH) (a : Nat) (hF : isF (h.2 a) 2 3 = true) : rn 16 1 L (.ref a :: st) h = rn 16 4 L (fld (h.2 a) 3 :: st) h := e_get (show x_fe 16 1 = some (.getfield 24, 3) by decide +kernel) (by decide +kernel) hF
theorem q16_4 (L st : List Value) (h : xH) (a : Nat) (hF : isF (h.2 a) 6 3 = true) : rn 16 4 L (.ref a :: st) h = rn 16 7 L (fld (h.2 a) 3 :: st) h := e_get (show x_fe 16 4 = some (.getfield 71, 3) by decide +kernel) (by decide +kernel) hF
theorem q16_7 (x : Nat) (st : List Value) (h : xH) : rn 16 7 [.ref x] st h = rn 16 8 [.ref x] (.ref x :: st) h := e_aload_n (show x_fe 16 7 = some (.aload_n 0, 1) by decide +kernel) rfl
theorem q16_8 (L st : List Value) (h : xH) (a : Nat) (hF : isF (h.2 a) 2 5 = true) : rn 16 8 L (.ref a :: st) h = rn 16 11 L (fld (h.2 a) 5 :: st) h := e_get (show x_fe 16 8 = some (.getfield 37, 3) by decide +kernel) (by decide +kernel) hF
theorem q16_11 (L st : List Value) (h : xH) (a : Nat) (hF : isF (h.2 a) 0 2 = true) : rn 16 11 L (.ref a :: st) h = rn 16 14 L (fld (h.2 a) 2 :: st) h := e_get (show x_fe 16 11 = some (.getfield 54, 3) by decide +kernel) (by decide +kernel) hF
theorem q16_14 (L st : List Value) (h : xH) (a b : Int32) : rn 16 14 L (.int b :: .int a :: st) h = rn 16 15 L (.int (a - b) :: st) h := e_isub (show x_fe 16 14 = some (.isub, 1) by decide +kernel)
theorem q16_15 (L : List Value) (h : xH) (x : Int32) : rn 16 15 L [.int x] h = some (some (.int x), h) := e_iret (st := []) (ty := .int) (show x_fe 16 15 = some (.ireturn, 1) by decide +kernel) (by decide +kernel) rfl
theorem c17 (x0 : Nat) (x1 : Int32) (h : xH) : cl 17 [.ref x0, .int x1] h = rn 17 0 [.ref x0, .int x1] [] h := rfl
theorem q17_0 (v0 : Value) (x : Int32) (st : List Value) (h : xH) : rn 17 0 [v0, .int x] st h = rn 17 1 [v0, .int x] (.int x :: st) h := e_iload_n (show x_fe 17 0 = some (.iload_n 1, 1) by decide +kernel) rfl
theorem q17_1 (v1 : Value) (x : Nat) (st : List Value) (h : xH) : rn 17 1 [.ref x, v1] st h = rn 17 2 [.ref x, v1] (.ref x :: st) h := e_aload_n (show x_fe 17 1 = some (.aload_n 0, 1) by decide +kernel) rfl
theorem q17_2 (L st : List Value) (h : xH) (a : Nat) (hF : isF (h.2 a) 2 4 = true) : rn 17 2 L (.ref a :: st) h = rn 17 5 L (fld (h.2 a) 4 :: st) h := e_get (show x_fe 17 2 = some (.getfield 33, 3) by decide +kernel) (by decide +kernel) hF
theorem q17_5 (L st : List Value) (h : xH) (a : Nat) (hF : isF (h.2 a) 0 2 = true) : rn 17 5 L (.ref a :: st) h = rn 17 8 L (fld (h.2 a) 2 :: st) h := e_get (show x_fe 17 5 = some (.getfield 54, 3) by decide +kernel) (by decide +kernel) hF
theorem q17_8 (L st : List Value) (h : xH) (x w : Int32) : rn 17 8 L (.int w :: .int x :: st) h = if x < w then rn 17 19 L st h else rn 17 11 L st h := e_icmp_lt (show x_fe 17 8 = some (.if_icmp .lt 11, 3) by decide +kernel) (by decide)
theorem q17_11 (v0 : Value) (x : Int32) (st : List Value) (h : xH) : rn 17 11 [v0, .int x] st h = rn 17 12 [v0, .int x] (.int x :: st) h := e_iload_n (show x_fe 17 11 = some (.iload_n 1, 1) by decide +kernel) rfl
theorem q17_12 (v1 : Value) (x : Nat) (st : List Value) (h : xH) : rn 17 12 [.ref x, v1] st h = rn 17 13 [.ref x, v1] (.ref x :: st) h := e_aload_n (show x_fe 17 12 = some (.aload_n 0, 1) by decide +kernel) rfl
theorem q17_13 (L : List Value) (s0 : Value) (h : xH)  (b : Nat) (hK : isK (h.2 b) 2 = true) (hc : (cl 16 [.ref b] h).isSome = true) : rn 17 13 L [.ref b, s0] h = rn 17 16 L (rv (cl 16 [.ref b] h) ++ [s0]) (rh (cl 16 [.ref b] h)) := e_callV (n := 0) (show x_fe 17 13 = some (.invokevirtual 61, 3) by decide +kernel) (by decide +kernel) rfl rfl rfl ⟨by decide +kernel, by decide +kernel, Nat.le_of_ble_eq_true rfl, Nat.le_of_ble_eq_true rfl, by decide⟩ hK hc
theorem q17_16 (L st : List Value) (h : xH) (x w : Int32) : rn 17 16 L (.int w :: .int x :: st) h = if x < w then rn 17 23 L st h else rn 17 19 L st h := e_icmp_lt (show x_fe 17 16 = some (.if_icmp .lt 7, 3) by decide +kernel) (by decide)
theorem q17_19 (L st : List Value) (h : xH) : rn 17 19 L st h = rn 17 20 L (.int 1 :: st) h := e_iconst (show x_fe 17 19 = some (.iconst 1, 1) by decide +kernel) (by decide)
theorem q17_20 (L st : List Value) (h : xH) : rn 17 20 L st h = rn 17 24 L st h := e_goto (show x_fe 17 20 = some (.goto 4, 3) by decide +kernel) (by decide)
theorem q17_23 (L st : List Value) (h : xH) : rn 17 23 L st h = rn 17 24 L (.int 0 :: st) h := e_iconst (show x_fe 17 23 = some (.iconst 0, 1) by decide +kernel) (by decide)
theorem q17_24 (L : List Value) (h : xH) (x : Int32) (hx : (x == 0 || x == 1) = true) : rn 17 24 L [.int x] h = some (some (.int x), h) := e_iret (st := []) (ty := .boolean) (show x_fe 17 24 = some (.ireturn, 1) by decide +kernel) (by decide +kernel) hx
theorem c18 (x0 : Nat) (x1 : Int32) (h : xH) : cl 18 [.ref x0, .int x1] h = rn 18 0 [.ref x0, .int x1] [] h := rfl
theorem q18_0 (v0 : Value) (x : Int32) (st : List Value) (h : xH) : rn 18 0 [v0, .int x] st h = rn 18 1 [v0, .int x] (.int x :: st) h := e_iload_n (show x_fe 18 0 = some (.iload_n 1, 1) by decide +kernel) rfl
theorem q18_1 (v1 : Value) (x : Nat) (st : List Value) (h : xH) : rn 18 1 [.ref x, v1] st h = rn 18 2 [.ref x, v1] (.ref x :: st) h := e_aload_n (show x_fe 18 1 = some (.aload_n 0, 1) by decide +kernel) rfl
theorem q18_2 (L st : List Value) (h : xH) (a : Nat) (hF : isF (h.2 a) 2 4 = true) : rn 18 2 L (.ref a :: st) h = rn 18 5 L (fld (h.2 a) 4 :: st) h := e_get (show x_fe 18 2 = some (.getfield 33, 3) by decide +kernel) (by decide +kernel) hF
theorem q18_5 (L st : List Value) (h : xH) (a : Nat) (hF : isF (h.2 a) 0 2 = true) : rn 18 5 L (.ref a :: st) h = rn 18 8 L (fld (h.2 a) 2 :: st) h := e_get (show x_fe 18 5 = some (.getfield 54, 3) by decide +kernel) (by decide +kernel) hF
theorem q18_8 (L st : List Value) (h : xH) (x w : Int32) : rn 18 8 L (.int w :: .int x :: st) h = if x < w then rn 18 11 L st h else rn 18 13 L st h := e_icmp_ge (show x_fe 18 8 = some (.if_icmp .ge 5, 3) by decide +kernel) (by decide)
theorem q18_11 (L st : List Value) (h : xH) : rn 18 11 L st h = rn 18 12 L (.int 0 :: st) h := e_iconst (show x_fe 18 11 = some (.iconst 0, 1) by decide +kernel) (by decide)
theorem q18_12 (L : List Value) (h : xH) (x : Int32) : rn 18 12 L [.int x] h = some (some (.int x), h) := e_iret (st := []) (ty := .int) (show x_fe 18 12 = some (.ireturn, 1) by decide +kernel) (by decide +kernel) rfl
theorem q18_13 (v1 : Value) (x : Nat) (st : List Value) (h : xH) : rn 18 13 [.ref x, v1] st h = rn 18 14 [.ref x, v1] (.ref x :: st) h := e_aload_n (show x_fe 18 13 = some (.aload_n 0, 1) by decide +kernel) rfl
theorem q18_14 (v0 : Value) (x : Int32) (st : List Value) (h : xH) : rn 18 14 [v0, .int x] st h = rn 18 15 [v0, .int x] (.int x :: st) h := e_iload_n (show x_fe 18 14 = some (.iload_n 1, 1) by decide +kernel) rfl
theorem q18_15 (L : List Value) (h : xH) (x0 : Int32) (b : Nat) (hK : isK (h.2 b) 2 = true) (hc : (cl 17 [.ref b, .int x0] h).isSome = true) : rn 18 15 L [.int x0, .ref b] h = rn 18 18 L (rv (cl 17 [.ref b, .int x0] h) ++ []) (rh (cl 17 [.ref b, .int x0] h)) := e_callV (n := 1) (show x_fe 18 15 = some (.invokevirtual 74, 3) by decide +kernel) (by decide +kernel) rfl rfl rfl ⟨by decide +kernel, by decide +kernel, Nat.le_of_ble_eq_true rfl, Nat.le_of_ble_eq_true rfl, by decide⟩ hK hc
theorem q18_18 (L st : List Value) (h : xH) (x : Int32) : rn 18 18 L (.int x :: st) h = if x = 0 then rn 18 25 L st h else rn 18 21 L st h := e_if_eq (show x_fe 18 18 = some (.ifCond .eq 7, 3) by decide +kernel) (by decide)
theorem q18_21 (L st : List Value) (h : xH) : rn 18 21 L st h = rn 18 22 L (.int 1 :: st) h := e_iconst (show x_fe 18 21 = some (.iconst 1, 1) by decide +kernel) (by decide)
theorem q18_22 (L st : List Value) (h : xH) : rn 18 22 L st h = rn 18 27 L st h := e_goto (show x_fe 18 22 = some (.goto 5, 3) by decide +kernel) (by decide)
theorem q18_25 (L st : List Value) (h : xH) : rn 18 25 L st h = rn 18 27 L (.int (-6) :: st) h := e_bipush (show x_fe 18 25 = some (.bipush (-6), 2) by decide +kernel) (by decide)
theorem q18_27 (L : List Value) (h : xH) (x : Int32) : rn 18 27 L [.int x] h = some (some (.int x), h) := e_iret (st := []) (ty := .int) (show x_fe 18 27 = some (.ireturn, 1) by decide +kernel) (by decide +kernel) rfl
theorem c19 (x0 : Nat) (x1 : Nat) (h : xH) : cl 19 [.ref x0, .ref x1] h = rn 19 0 [.ref x0, .ref x1] [] h := rfl
theorem q19_0 (v1 : Value) (x : Nat) (st : List Value) (h : xH) : rn 19 0 [.ref x, v1] st h = rn 19 1 [.ref x, v1] (.ref x :: st) h := e_aload_n (show x_fe 19 0 = some (.aload_n 0, 1) by decide +kernel) rfl
theorem q19_1 (L : List Value) (h : xH)  (b : Nat) (hK : isK (h.2 b) 2 = true) (hc : (cl 12 [.ref b] h).isSome = true) : rn 19 1 L [.ref b] h = rn 19 4 L (rv (cl 12 [.ref b] h) ++ []) (rh (cl 12 [.ref b] h)) := e_callV (n := 0) (show x_fe 19 1 = some (.invokevirtual 78, 3) by decide +kernel) (by decide +kernel) rfl rfl rfl ⟨by decide +kernel, by decide +kernel, Nat.le_of_ble_eq_true rfl, Nat.le_of_ble_eq_true rfl, by decide⟩ hK hc
theorem q19_4 (v1 : Value) (x : Nat) (st : List Value) (h : xH) : rn 19 4 [.ref x, v1] st h = rn 19 5 [.ref x, v1] (.ref x :: st) h := e_aload_n (show x_fe 19 4 = some (.aload_n 0, 1) by decide +kernel) rfl
theorem q19_5 (L st : List Value) (h : xH) (a : Nat) (hF : isF (h.2 a) 2 3 = true) : rn 19 5 L (.ref a :: st) h = rn 19 8 L (fld (h.2 a) 3 :: st) h := e_get (show x_fe 19 5 = some (.getfield 24, 3) by decide +kernel) (by decide +kernel) hF
theorem q19_8 (L st : List Value) (h : xH) (a : Nat) (hF : isF (h.2 a) 6 3 = true) : rn 19 8 L (.ref a :: st) h = rn 19 11 L (fld (h.2 a) 3 :: st) h := e_get (show x_fe 19 8 = some (.getfield 71, 3) by decide +kernel) (by decide +kernel) hF
theorem q19_11 (L st : List Value) (h : xH) (x w : Int32) : rn 19 11 L (.int w :: .int x :: st) h = if x < w then rn 19 17 L st h else rn 19 14 L st h := e_icmp_lt (show x_fe 19 11 = some (.if_icmp .lt 6, 3) by decide +kernel) (by decide)
theorem q19_14 (L st : List Value) (h : xH) : rn 19 14 L st h = rn 19 16 L (.int (-6) :: st) h := e_bipush (show x_fe 19 14 = some (.bipush (-6), 2) by decide +kernel) (by decide)
theorem q19_16 (L : List Value) (h : xH) (x : Int32) : rn 19 16 L [.int x] h = some (some (.int x), h) := e_iret (st := []) (ty := .int) (show x_fe 19 16 = some (.ireturn, 1) by decide +kernel) (by decide +kernel) rfl
theorem q19_17 (v0 : Value) (x : Nat) (st : List Value) (h : xH) : rn 19 17 [v0, .ref x] st h = rn 19 18 [v0, .ref x] (.ref x :: st) h := e_aload_n (show x_fe 19 17 = some (.aload_n 1, 1) by decide +kernel) rfl
theorem q19_17N (v0 : Value) (st : List Value) (h : xH) : rn 19 17 [v0, .null] st h = rn 19 18 [v0, .null] (.null :: st) h := e_aload_nN (show x_fe 19 17 = some (.aload_n 1, 1) by decide +kernel) rfl
theorem q19_18 (L st : List Value) (h : xH) (a : Nat) (hF : isF (h.2 a) 0 0 = true) : rn 19 18 L (.ref a :: st) h = rn 19 21 L (fld (h.2 a) 0 :: st) h := e_get (show x_fe 19 18 = some (.getfield 81, 3) by decide +kernel) (by decide +kernel) hF
theorem q19_21 (L st : List Value) (h : xH) (x : Int32) : rn 19 21 L (.int x :: st) h = if x = 0 then rn 19 34 L st h else rn 19 24 L st h := e_if_eq (show x_fe 19 21 = some (.ifCond .eq 13, 3) by decide +kernel) (by decide)
theorem q19_24 (v1 : Value) (x : Nat) (st : List Value) (h : xH) : rn 19 24 [.ref x, v1] st h = rn 19 25 [.ref x, v1] (.ref x :: st) h := e_aload_n (show x_fe 19 24 = some (.aload_n 0, 1) by decide +kernel) rfl
theorem q19_25 (L st : List Value) (h : xH) (a : Nat) (hF : isF (h.2 a) 2 4 = true) : rn 19 25 L (.ref a :: st) h = rn 19 28 L (fld (h.2 a) 4 :: st) h := e_get (show x_fe 19 25 = some (.getfield 33, 3) by decide +kernel) (by decide +kernel) hF
theorem q19_28 (L st : List Value) (h : xH) (a : Nat) (hF : isF (h.2 a) 0 2 = true) : rn 19 28 L (.ref a :: st) h = rn 19 31 L (fld (h.2 a) 2 :: st) h := e_get (show x_fe 19 28 = some (.getfield 54, 3) by decide +kernel) (by decide +kernel) hF
theorem q19_31 (L st : List Value) (h : xH) : rn 19 31 L st h = rn 19 40 L st h := e_goto (show x_fe 19 31 = some (.goto 9, 3) by decide +kernel) (by decide)
theorem q19_34 (v1 : Value) (x : Nat) (st : List Value) (h : xH) : rn 19 34 [.ref x, v1] st h = rn 19 35 [.ref x, v1] (.ref x :: st) h := e_aload_n (show x_fe 19 34 = some (.aload_n 0, 1) by decide +kernel) rfl
theorem q19_35 (L : List Value) (h : xH)  (b : Nat) (hK : isK (h.2 b) 2 = true) (hc : (cl 16 [.ref b] h).isSome = true) : rn 19 35 L [.ref b] h = rn 19 38 L (rv (cl 16 [.ref b] h) ++ []) (rh (cl 16 [.ref b] h)) := e_callV (n := 0) (show x_fe 19 35 = some (.invokevirtual 61, 3) by decide +kernel) (by decide +kernel) rfl rfl rfl ⟨by decide +kernel, by decide +kernel, Nat.le_of_ble_eq_true rfl, Nat.le_of_ble_eq_true rfl, by decide⟩ hK hc
theorem q19_38 (L st : List Value) (h : xH) : rn 19 38 L st h = rn 19 39 L (.int 1 :: st) h := e_iconst (show x_fe 19 38 = some (.iconst 1, 1) by decide +kernel) (by decide)
theorem q19_39 (L st : List Value) (h : xH) (a b : Int32) : rn 19 39 L (.int b :: .int a :: st) h = rn 19 40 L (.int (a - b) :: st) h := e_isub (show x_fe 19 39 = some (.isub, 1) by decide +kernel)
theorem q19_40 (L : List Value) (h : xH) (x : Int32) : rn 19 40 L [.int x] h = some (some (.int x), h) := e_iret (st := []) (ty := .int) (show x_fe 19 40 = some (.ireturn, 1) by decide +kernel) (by decide +kernel) rfl
theorem c20 (x0 : Nat) (x1 : Int32) (h : xH) : cl 20 [.ref x0, .int x1] h = rn 20 0 [.ref x0, .int x1] [] h := rfl
theorem q20_0 (v1 : Value) (x : Nat) (st : List Value) (h : xH) : rn 20 0 [.ref x, v1] st h = rn 20 1 [.ref x, v1] (.ref x :: st) h := e_aload_n (show x_fe 20 0 = some (.aload_n 0, 1) by decide +kernel) rfl
theorem q20_1 (L st : List Value) (h : xH) (a : Nat) (hF : isF (h.2 a) 2 4 = true) : rn 20 1 L (.ref a :: st) h = rn 20 4 L (fld (h.2 a) 4 :: st) h := e_get (show x_fe 20 1 = some (.getfield 33, 3) by decide +kernel) (by decide +kernel) hF
theorem q20_4 (L st : List Value) (h : xH) (a : Nat) (hF : isF (h.2 a) 0 1 = true) : rn 20 4 L (.ref a :: st) h = rn 20 7 L (fld (h.2 a) 1 :: st) h := e_get (show x_fe 20 4 = some (.getfield 85, 3) by decide +kernel) (by decide +kernel) hF
theorem q20_7 (v1 : Value) (x : Nat) (st : List Value) (h : xH) : rn 20 7 [.ref x, v1] st h = rn 20 8 [.ref x, v1] (.ref x :: st) h := e_aload_n (show x_fe 20 7 = some (.aload_n 0, 1) by decide +kernel) rfl
theorem q20_8 (L st : List Value) (h : xH) (a : Nat) (hF : isF (h.2 a) 2 3 = true) : rn 20 8 L (.ref a :: st) h = rn 20 11 L (fld (h.2 a) 3 :: st) h := e_get (show x_fe 20 8 = some (.getfield 24, 3) by decide +kernel) (by decide +kernel) hF
theorem q20_11 (v0 : Value) (x : Int32) (st : List Value) (h : xH) : rn 20 11 [v0, .int x] st h = rn 20 12 [v0, .int x] (.int x :: st) h := e_iload_n (show x_fe 20 11 = some (.iload_n 1, 1) by decide +kernel) rfl
theorem q20_12 (L : List Value) (s0 : Value) (h : xH) (x0 : Int32) (b : Nat) (hK : isK (h.2 b) 6 = true) (hc : (cl 55 [.ref b, .int x0] h).isSome = true) : rn 20 12 L [.int x0, .ref b, s0] h = rn 20 15 L (rv (cl 55 [.ref b, .int x0] h) ++ [s0]) (rh (cl 55 [.ref b, .int x0] h)) := e_callV (n := 1) (show x_fe 20 12 = some (.invokevirtual 57, 3) by decide +kernel) (by decide +kernel) rfl rfl rfl ⟨by decide +kernel, by decide +kernel, Nat.le_of_ble_eq_true rfl, Nat.le_of_ble_eq_true rfl, by decide⟩ hK hc
theorem q20_15 (L st : List Value) (h : xH) (a b : Int32) : rn 20 15 L (.int b :: .int a :: st) h = rn 20 16 L (.int (a + b) :: st) h := e_iadd (show x_fe 20 15 = some (.iadd, 1) by decide +kernel)
theorem q20_16 (v1 : Value) (x : Nat) (st : List Value) (h : xH) : rn 20 16 [.ref x, v1] st h = rn 20 17 [.ref x, v1] (.ref x :: st) h := e_aload_n (show x_fe 20 16 = some (.aload_n 0, 1) by decide +kernel) rfl
theorem q20_17 (L st : List Value) (h : xH) (a : Nat) (hF : isF (h.2 a) 2 0 = true) : rn 20 17 L (.ref a :: st) h = rn 20 20 L (fld (h.2 a) 0 :: st) h := e_get (show x_fe 20 17 = some (.getfield 9, 3) by decide +kernel) (by decide +kernel) hF
theorem q20_20 (L : List Value) (h : xH) (x0 : Int32) (x1 : Int32) (hc : (cl 85 [.int x0, .int x1] h).isSome = true) : rn 20 20 L [.int x1, .int x0] h = rn 20 23 L (rv (cl 85 [.int x0, .int x1] h) ++ []) (rh (cl 85 [.int x0, .int x1] h)) := e_callS (n := 2) (show x_fe 20 20 = some (.invokestatic 88, 3) by decide +kernel) (by decide +kernel) (by decide +kernel) rfl rfl rfl ⟨by decide +kernel, by decide +kernel, Nat.le_of_ble_eq_true rfl, Nat.le_of_ble_eq_true rfl, by decide⟩ hc
theorem q20_23 (L : List Value) (h : xH) (x : Int32) : rn 20 23 L [.int x] h = some (some (.int x), h) := e_iret (st := []) (ty := .int) (show x_fe 20 23 = some (.ireturn, 1) by decide +kernel) (by decide +kernel) rfl
theorem c21 (x0 : Nat) (x1 : Int32) (h : xH) : cl 21 [.ref x0, .int x1] h = rn 21 0 [.ref x0, .int x1] [] h := rfl
theorem q21_0 (v1 : Value) (x : Nat) (st : List Value) (h : xH) : rn 21 0 [.ref x, v1] st h = rn 21 1 [.ref x, v1] (.ref x :: st) h := e_aload_n (show x_fe 21 0 = some (.aload_n 0, 1) by decide +kernel) rfl
theorem q21_1 (L st : List Value) (h : xH) (a : Nat) (hF : isF (h.2 a) 2 5 = true) : rn 21 1 L (.ref a :: st) h = rn 21 4 L (fld (h.2 a) 5 :: st) h := e_get (show x_fe 21 1 = some (.getfield 37, 3) by decide +kernel) (by decide +kernel) hF
theorem q21_4 (L st : List Value) (h : xH) (a : Nat) (hF : isF (h.2 a) 0 1 = true) : rn 21 4 L (.ref a :: st) h = rn 21 7 L (fld (h.2 a) 1 :: st) h := e_get (show x_fe 21 4 = some (.getfield 85, 3) by decide +kernel) (by decide +kernel) hF
theorem q21_7 (v1 : Value) (x : Nat) (st : List Value) (h : xH) : rn 21 7 [.ref x, v1] st h = rn 21 8 [.ref x, v1] (.ref x :: st) h := e_aload_n (show x_fe 21 7 = some (.aload_n 0, 1) by decide +kernel) rfl
theorem q21_8 (L st : List Value) (h : xH) (a : Nat) (hF : isF (h.2 a) 2 3 = true) : rn 21 8 L (.ref a :: st) h = rn 21 11 L (fld (h.2 a) 3 :: st) h := e_get (show x_fe 21 8 = some (.getfield 24, 3) by decide +kernel) (by decide +kernel) hF
theorem q21_11 (v0 : Value) (x : Int32) (st : List Value) (h : xH) : rn 21 11 [v0, .int x] st h = rn 21 12 [v0, .int x] (.int x :: st) h := e_iload_n (show x_fe 21 11 = some (.iload_n 1, 1) by decide +kernel) rfl
theorem q21_12 (L : List Value) (s0 : Value) (h : xH) (x0 : Int32) (b : Nat) (hK : isK (h.2 b) 6 = true) (hc : (cl 57 [.ref b, .int x0] h).isSome = true) : rn 21 12 L [.int x0, .ref b, s0] h = rn 21 15 L (rv (cl 57 [.ref b, .int x0] h) ++ [s0]) (rh (cl 57 [.ref b, .int x0] h)) := e_callV (n := 1) (show x_fe 21 12 = some (.invokevirtual 65, 3) by decide +kernel) (by decide +kernel) rfl rfl rfl ⟨by decide +kernel, by decide +kernel, Nat.le_of_ble_eq_true rfl, Nat.le_of_ble_eq_true rfl, by decide⟩ hK hc
theorem q21_15 (L st : List Value) (h : xH) (a b : Int32) : rn 21 15 L (.int b :: .int a :: st) h = rn 21 16 L (.int (a - b) :: st) h := e_isub (show x_fe 21 15 = some (.isub, 1) by decide +kernel)
theorem q21_16 (v1 : Value) (x : Nat) (st : List Value) (h : xH) : rn 21 16 [.ref x, v1] st h = rn 21 17 [.ref x, v1] (.ref x :: st) h := e_aload_n (show x_fe 21 16 = some (.aload_n 0, 1) by decide +kernel) rfl
theorem q21_17 (L st : List Value) (h : xH) (a : Nat) (hF : isF (h.2 a) 2 0 = true) : rn 21 17 L (.ref a :: st) h = rn 21 20 L (fld (h.2 a) 0 :: st) h := e_get (show x_fe 21 17 = some (.getfield 9, 3) by decide +kernel) (by decide +kernel) hF
theorem q21_20 (L : List Value) (h : xH) (x0 : Int32) (x1 : Int32) (hc : (cl 85 [.int x0, .int x1] h).isSome = true) : rn 21 20 L [.int x1, .int x0] h = rn 21 23 L (rv (cl 85 [.int x0, .int x1] h) ++ []) (rh (cl 85 [.int x0, .int x1] h)) := e_callS (n := 2) (show x_fe 21 20 = some (.invokestatic 88, 3) by decide +kernel) (by decide +kernel) (by decide +kernel) rfl rfl rfl ⟨by decide +kernel, by decide +kernel, Nat.le_of_ble_eq_true rfl, Nat.le_of_ble_eq_true rfl, by decide⟩ hc
theorem q21_23 (L : List Value) (h : xH) (x : Int32) : rn 21 23 L [.int x] h = some (some (.int x), h) := e_iret (st := []) (ty := .int) (show x_fe 21 23 = some (.ireturn, 1) by decide +kernel) (by decide +kernel) rfl
theorem c22 (x0 : Nat) (x1 : Int32) (h : xH) : cl 22 [.ref x0, .int x1] h = rn 22 0 [.ref x0, .int x1] [] h := rfl
theorem q22_0 (v0 : Value) (x : Int32) (st : List Value) (h : xH) : rn 22 0 [v0, .int x] st h = rn 22 1 [v0, .int x] (.int x :: st) h := e_iload_n (show x_fe 22 0 = some (.iload_n 1, 1) by decide +kernel) rfl
theorem q22_1 (v1 : Value) (x : Nat) (st : List Value) (h : xH) : rn 22 1 [.ref x, v1] st h = rn 22 2 [.ref x, v1] (.ref x :: st) h := e_aload_n (show x_fe 22 1 = some (.aload_n 0, 1) by decide +kernel) rfl
theorem q22_2 (L st : List Value) (h : xH) (a : Nat) (hF : isF (h.2 a) 2 4 = true) : rn 22 2 L (.ref a :: st) h = rn 22 5 L (fld (h.2 a) 4 :: st) h := e_get (show x_fe 22 2 = some (.getfield 33, 3) by decide +kernel) (by decide +kernel) hF
theorem q22_5 (L st : List Value) (h : xH) (a : Nat) (hF : isF (h.2 a) 0 2 = true) : rn 22 5 L (.ref a :: st) h = rn 22 8 L (fld (h.2 a) 2 :: st) h := e_get (show x_fe 22 5 = some (.getfield 54, 3) by decide +kernel) (by decide +kernel) hF
theorem q22_8 (L st : List Value) (h : xH) (x w : Int32) : rn 22 8 L (.int w :: .int x :: st) h = if x < w then rn 22 11 L st h else rn 22 19 L st h := e_icmp_ge (show x_fe 22 8 = some (.if_icmp .ge 11, 3) by decide +kernel) (by decide)
theorem q22_11 (v1 : Value) (x : Nat) (st : List Value) (h : xH) : rn 22 11 [.ref x, v1] st h = rn 22 12 [.ref x, v1] (.ref x :: st) h := e_aload_n (show x_fe 22 11 = some (.aload_n 0, 1) by decide +kernel) rfl
theorem q22_12 (v0 : Value) (x : Int32) (st : List Value) (h : xH) : rn 22 12 [v0, .int x] st h = rn 22 13 [v0, .int x] (.int x :: st) h := e_iload_n (show x_fe 22 12 = some (.iload_n 1, 1) by decide +kernel) rfl
theorem q22_13 (L : List Value) (h : xH) (x0 : Int32) (b : Nat) (hK : isK (h.2 b) 2 = true) (hc : (cl 20 [.ref b, .int x0] h).isSome = true) : rn 22 13 L [.int x0, .ref b] h = rn 22 16 L (rv (cl 20 [.ref b, .int x0] h) ++ []) (rh (cl 20 [.ref b, .int x0] h)) := e_callV (n := 1) (show x_fe 22 13 = some (.invokevirtual 92, 3) by decide +kernel) (by decide +kernel) rfl rfl rfl ⟨by decide +kernel, by decide +kernel, Nat.le_of_ble_eq_true rfl, Nat.le_of_ble_eq_true rfl, by decide⟩ hK hc
theorem q22_16 (L st : List Value) (h : xH) : rn 22 16 L st h = rn 22 24 L st h := e_goto (show x_fe 22 16 = some (.goto 8, 3) by decide +kernel) (by decide)
theorem q22_19 (v1 : Value) (x : Nat) (st : List Value) (h : xH) : rn 22 19 [.ref x, v1] st h = rn 22 20 [.ref x, v1] (.ref x :: st) h := e_aload_n (show x_fe 22 19 = some (.aload_n 0, 1) by decide +kernel) rfl
theorem q22_20 (v0 : Value) (x : Int32) (st : List Value) (h : xH) : rn 22 20 [v0, .int x] st h = rn 22 21 [v0, .int x] (.int x :: st) h := e_iload_n (show x_fe 22 20 = some (.iload_n 1, 1) by decide +kernel) rfl
theorem q22_21 (L : List Value) (h : xH) (x0 : Int32) (b : Nat) (hK : isK (h.2 b) 2 = true) (hc : (cl 21 [.ref b, .int x0] h).isSome = true) : rn 22 21 L [.int x0, .ref b] h = rn 22 24 L (rv (cl 21 [.ref b, .int x0] h) ++ []) (rh (cl 21 [.ref b, .int x0] h)) := e_callV (n := 1) (show x_fe 22 21 = some (.invokevirtual 95, 3) by decide +kernel) (by decide +kernel) rfl rfl rfl ⟨by decide +kernel, by decide +kernel, Nat.le_of_ble_eq_true rfl, Nat.le_of_ble_eq_true rfl, by decide⟩ hK hc
theorem q22_24 (L : List Value) (h : xH) (x : Int32) : rn 22 24 L [.int x] h = some (some (.int x), h) := e_iret (st := []) (ty := .int) (show x_fe 22 24 = some (.ireturn, 1) by decide +kernel) (by decide +kernel) rfl
theorem c23 (x0 : Nat) (x1 : Int32) (h : xH) : cl 23 [.ref x0, .int x1] h = rn 23 0 [.ref x0, .int x1] [] h := rfl
theorem q23_0 (v1 : Value) (x : Nat) (st : List Value) (h : xH) : rn 23 0 [.ref x, v1] st h = rn 23 1 [.ref x, v1] (.ref x :: st) h := e_aload_n (show x_fe 23 0 = some (.aload_n 0, 1) by decide +kernel) rfl
theorem q23_1 (v0 : Value) (x : Int32) (st : List Value) (h : xH) : rn 23 1 [v0, .int x] st h = rn 23 2 [v0, .int x] (.int x :: st) h := e_iload_n (show x_fe 23 1 = some (.iload_n 1, 1) by decide +kernel) rfl
theorem q23_2 (L : List Value) (h : xH) (x0 : Int32) (b : Nat) (hK : isK (h.2 b) 2 = true) (hc : (cl 22 [.ref b, .int x0] h).isSome = true) : rn 23 2 L [.int x0, .ref b] h = rn 23 5 L (rv (cl 22 [.ref b, .int x0] h) ++ []) (rh (cl 22 [.ref b, .int x0] h)) := e_callV (n := 1) (show x_fe 23 2 = some (.invokevirtual 98, 3) by decide +kernel) (by decide +kernel) rfl rfl rfl ⟨by decide +kernel, by decide +kernel, Nat.le_of_ble_eq_true rfl, Nat.le_of_ble_eq_true rfl, by decide⟩ hK hc
theorem q23_5 (v1 : Value) (x : Nat) (st : List Value) (h : xH) : rn 23 5 [.ref x, v1] st h = rn 23 6 [.ref x, v1] (.ref x :: st) h := e_aload_n (show x_fe 23 5 = some (.aload_n 0, 1) by decide +kernel) rfl
theorem q23_6 (L st : List Value) (h : xH) (a : Nat) (hF : isF (h.2 a) 2 3 = true) : rn 23 6 L (.ref a :: st) h = rn 23 9 L (fld (h.2 a) 3 :: st) h := e_get (show x_fe 23 6 = some (.getfield 24, 3) by decide +kernel) (by decide +kernel) hF
theorem q23_9 (v0 : Value) (x : Int32) (st : List Value) (h : xH) : rn 23 9 [v0, .int x] st h = rn 23 10 [v0, .int x] (.int x :: st) h := e_iload_n (show x_fe 23 9 = some (.iload_n 1, 1) by decide +kernel) rfl
theorem q23_10 (L : List Value) (s0 : Value) (h : xH) (x0 : Int32) (b : Nat) (hK : isK (h.2 b) 6 = true) (hc : (cl 54 [.ref b, .int x0] h).isSome = true) : rn 23 10 L [.int x0, .ref b, s0] h = rn 23 13 L (rv (cl 54 [.ref b, .int x0] h) ++ [s0]) (rh (cl 54 [.ref b, .int x0] h)) := e_callV (n := 1) (show x_fe 23 10 = some (.invokevirtual 101, 3) by decide +kernel) (by decide +kernel) rfl rfl rfl ⟨by decide +kernel, by decide +kernel, Nat.le_of_ble_eq_true rfl, Nat.le_of_ble_eq_true rfl, by decide⟩ hK hc
theorem q23_13 (L st : List Value) (h : xH) (a b : Int32) : rn 23 13 L (.int b :: .int a :: st) h = rn 23 14 L (.int (a + b) :: st) h := e_iadd (show x_fe 23 13 = some (.iadd, 1) by decide +kernel)
theorem q23_14 (v1 : Value) (x : Nat) (st : List Value) (h : xH) : rn 23 14 [.ref x, v1] st h = rn 23 15 [.ref x, v1] (.ref x :: st) h := e_aload_n (show x_fe 23 14 = some (.aload_n 0, 1) by decide +kernel) rfl
theorem q23_15 (L st : List Value) (h : xH) (a : Nat) (hF : isF (h.2 a) 2 0 = true) : rn 23 15 L (.ref a :: st) h = rn 23 18 L (fld (h.2 a) 0 :: st) h := e_get (show x_fe 23 15 = some (.getfield 9, 3) by decide +kernel) (by decide +kernel) hF
theorem q23_18 (L : List Value) (h : xH) (x0 : Int32) (x1 : Int32) (hc : (cl 85 [.int x0, .int x1] h).isSome = true) : rn 23 18 L [.int x1, .int x0] h = rn 23 21 L (rv (cl 85 [.int x0, .int x1] h) ++ []) (rh (cl 85 [.int x0, .int x1] h)) := e_callS (n := 2) (show x_fe 23 18 = some (.invokestatic 88, 3) by decide +kernel) (by decide +kernel) (by decide +kernel) rfl rfl rfl ⟨by decide +kernel, by decide +kernel, Nat.le_of_ble_eq_true rfl, Nat.le_of_ble_eq_true rfl, by decide⟩ hc
theorem q23_21 (L : List Value) (h : xH) (x : Int32) : rn 23 21 L [.int x] h = some (some (.int x), h) := e_iret (st := []) (ty := .int) (show x_fe 23 21 = some (.ireturn, 1) by decide +kernel) (by decide +kernel) rfl
theorem c24 (x0 : Nat) (x1 : Int32) (h : xH) : cl 24 [.ref x0, .int x1] h = rn 24 0 [.ref x0, .int x1, unk, unk, unk, unk] [] h := rfl
theorem q24_0 (L st : List Value) (h : xH) : rn 24 0 L st h = rn 24 1 L (.int 0 :: st) h := e_iconst (show x_fe 24 0 = some (.iconst 0, 1) by decide +kernel) (by decide)
theorem q24_1 (v0 v2 v3 v4 v5 : Value) (w : Int32) (x : Int32) (st : List Value) (h : xH) : rn 24 1 [v0, .int w, v2, v3, v4, v5] (.int x :: st) h = rn 24 2 [v0, .int w, .int x, v3, v4, v5] st h := e_istore_n (show x_fe 24 1 = some (.istore_n 2, 1) by decide +kernel) (Nat.le_of_ble_eq_true rfl) rfl
theorem q24_2 (v1 v2 v3 v4 v5 : Value) (x : Nat) (st : List Value) (h : xH) : rn 24 2 [.ref x, v1, v2, v3, v4, v5] st h = rn 24 3 [.ref x, v1, v2, v3, v4, v5] (.ref x :: st) h := e_aload_n (show x_fe 24 2 = some (.aload_n 0, 1) by decide +kernel) rfl
theorem q24_3 (v0 v2 v3 v4 v5 : Value) (x : Int32) (st : List Value) (h : xH) : rn 24 3 [v0, .int x, v2, v3, v4, v5] st h = rn 24 4 [v0, .int x, v2, v3, v4, v5] (.int x :: st) h := e_iload_n (show x_fe 24 3 = some (.iload_n 1, 1) by decide +kernel) rfl
theorem q24_4 (L : List Value) (h : xH) (x0 : Int32) (b : Nat) (hK : isK (h.2 b) 2 = true) (hc : (cl 22 [.ref b, .int x0] h).isSome = true) : rn 24 4 L [.int x0, .ref b] h = rn 24 7 L (rv (cl 22 [.ref b, .int x0] h) ++ []) (rh (cl 22 [.ref b, .int x0] h)) := e_callV (n := 1) (show x_fe 24 4 = some (.invokevirtual 98, 3) by decide +kernel) (by decide +kernel) rfl rfl rfl ⟨by decide +kernel, by decide +kernel, Nat.le_of_ble_eq_true rfl, Nat.le_of_ble_eq_true rfl, by decide⟩ hK hc
theorem q24_7 (v0 v1 v3 v4 v5 : Value) (w : Int32) (x : Int32) (st : List Value) (h : xH) : rn 24 7 [v0, v1, .int w, v3, v4, v5] (.int x :: st) h = rn 24 8 [v0, v1, .int w, .int x, v4, v5] st h := e_istore_n (show x_fe 24 7 = some (.istore_n 3, 1) by decide +kernel) (Nat.le_of_ble_eq_true rfl) rfl
theorem q24_8 (v1 v2 v3 v4 v5 : Value) (x : Nat) (st : List Value) (h : xH) : rn 24 8 [.ref x, v1, v2, v3, v4, v5] st h = rn 24 9 [.ref x, v1, v2, v3, v4, v5] (.ref x :: st) h := e_aload_n (show x_fe 24 8 = some (.aload_n 0, 1) by decide +kernel) rfl
theorem q24_9 (L st : List Value) (h : xH) (a : Nat) (hF : isF (h.2 a) 2 3 = true) : rn 24 9 L (.ref a :: st) h = rn 24 12 L (fld (h.2 a) 3 :: st) h := e_get (show x_fe 24 9 = some (.getfield 24, 3) by decide +kernel) (by decide +kernel) hF
theorem q24_12 (v0 v2 v3 v4 v5 : Value) (x : Int32) (st : List Value) (h : xH) : rn 24 12 [v0, .int x, v2, v3, v4, v5] st h = rn 24 13 [v0, .int x, v2, v3, v4, v5] (.int x :: st) h := e_iload_n (show x_fe 24 12 = some (.iload_n 1, 1) by decide +kernel) rfl
theorem q24_13 (L : List Value) (h : xH) (x0 : Int32) (b : Nat) (hK : isK (h.2 b) 6 = true) (hc : (cl 54 [.ref b, .int x0] h).isSome = true) : rn 24 13 L [.int x0, .ref b] h = rn 24 16 L (rv (cl 54 [.ref b, .int x0] h) ++ []) (rh (cl 54 [.ref b, .int x0] h)) := e_callV (n := 1) (show x_fe 24 13 = some (.invokevirtual 101, 3) by decide +kernel) (by decide +kernel) rfl rfl rfl ⟨by decide +kernel, by decide +kernel, Nat.le_of_ble_eq_true rfl, Nat.le_of_ble_eq_true rfl, by decide⟩ hK hc
theorem q24_16 (v0 v1 v2 v4 v5 : Value) (w : Int32) (x : Int32) (st : List Value) (h : xH) : rn 24 16 [v0, v1, v2, .int w, v4, v5] (.int x :: st) h = rn 24 18 [v0, v1, v2, .int w, .int x, v5] st h := e_istore (show x_fe 24 16 = some (.istore 4, 2) by decide +kernel) (Nat.le_of_ble_eq_true rfl) rfl
theorem q24_18 (L st : List Value) (h : xH) : rn 24 18 L st h = rn 24 19 L (.int 0 :: st) h := e_iconst (show x_fe 24 18 = some (.iconst 0, 1) by decide +kernel) (by decide)
theorem q24_19 (v0 v1 v2 v3 v5 : Value) (w : Int32) (x : Int32) (st : List Value) (h : xH) : rn 24 19 [v0, v1, v2, v3, .int w, v5] (.int x :: st) h = rn 24 21 [v0, v1, v2, v3, .int w, .int x] st h := e_istore (show x_fe 24 19 = some (.istore 5, 2) by decide +kernel) (Nat.le_of_ble_eq_true rfl) rfl
theorem q24_21 (v0 v1 v2 v3 v4 : Value) (x : Int32) (st : List Value) (h : xH) : rn 24 21 [v0, v1, v2, v3, v4, .int x] st h = rn 24 23 [v0, v1, v2, v3, v4, .int x] (.int x :: st) h := e_iload (show x_fe 24 21 = some (.iload 5, 2) by decide +kernel) rfl
theorem q24_23 (v0 v1 v2 v3 v5 : Value) (x : Int32) (st : List Value) (h : xH) : rn 24 23 [v0, v1, v2, v3, .int x, v5] st h = rn 24 25 [v0, v1, v2, v3, .int x, v5] (.int x :: st) h := e_iload (show x_fe 24 23 = some (.iload 4, 2) by decide +kernel) rfl
theorem q24_25 (L st : List Value) (h : xH) (x w : Int32) : rn 24 25 L (.int w :: .int x :: st) h = if x < w then rn 24 28 L st h else rn 24 51 L st h := e_icmp_ge (show x_fe 24 25 = some (.if_icmp .ge 26, 3) by decide +kernel) (by decide)
theorem q24_28 (v0 v1 v2 v4 v5 : Value) (x : Int32) (st : List Value) (h : xH) : rn 24 28 [v0, v1, v2, .int x, v4, v5] st h = rn 24 29 [v0, v1, v2, .int x, v4, v5] (.int x :: st) h := e_iload_n (show x_fe 24 28 = some (.iload_n 3, 1) by decide +kernel) rfl
theorem q24_29 (v0 v1 v2 v3 v4 : Value) (x : Int32) (st : List Value) (h : xH) : rn 24 29 [v0, v1, v2, v3, v4, .int x] st h = rn 24 31 [v0, v1, v2, v3, v4, .int x] (.int x :: st) h := e_iload (show x_fe 24 29 = some (.iload 5, 2) by decide +kernel) rfl
theorem q24_31 (L st : List Value) (h : xH) (a b : Int32) : rn 24 31 L (.int b :: .int a :: st) h = rn 24 32 L (.int (a + b) :: st) h := e_iadd (show x_fe 24 31 = some (.iadd, 1) by decide +kernel)
theorem q24_32 (v1 v2 v3 v4 v5 : Value) (x : Nat) (st : List Value) (h : xH) : rn 24 32 [.ref x, v1, v2, v3, v4, v5] st h = rn 24 33 [.ref x, v1, v2, v3, v4, v5] (.ref x :: st) h := e_aload_n (show x_fe 24 32 = some (.aload_n 0, 1) by decide +kernel) rfl
theorem q24_33 (L st : List Value) (h : xH) (a : Nat) (hF : isF (h.2 a) 2 0 = true) : rn 24 33 L (.ref a :: st) h = rn 24 36 L (fld (h.2 a) 0 :: st) h := e_get (show x_fe 24 33 = some (.getfield 9, 3) by decide +kernel) (by decide +kernel) hF
theorem q24_36 (L : List Value) (h : xH) (x0 : Int32) (x1 : Int32) (hc : (cl 85 [.int x0, .int x1] h).isSome = true) : rn 24 36 L [.int x1, .int x0] h = rn 24 39 L (rv (cl 85 [.int x0, .int x1] h) ++ []) (rh (cl 85 [.int x0, .int x1] h)) := e_callS (n := 2) (show x_fe 24 36 = some (.invokestatic 88, 3) by decide +kernel) (by decide +kernel) (by decide +kernel) rfl rfl rfl ⟨by decide +kernel, by decide +kernel, Nat.le_of_ble_eq_true rfl, Nat.le_of_ble_eq_true rfl, by decide⟩ hc
theorem q24_39 (L st : List Value) (h : xH) (x : Int32) : rn 24 39 L (.int x :: st) h = if x = 0 then rn 24 42 L st h else rn 24 45 L st h := e_if_ne (show x_fe 24 39 = some (.ifCond .ne 6, 3) by decide +kernel) (by decide)
theorem q24_42 (v0 v3 v4 v5 : Value) (w : Int32) (x : Int32) (st : List Value) (h : xH) : rn 24 42 [v0, .int w, .int x, v3, v4, v5] st h = rn 24 45 [v0, .int w, .int (x + 1), v3, v4, v5] st h := e_iinc (show x_fe 24 42 = some (.iinc 2 1, 3) by decide +kernel) (by decide) rfl (Nat.le_of_ble_eq_true rfl) rfl
theorem q24_45 (v0 v1 v2 v3 : Value) (w : Int32) (x : Int32) (st : List Value) (h : xH) : rn 24 45 [v0, v1, v2, v3, .int w, .int x] st h = rn 24 48 [v0, v1, v2, v3, .int w, .int (x + 1)] st h := e_iinc (show x_fe 24 45 = some (.iinc 5 1, 3) by decide +kernel) (by decide) rfl (Nat.le_of_ble_eq_true rfl) rfl
theorem q24_48 (L st : List Value) (h : xH) : rn 24 48 L st h = rn 24 21 L st h := e_goto (show x_fe 24 48 = some (.goto (-27), 3) by decide +kernel) (by decide)
theorem q24_51 (v0 v1 v3 v4 v5 : Value) (x : Int32) (st : List Value) (h : xH) : rn 24 51 [v0, v1, .int x, v3, v4, v5] st h = rn 24 52 [v0, v1, .int x, v3, v4, v5] (.int x :: st) h := e_iload_n (show x_fe 24 51 = some (.iload_n 2, 1) by decide +kernel) rfl
theorem q24_52 (L : List Value) (h : xH) (x : Int32) : rn 24 52 L [.int x] h = some (some (.int x), h) := e_iret (st := []) (ty := .int) (show x_fe 24 52 = some (.ireturn, 1) by decide +kernel) (by decide +kernel) rfl
theorem c25 (x0 : Nat) (x1 : Nat) (h : xH) : cl 25 [.ref x0, .ref x1] h = rn 25 0 [.ref x0, .ref x1] [] h := rfl
theorem q25_0 (v0 : Value) (x : Nat) (st : List Value) (h : xH) : rn 25 0 [v0, .ref x] st h = rn 25 1 [v0, .ref x] (.ref x :: st) h := e_aload_n (show x_fe 25 0 = some (.aload_n 1, 1) by decide +kernel) rfl
theorem q25_0N (v0 : Value) (st : List Value) (h : xH) : rn 25 0 [v0, .null] st h = rn 25 1 [v0, .null] (.null :: st) h := e_aload_nN (show x_fe 25 0 = some (.aload_n 1, 1) by decide +kernel) rfl
theorem q25_1 (L st : List Value) (h : xH) (a : Nat) (hF : isF (h.2 a) 0 0 = true) : rn 25 1 L (.ref a :: st) h = rn 25 4 L (fld (h.2 a) 0 :: st) h := e_get (show x_fe 25 1 = some (.getfield 81, 3) by decide +kernel) (by decide +kernel) hF
theorem q25_4 (L st : List Value) (h : xH) (x : Int32) : rn 25 4 L (.int x :: st) h = if x = 0 then rn 25 21 L st h else rn 25 7 L st h := e_if_eq (show x_fe 25 4 = some (.ifCond .eq 17, 3) by decide +kernel) (by decide)
theorem q25_7 (v1 : Value) (x : Nat) (st : List Value) (h : xH) : rn 25 7 [.ref x, v1] st h = rn 25 8 [.ref x, v1] (.ref x :: st) h := e_aload_n (show x_fe 25 7 = some (.aload_n 0, 1) by decide +kernel) rfl
theorem q25_8 (v1 : Value) (x : Nat) (st : List Value) (h : xH) : rn 25 8 [.ref x, v1] st h = rn 25 9 [.ref x, v1] (.ref x :: st) h := e_aload_n (show x_fe 25 8 = some (.aload_n 0, 1) by decide +kernel) rfl
theorem q25_9 (L st : List Value) (h : xH) (a : Nat) (hF : isF (h.2 a) 2 4 = true) : rn 25 9 L (.ref a :: st) h = rn 25 12 L (fld (h.2 a) 4 :: st) h := e_get (show x_fe 25 9 = some (.getfield 33, 3) by decide +kernel) (by decide +kernel) hF
theorem q25_12 (L st : List Value) (h : xH) (a : Nat) (hF : isF (h.2 a) 0 2 = true) : rn 25 12 L (.ref a :: st) h = rn 25 15 L (fld (h.2 a) 2 :: st) h := e_get (show x_fe 25 12 = some (.getfield 54, 3) by decide +kernel) (by decide +kernel) hF
theorem q25_15 (L : List Value) (h : xH) (x0 : Int32) (b : Nat) (hK : isK (h.2 b) 2 = true) (hc : (cl 20 [.ref b, .int x0] h).isSome = true) : rn 25 15 L [.int x0, .ref b] h = rn 25 18 L (rv (cl 20 [.ref b, .int x0] h) ++ []) (rh (cl 20 [.ref b, .int x0] h)) := e_callV (n := 1) (show x_fe 25 15 = some (.invokevirtual 92, 3) by decide +kernel) (by decide +kernel) rfl rfl rfl ⟨by decide +kernel, by decide +kernel, Nat.le_of_ble_eq_true rfl, Nat.le_of_ble_eq_true rfl, by decide⟩ hK hc
theorem q25_18 (L st : List Value) (h : xH) : rn 25 18 L st h = rn 25 29 L st h := e_goto (show x_fe 25 18 = some (.goto 11, 3) by decide +kernel) (by decide)
theorem q25_21 (v1 : Value) (x : Nat) (st : List Value) (h : xH) : rn 25 21 [.ref x, v1] st h = rn 25 22 [.ref x, v1] (.ref x :: st) h := e_aload_n (show x_fe 25 21 = some (.aload_n 0, 1) by decide +kernel) rfl
theorem q25_22 (v1 : Value) (x : Nat) (st : List Value) (h : xH) : rn 25 22 [.ref x, v1] st h = rn 25 23 [.ref x, v1] (.ref x :: st) h := e_aload_n (show x_fe 25 22 = some (.aload_n 0, 1) by decide +kernel) rfl
theorem q25_23 (L : List Value) (s0 : Value) (h : xH)  (b : Nat) (hK : isK (h.2 b) 2 = true) (hc : (cl 16 [.ref b] h).isSome = true) : rn 25 23 L [.ref b, s0] h = rn 25 26 L (rv (cl 16 [.ref b] h) ++ [s0]) (rh (cl 16 [.ref b] h)) := e_callV (n := 0) (show x_fe 25 23 = some (.invokevirtual 61, 3) by decide +kernel) (by decide +kernel) rfl rfl rfl ⟨by decide +kernel, by decide +kernel, Nat.le_of_ble_eq_true rfl, Nat.le_of_ble_eq_true rfl, by decide⟩ hK hc
theorem q25_26 (L : List Value) (h : xH) (x0 : Int32) (b : Nat) (hK : isK (h.2 b) 2 = true) (hc : (cl 21 [.ref b, .int x0] h).isSome = true) : rn 25 26 L [.int x0, .ref b] h = rn 25 29 L (rv (cl 21 [.ref b, .int x0] h) ++ []) (rh (cl 21 [.ref b, .int x0] h)) := e_callV (n := 1) (show x_fe 25 26 = some (.invokevirtual 95, 3) by decide +kernel) (by decide +kernel) rfl rfl rfl ⟨by decide +kernel, by decide +kernel, Nat.le_of_ble_eq_true rfl, Nat.le_of_ble_eq_true rfl, by decide⟩ hK hc
theorem q25_29 (L : List Value) (h : xH) (x : Int32) : rn 25 29 L [.int x] h = some (some (.int x), h) := e_iret (st := []) (ty := .int) (show x_fe 25 29 = some (.ireturn, 1) by decide +kernel) (by decide +kernel) rfl
theorem c26 (x0 : Nat) (x1 : Nat) (x2 : Int32) (x3 : Int32) (h : xH) : cl 26 [.ref x0, .ref x1, .int x2, .int x3] h = rn 26 0 [.ref x0, .ref x1, .int x2, .int x3] [] h := rfl
theorem q26_0 (v0 v2 v3 : Value) (x : Nat) (st : List Value) (h : xH) : rn 26 0 [v0, .ref x, v2, v3] st h = rn 26 1 [v0, .ref x, v2, v3] (.ref x :: st) h := e_aload_n (show x_fe 26 0 = some (.aload_n 1, 1) by decide +kernel) rfl
theorem q26_0N (v0 v2 v3 : Value) (st : List Value) (h : xH) : rn 26 0 [v0, .null, v2, v3] st h = rn 26 1 [v0, .null, v2, v3] (.null :: st) h := e_aload_nN (show x_fe 26 0 = some (.aload_n 1, 1) by decide +kernel) rfl
theorem q26_1 (L st : List Value) (h : xH) (a : Nat) (hF : isF (h.2 a) 0 0 = true) : rn 26 1 L (.ref a :: st) h = rn 26 4 L (fld (h.2 a) 0 :: st) h := e_get (show x_fe 26 1 = some (.getfield 81, 3) by decide +kernel) (by decide +kernel) hF
theorem q26_4 (L st : List Value) (h : xH) (x : Int32) : rn 26 4 L (.int x :: st) h = if x = 0 then rn 26 25 L st h else rn 26 7 L st h := e_if_eq (show x_fe 26 4 = some (.ifCond .eq 21, 3) by decide +kernel) (by decide)
theorem q26_7 (v0 v1 v2 : Value) (x : Int32) (st : List Value) (h : xH) : rn 26 7 [v0, v1, v2, .int x] st h = rn 26 8 [v0, v1, v2, .int x] (.int x :: st) h := e_iload_n (show x_fe 26 7 = some (.iload_n 3, 1) by decide +kernel) rfl
theorem q26_8 (v1 v2 v3 : Value) (x : Nat) (st : List Value) (h : xH) : rn 26 8 [.ref x, v1, v2, v3] st h = rn 26 9 [.ref x, v1, v2, v3] (.ref x :: st) h := e_aload_n (show x_fe 26 8 = some (.aload_n 0, 1) by decide +kernel) rfl
theorem q26_9 (L st : List Value) (h : xH) (a : Nat) (hF : isF (h.2 a) 2 1 = true) : rn 26 9 L (.ref a :: st) h = rn 26 12 L (fld (h.2 a) 1 :: st) h := e_get (show x_fe 26 9 = some (.getfield 15, 3) by decide +kernel) (by decide +kernel) hF
theorem q26_12 (v0 v1 v3 : Value) (x : Int32) (st : List Value) (h : xH) : rn 26 12 [v0, v1, .int x, v3] st h = rn 26 13 [v0, v1, .int x, v3] (.int x :: st) h := e_iload_n (show x_fe 26 12 = some (.iload_n 2, 1) by decide +kernel) rfl
theorem q26_13 (L st : List Value) (h : xH) (a b : Int32) : rn 26 13 L (.int b :: .int a :: st) h = rn 26 14 L (.int (a - b) :: st) h := e_isub (show x_fe 26 13 = some (.isub, 1) by decide +kernel)
theorem q26_14 (L st : List Value) (h : xH) (a b : Int32) : rn 26 14 L (.int b :: .int a :: st) h = rn 26 15 L (.int (a - b) :: st) h := e_isub (show x_fe 26 14 = some (.isub, 1) by decide +kernel)
theorem q26_15 (v1 v2 v3 : Value) (x : Nat) (st : List Value) (h : xH) : rn 26 15 [.ref x, v1, v2, v3] st h = rn 26 16 [.ref x, v1, v2, v3] (.ref x :: st) h := e_aload_n (show x_fe 26 15 = some (.aload_n 0, 1) by decide +kernel) rfl
theorem q26_16 (L st : List Value) (h : xH) (a : Nat) (hF : isF (h.2 a) 2 0 = true) : rn 26 16 L (.ref a :: st) h = rn 26 19 L (fld (h.2 a) 0 :: st) h := e_get (show x_fe 26 16 = some (.getfield 9, 3) by decide +kernel) (by decide +kernel) hF
theorem q26_19 (L : List Value) (h : xH) (x0 : Int32) (x1 : Int32) (hc : (cl 85 [.int x0, .int x1] h).isSome = true) : rn 26 19 L [.int x1, .int x0] h = rn 26 22 L (rv (cl 85 [.int x0, .int x1] h) ++ []) (rh (cl 85 [.int x0, .int x1] h)) := e_callS (n := 2) (show x_fe 26 19 = some (.invokestatic 88, 3) by decide +kernel) (by decide +kernel) (by decide +kernel) rfl rfl rfl ⟨by decide +kernel, by decide +kernel, Nat.le_of_ble_eq_true rfl, Nat.le_of_ble_eq_true rfl, by decide⟩ hc
theorem q26_22 (L st : List Value) (h : xH) : rn 26 22 L st h = rn 26 35 L st h := e_goto (show x_fe 26 22 = some (.goto 13, 3) by decide +kernel) (by decide)
theorem q26_25 (v0 v1 v3 : Value) (x : Int32) (st : List Value) (h : xH) : rn 26 25 [v0, v1, .int x, v3] st h = rn 26 26 [v0, v1, .int x, v3] (.int x :: st) h := e_iload_n (show x_fe 26 25 = some (.iload_n 2, 1) by decide +kernel) rfl
theorem q26_26 (v0 v1 v2 : Value) (x : Int32) (st : List Value) (h : xH) : rn 26 26 [v0, v1, v2, .int x] st h = rn 26 27 [v0, v1, v2, .int x] (.int x :: st) h := e_iload_n (show x_fe 26 26 = some (.iload_n 3, 1) by decide +kernel) rfl
theorem q26_27 (L st : List Value) (h : xH) (a b : Int32) : rn 26 27 L (.int b :: .int a :: st) h = rn 26 28 L (.int (a - b) :: st) h := e_isub (show x_fe 26 27 = some (.isub, 1) by decide +kernel)
theorem q26_28 (v1 v2 v3 : Value) (x : Nat) (st : List Value) (h : xH) : rn 26 28 [.ref x, v1, v2, v3] st h = rn 26 29 [.ref x, v1, v2, v3] (.ref x :: st) h := e_aload_n (show x_fe 26 28 = some (.aload_n 0, 1) by decide +kernel) rfl
theorem q26_29 (L st : List Value) (h : xH) (a : Nat) (hF : isF (h.2 a) 2 0 = true) : rn 26 29 L (.ref a :: st) h = rn 26 32 L (fld (h.2 a) 0 :: st) h := e_get (show x_fe 26 29 = some (.getfield 9, 3) by decide +kernel) (by decide +kernel) hF
theorem q26_32 (L : List Value) (h : xH) (x0 : Int32) (x1 : Int32) (hc : (cl 85 [.int x0, .int x1] h).isSome = true) : rn 26 32 L [.int x1, .int x0] h = rn 26 35 L (rv (cl 85 [.int x0, .int x1] h) ++ []) (rh (cl 85 [.int x0, .int x1] h)) := e_callS (n := 2) (show x_fe 26 32 = some (.invokestatic 88, 3) by decide +kernel) (by decide +kernel) (by decide +kernel) rfl rfl rfl ⟨by decide +kernel, by decide +kernel, Nat.le_of_ble_eq_true rfl, Nat.le_of_ble_eq_true rfl, by decide⟩ hc
theorem q26_35 (L : List Value) (h : xH) (x : Int32) : rn 26 35 L [.int x] h = some (some (.int x), h) := e_iret (st := []) (ty := .int) (show x_fe 26 35 = some (.ireturn, 1) by decide +kernel) (by decide +kernel) rfl
theorem c27 (x0 : Nat) (x1 : Nat) (h : xH) : cl 27 [.ref x0, .ref x1] h = rn 27 0 [.ref x0, .ref x1, unk, unk, unk] [] h := rfl
theorem q27_0 (v1 v2 v3 v4 : Value) (x : Nat) (st : List Value) (h : xH) : rn 27 0 [.ref x, v1, v2, v3, v4] st h = rn 27 1 [.ref x, v1, v2, v3, v4] (.ref x :: st) h := e_aload_n (show x_fe 27 0 = some (.aload_n 0, 1) by decide +kernel) rfl
theorem q27_1 (v0 v2 v3 v4 : Value) (x : Nat) (st : List Value) (h : xH) : rn 27 1 [v0, .ref x, v2, v3, v4] st h = rn 27 2 [v0, .ref x, v2, v3, v4] (.ref x :: st) h := e_aload_n (show x_fe 27 1 = some (.aload_n 1, 1) by decide +kernel) rfl
theorem q27_1N (v0 v2 v3 v4 : Value) (st : List Value) (h : xH) : rn 27 1 [v0, .null, v2, v3, v4] st h = rn 27 2 [v0, .null, v2, v3, v4] (.null :: st) h := e_aload_nN (show x_fe 27 1 = some (.aload_n 1, 1) by decide +kernel) rfl
theorem q27_2 (L : List Value) (h : xH) (x0 : Nat) (b : Nat) (hK : isK (h.2 b) 2 = true) (hc : (cl 19 [.ref b, .ref x0] h).isSome = true) : rn 27 2 L [.ref x0, .ref b] h = rn 27 5 L (rv (cl 19 [.ref b, .ref x0] h) ++ []) (rh (cl 19 [.ref b, .ref x0] h)) := e_callV (n := 1) (show x_fe 27 2 = some (.invokevirtual 104, 3) by decide +kernel) (by decide +kernel) rfl rfl rfl ⟨by decide +kernel, by decide +kernel, Nat.le_of_ble_eq_true rfl, Nat.le_of_ble_eq_true rfl, by decide⟩ hK hc
theorem q27_5 (v0 v1 v2 v3 v4 : Value) (x : Int32) (st : List Value) (h : xH) : rn 27 5 [v0, v1, v2, v3, v4] (.int x :: st) h = rn 27 6 [v0, k2 v1, .int x, v3, v4] st h := e_istore_n (show x_fe 27 5 = some (.istore_n 2, 1) by decide +kernel) (Nat.le_of_ble_eq_true rfl) rfl
theorem q27_6 (v0 v1 v3 v4 : Value) (x : Int32) (st : List Value) (h : xH) : rn 27 6 [v0, v1, .int x, v3, v4] st h = rn 27 7 [v0, v1, .int x, v3, v4] (.int x :: st) h := e_iload_n (show x_fe 27 6 = some (.iload_n 2, 1) by decide +kernel) rfl
theorem q27_7 (L st : List Value) (h : xH) : rn 27 7 L st h = rn 27 9 L (.int (-6) :: st) h := e_bipush (show x_fe 27 7 = some (.bipush (-6), 2) by decide +kernel) (by decide)
theorem q27_9 (L st : List Value) (h : xH) (x w : Int32) : rn 27 9 L (.int w :: .int x :: st) h = if x = w then rn 27 12 L st h else rn 27 14 L st h := e_icmp_ne (show x_fe 27 9 = some (.if_icmp .ne 5, 3) by decide +kernel) (by decide)
theorem q27_12 (L st : List Value) (h : xH) : rn 27 12 L st h = rn 27 13 L (.int 0 :: st) h := e_iconst (show x_fe 27 12 = some (.iconst 0, 1) by decide +kernel) (by decide)
theorem q27_13 (L : List Value) (h : xH) (x : Int32) (hx : (x == 0 || x == 1) = true) : rn 27 13 L [.int x] h = some (some (.int x), h) := e_iret (st := []) (ty := .boolean) (show x_fe 27 13 = some (.ireturn, 1) by decide +kernel) (by decide +kernel) hx
theorem q27_14 (v1 v2 v3 v4 : Value) (x : Nat) (st : List Value) (h : xH) : rn 27 14 [.ref x, v1, v2, v3, v4] st h = rn 27 15 [.ref x, v1, v2, v3, v4] (.ref x :: st) h := e_aload_n (show x_fe 27 14 = some (.aload_n 0, 1) by decide +kernel) rfl
theorem q27_15 (L st : List Value) (h : xH) (a : Nat) (hF : isF (h.2 a) 2 3 = true) : rn 27 15 L (.ref a :: st) h = rn 27 18 L (fld (h.2 a) 3 :: st) h := e_get (show x_fe 27 15 = some (.getfield 24, 3) by decide +kernel) (by decide +kernel) hF
theorem q27_18 (v0 v1 v3 v4 : Value) (x : Int32) (st : List Value) (h : xH) : rn 27 18 [v0, v1, .int x, v3, v4] st h = rn 27 19 [v0, v1, .int x, v3, v4] (.int x :: st) h := e_iload_n (show x_fe 27 18 = some (.iload_n 2, 1) by decide +kernel) rfl
theorem q27_19 (L : List Value) (h : xH) (x0 : Int32) (b : Nat) (hK : isK (h.2 b) 6 = true) (hc : (cl 54 [.ref b, .int x0] h).isSome = true) : rn 27 19 L [.int x0, .ref b] h = rn 27 22 L (rv (cl 54 [.ref b, .int x0] h) ++ []) (rh (cl 54 [.ref b, .int x0] h)) := e_callV (n := 1) (show x_fe 27 19 = some (.invokevirtual 101, 3) by decide +kernel) (by decide +kernel) rfl rfl rfl ⟨by decide +kernel, by decide +kernel, Nat.le_of_ble_eq_true rfl, Nat.le_of_ble_eq_true rfl, by decide⟩ hK hc
theorem q27_22 (v0 v1 v3 v4 : Value) (w : Int32) (x : Int32) (st : List Value) (h : xH) : rn 27 22 [v0, v1, .int w, v3, v4] (.int x :: st) h = rn 27 23 [v0, v1, .int w, .int x, v4] st h := e_istore_n (show x_fe 27 22 = some (.istore_n 3, 1) by decide +kernel) (Nat.le_of_ble_eq_true rfl) rfl
theorem q27_23 (v1 v2 v3 v4 : Value) (x : Nat) (st : List Value) (h : xH) : rn 27 23 [.ref x, v1, v2, v3, v4] st h = rn 27 24 [.ref x, v1, v2, v3, v4] (.ref x :: st) h := e_aload_n (show x_fe 27 23 = some (.aload_n 0, 1) by decide +kernel) rfl
theorem q27_24 (v0 v2 v3 v4 : Value) (x : Nat) (st : List Value) (h : xH) : rn 27 24 [v0, .ref x, v2, v3, v4] st h = rn 27 25 [v0, .ref x, v2, v3, v4] (.ref x :: st) h := e_aload_n (show x_fe 27 24 = some (.aload_n 1, 1) by decide +kernel) rfl
theorem q27_24N (v0 v2 v3 v4 : Value) (st : List Value) (h : xH) : rn 27 24 [v0, .null, v2, v3, v4] st h = rn 27 25 [v0, .null, v2, v3, v4] (.null :: st) h := e_aload_nN (show x_fe 27 24 = some (.aload_n 1, 1) by decide +kernel) rfl
theorem q27_25 (L : List Value) (h : xH) (x0 : Nat) (b : Nat) (hK : isK (h.2 b) 2 = true) (hc : (cl 25 [.ref b, .ref x0] h).isSome = true) : rn 27 25 L [.ref x0, .ref b] h = rn 27 28 L (rv (cl 25 [.ref b, .ref x0] h) ++ []) (rh (cl 25 [.ref b, .ref x0] h)) := e_callV (n := 1) (show x_fe 27 25 = some (.invokevirtual 108, 3) by decide +kernel) (by decide +kernel) rfl rfl rfl ⟨by decide +kernel, by decide +kernel, Nat.le_of_ble_eq_true rfl, Nat.le_of_ble_eq_true rfl, by decide⟩ hK hc
theorem q27_28 (v0 v1 v2 v4 : Value) (w : Int32) (x : Int32) (st : List Value) (h : xH) : rn 27 28 [v0, v1, v2, .int w, v4] (.int x :: st) h = rn 27 30 [v0, v1, v2, .int w, .int x] st h := e_istore (show x_fe 27 28 = some (.istore 4, 2) by decide +kernel) (Nat.le_of_ble_eq_true rfl) rfl
theorem q27_30 (v1 v2 v3 v4 : Value) (x : Nat) (st : List Value) (h : xH) : rn 27 30 [.ref x, v1, v2, v3, v4] st h = rn 27 31 [.ref x, v1, v2, v3, v4] (.ref x :: st) h := e_aload_n (show x_fe 27 30 = some (.aload_n 0, 1) by decide +kernel) rfl
theorem q27_31 (v0 v2 v3 v4 : Value) (x : Nat) (st : List Value) (h : xH) : rn 27 31 [v0, .ref x, v2, v3, v4] st h = rn 27 32 [v0, .ref x, v2, v3, v4] (.ref x :: st) h := e_aload_n (show x_fe 27 31 = some (.aload_n 1, 1) by decide +kernel) rfl
theorem q27_31N (v0 v2 v3 v4 : Value) (st : List Value) (h : xH) : rn 27 31 [v0, .null, v2, v3, v4] st h = rn 27 32 [v0, .null, v2, v3, v4] (.null :: st) h := e_aload_nN (show x_fe 27 31 = some (.aload_n 1, 1) by decide +kernel) rfl
theorem q27_32 (v0 v2 v3 v4 : Value) (x : Nat) (st : List Value) (h : xH) : rn 27 32 [v0, .ref x, v2, v3, v4] st h = rn 27 33 [v0, .ref x, v2, v3, v4] (.ref x :: st) h := e_aload_n (show x_fe 27 32 = some (.aload_n 1, 1) by decide +kernel) rfl
theorem q27_32N (v0 v2 v3 v4 : Value) (st : List Value) (h : xH) : rn 27 32 [v0, .null, v2, v3, v4] st h = rn 27 33 [v0, .null, v2, v3, v4] (.null :: st) h := e_aload_nN (show x_fe 27 32 = some (.aload_n 1, 1) by decide +kernel) rfl
theorem q27_33 (L st : List Value) (h : xH) (a : Nat) (hF : isF (h.2 a) 0 3 = true) : rn 27 33 L (.ref a :: st) h = rn 27 36 L (fld (h.2 a) 3 :: st) h := e_get (show x_fe 27 33 = some (.getfield 111, 3) by decide +kernel) (by decide +kernel) hF
theorem q27_36 (v0 v1 v2 v3 : Value) (x : Int32) (st : List Value) (h : xH) : rn 27 36 [v0, v1, v2, v3, .int x] st h = rn 27 38 [v0, v1, v2, v3, .int x] (.int x :: st) h := e_iload (show x_fe 27 36 = some (.iload 4, 2) by decide +kernel) rfl
theorem q27_38 (L : List Value) (h : xH) (x0 : Nat) (x1 : Int32) (x2 : Int32) (b : Nat) (hK : isK (h.2 b) 2 = true) (hc : (cl 26 [.ref b, .ref x0, .int x1, .int x2] h).isSome = true) : rn 27 38 L [.int x2, .int x1, .ref x0, .ref b] h = rn 27 41 L (rv (cl 26 [.ref b, .ref x0, .int x1, .int x2] h) ++ []) (rh (cl 26 [.ref b, .ref x0, .int x1, .int x2] h)) := e_callV (n := 3) (show x_fe 27 38 = some (.invokevirtual 114, 3) by decide +kernel) (by decide +kernel) rfl rfl rfl ⟨by decide +kernel, by decide +kernel, Nat.le_of_ble_eq_true rfl, Nat.le_of_ble_eq_true rfl, by decide⟩ hK hc
theorem q27_41 (v0 v1 v2 v4 : Value) (x : Int32) (st : List Value) (h : xH) : rn 27 41 [v0, v1, v2, .int x, v4] st h = rn 27 42 [v0, v1, v2, .int x, v4] (.int x :: st) h := e_iload_n (show x_fe 27 41 = some (.iload_n 3, 1) by decide +kernel) rfl
theorem q27_42 (L st : List Value) (h : xH) (a b : Int32) : rn 27 42 L (.int b :: .int a :: st) h = rn 27 43 L (.int (a + b) :: st) h := e_iadd (show x_fe 27 42 = some (.iadd, 1) by decide +kernel)
theorem q27_43 (v0 v2 v3 v4 : Value) (x : Nat) (st : List Value) (h : xH) : rn 27 43 [v0, .ref x, v2, v3, v4] st h = rn 27 44 [v0, .ref x, v2, v3, v4] (.ref x :: st) h := e_aload_n (show x_fe 27 43 = some (.aload_n 1, 1) by decide +kernel) rfl
theorem q27_43N (v0 v2 v3 v4 : Value) (st : List Value) (h : xH) : rn 27 43 [v0, .null, v2, v3, v4] st h = rn 27 44 [v0, .null, v2, v3, v4] (.null :: st) h := e_aload_nN (show x_fe 27 43 = some (.aload_n 1, 1) by decide +kernel) rfl
theorem q27_44 (L st : List Value) (h : xH) (a : Nat) (hF : isF (h.2 a) 0 3 = true) : rn 27 44 L (.ref a :: st) h = rn 27 47 L (fld (h.2 a) 3 :: st) h := e_get (show x_fe 27 44 = some (.getfield 111, 3) by decide +kernel) (by decide +kernel) hF
theorem q27_47 (L st : List Value) (h : xH) (x w : Int32) : rn 27 47 L (.int w :: .int x :: st) h = if w < x then rn 27 50 L st h else rn 27 70 L st h := e_icmp_le (show x_fe 27 47 = some (.if_icmp .le 23, 3) by decide +kernel) (by decide)
theorem q27_50 (v1 v2 v3 v4 : Value) (x : Nat) (st : List Value) (h : xH) : rn 27 50 [.ref x, v1, v2, v3, v4] st h = rn 27 51 [.ref x, v1, v2, v3, v4] (.ref x :: st) h := e_aload_n (show x_fe 27 50 = some (.aload_n 0, 1) by decide +kernel) rfl
theorem q27_51 (v0 v2 v3 v4 : Value) (x : Nat) (st : List Value) (h : xH) : rn 27 51 [v0, .ref x, v2, v3, v4] st h = rn 27 52 [v0, .ref x, v2, v3, v4] (.ref x :: st) h := e_aload_n (show x_fe 27 51 = some (.aload_n 1, 1) by decide +kernel) rfl
theorem q27_51N (v0 v2 v3 v4 : Value) (st : List Value) (h : xH) : rn 27 51 [v0, .null, v2, v3, v4] st h = rn 27 52 [v0, .null, v2, v3, v4] (.null :: st) h := e_aload_nN (show x_fe 27 51 = some (.aload_n 1, 1) by decide +kernel) rfl
theorem q27_52 (v1 v2 v3 v4 : Value) (x : Nat) (st : List Value) (h : xH) : rn 27 52 [.ref x, v1, v2, v3, v4] st h = rn 27 53 [.ref x, v1, v2, v3, v4] (.ref x :: st) h := e_aload_n (show x_fe 27 52 = some (.aload_n 0, 1) by decide +kernel) rfl
theorem q27_53 (L st : List Value) (h : xH) (a : Nat) (hF : isF (h.2 a) 2 1 = true) : rn 27 53 L (.ref a :: st) h = rn 27 56 L (fld (h.2 a) 1 :: st) h := e_get (show x_fe 27 53 = some (.getfield 15, 3) by decide +kernel) (by decide +kernel) hF
theorem q27_56 (v0 v1 v2 v3 : Value) (x : Int32) (st : List Value) (h : xH) : rn 27 56 [v0, v1, v2, v3, .int x] st h = rn 27 58 [v0, v1, v2, v3, .int x] (.int x :: st) h := e_iload (show x_fe 27 56 = some (.iload 4, 2) by decide +kernel) rfl
theorem q27_58 (L : List Value) (h : xH) (x0 : Nat) (x1 : Int32) (x2 : Int32) (b : Nat) (hK : isK (h.2 b) 2 = true) (hc : (cl 26 [.ref b, .ref x0, .int x1, .int x2] h).isSome = true) : rn 27 58 L [.int x2, .int x1, .ref x0, .ref b] h = rn 27 61 L (rv (cl 26 [.ref b, .ref x0, .int x1, .int x2] h) ++ []) (rh (cl 26 [.ref b, .ref x0, .int x1, .int x2] h)) := e_callV (n := 3) (show x_fe 27 58 = some (.invokevirtual 114, 3) by decide +kernel) (by decide +kernel) rfl rfl rfl ⟨by decide +kernel, by decide +kernel, Nat.le_of_ble_eq_true rfl, Nat.le_of_ble_eq_true rfl, by decide⟩ hK hc
theorem q27_61 (v0 v1 v2 v4 : Value) (x : Int32) (st : List Value) (h : xH) : rn 27 61 [v0, v1, v2, .int x, v4] st h = rn 27 62 [v0, v1, v2, .int x, v4] (.int x :: st) h := e_iload_n (show x_fe 27 61 = some (.iload_n 3, 1) by decide +kernel) rfl
theorem q27_62 (L st : List Value) (h : xH) (a b : Int32) : rn 27 62 L (.int b :: .int a :: st) h = rn 27 63 L (.int (a + b) :: st) h := e_iadd (show x_fe 27 62 = some (.iadd, 1) by decide +kernel)
theorem q27_63 (v1 v2 v3 v4 : Value) (x : Nat) (st : List Value) (h : xH) : rn 27 63 [.ref x, v1, v2, v3, v4] st h = rn 27 64 [.ref x, v1, v2, v3, v4] (.ref x :: st) h := e_aload_n (show x_fe 27 63 = some (.aload_n 0, 1) by decide +kernel) rfl
theorem q27_64 (L st : List Value) (h : xH) (a : Nat) (hF : isF (h.2 a) 2 1 = true) : rn 27 64 L (.ref a :: st) h = rn 27 67 L (fld (h.2 a) 1 :: st) h := e_get (show x_fe 27 64 = some (.getfield 15, 3) by decide +kernel) (by decide +kernel) hF
theorem q27_67 (L st : List Value) (h : xH) (x w : Int32) : rn 27 67 L (.int w :: .int x :: st) h = if w < x then rn 27 74 L st h else rn 27 70 L st h := e_icmp_gt (show x_fe 27 67 = some (.if_icmp .gt 7, 3) by decide +kernel) (by decide)
theorem q27_70 (L st : List Value) (h : xH) : rn 27 70 L st h = rn 27 71 L (.int 1 :: st) h := e_iconst (show x_fe 27 70 = some (.iconst 1, 1) by decide +kernel) (by decide)
theorem q27_71 (L st : List Value) (h : xH) : rn 27 71 L st h = rn 27 75 L st h := e_goto (show x_fe 27 71 = some (.goto 4, 3) by decide +kernel) (by decide)
theorem q27_74 (L st : List Value) (h : xH) : rn 27 74 L st h = rn 27 75 L (.int 0 :: st) h := e_iconst (show x_fe 27 74 = some (.iconst 0, 1) by decide +kernel) (by decide)
theorem q27_75 (L : List Value) (h : xH) (x : Int32) (hx : (x == 0 || x == 1) = true) : rn 27 75 L [.int x] h = some (some (.int x), h) := e_iret (st := []) (ty := .boolean) (show x_fe 27 75 = some (.ireturn, 1) by decide +kernel) (by decide +kernel) hx
theorem c28 (x0 : Nat) (x1 : Nat) (h : xH) : cl 28 [.ref x0, .ref x1] h = rn 28 0 [.ref x0, .ref x1, unk, unk, unk] [] h := rfl
theorem q28_0 (v1 v2 v3 v4 : Value) (x : Nat) (st : List Value) (h : xH) : rn 28 0 [.ref x, v1, v2, v3, v4] st h = rn 28 1 [.ref x, v1, v2, v3, v4] (.ref x :: st) h := e_aload_n (show x_fe 28 0 = some (.aload_n 0, 1) by decide +kernel) rfl
theorem q28_1 (L st : List Value) (h : xH) (a : Nat) (hF : isF (h.2 a) 2 3 = true) : rn 28 1 L (.ref a :: st) h = rn 28 4 L (fld (h.2 a) 3 :: st) h := e_get (show x_fe 28 1 = some (.getfield 24, 3) by decide +kernel) (by decide +kernel) hF
theorem q28_4 (v1 v2 v3 v4 : Value) (x : Nat) (st : List Value) (h : xH) : rn 28 4 [.ref x, v1, v2, v3, v4] st h = rn 28 5 [.ref x, v1, v2, v3, v4] (.ref x :: st) h := e_aload_n (show x_fe 28 4 = some (.aload_n 0, 1) by decide +kernel) rfl
theorem q28_5 (v0 v2 v3 v4 : Value) (x : Nat) (st : List Value) (h : xH) : rn 28 5 [v0, .ref x, v2, v3, v4] st h = rn 28 6 [v0, .ref x, v2, v3, v4] (.ref x :: st) h := e_aload_n (show x_fe 28 5 = some (.aload_n 1, 1) by decide +kernel) rfl
theorem q28_5N (v0 v2 v3 v4 : Value) (st : List Value) (h : xH) : rn 28 5 [v0, .null, v2, v3, v4] st h = rn 28 6 [v0, .null, v2, v3, v4] (.null :: st) h := e_aload_nN (show x_fe 28 5 = some (.aload_n 1, 1) by decide +kernel) rfl
theorem q28_6 (L : List Value) (s0 : Value) (h : xH) (x0 : Nat) (b : Nat) (hK : isK (h.2 b) 2 = true) (hc : (cl 19 [.ref b, .ref x0] h).isSome = true) : rn 28 6 L [.ref x0, .ref b, s0] h = rn 28 9 L (rv (cl 19 [.ref b, .ref x0] h) ++ [s0]) (rh (cl 19 [.ref b, .ref x0] h)) := e_callV (n := 1) (show x_fe 28 6 = some (.invokevirtual 104, 3) by decide +kernel) (by decide +kernel) rfl rfl rfl ⟨by decide +kernel, by decide +kernel, Nat.le_of_ble_eq_true rfl, Nat.le_of_ble_eq_true rfl, by decide⟩ hK hc
theorem q28_9 (L : List Value) (h : xH) (x0 : Int32) (b : Nat) (hK : isK (h.2 b) 6 = true) (hc : (cl 54 [.ref b, .int x0] h).isSome = true) : rn 28 9 L [.int x0, .ref b] h = rn 28 12 L (rv (cl 54 [.ref b, .int x0] h) ++ []) (rh (cl 54 [.ref b, .int x0] h)) := e_callV (n := 1) (show x_fe 28 9 = some (.invokevirtual 101, 3) by decide +kernel) (by decide +kernel) rfl rfl rfl ⟨by decide +kernel, by decide +kernel, Nat.le_of_ble_eq_true rfl, Nat.le_of_ble_eq_true rfl, by decide⟩ hK hc
theorem q28_12 (v0 v1 v2 v3 v4 : Value) (x : Int32) (st : List Value) (h : xH) : rn 28 12 [v0, v1, v2, v3, v4] (.int x :: st) h = rn 28 13 [v0, k2 v1, .int x, v3, v4] st h := e_istore_n (show x_fe 28 12 = some (.istore_n 2, 1) by decide +kernel) (Nat.le_of_ble_eq_true rfl) rfl
theorem q28_13 (v1 v2 v3 v4 : Value) (x : Nat) (st : List Value) (h : xH) : rn 28 13 [.ref x, v1, v2, v3, v4] st h = rn 28 14 [.ref x, v1, v2, v3, v4] (.ref x :: st) h := e_aload_n (show x_fe 28 13 = some (.aload_n 0, 1) by decide +kernel) rfl
theorem q28_14 (v0 v2 v3 v4 : Value) (x : Nat) (st : List Value) (h : xH) : rn 28 14 [v0, .ref x, v2, v3, v4] st h = rn 28 15 [v0, .ref x, v2, v3, v4] (.ref x :: st) h := e_aload_n (show x_fe 28 14 = some (.aload_n 1, 1) by decide +kernel) rfl
theorem q28_14N (v0 v2 v3 v4 : Value) (st : List Value) (h : xH) : rn 28 14 [v0, .null, v2, v3, v4] st h = rn 28 15 [v0, .null, v2, v3, v4] (.null :: st) h := e_aload_nN (show x_fe 28 14 = some (.aload_n 1, 1) by decide +kernel) rfl
theorem q28_15 (L : List Value) (h : xH) (x0 : Nat) (b : Nat) (hK : isK (h.2 b) 2 = true) (hc : (cl 25 [.ref b, .ref x0] h).isSome = true) : rn 28 15 L [.ref x0, .ref b] h = rn 28 18 L (rv (cl 25 [.ref b, .ref x0] h) ++ []) (rh (cl 25 [.ref b, .ref x0] h)) := e_callV (n := 1) (show x_fe 28 15 = some (.invokevirtual 108, 3) by decide +kernel) (by decide +kernel) rfl rfl rfl ⟨by decide +kernel, by decide +kernel, Nat.le_of_ble_eq_true rfl, Nat.le_of_ble_eq_true rfl, by decide⟩ hK hc
theorem q28_18 (v0 v1 v3 v4 : Value) (w : Int32) (x : Int32) (st : List Value) (h : xH) : rn 28 18 [v0, v1, .int w, v3, v4] (.int x :: st) h = rn 28 19 [v0, v1, .int w, .int x, v4] st h := e_istore_n (show x_fe 28 18 = some (.istore_n 3, 1) by decide +kernel) (Nat.le_of_ble_eq_true rfl) rfl
theorem q28_19 (v1 v2 v3 v4 : Value) (x : Nat) (st : List Value) (h : xH) : rn 28 19 [.ref x, v1, v2, v3, v4] st h = rn 28 20 [.ref x, v1, v2, v3, v4] (.ref x :: st) h := e_aload_n (show x_fe 28 19 = some (.aload_n 0, 1) by decide +kernel) rfl
theorem q28_20 (v0 v2 v3 v4 : Value) (x : Nat) (st : List Value) (h : xH) : rn 28 20 [v0, .ref x, v2, v3, v4] st h = rn 28 21 [v0, .ref x, v2, v3, v4] (.ref x :: st) h := e_aload_n (show x_fe 28 20 = some (.aload_n 1, 1) by decide +kernel) rfl
theorem q28_20N (v0 v2 v3 v4 : Value) (st : List Value) (h : xH) : rn 28 20 [v0, .null, v2, v3, v4] st h = rn 28 21 [v0, .null, v2, v3, v4] (.null :: st) h := e_aload_nN (show x_fe 28 20 = some (.aload_n 1, 1) by decide +kernel) rfl
theorem q28_21 (v0 v2 v3 v4 : Value) (x : Nat) (st : List Value) (h : xH) : rn 28 21 [v0, .ref x, v2, v3, v4] st h = rn 28 22 [v0, .ref x, v2, v3, v4] (.ref x :: st) h := e_aload_n (show x_fe 28 21 = some (.aload_n 1, 1) by decide +kernel) rfl
theorem q28_21N (v0 v2 v3 v4 : Value) (st : List Value) (h : xH) : rn 28 21 [v0, .null, v2, v3, v4] st h = rn 28 22 [v0, .null, v2, v3, v4] (.null :: st) h := e_aload_nN (show x_fe 28 21 = some (.aload_n 1, 1) by decide +kernel) rfl
theorem q28_22 (L st : List Value) (h : xH) (a : Nat) (hF : isF (h.2 a) 0 3 = true) : rn 28 22 L (.ref a :: st) h = rn 28 25 L (fld (h.2 a) 3 :: st) h := e_get (show x_fe 28 22 = some (.getfield 111, 3) by decide +kernel) (by decide +kernel) hF
theorem q28_25 (v0 v1 v2 v4 : Value) (x : Int32) (st : List Value) (h : xH) : rn 28 25 [v0, v1, v2, .int x, v4] st h = rn 28 26 [v0, v1, v2, .int x, v4] (.int x :: st) h := e_iload_n (show x_fe 28 25 = some (.iload_n 3, 1) by decide +kernel) rfl
theorem q28_26 (L : List Value) (h : xH) (x0 : Nat) (x1 : Int32) (x2 : Int32) (b : Nat) (hK : isK (h.2 b) 2 = true) (hc : (cl 26 [.ref b, .ref x0, .int x1, .int x2] h).isSome = true) : rn 28 26 L [.int x2, .int x1, .ref x0, .ref b] h = rn 28 29 L (rv (cl 26 [.ref b, .ref x0, .int x1, .int x2] h) ++ []) (rh (cl 26 [.ref b, .ref x0, .int x1, .int x2] h)) := e_callV (n := 3) (show x_fe 28 26 = some (.invokevirtual 114, 3) by decide +kernel) (by decide +kernel) rfl rfl rfl ⟨by decide +kernel, by decide +kernel, Nat.le_of_ble_eq_true rfl, Nat.le_of_ble_eq_true rfl, by decide⟩ hK hc
theorem q28_29 (v0 v1 v3 v4 : Value) (x : Int32) (st : List Value) (h : xH) : rn 28 29 [v0, v1, .int x, v3, v4] st h = rn 28 30 [v0, v1, .int x, v3, v4] (.int x :: st) h := e_iload_n (show x_fe 28 29 = some (.iload_n 2, 1) by decide +kernel) rfl
theorem q28_30 (L st : List Value) (h : xH) (a b : Int32) : rn 28 30 L (.int b :: .int a :: st) h = rn 28 31 L (.int (a + b) :: st) h := e_iadd (show x_fe 28 30 = some (.iadd, 1) by decide +kernel)
theorem q28_31 (v0 v2 v3 v4 : Value) (x : Nat) (st : List Value) (h : xH) : rn 28 31 [v0, .ref x, v2, v3, v4] st h = rn 28 32 [v0, .ref x, v2, v3, v4] (.ref x :: st) h := e_aload_n (show x_fe 28 31 = some (.aload_n 1, 1) by decide +kernel) rfl
theorem q28_31N (v0 v2 v3 v4 : Value) (st : List Value) (h : xH) : rn 28 31 [v0, .null, v2, v3, v4] st h = rn 28 32 [v0, .null, v2, v3, v4] (.null :: st) h := e_aload_nN (show x_fe 28 31 = some (.aload_n 1, 1) by decide +kernel) rfl
theorem q28_32 (L st : List Value) (h : xH) (a : Nat) (hF : isF (h.2 a) 0 3 = true) : rn 28 32 L (.ref a :: st) h = rn 28 35 L (fld (h.2 a) 3 :: st) h := e_get (show x_fe 28 32 = some (.getfield 111, 3) by decide +kernel) (by decide +kernel) hF
theorem q28_35 (L st : List Value) (h : xH) (x w : Int32) : rn 28 35 L (.int w :: .int x :: st) h = if w < x then rn 28 38 L st h else rn 28 69 L st h := e_icmp_le (show x_fe 28 35 = some (.if_icmp .le 34, 3) by decide +kernel) (by decide)
theorem q28_38 (v0 v2 v3 v4 : Value) (x : Nat) (st : List Value) (h : xH) : rn 28 38 [v0, .ref x, v2, v3, v4] st h = rn 28 39 [v0, .ref x, v2, v3, v4] (.ref x :: st) h := e_aload_n (show x_fe 28 38 = some (.aload_n 1, 1) by decide +kernel) rfl
theorem q28_38N (v0 v2 v3 v4 : Value) (st : List Value) (h : xH) : rn 28 38 [v0, .null, v2, v3, v4] st h = rn 28 39 [v0, .null, v2, v3, v4] (.null :: st) h := e_aload_nN (show x_fe 28 38 = some (.aload_n 1, 1) by decide +kernel) rfl
theorem q28_39 (L st : List Value) (h : xH) (a : Nat) : rn 28 39 L (.ref a :: st) h = rn 28 40 L (.ref a :: .ref a :: st) h := e_dupA (show x_fe 28 39 = some (.dup, 1) by decide +kernel)
theorem q28_40 (L st : List Value) (h : xH) (a : Nat) (hF : isF (h.2 a) 0 5 = true) : rn 28 40 L (.ref a :: st) h = rn 28 43 L (fld (h.2 a) 5 :: st) h := e_get (show x_fe 28 40 = some (.getfield 68, 3) by decide +kernel) (by decide +kernel) hF
theorem q28_43 (v0 v2 v3 v4 : Value) (x : Nat) (st : List Value) (h : xH) : rn 28 43 [v0, .ref x, v2, v3, v4] st h = rn 28 44 [v0, .ref x, v2, v3, v4] (.ref x :: st) h := e_aload_n (show x_fe 28 43 = some (.aload_n 1, 1) by decide +kernel) rfl
theorem q28_43N (v0 v2 v3 v4 : Value) (st : List Value) (h : xH) : rn 28 43 [v0, .null, v2, v3, v4] st h = rn 28 44 [v0, .null, v2, v3, v4] (.null :: st) h := e_aload_nN (show x_fe 28 43 = some (.aload_n 1, 1) by decide +kernel) rfl
theorem q28_44 (L st : List Value) (h : xH) (a : Nat) (hF : isF (h.2 a) 0 3 = true) : rn 28 44 L (.ref a :: st) h = rn 28 47 L (fld (h.2 a) 3 :: st) h := e_get (show x_fe 28 44 = some (.getfield 111, 3) by decide +kernel) (by decide +kernel) hF
theorem q28_47 (L st : List Value) (h : xH) (a b : Int32) : rn 28 47 L (.int b :: .int a :: st) h = rn 28 48 L (.int (a + b) :: st) h := e_iadd (show x_fe 28 47 = some (.iadd, 1) by decide +kernel)
theorem q28_48 (L st : List Value) (h : xH) (x : Int32) (a : Nat) (hF : isF (h.2 a) 0 5 = true) : rn 28 48 L (.int x :: .ref a :: st) h = rn 28 51 L st (h.1, mu h.2 a (fset (h.2 a) 5 (.int x))) := e_put (fin := false) (ci := 0) (k := 5) (show x_fe 28 48 = some (.putfield 68, 3) by decide +kernel) (by decide +kernel) (by decide +kernel) rfl hF
theorem q28_51 (v0 v2 v3 v4 : Value) (x : Nat) (st : List Value) (h : xH) : rn 28 51 [v0, .ref x, v2, v3, v4] st h = rn 28 52 [v0, .ref x, v2, v3, v4] (.ref x :: st) h := e_aload_n (show x_fe 28 51 = some (.aload_n 1, 1) by decide +kernel) rfl
theorem q28_51N (v0 v2 v3 v4 : Value) (st : List Value) (h : xH) : rn 28 51 [v0, .null, v2, v3, v4] st h = rn 28 52 [v0, .null, v2, v3, v4] (.null :: st) h := e_aload_nN (show x_fe 28 51 = some (.aload_n 1, 1) by decide +kernel) rfl
theorem q28_52 (v1 v2 v3 v4 : Value) (x : Nat) (st : List Value) (h : xH) : rn 28 52 [.ref x, v1, v2, v3, v4] st h = rn 28 53 [.ref x, v1, v2, v3, v4] (.ref x :: st) h := e_aload_n (show x_fe 28 52 = some (.aload_n 0, 1) by decide +kernel) rfl
theorem q28_53 (L st : List Value) (h : xH) (a : Nat) (hF : isF (h.2 a) 2 1 = true) : rn 28 53 L (.ref a :: st) h = rn 28 56 L (fld (h.2 a) 1 :: st) h := e_get (show x_fe 28 53 = some (.getfield 15, 3) by decide +kernel) (by decide +kernel) hF
theorem q28_56 (L st : List Value) (h : xH) (x : Int32) (a : Nat) (hF : isF (h.2 a) 0 3 = true) : rn 28 56 L (.int x :: .ref a :: st) h = rn 28 59 L st (h.1, mu h.2 a (fset (h.2 a) 3 (.int x))) := e_put (fin := false) (ci := 0) (k := 3) (show x_fe 28 56 = some (.putfield 111, 3) by decide +kernel) (by decide +kernel) (by decide +kernel) rfl hF
theorem q28_59 (v0 v2 v3 v4 : Value) (x : Nat) (st : List Value) (h : xH) : rn 28 59 [v0, .ref x, v2, v3, v4] st h = rn 28 60 [v0, .ref x, v2, v3, v4] (.ref x :: st) h := e_aload_n (show x_fe 28 59 = some (.aload_n 1, 1) by decide +kernel) rfl
theorem q28_59N (v0 v2 v3 v4 : Value) (st : List Value) (h : xH) : rn 28 59 [v0, .null, v2, v3, v4] st h = rn 28 60 [v0, .null, v2, v3, v4] (.null :: st) h := e_aload_nN (show x_fe 28 59 = some (.aload_n 1, 1) by decide +kernel) rfl
theorem q28_60 (L st : List Value) (h : xH) (a : Nat) : rn 28 60 L (.ref a :: st) h = rn 28 61 L (.ref a :: .ref a :: st) h := e_dupA (show x_fe 28 60 = some (.dup, 1) by decide +kernel)
theorem q28_61 (L st : List Value) (h : xH) (a : Nat) (hF : isF (h.2 a) 0 4 = true) : rn 28 61 L (.ref a :: st) h = rn 28 64 L (fld (h.2 a) 4 :: st) h := e_get (show x_fe 28 61 = some (.getfield 51, 3) by decide +kernel) (by decide +kernel) hF
theorem q28_64 (L st : List Value) (h : xH) : rn 28 64 L st h = rn 28 65 L (.int 1 :: st) h := e_iconst (show x_fe 28 64 = some (.iconst 1, 1) by decide +kernel) (by decide)
theorem q28_65 (L st : List Value) (h : xH) (a b : Int32) : rn 28 65 L (.int b :: .int a :: st) h = rn 28 66 L (.int (a + b) :: st) h := e_iadd (show x_fe 28 65 = some (.iadd, 1) by decide +kernel)
theorem q28_66 (L st : List Value) (h : xH) (x : Int32) (a : Nat) (hF : isF (h.2 a) 0 4 = true) : rn 28 66 L (.int x :: .ref a :: st) h = rn 28 69 L st (h.1, mu h.2 a (fset (h.2 a) 4 (.int x))) := e_put (fin := false) (ci := 0) (k := 4) (show x_fe 28 66 = some (.putfield 51, 3) by decide +kernel) (by decide +kernel) (by decide +kernel) rfl hF
theorem q28_69 (v1 v2 v3 v4 : Value) (x : Nat) (st : List Value) (h : xH) : rn 28 69 [.ref x, v1, v2, v3, v4] st h = rn 28 70 [.ref x, v1, v2, v3, v4] (.ref x :: st) h := e_aload_n (show x_fe 28 69 = some (.aload_n 0, 1) by decide +kernel) rfl
theorem q28_70 (v0 v2 v3 v4 : Value) (x : Nat) (st : List Value) (h : xH) : rn 28 70 [v0, .ref x, v2, v3, v4] st h = rn 28 71 [v0, .ref x, v2, v3, v4] (.ref x :: st) h := e_aload_n (show x_fe 28 70 = some (.aload_n 1, 1) by decide +kernel) rfl
theorem q28_70N (v0 v2 v3 v4 : Value) (st : List Value) (h : xH) : rn 28 70 [v0, .null, v2, v3, v4] st h = rn 28 71 [v0, .null, v2, v3, v4] (.null :: st) h := e_aload_nN (show x_fe 28 70 = some (.aload_n 1, 1) by decide +kernel) rfl
theorem q28_71 (v0 v2 v3 v4 : Value) (x : Nat) (st : List Value) (h : xH) : rn 28 71 [v0, .ref x, v2, v3, v4] st h = rn 28 72 [v0, .ref x, v2, v3, v4] (.ref x :: st) h := e_aload_n (show x_fe 28 71 = some (.aload_n 1, 1) by decide +kernel) rfl
theorem q28_71N (v0 v2 v3 v4 : Value) (st : List Value) (h : xH) : rn 28 71 [v0, .null, v2, v3, v4] st h = rn 28 72 [v0, .null, v2, v3, v4] (.null :: st) h := e_aload_nN (show x_fe 28 71 = some (.aload_n 1, 1) by decide +kernel) rfl
theorem q28_72 (L st : List Value) (h : xH) (a : Nat) (hF : isF (h.2 a) 0 3 = true) : rn 28 72 L (.ref a :: st) h = rn 28 75 L (fld (h.2 a) 3 :: st) h := e_get (show x_fe 28 72 = some (.getfield 111, 3) by decide +kernel) (by decide +kernel) hF
theorem q28_75 (v0 v1 v2 v4 : Value) (x : Int32) (st : List Value) (h : xH) : rn 28 75 [v0, v1, v2, .int x, v4] st h = rn 28 76 [v0, v1, v2, .int x, v4] (.int x :: st) h := e_iload_n (show x_fe 28 75 = some (.iload_n 3, 1) by decide +kernel) rfl
theorem q28_76 (L : List Value) (h : xH) (x0 : Nat) (x1 : Int32) (x2 : Int32) (b : Nat) (hK : isK (h.2 b) 2 = true) (hc : (cl 26 [.ref b, .ref x0, .int x1, .int x2] h).isSome = true) : rn 28 76 L [.int x2, .int x1, .ref x0, .ref b] h = rn 28 79 L (rv (cl 26 [.ref b, .ref x0, .int x1, .int x2] h) ++ []) (rh (cl 26 [.ref b, .ref x0, .int x1, .int x2] h)) := e_callV (n := 3) (show x_fe 28 76 = some (.invokevirtual 114, 3) by decide +kernel) (by decide +kernel) rfl rfl rfl ⟨by decide +kernel, by decide +kernel, Nat.le_of_ble_eq_true rfl, Nat.le_of_ble_eq_true rfl, by decide⟩ hK hc
theorem q28_79 (v0 v1 v2 v4 : Value) (w : Int32) (x : Int32) (st : List Value) (h : xH) : rn 28 79 [v0, v1, v2, .int w, v4] (.int x :: st) h = rn 28 81 [v0, v1, v2, .int w, .int x] st h := e_istore (show x_fe 28 79 = some (.istore 4, 2) by decide +kernel) (Nat.le_of_ble_eq_true rfl) rfl
theorem q28_81 (v0 v2 v3 v4 : Value) (x : Nat) (st : List Value) (h : xH) : rn 28 81 [v0, .ref x, v2, v3, v4] st h = rn 28 82 [v0, .ref x, v2, v3, v4] (.ref x :: st) h := e_aload_n (show x_fe 28 81 = some (.aload_n 1, 1) by decide +kernel) rfl
theorem q28_81N (v0 v2 v3 v4 : Value) (st : List Value) (h : xH) : rn 28 81 [v0, .null, v2, v3, v4] st h = rn 28 82 [v0, .null, v2, v3, v4] (.null :: st) h := e_aload_nN (show x_fe 28 81 = some (.aload_n 1, 1) by decide +kernel) rfl
theorem q28_82 (L st : List Value) (h : xH) (a : Nat) : rn 28 82 L (.ref a :: st) h = rn 28 83 L (.ref a :: .ref a :: st) h := e_dupA (show x_fe 28 82 = some (.dup, 1) by decide +kernel)
theorem q28_83 (L st : List Value) (h : xH) (a : Nat) (hF : isF (h.2 a) 0 5 = true) : rn 28 83 L (.ref a :: st) h = rn 28 86 L (fld (h.2 a) 5 :: st) h := e_get (show x_fe 28 83 = some (.getfield 68, 3) by decide +kernel) (by decide +kernel) hF
theorem q28_86 (v0 v1 v2 v3 : Value) (x : Int32) (st : List Value) (h : xH) : rn 28 86 [v0, v1, v2, v3, .int x] st h = rn 28 88 [v0, v1, v2, v3, .int x] (.int x :: st) h := e_iload (show x_fe 28 86 = some (.iload 4, 2) by decide +kernel) rfl
theorem q28_88 (L st : List Value) (h : xH) (a b : Int32) : rn 28 88 L (.int b :: .int a :: st) h = rn 28 89 L (.int (a + b) :: st) h := e_iadd (show x_fe 28 88 = some (.iadd, 1) by decide +kernel)
theorem q28_89 (L st : List Value) (h : xH) (x : Int32) (a : Nat) (hF : isF (h.2 a) 0 5 = true) : rn 28 89 L (.int x :: .ref a :: st) h = rn 28 92 L st (h.1, mu h.2 a (fset (h.2 a) 5 (.int x))) := e_put (fin := false) (ci := 0) (k := 5) (show x_fe 28 89 = some (.putfield 68, 3) by decide +kernel) (by decide +kernel) (by decide +kernel) rfl hF
theorem q28_92 (v0 v2 v3 v4 : Value) (x : Nat) (st : List Value) (h : xH) : rn 28 92 [v0, .ref x, v2, v3, v4] st h = rn 28 93 [v0, .ref x, v2, v3, v4] (.ref x :: st) h := e_aload_n (show x_fe 28 92 = some (.aload_n 1, 1) by decide +kernel) rfl
theorem q28_92N (v0 v2 v3 v4 : Value) (st : List Value) (h : xH) : rn 28 92 [v0, .null, v2, v3, v4] st h = rn 28 93 [v0, .null, v2, v3, v4] (.null :: st) h := e_aload_nN (show x_fe 28 92 = some (.aload_n 1, 1) by decide +kernel) rfl
theorem q28_93 (L st : List Value) (h : xH) (a : Nat) : rn 28 93 L (.ref a :: st) h = rn 28 94 L (.ref a :: .ref a :: st) h := e_dupA (show x_fe 28 93 = some (.dup, 1) by decide +kernel)
theorem q28_94 (L st : List Value) (h : xH) (a : Nat) (hF : isF (h.2 a) 0 3 = true) : rn 28 94 L (.ref a :: st) h = rn 28 97 L (fld (h.2 a) 3 :: st) h := e_get (show x_fe 28 94 = some (.getfield 111, 3) by decide +kernel) (by decide +kernel) hF
theorem q28_97 (v0 v1 v2 v3 : Value) (x : Int32) (st : List Value) (h : xH) : rn 28 97 [v0, v1, v2, v3, .int x] st h = rn 28 99 [v0, v1, v2, v3, .int x] (.int x :: st) h := e_iload (show x_fe 28 97 = some (.iload 4, 2) by decide +kernel) rfl
theorem q28_99 (v0 v1 v3 v4 : Value) (x : Int32) (st : List Value) (h : xH) : rn 28 99 [v0, v1, .int x, v3, v4] st h = rn 28 100 [v0, v1, .int x, v3, v4] (.int x :: st) h := e_iload_n (show x_fe 28 99 = some (.iload_n 2, 1) by decide +kernel) rfl
theorem q28_100 (L st : List Value) (h : xH) (a b : Int32) : rn 28 100 L (.int b :: .int a :: st) h = rn 28 101 L (.int (a + b) :: st) h := e_iadd (show x_fe 28 100 = some (.iadd, 1) by decide +kernel)
theorem q28_101 (L st : List Value) (h : xH) (a b : Int32) : rn 28 101 L (.int b :: .int a :: st) h = rn 28 102 L (.int (a - b) :: st) h := e_isub (show x_fe 28 101 = some (.isub, 1) by decide +kernel)
theorem q28_102 (L st : List Value) (h : xH) (x : Int32) (a : Nat) (hF : isF (h.2 a) 0 3 = true) : rn 28 102 L (.int x :: .ref a :: st) h = rn 28 105 L st (h.1, mu h.2 a (fset (h.2 a) 3 (.int x))) := e_put (fin := false) (ci := 0) (k := 3) (show x_fe 28 102 = some (.putfield 111, 3) by decide +kernel) (by decide +kernel) (by decide +kernel) rfl hF
theorem q28_105 (v0 v2 v3 v4 : Value) (x : Nat) (st : List Value) (h : xH) : rn 28 105 [v0, .ref x, v2, v3, v4] st h = rn 28 106 [v0, .ref x, v2, v3, v4] (.ref x :: st) h := e_aload_n (show x_fe 28 105 = some (.aload_n 1, 1) by decide +kernel) rfl
theorem q28_105N (v0 v2 v3 v4 : Value) (st : List Value) (h : xH) : rn 28 105 [v0, .null, v2, v3, v4] st h = rn 28 106 [v0, .null, v2, v3, v4] (.null :: st) h := e_aload_nN (show x_fe 28 105 = some (.aload_n 1, 1) by decide +kernel) rfl
theorem q28_106 (L st : List Value) (h : xH) (a : Nat) : rn 28 106 L (.ref a :: st) h = rn 28 107 L (.ref a :: .ref a :: st) h := e_dupA (show x_fe 28 106 = some (.dup, 1) by decide +kernel)
theorem q28_107 (L st : List Value) (h : xH) (a : Nat) (hF : isF (h.2 a) 0 2 = true) : rn 28 107 L (.ref a :: st) h = rn 28 110 L (fld (h.2 a) 2 :: st) h := e_get (show x_fe 28 107 = some (.getfield 54, 3) by decide +kernel) (by decide +kernel) hF
theorem q28_110 (L st : List Value) (h : xH) : rn 28 110 L st h = rn 28 111 L (.int 1 :: st) h := e_iconst (show x_fe 28 110 = some (.iconst 1, 1) by decide +kernel) (by decide)
theorem q28_111 (L st : List Value) (h : xH) (a b : Int32) : rn 28 111 L (.int b :: .int a :: st) h = rn 28 112 L (.int (a + b) :: st) h := e_iadd (show x_fe 28 111 = some (.iadd, 1) by decide +kernel)
theorem q28_112 (L st : List Value) (h : xH) (x : Int32) (a : Nat) (hF : isF (h.2 a) 0 2 = true) : rn 28 112 L (.int x :: .ref a :: st) h = rn 28 115 L st (h.1, mu h.2 a (fset (h.2 a) 2 (.int x))) := e_put (fin := false) (ci := 0) (k := 2) (show x_fe 28 112 = some (.putfield 54, 3) by decide +kernel) (by decide +kernel) (by decide +kernel) rfl hF
theorem q28_115 (L : List Value) (h : xH) : rn 28 115 L [] h = some (none, h) := e_ret (st := []) (show x_fe 28 115 = some (.return_, 1) by decide +kernel) (by decide +kernel)
theorem c29 (x0 : Nat) (x1 : Nat) (h : xH) : cl 29 [.ref x0, .ref x1] h = rn 29 0 [.ref x0, .ref x1, unk] [] h := rfl
theorem q29_0 (v0 v2 : Value) (x : Nat) (st : List Value) (h : xH) : rn 29 0 [v0, .ref x, v2] st h = rn 29 1 [v0, .ref x, v2] (.ref x :: st) h := e_aload_n (show x_fe 29 0 = some (.aload_n 1, 1) by decide +kernel) rfl
theorem q29_0N (v0 v2 : Value) (st : List Value) (h : xH) : rn 29 0 [v0, .null, v2] st h = rn 29 1 [v0, .null, v2] (.null :: st) h := e_aload_nN (show x_fe 29 0 = some (.aload_n 1, 1) by decide +kernel) rfl
theorem q29_1 (L st : List Value) (h : xH) (a : Nat) (hF : isF (h.2 a) 0 0 = true) : rn 29 1 L (.ref a :: st) h = rn 29 4 L (fld (h.2 a) 0 :: st) h := e_get (show x_fe 29 1 = some (.getfield 81, 3) by decide +kernel) (by decide +kernel) hF
theorem q29_4 (L st : List Value) (h : xH) (x : Int32) : rn 29 4 L (.int x :: st) h = if x = 0 then rn 29 19 L st h else rn 29 7 L st h := e_if_eq (show x_fe 29 4 = some (.ifCond .eq 15, 3) by decide +kernel) (by decide)
theorem q29_7 (v1 v2 : Value) (x : Nat) (st : List Value) (h : xH) : rn 29 7 [.ref x, v1, v2] st h = rn 29 8 [.ref x, v1, v2] (.ref x :: st) h := e_aload_n (show x_fe 29 7 = some (.aload_n 0, 1) by decide +kernel) rfl
theorem q29_8 (L st : List Value) (h : xH) (a : Nat) (hF : isF (h.2 a) 2 4 = true) : rn 29 8 L (.ref a :: st) h = rn 29 11 L (fld (h.2 a) 4 :: st) h := e_get (show x_fe 29 8 = some (.getfield 33, 3) by decide +kernel) (by decide +kernel) hF
theorem q29_11 (L st : List Value) (h : xH) (a : Nat) (hF : isF (h.2 a) 0 2 = true) : rn 29 11 L (.ref a :: st) h = rn 29 14 L (fld (h.2 a) 2 :: st) h := e_get (show x_fe 29 11 = some (.getfield 54, 3) by decide +kernel) (by decide +kernel) hF
theorem q29_14 (L st : List Value) (h : xH) : rn 29 14 L st h = rn 29 15 L (.int 1 :: st) h := e_iconst (show x_fe 29 14 = some (.iconst 1, 1) by decide +kernel) (by decide)
theorem q29_15 (L st : List Value) (h : xH) (a b : Int32) : rn 29 15 L (.int b :: .int a :: st) h = rn 29 16 L (.int (a - b) :: st) h := e_isub (show x_fe 29 15 = some (.isub, 1) by decide +kernel)
theorem q29_16 (L st : List Value) (h : xH) : rn 29 16 L st h = rn 29 23 L st h := e_goto (show x_fe 29 16 = some (.goto 7, 3) by decide +kernel) (by decide)
theorem q29_19 (v1 v2 : Value) (x : Nat) (st : List Value) (h : xH) : rn 29 19 [.ref x, v1, v2] st h = rn 29 20 [.ref x, v1, v2] (.ref x :: st) h := e_aload_n (show x_fe 29 19 = some (.aload_n 0, 1) by decide +kernel) rfl
theorem q29_20 (L : List Value) (h : xH)  (b : Nat) (hK : isK (h.2 b) 2 = true) (hc : (cl 16 [.ref b] h).isSome = true) : rn 29 20 L [.ref b] h = rn 29 23 L (rv (cl 16 [.ref b] h) ++ []) (rh (cl 16 [.ref b] h)) := e_callV (n := 0) (show x_fe 29 20 = some (.invokevirtual 61, 3) by decide +kernel) (by decide +kernel) rfl rfl rfl ⟨by decide +kernel, by decide +kernel, Nat.le_of_ble_eq_true rfl, Nat.le_of_ble_eq_true rfl, by decide⟩ hK hc
theorem q29_23 (v0 v1 v2 : Value) (x : Int32) (st : List Value) (h : xH) : rn 29 23 [v0, v1, v2] (.int x :: st) h = rn 29 24 [v0, k2 v1, .int x] st h := e_istore_n (show x_fe 29 23 = some (.istore_n 2, 1) by decide +kernel) (Nat.le_of_ble_eq_true rfl) rfl
theorem q29_24 (v0 v2 : Value) (x : Nat) (st : List Value) (h : xH) : rn 29 24 [v0, .ref x, v2] st h = rn 29 25 [v0, .ref x, v2] (.ref x :: st) h := e_aload_n (show x_fe 29 24 = some (.aload_n 1, 1) by decide +kernel) rfl
theorem q29_24N (v0 v2 : Value) (st : List Value) (h : xH) : rn 29 24 [v0, .null, v2] st h = rn 29 25 [v0, .null, v2] (.null :: st) h := e_aload_nN (show x_fe 29 24 = some (.aload_n 1, 1) by decide +kernel) rfl
theorem q29_25 (L st : List Value) (h : xH) (a : Nat) : rn 29 25 L (.ref a :: st) h = rn 29 26 L (.ref a :: .ref a :: st) h := e_dupA (show x_fe 29 25 = some (.dup, 1) by decide +kernel)
theorem q29_26 (L st : List Value) (h : xH) (a : Nat) (hF : isF (h.2 a) 0 5 = true) : rn 29 26 L (.ref a :: st) h = rn 29 29 L (fld (h.2 a) 5 :: st) h := e_get (show x_fe 29 26 = some (.getfield 68, 3) by decide +kernel) (by decide +kernel) hF
theorem q29_29 (v1 v2 : Value) (x : Nat) (st : List Value) (h : xH) : rn 29 29 [.ref x, v1, v2] st h = rn 29 30 [.ref x, v1, v2] (.ref x :: st) h := e_aload_n (show x_fe 29 29 = some (.aload_n 0, 1) by decide +kernel) rfl
theorem q29_30 (L st : List Value) (h : xH) (a : Nat) (hF : isF (h.2 a) 2 3 = true) : rn 29 30 L (.ref a :: st) h = rn 29 33 L (fld (h.2 a) 3 :: st) h := e_get (show x_fe 29 30 = some (.getfield 24, 3) by decide +kernel) (by decide +kernel) hF
theorem q29_33 (v0 v1 : Value) (x : Int32) (st : List Value) (h : xH) : rn 29 33 [v0, v1, .int x] st h = rn 29 34 [v0, v1, .int x] (.int x :: st) h := e_iload_n (show x_fe 29 33 = some (.iload_n 2, 1) by decide +kernel) rfl
theorem q29_34 (L : List Value) (s0 s1 : Value) (h : xH) (x0 : Int32) (b : Nat) (hK : isK (h.2 b) 6 = true) (hc : (cl 54 [.ref b, .int x0] h).isSome = true) : rn 29 34 L [.int x0, .ref b, s0, s1] h = rn 29 37 L (rv (cl 54 [.ref b, .int x0] h) ++ [s0, s1]) (rh (cl 54 [.ref b, .int x0] h)) := e_callV (n := 1) (show x_fe 29 34 = some (.invokevirtual 101, 3) by decide +kernel) (by decide +kernel) rfl rfl rfl ⟨by decide +kernel, by decide +kernel, Nat.le_of_ble_eq_true rfl, Nat.le_of_ble_eq_true rfl, by decide⟩ hK hc
theorem q29_37 (L st : List Value) (h : xH) (a b : Int32) : rn 29 37 L (.int b :: .int a :: st) h = rn 29 38 L (.int (a + b) :: st) h := e_iadd (show x_fe 29 37 = some (.iadd, 1) by decide +kernel)
theorem q29_38 (L st : List Value) (h : xH) (x : Int32) (a : Nat) (hF : isF (h.2 a) 0 5 = true) : rn 29 38 L (.int x :: .ref a :: st) h = rn 29 41 L st (h.1, mu h.2 a (fset (h.2 a) 5 (.int x))) := e_put (fin := false) (ci := 0) (k := 5) (show x_fe 29 38 = some (.putfield 68, 3) by decide +kernel) (by decide +kernel) (by decide +kernel) rfl hF
theorem q29_41 (v0 v2 : Value) (x : Nat) (st : List Value) (h : xH) : rn 29 41 [v0, .ref x, v2] st h = rn 29 42 [v0, .ref x, v2] (.ref x :: st) h := e_aload_n (show x_fe 29 41 = some (.aload_n 1, 1) by decide +kernel) rfl
theorem q29_41N (v0 v2 : Value) (st : List Value) (h : xH) : rn 29 41 [v0, .null, v2] st h = rn 29 42 [v0, .null, v2] (.null :: st) h := e_aload_nN (show x_fe 29 41 = some (.aload_n 1, 1) by decide +kernel) rfl
theorem q29_42 (L st : List Value) (h : xH) (a : Nat) : rn 29 42 L (.ref a :: st) h = rn 29 43 L (.ref a :: .ref a :: st) h := e_dupA (show x_fe 29 42 = some (.dup, 1) by decide +kernel)
theorem q29_43 (L st : List Value) (h : xH) (a : Nat) (hF : isF (h.2 a) 0 2 = true) : rn 29 43 L (.ref a :: st) h = rn 29 46 L (fld (h.2 a) 2 :: st) h := e_get (show x_fe 29 43 = some (.getfield 54, 3) by decide +kernel) (by decide +kernel) hF
theorem q29_46 (L st : List Value) (h : xH) : rn 29 46 L st h = rn 29 47 L (.int 1 :: st) h := e_iconst (show x_fe 29 46 = some (.iconst 1, 1) by decide +kernel) (by decide)
theorem q29_47 (L st : List Value) (h : xH) (a b : Int32) : rn 29 47 L (.int b :: .int a :: st) h = rn 29 48 L (.int (a - b) :: st) h := e_isub (show x_fe 29 47 = some (.isub, 1) by decide +kernel)
theorem q29_48 (L st : List Value) (h : xH) (x : Int32) (a : Nat) (hF : isF (h.2 a) 0 2 = true) : rn 29 48 L (.int x :: .ref a :: st) h = rn 29 51 L st (h.1, mu h.2 a (fset (h.2 a) 2 (.int x))) := e_put (fin := false) (ci := 0) (k := 2) (show x_fe 29 48 = some (.putfield 54, 3) by decide +kernel) (by decide +kernel) (by decide +kernel) rfl hF
theorem q29_51 (v0 v1 : Value) (x : Int32) (st : List Value) (h : xH) : rn 29 51 [v0, v1, .int x] st h = rn 29 52 [v0, v1, .int x] (.int x :: st) h := e_iload_n (show x_fe 29 51 = some (.iload_n 2, 1) by decide +kernel) rfl
theorem q29_52 (L : List Value) (h : xH) (x : Int32) : rn 29 52 L [.int x] h = some (some (.int x), h) := e_iret (st := []) (ty := .int) (show x_fe 29 52 = some (.ireturn, 1) by decide +kernel) (by decide +kernel) rfl
theorem c30 (x0 : Nat) (h : xH) : cl 30 [.ref x0] h = rn 30 0 [.ref x0] [] h := rfl
theorem q30_0 (x : Nat) (st : List Value) (h : xH) : rn 30 0 [.ref x] st h = rn 30 1 [.ref x] (.ref x :: st) h := e_aload_n (show x_fe 30 0 = some (.aload_n 0, 1) by decide +kernel) rfl
theorem q30_1 (L st : List Value) (h : xH) (a : Nat) (hF : isF (h.2 a) 2 4 = true) : rn 30 1 L (.ref a :: st) h = rn 30 4 L (fld (h.2 a) 4 :: st) h := e_get (show x_fe 30 1 = some (.getfield 33, 3) by decide +kernel) (by decide +kernel) hF
theorem q30_4 (L st : List Value) (h : xH) (a : Nat) (hF : isF (h.2 a) 0 2 = true) : rn 30 4 L (.ref a :: st) h = rn 30 7 L (fld (h.2 a) 2 :: st) h := e_get (show x_fe 30 4 = some (.getfield 54, 3) by decide +kernel) (by decide +kernel) hF
theorem q30_7 (L st : List Value) (h : xH) (x : Int32) : rn 30 7 L (.int x :: st) h = if 0 < x then rn 30 10 L st h else rn 30 38 L st h := e_if_le (show x_fe 30 7 = some (.ifCond .le 31, 3) by decide +kernel) (by decide)
theorem q30_10 (x : Nat) (st : List Value) (h : xH) : rn 30 10 [.ref x] st h = rn 30 11 [.ref x] (.ref x :: st) h := e_aload_n (show x_fe 30 10 = some (.aload_n 0, 1) by decide +kernel) rfl
theorem q30_11 (L st : List Value) (h : xH) (a : Nat) (hF : isF (h.2 a) 2 5 = true) : rn 30 11 L (.ref a :: st) h = rn 30 14 L (fld (h.2 a) 5 :: st) h := e_get (show x_fe 30 11 = some (.getfield 37, 3) by decide +kernel) (by decide +kernel) hF
theorem q30_14 (L st : List Value) (h : xH) (a : Nat) (hF : isF (h.2 a) 0 2 = true) : rn 30 14 L (.ref a :: st) h = rn 30 17 L (fld (h.2 a) 2 :: st) h := e_get (show x_fe 30 14 = some (.getfield 54, 3) by decide +kernel) (by decide +kernel) hF
theorem q30_17 (L st : List Value) (h : xH) (x : Int32) : rn 30 17 L (.int x :: st) h = if 0 < x then rn 30 20 L st h else rn 30 38 L st h := e_if_le (show x_fe 30 17 = some (.ifCond .le 21, 3) by decide +kernel) (by decide)
theorem q30_20 (x : Nat) (st : List Value) (h : xH) : rn 30 20 [.ref x] st h = rn 30 21 [.ref x] (.ref x :: st) h := e_aload_n (show x_fe 30 20 = some (.aload_n 0, 1) by decide +kernel) rfl
theorem q30_21 (L : List Value) (h : xH)  (b : Nat) (hK : isK (h.2 b) 2 = true) (hc : (cl 12 [.ref b] h).isSome = true) : rn 30 21 L [.ref b] h = rn 30 24 L (rv (cl 12 [.ref b] h) ++ []) (rh (cl 12 [.ref b] h)) := e_callV (n := 0) (show x_fe 30 21 = some (.invokevirtual 78, 3) by decide +kernel) (by decide +kernel) rfl rfl rfl ⟨by decide +kernel, by decide +kernel, Nat.le_of_ble_eq_true rfl, Nat.le_of_ble_eq_true rfl, by decide⟩ hK hc
theorem q30_24 (x : Nat) (st : List Value) (h : xH) : rn 30 24 [.ref x] st h = rn 30 25 [.ref x] (.ref x :: st) h := e_aload_n (show x_fe 30 24 = some (.aload_n 0, 1) by decide +kernel) rfl
theorem q30_25 (L st : List Value) (h : xH) (a : Nat) (hF : isF (h.2 a) 2 3 = true) : rn 30 25 L (.ref a :: st) h = rn 30 28 L (fld (h.2 a) 3 :: st) h := e_get (show x_fe 30 25 = some (.getfield 24, 3) by decide +kernel) (by decide +kernel) hF
theorem q30_28 (L st : List Value) (h : xH) (a : Nat) (hF : isF (h.2 a) 6 3 = true) : rn 30 28 L (.ref a :: st) h = rn 30 31 L (fld (h.2 a) 3 :: st) h := e_get (show x_fe 30 28 = some (.getfield 71, 3) by decide +kernel) (by decide +kernel) hF
theorem q30_31 (L st : List Value) (h : xH) (x w : Int32) : rn 30 31 L (.int w :: .int x :: st) h = if x = w then rn 30 34 L st h else rn 30 38 L st h := e_icmp_ne (show x_fe 30 31 = some (.if_icmp .ne 7, 3) by decide +kernel) (by decide)
theorem q30_34 (L st : List Value) (h : xH) : rn 30 34 L st h = rn 30 35 L (.int 1 :: st) h := e_iconst (show x_fe 30 34 = some (.iconst 1, 1) by decide +kernel) (by decide)
theorem q30_35 (L st : List Value) (h : xH) : rn 30 35 L st h = rn 30 39 L st h := e_goto (show x_fe 30 35 = some (.goto 4, 3) by decide +kernel) (by decide)
theorem q30_38 (L st : List Value) (h : xH) : rn 30 38 L st h = rn 30 39 L (.int 0 :: st) h := e_iconst (show x_fe 30 38 = some (.iconst 0, 1) by decide +kernel) (by decide)
theorem q30_39 (L : List Value) (h : xH) (x : Int32) (hx : (x == 0 || x == 1) = true) : rn 30 39 L [.int x] h = some (some (.int x), h) := e_iret (st := []) (ty := .boolean) (show x_fe 30 39 = some (.ireturn, 1) by decide +kernel) (by decide +kernel) hx
theorem c31 (x0 : Nat) (x1 : Int32) (x2 : Int32) (h : xH) : cl 31 [.ref x0, .int x1, .int x2] h = rn 31 0 [.ref x0, .int x1, .int x2, unk] [] h := rfl
theorem q31_0 (v0 v2 v3 : Value) (x : Int32) (st : List Value) (h : xH) : rn 31 0 [v0, .int x, v2, v3] st h = rn 31 1 [v0, .int x, v2, v3] (.int x :: st) h := e_iload_n (show x_fe 31 0 = some (.iload_n 1, 1) by decide +kernel) rfl
theorem q31_1 (v0 v1 v3 : Value) (x : Int32) (st : List Value) (h : xH) : rn 31 1 [v0, v1, .int x, v3] st h = rn 31 2 [v0, v1, .int x, v3] (.int x :: st) h := e_iload_n (show x_fe 31 1 = some (.iload_n 2, 1) by decide +kernel) rfl
theorem q31_2 (L st : List Value) (h : xH) (a b : Int32) : rn 31 2 L (.int b :: .int a :: st) h = rn 31 3 L (.int (a - b) :: st) h := e_isub (show x_fe 31 2 = some (.isub, 1) by decide +kernel)
theorem q31_3 (v1 v2 v3 : Value) (x : Nat) (st : List Value) (h : xH) : rn 31 3 [.ref x, v1, v2, v3] st h = rn 31 4 [.ref x, v1, v2, v3] (.ref x :: st) h := e_aload_n (show x_fe 31 3 = some (.aload_n 0, 1) by decide +kernel) rfl
theorem q31_4 (L st : List Value) (h : xH) (a : Nat) (hF : isF (h.2 a) 2 0 = true) : rn 31 4 L (.ref a :: st) h = rn 31 7 L (fld (h.2 a) 0 :: st) h := e_get (show x_fe 31 4 = some (.getfield 9, 3) by decide +kernel) (by decide +kernel) hF
theorem q31_7 (L : List Value) (h : xH) (x0 : Int32) (x1 : Int32) (hc : (cl 85 [.int x0, .int x1] h).isSome = true) : rn 31 7 L [.int x1, .int x0] h = rn 31 10 L (rv (cl 85 [.int x0, .int x1] h) ++ []) (rh (cl 85 [.int x0, .int x1] h)) := e_callS (n := 2) (show x_fe 31 7 = some (.invokestatic 88, 3) by decide +kernel) (by decide +kernel) (by decide +kernel) rfl rfl rfl ⟨by decide +kernel, by decide +kernel, Nat.le_of_ble_eq_true rfl, Nat.le_of_ble_eq_true rfl, by decide⟩ hc
theorem q31_10 (v0 v1 v3 : Value) (w : Int32) (x : Int32) (st : List Value) (h : xH) : rn 31 10 [v0, v1, .int w, v3] (.int x :: st) h = rn 31 11 [v0, v1, .int w, .int x] st h := e_istore_n (show x_fe 31 10 = some (.istore_n 3, 1) by decide +kernel) (Nat.le_of_ble_eq_true rfl) rfl
theorem q31_11 (v0 v1 v2 : Value) (x : Int32) (st : List Value) (h : xH) : rn 31 11 [v0, v1, v2, .int x] st h = rn 31 12 [v0, v1, v2, .int x] (.int x :: st) h := e_iload_n (show x_fe 31 11 = some (.iload_n 3, 1) by decide +kernel) rfl
theorem q31_12 (v1 v2 v3 : Value) (x : Nat) (st : List Value) (h : xH) : rn 31 12 [.ref x, v1, v2, v3] st h = rn 31 13 [.ref x, v1, v2, v3] (.ref x :: st) h := e_aload_n (show x_fe 31 12 = some (.aload_n 0, 1) by decide +kernel) rfl
theorem q31_13 (L st : List Value) (h : xH) (a : Nat) (hF : isF (h.2 a) 2 0 = true) : rn 31 13 L (.ref a :: st) h = rn 31 16 L (fld (h.2 a) 0 :: st) h := e_get (show x_fe 31 13 = some (.getfield 9, 3) by decide +kernel) (by decide +kernel) hF
theorem q31_16 (v0 v1 v2 : Value) (x : Int32) (st : List Value) (h : xH) : rn 31 16 [v0, v1, v2, .int x] st h = rn 31 17 [v0, v1, v2, .int x] (.int x :: st) h := e_iload_n (show x_fe 31 16 = some (.iload_n 3, 1) by decide +kernel) rfl
theorem q31_17 (L st : List Value) (h : xH) (a b : Int32) : rn 31 17 L (.int b :: .int a :: st) h = rn 31 18 L (.int (a - b) :: st) h := e_isub (show x_fe 31 17 = some (.isub, 1) by decide +kernel)
theorem q31_18 (L : List Value) (h : xH) (v w : Int32) : rn 31 18 L [.int w, .int v] h = rn 31 21 L [.int (if w < v then w else v)] h := e_math (b := false) (show x_fe 31 18 = some (.invokestatic 118, 3) by decide +kernel) (by decide +kernel) (by decide +kernel)
theorem q31_21 (L : List Value) (h : xH) (x : Int32) : rn 31 21 L [.int x] h = some (some (.int x), h) := e_iret (st := []) (ty := .int) (show x_fe 31 21 = some (.ireturn, 1) by decide +kernel) (by decide +kernel) rfl
theorem c32 (x0 : Nat) (x1 : Int32) (h : xH) : cl 32 [.ref x0, .int x1] h = rn 32 0 [.ref x0, .int x1] [] h := rfl
theorem q32_0 (v1 : Value) (x : Nat) (st : List Value) (h : xH) : rn 32 0 [.ref x, v1] st h = rn 32 1 [.ref x, v1] (.ref x :: st) h := e_aload_n (show x_fe 32 0 = some (.aload_n 0, 1) by decide +kernel) rfl
theorem q32_1 (v1 : Value) (x : Nat) (st : List Value) (h : xH) : rn 32 1 [.ref x, v1] st h = rn 32 2 [.ref x, v1] (.ref x :: st) h := e_aload_n (show x_fe 32 1 = some (.aload_n 0, 1) by decide +kernel) rfl
theorem q32_2 (v0 : Value) (x : Int32) (st : List Value) (h : xH) : rn 32 2 [v0, .int x] st h = rn 32 3 [v0, .int x] (.int x :: st) h := e_iload_n (show x_fe 32 2 = some (.iload_n 1, 1) by decide +kernel) rfl
theorem q32_3 (L : List Value) (s0 : Value) (h : xH) (x0 : Int32) (b : Nat) (hK : isK (h.2 b) 2 = true) (hc : (cl 20 [.ref b, .int x0] h).isSome = true) : rn 32 3 L [.int x0, .ref b, s0] h = rn 32 6 L (rv (cl 20 [.ref b, .int x0] h) ++ [s0]) (rh (cl 20 [.ref b, .int x0] h)) := e_callV (n := 1) (show x_fe 32 3 = some (.invokevirtual 92, 3) by decide +kernel) (by decide +kernel) rfl rfl rfl ⟨by decide +kernel, by decide +kernel, Nat.le_of_ble_eq_true rfl, Nat.le_of_ble_eq_true rfl, by decide⟩ hK hc
theorem q32_6 (v1 : Value) (x : Nat) (st : List Value) (h : xH) : rn 32 6 [.ref x, v1] st h = rn 32 7 [.ref x, v1] (.ref x :: st) h := e_aload_n (show x_fe 32 6 = some (.aload_n 0, 1) by decide +kernel) rfl
theorem q32_7 (v0 : Value) (x : Int32) (st : List Value) (h : xH) : rn 32 7 [v0, .int x] st h = rn 32 8 [v0, .int x] (.int x :: st) h := e_iload_n (show x_fe 32 7 = some (.iload_n 1, 1) by decide +kernel) rfl
theorem q32_8 (L : List Value) (s0 s1 : Value) (h : xH) (x0 : Int32) (b : Nat) (hK : isK (h.2 b) 2 = true) (hc : (cl 21 [.ref b, .int x0] h).isSome = true) : rn 32 8 L [.int x0, .ref b, s0, s1] h = rn 32 11 L (rv (cl 21 [.ref b, .int x0] h) ++ [s0, s1]) (rh (cl 21 [.ref b, .int x0] h)) := e_callV (n := 1) (show x_fe 32 8 = some (.invokevirtual 95, 3) by decide +kernel) (by decide +kernel) rfl rfl rfl ⟨by decide +kernel, by decide +kernel, Nat.le_of_ble_eq_true rfl, Nat.le_of_ble_eq_true rfl, by decide⟩ hK hc
theorem q32_11 (L : List Value) (h : xH) (x0 : Int32) (x1 : Int32) (b : Nat) (hK : isK (h.2 b) 2 = true) (hc : (cl 31 [.ref b, .int x0, .int x1] h).isSome = true) : rn 32 11 L [.int x1, .int x0, .ref b] h = rn 32 14 L (rv (cl 31 [.ref b, .int x0, .int x1] h) ++ []) (rh (cl 31 [.ref b, .int x0, .int x1] h)) := e_callV (n := 2) (show x_fe 32 11 = some (.invokevirtual 123, 3) by decide +kernel) (by decide +kernel) rfl rfl rfl ⟨by decide +kernel, by decide +kernel, Nat.le_of_ble_eq_true rfl, Nat.le_of_ble_eq_true rfl, by decide⟩ hK hc
theorem q32_14 (L : List Value) (h : xH) (x : Int32) : rn 32 14 L [.int x] h = some (some (.int x), h) := e_iret (st := []) (ty := .int) (show x_fe 32 14 = some (.ireturn, 1) by decide +kernel) (by decide +kernel) rfl
theorem c33 (x0 : Nat) (x1 : Int32) (h : xH) : cl 33 [.ref x0, .int x1] h = rn 33 0 [.ref x0, .int x1] [] h := rfl
theorem q33_0 (v1 : Value) (x : Nat) (st : List Value) (h : xH) : rn 33 0 [.ref x, v1] st h = rn 33 1 [.ref x, v1] (.ref x :: st) h := e_aload_n (show x_fe 33 0 = some (.aload_n 0, 1) by decide +kernel) rfl
theorem q33_1 (v0 : Value) (x : Int32) (st : List Value) (h : xH) : rn 33 1 [v0, .int x] st h = rn 33 2 [v0, .int x] (.int x :: st) h := e_iload_n (show x_fe 33 1 = some (.iload_n 1, 1) by decide +kernel) rfl
theorem q33_2 (L : List Value) (h : xH) (x0 : Int32) (b : Nat) (hK : isK (h.2 b) 2 = true) (hc : (cl 32 [.ref b, .int x0] h).isSome = true) : rn 33 2 L [.int x0, .ref b] h = rn 33 5 L (rv (cl 32 [.ref b, .int x0] h) ++ []) (rh (cl 32 [.ref b, .int x0] h)) := e_callV (n := 1) (show x_fe 33 2 = some (.invokevirtual 126, 3) by decide +kernel) (by decide +kernel) rfl rfl rfl ⟨by decide +kernel, by decide +kernel, Nat.le_of_ble_eq_true rfl, Nat.le_of_ble_eq_true rfl, by decide⟩ hK hc
theorem q33_5 (v1 : Value) (x : Nat) (st : List Value) (h : xH) : rn 33 5 [.ref x, v1] st h = rn 33 6 [.ref x, v1] (.ref x :: st) h := e_aload_n (show x_fe 33 5 = some (.aload_n 0, 1) by decide +kernel) rfl
theorem q33_6 (L st : List Value) (h : xH) (a : Nat) (hF : isF (h.2 a) 2 2 = true) : rn 33 6 L (.ref a :: st) h = rn 33 9 L (fld (h.2 a) 2 :: st) h := e_get (show x_fe 33 6 = some (.getfield 18, 3) by decide +kernel) (by decide +kernel) hF
theorem q33_9 (L st : List Value) (h : xH) (x w : Int32) : rn 33 9 L (.int w :: .int x :: st) h = if w < x then rn 33 16 L st h else rn 33 12 L st h := e_icmp_gt (show x_fe 33 9 = some (.if_icmp .gt 7, 3) by decide +kernel) (by decide)
theorem q33_12 (L st : List Value) (h : xH) : rn 33 12 L st h = rn 33 13 L (.int 1 :: st) h := e_iconst (show x_fe 33 12 = some (.iconst 1, 1) by decide +kernel) (by decide)
theorem q33_13 (L st : List Value) (h : xH) : rn 33 13 L st h = rn 33 17 L st h := e_goto (show x_fe 33 13 = some (.goto 4, 3) by decide +kernel) (by decide)
theorem q33_16 (L st : List Value) (h : xH) : rn 33 16 L st h = rn 33 17 L (.int 0 :: st) h := e_iconst (show x_fe 33 16 = some (.iconst 0, 1) by decide +kernel) (by decide)
theorem q33_17 (L : List Value) (h : xH) (x : Int32) : rn 33 17 L [.int x] h = some (some (.int x), h) := e_iret (st := []) (ty := .int) (show x_fe 33 17 = some (.ireturn, 1) by decide +kernel) (by decide +kernel) rfl
theorem c34 (x0 : Nat) (x1 : Int32) (h : xH) : cl 34 [.ref x0, .int x1] h = rn 34 0 [.ref x0, .int x1, unk, unk, unk] [] h := rfl
theorem q34_0 (v1 v2 v3 v4 : Value) (x : Nat) (st : List Value) (h : xH) : rn 34 0 [.ref x, v1, v2, v3, v4] st h = rn 34 1 [.ref x, v1, v2, v3, v4] (.ref x :: st) h := e_aload_n (show x_fe 34 0 = some (.aload_n 0, 1) by decide +kernel) rfl
theorem q34_1 (L st : List Value) (h : xH) (a : Nat) (hF : isF (h.2 a) 2 4 = true) : rn 34 1 L (.ref a :: st) h = rn 34 4 L (fld (h.2 a) 4 :: st) h := e_get (show x_fe 34 1 = some (.getfield 33, 3) by decide +kernel) (by decide +kernel) hF
theorem q34_4 (L st : List Value) (h : xH) (a : Nat) (hF : isF (h.2 a) 0 1 = true) : rn 34 4 L (.ref a :: st) h = rn 34 7 L (fld (h.2 a) 1 :: st) h := e_get (show x_fe 34 4 = some (.getfield 85, 3) by decide +kernel) (by decide +kernel) hF
theorem q34_7 (v0 v2 v3 v4 : Value) (w : Int32) (x : Int32) (st : List Value) (h : xH) : rn 34 7 [v0, .int w, v2, v3, v4] (.int x :: st) h = rn 34 8 [v0, .int w, .int x, v3, v4] st h := e_istore_n (show x_fe 34 7 = some (.istore_n 2, 1) by decide +kernel) (Nat.le_of_ble_eq_true rfl) rfl
theorem q34_8 (L st : List Value) (h : xH) : rn 34 8 L st h = rn 34 9 L (.int 0 :: st) h := e_iconst (show x_fe 34 8 = some (.iconst 0, 1) by decide +kernel) (by decide)
theorem q34_9 (v0 v1 v3 v4 : Value) (w : Int32) (x : Int32) (st : List Value) (h : xH) : rn 34 9 [v0, v1, .int w, v3, v4] (.int x :: st) h = rn 34 10 [v0, v1, .int w, .int x, v4] st h := e_istore_n (show x_fe 34 9 = some (.istore_n 3, 1) by decide +kernel) (Nat.le_of_ble_eq_true rfl) rfl
theorem q34_10 (v0 v1 v2 v4 : Value) (x : Int32) (st : List Value) (h : xH) : rn 34 10 [v0, v1, v2, .int x, v4] st h = rn 34 11 [v0, v1, v2, .int x, v4] (.int x :: st) h := e_iload_n (show x_fe 34 10 = some (.iload_n 3, 1) by decide +kernel) rfl
theorem q34_11 (v0 v2 v3 v4 : Value) (x : Int32) (st : List Value) (h : xH) : rn 34 11 [v0, .int x, v2, v3, v4] st h = rn 34 12 [v0, .int x, v2, v3, v4] (.int x :: st) h := e_iload_n (show x_fe 34 11 = some (.iload_n 1, 1) by decide +kernel) rfl
theorem q34_12 (L st : List Value) (h : xH) (x w : Int32) : rn 34 12 L (.int w :: .int x :: st) h = if x < w then rn 34 15 L st h else rn 34 39 L st h := e_icmp_ge (show x_fe 34 12 = some (.if_icmp .ge 27, 3) by decide +kernel) (by decide)
theorem q34_15 (v0 v1 v3 v4 : Value) (x : Int32) (st : List Value) (h : xH) : rn 34 15 [v0, v1, .int x, v3, v4] st h = rn 34 16 [v0, v1, .int x, v3, v4] (.int x :: st) h := e_iload_n (show x_fe 34 15 = some (.iload_n 2, 1) by decide +kernel) rfl
theorem q34_16 (v1 v2 v3 v4 : Value) (x : Nat) (st : List Value) (h : xH) : rn 34 16 [.ref x, v1, v2, v3, v4] st h = rn 34 17 [.ref x, v1, v2, v3, v4] (.ref x :: st) h := e_aload_n (show x_fe 34 16 = some (.aload_n 0, 1) by decide +kernel) rfl
theorem q34_17 (L st : List Value) (h : xH) (a : Nat) (hF : isF (h.2 a) 2 3 = true) : rn 34 17 L (.ref a :: st) h = rn 34 20 L (fld (h.2 a) 3 :: st) h := e_get (show x_fe 34 17 = some (.getfield 24, 3) by decide +kernel) (by decide +kernel) hF
theorem q34_20 (v0 v1 v2 v4 : Value) (x : Int32) (st : List Value) (h : xH) : rn 34 20 [v0, v1, v2, .int x, v4] st h = rn 34 21 [v0, v1, v2, .int x, v4] (.int x :: st) h := e_iload_n (show x_fe 34 20 = some (.iload_n 3, 1) by decide +kernel) rfl
theorem q34_21 (L : List Value) (s0 : Value) (h : xH) (x0 : Int32) (b : Nat) (hK : isK (h.2 b) 6 = true) (hc : (cl 54 [.ref b, .int x0] h).isSome = true) : rn 34 21 L [.int x0, .ref b, s0] h = rn 34 24 L (rv (cl 54 [.ref b, .int x0] h) ++ [s0]) (rh (cl 54 [.ref b, .int x0] h)) := e_callV (n := 1) (show x_fe 34 21 = some (.invokevirtual 101, 3) by decide +kernel) (by decide +kernel) rfl rfl rfl ⟨by decide +kernel, by decide +kernel, Nat.le_of_ble_eq_true rfl, Nat.le_of_ble_eq_true rfl, by decide⟩ hK hc
theorem q34_24 (L st : List Value) (h : xH) (a b : Int32) : rn 34 24 L (.int b :: .int a :: st) h = rn 34 25 L (.int (a + b) :: st) h := e_iadd (show x_fe 34 24 = some (.iadd, 1) by decide +kernel)
theorem q34_25 (v1 v2 v3 v4 : Value) (x : Nat) (st : List Value) (h : xH) : rn 34 25 [.ref x, v1, v2, v3, v4] st h = rn 34 26 [.ref x, v1, v2, v3, v4] (.ref x :: st) h := e_aload_n (show x_fe 34 25 = some (.aload_n 0, 1) by decide +kernel) rfl
theorem q34_26 (L st : List Value) (h : xH) (a : Nat) (hF : isF (h.2 a) 2 0 = true) : rn 34 26 L (.ref a :: st) h = rn 34 29 L (fld (h.2 a) 0 :: st) h := e_get (show x_fe 34 26 = some (.getfield 9, 3) by decide +kernel) (by decide +kernel) hF
theorem q34_29 (L : List Value) (h : xH) (x0 : Int32) (x1 : Int32) (hc : (cl 85 [.int x0, .int x1] h).isSome = true) : rn 34 29 L [.int x1, .int x0] h = rn 34 32 L (rv (cl 85 [.int x0, .int x1] h) ++ []) (rh (cl 85 [.int x0, .int x1] h)) := e_callS (n := 2) (show x_fe 34 29 = some (.invokestatic 88, 3) by decide +kernel) (by decide +kernel) (by decide +kernel) rfl rfl rfl ⟨by decide +kernel, by decide +kernel, Nat.le_of_ble_eq_true rfl, Nat.le_of_ble_eq_true rfl, by decide⟩ hc
theorem q34_32 (v0 v2 v3 v4 : Value) (w : Int32) (x : Int32) (st : List Value) (h : xH) : rn 34 32 [v0, .int w, v2, v3, v4] (.int x :: st) h = rn 34 33 [v0, .int w, .int x, v3, v4] st h := e_istore_n (show x_fe 34 32 = some (.istore_n 2, 1) by decide +kernel) (Nat.le_of_ble_eq_true rfl) rfl
theorem q34_33 (v0 v1 v4 : Value) (w : Int32) (x : Int32) (st : List Value) (h : xH) : rn 34 33 [v0, v1, .int w, .int x, v4] st h = rn 34 36 [v0, v1, .int w, .int (x + 1), v4] st h := e_iinc (show x_fe 34 33 = some (.iinc 3 1, 3) by decide +kernel) (by decide) rfl (Nat.le_of_ble_eq_true rfl) rfl
theorem q34_36 (L st : List Value) (h : xH) : rn 34 36 L st h = rn 34 10 L st h := e_goto (show x_fe 34 36 = some (.goto (-26), 3) by decide +kernel) (by decide)
theorem q34_39 (v1 v2 v3 v4 : Value) (x : Nat) (st : List Value) (h : xH) : rn 34 39 [.ref x, v1, v2, v3, v4] st h = rn 34 40 [.ref x, v1, v2, v3, v4] (.ref x :: st) h := e_aload_n (show x_fe 34 39 = some (.aload_n 0, 1) by decide +kernel) rfl
theorem q34_40 (L st : List Value) (h : xH) (a : Nat) (hF : isF (h.2 a) 2 5 = true) : rn 34 40 L (.ref a :: st) h = rn 34 43 L (fld (h.2 a) 5 :: st) h := e_get (show x_fe 34 40 = some (.getfield 37, 3) by decide +kernel) (by decide +kernel) hF
theorem q34_43 (L st : List Value) (h : xH) (a : Nat) (hF : isF (h.2 a) 0 1 = true) : rn 34 43 L (.ref a :: st) h = rn 34 46 L (fld (h.2 a) 1 :: st) h := e_get (show x_fe 34 43 = some (.getfield 85, 3) by decide +kernel) (by decide +kernel) hF
theorem q34_46 (v0 v1 v3 v4 : Value) (w : Int32) (x : Int32) (st : List Value) (h : xH) : rn 34 46 [v0, v1, .int w, v3, v4] (.int x :: st) h = rn 34 47 [v0, v1, .int w, .int x, v4] st h := e_istore_n (show x_fe 34 46 = some (.istore_n 3, 1) by decide +kernel) (Nat.le_of_ble_eq_true rfl) rfl
theorem q34_47 (v1 v2 v3 v4 : Value) (x : Nat) (st : List Value) (h : xH) : rn 34 47 [.ref x, v1, v2, v3, v4] st h = rn 34 48 [.ref x, v1, v2, v3, v4] (.ref x :: st) h := e_aload_n (show x_fe 34 47 = some (.aload_n 0, 1) by decide +kernel) rfl
theorem q34_48 (L st : List Value) (h : xH) (a : Nat) (hF : isF (h.2 a) 2 3 = true) : rn 34 48 L (.ref a :: st) h = rn 34 51 L (fld (h.2 a) 3 :: st) h := e_get (show x_fe 34 48 = some (.getfield 24, 3) by decide +kernel) (by decide +kernel) hF
theorem q34_51 (L st : List Value) (h : xH) (a : Nat) (hF : isF (h.2 a) 6 3 = true) : rn 34 51 L (.ref a :: st) h = rn 34 54 L (fld (h.2 a) 3 :: st) h := e_get (show x_fe 34 51 = some (.getfield 71, 3) by decide +kernel) (by decide +kernel) hF
theorem q34_54 (L st : List Value) (h : xH) : rn 34 54 L st h = rn 34 55 L (.int 1 :: st) h := e_iconst (show x_fe 34 54 = some (.iconst 1, 1) by decide +kernel) (by decide)
theorem q34_55 (L st : List Value) (h : xH) (a b : Int32) : rn 34 55 L (.int b :: .int a :: st) h = rn 34 56 L (.int (a - b) :: st) h := e_isub (show x_fe 34 55 = some (.isub, 1) by decide +kernel)
theorem q34_56 (v0 v1 v2 v4 : Value) (w : Int32) (x : Int32) (st : List Value) (h : xH) : rn 34 56 [v0, v1, v2, .int w, v4] (.int x :: st) h = rn 34 58 [v0, v1, v2, .int w, .int x] st h := e_istore (show x_fe 34 56 = some (.istore 4, 2) by decide +kernel) (Nat.le_of_ble_eq_true rfl) rfl
theorem q34_58 (v0 v1 v2 v3 : Value) (x : Int32) (st : List Value) (h : xH) : rn 34 58 [v0, v1, v2, v3, .int x] st h = rn 34 60 [v0, v1, v2, v3, .int x] (.int x :: st) h := e_iload (show x_fe 34 58 = some (.iload 4, 2) by decide +kernel) rfl
theorem q34_60 (v0 v2 v3 v4 : Value) (x : Int32) (st : List Value) (h : xH) : rn 34 60 [v0, .int x, v2, v3, v4] st h = rn 34 61 [v0, .int x, v2, v3, v4] (.int x :: st) h := e_iload_n (show x_fe 34 60 = some (.iload_n 1, 1) by decide +kernel) rfl
theorem q34_61 (L st : List Value) (h : xH) (x w : Int32) : rn 34 61 L (.int w :: .int x :: st) h = if x < w then rn 34 89 L st h else rn 34 64 L st h := e_icmp_lt (show x_fe 34 61 = some (.if_icmp .lt 28, 3) by decide +kernel) (by decide)
theorem q34_64 (v0 v1 v2 v4 : Value) (x : Int32) (st : List Value) (h : xH) : rn 34 64 [v0, v1, v2, .int x, v4] st h = rn 34 65 [v0, v1, v2, .int x, v4] (.int x :: st) h := e_iload_n (show x_fe 34 64 = some (.iload_n 3, 1) by decide +kernel) rfl
theorem q34_65 (v1 v2 v3 v4 : Value) (x : Nat) (st : List Value) (h : xH) : rn 34 65 [.ref x, v1, v2, v3, v4] st h = rn 34 66 [.ref x, v1, v2, v3, v4] (.ref x :: st) h := e_aload_n (show x_fe 34 65 = some (.aload_n 0, 1) by decide +kernel) rfl
theorem q34_66 (L st : List Value) (h : xH) (a : Nat) (hF : isF (h.2 a) 2 3 = true) : rn 34 66 L (.ref a :: st) h = rn 34 69 L (fld (h.2 a) 3 :: st) h := e_get (show x_fe 34 66 = some (.getfield 24, 3) by decide +kernel) (by decide +kernel) hF
theorem q34_69 (v0 v1 v2 v3 : Value) (x : Int32) (st : List Value) (h : xH) : rn 34 69 [v0, v1, v2, v3, .int x] st h = rn 34 71 [v0, v1, v2, v3, .int x] (.int x :: st) h := e_iload (show x_fe 34 69 = some (.iload 4, 2) by decide +kernel) rfl
theorem q34_71 (L : List Value) (s0 : Value) (h : xH) (x0 : Int32) (b : Nat) (hK : isK (h.2 b) 6 = true) (hc : (cl 54 [.ref b, .int x0] h).isSome = true) : rn 34 71 L [.int x0, .ref b, s0] h = rn 34 74 L (rv (cl 54 [.ref b, .int x0] h) ++ [s0]) (rh (cl 54 [.ref b, .int x0] h)) := e_callV (n := 1) (show x_fe 34 71 = some (.invokevirtual 101, 3) by decide +kernel) (by decide +kernel) rfl rfl rfl ⟨by decide +kernel, by decide +kernel, Nat.le_of_ble_eq_true rfl, Nat.le_of_ble_eq_true rfl, by decide⟩ hK hc
theorem q34_74 (L st : List Value) (h : xH) (a b : Int32) : rn 34 74 L (.int b :: .int a :: st) h = rn 34 75 L (.int (a - b) :: st) h := e_isub (show x_fe 34 74 = some (.isub, 1) by decide +kernel)
theorem q34_75 (v1 v2 v3 v4 : Value) (x : Nat) (st : List Value) (h : xH) : rn 34 75 [.ref x, v1, v2, v3, v4] st h = rn 34 76 [.ref x, v1, v2, v3, v4] (.ref x :: st) h := e_aload_n (show x_fe 34 75 = some (.aload_n 0, 1) by decide +kernel) rfl
theorem q34_76 (L st : List Value) (h : xH) (a : Nat) (hF : isF (h.2 a) 2 0 = true) : rn 34 76 L (.ref a :: st) h = rn 34 79 L (fld (h.2 a) 0 :: st) h := e_get (show x_fe 34 76 = some (.getfield 9, 3) by decide +kernel) (by decide +kernel) hF
theorem q34_79 (L : List Value) (h : xH) (x0 : Int32) (x1 : Int32) (hc : (cl 85 [.int x0, .int x1] h).isSome = true) : rn 34 79 L [.int x1, .int x0] h = rn 34 82 L (rv (cl 85 [.int x0, .int x1] h) ++ []) (rh (cl 85 [.int x0, .int x1] h)) := e_callS (n := 2) (show x_fe 34 79 = some (.invokestatic 88, 3) by decide +kernel) (by decide +kernel) (by decide +kernel) rfl rfl rfl ⟨by decide +kernel, by decide +kernel, Nat.le_of_ble_eq_true rfl, Nat.le_of_ble_eq_true rfl, by decide⟩ hc
theorem q34_82 (v0 v1 v3 v4 : Value) (w : Int32) (x : Int32) (st : List Value) (h : xH) : rn 34 82 [v0, v1, .int w, v3, v4] (.int x :: st) h = rn 34 83 [v0, v1, .int w, .int x, v4] st h := e_istore_n (show x_fe 34 82 = some (.istore_n 3, 1) by decide +kernel) (Nat.le_of_ble_eq_true rfl) rfl
theorem q34_83 (v0 v1 v2 : Value) (w : Int32) (x : Int32) (st : List Value) (h : xH) : rn 34 83 [v0, v1, v2, .int w, .int x] st h = rn 34 86 [v0, v1, v2, .int w, .int (x + (-1))] st h := e_iinc (show x_fe 34 83 = some (.iinc 4 (-1), 3) by decide +kernel) (by decide) rfl (Nat.le_of_ble_eq_true rfl) rfl
theorem q34_86 (L st : List Value) (h : xH) : rn 34 86 L st h = rn 34 58 L st h := e_goto (show x_fe 34 86 = some (.goto (-28), 3) by decide +kernel) (by decide)
theorem q34_89 (v1 v2 v3 v4 : Value) (x : Nat) (st : List Value) (h : xH) : rn 34 89 [.ref x, v1, v2, v3, v4] st h = rn 34 90 [.ref x, v1, v2, v3, v4] (.ref x :: st) h := e_aload_n (show x_fe 34 89 = some (.aload_n 0, 1) by decide +kernel) rfl
theorem q34_90 (v0 v1 v3 v4 : Value) (x : Int32) (st : List Value) (h : xH) : rn 34 90 [v0, v1, .int x, v3, v4] st h = rn 34 91 [v0, v1, .int x, v3, v4] (.int x :: st) h := e_iload_n (show x_fe 34 90 = some (.iload_n 2, 1) by decide +kernel) rfl
theorem q34_91 (v0 v1 v2 v4 : Value) (x : Int32) (st : List Value) (h : xH) : rn 34 91 [v0, v1, v2, .int x, v4] st h = rn 34 92 [v0, v1, v2, .int x, v4] (.int x :: st) h := e_iload_n (show x_fe 34 91 = some (.iload_n 3, 1) by decide +kernel) rfl
theorem q34_92 (L : List Value) (h : xH) (x0 : Int32) (x1 : Int32) (b : Nat) (hK : isK (h.2 b) 2 = true) (hc : (cl 31 [.ref b, .int x0, .int x1] h).isSome = true) : rn 34 92 L [.int x1, .int x0, .ref b] h = rn 34 95 L (rv (cl 31 [.ref b, .int x0, .int x1] h) ++ []) (rh (cl 31 [.ref b, .int x0, .int x1] h)) := e_callV (n := 2) (show x_fe 34 92 = some (.invokevirtual 123, 3) by decide +kernel) (by decide +kernel) rfl rfl rfl ⟨by decide +kernel, by decide +kernel, Nat.le_of_ble_eq_true rfl, Nat.le_of_ble_eq_true rfl, by decide⟩ hK hc
theorem q34_95 (L : List Value) (h : xH) (x : Int32) : rn 34 95 L [.int x] h = some (some (.int x), h) := e_iret (st := []) (ty := .int) (show x_fe 34 95 = some (.ireturn, 1) by decide +kernel) (by decide +kernel) rfl
theorem c35 (x0 : Nat) (h : xH) : cl 35 [.ref x0] h = rn 35 0 [.ref x0] [] h := rfl
theorem q35_0 (x : Nat) (st : List Value) (h : xH) : rn 35 0 [.ref x] st h = rn 35 1 [.ref x] (.ref x :: st) h := e_aload_n (show x_fe 35 0 = some (.aload_n 0, 1) by decide +kernel) rfl
theorem q35_1 (x : Nat) (st : List Value) (h : xH) : rn 35 1 [.ref x] st h = rn 35 2 [.ref x] (.ref x :: st) h := e_aload_n (show x_fe 35 1 = some (.aload_n 0, 1) by decide +kernel) rfl
theorem q35_2 (L st : List Value) (h : xH) (a : Nat) (hF : isF (h.2 a) 2 4 = true) : rn 35 2 L (.ref a :: st) h = rn 35 5 L (fld (h.2 a) 4 :: st) h := e_get (show x_fe 35 2 = some (.getfield 33, 3) by decide +kernel) (by decide +kernel) hF
theorem q35_5 (L st : List Value) (h : xH) (a : Nat) (hF : isF (h.2 a) 0 1 = true) : rn 35 5 L (.ref a :: st) h = rn 35 8 L (fld (h.2 a) 1 :: st) h := e_get (show x_fe 35 5 = some (.getfield 85, 3) by decide +kernel) (by decide +kernel) hF
theorem q35_8 (x : Nat) (st : List Value) (h : xH) : rn 35 8 [.ref x] st h = rn 35 9 [.ref x] (.ref x :: st) h := e_aload_n (show x_fe 35 8 = some (.aload_n 0, 1) by decide +kernel) rfl
theorem q35_9 (L st : List Value) (h : xH) (a : Nat) (hF : isF (h.2 a) 2 3 = true) : rn 35 9 L (.ref a :: st) h = rn 35 12 L (fld (h.2 a) 3 :: st) h := e_get (show x_fe 35 9 = some (.getfield 24, 3) by decide +kernel) (by decide +kernel) hF
theorem q35_12 (L : List Value) (s0 s1 : Value) (h : xH)  (b : Nat) (hK : isK (h.2 b) 6 = true) (hc : (cl 56 [.ref b] h).isSome = true) : rn 35 12 L [.ref b, s0, s1] h = rn 35 15 L (rv (cl 56 [.ref b] h) ++ [s0, s1]) (rh (cl 56 [.ref b] h)) := e_callV (n := 0) (show x_fe 35 12 = some (.invokevirtual 129, 3) by decide +kernel) (by decide +kernel) rfl rfl rfl ⟨by decide +kernel, by decide +kernel, Nat.le_of_ble_eq_true rfl, Nat.le_of_ble_eq_true rfl, by decide⟩ hK hc
theorem q35_15 (L st : List Value) (h : xH) (a b : Int32) : rn 35 15 L (.int b :: .int a :: st) h = rn 35 16 L (.int (a + b) :: st) h := e_iadd (show x_fe 35 15 = some (.iadd, 1) by decide +kernel)
theorem q35_16 (x : Nat) (st : List Value) (h : xH) : rn 35 16 [.ref x] st h = rn 35 17 [.ref x] (.ref x :: st) h := e_aload_n (show x_fe 35 16 = some (.aload_n 0, 1) by decide +kernel) rfl
theorem q35_17 (L st : List Value) (h : xH) (a : Nat) (hF : isF (h.2 a) 2 5 = true) : rn 35 17 L (.ref a :: st) h = rn 35 20 L (fld (h.2 a) 5 :: st) h := e_get (show x_fe 35 17 = some (.getfield 37, 3) by decide +kernel) (by decide +kernel) hF
theorem q35_20 (L st : List Value) (h : xH) (a : Nat) (hF : isF (h.2 a) 0 1 = true) : rn 35 20 L (.ref a :: st) h = rn 35 23 L (fld (h.2 a) 1 :: st) h := e_get (show x_fe 35 20 = some (.getfield 85, 3) by decide +kernel) (by decide +kernel) hF
theorem q35_23 (L : List Value) (h : xH) (x0 : Int32) (x1 : Int32) (b : Nat) (hK : isK (h.2 b) 2 = true) (hc : (cl 31 [.ref b, .int x0, .int x1] h).isSome = true) : rn 35 23 L [.int x1, .int x0, .ref b] h = rn 35 26 L (rv (cl 31 [.ref b, .int x0, .int x1] h) ++ []) (rh (cl 31 [.ref b, .int x0, .int x1] h)) := e_callV (n := 2) (show x_fe 35 23 = some (.invokevirtual 123, 3) by decide +kernel) (by decide +kernel) rfl rfl rfl ⟨by decide +kernel, by decide +kernel, Nat.le_of_ble_eq_true rfl, Nat.le_of_ble_eq_true rfl, by decide⟩ hK hc
theorem q35_26 (L : List Value) (h : xH) (x : Int32) : rn 35 26 L [.int x] h = some (some (.int x), h) := e_iret (st := []) (ty := .int) (show x_fe 35 26 = some (.ireturn, 1) by decide +kernel) (by decide +kernel) rfl
theorem c36 (x0 : Nat) (h : xH) : cl 36 [.ref x0] h = rn 36 0 [.ref x0] [] h := rfl
theorem q36_0 (x : Nat) (st : List Value) (h : xH) : rn 36 0 [.ref x] st h = rn 36 1 [.ref x] (.ref x :: st) h := e_aload_n (show x_fe 36 0 = some (.aload_n 0, 1) by decide +kernel) rfl
theorem q36_1 (L : List Value) (h : xH) (a : Nat) : rn 36 1 L [.ref a] h = rn 36 4 L [] h := e_oinit (show x_fe 36 1 = some (.invokespecial 3, 3) by decide +kernel) (by decide +kernel) (by decide +kernel)
theorem q36_4 (x : Nat) (st : List Value) (h : xH) : rn 36 4 [.ref x] st h = rn 36 5 [.ref x] (.ref x :: st) h := e_aload_n (show x_fe 36 4 = some (.aload_n 0, 1) by decide +kernel) rfl
theorem q36_5 (L st : List Value) (h : xH) : rn 36 5 L st h = rn 36 7 L (.int 60 :: st) h := e_bipush (show x_fe 36 5 = some (.bipush 60, 2) by decide +kernel) (by decide)
theorem q36_7 (L st : List Value) (h : xH) (n : Int32) (hn : ¬ n < 0 ∧ n.toNatClampNeg * 4 ≤ 536870912) : rn 36 7 L (.int n :: st) h = rn 36 9 L (.ref h.1.1 :: st) ((h.1.1 + 1, h.1.2 + n.toNatClampNeg), mu h.2 h.1.1 (.inl (0, n.toNatClampNeg, .inl (fun _ => 0)))) := e_narrI (show x_fe 36 7 = some (.newarray .int, 2) by decide +kernel) hn
theorem q36_9 (L st : List Value) (h : xH) (x : Nat) (a : Nat) (hF : isF (h.2 a) 3 0 = true) : rn 36 9 L (.ref x :: .ref a :: st) h = rn 36 12 L st (h.1, mu h.2 a (fset (h.2 a) 0 (.ref x))) := e_put (fin := true) (ci := 3) (k := 0) (show x_fe 36 9 = some (.putfield 9, 3) by decide +kernel) (by decide +kernel) (by decide +kernel) rfl hF
theorem q36_12 (x : Nat) (st : List Value) (h : xH) : rn 36 12 [.ref x] st h = rn 36 13 [.ref x] (.ref x :: st) h := e_aload_n (show x_fe 36 12 = some (.aload_n 0, 1) by decide +kernel) rfl
theorem q36_13 (L st : List Value) (h : xH) : rn 36 13 L st h = rn 36 14 L (.int 0 :: st) h := e_iconst (show x_fe 36 13 = some (.iconst 0, 1) by decide +kernel) (by decide)
theorem q36_14 (L st : List Value) (h : xH) (x : Int32) (a : Nat) (hF : isF (h.2 a) 3 1 = true) : rn 36 14 L (.int x :: .ref a :: st) h = rn 36 17 L st (h.1, mu h.2 a (fset (h.2 a) 1 (.int x))) := e_put (fin := false) (ci := 3) (k := 1) (show x_fe 36 14 = some (.putfield 15, 3) by decide +kernel) (by decide +kernel) (by decide +kernel) rfl hF
theorem q36_17 (L : List Value) (h : xH) : rn 36 17 L [] h = some (none, h) := e_ret (st := []) (show x_fe 36 17 = some (.return_, 1) by decide +kernel) (by decide +kernel)
theorem c37 (x0 : Nat) (x1 : Int32) (h : xH) : cl 37 [.ref x0, .int x1] h = rn 37 0 [.ref x0, .int x1] [] h := rfl
theorem q37_0 (v1 : Value) (x : Nat) (st : List Value) (h : xH) : rn 37 0 [.ref x, v1] st h = rn 37 1 [.ref x, v1] (.ref x :: st) h := e_aload_n (show x_fe 37 0 = some (.aload_n 0, 1) by decide +kernel) rfl
theorem q37_1 (L st : List Value) (h : xH) (a : Nat) (hF : isF (h.2 a) 3 1 = true) : rn 37 1 L (.ref a :: st) h = rn 37 4 L (fld (h.2 a) 1 :: st) h := e_get (show x_fe 37 1 = some (.getfield 15, 3) by decide +kernel) (by decide +kernel) hF
theorem q37_4 (L st : List Value) (h : xH) (x : Int32) : rn 37 4 L (.int x :: st) h = if x < 0 then rn 37 39 L st h else rn 37 7 L st h := e_if_lt (show x_fe 37 4 = some (.ifCond .lt 35, 3) by decide +kernel) (by decide)
theorem q37_7 (v1 : Value) (x : Nat) (st : List Value) (h : xH) : rn 37 7 [.ref x, v1] st h = rn 37 8 [.ref x, v1] (.ref x :: st) h := e_aload_n (show x_fe 37 7 = some (.aload_n 0, 1) by decide +kernel) rfl
theorem q37_8 (L st : List Value) (h : xH) (a : Nat) (hF : isF (h.2 a) 3 1 = true) : rn 37 8 L (.ref a :: st) h = rn 37 11 L (fld (h.2 a) 1 :: st) h := e_get (show x_fe 37 8 = some (.getfield 15, 3) by decide +kernel) (by decide +kernel) hF
theorem q37_11 (v1 : Value) (x : Nat) (st : List Value) (h : xH) : rn 37 11 [.ref x, v1] st h = rn 37 12 [.ref x, v1] (.ref x :: st) h := e_aload_n (show x_fe 37 11 = some (.aload_n 0, 1) by decide +kernel) rfl
theorem q37_12 (L st : List Value) (h : xH) (a : Nat) (hF : isF (h.2 a) 3 0 = true) : rn 37 12 L (.ref a :: st) h = rn 37 15 L (fld (h.2 a) 0 :: st) h := e_get (show x_fe 37 12 = some (.getfield 9, 3) by decide +kernel) (by decide +kernel) hF
theorem q37_15 (L st : List Value) (h : xH) (a : Nat) (hF : isA 37 (h.2 a) = true) : rn 37 15 L (.ref a :: st) h = rn 37 16 L (.int (Int32.ofNat (alen (h.2 a))) :: st) h := e_alen (show x_fe 37 15 = some (.arraylength, 1) by decide +kernel) hF
theorem q37_16 (L st : List Value) (h : xH) (x w : Int32) : rn 37 16 L (.int w :: .int x :: st) h = if x < w then rn 37 19 L st h else rn 37 39 L st h := e_icmp_ge (show x_fe 37 16 = some (.if_icmp .ge 23, 3) by decide +kernel) (by decide)
theorem q37_19 (v1 : Value) (x : Nat) (st : List Value) (h : xH) : rn 37 19 [.ref x, v1] st h = rn 37 20 [.ref x, v1] (.ref x :: st) h := e_aload_n (show x_fe 37 19 = some (.aload_n 0, 1) by decide +kernel) rfl
theorem q37_20 (L st : List Value) (h : xH) (a : Nat) (hF : isF (h.2 a) 3 0 = true) : rn 37 20 L (.ref a :: st) h = rn 37 23 L (fld (h.2 a) 0 :: st) h := e_get (show x_fe 37 20 = some (.getfield 9, 3) by decide +kernel) (by decide +kernel) hF
theorem q37_23 (v1 : Value) (x : Nat) (st : List Value) (h : xH) : rn 37 23 [.ref x, v1] st h = rn 37 24 [.ref x, v1] (.ref x :: st) h := e_aload_n (show x_fe 37 23 = some (.aload_n 0, 1) by decide +kernel) rfl
theorem q37_24 (L st : List Value) (h : xH) (a : Nat) (hF : isF (h.2 a) 3 1 = true) : rn 37 24 L (.ref a :: st) h = rn 37 27 L (fld (h.2 a) 1 :: st) h := e_get (show x_fe 37 24 = some (.getfield 15, 3) by decide +kernel) (by decide +kernel) hF
theorem q37_27 (v0 : Value) (x : Int32) (st : List Value) (h : xH) : rn 37 27 [v0, .int x] st h = rn 37 28 [v0, .int x] (.int x :: st) h := e_iload_n (show x_fe 37 27 = some (.iload_n 1, 1) by decide +kernel) rfl
theorem q37_28 (L st : List Value) (h : xH) (a : Nat) (i x : Int32) (hF : inW (h.2 a) i = true) : rn 37 28 L (.int x :: .int i :: .ref a :: st) h = rn 37 29 L st (h.1, mu h.2 a (aset (h.2 a) i x)) := e_iast (show x_fe 37 28 = some (.iastore, 1) by decide +kernel) hF
theorem q37_29 (v1 : Value) (x : Nat) (st : List Value) (h : xH) : rn 37 29 [.ref x, v1] st h = rn 37 30 [.ref x, v1] (.ref x :: st) h := e_aload_n (show x_fe 37 29 = some (.aload_n 0, 1) by decide +kernel) rfl
theorem q37_30 (L st : List Value) (h : xH) (a : Nat) : rn 37 30 L (.ref a :: st) h = rn 37 31 L (.ref a :: .ref a :: st) h := e_dupA (show x_fe 37 30 = some (.dup, 1) by decide +kernel)
theorem q37_31 (L st : List Value) (h : xH) (a : Nat) (hF : isF (h.2 a) 3 1 = true) : rn 37 31 L (.ref a :: st) h = rn 37 34 L (fld (h.2 a) 1 :: st) h := e_get (show x_fe 37 31 = some (.getfield 15, 3) by decide +kernel) (by decide +kernel) hF
theorem q37_34 (L st : List Value) (h : xH) : rn 37 34 L st h = rn 37 35 L (.int 1 :: st) h := e_iconst (show x_fe 37 34 = some (.iconst 1, 1) by decide +kernel) (by decide)
theorem q37_35 (L st : List Value) (h : xH) (a b : Int32) : rn 37 35 L (.int b :: .int a :: st) h = rn 37 36 L (.int (a + b) :: st) h := e_iadd (show x_fe 37 35 = some (.iadd, 1) by decide +kernel)
theorem q37_36 (L st : List Value) (h : xH) (x : Int32) (a : Nat) (hF : isF (h.2 a) 3 1 = true) : rn 37 36 L (.int x :: .ref a :: st) h = rn 37 39 L st (h.1, mu h.2 a (fset (h.2 a) 1 (.int x))) := e_put (fin := false) (ci := 3) (k := 1) (show x_fe 37 36 = some (.putfield 15, 3) by decide +kernel) (by decide +kernel) (by decide +kernel) rfl hF
theorem q37_39 (L : List Value) (h : xH) : rn 37 39 L [] h = some (none, h) := e_ret (st := []) (show x_fe 37 39 = some (.return_, 1) by decide +kernel) (by decide +kernel)
theorem c38 (x0 : Nat) (x1 : Int32) (h : xH) : cl 38 [.ref x0, .int x1] h = rn 38 0 [.ref x0, .int x1] [] h := rfl
theorem q38_0 (v0 : Value) (x : Int32) (st : List Value) (h : xH) : rn 38 0 [v0, .int x] st h = rn 38 1 [v0, .int x] (.int x :: st) h := e_iload_n (show x_fe 38 0 = some (.iload_n 1, 1) by decide +kernel) rfl
theorem q38_1 (v1 : Value) (x : Nat) (st : List Value) (h : xH) : rn 38 1 [.ref x, v1] st h = rn 38 2 [.ref x, v1] (.ref x :: st) h := e_aload_n (show x_fe 38 1 = some (.aload_n 0, 1) by decide +kernel) rfl
theorem q38_2 (L st : List Value) (h : xH) (a : Nat) (hF : isF (h.2 a) 3 1 = true) : rn 38 2 L (.ref a :: st) h = rn 38 5 L (fld (h.2 a) 1 :: st) h := e_get (show x_fe 38 2 = some (.getfield 15, 3) by decide +kernel) (by decide +kernel) hF
theorem q38_5 (L st : List Value) (h : xH) (x w : Int32) : rn 38 5 L (.int w :: .int x :: st) h = if x < w then rn 38 8 L st h else rn 38 19 L st h := e_icmp_ge (show x_fe 38 5 = some (.if_icmp .ge 14, 3) by decide +kernel) (by decide)
theorem q38_8 (v1 : Value) (x : Nat) (st : List Value) (h : xH) : rn 38 8 [.ref x, v1] st h = rn 38 9 [.ref x, v1] (.ref x :: st) h := e_aload_n (show x_fe 38 8 = some (.aload_n 0, 1) by decide +kernel) rfl
theorem q38_9 (L st : List Value) (h : xH) (a : Nat) (hF : isF (h.2 a) 3 0 = true) : rn 38 9 L (.ref a :: st) h = rn 38 12 L (fld (h.2 a) 0 :: st) h := e_get (show x_fe 38 9 = some (.getfield 9, 3) by decide +kernel) (by decide +kernel) hF
theorem q38_12 (v0 : Value) (x : Int32) (st : List Value) (h : xH) : rn 38 12 [v0, .int x] st h = rn 38 13 [v0, .int x] (.int x :: st) h := e_iload_n (show x_fe 38 12 = some (.iload_n 1, 1) by decide +kernel) rfl
theorem q38_13 (L : List Value) (h : xH) (x0 : Nat) (x1 : Int32) (hc : (cl 86 [.ref x0, .int x1] h).isSome = true) : rn 38 13 L [.int x1, .ref x0] h = rn 38 16 L (rv (cl 86 [.ref x0, .int x1] h) ++ []) (rh (cl 86 [.ref x0, .int x1] h)) := e_callS (n := 2) (show x_fe 38 13 = some (.invokestatic 19, 3) by decide +kernel) (by decide +kernel) (by decide +kernel) rfl rfl rfl ⟨by decide +kernel, by decide +kernel, Nat.le_of_ble_eq_true rfl, Nat.le_of_ble_eq_true rfl, by decide⟩ hc
theorem q38_16 (L st : List Value) (h : xH) : rn 38 16 L st h = rn 38 20 L st h := e_goto (show x_fe 38 16 = some (.goto 4, 3) by decide +kernel) (by decide)
theorem q38_19 (L st : List Value) (h : xH) : rn 38 19 L st h = rn 38 20 L (.int 0 :: st) h := e_iconst (show x_fe 38 19 = some (.iconst 0, 1) by decide +kernel) (by decide)
theorem q38_20 (L : List Value) (h : xH) (x : Int32) : rn 38 20 L [.int x] h = some (some (.int x), h) := e_iret (st := []) (ty := .int) (show x_fe 38 20 = some (.ireturn, 1) by decide +kernel) (by decide +kernel) rfl
theorem c39 (x0 : Nat) (h : xH) : cl 39 [.ref x0] h = rn 39 0 [.ref x0] [] h := rfl
theorem q39_0 (x : Nat) (st : List Value) (h : xH) : rn 39 0 [.ref x] st h = rn 39 1 [.ref x] (.ref x :: st) h := e_aload_n (show x_fe 39 0 = some (.aload_n 0, 1) by decide +kernel) rfl
theorem q39_1 (L : List Value) (h : xH) (a : Nat) : rn 39 1 L [.ref a] h = rn 39 4 L [] h := e_oinit (show x_fe 39 1 = some (.invokespecial 3, 3) by decide +kernel) (by decide +kernel) (by decide +kernel)
theorem q39_4 (x : Nat) (st : List Value) (h : xH) : rn 39 4 [.ref x] st h = rn 39 5 [.ref x] (.ref x :: st) h := e_aload_n (show x_fe 39 4 = some (.aload_n 0, 1) by decide +kernel) rfl
theorem q39_5 (L st : List Value) (h : xH) : rn 39 5 L st h = rn 39 8 L (.ref h.1.1 :: st) ((h.1.1 + 1, h.1.2 + 4), mu h.2 h.1.1 (.inr (6, [.null, .null, .null, .int 0]))) := e_new (show x_fe 39 5 = some (.new 9, 3) by decide +kernel) (by decide +kernel) (by decide +kernel) (by decide +kernel)
theorem q39_8 (L st : List Value) (h : xH) (a : Nat) : rn 39 8 L (.ref a :: st) h = rn 39 9 L (.ref a :: .ref a :: st) h := e_dupA (show x_fe 39 8 = some (.dup, 1) by decide +kernel)
theorem q39_9 (L : List Value) (s0 s1 : Value) (h : xH)  (b : Nat) (hc : (cl 47 [.ref b] h).isSome = true) : rn 39 9 L [.ref b, s0, s1] h = rn 39 12 L (rv (cl 47 [.ref b] h) ++ [s0, s1]) (rh (cl 47 [.ref b] h)) := e_callI (n := 0) (show x_fe 39 9 = some (.invokespecial 11, 3) by decide +kernel) (by decide +kernel) (by decide +kernel) rfl rfl rfl ⟨by decide +kernel, by decide +kernel, Nat.le_of_ble_eq_true rfl, Nat.le_of_ble_eq_true rfl, by decide⟩ hc
theorem q39_12 (L st : List Value) (h : xH) (x : Nat) (a : Nat) (hF : isF (h.2 a) 4 0 = true) : rn 39 12 L (.ref x :: .ref a :: st) h = rn 39 15 L st (h.1, mu h.2 a (fset (h.2 a) 0 (.ref x))) := e_put (fin := true) (ci := 4) (k := 0) (show x_fe 39 12 = some (.putfield 12, 3) by decide +kernel) (by decide +kernel) (by decide +kernel) rfl hF
theorem q39_15 (x : Nat) (st : List Value) (h : xH) : rn 39 15 [.ref x] st h = rn 39 16 [.ref x] (.ref x :: st) h := e_aload_n (show x_fe 39 15 = some (.aload_n 0, 1) by decide +kernel) rfl
theorem q39_16 (L st : List Value) (h : xH) : rn 39 16 L st h = rn 39 17 L (.int 0 :: st) h := e_iconst (show x_fe 39 16 = some (.iconst 0, 1) by decide +kernel) (by decide)
theorem q39_17 (L st : List Value) (h : xH) (x : Int32) (a : Nat) (hF : isF (h.2 a) 4 1 = true) : rn 39 17 L (.int x :: .ref a :: st) h = rn 39 20 L st (h.1, mu h.2 a (fset (h.2 a) 1 (.int x))) := e_put (fin := false) (ci := 4) (k := 1) (show x_fe 39 17 = some (.putfield 18, 3) by decide +kernel) (by decide +kernel) (by decide +kernel) rfl hF
theorem q39_20 (x : Nat) (st : List Value) (h : xH) : rn 39 20 [.ref x] st h = rn 39 21 [.ref x] (.ref x :: st) h := e_aload_n (show x_fe 39 20 = some (.aload_n 0, 1) by decide +kernel) rfl
theorem q39_21 (L st : List Value) (h : xH) : rn 39 21 L st h = rn 39 22 L (.int 0 :: st) h := e_iconst (show x_fe 39 21 = some (.iconst 0, 1) by decide +kernel) (by decide)
theorem q39_22 (L st : List Value) (h : xH) (x : Int32) (a : Nat) (hF : isF (h.2 a) 4 2 = true) : rn 39 22 L (.int x :: .ref a :: st) h = rn 39 25 L st (h.1, mu h.2 a (fset (h.2 a) 2 (.int x))) := e_put (fin := false) (ci := 4) (k := 2) (show x_fe 39 22 = some (.putfield 22, 3) by decide +kernel) (by decide +kernel) (by decide +kernel) rfl hF
theorem q39_25 (L : List Value) (h : xH) : rn 39 25 L [] h = some (none, h) := e_ret (st := []) (show x_fe 39 25 = some (.return_, 1) by decide +kernel) (by decide +kernel)
theorem c40 (x0 : Nat) (x1 : Nat) (h : xH) : cl 40 [.ref x0, .ref x1] h = rn 40 0 [.ref x0, .ref x1, unk] [] h := rfl
theorem q40_0 (v1 v2 : Value) (x : Nat) (st : List Value) (h : xH) : rn 40 0 [.ref x, v1, v2] st h = rn 40 1 [.ref x, v1, v2] (.ref x :: st) h := e_aload_n (show x_fe 40 0 = some (.aload_n 0, 1) by decide +kernel) rfl
theorem q40_1 (L st : List Value) (h : xH) : rn 40 1 L st h = rn 40 2 L (.int 0 :: st) h := e_iconst (show x_fe 40 1 = some (.iconst 0, 1) by decide +kernel) (by decide)
theorem q40_2 (L st : List Value) (h : xH) (x : Int32) (a : Nat) (hF : isF (h.2 a) 4 2 = true) : rn 40 2 L (.int x :: .ref a :: st) h = rn 40 5 L st (h.1, mu h.2 a (fset (h.2 a) 2 (.int x))) := e_put (fin := false) (ci := 4) (k := 2) (show x_fe 40 2 = some (.putfield 22, 3) by decide +kernel) (by decide +kernel) (by decide +kernel) rfl hF
theorem q40_5 (v1 v2 : Value) (x : Nat) (st : List Value) (h : xH) : rn 40 5 [.ref x, v1, v2] st h = rn 40 6 [.ref x, v1, v2] (.ref x :: st) h := e_aload_n (show x_fe 40 5 = some (.aload_n 0, 1) by decide +kernel) rfl
theorem q40_6 (L st : List Value) (h : xH) (a : Nat) (hF : isF (h.2 a) 4 0 = true) : rn 40 6 L (.ref a :: st) h = rn 40 9 L (fld (h.2 a) 0 :: st) h := e_get (show x_fe 40 6 = some (.getfield 12, 3) by decide +kernel) (by decide +kernel) hF
theorem q40_9 (L st : List Value) (h : xH) : rn 40 9 L st h = rn 40 10 L (.int 0 :: st) h := e_iconst (show x_fe 40 9 = some (.iconst 0, 1) by decide +kernel) (by decide)
theorem q40_10 (L st : List Value) (h : xH) (x : Int32) (a : Nat) (hF : isF (h.2 a) 6 3 = true) : rn 40 10 L (.int x :: .ref a :: st) h = rn 40 13 L st (h.1, mu h.2 a (fset (h.2 a) 3 (.int x))) := e_put (fin := false) (ci := 6) (k := 3) (show x_fe 40 10 = some (.putfield 25, 3) by decide +kernel) (by decide +kernel) (by decide +kernel) rfl hF
theorem q40_13 (v1 v2 : Value) (x : Nat) (st : List Value) (h : xH) : rn 40 13 [.ref x, v1, v2] st h = rn 40 14 [.ref x, v1, v2] (.ref x :: st) h := e_aload_n (show x_fe 40 13 = some (.aload_n 0, 1) by decide +kernel) rfl
theorem q40_14 (L st : List Value) (h : xH) : rn 40 14 L st h = rn 40 15 L (.int 0 :: st) h := e_iconst (show x_fe 40 14 = some (.iconst 0, 1) by decide +kernel) (by decide)
theorem q40_15 (L st : List Value) (h : xH) (x : Int32) (a : Nat) (hF : isF (h.2 a) 4 1 = true) : rn 40 15 L (.int x :: .ref a :: st) h = rn 40 18 L st (h.1, mu h.2 a (fset (h.2 a) 1 (.int x))) := e_put (fin := false) (ci := 4) (k := 1) (show x_fe 40 15 = some (.putfield 18, 3) by decide +kernel) (by decide +kernel) (by decide +kernel) rfl hF
theorem q40_18 (L st : List Value) (h : xH) : rn 40 18 L st h = rn 40 19 L (.int 0 :: st) h := e_iconst (show x_fe 40 18 = some (.iconst 0, 1) by decide +kernel) (by decide)
theorem q40_19 (v0 v1 v2 : Value) (x : Int32) (st : List Value) (h : xH) : rn 40 19 [v0, v1, v2] (.int x :: st) h = rn 40 20 [v0, k2 v1, .int x] st h := e_istore_n (show x_fe 40 19 = some (.istore_n 2, 1) by decide +kernel) (Nat.le_of_ble_eq_true rfl) rfl
theorem q40_20 (v0 v1 : Value) (x : Int32) (st : List Value) (h : xH) : rn 40 20 [v0, v1, .int x] st h = rn 40 21 [v0, v1, .int x] (.int x :: st) h := e_iload_n (show x_fe 40 20 = some (.iload_n 2, 1) by decide +kernel) rfl
theorem q40_21 (L st : List Value) (h : xH) : rn 40 21 L st h = rn 40 23 L (.int 60 :: st) h := e_bipush (show x_fe 40 21 = some (.bipush 60, 2) by decide +kernel) (by decide)
theorem q40_23 (L st : List Value) (h : xH) (x w : Int32) : rn 40 23 L (.int w :: .int x :: st) h = if x < w then rn 40 26 L st h else rn 40 74 L st h := e_icmp_ge (show x_fe 40 23 = some (.if_icmp .ge 51, 3) by decide +kernel) (by decide)
theorem q40_26 (v1 v2 : Value) (x : Nat) (st : List Value) (h : xH) : rn 40 26 [.ref x, v1, v2] st h = rn 40 27 [.ref x, v1, v2] (.ref x :: st) h := e_aload_n (show x_fe 40 26 = some (.aload_n 0, 1) by decide +kernel) rfl
theorem q40_27 (v0 v2 : Value) (x : Nat) (st : List Value) (h : xH) : rn 40 27 [v0, .ref x, v2] st h = rn 40 28 [v0, .ref x, v2] (.ref x :: st) h := e_aload_n (show x_fe 40 27 = some (.aload_n 1, 1) by decide +kernel) rfl
theorem q40_27N (v0 v2 : Value) (st : List Value) (h : xH) : rn 40 27 [v0, .null, v2] st h = rn 40 28 [v0, .null, v2] (.null :: st) h := e_aload_nN (show x_fe 40 27 = some (.aload_n 1, 1) by decide +kernel) rfl
theorem q40_28 (L : List Value) (h : xH) (x0 : Nat) (b : Nat) (hK : isK (h.2 b) 4 = true) (hc : (cl 41 [.ref b, .ref x0] h).isSome = true) : rn 40 28 L [.ref x0, .ref b] h = rn 40 31 L (rv (cl 41 [.ref b, .ref x0] h) ++ []) (rh (cl 41 [.ref b, .ref x0] h)) := e_callV (n := 1) (show x_fe 40 28 = some (.invokevirtual 28, 3) by decide +kernel) (by decide +kernel) rfl rfl rfl ⟨by decide +kernel, by decide +kernel, Nat.le_of_ble_eq_true rfl, Nat.le_of_ble_eq_true rfl, by decide⟩ hK hc
theorem q40_31 (L st : List Value) (h : xH) (x : Int32) : rn 40 31 L (.int x :: st) h = if x = 0 then rn 40 34 L st h else rn 40 39 L st h := e_if_ne (show x_fe 40 31 = some (.ifCond .ne 8, 3) by decide +kernel) (by decide)
theorem q40_34 (v1 v2 : Value) (x : Nat) (st : List Value) (h : xH) : rn 40 34 [.ref x, v1, v2] st h = rn 40 35 [.ref x, v1, v2] (.ref x :: st) h := e_aload_n (show x_fe 40 34 = some (.aload_n 0, 1) by decide +kernel) rfl
theorem q40_35 (L st : List Value) (h : xH) (a : Nat) (hF : isF (h.2 a) 4 2 = true) : rn 40 35 L (.ref a :: st) h = rn 40 38 L (fld (h.2 a) 2 :: st) h := e_get (show x_fe 40 35 = some (.getfield 22, 3) by decide +kernel) (by decide +kernel) hF
theorem q40_38 (L : List Value) (h : xH) (x : Int32) : rn 40 38 L [.int x] h = some (some (.int x), h) := e_iret (st := []) (ty := .int) (show x_fe 40 38 = some (.ireturn, 1) by decide +kernel) (by decide +kernel) rfl
theorem q40_39 (v1 v2 : Value) (x : Nat) (st : List Value) (h : xH) : rn 40 39 [.ref x, v1, v2] st h = rn 40 40 [.ref x, v1, v2] (.ref x :: st) h := e_aload_n (show x_fe 40 39 = some (.aload_n 0, 1) by decide +kernel) rfl
theorem q40_40 (L st : List Value) (h : xH) (a : Nat) (hF : isF (h.2 a) 4 2 = true) : rn 40 40 L (.ref a :: st) h = rn 40 43 L (fld (h.2 a) 2 :: st) h := e_get (show x_fe 40 40 = some (.getfield 22, 3) by decide +kernel) (by decide +kernel) hF
theorem q40_43 (v0 v2 : Value) (x : Nat) (st : List Value) (h : xH) : rn 40 43 [v0, .ref x, v2] st h = rn 40 44 [v0, .ref x, v2] (.ref x :: st) h := e_aload_n (show x_fe 40 43 = some (.aload_n 1, 1) by decide +kernel) rfl
theorem q40_43N (v0 v2 : Value) (st : List Value) (h : xH) : rn 40 43 [v0, .null, v2] st h = rn 40 44 [v0, .null, v2] (.null :: st) h := e_aload_nN (show x_fe 40 43 = some (.aload_n 1, 1) by decide +kernel) rfl
theorem q40_44 (L st : List Value) (h : xH) (a : Nat) (hF : isF (h.2 a) 3 1 = true) : rn 40 44 L (.ref a :: st) h = rn 40 47 L (fld (h.2 a) 1 :: st) h := e_get (show x_fe 40 44 = some (.getfield 32, 3) by decide +kernel) (by decide +kernel) hF
theorem q40_47 (L st : List Value) (h : xH) (x w : Int32) : rn 40 47 L (.int w :: .int x :: st) h = if x = w then rn 40 50 L st h else rn 40 53 L st h := e_icmp_ne (show x_fe 40 47 = some (.if_icmp .ne 6, 3) by decide +kernel) (by decide)
theorem q40_50 (L st : List Value) (h : xH) : rn 40 50 L st h = rn 40 52 L (.int (-6) :: st) h := e_bipush (show x_fe 40 50 = some (.bipush (-6), 2) by decide +kernel) (by decide)
theorem q40_52 (L : List Value) (h : xH) (x : Int32) : rn 40 52 L [.int x] h = some (some (.int x), h) := e_iret (st := []) (ty := .int) (show x_fe 40 52 = some (.ireturn, 1) by decide +kernel) (by decide +kernel) rfl
theorem q40_53 (v1 v2 : Value) (x : Nat) (st : List Value) (h : xH) : rn 40 53 [.ref x, v1, v2] st h = rn 40 54 [.ref x, v1, v2] (.ref x :: st) h := e_aload_n (show x_fe 40 53 = some (.aload_n 0, 1) by decide +kernel) rfl
theorem q40_54 (v0 v2 : Value) (x : Nat) (st : List Value) (h : xH) : rn 40 54 [v0, .ref x, v2] st h = rn 40 55 [v0, .ref x, v2] (.ref x :: st) h := e_aload_n (show x_fe 40 54 = some (.aload_n 1, 1) by decide +kernel) rfl
theorem q40_54N (v0 v2 : Value) (st : List Value) (h : xH) : rn 40 54 [v0, .null, v2] st h = rn 40 55 [v0, .null, v2] (.null :: st) h := e_aload_nN (show x_fe 40 54 = some (.aload_n 1, 1) by decide +kernel) rfl
theorem q40_55 (L st : List Value) (h : xH) : rn 40 55 L st h = rn 40 57 L (.int 59 :: st) h := e_bipush (show x_fe 40 55 = some (.bipush 59, 2) by decide +kernel) (by decide)
theorem q40_57 (L : List Value) (h : xH) (x0 : Nat) (x1 : Int32) (b : Nat) (hK : isK (h.2 b) 4 = true) (hc : (cl 43 [.ref b, .ref x0, .int x1] h).isSome = true) : rn 40 57 L [.int x1, .ref x0, .ref b] h = rn 40 60 L (rv (cl 43 [.ref b, .ref x0, .int x1] h) ++ []) (rh (cl 43 [.ref b, .ref x0, .int x1] h)) := e_callV (n := 2) (show x_fe 40 57 = some (.invokevirtual 37, 3) by decide +kernel) (by decide +kernel) rfl rfl rfl ⟨by decide +kernel, by decide +kernel, Nat.le_of_ble_eq_true rfl, Nat.le_of_ble_eq_true rfl, by decide⟩ hK hc
theorem q40_60 (L st : List Value) (h : xH) (x : Int32) : rn 40 60 L (.int x :: st) h = if x = 0 then rn 40 63 L st h else rn 40 68 L st h := e_if_ne (show x_fe 40 60 = some (.ifCond .ne 8, 3) by decide +kernel) (by decide)
theorem q40_63 (v1 v2 : Value) (x : Nat) (st : List Value) (h : xH) : rn 40 63 [.ref x, v1, v2] st h = rn 40 64 [.ref x, v1, v2] (.ref x :: st) h := e_aload_n (show x_fe 40 63 = some (.aload_n 0, 1) by decide +kernel) rfl
theorem q40_64 (L st : List Value) (h : xH) (a : Nat) (hF : isF (h.2 a) 4 2 = true) : rn 40 64 L (.ref a :: st) h = rn 40 67 L (fld (h.2 a) 2 :: st) h := e_get (show x_fe 40 64 = some (.getfield 22, 3) by decide +kernel) (by decide +kernel) hF
theorem q40_67 (L : List Value) (h : xH) (x : Int32) : rn 40 67 L [.int x] h = some (some (.int x), h) := e_iret (st := []) (ty := .int) (show x_fe 40 67 = some (.ireturn, 1) by decide +kernel) (by decide +kernel) rfl
theorem q40_68 (v0 v1 : Value) (x : Int32) (st : List Value) (h : xH) : rn 40 68 [v0, v1, .int x] st h = rn 40 71 [v0, k2 v1, .int (x + 1)] st h := e_iinc (show x_fe 40 68 = some (.iinc 2 1, 3) by decide +kernel) (by decide) rfl (Nat.le_of_ble_eq_true rfl) rfl
theorem q40_71 (L st : List Value) (h : xH) : rn 40 71 L st h = rn 40 20 L st h := e_goto (show x_fe 40 71 = some (.goto (-51), 3) by decide +kernel) (by decide)
theorem q40_74 (v1 v2 : Value) (x : Nat) (st : List Value) (h : xH) : rn 40 74 [.ref x, v1, v2] st h = rn 40 75 [.ref x, v1, v2] (.ref x :: st) h := e_aload_n (show x_fe 40 74 = some (.aload_n 0, 1) by decide +kernel) rfl
theorem q40_75 (L st : List Value) (h : xH) (a : Nat) (hF : isF (h.2 a) 4 2 = true) : rn 40 75 L (.ref a :: st) h = rn 40 78 L (fld (h.2 a) 2 :: st) h := e_get (show x_fe 40 75 = some (.getfield 22, 3) by decide +kernel) (by decide +kernel) hF
theorem q40_78 (L : List Value) (h : xH) (x : Int32) : rn 40 78 L [.int x] h = some (some (.int x), h) := e_iret (st := []) (ty := .int) (show x_fe 40 78 = some (.ireturn, 1) by decide +kernel) (by decide +kernel) rfl
theorem c41 (x0 : Nat) (x1 : Nat) (h : xH) : cl 41 [.ref x0, .ref x1] h = rn 41 0 [.ref x0, .ref x1, unk, unk, unk] [] h := rfl
theorem q41_0 (L st : List Value) (h : xH) : rn 41 0 L st h = rn 41 1 L (.int 1 :: st) h := e_iconst (show x_fe 41 0 = some (.iconst 1, 1) by decide +kernel) (by decide)
theorem q41_1 (v0 v1 v2 v3 v4 : Value) (x : Int32) (st : List Value) (h : xH) : rn 41 1 [v0, v1, v2, v3, v4] (.int x :: st) h = rn 41 2 [v0, k2 v1, .int x, v3, v4] st h := e_istore_n (show x_fe 41 1 = some (.istore_n 2, 1) by decide +kernel) (Nat.le_of_ble_eq_true rfl) rfl
theorem q41_2 (v1 v2 v3 v4 : Value) (x : Nat) (st : List Value) (h : xH) : rn 41 2 [.ref x, v1, v2, v3, v4] st h = rn 41 3 [.ref x, v1, v2, v3, v4] (.ref x :: st) h := e_aload_n (show x_fe 41 2 = some (.aload_n 0, 1) by decide +kernel) rfl
theorem q41_3 (v0 v2 v3 v4 : Value) (x : Nat) (st : List Value) (h : xH) : rn 41 3 [v0, .ref x, v2, v3, v4] st h = rn 41 4 [v0, .ref x, v2, v3, v4] (.ref x :: st) h := e_aload_n (show x_fe 41 3 = some (.aload_n 1, 1) by decide +kernel) rfl
theorem q41_3N (v0 v2 v3 v4 : Value) (st : List Value) (h : xH) : rn 41 3 [v0, .null, v2, v3, v4] st h = rn 41 4 [v0, .null, v2, v3, v4] (.null :: st) h := e_aload_nN (show x_fe 41 3 = some (.aload_n 1, 1) by decide +kernel) rfl
theorem q41_4 (L st : List Value) (h : xH) : rn 41 4 L st h = rn 41 5 L (.int 2 :: st) h := e_iconst (show x_fe 41 4 = some (.iconst 2, 1) by decide +kernel) (by decide)
theorem q41_5 (L st : List Value) (h : xH) : rn 41 5 L st h = rn 41 7 L (.int 25 :: st) h := e_bipush (show x_fe 41 5 = some (.bipush 25, 2) by decide +kernel) (by decide)
theorem q41_7 (L : List Value) (h : xH) (x0 : Nat) (x1 : Int32) (x2 : Int32) (b : Nat) (hK : isK (h.2 b) 4 = true) (hc : (cl 44 [.ref b, .ref x0, .int x1, .int x2] h).isSome = true) : rn 41 7 L [.int x2, .int x1, .ref x0, .ref b] h = rn 41 10 L (rv (cl 44 [.ref b, .ref x0, .int x1, .int x2] h) ++ []) (rh (cl 44 [.ref b, .ref x0, .int x1, .int x2] h)) := e_callV (n := 3) (show x_fe 41 7 = some (.invokevirtual 41, 3) by decide +kernel) (by decide +kernel) rfl rfl rfl ⟨by decide +kernel, by decide +kernel, Nat.le_of_ble_eq_true rfl, Nat.le_of_ble_eq_true rfl, by decide⟩ hK hc
theorem q41_10 (v0 v1 v3 v4 : Value) (w : Int32) (x : Int32) (st : List Value) (h : xH) : rn 41 10 [v0, v1, .int w, v3, v4] (.int x :: st) h = rn 41 11 [v0, v1, .int w, .int x, v4] st h := e_istore_n (show x_fe 41 10 = some (.istore_n 3, 1) by decide +kernel) (Nat.le_of_ble_eq_true rfl) rfl
theorem q41_11 (v0 v1 v2 v4 : Value) (x : Int32) (st : List Value) (h : xH) : rn 41 11 [v0, v1, v2, .int x, v4] st h = rn 41 12 [v0, v1, v2, .int x, v4] (.int x :: st) h := e_iload_n (show x_fe 41 11 = some (.iload_n 3, 1) by decide +kernel) rfl
theorem q41_12 (L st : List Value) (h : xH) : rn 41 12 L st h = rn 41 13 L (.int 2 :: st) h := e_iconst (show x_fe 41 12 = some (.iconst 2, 1) by decide +kernel) (by decide)
theorem q41_13 (L st : List Value) (h : xH) : rn 41 13 L st h = rn 41 15 L (.int 20 :: st) h := e_bipush (show x_fe 41 13 = some (.bipush 20, 2) by decide +kernel) (by decide)
theorem q41_15 (L : List Value) (h : xH) (x0 : Int32) (x1 : Int32) (x2 : Int32) (hc : (cl 84 [.int x0, .int x1, .int x2] h).isSome = true) : rn 41 15 L [.int x2, .int x1, .int x0] h = rn 41 18 L (rv (cl 84 [.int x0, .int x1, .int x2] h) ++ []) (rh (cl 84 [.int x0, .int x1, .int x2] h)) := e_callS (n := 3) (show x_fe 41 15 = some (.invokestatic 45, 3) by decide +kernel) (by decide +kernel) (by decide +kernel) rfl rfl rfl ⟨by decide +kernel, by decide +kernel, Nat.le_of_ble_eq_true rfl, Nat.le_of_ble_eq_true rfl, by decide⟩ hc
theorem q41_18 (L st : List Value) (h : xH) (x : Int32) : rn 41 18 L (.int x :: st) h = if x = 0 then rn 41 43 L st h else rn 41 21 L st h := e_if_eq (show x_fe 41 18 = some (.ifCond .eq 25, 3) by decide +kernel) (by decide)
theorem q41_21 (v1 v2 v3 v4 : Value) (x : Nat) (st : List Value) (h : xH) : rn 41 21 [.ref x, v1, v2, v3, v4] st h = rn 41 22 [.ref x, v1, v2, v3, v4] (.ref x :: st) h := e_aload_n (show x_fe 41 21 = some (.aload_n 0, 1) by decide +kernel) rfl
theorem q41_22 (v0 v2 v3 v4 : Value) (x : Nat) (st : List Value) (h : xH) : rn 41 22 [v0, .ref x, v2, v3, v4] st h = rn 41 23 [v0, .ref x, v2, v3, v4] (.ref x :: st) h := e_aload_n (show x_fe 41 22 = some (.aload_n 1, 1) by decide +kernel) rfl
theorem q41_22N (v0 v2 v3 v4 : Value) (st : List Value) (h : xH) : rn 41 22 [v0, .null, v2, v3, v4] st h = rn 41 23 [v0, .null, v2, v3, v4] (.null :: st) h := e_aload_nN (show x_fe 41 22 = some (.aload_n 1, 1) by decide +kernel) rfl
theorem q41_23 (L st : List Value) (h : xH) : rn 41 23 L st h = rn 41 25 L (.int 42 :: st) h := e_bipush (show x_fe 41 23 = some (.bipush 42, 2) by decide +kernel) (by decide)
theorem q41_25 (L : List Value) (h : xH) (x0 : Nat) (x1 : Int32) (b : Nat) (hK : isK (h.2 b) 4 = true) (hc : (cl 43 [.ref b, .ref x0, .int x1] h).isSome = true) : rn 41 25 L [.int x1, .ref x0, .ref b] h = rn 41 28 L (rv (cl 43 [.ref b, .ref x0, .int x1] h) ++ []) (rh (cl 43 [.ref b, .ref x0, .int x1] h)) := e_callV (n := 2) (show x_fe 41 25 = some (.invokevirtual 37, 3) by decide +kernel) (by decide +kernel) rfl rfl rfl ⟨by decide +kernel, by decide +kernel, Nat.le_of_ble_eq_true rfl, Nat.le_of_ble_eq_true rfl, by decide⟩ hK hc
theorem q41_28 (L st : List Value) (h : xH) (x : Int32) : rn 41 28 L (.int x :: st) h = if x = 0 then rn 41 43 L st h else rn 41 31 L st h := e_if_eq (show x_fe 41 28 = some (.ifCond .eq 15, 3) by decide +kernel) (by decide)
theorem q41_31 (v0 v1 v2 v4 : Value) (x : Int32) (st : List Value) (h : xH) : rn 41 31 [v0, v1, v2, .int x, v4] st h = rn 41 32 [v0, v1, v2, .int x, v4] (.int x :: st) h := e_iload_n (show x_fe 41 31 = some (.iload_n 3, 1) by decide +kernel) rfl
theorem q41_32 (v0 v1 v2 v3 v4 : Value) (x : Int32) (st : List Value) (h : xH) : rn 41 32 [v0, v1, v2, v3, v4] (.int x :: st) h = rn 41 33 [v0, k2 v1, .int x, v3, v4] st h := e_istore_n (show x_fe 41 32 = some (.istore_n 2, 1) by decide +kernel) (Nat.le_of_ble_eq_true rfl) rfl
theorem q41_33 (v1 v2 v3 v4 : Value) (x : Nat) (st : List Value) (h : xH) : rn 41 33 [.ref x, v1, v2, v3, v4] st h = rn 41 34 [.ref x, v1, v2, v3, v4] (.ref x :: st) h := e_aload_n (show x_fe 41 33 = some (.aload_n 0, 1) by decide +kernel) rfl
theorem q41_34 (v0 v2 v3 v4 : Value) (x : Nat) (st : List Value) (h : xH) : rn 41 34 [v0, .ref x, v2, v3, v4] st h = rn 41 35 [v0, .ref x, v2, v3, v4] (.ref x :: st) h := e_aload_n (show x_fe 41 34 = some (.aload_n 1, 1) by decide +kernel) rfl
theorem q41_34N (v0 v2 v3 v4 : Value) (st : List Value) (h : xH) : rn 41 34 [v0, .null, v2, v3, v4] st h = rn 41 35 [v0, .null, v2, v3, v4] (.null :: st) h := e_aload_nN (show x_fe 41 34 = some (.aload_n 1, 1) by decide +kernel) rfl
theorem q41_35 (L st : List Value) (h : xH) : rn 41 35 L st h = rn 41 37 L (.int 10 :: st) h := e_bipush (show x_fe 41 35 = some (.bipush 10, 2) by decide +kernel) (by decide)
theorem q41_37 (L st : List Value) (h : xH) : rn 41 37 L st h = rn 41 39 L (.int 25 :: st) h := e_bipush (show x_fe 41 37 = some (.bipush 25, 2) by decide +kernel) (by decide)
theorem q41_39 (L : List Value) (h : xH) (x0 : Nat) (x1 : Int32) (x2 : Int32) (b : Nat) (hK : isK (h.2 b) 4 = true) (hc : (cl 44 [.ref b, .ref x0, .int x1, .int x2] h).isSome = true) : rn 41 39 L [.int x2, .int x1, .ref x0, .ref b] h = rn 41 42 L (rv (cl 44 [.ref b, .ref x0, .int x1, .int x2] h) ++ []) (rh (cl 44 [.ref b, .ref x0, .int x1, .int x2] h)) := e_callV (n := 3) (show x_fe 41 39 = some (.invokevirtual 41, 3) by decide +kernel) (by decide +kernel) rfl rfl rfl ⟨by decide +kernel, by decide +kernel, Nat.le_of_ble_eq_true rfl, Nat.le_of_ble_eq_true rfl, by decide⟩ hK hc
theorem q41_42 (v0 v1 v3 v4 : Value) (w : Int32) (x : Int32) (st : List Value) (h : xH) : rn 41 42 [v0, v1, .int w, v3, v4] (.int x :: st) h = rn 41 43 [v0, v1, .int w, .int x, v4] st h := e_istore_n (show x_fe 41 42 = some (.istore_n 3, 1) by decide +kernel) (Nat.le_of_ble_eq_true rfl) rfl
theorem q41_43 (v0 v1 v2 v4 : Value) (x : Int32) (st : List Value) (h : xH) : rn 41 43 [v0, v1, v2, .int x, v4] st h = rn 41 44 [v0, v1, v2, .int x, v4] (.int x :: st) h := e_iload_n (show x_fe 41 43 = some (.iload_n 3, 1) by decide +kernel) rfl
theorem q41_44 (L st : List Value) (h : xH) : rn 41 44 L st h = rn 41 46 L (.int 10 :: st) h := e_bipush (show x_fe 41 44 = some (.bipush 10, 2) by decide +kernel) (by decide)
theorem q41_46 (L st : List Value) (h : xH) : rn 41 46 L st h = rn 41 48 L (.int 25 :: st) h := e_bipush (show x_fe 41 46 = some (.bipush 25, 2) by decide +kernel) (by decide)
theorem q41_48 (L : List Value) (h : xH) (x0 : Int32) (x1 : Int32) (x2 : Int32) (hc : (cl 84 [.int x0, .int x1, .int x2] h).isSome = true) : rn 41 48 L [.int x2, .int x1, .int x0] h = rn 41 51 L (rv (cl 84 [.int x0, .int x1, .int x2] h) ++ []) (rh (cl 84 [.int x0, .int x1, .int x2] h)) := e_callS (n := 3) (show x_fe 41 48 = some (.invokestatic 45, 3) by decide +kernel) (by decide +kernel) (by decide +kernel) rfl rfl rfl ⟨by decide +kernel, by decide +kernel, Nat.le_of_ble_eq_true rfl, Nat.le_of_ble_eq_true rfl, by decide⟩ hc
theorem q41_51 (L st : List Value) (h : xH) (x : Int32) : rn 41 51 L (.int x :: st) h = if x = 0 then rn 41 64 L st h else rn 41 54 L st h := e_if_eq (show x_fe 41 51 = some (.ifCond .eq 13, 3) by decide +kernel) (by decide)
theorem q41_54 (v1 v2 v3 v4 : Value) (x : Nat) (st : List Value) (h : xH) : rn 41 54 [.ref x, v1, v2, v3, v4] st h = rn 41 55 [.ref x, v1, v2, v3, v4] (.ref x :: st) h := e_aload_n (show x_fe 41 54 = some (.aload_n 0, 1) by decide +kernel) rfl
theorem q41_55 (v0 v2 v3 v4 : Value) (x : Nat) (st : List Value) (h : xH) : rn 41 55 [v0, .ref x, v2, v3, v4] st h = rn 41 56 [v0, .ref x, v2, v3, v4] (.ref x :: st) h := e_aload_n (show x_fe 41 55 = some (.aload_n 1, 1) by decide +kernel) rfl
theorem q41_55N (v0 v2 v3 v4 : Value) (st : List Value) (h : xH) : rn 41 55 [v0, .null, v2, v3, v4] st h = rn 41 56 [v0, .null, v2, v3, v4] (.null :: st) h := e_aload_nN (show x_fe 41 55 = some (.aload_n 1, 1) by decide +kernel) rfl
theorem q41_56 (L st : List Value) (h : xH) : rn 41 56 L st h = rn 41 58 L (.int 47 :: st) h := e_bipush (show x_fe 41 56 = some (.bipush 47, 2) by decide +kernel) (by decide)
theorem q41_58 (L : List Value) (h : xH) (x0 : Nat) (x1 : Int32) (b : Nat) (hK : isK (h.2 b) 4 = true) (hc : (cl 43 [.ref b, .ref x0, .int x1] h).isSome = true) : rn 41 58 L [.int x1, .ref x0, .ref b] h = rn 41 61 L (rv (cl 43 [.ref b, .ref x0, .int x1] h) ++ []) (rh (cl 43 [.ref b, .ref x0, .int x1] h)) := e_callV (n := 2) (show x_fe 41 58 = some (.invokevirtual 37, 3) by decide +kernel) (by decide +kernel) rfl rfl rfl ⟨by decide +kernel, by decide +kernel, Nat.le_of_ble_eq_true rfl, Nat.le_of_ble_eq_true rfl, by decide⟩ hK hc
theorem q41_61 (L st : List Value) (h : xH) (x : Int32) : rn 41 61 L (.int x :: st) h = if x = 0 then rn 41 64 L st h else rn 41 66 L st h := e_if_ne (show x_fe 41 61 = some (.ifCond .ne 5, 3) by decide +kernel) (by decide)
theorem q41_64 (L st : List Value) (h : xH) : rn 41 64 L st h = rn 41 65 L (.int 0 :: st) h := e_iconst (show x_fe 41 64 = some (.iconst 0, 1) by decide +kernel) (by decide)
theorem q41_65 (L : List Value) (h : xH) (x : Int32) (hx : (x == 0 || x == 1) = true) : rn 41 65 L [.int x] h = some (some (.int x), h) := e_iret (st := []) (ty := .boolean) (show x_fe 41 65 = some (.ireturn, 1) by decide +kernel) (by decide +kernel) hx
theorem q41_66 (v1 v2 v3 v4 : Value) (x : Nat) (st : List Value) (h : xH) : rn 41 66 [.ref x, v1, v2, v3, v4] st h = rn 41 67 [.ref x, v1, v2, v3, v4] (.ref x :: st) h := e_aload_n (show x_fe 41 66 = some (.aload_n 0, 1) by decide +kernel) rfl
theorem q41_67 (v0 v2 v3 v4 : Value) (x : Nat) (st : List Value) (h : xH) : rn 41 67 [v0, .ref x, v2, v3, v4] st h = rn 41 68 [v0, .ref x, v2, v3, v4] (.ref x :: st) h := e_aload_n (show x_fe 41 67 = some (.aload_n 1, 1) by decide +kernel) rfl
theorem q41_67N (v0 v2 v3 v4 : Value) (st : List Value) (h : xH) : rn 41 67 [v0, .null, v2, v3, v4] st h = rn 41 68 [v0, .null, v2, v3, v4] (.null :: st) h := e_aload_nN (show x_fe 41 67 = some (.aload_n 1, 1) by decide +kernel) rfl
theorem q41_68 (L st : List Value) (h : xH) : rn 41 68 L st h = rn 41 70 L (.int 15 :: st) h := e_bipush (show x_fe 41 68 = some (.bipush 15, 2) by decide +kernel) (by decide)
theorem q41_70 (L st : List Value) (h : xH) : rn 41 70 L st h = rn 41 72 L (.int 40 :: st) h := e_bipush (show x_fe 41 70 = some (.bipush 40, 2) by decide +kernel) (by decide)
theorem q41_72 (L : List Value) (h : xH) (x0 : Nat) (x1 : Int32) (x2 : Int32) (b : Nat) (hK : isK (h.2 b) 4 = true) (hc : (cl 44 [.ref b, .ref x0, .int x1, .int x2] h).isSome = true) : rn 41 72 L [.int x2, .int x1, .ref x0, .ref b] h = rn 41 75 L (rv (cl 44 [.ref b, .ref x0, .int x1, .int x2] h) ++ []) (rh (cl 44 [.ref b, .ref x0, .int x1, .int x2] h)) := e_callV (n := 3) (show x_fe 41 72 = some (.invokevirtual 41, 3) by decide +kernel) (by decide +kernel) rfl rfl rfl ⟨by decide +kernel, by decide +kernel, Nat.le_of_ble_eq_true rfl, Nat.le_of_ble_eq_true rfl, by decide⟩ hK hc
theorem q41_75 (v0 v1 v2 v4 : Value) (w : Int32) (x : Int32) (st : List Value) (h : xH) : rn 41 75 [v0, v1, v2, .int w, v4] (.int x :: st) h = rn 41 77 [v0, v1, v2, .int w, .int x] st h := e_istore (show x_fe 41 75 = some (.istore 4, 2) by decide +kernel) (Nat.le_of_ble_eq_true rfl) rfl
theorem q41_77 (v0 v1 v2 v3 : Value) (x : Int32) (st : List Value) (h : xH) : rn 41 77 [v0, v1, v2, v3, .int x] st h = rn 41 79 [v0, v1, v2, v3, .int x] (.int x :: st) h := e_iload (show x_fe 41 77 = some (.iload 4, 2) by decide +kernel) rfl
theorem q41_79 (L st : List Value) (h : xH) : rn 41 79 L st h = rn 41 81 L (.int 15 :: st) h := e_bipush (show x_fe 41 79 = some (.bipush 15, 2) by decide +kernel) (by decide)
theorem q41_81 (L st : List Value) (h : xH) : rn 41 81 L st h = rn 41 83 L (.int 40 :: st) h := e_bipush (show x_fe 41 81 = some (.bipush 40, 2) by decide +kernel) (by decide)
theorem q41_83 (L : List Value) (h : xH) (x0 : Int32) (x1 : Int32) (x2 : Int32) (hc : (cl 84 [.int x0, .int x1, .int x2] h).isSome = true) : rn 41 83 L [.int x2, .int x1, .int x0] h = rn 41 86 L (rv (cl 84 [.int x0, .int x1, .int x2] h) ++ []) (rh (cl 84 [.int x0, .int x1, .int x2] h)) := e_callS (n := 3) (show x_fe 41 83 = some (.invokestatic 45, 3) by decide +kernel) (by decide +kernel) (by decide +kernel) rfl rfl rfl ⟨by decide +kernel, by decide +kernel, Nat.le_of_ble_eq_true rfl, Nat.le_of_ble_eq_true rfl, by decide⟩ hc
theorem q41_86 (L st : List Value) (h : xH) (x : Int32) : rn 41 86 L (.int x :: st) h = if x = 0 then rn 41 89 L st h else rn 41 91 L st h := e_if_ne (show x_fe 41 86 = some (.ifCond .ne 5, 3) by decide +kernel) (by decide)
theorem q41_89 (L st : List Value) (h : xH) : rn 41 89 L st h = rn 41 90 L (.int 0 :: st) h := e_iconst (show x_fe 41 89 = some (.iconst 0, 1) by decide +kernel) (by decide)
theorem q41_90 (L : List Value) (h : xH) (x : Int32) (hx : (x == 0 || x == 1) = true) : rn 41 90 L [.int x] h = some (some (.int x), h) := e_iret (st := []) (ty := .boolean) (show x_fe 41 90 = some (.ireturn, 1) by decide +kernel) (by decide +kernel) hx
theorem q41_91 (v1 v2 v3 v4 : Value) (x : Nat) (st : List Value) (h : xH) : rn 41 91 [.ref x, v1, v2, v3, v4] st h = rn 41 92 [.ref x, v1, v2, v3, v4] (.ref x :: st) h := e_aload_n (show x_fe 41 91 = some (.aload_n 0, 1) by decide +kernel) rfl
theorem q41_92 (v0 v1 v3 v4 : Value) (x : Int32) (st : List Value) (h : xH) : rn 41 92 [v0, v1, .int x, v3, v4] st h = rn 41 93 [v0, v1, .int x, v3, v4] (.int x :: st) h := e_iload_n (show x_fe 41 92 = some (.iload_n 2, 1) by decide +kernel) rfl
theorem q41_93 (v0 v1 v2 v4 : Value) (x : Int32) (st : List Value) (h : xH) : rn 41 93 [v0, v1, v2, .int x, v4] st h = rn 41 94 [v0, v1, v2, .int x, v4] (.int x :: st) h := e_iload_n (show x_fe 41 93 = some (.iload_n 3, 1) by decide +kernel) rfl
theorem q41_94 (v0 v1 v2 v3 : Value) (x : Int32) (st : List Value) (h : xH) : rn 41 94 [v0, v1, v2, v3, .int x] st h = rn 41 96 [v0, v1, v2, v3, .int x] (.int x :: st) h := e_iload (show x_fe 41 94 = some (.iload 4, 2) by decide +kernel) rfl
theorem q41_96 (L : List Value) (h : xH) (x0 : Int32) (x1 : Int32) (x2 : Int32) (b : Nat) (hK : isK (h.2 b) 4 = true) (hc : (cl 42 [.ref b, .int x0, .int x1, .int x2] h).isSome = true) : rn 41 96 L [.int x2, .int x1, .int x0, .ref b] h = rn 41 99 L (rv (cl 42 [.ref b, .int x0, .int x1, .int x2] h) ++ []) (rh (cl 42 [.ref b, .int x0, .int x1, .int x2] h)) := e_callV (n := 3) (show x_fe 41 96 = some (.invokevirtual 49, 3) by decide +kernel) (by decide +kernel) rfl rfl rfl ⟨by decide +kernel, by decide +kernel, Nat.le_of_ble_eq_true rfl, Nat.le_of_ble_eq_true rfl, by decide⟩ hK hc
theorem q41_99 (L st : List Value) (h : xH) : rn 41 99 L st h = rn 41 100 L (.int 1 :: st) h := e_iconst (show x_fe 41 99 = some (.iconst 1, 1) by decide +kernel) (by decide)
theorem q41_100 (L : List Value) (h : xH) (x : Int32) (hx : (x == 0 || x == 1) = true) : rn 41 100 L [.int x] h = some (some (.int x), h) := e_iret (st := []) (ty := .boolean) (show x_fe 41 100 = some (.ireturn, 1) by decide +kernel) (by decide +kernel) hx
theorem c42 (x0 : Nat) (x1 : Int32) (x2 : Int32) (x3 : Int32) (h : xH) : cl 42 [.ref x0, .int x1, .int x2, .int x3] h = rn 42 0 [.ref x0, .int x1, .int x2, .int x3, unk] [] h := rfl
theorem q42_0 (v1 v2 v3 v4 : Value) (x : Nat) (st : List Value) (h : xH) : rn 42 0 [.ref x, v1, v2, v3, v4] st h = rn 42 1 [.ref x, v1, v2, v3, v4] (.ref x :: st) h := e_aload_n (show x_fe 42 0 = some (.aload_n 0, 1) by decide +kernel) rfl
theorem q42_1 (L st : List Value) (h : xH) (a : Nat) : rn 42 1 L (.ref a :: st) h = rn 42 2 L (.ref a :: .ref a :: st) h := e_dupA (show x_fe 42 1 = some (.dup, 1) by decide +kernel)
theorem q42_2 (L st : List Value) (h : xH) (a : Nat) (hF : isF (h.2 a) 4 1 = true) : rn 42 2 L (.ref a :: st) h = rn 42 5 L (fld (h.2 a) 1 :: st) h := e_get (show x_fe 42 2 = some (.getfield 18, 3) by decide +kernel) (by decide +kernel) hF
theorem q42_5 (v0 v2 v3 v4 : Value) (x : Int32) (st : List Value) (h : xH) : rn 42 5 [v0, .int x, v2, v3, v4] st h = rn 42 6 [v0, .int x, v2, v3, v4] (.int x :: st) h := e_iload_n (show x_fe 42 5 = some (.iload_n 1, 1) by decide +kernel) rfl
theorem q42_6 (L st : List Value) (h : xH) (a b : Int32) : rn 42 6 L (.int b :: .int a :: st) h = rn 42 7 L (.int (a + b) :: st) h := e_iadd (show x_fe 42 6 = some (.iadd, 1) by decide +kernel)
theorem q42_7 (L st : List Value) (h : xH) (x : Int32) (a : Nat) (hF : isF (h.2 a) 4 1 = true) : rn 42 7 L (.int x :: .ref a :: st) h = rn 42 10 L st (h.1, mu h.2 a (fset (h.2 a) 1 (.int x))) := e_put (fin := false) (ci := 4) (k := 1) (show x_fe 42 7 = some (.putfield 18, 3) by decide +kernel) (by decide +kernel) (by decide +kernel) rfl hF
theorem q42_10 (L st : List Value) (h : xH) : rn 42 10 L st h = rn 42 11 L (.int 0 :: st) h := e_iconst (show x_fe 42 10 = some (.iconst 0, 1) by decide +kernel) (by decide)
theorem q42_11 (v0 v1 v2 v4 : Value) (w : Int32) (x : Int32) (st : List Value) (h : xH) : rn 42 11 [v0, v1, v2, .int w, v4] (.int x :: st) h = rn 42 13 [v0, v1, v2, .int w, .int x] st h := e_istore (show x_fe 42 11 = some (.istore 4, 2) by decide +kernel) (Nat.le_of_ble_eq_true rfl) rfl
theorem q42_13 (v0 v1 v2 v3 : Value) (x : Int32) (st : List Value) (h : xH) : rn 42 13 [v0, v1, v2, v3, .int x] st h = rn 42 15 [v0, v1, v2, v3, .int x] (.int x :: st) h := e_iload (show x_fe 42 13 = some (.iload 4, 2) by decide +kernel) rfl
theorem q42_15 (v0 v2 v3 v4 : Value) (x : Int32) (st : List Value) (h : xH) : rn 42 15 [v0, .int x, v2, v3, v4] st h = rn 42 16 [v0, .int x, v2, v3, v4] (.int x :: st) h := e_iload_n (show x_fe 42 15 = some (.iload_n 1, 1) by decide +kernel) rfl
theorem q42_16 (L st : List Value) (h : xH) (x w : Int32) : rn 42 16 L (.int w :: .int x :: st) h = if x < w then rn 42 19 L st h else rn 42 34 L st h := e_icmp_ge (show x_fe 42 16 = some (.if_icmp .ge 18, 3) by decide +kernel) (by decide)
theorem q42_19 (v1 v2 v3 v4 : Value) (x : Nat) (st : List Value) (h : xH) : rn 42 19 [.ref x, v1, v2, v3, v4] st h = rn 42 20 [.ref x, v1, v2, v3, v4] (.ref x :: st) h := e_aload_n (show x_fe 42 19 = some (.aload_n 0, 1) by decide +kernel) rfl
theorem q42_20 (L st : List Value) (h : xH) (a : Nat) (hF : isF (h.2 a) 4 0 = true) : rn 42 20 L (.ref a :: st) h = rn 42 23 L (fld (h.2 a) 0 :: st) h := e_get (show x_fe 42 20 = some (.getfield 12, 3) by decide +kernel) (by decide +kernel) hF
theorem q42_23 (v0 v1 v3 v4 : Value) (x : Int32) (st : List Value) (h : xH) : rn 42 23 [v0, v1, .int x, v3, v4] st h = rn 42 24 [v0, v1, .int x, v3, v4] (.int x :: st) h := e_iload_n (show x_fe 42 23 = some (.iload_n 2, 1) by decide +kernel) rfl
theorem q42_24 (v0 v1 v2 v4 : Value) (x : Int32) (st : List Value) (h : xH) : rn 42 24 [v0, v1, v2, .int x, v4] st h = rn 42 25 [v0, v1, v2, .int x, v4] (.int x :: st) h := e_iload_n (show x_fe 42 24 = some (.iload_n 3, 1) by decide +kernel) rfl
theorem q42_25 (L : List Value) (h : xH) (x0 : Int32) (x1 : Int32) (b : Nat) (hK : isK (h.2 b) 6 = true) (hc : (cl 50 [.ref b, .int x0, .int x1] h).isSome = true) : rn 42 25 L [.int x1, .int x0, .ref b] h = rn 42 28 L (rv (cl 50 [.ref b, .int x0, .int x1] h) ++ []) (rh (cl 50 [.ref b, .int x0, .int x1] h)) := e_callV (n := 2) (show x_fe 42 25 = some (.invokevirtual 53, 3) by decide +kernel) (by decide +kernel) rfl rfl rfl ⟨by decide +kernel, by decide +kernel, Nat.le_of_ble_eq_true rfl, Nat.le_of_ble_eq_true rfl, by decide⟩ hK hc
theorem q42_28 (v0 v1 v2 : Value) (w : Int32) (x : Int32) (st : List Value) (h : xH) : rn 42 28 [v0, v1, v2, .int w, .int x] st h = rn 42 31 [v0, v1, v2, .int w, .int (x + 1)] st h := e_iinc (show x_fe 42 28 = some (.iinc 4 1, 3) by decide +kernel) (by decide) rfl (Nat.le_of_ble_eq_true rfl) rfl
theorem q42_31 (L st : List Value) (h : xH) : rn 42 31 L st h = rn 42 13 L st h := e_goto (show x_fe 42 31 = some (.goto (-18), 3) by decide +kernel) (by decide)
theorem q42_34 (L : List Value) (h : xH) : rn 42 34 L [] h = some (none, h) := e_ret (st := []) (show x_fe 42 34 = some (.return_, 1) by decide +kernel) (by decide +kernel)
theorem c43 (x0 : Nat) (x1 : Nat) (x2 : Int32) (h : xH) : cl 43 [.ref x0, .ref x1, .int x2] h = rn 43 0 [.ref x0, .ref x1, .int x2] [] h := rfl
theorem q43_0 (v0 v2 : Value) (x : Nat) (st : List Value) (h : xH) : rn 43 0 [v0, .ref x, v2] st h = rn 43 1 [v0, .ref x, v2] (.ref x :: st) h := e_aload_n (show x_fe 43 0 = some (.aload_n 1, 1) by decide +kernel) rfl
theorem q43_0N (v0 v2 : Value) (st : List Value) (h : xH) : rn 43 0 [v0, .null, v2] st h = rn 43 1 [v0, .null, v2] (.null :: st) h := e_aload_nN (show x_fe 43 0 = some (.aload_n 1, 1) by decide +kernel) rfl
theorem q43_1 (v1 v2 : Value) (x : Nat) (st : List Value) (h : xH) : rn 43 1 [.ref x, v1, v2] st h = rn 43 2 [.ref x, v1, v2] (.ref x :: st) h := e_aload_n (show x_fe 43 1 = some (.aload_n 0, 1) by decide +kernel) rfl
theorem q43_2 (L st : List Value) (h : xH) (a : Nat) (hF : isF (h.2 a) 4 2 = true) : rn 43 2 L (.ref a :: st) h = rn 43 5 L (fld (h.2 a) 2 :: st) h := e_get (show x_fe 43 2 = some (.getfield 22, 3) by decide +kernel) (by decide +kernel) hF
theorem q43_5 (L : List Value) (h : xH) (x0 : Int32) (b : Nat) (hK : isK (h.2 b) 3 = true) (hc : (cl 38 [.ref b, .int x0] h).isSome = true) : rn 43 5 L [.int x0, .ref b] h = rn 43 8 L (rv (cl 38 [.ref b, .int x0] h) ++ []) (rh (cl 38 [.ref b, .int x0] h)) := e_callV (n := 1) (show x_fe 43 5 = some (.invokevirtual 57, 3) by decide +kernel) (by decide +kernel) rfl rfl rfl ⟨by decide +kernel, by decide +kernel, Nat.le_of_ble_eq_true rfl, Nat.le_of_ble_eq_true rfl, by decide⟩ hK hc
theorem q43_8 (v0 v1 : Value) (x : Int32) (st : List Value) (h : xH) : rn 43 8 [v0, v1, .int x] st h = rn 43 9 [v0, v1, .int x] (.int x :: st) h := e_iload_n (show x_fe 43 8 = some (.iload_n 2, 1) by decide +kernel) rfl
theorem q43_9 (L st : List Value) (h : xH) (x w : Int32) : rn 43 9 L (.int w :: .int x :: st) h = if x = w then rn 43 14 L st h else rn 43 12 L st h := e_icmp_eq (show x_fe 43 9 = some (.if_icmp .eq 5, 3) by decide +kernel) (by decide)
theorem q43_12 (L st : List Value) (h : xH) : rn 43 12 L st h = rn 43 13 L (.int 0 :: st) h := e_iconst (show x_fe 43 12 = some (.iconst 0, 1) by decide +kernel) (by decide)
theorem q43_13 (L : List Value) (h : xH) (x : Int32) (hx : (x == 0 || x == 1) = true) : rn 43 13 L [.int x] h = some (some (.int x), h) := e_iret (st := []) (ty := .boolean) (show x_fe 43 13 = some (.ireturn, 1) by decide +kernel) (by decide +kernel) hx
theorem q43_14 (v1 v2 : Value) (x : Nat) (st : List Value) (h : xH) : rn 43 14 [.ref x, v1, v2] st h = rn 43 15 [.ref x, v1, v2] (.ref x :: st) h := e_aload_n (show x_fe 43 14 = some (.aload_n 0, 1) by decide +kernel) rfl
theorem q43_15 (L st : List Value) (h : xH) (a : Nat) : rn 43 15 L (.ref a :: st) h = rn 43 16 L (.ref a :: .ref a :: st) h := e_dupA (show x_fe 43 15 = some (.dup, 1) by decide +kernel)
theorem q43_16 (L st : List Value) (h : xH) (a : Nat) (hF : isF (h.2 a) 4 2 = true) : rn 43 16 L (.ref a :: st) h = rn 43 19 L (fld (h.2 a) 2 :: st) h := e_get (show x_fe 43 16 = some (.getfield 22, 3) by decide +kernel) (by decide +kernel) hF
theorem q43_19 (L st : List Value) (h : xH) : rn 43 19 L st h = rn 43 20 L (.int 1 :: st) h := e_iconst (show x_fe 43 19 = some (.iconst 1, 1) by decide +kernel) (by decide)
theorem q43_20 (L st : List Value) (h : xH) (a b : Int32) : rn 43 20 L (.int b :: .int a :: st) h = rn 43 21 L (.int (a + b) :: st) h := e_iadd (show x_fe 43 20 = some (.iadd, 1) by decide +kernel)
theorem q43_21 (L st : List Value) (h : xH) (x : Int32) (a : Nat) (hF : isF (h.2 a) 4 2 = true) : rn 43 21 L (.int x :: .ref a :: st) h = rn 43 24 L st (h.1, mu h.2 a (fset (h.2 a) 2 (.int x))) := e_put (fin := false) (ci := 4) (k := 2) (show x_fe 43 21 = some (.putfield 22, 3) by decide +kernel) (by decide +kernel) (by decide +kernel) rfl hF
theorem q43_24 (L st : List Value) (h : xH) : rn 43 24 L st h = rn 43 25 L (.int 1 :: st) h := e_iconst (show x_fe 43 24 = some (.iconst 1, 1) by decide +kernel) (by decide)
theorem q43_25 (L : List Value) (h : xH) (x : Int32) (hx : (x == 0 || x == 1) = true) : rn 43 25 L [.int x] h = some (some (.int x), h) := e_iret (st := []) (ty := .boolean) (show x_fe 43 25 = some (.ireturn, 1) by decide +kernel) (by decide +kernel) hx
theorem c44 (x0 : Nat) (x1 : Nat) (x2 : Int32) (x3 : Int32) (h : xH) : cl 44 [.ref x0, .ref x1, .int x2, .int x3] h = rn 44 0 [.ref x0, .ref x1, .int x2, .int x3, unk, unk, unk] [] h := rfl
theorem q44_0 (L st : List Value) (h : xH) : rn 44 0 L st h = rn 44 1 L (.int 0 :: st) h := e_iconst (show x_fe 44 0 = some (.iconst 0, 1) by decide +kernel) (by decide)
theorem q44_1 (v0 v1 v2 v4 v5 v6 : Value) (w : Int32) (x : Int32) (st : List Value) (h : xH) : rn 44 1 [v0, v1, v2, .int w, v4, v5, v6] (.int x :: st) h = rn 44 3 [v0, v1, v2, .int w, .int x, v5, v6] st h := e_istore (show x_fe 44 1 = some (.istore 4, 2) by decide +kernel) (Nat.le_of_ble_eq_true rfl) rfl
theorem q44_3 (L st : List Value) (h : xH) : rn 44 3 L st h = rn 44 4 L (.int 0 :: st) h := e_iconst (show x_fe 44 3 = some (.iconst 0, 1) by decide +kernel) (by decide)
theorem q44_4 (v0 v1 v2 v3 v5 v6 : Value) (w : Int32) (x : Int32) (st : List Value) (h : xH) : rn 44 4 [v0, v1, v2, v3, .int w, v5, v6] (.int x :: st) h = rn 44 6 [v0, v1, v2, v3, .int w, .int x, v6] st h := e_istore (show x_fe 44 4 = some (.istore 5, 2) by decide +kernel) (Nat.le_of_ble_eq_true rfl) rfl
theorem q44_6 (v0 v1 v2 v3 v4 v6 : Value) (x : Int32) (st : List Value) (h : xH) : rn 44 6 [v0, v1, v2, v3, v4, .int x, v6] st h = rn 44 8 [v0, v1, v2, v3, v4, .int x, v6] (.int x :: st) h := e_iload (show x_fe 44 6 = some (.iload 5, 2) by decide +kernel) rfl
theorem q44_8 (L st : List Value) (h : xH) : rn 44 8 L st h = rn 44 9 L (.int 2 :: st) h := e_iconst (show x_fe 44 8 = some (.iconst 2, 1) by decide +kernel) (by decide)
theorem q44_9 (L st : List Value) (h : xH) (x w : Int32) : rn 44 9 L (.int w :: .int x :: st) h = if x < w then rn 44 12 L st h else rn 44 85 L st h := e_icmp_ge (show x_fe 44 9 = some (.if_icmp .ge 76, 3) by decide +kernel) (by decide)
theorem q44_12 (v0 v2 v3 v4 v5 v6 : Value) (x : Nat) (st : List Value) (h : xH) : rn 44 12 [v0, .ref x, v2, v3, v4, v5, v6] st h = rn 44 13 [v0, .ref x, v2, v3, v4, v5, v6] (.ref x :: st) h := e_aload_n (show x_fe 44 12 = some (.aload_n 1, 1) by decide +kernel) rfl
theorem q44_12N (v0 v2 v3 v4 v5 v6 : Value) (st : List Value) (h : xH) : rn 44 12 [v0, .null, v2, v3, v4, v5, v6] st h = rn 44 13 [v0, .null, v2, v3, v4, v5, v6] (.null :: st) h := e_aload_nN (show x_fe 44 12 = some (.aload_n 1, 1) by decide +kernel) rfl
theorem q44_13 (v1 v2 v3 v4 v5 v6 : Value) (x : Nat) (st : List Value) (h : xH) : rn 44 13 [.ref x, v1, v2, v3, v4, v5, v6] st h = rn 44 14 [.ref x, v1, v2, v3, v4, v5, v6] (.ref x :: st) h := e_aload_n (show x_fe 44 13 = some (.aload_n 0, 1) by decide +kernel) rfl
theorem q44_14 (L st : List Value) (h : xH) (a : Nat) (hF : isF (h.2 a) 4 2 = true) : rn 44 14 L (.ref a :: st) h = rn 44 17 L (fld (h.2 a) 2 :: st) h := e_get (show x_fe 44 14 = some (.getfield 22, 3) by decide +kernel) (by decide +kernel) hF
theorem q44_17 (L : List Value) (h : xH) (x0 : Int32) (b : Nat) (hK : isK (h.2 b) 3 = true) (hc : (cl 38 [.ref b, .int x0] h).isSome = true) : rn 44 17 L [.int x0, .ref b] h = rn 44 20 L (rv (cl 38 [.ref b, .int x0] h) ++ []) (rh (cl 38 [.ref b, .int x0] h)) := e_callV (n := 1) (show x_fe 44 17 = some (.invokevirtual 57, 3) by decide +kernel) (by decide +kernel) rfl rfl rfl ⟨by decide +kernel, by decide +kernel, Nat.le_of_ble_eq_true rfl, Nat.le_of_ble_eq_true rfl, by decide⟩ hK hc
theorem q44_20 (v0 v1 v2 v3 v4 v6 : Value) (w : Int32) (x : Int32) (st : List Value) (h : xH) : rn 44 20 [v0, v1, v2, v3, v4, .int w, v6] (.int x :: st) h = rn 44 22 [v0, v1, v2, v3, v4, .int w, .int x] st h := e_istore (show x_fe 44 20 = some (.istore 6, 2) by decide +kernel) (Nat.le_of_ble_eq_true rfl) rfl
theorem q44_22 (v0 v1 v2 v3 v4 v5 : Value) (x : Int32) (st : List Value) (h : xH) : rn 44 22 [v0, v1, v2, v3, v4, v5, .int x] st h = rn 44 24 [v0, v1, v2, v3, v4, v5, .int x] (.int x :: st) h := e_iload (show x_fe 44 22 = some (.iload 6, 2) by decide +kernel) rfl
theorem q44_24 (L st : List Value) (h : xH) : rn 44 24 L st h = rn 44 26 L (.int 48 :: st) h := e_bipush (show x_fe 44 24 = some (.bipush 48, 2) by decide +kernel) (by decide)
theorem q44_26 (L st : List Value) (h : xH) : rn 44 26 L st h = rn 44 28 L (.int 57 :: st) h := e_bipush (show x_fe 44 26 = some (.bipush 57, 2) by decide +kernel) (by decide)
theorem q44_28 (L : List Value) (h : xH) (x0 : Int32) (x1 : Int32) (x2 : Int32) (hc : (cl 84 [.int x0, .int x1, .int x2] h).isSome = true) : rn 44 28 L [.int x2, .int x1, .int x0] h = rn 44 31 L (rv (cl 84 [.int x0, .int x1, .int x2] h) ++ []) (rh (cl 84 [.int x0, .int x1, .int x2] h)) := e_callS (n := 3) (show x_fe 44 28 = some (.invokestatic 45, 3) by decide +kernel) (by decide +kernel) (by decide +kernel) rfl rfl rfl ⟨by decide +kernel, by decide +kernel, Nat.le_of_ble_eq_true rfl, Nat.le_of_ble_eq_true rfl, by decide⟩ hc
theorem q44_31 (L st : List Value) (h : xH) (x : Int32) : rn 44 31 L (.int x :: st) h = if x = 0 then rn 44 53 L st h else rn 44 34 L st h := e_if_eq (show x_fe 44 31 = some (.ifCond .eq 22, 3) by decide +kernel) (by decide)
theorem q44_34 (v0 v1 v2 v3 v5 v6 : Value) (x : Int32) (st : List Value) (h : xH) : rn 44 34 [v0, v1, v2, v3, .int x, v5, v6] st h = rn 44 36 [v0, v1, v2, v3, .int x, v5, v6] (.int x :: st) h := e_iload (show x_fe 44 34 = some (.iload 4, 2) by decide +kernel) rfl
theorem q44_36 (L st : List Value) (h : xH) : rn 44 36 L st h = rn 44 38 L (.int 10 :: st) h := e_bipush (show x_fe 44 36 = some (.bipush 10, 2) by decide +kernel) (by decide)
theorem q44_38 (L st : List Value) (h : xH) (a b : Int32) : rn 44 38 L (.int b :: .int a :: st) h = rn 44 39 L (.int (a * b) :: st) h := e_imul (show x_fe 44 38 = some (.imul, 1) by decide +kernel)
theorem q44_39 (v0 v1 v2 v3 v4 v5 : Value) (x : Int32) (st : List Value) (h : xH) : rn 44 39 [v0, v1, v2, v3, v4, v5, .int x] st h = rn 44 41 [v0, v1, v2, v3, v4, v5, .int x] (.int x :: st) h := e_iload (show x_fe 44 39 = some (.iload 6, 2) by decide +kernel) rfl
theorem q44_41 (L st : List Value) (h : xH) (a b : Int32) : rn 44 41 L (.int b :: .int a :: st) h = rn 44 42 L (.int (a + b) :: st) h := e_iadd (show x_fe 44 41 = some (.iadd, 1) by decide +kernel)
theorem q44_42 (L st : List Value) (h : xH) : rn 44 42 L st h = rn 44 44 L (.int 48 :: st) h := e_bipush (show x_fe 44 42 = some (.bipush 48, 2) by decide +kernel) (by decide)
theorem q44_44 (L st : List Value) (h : xH) (a b : Int32) : rn 44 44 L (.int b :: .int a :: st) h = rn 44 45 L (.int (a - b) :: st) h := e_isub (show x_fe 44 44 = some (.isub, 1) by decide +kernel)
theorem q44_45 (v0 v1 v3 v4 v5 v6 : Value) (x : Int32) (st : List Value) (h : xH) : rn 44 45 [v0, v1, .int x, v3, v4, v5, v6] st h = rn 44 46 [v0, v1, .int x, v3, v4, v5, v6] (.int x :: st) h := e_iload_n (show x_fe 44 45 = some (.iload_n 2, 1) by decide +kernel) rfl
theorem q44_46 (v0 v1 v2 v4 v5 v6 : Value) (x : Int32) (st : List Value) (h : xH) : rn 44 46 [v0, v1, v2, .int x, v4, v5, v6] st h = rn 44 47 [v0, v1, v2, .int x, v4, v5, v6] (.int x :: st) h := e_iload_n (show x_fe 44 46 = some (.iload_n 3, 1) by decide +kernel) rfl
theorem q44_47 (L : List Value) (h : xH) (x0 : Int32) (x1 : Int32) (x2 : Int32) (hc : (cl 45 [.int x0, .int x1, .int x2] h).isSome = true) : rn 44 47 L [.int x2, .int x1, .int x0] h = rn 44 50 L (rv (cl 45 [.int x0, .int x1, .int x2] h) ++ []) (rh (cl 45 [.int x0, .int x1, .int x2] h)) := e_callS (n := 3) (show x_fe 44 47 = some (.invokestatic 61, 3) by decide +kernel) (by decide +kernel) (by decide +kernel) rfl rfl rfl ⟨by decide +kernel, by decide +kernel, Nat.le_of_ble_eq_true rfl, Nat.le_of_ble_eq_true rfl, by decide⟩ hc
theorem q44_50 (L st : List Value) (h : xH) (x : Int32) : rn 44 50 L (.int x :: st) h = if x = 0 then rn 44 53 L st h else rn 44 56 L st h := e_if_ne (show x_fe 44 50 = some (.ifCond .ne 6, 3) by decide +kernel) (by decide)
theorem q44_53 (v0 v1 v2 v3 v5 v6 : Value) (x : Int32) (st : List Value) (h : xH) : rn 44 53 [v0, v1, v2, v3, .int x, v5, v6] st h = rn 44 55 [v0, v1, v2, v3, .int x, v5, v6] (.int x :: st) h := e_iload (show x_fe 44 53 = some (.iload 4, 2) by decide +kernel) rfl
theorem q44_55 (L : List Value) (h : xH) (x : Int32) : rn 44 55 L [.int x] h = some (some (.int x), h) := e_iret (st := []) (ty := .int) (show x_fe 44 55 = some (.ireturn, 1) by decide +kernel) (by decide +kernel) rfl
theorem q44_56 (v0 v1 v2 v3 v5 v6 : Value) (x : Int32) (st : List Value) (h : xH) : rn 44 56 [v0, v1, v2, v3, .int x, v5, v6] st h = rn 44 58 [v0, v1, v2, v3, .int x, v5, v6] (.int x :: st) h := e_iload (show x_fe 44 56 = some (.iload 4, 2) by decide +kernel) rfl
theorem q44_58 (L st : List Value) (h : xH) : rn 44 58 L st h = rn 44 60 L (.int 10 :: st) h := e_bipush (show x_fe 44 58 = some (.bipush 10, 2) by decide +kernel) (by decide)
theorem q44_60 (L st : List Value) (h : xH) (a b : Int32) : rn 44 60 L (.int b :: .int a :: st) h = rn 44 61 L (.int (a * b) :: st) h := e_imul (show x_fe 44 60 = some (.imul, 1) by decide +kernel)
theorem q44_61 (v0 v1 v2 v3 v4 v5 : Value) (x : Int32) (st : List Value) (h : xH) : rn 44 61 [v0, v1, v2, v3, v4, v5, .int x] st h = rn 44 63 [v0, v1, v2, v3, v4, v5, .int x] (.int x :: st) h := e_iload (show x_fe 44 61 = some (.iload 6, 2) by decide +kernel) rfl
theorem q44_63 (L st : List Value) (h : xH) (a b : Int32) : rn 44 63 L (.int b :: .int a :: st) h = rn 44 64 L (.int (a + b) :: st) h := e_iadd (show x_fe 44 63 = some (.iadd, 1) by decide +kernel)
theorem q44_64 (L st : List Value) (h : xH) : rn 44 64 L st h = rn 44 66 L (.int 48 :: st) h := e_bipush (show x_fe 44 64 = some (.bipush 48, 2) by decide +kernel) (by decide)
theorem q44_66 (L st : List Value) (h : xH) (a b : Int32) : rn 44 66 L (.int b :: .int a :: st) h = rn 44 67 L (.int (a - b) :: st) h := e_isub (show x_fe 44 66 = some (.isub, 1) by decide +kernel)
theorem q44_67 (v0 v1 v2 v4 v5 v6 : Value) (w : Int32) (x : Int32) (st : List Value) (h : xH) : rn 44 67 [v0, v1, v2, .int w, v4, v5, v6] (.int x :: st) h = rn 44 69 [v0, v1, v2, .int w, .int x, v5, v6] st h := e_istore (show x_fe 44 67 = some (.istore 4, 2) by decide +kernel) (Nat.le_of_ble_eq_true rfl) rfl
theorem q44_69 (v1 v2 v3 v4 v5 v6 : Value) (x : Nat) (st : List Value) (h : xH) : rn 44 69 [.ref x, v1, v2, v3, v4, v5, v6] st h = rn 44 70 [.ref x, v1, v2, v3, v4, v5, v6] (.ref x :: st) h := e_aload_n (show x_fe 44 69 = some (.aload_n 0, 1) by decide +kernel) rfl
theorem q44_70 (L st : List Value) (h : xH) (a : Nat) : rn 44 70 L (.ref a :: st) h = rn 44 71 L (.ref a :: .ref a :: st) h := e_dupA (show x_fe 44 70 = some (.dup, 1) by decide +kernel)
theorem q44_71 (L st : List Value) (h : xH) (a : Nat) (hF : isF (h.2 a) 4 2 = true) : rn 44 71 L (.ref a :: st) h = rn 44 74 L (fld (h.2 a) 2 :: st) h := e_get (show x_fe 44 71 = some (.getfield 22, 3) by decide +kernel) (by decide +kernel) hF
theorem q44_74 (L st : List Value) (h : xH) : rn 44 74 L st h = rn 44 75 L (.int 1 :: st) h := e_iconst (show x_fe 44 74 = some (.iconst 1, 1) by decide +kernel) (by decide)
theorem q44_75 (L st : List Value) (h : xH) (a b : Int32) : rn 44 75 L (.int b :: .int a :: st) h = rn 44 76 L (.int (a + b) :: st) h := e_iadd (show x_fe 44 75 = some (.iadd, 1) by decide +kernel)
theorem q44_76 (L st : List Value) (h : xH) (x : Int32) (a : Nat) (hF : isF (h.2 a) 4 2 = true) : rn 44 76 L (.int x :: .ref a :: st) h = rn 44 79 L st (h.1, mu h.2 a (fset (h.2 a) 2 (.int x))) := e_put (fin := false) (ci := 4) (k := 2) (show x_fe 44 76 = some (.putfield 22, 3) by decide +kernel) (by decide +kernel) (by decide +kernel) rfl hF
theorem q44_79 (v0 v1 v2 v3 v6 : Value) (w : Int32) (x : Int32) (st : List Value) (h : xH) : rn 44 79 [v0, v1, v2, v3, .int w, .int x, v6] st h = rn 44 82 [v0, v1, v2, v3, .int w, .int (x + 1), v6] st h := e_iinc (show x_fe 44 79 = some (.iinc 5 1, 3) by decide +kernel) (by decide) rfl (Nat.le_of_ble_eq_true rfl) rfl
theorem q44_82 (L st : List Value) (h : xH) : rn 44 82 L st h = rn 44 6 L st h := e_goto (show x_fe 44 82 = some (.goto (-76), 3) by decide +kernel) (by decide)
theorem q44_85 (v0 v1 v2 v3 v5 v6 : Value) (x : Int32) (st : List Value) (h : xH) : rn 44 85 [v0, v1, v2, v3, .int x, v5, v6] st h = rn 44 87 [v0, v1, v2, v3, .int x, v5, v6] (.int x :: st) h := e_iload (show x_fe 44 85 = some (.iload 4, 2) by decide +kernel) rfl
theorem q44_87 (L : List Value) (h : xH) (x : Int32) : rn 44 87 L [.int x] h = some (some (.int x), h) := e_iret (st := []) (ty := .int) (show x_fe 44 87 = some (.ireturn, 1) by decide +kernel) (by decide +kernel) rfl
theorem c45 (x0 : Int32) (x1 : Int32) (x2 : Int32) (h : xH) : cl 45 [.int x0, .int x1, .int x2] h = rn 45 0 [.int x0, .int x1, .int x2] [] h := rfl
theorem q45_0 (v1 v2 : Value) (x : Int32) (st : List Value) (h : xH) : rn 45 0 [.int x, v1, v2] st h = rn 45 1 [.int x, v1, v2] (.int x :: st) h := e_iload_n (show x_fe 45 0 = some (.iload_n 0, 1) by decide +kernel) rfl
theorem q45_1 (L st : List Value) (h : xH) (x : Int32) : rn 45 1 L (.int x :: st) h = if 0 < x then rn 45 4 L st h else rn 45 36 L st h := e_if_le (show x_fe 45 1 = some (.ifCond .le 35, 3) by decide +kernel) (by decide)
theorem q45_4 (v1 v2 : Value) (x : Int32) (st : List Value) (h : xH) : rn 45 4 [.int x, v1, v2] st h = rn 45 5 [.int x, v1, v2] (.int x :: st) h := e_iload_n (show x_fe 45 4 = some (.iload_n 0, 1) by decide +kernel) rfl
theorem q45_5 (v0 v2 : Value) (x : Int32) (st : List Value) (h : xH) : rn 45 5 [v0, .int x, v2] st h = rn 45 6 [v0, .int x, v2] (.int x :: st) h := e_iload_n (show x_fe 45 5 = some (.iload_n 1, 1) by decide +kernel) rfl
theorem q45_6 (v0 v1 : Value) (x : Int32) (st : List Value) (h : xH) : rn 45 6 [v0, v1, .int x] st h = rn 45 7 [v0, v1, .int x] (.int x :: st) h := e_iload_n (show x_fe 45 6 = some (.iload_n 2, 1) by decide +kernel) rfl
theorem q45_7 (L : List Value) (h : xH) (x0 : Int32) (x1 : Int32) (x2 : Int32) (hc : (cl 84 [.int x0, .int x1, .int x2] h).isSome = true) : rn 45 7 L [.int x2, .int x1, .int x0] h = rn 45 10 L (rv (cl 84 [.int x0, .int x1, .int x2] h) ++ []) (rh (cl 84 [.int x0, .int x1, .int x2] h)) := e_callS (n := 3) (show x_fe 45 7 = some (.invokestatic 45, 3) by decide +kernel) (by decide +kernel) (by decide +kernel) rfl rfl rfl ⟨by decide +kernel, by decide +kernel, Nat.le_of_ble_eq_true rfl, Nat.le_of_ble_eq_true rfl, by decide⟩ hc
theorem q45_10 (L st : List Value) (h : xH) (x : Int32) : rn 45 10 L (.int x :: st) h = if x = 0 then rn 45 13 L st h else rn 45 32 L st h := e_if_ne (show x_fe 45 10 = some (.ifCond .ne 22, 3) by decide +kernel) (by decide)
theorem q45_13 (v1 v2 : Value) (x : Int32) (st : List Value) (h : xH) : rn 45 13 [.int x, v1, v2] st h = rn 45 14 [.int x, v1, v2] (.int x :: st) h := e_iload_n (show x_fe 45 13 = some (.iload_n 0, 1) by decide +kernel) rfl
theorem q45_14 (L st : List Value) (h : xH) : rn 45 14 L st h = rn 45 16 L (.int 10 :: st) h := e_bipush (show x_fe 45 14 = some (.bipush 10, 2) by decide +kernel) (by decide)
theorem q45_16 (L st : List Value) (h : xH) (a b : Int32) : rn 45 16 L (.int b :: .int a :: st) h = rn 45 17 L (.int (a * b) :: st) h := e_imul (show x_fe 45 16 = some (.imul, 1) by decide +kernel)
theorem q45_17 (v0 v1 : Value) (x : Int32) (st : List Value) (h : xH) : rn 45 17 [v0, v1, .int x] st h = rn 45 18 [v0, v1, .int x] (.int x :: st) h := e_iload_n (show x_fe 45 17 = some (.iload_n 2, 1) by decide +kernel) rfl
theorem q45_18 (L st : List Value) (h : xH) (x w : Int32) : rn 45 18 L (.int w :: .int x :: st) h = if w < x then rn 45 36 L st h else rn 45 21 L st h := e_icmp_gt (show x_fe 45 18 = some (.if_icmp .gt 18, 3) by decide +kernel) (by decide)
theorem q45_21 (v1 v2 : Value) (x : Int32) (st : List Value) (h : xH) : rn 45 21 [.int x, v1, v2] st h = rn 45 22 [.int x, v1, v2] (.int x :: st) h := e_iload_n (show x_fe 45 21 = some (.iload_n 0, 1) by decide +kernel) rfl
theorem q45_22 (L st : List Value) (h : xH) : rn 45 22 L st h = rn 45 24 L (.int 10 :: st) h := e_bipush (show x_fe 45 22 = some (.bipush 10, 2) by decide +kernel) (by decide)
theorem q45_24 (L st : List Value) (h : xH) (a b : Int32) : rn 45 24 L (.int b :: .int a :: st) h = rn 45 25 L (.int (a * b) :: st) h := e_imul (show x_fe 45 24 = some (.imul, 1) by decide +kernel)
theorem q45_25 (L st : List Value) (h : xH) : rn 45 25 L st h = rn 45 27 L (.int 9 :: st) h := e_bipush (show x_fe 45 25 = some (.bipush 9, 2) by decide +kernel) (by decide)
theorem q45_27 (L st : List Value) (h : xH) (a b : Int32) : rn 45 27 L (.int b :: .int a :: st) h = rn 45 28 L (.int (a + b) :: st) h := e_iadd (show x_fe 45 27 = some (.iadd, 1) by decide +kernel)
theorem q45_28 (v0 v2 : Value) (x : Int32) (st : List Value) (h : xH) : rn 45 28 [v0, .int x, v2] st h = rn 45 29 [v0, .int x, v2] (.int x :: st) h := e_iload_n (show x_fe 45 28 = some (.iload_n 1, 1) by decide +kernel) rfl
theorem q45_29 (L st : List Value) (h : xH) (x w : Int32) : rn 45 29 L (.int w :: .int x :: st) h = if x < w then rn 45 36 L st h else rn 45 32 L st h := e_icmp_lt (show x_fe 45 29 = some (.if_icmp .lt 7, 3) by decide +kernel) (by decide)
theorem q45_32 (L st : List Value) (h : xH) : rn 45 32 L st h = rn 45 33 L (.int 1 :: st) h := e_iconst (show x_fe 45 32 = some (.iconst 1, 1) by decide +kernel) (by decide)
theorem q45_33 (L st : List Value) (h : xH) : rn 45 33 L st h = rn 45 37 L st h := e_goto (show x_fe 45 33 = some (.goto 4, 3) by decide +kernel) (by decide)
theorem q45_36 (L st : List Value) (h : xH) : rn 45 36 L st h = rn 45 37 L (.int 0 :: st) h := e_iconst (show x_fe 45 36 = some (.iconst 0, 1) by decide +kernel) (by decide)
theorem q45_37 (L : List Value) (h : xH) (x : Int32) (hx : (x == 0 || x == 1) = true) : rn 45 37 L [.int x] h = some (some (.int x), h) := e_iret (st := []) (ty := .boolean) (show x_fe 45 37 = some (.ireturn, 1) by decide +kernel) (by decide +kernel) hx
theorem c46 (x0 : Nat) (h : xH) : cl 46 [.ref x0] h = rn 46 0 [.ref x0] [] h := rfl
theorem q46_0 (x : Nat) (st : List Value) (h : xH) : rn 46 0 [.ref x] st h = rn 46 1 [.ref x] (.ref x :: st) h := e_aload_n (show x_fe 46 0 = some (.aload_n 0, 1) by decide +kernel) rfl
theorem q46_1 (L : List Value) (h : xH) (a : Nat) : rn 46 1 L [.ref a] h = rn 46 4 L [] h := e_oinit (show x_fe 46 1 = some (.invokespecial 1, 3) by decide +kernel) (by decide +kernel) (by decide +kernel)
theorem q46_4 (x : Nat) (st : List Value) (h : xH) : rn 46 4 [.ref x] st h = rn 46 5 [.ref x] (.ref x :: st) h := e_aload_n (show x_fe 46 4 = some (.aload_n 0, 1) by decide +kernel) rfl
theorem q46_5 (L st : List Value) (h : xH) : rn 46 5 L st h = rn 46 8 L (.ref h.1.1 :: st) ((h.1.1 + 1, h.1.2 + 6), mu h.2 h.1.1 (.inr (2, [.int 0, .int 0, .int 0, .null, .null, .null]))) := e_new (show x_fe 46 5 = some (.new 7, 3) by decide +kernel) (by decide +kernel) (by decide +kernel) (by decide +kernel)
theorem q46_8 (L st : List Value) (h : xH) (a : Nat) : rn 46 8 L (.ref a :: st) h = rn 46 9 L (.ref a :: .ref a :: st) h := e_dupA (show x_fe 46 8 = some (.dup, 1) by decide +kernel)
theorem q46_9 (L : List Value) (s0 s1 : Value) (h : xH)  (b : Nat) (hc : (cl 7 [.ref b] h).isSome = true) : rn 46 9 L [.ref b, s0, s1] h = rn 46 12 L (rv (cl 7 [.ref b] h) ++ [s0, s1]) (rh (cl 7 [.ref b] h)) := e_callI (n := 0) (show x_fe 46 9 = some (.invokespecial 9, 3) by decide +kernel) (by decide +kernel) (by decide +kernel) rfl rfl rfl ⟨by decide +kernel, by decide +kernel, Nat.le_of_ble_eq_true rfl, Nat.le_of_ble_eq_true rfl, by decide⟩ hc
theorem q46_12 (L st : List Value) (h : xH) (x : Nat) (a : Nat) (hF : isF (h.2 a) 5 0 = true) : rn 46 12 L (.ref x :: .ref a :: st) h = rn 46 15 L st (h.1, mu h.2 a (fset (h.2 a) 0 (.ref x))) := e_put (fin := true) (ci := 5) (k := 0) (show x_fe 46 12 = some (.putfield 10, 3) by decide +kernel) (by decide +kernel) (by decide +kernel) rfl hF
theorem q46_15 (x : Nat) (st : List Value) (h : xH) : rn 46 15 [.ref x] st h = rn 46 16 [.ref x] (.ref x :: st) h := e_aload_n (show x_fe 46 15 = some (.aload_n 0, 1) by decide +kernel) rfl
theorem q46_16 (L st : List Value) (h : xH) : rn 46 16 L st h = rn 46 17 L (.int 0 :: st) h := e_iconst (show x_fe 46 16 = some (.iconst 0, 1) by decide +kernel) (by decide)
theorem q46_17 (L st : List Value) (h : xH) (x : Int32) (hx : (x == 0 || x == 1) = true) (a : Nat) (hF : isF (h.2 a) 5 1 = true) : rn 46 17 L (.int x :: .ref a :: st) h = rn 46 20 L st (h.1, mu h.2 a (fset (h.2 a) 1 (.int x))) := e_put (fin := false) (ci := 5) (k := 1) (show x_fe 46 17 = some (.putfield 16, 3) by decide +kernel) (by decide +kernel) (by decide +kernel) hx hF
theorem q46_20 (L : List Value) (h : xH) : rn 46 20 L [] h = some (none, h) := e_ret (st := []) (show x_fe 46 20 = some (.return_, 1) by decide +kernel) (by decide +kernel)
theorem c47 (x0 : Nat) (h : xH) : cl 47 [.ref x0] h = rn 47 0 [.ref x0] [] h := rfl
theorem q47_0 (x : Nat) (st : List Value) (h : xH) : rn 47 0 [.ref x] st h = rn 47 1 [.ref x] (.ref x :: st) h := e_aload_n (show x_fe 47 0 = some (.aload_n 0, 1) by decide +kernel) rfl
theorem q47_1 (L : List Value) (h : xH) (a : Nat) : rn 47 1 L [.ref a] h = rn 47 4 L [] h := e_oinit (show x_fe 47 1 = some (.invokespecial 3, 3) by decide +kernel) (by decide +kernel) (by decide +kernel)
theorem q47_4 (x : Nat) (st : List Value) (h : xH) : rn 47 4 [.ref x] st h = rn 47 5 [.ref x] (.ref x :: st) h := e_aload_n (show x_fe 47 4 = some (.aload_n 0, 1) by decide +kernel) rfl
theorem q47_5 (L st : List Value) (h : xH) : rn 47 5 L st h = rn 47 7 L (.int 20 :: st) h := e_bipush (show x_fe 47 5 = some (.bipush 20, 2) by decide +kernel) (by decide)
theorem q47_7 (L st : List Value) (h : xH) (n : Int32) (hn : ¬ n < 0 ∧ n.toNatClampNeg * 4 ≤ 536870912) : rn 47 7 L (.int n :: st) h = rn 47 9 L (.ref h.1.1 :: st) ((h.1.1 + 1, h.1.2 + n.toNatClampNeg), mu h.2 h.1.1 (.inl (0, n.toNatClampNeg, .inl (fun _ => 0)))) := e_narrI (show x_fe 47 7 = some (.newarray .int, 2) by decide +kernel) hn
theorem q47_9 (L st : List Value) (h : xH) (x : Nat) (a : Nat) (hF : isF (h.2 a) 6 0 = true) : rn 47 9 L (.ref x :: .ref a :: st) h = rn 47 12 L st (h.1, mu h.2 a (fset (h.2 a) 0 (.ref x))) := e_put (fin := true) (ci := 6) (k := 0) (show x_fe 47 9 = some (.putfield 9, 3) by decide +kernel) (by decide +kernel) (by decide +kernel) rfl hF
theorem q47_12 (x : Nat) (st : List Value) (h : xH) : rn 47 12 [.ref x] st h = rn 47 13 [.ref x] (.ref x :: st) h := e_aload_n (show x_fe 47 12 = some (.aload_n 0, 1) by decide +kernel) rfl
theorem q47_13 (L st : List Value) (h : xH) : rn 47 13 L st h = rn 47 15 L (.int 20 :: st) h := e_bipush (show x_fe 47 13 = some (.bipush 20, 2) by decide +kernel) (by decide)
theorem q47_15 (L st : List Value) (h : xH) (n : Int32) (hn : ¬ n < 0 ∧ n.toNatClampNeg * 4 ≤ 536870912) : rn 47 15 L (.int n :: st) h = rn 47 17 L (.ref h.1.1 :: st) ((h.1.1 + 1, h.1.2 + n.toNatClampNeg), mu h.2 h.1.1 (.inl (0, n.toNatClampNeg, .inl (fun _ => 0)))) := e_narrI (show x_fe 47 15 = some (.newarray .int, 2) by decide +kernel) hn
theorem q47_17 (L st : List Value) (h : xH) (x : Nat) (a : Nat) (hF : isF (h.2 a) 6 1 = true) : rn 47 17 L (.ref x :: .ref a :: st) h = rn 47 20 L st (h.1, mu h.2 a (fset (h.2 a) 1 (.ref x))) := e_put (fin := true) (ci := 6) (k := 1) (show x_fe 47 17 = some (.putfield 15, 3) by decide +kernel) (by decide +kernel) (by decide +kernel) rfl hF
theorem q47_20 (x : Nat) (st : List Value) (h : xH) : rn 47 20 [.ref x] st h = rn 47 21 [.ref x] (.ref x :: st) h := e_aload_n (show x_fe 47 20 = some (.aload_n 0, 1) by decide +kernel) rfl
theorem q47_21 (L st : List Value) (h : xH) : rn 47 21 L st h = rn 47 23 L (.int 21 :: st) h := e_bipush (show x_fe 47 21 = some (.bipush 21, 2) by decide +kernel) (by decide)
theorem q47_23 (L st : List Value) (h : xH) (n : Int32) (hn : ¬ n < 0 ∧ n.toNatClampNeg * 4 ≤ 536870912) : rn 47 23 L (.int n :: st) h = rn 47 25 L (.ref h.1.1 :: st) ((h.1.1 + 1, h.1.2 + n.toNatClampNeg), mu h.2 h.1.1 (.inl (0, n.toNatClampNeg, .inl (fun _ => 0)))) := e_narrI (show x_fe 47 23 = some (.newarray .int, 2) by decide +kernel) hn
theorem q47_25 (L st : List Value) (h : xH) (x : Nat) (a : Nat) (hF : isF (h.2 a) 6 2 = true) : rn 47 25 L (.ref x :: .ref a :: st) h = rn 47 28 L st (h.1, mu h.2 a (fset (h.2 a) 2 (.ref x))) := e_put (fin := true) (ci := 6) (k := 2) (show x_fe 47 25 = some (.putfield 18, 3) by decide +kernel) (by decide +kernel) (by decide +kernel) rfl hF
theorem q47_28 (x : Nat) (st : List Value) (h : xH) : rn 47 28 [.ref x] st h = rn 47 29 [.ref x] (.ref x :: st) h := e_aload_n (show x_fe 47 28 = some (.aload_n 0, 1) by decide +kernel) rfl
theorem q47_29 (L st : List Value) (h : xH) : rn 47 29 L st h = rn 47 30 L (.int 0 :: st) h := e_iconst (show x_fe 47 29 = some (.iconst 0, 1) by decide +kernel) (by decide)
theorem q47_30 (L st : List Value) (h : xH) (x : Int32) (a : Nat) (hF : isF (h.2 a) 6 3 = true) : rn 47 30 L (.int x :: .ref a :: st) h = rn 47 33 L st (h.1, mu h.2 a (fset (h.2 a) 3 (.int x))) := e_put (fin := false) (ci := 6) (k := 3) (show x_fe 47 30 = some (.putfield 21, 3) by decide +kernel) (by decide +kernel) (by decide +kernel) rfl hF
theorem q47_33 (L : List Value) (h : xH) : rn 47 33 L [] h = some (none, h) := e_ret (st := []) (show x_fe 47 33 = some (.return_, 1) by decide +kernel) (by decide +kernel)
theorem c48 (x0 : Nat) (x1 : Nat) (h : xH) : cl 48 [.ref x0, .ref x1] h = rn 48 0 [.ref x0, .ref x1] [] h := rfl
theorem q48_0 (v0 : Value) (x : Nat) (st : List Value) (h : xH) : rn 48 0 [v0, .ref x] st h = rn 48 1 [v0, .ref x] (.ref x :: st) h := e_aload_n (show x_fe 48 0 = some (.aload_n 1, 1) by decide +kernel) rfl
theorem q48_0N (v0 : Value) (st : List Value) (h : xH) : rn 48 0 [v0, .null] st h = rn 48 1 [v0, .null] (.null :: st) h := e_aload_nN (show x_fe 48 0 = some (.aload_n 1, 1) by decide +kernel) rfl
theorem q48_1 (L st : List Value) (h : xH) (a : Nat) (hF : isF (h.2 a) 6 0 = true) : rn 48 1 L (.ref a :: st) h = rn 48 4 L (fld (h.2 a) 0 :: st) h := e_get (show x_fe 48 1 = some (.getfield 9, 3) by decide +kernel) (by decide +kernel) hF
theorem q48_4 (v1 : Value) (x : Nat) (st : List Value) (h : xH) : rn 48 4 [.ref x, v1] st h = rn 48 5 [.ref x, v1] (.ref x :: st) h := e_aload_n (show x_fe 48 4 = some (.aload_n 0, 1) by decide +kernel) rfl
theorem q48_5 (L st : List Value) (h : xH) (a : Nat) (hF : isF (h.2 a) 6 0 = true) : rn 48 5 L (.ref a :: st) h = rn 48 8 L (fld (h.2 a) 0 :: st) h := e_get (show x_fe 48 5 = some (.getfield 9, 3) by decide +kernel) (by decide +kernel) hF
theorem q48_8 (L : List Value) (h : xH) (x0 : Nat) (x1 : Nat) (hc : (cl 87 [.ref x0, .ref x1] h).isSome = true) : rn 48 8 L [.ref x1, .ref x0] h = rn 48 11 L (rv (cl 87 [.ref x0, .ref x1] h) ++ []) (rh (cl 87 [.ref x0, .ref x1] h)) := e_callS (n := 2) (show x_fe 48 8 = some (.invokestatic 25, 3) by decide +kernel) (by decide +kernel) (by decide +kernel) rfl rfl rfl ⟨by decide +kernel, by decide +kernel, Nat.le_of_ble_eq_true rfl, Nat.le_of_ble_eq_true rfl, by decide⟩ hc
theorem q48_11 (v0 : Value) (x : Nat) (st : List Value) (h : xH) : rn 48 11 [v0, .ref x] st h = rn 48 12 [v0, .ref x] (.ref x :: st) h := e_aload_n (show x_fe 48 11 = some (.aload_n 1, 1) by decide +kernel) rfl
theorem q48_11N (v0 : Value) (st : List Value) (h : xH) : rn 48 11 [v0, .null] st h = rn 48 12 [v0, .null] (.null :: st) h := e_aload_nN (show x_fe 48 11 = some (.aload_n 1, 1) by decide +kernel) rfl
theorem q48_12 (L st : List Value) (h : xH) (a : Nat) (hF : isF (h.2 a) 6 1 = true) : rn 48 12 L (.ref a :: st) h = rn 48 15 L (fld (h.2 a) 1 :: st) h := e_get (show x_fe 48 12 = some (.getfield 15, 3) by decide +kernel) (by decide +kernel) hF
theorem q48_15 (v1 : Value) (x : Nat) (st : List Value) (h : xH) : rn 48 15 [.ref x, v1] st h = rn 48 16 [.ref x, v1] (.ref x :: st) h := e_aload_n (show x_fe 48 15 = some (.aload_n 0, 1) by decide +kernel) rfl
theorem q48_16 (L st : List Value) (h : xH) (a : Nat) (hF : isF (h.2 a) 6 1 = true) : rn 48 16 L (.ref a :: st) h = rn 48 19 L (fld (h.2 a) 1 :: st) h := e_get (show x_fe 48 16 = some (.getfield 15, 3) by decide +kernel) (by decide +kernel) hF
theorem q48_19 (L : List Value) (h : xH) (x0 : Nat) (x1 : Nat) (hc : (cl 87 [.ref x0, .ref x1] h).isSome = true) : rn 48 19 L [.ref x1, .ref x0] h = rn 48 22 L (rv (cl 87 [.ref x0, .ref x1] h) ++ []) (rh (cl 87 [.ref x0, .ref x1] h)) := e_callS (n := 2) (show x_fe 48 19 = some (.invokestatic 25, 3) by decide +kernel) (by decide +kernel) (by decide +kernel) rfl rfl rfl ⟨by decide +kernel, by decide +kernel, Nat.le_of_ble_eq_true rfl, Nat.le_of_ble_eq_true rfl, by decide⟩ hc
theorem q48_22 (v0 : Value) (x : Nat) (st : List Value) (h : xH) : rn 48 22 [v0, .ref x] st h = rn 48 23 [v0, .ref x] (.ref x :: st) h := e_aload_n (show x_fe 48 22 = some (.aload_n 1, 1) by decide +kernel) rfl
theorem q48_22N (v0 : Value) (st : List Value) (h : xH) : rn 48 22 [v0, .null] st h = rn 48 23 [v0, .null] (.null :: st) h := e_aload_nN (show x_fe 48 22 = some (.aload_n 1, 1) by decide +kernel) rfl
theorem q48_23 (L st : List Value) (h : xH) (a : Nat) (hF : isF (h.2 a) 6 2 = true) : rn 48 23 L (.ref a :: st) h = rn 48 26 L (fld (h.2 a) 2 :: st) h := e_get (show x_fe 48 23 = some (.getfield 18, 3) by decide +kernel) (by decide +kernel) hF
theorem q48_26 (v1 : Value) (x : Nat) (st : List Value) (h : xH) : rn 48 26 [.ref x, v1] st h = rn 48 27 [.ref x, v1] (.ref x :: st) h := e_aload_n (show x_fe 48 26 = some (.aload_n 0, 1) by decide +kernel) rfl
theorem q48_27 (L st : List Value) (h : xH) (a : Nat) (hF : isF (h.2 a) 6 2 = true) : rn 48 27 L (.ref a :: st) h = rn 48 30 L (fld (h.2 a) 2 :: st) h := e_get (show x_fe 48 27 = some (.getfield 18, 3) by decide +kernel) (by decide +kernel) hF
theorem q48_30 (L : List Value) (h : xH) (x0 : Nat) (x1 : Nat) (hc : (cl 87 [.ref x0, .ref x1] h).isSome = true) : rn 48 30 L [.ref x1, .ref x0] h = rn 48 33 L (rv (cl 87 [.ref x0, .ref x1] h) ++ []) (rh (cl 87 [.ref x0, .ref x1] h)) := e_callS (n := 2) (show x_fe 48 30 = some (.invokestatic 25, 3) by decide +kernel) (by decide +kernel) (by decide +kernel) rfl rfl rfl ⟨by decide +kernel, by decide +kernel, Nat.le_of_ble_eq_true rfl, Nat.le_of_ble_eq_true rfl, by decide⟩ hc
theorem q48_33 (v1 : Value) (x : Nat) (st : List Value) (h : xH) : rn 48 33 [.ref x, v1] st h = rn 48 34 [.ref x, v1] (.ref x :: st) h := e_aload_n (show x_fe 48 33 = some (.aload_n 0, 1) by decide +kernel) rfl
theorem q48_34 (v0 : Value) (x : Nat) (st : List Value) (h : xH) : rn 48 34 [v0, .ref x] st h = rn 48 35 [v0, .ref x] (.ref x :: st) h := e_aload_n (show x_fe 48 34 = some (.aload_n 1, 1) by decide +kernel) rfl
theorem q48_34N (v0 : Value) (st : List Value) (h : xH) : rn 48 34 [v0, .null] st h = rn 48 35 [v0, .null] (.null :: st) h := e_aload_nN (show x_fe 48 34 = some (.aload_n 1, 1) by decide +kernel) rfl
theorem q48_35 (L st : List Value) (h : xH) (a : Nat) (hF : isF (h.2 a) 6 3 = true) : rn 48 35 L (.ref a :: st) h = rn 48 38 L (fld (h.2 a) 3 :: st) h := e_get (show x_fe 48 35 = some (.getfield 21, 3) by decide +kernel) (by decide +kernel) hF
theorem q48_38 (L st : List Value) (h : xH) (x : Int32) (a : Nat) (hF : isF (h.2 a) 6 3 = true) : rn 48 38 L (.int x :: .ref a :: st) h = rn 48 41 L st (h.1, mu h.2 a (fset (h.2 a) 3 (.int x))) := e_put (fin := false) (ci := 6) (k := 3) (show x_fe 48 38 = some (.putfield 21, 3) by decide +kernel) (by decide +kernel) (by decide +kernel) rfl hF
theorem q48_41 (L : List Value) (h : xH) : rn 48 41 L [] h = some (none, h) := e_ret (st := []) (show x_fe 48 41 = some (.return_, 1) by decide +kernel) (by decide +kernel)
theorem c49 (x0 : Nat) (x1 : Nat) (h : xH) : cl 49 [.ref x0, .ref x1] h = rn 49 0 [.ref x0, .ref x1, unk, unk] [] h := rfl
theorem q49_0 (v0 v2 v3 : Value) (x : Nat) (st : List Value) (h : xH) : rn 49 0 [v0, .ref x, v2, v3] st h = rn 49 1 [v0, .ref x, v2, v3] (.ref x :: st) h := e_aload_n (show x_fe 49 0 = some (.aload_n 1, 1) by decide +kernel) rfl
theorem q49_0N (v0 v2 v3 : Value) (st : List Value) (h : xH) : rn 49 0 [v0, .null, v2, v3] st h = rn 49 1 [v0, .null, v2, v3] (.null :: st) h := e_aload_nN (show x_fe 49 0 = some (.aload_n 1, 1) by decide +kernel) rfl
theorem q49_1 (L st : List Value) (h : xH) (a : Nat) (hF : isF (h.2 a) 6 3 = true) : rn 49 1 L (.ref a :: st) h = rn 49 4 L (fld (h.2 a) 3 :: st) h := e_get (show x_fe 49 1 = some (.getfield 21, 3) by decide +kernel) (by decide +kernel) hF
theorem q49_4 (v0 v1 v2 v3 : Value) (x : Int32) (st : List Value) (h : xH) : rn 49 4 [v0, v1, v2, v3] (.int x :: st) h = rn 49 5 [v0, k2 v1, .int x, v3] st h := e_istore_n (show x_fe 49 4 = some (.istore_n 2, 1) by decide +kernel) (Nat.le_of_ble_eq_true rfl) rfl
theorem q49_5 (L st : List Value) (h : xH) : rn 49 5 L st h = rn 49 6 L (.int 0 :: st) h := e_iconst (show x_fe 49 5 = some (.iconst 0, 1) by decide +kernel) (by decide)
theorem q49_6 (v0 v1 v3 : Value) (w : Int32) (x : Int32) (st : List Value) (h : xH) : rn 49 6 [v0, v1, .int w, v3] (.int x :: st) h = rn 49 7 [v0, v1, .int w, .int x] st h := e_istore_n (show x_fe 49 6 = some (.istore_n 3, 1) by decide +kernel) (Nat.le_of_ble_eq_true rfl) rfl
theorem q49_7 (v0 v1 v2 : Value) (x : Int32) (st : List Value) (h : xH) : rn 49 7 [v0, v1, v2, .int x] st h = rn 49 8 [v0, v1, v2, .int x] (.int x :: st) h := e_iload_n (show x_fe 49 7 = some (.iload_n 3, 1) by decide +kernel) rfl
theorem q49_8 (v0 v1 v3 : Value) (x : Int32) (st : List Value) (h : xH) : rn 49 8 [v0, v1, .int x, v3] st h = rn 49 9 [v0, v1, .int x, v3] (.int x :: st) h := e_iload_n (show x_fe 49 8 = some (.iload_n 2, 1) by decide +kernel) rfl
theorem q49_9 (L st : List Value) (h : xH) (x w : Int32) : rn 49 9 L (.int w :: .int x :: st) h = if x < w then rn 49 12 L st h else rn 49 32 L st h := e_icmp_ge (show x_fe 49 9 = some (.if_icmp .ge 23, 3) by decide +kernel) (by decide)
theorem q49_12 (v1 v2 v3 : Value) (x : Nat) (st : List Value) (h : xH) : rn 49 12 [.ref x, v1, v2, v3] st h = rn 49 13 [.ref x, v1, v2, v3] (.ref x :: st) h := e_aload_n (show x_fe 49 12 = some (.aload_n 0, 1) by decide +kernel) rfl
theorem q49_13 (v0 v2 v3 : Value) (x : Nat) (st : List Value) (h : xH) : rn 49 13 [v0, .ref x, v2, v3] st h = rn 49 14 [v0, .ref x, v2, v3] (.ref x :: st) h := e_aload_n (show x_fe 49 13 = some (.aload_n 1, 1) by decide +kernel) rfl
theorem q49_13N (v0 v2 v3 : Value) (st : List Value) (h : xH) : rn 49 13 [v0, .null, v2, v3] st h = rn 49 14 [v0, .null, v2, v3] (.null :: st) h := e_aload_nN (show x_fe 49 13 = some (.aload_n 1, 1) by decide +kernel) rfl
theorem q49_14 (v0 v1 v2 : Value) (x : Int32) (st : List Value) (h : xH) : rn 49 14 [v0, v1, v2, .int x] st h = rn 49 15 [v0, v1, v2, .int x] (.int x :: st) h := e_iload_n (show x_fe 49 14 = some (.iload_n 3, 1) by decide +kernel) rfl
theorem q49_15 (L : List Value) (s0 : Value) (h : xH) (x0 : Int32) (b : Nat) (hK : isK (h.2 b) 6 = true) (hc : (cl 52 [.ref b, .int x0] h).isSome = true) : rn 49 15 L [.int x0, .ref b, s0] h = rn 49 18 L (rv (cl 52 [.ref b, .int x0] h) ++ [s0]) (rh (cl 52 [.ref b, .int x0] h)) := e_callV (n := 1) (show x_fe 49 15 = some (.invokevirtual 29, 3) by decide +kernel) (by decide +kernel) rfl rfl rfl ⟨by decide +kernel, by decide +kernel, Nat.le_of_ble_eq_true rfl, Nat.le_of_ble_eq_true rfl, by decide⟩ hK hc
theorem q49_18 (v0 v2 v3 : Value) (x : Nat) (st : List Value) (h : xH) : rn 49 18 [v0, .ref x, v2, v3] st h = rn 49 19 [v0, .ref x, v2, v3] (.ref x :: st) h := e_aload_n (show x_fe 49 18 = some (.aload_n 1, 1) by decide +kernel) rfl
theorem q49_18N (v0 v2 v3 : Value) (st : List Value) (h : xH) : rn 49 18 [v0, .null, v2, v3] st h = rn 49 19 [v0, .null, v2, v3] (.null :: st) h := e_aload_nN (show x_fe 49 18 = some (.aload_n 1, 1) by decide +kernel) rfl
theorem q49_19 (v0 v1 v2 : Value) (x : Int32) (st : List Value) (h : xH) : rn 49 19 [v0, v1, v2, .int x] st h = rn 49 20 [v0, v1, v2, .int x] (.int x :: st) h := e_iload_n (show x_fe 49 19 = some (.iload_n 3, 1) by decide +kernel) rfl
theorem q49_20 (L : List Value) (s0 s1 : Value) (h : xH) (x0 : Int32) (b : Nat) (hK : isK (h.2 b) 6 = true) (hc : (cl 53 [.ref b, .int x0] h).isSome = true) : rn 49 20 L [.int x0, .ref b, s0, s1] h = rn 49 23 L (rv (cl 53 [.ref b, .int x0] h) ++ [s0, s1]) (rh (cl 53 [.ref b, .int x0] h)) := e_callV (n := 1) (show x_fe 49 20 = some (.invokevirtual 33, 3) by decide +kernel) (by decide +kernel) rfl rfl rfl ⟨by decide +kernel, by decide +kernel, Nat.le_of_ble_eq_true rfl, Nat.le_of_ble_eq_true rfl, by decide⟩ hK hc
theorem q49_23 (L : List Value) (h : xH) (x0 : Int32) (x1 : Int32) (b : Nat) (hK : isK (h.2 b) 6 = true) (hc : (cl 50 [.ref b, .int x0, .int x1] h).isSome = true) : rn 49 23 L [.int x1, .int x0, .ref b] h = rn 49 26 L (rv (cl 50 [.ref b, .int x0, .int x1] h) ++ []) (rh (cl 50 [.ref b, .int x0, .int x1] h)) := e_callV (n := 2) (show x_fe 49 23 = some (.invokevirtual 36, 3) by decide +kernel) (by decide +kernel) rfl rfl rfl ⟨by decide +kernel, by decide +kernel, Nat.le_of_ble_eq_true rfl, Nat.le_of_ble_eq_true rfl, by decide⟩ hK hc
theorem q49_26 (v0 v1 : Value) (w : Int32) (x : Int32) (st : List Value) (h : xH) : rn 49 26 [v0, v1, .int w, .int x] st h = rn 49 29 [v0, v1, .int w, .int (x + 1)] st h := e_iinc (show x_fe 49 26 = some (.iinc 3 1, 3) by decide +kernel) (by decide) rfl (Nat.le_of_ble_eq_true rfl) rfl
theorem q49_29 (L st : List Value) (h : xH) : rn 49 29 L st h = rn 49 7 L st h := e_goto (show x_fe 49 29 = some (.goto (-22), 3) by decide +kernel) (by decide)
theorem q49_32 (L : List Value) (h : xH) : rn 49 32 L [] h = some (none, h) := e_ret (st := []) (show x_fe 49 32 = some (.return_, 1) by decide +kernel) (by decide +kernel)
theorem c50 (x0 : Nat) (x1 : Int32) (x2 : Int32) (h : xH) : cl 50 [.ref x0, .int x1, .int x2] h = rn 50 0 [.ref x0, .int x1, .int x2] [] h := rfl
theorem q50_0 (v1 v2 : Value) (x : Nat) (st : List Value) (h : xH) : rn 50 0 [.ref x, v1, v2] st h = rn 50 1 [.ref x, v1, v2] (.ref x :: st) h := e_aload_n (show x_fe 50 0 = some (.aload_n 0, 1) by decide +kernel) rfl
theorem q50_1 (L st : List Value) (h : xH) (a : Nat) (hF : isF (h.2 a) 6 3 = true) : rn 50 1 L (.ref a :: st) h = rn 50 4 L (fld (h.2 a) 3 :: st) h := e_get (show x_fe 50 1 = some (.getfield 21, 3) by decide +kernel) (by decide +kernel) hF
theorem q50_4 (L st : List Value) (h : xH) (x : Int32) : rn 50 4 L (.int x :: st) h = if x < 0 then rn 50 99 L st h else rn 50 7 L st h := e_if_lt (show x_fe 50 4 = some (.ifCond .lt 95, 3) by decide +kernel) (by decide)
theorem q50_7 (v1 v2 : Value) (x : Nat) (st : List Value) (h : xH) : rn 50 7 [.ref x, v1, v2] st h = rn 50 8 [.ref x, v1, v2] (.ref x :: st) h := e_aload_n (show x_fe 50 7 = some (.aload_n 0, 1) by decide +kernel) rfl
theorem q50_8 (L st : List Value) (h : xH) (a : Nat) (hF : isF (h.2 a) 6 3 = true) : rn 50 8 L (.ref a :: st) h = rn 50 11 L (fld (h.2 a) 3 :: st) h := e_get (show x_fe 50 8 = some (.getfield 21, 3) by decide +kernel) (by decide +kernel) hF
theorem q50_11 (v1 v2 : Value) (x : Nat) (st : List Value) (h : xH) : rn 50 11 [.ref x, v1, v2] st h = rn 50 12 [.ref x, v1, v2] (.ref x :: st) h := e_aload_n (show x_fe 50 11 = some (.aload_n 0, 1) by decide +kernel) rfl
theorem q50_12 (L st : List Value) (h : xH) (a : Nat) (hF : isF (h.2 a) 6 0 = true) : rn 50 12 L (.ref a :: st) h = rn 50 15 L (fld (h.2 a) 0 :: st) h := e_get (show x_fe 50 12 = some (.getfield 9, 3) by decide +kernel) (by decide +kernel) hF
theorem q50_15 (L st : List Value) (h : xH) (a : Nat) (hF : isA 50 (h.2 a) = true) : rn 50 15 L (.ref a :: st) h = rn 50 16 L (.int (Int32.ofNat (alen (h.2 a))) :: st) h := e_alen (show x_fe 50 15 = some (.arraylength, 1) by decide +kernel) hF
theorem q50_16 (L st : List Value) (h : xH) (x w : Int32) : rn 50 16 L (.int w :: .int x :: st) h = if x < w then rn 50 19 L st h else rn 50 99 L st h := e_icmp_ge (show x_fe 50 16 = some (.if_icmp .ge 83, 3) by decide +kernel) (by decide)
theorem q50_19 (v1 v2 : Value) (x : Nat) (st : List Value) (h : xH) : rn 50 19 [.ref x, v1, v2] st h = rn 50 20 [.ref x, v1, v2] (.ref x :: st) h := e_aload_n (show x_fe 50 19 = some (.aload_n 0, 1) by decide +kernel) rfl
theorem q50_20 (L st : List Value) (h : xH) (a : Nat) (hF : isF (h.2 a) 6 3 = true) : rn 50 20 L (.ref a :: st) h = rn 50 23 L (fld (h.2 a) 3 :: st) h := e_get (show x_fe 50 20 = some (.getfield 21, 3) by decide +kernel) (by decide +kernel) hF
theorem q50_23 (v1 v2 : Value) (x : Nat) (st : List Value) (h : xH) : rn 50 23 [.ref x, v1, v2] st h = rn 50 24 [.ref x, v1, v2] (.ref x :: st) h := e_aload_n (show x_fe 50 23 = some (.aload_n 0, 1) by decide +kernel) rfl
theorem q50_24 (L st : List Value) (h : xH) (a : Nat) (hF : isF (h.2 a) 6 1 = true) : rn 50 24 L (.ref a :: st) h = rn 50 27 L (fld (h.2 a) 1 :: st) h := e_get (show x_fe 50 24 = some (.getfield 15, 3) by decide +kernel) (by decide +kernel) hF
theorem q50_27 (L st : List Value) (h : xH) (a : Nat) (hF : isA 50 (h.2 a) = true) : rn 50 27 L (.ref a :: st) h = rn 50 28 L (.int (Int32.ofNat (alen (h.2 a))) :: st) h := e_alen (show x_fe 50 27 = some (.arraylength, 1) by decide +kernel) hF
theorem q50_28 (L st : List Value) (h : xH) (x w : Int32) : rn 50 28 L (.int w :: .int x :: st) h = if x < w then rn 50 31 L st h else rn 50 99 L st h := e_icmp_ge (show x_fe 50 28 = some (.if_icmp .ge 71, 3) by decide +kernel) (by decide)
theorem q50_31 (v1 v2 : Value) (x : Nat) (st : List Value) (h : xH) : rn 50 31 [.ref x, v1, v2] st h = rn 50 32 [.ref x, v1, v2] (.ref x :: st) h := e_aload_n (show x_fe 50 31 = some (.aload_n 0, 1) by decide +kernel) rfl
theorem q50_32 (L st : List Value) (h : xH) (a : Nat) (hF : isF (h.2 a) 6 3 = true) : rn 50 32 L (.ref a :: st) h = rn 50 35 L (fld (h.2 a) 3 :: st) h := e_get (show x_fe 50 32 = some (.getfield 21, 3) by decide +kernel) (by decide +kernel) hF
theorem q50_35 (L st : List Value) (h : xH) : rn 50 35 L st h = rn 50 36 L (.int 1 :: st) h := e_iconst (show x_fe 50 35 = some (.iconst 1, 1) by decide +kernel) (by decide)
theorem q50_36 (L st : List Value) (h : xH) (a b : Int32) : rn 50 36 L (.int b :: .int a :: st) h = rn 50 37 L (.int (a + b) :: st) h := e_iadd (show x_fe 50 36 = some (.iadd, 1) by decide +kernel)
theorem q50_37 (v1 v2 : Value) (x : Nat) (st : List Value) (h : xH) : rn 50 37 [.ref x, v1, v2] st h = rn 50 38 [.ref x, v1, v2] (.ref x :: st) h := e_aload_n (show x_fe 50 37 = some (.aload_n 0, 1) by decide +kernel) rfl
theorem q50_38 (L st : List Value) (h : xH) (a : Nat) (hF : isF (h.2 a) 6 2 = true) : rn 50 38 L (.ref a :: st) h = rn 50 41 L (fld (h.2 a) 2 :: st) h := e_get (show x_fe 50 38 = some (.getfield 18, 3) by decide +kernel) (by decide +kernel) hF
theorem q50_41 (L st : List Value) (h : xH) (a : Nat) (hF : isA 50 (h.2 a) = true) : rn 50 41 L (.ref a :: st) h = rn 50 42 L (.int (Int32.ofNat (alen (h.2 a))) :: st) h := e_alen (show x_fe 50 41 = some (.arraylength, 1) by decide +kernel) hF
theorem q50_42 (L st : List Value) (h : xH) (x w : Int32) : rn 50 42 L (.int w :: .int x :: st) h = if x < w then rn 50 45 L st h else rn 50 99 L st h := e_icmp_ge (show x_fe 50 42 = some (.if_icmp .ge 57, 3) by decide +kernel) (by decide)
theorem q50_45 (v1 v2 : Value) (x : Nat) (st : List Value) (h : xH) : rn 50 45 [.ref x, v1, v2] st h = rn 50 46 [.ref x, v1, v2] (.ref x :: st) h := e_aload_n (show x_fe 50 45 = some (.aload_n 0, 1) by decide +kernel) rfl
theorem q50_46 (L st : List Value) (h : xH) (a : Nat) (hF : isF (h.2 a) 6 0 = true) : rn 50 46 L (.ref a :: st) h = rn 50 49 L (fld (h.2 a) 0 :: st) h := e_get (show x_fe 50 46 = some (.getfield 9, 3) by decide +kernel) (by decide +kernel) hF
theorem q50_49 (v1 v2 : Value) (x : Nat) (st : List Value) (h : xH) : rn 50 49 [.ref x, v1, v2] st h = rn 50 50 [.ref x, v1, v2] (.ref x :: st) h := e_aload_n (show x_fe 50 49 = some (.aload_n 0, 1) by decide +kernel) rfl
theorem q50_50 (L st : List Value) (h : xH) (a : Nat) (hF : isF (h.2 a) 6 3 = true) : rn 50 50 L (.ref a :: st) h = rn 50 53 L (fld (h.2 a) 3 :: st) h := e_get (show x_fe 50 50 = some (.getfield 21, 3) by decide +kernel) (by decide +kernel) hF
theorem q50_53 (v0 v2 : Value) (x : Int32) (st : List Value) (h : xH) : rn 50 53 [v0, .int x, v2] st h = rn 50 54 [v0, .int x, v2] (.int x :: st) h := e_iload_n (show x_fe 50 53 = some (.iload_n 1, 1) by decide +kernel) rfl
theorem q50_54 (L st : List Value) (h : xH) (a : Nat) (i x : Int32) (hF : inW (h.2 a) i = true) : rn 50 54 L (.int x :: .int i :: .ref a :: st) h = rn 50 55 L st (h.1, mu h.2 a (aset (h.2 a) i x)) := e_iast (show x_fe 50 54 = some (.iastore, 1) by decide +kernel) hF
theorem q50_55 (v1 v2 : Value) (x : Nat) (st : List Value) (h : xH) : rn 50 55 [.ref x, v1, v2] st h = rn 50 56 [.ref x, v1, v2] (.ref x :: st) h := e_aload_n (show x_fe 50 55 = some (.aload_n 0, 1) by decide +kernel) rfl
theorem q50_56 (L st : List Value) (h : xH) (a : Nat) (hF : isF (h.2 a) 6 1 = true) : rn 50 56 L (.ref a :: st) h = rn 50 59 L (fld (h.2 a) 1 :: st) h := e_get (show x_fe 50 56 = some (.getfield 15, 3) by decide +kernel) (by decide +kernel) hF
theorem q50_59 (v1 v2 : Value) (x : Nat) (st : List Value) (h : xH) : rn 50 59 [.ref x, v1, v2] st h = rn 50 60 [.ref x, v1, v2] (.ref x :: st) h := e_aload_n (show x_fe 50 59 = some (.aload_n 0, 1) by decide +kernel) rfl
theorem q50_60 (L st : List Value) (h : xH) (a : Nat) (hF : isF (h.2 a) 6 3 = true) : rn 50 60 L (.ref a :: st) h = rn 50 63 L (fld (h.2 a) 3 :: st) h := e_get (show x_fe 50 60 = some (.getfield 21, 3) by decide +kernel) (by decide +kernel) hF
theorem q50_63 (v0 v1 : Value) (x : Int32) (st : List Value) (h : xH) : rn 50 63 [v0, v1, .int x] st h = rn 50 64 [v0, v1, .int x] (.int x :: st) h := e_iload_n (show x_fe 50 63 = some (.iload_n 2, 1) by decide +kernel) rfl
theorem q50_64 (L st : List Value) (h : xH) (a : Nat) (i x : Int32) (hF : inW (h.2 a) i = true) : rn 50 64 L (.int x :: .int i :: .ref a :: st) h = rn 50 65 L st (h.1, mu h.2 a (aset (h.2 a) i x)) := e_iast (show x_fe 50 64 = some (.iastore, 1) by decide +kernel) hF
theorem q50_65 (v1 v2 : Value) (x : Nat) (st : List Value) (h : xH) : rn 50 65 [.ref x, v1, v2] st h = rn 50 66 [.ref x, v1, v2] (.ref x :: st) h := e_aload_n (show x_fe 50 65 = some (.aload_n 0, 1) by decide +kernel) rfl
theorem q50_66 (L st : List Value) (h : xH) (a : Nat) (hF : isF (h.2 a) 6 2 = true) : rn 50 66 L (.ref a :: st) h = rn 50 69 L (fld (h.2 a) 2 :: st) h := e_get (show x_fe 50 66 = some (.getfield 18, 3) by decide +kernel) (by decide +kernel) hF
theorem q50_69 (v1 v2 : Value) (x : Nat) (st : List Value) (h : xH) : rn 50 69 [.ref x, v1, v2] st h = rn 50 70 [.ref x, v1, v2] (.ref x :: st) h := e_aload_n (show x_fe 50 69 = some (.aload_n 0, 1) by decide +kernel) rfl
theorem q50_70 (L st : List Value) (h : xH) (a : Nat) (hF : isF (h.2 a) 6 3 = true) : rn 50 70 L (.ref a :: st) h = rn 50 73 L (fld (h.2 a) 3 :: st) h := e_get (show x_fe 50 70 = some (.getfield 21, 3) by decide +kernel) (by decide +kernel) hF
theorem q50_73 (L st : List Value) (h : xH) : rn 50 73 L st h = rn 50 74 L (.int 1 :: st) h := e_iconst (show x_fe 50 73 = some (.iconst 1, 1) by decide +kernel) (by decide)
theorem q50_74 (L st : List Value) (h : xH) (a b : Int32) : rn 50 74 L (.int b :: .int a :: st) h = rn 50 75 L (.int (a + b) :: st) h := e_iadd (show x_fe 50 74 = some (.iadd, 1) by decide +kernel)
theorem q50_75 (v1 v2 : Value) (x : Nat) (st : List Value) (h : xH) : rn 50 75 [.ref x, v1, v2] st h = rn 50 76 [.ref x, v1, v2] (.ref x :: st) h := e_aload_n (show x_fe 50 75 = some (.aload_n 0, 1) by decide +kernel) rfl
theorem q50_76 (L st : List Value) (h : xH) (a : Nat) (hF : isF (h.2 a) 6 2 = true) : rn 50 76 L (.ref a :: st) h = rn 50 79 L (fld (h.2 a) 2 :: st) h := e_get (show x_fe 50 76 = some (.getfield 18, 3) by decide +kernel) (by decide +kernel) hF
theorem q50_79 (v1 v2 : Value) (x : Nat) (st : List Value) (h : xH) : rn 50 79 [.ref x, v1, v2] st h = rn 50 80 [.ref x, v1, v2] (.ref x :: st) h := e_aload_n (show x_fe 50 79 = some (.aload_n 0, 1) by decide +kernel) rfl
theorem q50_80 (L st : List Value) (h : xH) (a : Nat) (hF : isF (h.2 a) 6 3 = true) : rn 50 80 L (.ref a :: st) h = rn 50 83 L (fld (h.2 a) 3 :: st) h := e_get (show x_fe 50 80 = some (.getfield 21, 3) by decide +kernel) (by decide +kernel) hF
theorem q50_83 (L st : List Value) (h : xH) (a : Nat) (i : Int32) (hF : inA 50 (h.2 a) i = true) : rn 50 83 L (.int i :: .ref a :: st) h = rn 50 84 L (.int (aget (h.2 a) i) :: st) h := e_iald (show x_fe 50 83 = some (.iaload, 1) by decide +kernel) hF
theorem q50_84 (v0 v2 : Value) (x : Int32) (st : List Value) (h : xH) : rn 50 84 [v0, .int x, v2] st h = rn 50 85 [v0, .int x, v2] (.int x :: st) h := e_iload_n (show x_fe 50 84 = some (.iload_n 1, 1) by decide +kernel) rfl
theorem q50_85 (L st : List Value) (h : xH) (a b : Int32) : rn 50 85 L (.int b :: .int a :: st) h = rn 50 86 L (.int (a + b) :: st) h := e_iadd (show x_fe 50 85 = some (.iadd, 1) by decide +kernel)
theorem q50_86 (v0 v1 : Value) (x : Int32) (st : List Value) (h : xH) : rn 50 86 [v0, v1, .int x] st h = rn 50 87 [v0, v1, .int x] (.int x :: st) h := e_iload_n (show x_fe 50 86 = some (.iload_n 2, 1) by decide +kernel) rfl
theorem q50_87 (L st : List Value) (h : xH) (a b : Int32) : rn 50 87 L (.int b :: .int a :: st) h = rn 50 88 L (.int (a + b) :: st) h := e_iadd (show x_fe 50 87 = some (.iadd, 1) by decide +kernel)
theorem q50_88 (L st : List Value) (h : xH) (a : Nat) (i x : Int32) (hF : inW (h.2 a) i = true) : rn 50 88 L (.int x :: .int i :: .ref a :: st) h = rn 50 89 L st (h.1, mu h.2 a (aset (h.2 a) i x)) := e_iast (show x_fe 50 88 = some (.iastore, 1) by decide +kernel) hF
theorem q50_89 (v1 v2 : Value) (x : Nat) (st : List Value) (h : xH) : rn 50 89 [.ref x, v1, v2] st h = rn 50 90 [.ref x, v1, v2] (.ref x :: st) h := e_aload_n (show x_fe 50 89 = some (.aload_n 0, 1) by decide +kernel) rfl
theorem q50_90 (L st : List Value) (h : xH) (a : Nat) : rn 50 90 L (.ref a :: st) h = rn 50 91 L (.ref a :: .ref a :: st) h := e_dupA (show x_fe 50 90 = some (.dup, 1) by decide +kernel)
theorem q50_91 (L st : List Value) (h : xH) (a : Nat) (hF : isF (h.2 a) 6 3 = true) : rn 50 91 L (.ref a :: st) h = rn 50 94 L (fld (h.2 a) 3 :: st) h := e_get (show x_fe 50 91 = some (.getfield 21, 3) by decide +kernel) (by decide +kernel) hF
theorem q50_94 (L st : List Value) (h : xH) : rn 50 94 L st h = rn 50 95 L (.int 1 :: st) h := e_iconst (show x_fe 50 94 = some (.iconst 1, 1) by decide +kernel) (by decide)
theorem q50_95 (L st : List Value) (h : xH) (a b : Int32) : rn 50 95 L (.int b :: .int a :: st) h = rn 50 96 L (.int (a + b) :: st) h := e_iadd (show x_fe 50 95 = some (.iadd, 1) by decide +kernel)
theorem q50_96 (L st : List Value) (h : xH) (x : Int32) (a : Nat) (hF : isF (h.2 a) 6 3 = true) : rn 50 96 L (.int x :: .ref a :: st) h = rn 50 99 L st (h.1, mu h.2 a (fset (h.2 a) 3 (.int x))) := e_put (fin := false) (ci := 6) (k := 3) (show x_fe 50 96 = some (.putfield 21, 3) by decide +kernel) (by decide +kernel) (by decide +kernel) rfl hF
theorem q50_99 (L : List Value) (h : xH) : rn 50 99 L [] h = some (none, h) := e_ret (st := []) (show x_fe 50 99 = some (.return_, 1) by decide +kernel) (by decide +kernel)
theorem c51 (x0 : Nat) (x1 : Int32) (h : xH) : cl 51 [.ref x0, .int x1] h = rn 51 0 [.ref x0, .int x1] [] h := rfl
theorem q51_0 (v0 : Value) (x : Int32) (st : List Value) (h : xH) : rn 51 0 [v0, .int x] st h = rn 51 1 [v0, .int x] (.int x :: st) h := e_iload_n (show x_fe 51 0 = some (.iload_n 1, 1) by decide +kernel) rfl
theorem q51_1 (L st : List Value) (h : xH) (x : Int32) : rn 51 1 L (.int x :: st) h = if x < 0 then rn 51 16 L st h else rn 51 4 L st h := e_if_lt (show x_fe 51 1 = some (.ifCond .lt 15, 3) by decide +kernel) (by decide)
theorem q51_4 (v0 : Value) (x : Int32) (st : List Value) (h : xH) : rn 51 4 [v0, .int x] st h = rn 51 5 [v0, .int x] (.int x :: st) h := e_iload_n (show x_fe 51 4 = some (.iload_n 1, 1) by decide +kernel) rfl
theorem q51_5 (v1 : Value) (x : Nat) (st : List Value) (h : xH) : rn 51 5 [.ref x, v1] st h = rn 51 6 [.ref x, v1] (.ref x :: st) h := e_aload_n (show x_fe 51 5 = some (.aload_n 0, 1) by decide +kernel) rfl
theorem q51_6 (L st : List Value) (h : xH) (a : Nat) (hF : isF (h.2 a) 6 3 = true) : rn 51 6 L (.ref a :: st) h = rn 51 9 L (fld (h.2 a) 3 :: st) h := e_get (show x_fe 51 6 = some (.getfield 21, 3) by decide +kernel) (by decide +kernel) hF
theorem q51_9 (L st : List Value) (h : xH) (x w : Int32) : rn 51 9 L (.int w :: .int x :: st) h = if x < w then rn 51 12 L st h else rn 51 16 L st h := e_icmp_ge (show x_fe 51 9 = some (.if_icmp .ge 7, 3) by decide +kernel) (by decide)
theorem q51_12 (L st : List Value) (h : xH) : rn 51 12 L st h = rn 51 13 L (.int 1 :: st) h := e_iconst (show x_fe 51 12 = some (.iconst 1, 1) by decide +kernel) (by decide)
theorem q51_13 (L st : List Value) (h : xH) : rn 51 13 L st h = rn 51 17 L st h := e_goto (show x_fe 51 13 = some (.goto 4, 3) by decide +kernel) (by decide)
theorem q51_16 (L st : List Value) (h : xH) : rn 51 16 L st h = rn 51 17 L (.int 0 :: st) h := e_iconst (show x_fe 51 16 = some (.iconst 0, 1) by decide +kernel) (by decide)
theorem q51_17 (L : List Value) (h : xH) (x : Int32) (hx : (x == 0 || x == 1) = true) : rn 51 17 L [.int x] h = some (some (.int x), h) := e_iret (st := []) (ty := .boolean) (show x_fe 51 17 = some (.ireturn, 1) by decide +kernel) (by decide +kernel) hx
theorem c52 (x0 : Nat) (x1 : Int32) (h : xH) : cl 52 [.ref x0, .int x1] h = rn 52 0 [.ref x0, .int x1] [] h := rfl
theorem q52_0 (v1 : Value) (x : Nat) (st : List Value) (h : xH) : rn 52 0 [.ref x, v1] st h = rn 52 1 [.ref x, v1] (.ref x :: st) h := e_aload_n (show x_fe 52 0 = some (.aload_n 0, 1) by decide +kernel) rfl
theorem q52_1 (L st : List Value) (h : xH) (a : Nat) (hF : isF (h.2 a) 6 0 = true) : rn 52 1 L (.ref a :: st) h = rn 52 4 L (fld (h.2 a) 0 :: st) h := e_get (show x_fe 52 1 = some (.getfield 9, 3) by decide +kernel) (by decide +kernel) hF
theorem q52_4 (v0 : Value) (x : Int32) (st : List Value) (h : xH) : rn 52 4 [v0, .int x] st h = rn 52 5 [v0, .int x] (.int x :: st) h := e_iload_n (show x_fe 52 4 = some (.iload_n 1, 1) by decide +kernel) rfl
theorem q52_5 (L : List Value) (h : xH) (x0 : Nat) (x1 : Int32) (hc : (cl 86 [.ref x0, .int x1] h).isSome = true) : rn 52 5 L [.int x1, .ref x0] h = rn 52 8 L (rv (cl 86 [.ref x0, .int x1] h) ++ []) (rh (cl 86 [.ref x0, .int x1] h)) := e_callS (n := 2) (show x_fe 52 5 = some (.invokestatic 40, 3) by decide +kernel) (by decide +kernel) (by decide +kernel) rfl rfl rfl ⟨by decide +kernel, by decide +kernel, Nat.le_of_ble_eq_true rfl, Nat.le_of_ble_eq_true rfl, by decide⟩ hc
theorem q52_8 (L : List Value) (h : xH) (x : Int32) : rn 52 8 L [.int x] h = some (some (.int x), h) := e_iret (st := []) (ty := .int) (show x_fe 52 8 = some (.ireturn, 1) by decide +kernel) (by decide +kernel) rfl
theorem c53 (x0 : Nat) (x1 : Int32) (h : xH) : cl 53 [.ref x0, .int x1] h = rn 53 0 [.ref x0, .int x1] [] h := rfl
theorem q53_0 (v1 : Value) (x : Nat) (st : List Value) (h : xH) : rn 53 0 [.ref x, v1] st h = rn 53 1 [.ref x, v1] (.ref x :: st) h := e_aload_n (show x_fe 53 0 = some (.aload_n 0, 1) by decide +kernel) rfl
theorem q53_1 (L st : List Value) (h : xH) (a : Nat) (hF : isF (h.2 a) 6 1 = true) : rn 53 1 L (.ref a :: st) h = rn 53 4 L (fld (h.2 a) 1 :: st) h := e_get (show x_fe 53 1 = some (.getfield 15, 3) by decide +kernel) (by decide +kernel) hF
theorem q53_4 (v0 : Value) (x : Int32) (st : List Value) (h : xH) : rn 53 4 [v0, .int x] st h = rn 53 5 [v0, .int x] (.int x :: st) h := e_iload_n (show x_fe 53 4 = some (.iload_n 1, 1) by decide +kernel) rfl
theorem q53_5 (L : List Value) (h : xH) (x0 : Nat) (x1 : Int32) (hc : (cl 86 [.ref x0, .int x1] h).isSome = true) : rn 53 5 L [.int x1, .ref x0] h = rn 53 8 L (rv (cl 86 [.ref x0, .int x1] h) ++ []) (rh (cl 86 [.ref x0, .int x1] h)) := e_callS (n := 2) (show x_fe 53 5 = some (.invokestatic 40, 3) by decide +kernel) (by decide +kernel) (by decide +kernel) rfl rfl rfl ⟨by decide +kernel, by decide +kernel, Nat.le_of_ble_eq_true rfl, Nat.le_of_ble_eq_true rfl, by decide⟩ hc
theorem q53_8 (L : List Value) (h : xH) (x : Int32) : rn 53 8 L [.int x] h = some (some (.int x), h) := e_iret (st := []) (ty := .int) (show x_fe 53 8 = some (.ireturn, 1) by decide +kernel) (by decide +kernel) rfl
theorem c54 (x0 : Nat) (x1 : Int32) (h : xH) : cl 54 [.ref x0, .int x1] h = rn 54 0 [.ref x0, .int x1] [] h := rfl
theorem q54_0 (v1 : Value) (x : Nat) (st : List Value) (h : xH) : rn 54 0 [.ref x, v1] st h = rn 54 1 [.ref x, v1] (.ref x :: st) h := e_aload_n (show x_fe 54 0 = some (.aload_n 0, 1) by decide +kernel) rfl
theorem q54_1 (v0 : Value) (x : Int32) (st : List Value) (h : xH) : rn 54 1 [v0, .int x] st h = rn 54 2 [v0, .int x] (.int x :: st) h := e_iload_n (show x_fe 54 1 = some (.iload_n 1, 1) by decide +kernel) rfl
theorem q54_2 (L : List Value) (h : xH) (x0 : Int32) (b : Nat) (hK : isK (h.2 b) 6 = true) (hc : (cl 52 [.ref b, .int x0] h).isSome = true) : rn 54 2 L [.int x0, .ref b] h = rn 54 5 L (rv (cl 52 [.ref b, .int x0] h) ++ []) (rh (cl 52 [.ref b, .int x0] h)) := e_callV (n := 1) (show x_fe 54 2 = some (.invokevirtual 29, 3) by decide +kernel) (by decide +kernel) rfl rfl rfl ⟨by decide +kernel, by decide +kernel, Nat.le_of_ble_eq_true rfl, Nat.le_of_ble_eq_true rfl, by decide⟩ hK hc
theorem q54_5 (v1 : Value) (x : Nat) (st : List Value) (h : xH) : rn 54 5 [.ref x, v1] st h = rn 54 6 [.ref x, v1] (.ref x :: st) h := e_aload_n (show x_fe 54 5 = some (.aload_n 0, 1) by decide +kernel) rfl
theorem q54_6 (v0 : Value) (x : Int32) (st : List Value) (h : xH) : rn 54 6 [v0, .int x] st h = rn 54 7 [v0, .int x] (.int x :: st) h := e_iload_n (show x_fe 54 6 = some (.iload_n 1, 1) by decide +kernel) rfl
theorem q54_7 (L : List Value) (s0 : Value) (h : xH) (x0 : Int32) (b : Nat) (hK : isK (h.2 b) 6 = true) (hc : (cl 53 [.ref b, .int x0] h).isSome = true) : rn 54 7 L [.int x0, .ref b, s0] h = rn 54 10 L (rv (cl 53 [.ref b, .int x0] h) ++ [s0]) (rh (cl 53 [.ref b, .int x0] h)) := e_callV (n := 1) (show x_fe 54 7 = some (.invokevirtual 33, 3) by decide +kernel) (by decide +kernel) rfl rfl rfl ⟨by decide +kernel, by decide +kernel, Nat.le_of_ble_eq_true rfl, Nat.le_of_ble_eq_true rfl, by decide⟩ hK hc
theorem q54_10 (L st : List Value) (h : xH) (a b : Int32) : rn 54 10 L (.int b :: .int a :: st) h = rn 54 11 L (.int (a + b) :: st) h := e_iadd (show x_fe 54 10 = some (.iadd, 1) by decide +kernel)
theorem q54_11 (L : List Value) (h : xH) (x : Int32) : rn 54 11 L [.int x] h = some (some (.int x), h) := e_iret (st := []) (ty := .int) (show x_fe 54 11 = some (.ireturn, 1) by decide +kernel) (by decide +kernel) rfl
theorem c55 (x0 : Nat) (x1 : Int32) (h : xH) : cl 55 [.ref x0, .int x1] h = rn 55 0 [.ref x0, .int x1] [] h := rfl
theorem q55_0 (v1 : Value) (x : Nat) (st : List Value) (h : xH) : rn 55 0 [.ref x, v1] st h = rn 55 1 [.ref x, v1] (.ref x :: st) h := e_aload_n (show x_fe 55 0 = some (.aload_n 0, 1) by decide +kernel) rfl
theorem q55_1 (L st : List Value) (h : xH) (a : Nat) (hF : isF (h.2 a) 6 2 = true) : rn 55 1 L (.ref a :: st) h = rn 55 4 L (fld (h.2 a) 2 :: st) h := e_get (show x_fe 55 1 = some (.getfield 18, 3) by decide +kernel) (by decide +kernel) hF
theorem q55_4 (v0 : Value) (x : Int32) (st : List Value) (h : xH) : rn 55 4 [v0, .int x] st h = rn 55 5 [v0, .int x] (.int x :: st) h := e_iload_n (show x_fe 55 4 = some (.iload_n 1, 1) by decide +kernel) rfl
theorem q55_5 (L : List Value) (h : xH) (x0 : Nat) (x1 : Int32) (hc : (cl 86 [.ref x0, .int x1] h).isSome = true) : rn 55 5 L [.int x1, .ref x0] h = rn 55 8 L (rv (cl 86 [.ref x0, .int x1] h) ++ []) (rh (cl 86 [.ref x0, .int x1] h)) := e_callS (n := 2) (show x_fe 55 5 = some (.invokestatic 40, 3) by decide +kernel) (by decide +kernel) (by decide +kernel) rfl rfl rfl ⟨by decide +kernel, by decide +kernel, Nat.le_of_ble_eq_true rfl, Nat.le_of_ble_eq_true rfl, by decide⟩ hc
theorem q55_8 (L : List Value) (h : xH) (x : Int32) : rn 55 8 L [.int x] h = some (some (.int x), h) := e_iret (st := []) (ty := .int) (show x_fe 55 8 = some (.ireturn, 1) by decide +kernel) (by decide +kernel) rfl
theorem c56 (x0 : Nat) (h : xH) : cl 56 [.ref x0] h = rn 56 0 [.ref x0] [] h := rfl
theorem q56_0 (x : Nat) (st : List Value) (h : xH) : rn 56 0 [.ref x] st h = rn 56 1 [.ref x] (.ref x :: st) h := e_aload_n (show x_fe 56 0 = some (.aload_n 0, 1) by decide +kernel) rfl
theorem q56_1 (L st : List Value) (h : xH) (a : Nat) (hF : isF (h.2 a) 6 2 = true) : rn 56 1 L (.ref a :: st) h = rn 56 4 L (fld (h.2 a) 2 :: st) h := e_get (show x_fe 56 1 = some (.getfield 18, 3) by decide +kernel) (by decide +kernel) hF
theorem q56_4 (x : Nat) (st : List Value) (h : xH) : rn 56 4 [.ref x] st h = rn 56 5 [.ref x] (.ref x :: st) h := e_aload_n (show x_fe 56 4 = some (.aload_n 0, 1) by decide +kernel) rfl
theorem q56_5 (L st : List Value) (h : xH) (a : Nat) (hF : isF (h.2 a) 6 3 = true) : rn 56 5 L (.ref a :: st) h = rn 56 8 L (fld (h.2 a) 3 :: st) h := e_get (show x_fe 56 5 = some (.getfield 21, 3) by decide +kernel) (by decide +kernel) hF
theorem q56_8 (L : List Value) (h : xH) (x0 : Nat) (x1 : Int32) (hc : (cl 86 [.ref x0, .int x1] h).isSome = true) : rn 56 8 L [.int x1, .ref x0] h = rn 56 11 L (rv (cl 86 [.ref x0, .int x1] h) ++ []) (rh (cl 86 [.ref x0, .int x1] h)) := e_callS (n := 2) (show x_fe 56 8 = some (.invokestatic 40, 3) by decide +kernel) (by decide +kernel) (by decide +kernel) rfl rfl rfl ⟨by decide +kernel, by decide +kernel, Nat.le_of_ble_eq_true rfl, Nat.le_of_ble_eq_true rfl, by decide⟩ hc
theorem q56_11 (L : List Value) (h : xH) (x : Int32) : rn 56 11 L [.int x] h = some (some (.int x), h) := e_iret (st := []) (ty := .int) (show x_fe 56 11 = some (.ireturn, 1) by decide +kernel) (by decide +kernel) rfl
theorem c57 (x0 : Nat) (x1 : Int32) (h : xH) : cl 57 [.ref x0, .int x1] h = rn 57 0 [.ref x0, .int x1] [] h := rfl
theorem q57_0 (v1 : Value) (x : Nat) (st : List Value) (h : xH) : rn 57 0 [.ref x, v1] st h = rn 57 1 [.ref x, v1] (.ref x :: st) h := e_aload_n (show x_fe 57 0 = some (.aload_n 0, 1) by decide +kernel) rfl
theorem q57_1 (L st : List Value) (h : xH) (a : Nat) (hF : isF (h.2 a) 6 2 = true) : rn 57 1 L (.ref a :: st) h = rn 57 4 L (fld (h.2 a) 2 :: st) h := e_get (show x_fe 57 1 = some (.getfield 18, 3) by decide +kernel) (by decide +kernel) hF
theorem q57_4 (v1 : Value) (x : Nat) (st : List Value) (h : xH) : rn 57 4 [.ref x, v1] st h = rn 57 5 [.ref x, v1] (.ref x :: st) h := e_aload_n (show x_fe 57 4 = some (.aload_n 0, 1) by decide +kernel) rfl
theorem q57_5 (L st : List Value) (h : xH) (a : Nat) (hF : isF (h.2 a) 6 3 = true) : rn 57 5 L (.ref a :: st) h = rn 57 8 L (fld (h.2 a) 3 :: st) h := e_get (show x_fe 57 5 = some (.getfield 21, 3) by decide +kernel) (by decide +kernel) hF
theorem q57_8 (L : List Value) (h : xH) (x0 : Nat) (x1 : Int32) (hc : (cl 86 [.ref x0, .int x1] h).isSome = true) : rn 57 8 L [.int x1, .ref x0] h = rn 57 11 L (rv (cl 86 [.ref x0, .int x1] h) ++ []) (rh (cl 86 [.ref x0, .int x1] h)) := e_callS (n := 2) (show x_fe 57 8 = some (.invokestatic 40, 3) by decide +kernel) (by decide +kernel) (by decide +kernel) rfl rfl rfl ⟨by decide +kernel, by decide +kernel, Nat.le_of_ble_eq_true rfl, Nat.le_of_ble_eq_true rfl, by decide⟩ hc
theorem q57_11 (v1 : Value) (x : Nat) (st : List Value) (h : xH) : rn 57 11 [.ref x, v1] st h = rn 57 12 [.ref x, v1] (.ref x :: st) h := e_aload_n (show x_fe 57 11 = some (.aload_n 0, 1) by decide +kernel) rfl
theorem q57_12 (L st : List Value) (h : xH) (a : Nat) (hF : isF (h.2 a) 6 2 = true) : rn 57 12 L (.ref a :: st) h = rn 57 15 L (fld (h.2 a) 2 :: st) h := e_get (show x_fe 57 12 = some (.getfield 18, 3) by decide +kernel) (by decide +kernel) hF
theorem q57_15 (v0 : Value) (x : Int32) (st : List Value) (h : xH) : rn 57 15 [v0, .int x] st h = rn 57 16 [v0, .int x] (.int x :: st) h := e_iload_n (show x_fe 57 15 = some (.iload_n 1, 1) by decide +kernel) rfl
theorem q57_16 (L : List Value) (s0 : Value) (h : xH) (x0 : Nat) (x1 : Int32) (hc : (cl 86 [.ref x0, .int x1] h).isSome = true) : rn 57 16 L [.int x1, .ref x0, s0] h = rn 57 19 L (rv (cl 86 [.ref x0, .int x1] h) ++ [s0]) (rh (cl 86 [.ref x0, .int x1] h)) := e_callS (n := 2) (show x_fe 57 16 = some (.invokestatic 40, 3) by decide +kernel) (by decide +kernel) (by decide +kernel) rfl rfl rfl ⟨by decide +kernel, by decide +kernel, Nat.le_of_ble_eq_true rfl, Nat.le_of_ble_eq_true rfl, by decide⟩ hc
theorem q57_19 (L st : List Value) (h : xH) (a b : Int32) : rn 57 19 L (.int b :: .int a :: st) h = rn 57 20 L (.int (a - b) :: st) h := e_isub (show x_fe 57 19 = some (.isub, 1) by decide +kernel)
theorem q57_20 (L : List Value) (h : xH) (x : Int32) : rn 57 20 L [.int x] h = some (some (.int x), h) := e_iret (st := []) (ty := .int) (show x_fe 57 20 = some (.ireturn, 1) by decide +kernel) (by decide +kernel) rfl
end
