-- ===== PART A: goes FIRST, ahead of the names: the tables' words, and 'selects' of the private methods out of them =====
/-- a private method of a class that the tables say can be made, by its rows of tables_1 -/
def lw_okq (q : MethodName × Nat) : Prop := (q.1.cls ≠ "java/lang/invoke/MethodHandle" ∧ q.1.cls ≠ "java/lang/invoke/VarHandle") ∧ Cond.instantiable q.1.cls q.2 ∈ tables_1 ∧ Cond.privateMethod q.1 ∈ tables_1 ∧ Cond.instanceMethod q.1 ∈ tables_1
theorem lw_p0 : lw_okq (⟨"MeetingCarpets", "trimsIfLaid", "(I)I"⟩, 7) := ⟨⟨by decide +kernel, by decide +kernel⟩, List.mem_of_getElem? (i := 11) (by decide +kernel), List.mem_of_getElem? (i := 205) (by decide +kernel), List.mem_of_getElem? (i := 206) (by decide +kernel)⟩
theorem lw_p1 : lw_okq (⟨"MeetingCarpets$House", "becomeHouse", "(LMeetingCarpets$House;)V"⟩, 6) := ⟨⟨by decide +kernel, by decide +kernel⟩, List.mem_of_getElem? (i := 19) (by decide +kernel), List.mem_of_getElem? (i := 212) (by decide +kernel), List.mem_of_getElem? (i := 213) (by decide +kernel)⟩
theorem lw_p2 : lw_okq (⟨"MeetingCarpets$Stairs", "becomeStairs", "(LMeetingCarpets$Stairs;)V"⟩, 4) := ⟨⟨by decide +kernel, by decide +kernel⟩, List.mem_of_getElem? (i := 25) (by decide +kernel), List.mem_of_getElem? (i := 216) (by decide +kernel), List.mem_of_getElem? (i := 217) (by decide +kernel)⟩
theorem lw_p3 : lw_okq (⟨"MeetingCarpets$Crew", "becomeCrew", "(LMeetingCarpets$Crew;)V"⟩, 6) := ⟨⟨by decide +kernel, by decide +kernel⟩, List.mem_of_getElem? (i := 47) (by decide +kernel), List.mem_of_getElem? (i := 223) (by decide +kernel), List.mem_of_getElem? (i := 224) (by decide +kernel)⟩
theorem lw_p4 : lw_okq (⟨"MeetingCarpets$House", "takeAllUp", "()V"⟩, 6) := ⟨⟨by decide +kernel, by decide +kernel⟩, List.mem_of_getElem? (i := 19) (by decide +kernel), List.mem_of_getElem? (i := 227) (by decide +kernel), List.mem_of_getElem? (i := 228) (by decide +kernel)⟩
theorem lw_p5 : lw_okq (⟨"MeetingCarpets$Crew", "beginAnew", "()V"⟩, 6) := ⟨⟨by decide +kernel, by decide +kernel⟩, List.mem_of_getElem? (i := 47) (by decide +kernel), List.mem_of_getElem? (i := 231) (by decide +kernel), List.mem_of_getElem? (i := 232) (by decide +kernel)⟩
theorem lw_p6 : lw_okq (⟨"MeetingCarpets$House", "canLayNext", "(LMeetingCarpets$Crew;)Z"⟩, 6) := ⟨⟨by decide +kernel, by decide +kernel⟩, List.mem_of_getElem? (i := 19) (by decide +kernel), List.mem_of_getElem? (i := 235) (by decide +kernel), List.mem_of_getElem? (i := 236) (by decide +kernel)⟩
theorem lw_p7 : lw_okq (⟨"MeetingCarpets$House", "nextStepOf", "(LMeetingCarpets$Crew;)I"⟩, 6) := ⟨⟨by decide +kernel, by decide +kernel⟩, List.mem_of_getElem? (i := 19) (by decide +kernel), List.mem_of_getElem? (i := 239) (by decide +kernel), List.mem_of_getElem? (i := 240) (by decide +kernel)⟩
theorem lw_p8 : lw_okq (⟨"MeetingCarpets$House", "stepsLaid", "()I"⟩, 6) := ⟨⟨by decide +kernel, by decide +kernel⟩, List.mem_of_getElem? (i := 19) (by decide +kernel), List.mem_of_getElem? (i := 243) (by decide +kernel), List.mem_of_getElem? (i := 244) (by decide +kernel)⟩
theorem lw_p9 : lw_okq (⟨"MeetingCarpets$House", "lowestOfUpper", "()I"⟩, 6) := ⟨⟨by decide +kernel, by decide +kernel⟩, List.mem_of_getElem? (i := 19) (by decide +kernel), List.mem_of_getElem? (i := 247) (by decide +kernel), List.mem_of_getElem? (i := 248) (by decide +kernel)⟩
theorem lw_p10 : lw_okq (⟨"MeetingCarpets$Stairs", "lengthOf", "(I)I"⟩, 4) := ⟨⟨by decide +kernel, by decide +kernel⟩, List.mem_of_getElem? (i := 25) (by decide +kernel), List.mem_of_getElem? (i := 251) (by decide +kernel), List.mem_of_getElem? (i := 252) (by decide +kernel)⟩
theorem lw_p11 : lw_okq (⟨"MeetingCarpets$Stairs", "riserOf", "(I)I"⟩, 4) := ⟨⟨by decide +kernel, by decide +kernel⟩, List.mem_of_getElem? (i := 25) (by decide +kernel), List.mem_of_getElem? (i := 255) (by decide +kernel), List.mem_of_getElem? (i := 256) (by decide +kernel)⟩
theorem lw_p12 : lw_okq (⟨"MeetingCarpets$Stairs", "treadOf", "(I)I"⟩, 4) := ⟨⟨by decide +kernel, by decide +kernel⟩, List.mem_of_getElem? (i := 25) (by decide +kernel), List.mem_of_getElem? (i := 262) (by decide +kernel), List.mem_of_getElem? (i := 263) (by decide +kernel)⟩
theorem lw_p13 : lw_okq (⟨"MeetingCarpets$House", "placeToBegin", "(LMeetingCarpets$Crew;)I"⟩, 6) := ⟨⟨by decide +kernel, by decide +kernel⟩, List.mem_of_getElem? (i := 19) (by decide +kernel), List.mem_of_getElem? (i := 266) (by decide +kernel), List.mem_of_getElem? (i := 267) (by decide +kernel)⟩
theorem lw_p14 : lw_okq (⟨"MeetingCarpets$House", "placeFromBelow", "(I)I"⟩, 6) := ⟨⟨by decide +kernel, by decide +kernel⟩, List.mem_of_getElem? (i := 19) (by decide +kernel), List.mem_of_getElem? (i := 270) (by decide +kernel), List.mem_of_getElem? (i := 271) (by decide +kernel)⟩
theorem lw_p15 : lw_okq (⟨"MeetingCarpets$Stairs", "lengthBelow", "(I)I"⟩, 4) := ⟨⟨by decide +kernel, by decide +kernel⟩, List.mem_of_getElem? (i := 25) (by decide +kernel), List.mem_of_getElem? (i := 274) (by decide +kernel), List.mem_of_getElem? (i := 275) (by decide +kernel)⟩
def lw_privs_1 : List (MethodName × Nat) := [(⟨"MeetingCarpets", "trimsIfLaid", "(I)I"⟩, 7), (⟨"MeetingCarpets$House", "becomeHouse", "(LMeetingCarpets$House;)V"⟩, 6), (⟨"MeetingCarpets$Stairs", "becomeStairs", "(LMeetingCarpets$Stairs;)V"⟩, 4), (⟨"MeetingCarpets$Crew", "becomeCrew", "(LMeetingCarpets$Crew;)V"⟩, 6), (⟨"MeetingCarpets$House", "takeAllUp", "()V"⟩, 6), (⟨"MeetingCarpets$Crew", "beginAnew", "()V"⟩, 6), (⟨"MeetingCarpets$House", "canLayNext", "(LMeetingCarpets$Crew;)Z"⟩, 6), (⟨"MeetingCarpets$House", "nextStepOf", "(LMeetingCarpets$Crew;)I"⟩, 6), (⟨"MeetingCarpets$House", "stepsLaid", "()I"⟩, 6), (⟨"MeetingCarpets$House", "lowestOfUpper", "()I"⟩, 6), (⟨"MeetingCarpets$Stairs", "lengthOf", "(I)I"⟩, 4), (⟨"MeetingCarpets$Stairs", "riserOf", "(I)I"⟩, 4), (⟨"MeetingCarpets$Stairs", "treadOf", "(I)I"⟩, 4), (⟨"MeetingCarpets$House", "placeToBegin", "(LMeetingCarpets$Crew;)I"⟩, 6), (⟨"MeetingCarpets$House", "placeFromBelow", "(I)I"⟩, 6), (⟨"MeetingCarpets$Stairs", "lengthBelow", "(I)I"⟩, 4)]
theorem lw_r1 : ∀ q ∈ lw_privs_1, lw_okq q := List.forall_mem_cons.mpr ⟨lw_p0, List.forall_mem_cons.mpr ⟨lw_p1, List.forall_mem_cons.mpr ⟨lw_p2, List.forall_mem_cons.mpr ⟨lw_p3, List.forall_mem_cons.mpr ⟨lw_p4, List.forall_mem_cons.mpr ⟨lw_p5, List.forall_mem_cons.mpr ⟨lw_p6, List.forall_mem_cons.mpr ⟨lw_p7, List.forall_mem_cons.mpr ⟨lw_p8, List.forall_mem_cons.mpr ⟨lw_p9, List.forall_mem_cons.mpr ⟨lw_p10, List.forall_mem_cons.mpr ⟨lw_p11, List.forall_mem_cons.mpr ⟨lw_p12, List.forall_mem_cons.mpr ⟨lw_p13, List.forall_mem_cons.mpr ⟨lw_p14, List.forall_mem_cons.mpr ⟨lw_p15, fun _ h => absurd h List.not_mem_nil⟩⟩⟩⟩⟩⟩⟩⟩⟩⟩⟩⟩⟩⟩⟩⟩
theorem lw_p16 : lw_okq (⟨"MeetingCarpets$House", "placeFromAbove", "(I)I"⟩, 6) := ⟨⟨by decide +kernel, by decide +kernel⟩, List.mem_of_getElem? (i := 19) (by decide +kernel), List.mem_of_getElem? (i := 281) (by decide +kernel), List.mem_of_getElem? (i := 282) (by decide +kernel)⟩
theorem lw_p17 : lw_okq (⟨"MeetingCarpets$Stairs", "lengthFrom", "(I)I"⟩, 4) := ⟨⟨by decide +kernel, by decide +kernel⟩, List.mem_of_getElem? (i := 25) (by decide +kernel), List.mem_of_getElem? (i := 285) (by decide +kernel), List.mem_of_getElem? (i := 286) (by decide +kernel)⟩
theorem lw_p18 : lw_okq (⟨"MeetingCarpets$House", "cutOff", "(LMeetingCarpets$Crew;II)I"⟩, 6) := ⟨⟨by decide +kernel, by decide +kernel⟩, List.mem_of_getElem? (i := 19) (by decide +kernel), List.mem_of_getElem? (i := 289) (by decide +kernel), List.mem_of_getElem? (i := 290) (by decide +kernel)⟩
theorem lw_p19 : lw_okq (⟨"MeetingCarpets$House", "layNext", "(LMeetingCarpets$Crew;)V"⟩, 6) := ⟨⟨by decide +kernel, by decide +kernel⟩, List.mem_of_getElem? (i := 19) (by decide +kernel), List.mem_of_getElem? (i := 293) (by decide +kernel), List.mem_of_getElem? (i := 294) (by decide +kernel)⟩
theorem lw_p20 : lw_okq (⟨"MeetingCarpets$House", "allTrims", "()I"⟩, 6) := ⟨⟨by decide +kernel, by decide +kernel⟩, List.mem_of_getElem? (i := 19) (by decide +kernel), List.mem_of_getElem? (i := 297) (by decide +kernel), List.mem_of_getElem? (i := 298) (by decide +kernel)⟩
theorem lw_p21 : lw_okq (⟨"MeetingCarpets$Stairs", "has", "(I)Z"⟩, 4) := ⟨⟨by decide +kernel, by decide +kernel⟩, List.mem_of_getElem? (i := 25) (by decide +kernel), List.mem_of_getElem? (i := 320) (by decide +kernel), List.mem_of_getElem? (i := 321) (by decide +kernel)⟩
theorem lw_p22 : lw_okq (⟨"MeetingCarpets$House", "layerOf", "(I)I"⟩, 6) := ⟨⟨by decide +kernel, by decide +kernel⟩, List.mem_of_getElem? (i := 19) (by decide +kernel), List.mem_of_getElem? (i := 328) (by decide +kernel), List.mem_of_getElem? (i := 329) (by decide +kernel)⟩
theorem lw_p23 : lw_okq (⟨"MeetingCarpets$House", "isLaid", "(I)Z"⟩, 6) := ⟨⟨by decide +kernel, by decide +kernel⟩, List.mem_of_getElem? (i := 19) (by decide +kernel), List.mem_of_getElem? (i := 332) (by decide +kernel), List.mem_of_getElem? (i := 333) (by decide +kernel)⟩
theorem lw_p24 : lw_okq (⟨"MeetingCarpets$House", "phaseOf", "(I)I"⟩, 6) := ⟨⟨by decide +kernel, by decide +kernel⟩, List.mem_of_getElem? (i := 19) (by decide +kernel), List.mem_of_getElem? (i := 337) (by decide +kernel), List.mem_of_getElem? (i := 338) (by decide +kernel)⟩
theorem lw_p25 : lw_okq (⟨"MeetingCarpets$House", "endOf", "(I)I"⟩, 6) := ⟨⟨by decide +kernel, by decide +kernel⟩, List.mem_of_getElem? (i := 19) (by decide +kernel), List.mem_of_getElem? (i := 341) (by decide +kernel), List.mem_of_getElem? (i := 342) (by decide +kernel)⟩
theorem lw_p26 : lw_okq (⟨"MeetingCarpets$House", "patternStartsOn", "(I)I"⟩, 6) := ⟨⟨by decide +kernel, by decide +kernel⟩, List.mem_of_getElem? (i := 19) (by decide +kernel), List.mem_of_getElem? (i := 346) (by decide +kernel), List.mem_of_getElem? (i := 347) (by decide +kernel)⟩
theorem lw_p27 : lw_okq (⟨"MeetingCarpets$Stairs", "wholeLength", "()I"⟩, 4) := ⟨⟨by decide +kernel, by decide +kernel⟩, List.mem_of_getElem? (i := 25) (by decide +kernel), List.mem_of_getElem? (i := 355) (by decide +kernel), List.mem_of_getElem? (i := 356) (by decide +kernel)⟩
theorem lw_p28 : lw_okq (⟨"MeetingCarpets$House", "lengthLaid", "()I"⟩, 6) := ⟨⟨by decide +kernel, by decide +kernel⟩, List.mem_of_getElem? (i := 19) (by decide +kernel), List.mem_of_getElem? (i := 359) (by decide +kernel), List.mem_of_getElem? (i := 360) (by decide +kernel)⟩
theorem lw_p29 : lw_okq (⟨"MeetingCarpets$House", "carpetTaken", "()I"⟩, 6) := ⟨⟨by decide +kernel, by decide +kernel⟩, List.mem_of_getElem? (i := 19) (by decide +kernel), List.mem_of_getElem? (i := 363) (by decide +kernel), List.mem_of_getElem? (i := 364) (by decide +kernel)⟩
theorem lw_p30 : lw_okq (⟨"MeetingCarpets$Crew", "seams", "()I"⟩, 6) := ⟨⟨by decide +kernel, by decide +kernel⟩, List.mem_of_getElem? (i := 47) (by decide +kernel), List.mem_of_getElem? (i := 367) (by decide +kernel), List.mem_of_getElem? (i := 368) (by decide +kernel)⟩
theorem lw_p31 : lw_okq (⟨"MeetingCarpets$House", "doCrewsMeet", "()Z"⟩, 6) := ⟨⟨by decide +kernel, by decide +kernel⟩, List.mem_of_getElem? (i := 19) (by decide +kernel), List.mem_of_getElem? (i := 374) (by decide +kernel), List.mem_of_getElem? (i := 375) (by decide +kernel)⟩
def lw_privs_2 : List (MethodName × Nat) := [(⟨"MeetingCarpets$House", "placeFromAbove", "(I)I"⟩, 6), (⟨"MeetingCarpets$Stairs", "lengthFrom", "(I)I"⟩, 4), (⟨"MeetingCarpets$House", "cutOff", "(LMeetingCarpets$Crew;II)I"⟩, 6), (⟨"MeetingCarpets$House", "layNext", "(LMeetingCarpets$Crew;)V"⟩, 6), (⟨"MeetingCarpets$House", "allTrims", "()I"⟩, 6), (⟨"MeetingCarpets$Stairs", "has", "(I)Z"⟩, 4), (⟨"MeetingCarpets$House", "layerOf", "(I)I"⟩, 6), (⟨"MeetingCarpets$House", "isLaid", "(I)Z"⟩, 6), (⟨"MeetingCarpets$House", "phaseOf", "(I)I"⟩, 6), (⟨"MeetingCarpets$House", "endOf", "(I)I"⟩, 6), (⟨"MeetingCarpets$House", "patternStartsOn", "(I)I"⟩, 6), (⟨"MeetingCarpets$Stairs", "wholeLength", "()I"⟩, 4), (⟨"MeetingCarpets$House", "lengthLaid", "()I"⟩, 6), (⟨"MeetingCarpets$House", "carpetTaken", "()I"⟩, 6), (⟨"MeetingCarpets$Crew", "seams", "()I"⟩, 6), (⟨"MeetingCarpets$House", "doCrewsMeet", "()Z"⟩, 6)]
theorem lw_r2 : ∀ q ∈ lw_privs_2, lw_okq q := List.forall_mem_cons.mpr ⟨lw_p16, List.forall_mem_cons.mpr ⟨lw_p17, List.forall_mem_cons.mpr ⟨lw_p18, List.forall_mem_cons.mpr ⟨lw_p19, List.forall_mem_cons.mpr ⟨lw_p20, List.forall_mem_cons.mpr ⟨lw_p21, List.forall_mem_cons.mpr ⟨lw_p22, List.forall_mem_cons.mpr ⟨lw_p23, List.forall_mem_cons.mpr ⟨lw_p24, List.forall_mem_cons.mpr ⟨lw_p25, List.forall_mem_cons.mpr ⟨lw_p26, List.forall_mem_cons.mpr ⟨lw_p27, List.forall_mem_cons.mpr ⟨lw_p28, List.forall_mem_cons.mpr ⟨lw_p29, List.forall_mem_cons.mpr ⟨lw_p30, List.forall_mem_cons.mpr ⟨lw_p31, fun _ h => absurd h List.not_mem_nil⟩⟩⟩⟩⟩⟩⟩⟩⟩⟩⟩⟩⟩⟩⟩⟩
theorem lw_p32 : lw_okq (⟨"MeetingCarpets$House", "differenceBelow", "(I)I"⟩, 6) := ⟨⟨by decide +kernel, by decide +kernel⟩, List.mem_of_getElem? (i := 19) (by decide +kernel), List.mem_of_getElem? (i := 379) (by decide +kernel), List.mem_of_getElem? (i := 380) (by decide +kernel)⟩
theorem lw_p33 : lw_okq (⟨"MeetingCarpets$House", "differenceOf", "(II)I"⟩, 6) := ⟨⟨by decide +kernel, by decide +kernel⟩, List.mem_of_getElem? (i := 19) (by decide +kernel), List.mem_of_getElem? (i := 383) (by decide +kernel), List.mem_of_getElem? (i := 384) (by decide +kernel)⟩
theorem lw_p34 : lw_okq (⟨"MeetingCarpets$House", "inPhaseBelow", "(I)I"⟩, 6) := ⟨⟨by decide +kernel, by decide +kernel⟩, List.mem_of_getElem? (i := 19) (by decide +kernel), List.mem_of_getElem? (i := 390) (by decide +kernel), List.mem_of_getElem? (i := 391) (by decide +kernel)⟩
theorem lw_p35 : lw_okq (⟨"MeetingCarpets$House", "crewOf", "(I)LMeetingCarpets$Crew;"⟩, 6) := ⟨⟨by decide +kernel, by decide +kernel⟩, List.mem_of_getElem? (i := 19) (by decide +kernel), List.mem_of_getElem? (i := 402) (by decide +kernel), List.mem_of_getElem? (i := 403) (by decide +kernel)⟩
theorem lw_p36 : lw_okq (⟨"MeetingCarpets$House", "differenceStepByStep", "(I)I"⟩, 6) := ⟨⟨by decide +kernel, by decide +kernel⟩, List.mem_of_getElem? (i := 19) (by decide +kernel), List.mem_of_getElem? (i := 420) (by decide +kernel), List.mem_of_getElem? (i := 421) (by decide +kernel)⟩
theorem lw_p37 : lw_okq (⟨"MeetingCarpets$House", "differenceAtOnce", "()I"⟩, 6) := ⟨⟨by decide +kernel, by decide +kernel⟩, List.mem_of_getElem? (i := 19) (by decide +kernel), List.mem_of_getElem? (i := 424) (by decide +kernel), List.mem_of_getElem? (i := 425) (by decide +kernel)⟩
theorem lw_p38 : lw_okq (⟨"MeetingCarpets$History", "keep", "(LMeetingCarpets$House;)V"⟩, 3) := ⟨⟨by decide +kernel, by decide +kernel⟩, List.mem_of_getElem? (i := 109) (by decide +kernel), List.mem_of_getElem? (i := 457) (by decide +kernel), List.mem_of_getElem? (i := 458) (by decide +kernel)⟩
theorem lw_p39 : lw_okq (⟨"MeetingCarpets$Stairs", "addStep", "(II)V"⟩, 4) := ⟨⟨by decide +kernel, by decide +kernel⟩, List.mem_of_getElem? (i := 25) (by decide +kernel), List.mem_of_getElem? (i := 466) (by decide +kernel), List.mem_of_getElem? (i := 467) (by decide +kernel)⟩
theorem lw_p40 : lw_okq (⟨"MeetingCarpets", "setRepeat", "(I)I"⟩, 7) := ⟨⟨by decide +kernel, by decide +kernel⟩, List.mem_of_getElem? (i := 11) (by decide +kernel), List.mem_of_getElem? (i := 477) (by decide +kernel), List.mem_of_getElem? (i := 478) (by decide +kernel)⟩
theorem lw_p41 : lw_okq (⟨"MeetingCarpets$House", "hasTakenPiece", "()Z"⟩, 6) := ⟨⟨by decide +kernel, by decide +kernel⟩, List.mem_of_getElem? (i := 19) (by decide +kernel), List.mem_of_getElem? (i := 481) (by decide +kernel), List.mem_of_getElem? (i := 482) (by decide +kernel)⟩
theorem lw_p42 : lw_okq (⟨"MeetingCarpets", "setRoll", "(I)I"⟩, 7) := ⟨⟨by decide +kernel, by decide +kernel⟩, List.mem_of_getElem? (i := 11) (by decide +kernel), List.mem_of_getElem? (i := 485) (by decide +kernel), List.mem_of_getElem? (i := 486) (by decide +kernel)⟩
theorem lw_p43 : lw_okq (⟨"MeetingCarpets", "setSlack", "(I)I"⟩, 7) := ⟨⟨by decide +kernel, by decide +kernel⟩, List.mem_of_getElem? (i := 11) (by decide +kernel), List.mem_of_getElem? (i := 489) (by decide +kernel), List.mem_of_getElem? (i := 490) (by decide +kernel)⟩
theorem lw_p44 : lw_okq (⟨"MeetingCarpets$House", "takeUpLatest", "(LMeetingCarpets$Crew;)I"⟩, 6) := ⟨⟨by decide +kernel, by decide +kernel⟩, List.mem_of_getElem? (i := 19) (by decide +kernel), List.mem_of_getElem? (i := 501) (by decide +kernel), List.mem_of_getElem? (i := 502) (by decide +kernel)⟩
def lw_privs_3 : List (MethodName × Nat) := [(⟨"MeetingCarpets$House", "differenceBelow", "(I)I"⟩, 6), (⟨"MeetingCarpets$House", "differenceOf", "(II)I"⟩, 6), (⟨"MeetingCarpets$House", "inPhaseBelow", "(I)I"⟩, 6), (⟨"MeetingCarpets$House", "crewOf", "(I)LMeetingCarpets$Crew;"⟩, 6), (⟨"MeetingCarpets$House", "differenceStepByStep", "(I)I"⟩, 6), (⟨"MeetingCarpets$House", "differenceAtOnce", "()I"⟩, 6), (⟨"MeetingCarpets$History", "keep", "(LMeetingCarpets$House;)V"⟩, 3), (⟨"MeetingCarpets$Stairs", "addStep", "(II)V"⟩, 4), (⟨"MeetingCarpets", "setRepeat", "(I)I"⟩, 7), (⟨"MeetingCarpets$House", "hasTakenPiece", "()Z"⟩, 6), (⟨"MeetingCarpets", "setRoll", "(I)I"⟩, 7), (⟨"MeetingCarpets", "setSlack", "(I)I"⟩, 7), (⟨"MeetingCarpets$House", "takeUpLatest", "(LMeetingCarpets$Crew;)I"⟩, 6)]
theorem lw_r3 : ∀ q ∈ lw_privs_3, lw_okq q := List.forall_mem_cons.mpr ⟨lw_p32, List.forall_mem_cons.mpr ⟨lw_p33, List.forall_mem_cons.mpr ⟨lw_p34, List.forall_mem_cons.mpr ⟨lw_p35, List.forall_mem_cons.mpr ⟨lw_p36, List.forall_mem_cons.mpr ⟨lw_p37, List.forall_mem_cons.mpr ⟨lw_p38, List.forall_mem_cons.mpr ⟨lw_p39, List.forall_mem_cons.mpr ⟨lw_p40, List.forall_mem_cons.mpr ⟨lw_p41, List.forall_mem_cons.mpr ⟨lw_p42, List.forall_mem_cons.mpr ⟨lw_p43, List.forall_mem_cons.mpr ⟨lw_p44, fun _ h => absurd h List.not_mem_nil⟩⟩⟩⟩⟩⟩⟩⟩⟩⟩⟩⟩⟩
def lw_privs : List (MethodName × Nat) := lw_privs_1 ++ (lw_privs_2 ++ (lw_privs_3))
def lw_tbl : List Cond := k2_sels lw_privs ++ tables_1
theorem lw_privs_ok : ∀ q ∈ lw_privs, lw_okq q := by
  show ∀ q ∈ lw_privs_1 ++ (lw_privs_2 ++ (lw_privs_3)), lw_okq q
  exact List.forall_mem_append.mpr ⟨lw_r1, List.forall_mem_append.mpr ⟨lw_r2, lw_r3⟩⟩
def RX0 : String := "MeetingCarpets$Crew"
def TX0 : u_T := fun k => match k with
  | 0 => ("MeetingCarpets$Crew", "fromBelow", "Z", true)
  | 1 => ("MeetingCarpets$Crew", "beginning", "I", false)
  | 2 => ("MeetingCarpets$Crew", "laid", "I", false)
  | 3 => ("MeetingCarpets$Crew", "left", "I", false)
  | 4 => ("MeetingCarpets$Crew", "pieces", "I", false)
  | _ => ("MeetingCarpets$Crew", "trims", "I", false)
def tyX0 : Nat → FieldType := fun k => match k with
  | 0 => .boolean
  | 1 => .int
  | 2 => .int
  | 3 => .int
  | 4 => .int
  | _ => .int
theorem nmX0 : ∀ a, a < 6 → ∀ b, b < 6 → a ≠ b → (TX0 a).2.1 ≠ (TX0 b).2.1 := by decide +kernel
theorem tyX0_ok : ∀ k, k < 6 → parseFieldDescriptor (TX0 k).2.2.1 = some (tyX0 k) := by decide +kernel
def RX1 : String := "MeetingCarpets$History"
def TX1 : u_T := fun k => match k with
  | 0 => ("MeetingCarpets$History", "states", "[LMeetingCarpets$House;", true)
  | 1 => ("MeetingCarpets$History", "next", "I", false)
  | _ => ("MeetingCarpets$History", "kept", "I", false)
def tyX1 : Nat → FieldType := fun k => match k with
  | 0 => .array (.object "MeetingCarpets$House")
  | 1 => .int
  | _ => .int
theorem nmX1 : ∀ a, a < 3 → ∀ b, b < 3 → a ≠ b → (TX1 a).2.1 ≠ (TX1 b).2.1 := by decide +kernel
theorem tyX1_ok : ∀ k, k < 3 → parseFieldDescriptor (TX1 k).2.2.1 = some (tyX1 k) := by decide +kernel
def RX2 : String := "MeetingCarpets$House"
def TX2 : u_T := fun k => match k with
  | 0 => ("MeetingCarpets$House", "repeat", "I", false)
  | 1 => ("MeetingCarpets$House", "roll", "I", false)
  | 2 => ("MeetingCarpets$House", "slack", "I", false)
  | 3 => ("MeetingCarpets$House", "stairs", "LMeetingCarpets$Stairs;", true)
  | 4 => ("MeetingCarpets$House", "lower", "LMeetingCarpets$Crew;", true)
  | _ => ("MeetingCarpets$House", "upper", "LMeetingCarpets$Crew;", true)
def tyX2 : Nat → FieldType := fun k => match k with
  | 0 => .int
  | 1 => .int
  | 2 => .int
  | 3 => .object "MeetingCarpets$Stairs"
  | 4 => .object "MeetingCarpets$Crew"
  | _ => .object "MeetingCarpets$Crew"
theorem nmX2 : ∀ a, a < 6 → ∀ b, b < 6 → a ≠ b → (TX2 a).2.1 ≠ (TX2 b).2.1 := by decide +kernel
theorem tyX2_ok : ∀ k, k < 6 → parseFieldDescriptor (TX2 k).2.2.1 = some (tyX2 k) := by decide +kernel
def RX3 : String := "MeetingCarpets$Pad"
def TX3 : u_T := fun k => match k with
  | 0 => ("MeetingCarpets$Pad", "codes", "[I", true)
  | _ => ("MeetingCarpets$Pad", "length", "I", false)
def tyX3 : Nat → FieldType := fun k => match k with
  | 0 => .array .int
  | _ => .int
theorem nmX3 : ∀ a, a < 2 → ∀ b, b < 2 → a ≠ b → (TX3 a).2.1 ≠ (TX3 b).2.1 := by decide +kernel
theorem tyX3_ok : ∀ k, k < 2 → parseFieldDescriptor (TX3 k).2.2.1 = some (tyX3 k) := by decide +kernel
def RX4 : String := "MeetingCarpets$Plan"
def TX4 : u_T := fun k => match k with
  | 0 => ("MeetingCarpets$Plan", "stairs", "LMeetingCarpets$Stairs;", true)
  | 1 => ("MeetingCarpets$Plan", "stepsWanted", "I", false)
  | _ => ("MeetingCarpets$Plan", "place", "I", false)
def tyX4 : Nat → FieldType := fun k => match k with
  | 0 => .object "MeetingCarpets$Stairs"
  | 1 => .int
  | _ => .int
theorem nmX4 : ∀ a, a < 3 → ∀ b, b < 3 → a ≠ b → (TX4 a).2.1 ≠ (TX4 b).2.1 := by decide +kernel
theorem tyX4_ok : ∀ k, k < 3 → parseFieldDescriptor (TX4 k).2.2.1 = some (tyX4 k) := by decide +kernel
def RX5 : String := "MeetingCarpets$Slot"
def TX5 : u_T := fun k => match k with
  | 0 => ("MeetingCarpets$Slot", "house", "LMeetingCarpets$House;", true)
  | _ => ("MeetingCarpets$Slot", "isFilled", "Z", false)
def tyX5 : Nat → FieldType := fun k => match k with
  | 0 => .object "MeetingCarpets$House"
  | _ => .boolean
theorem nmX5 : ∀ a, a < 2 → ∀ b, b < 2 → a ≠ b → (TX5 a).2.1 ≠ (TX5 b).2.1 := by decide +kernel
theorem tyX5_ok : ∀ k, k < 2 → parseFieldDescriptor (TX5 k).2.2.1 = some (tyX5 k) := by decide +kernel
def RX6 : String := "MeetingCarpets$Stairs"
def TX6 : u_T := fun k => match k with
  | 0 => ("MeetingCarpets$Stairs", "risers", "[I", true)
  | 1 => ("MeetingCarpets$Stairs", "treads", "[I", true)
  | 2 => ("MeetingCarpets$Stairs", "feet", "[I", true)
  | _ => ("MeetingCarpets$Stairs", "steps", "I", false)
def tyX6 : Nat → FieldType := fun k => match k with
  | 0 => .array .int
  | 1 => .array .int
  | 2 => .array .int
  | _ => .int
theorem nmX6 : ∀ a, a < 4 → ∀ b, b < 4 → a ≠ b → (TX6 a).2.1 ≠ (TX6 b).2.1 := by decide +kernel
theorem tyX6_ok : ∀ k, k < 4 → parseFieldDescriptor (TX6 k).2.2.1 = some (tyX6 k) := by decide +kernel
def RX7 : String := "MeetingCarpets"
def TX7 : u_T := fun k => match k with
  | 0 => ("MeetingCarpets", "now", "LMeetingCarpets$House;", true)
  | 1 => ("MeetingCarpets", "trial", "LMeetingCarpets$House;", true)
  | 2 => ("MeetingCarpets", "history", "LMeetingCarpets$History;", true)
  | 3 => ("MeetingCarpets", "firstSlot", "LMeetingCarpets$Slot;", true)
  | 4 => ("MeetingCarpets", "secondSlot", "LMeetingCarpets$Slot;", true)
  | 5 => ("MeetingCarpets", "pad", "LMeetingCarpets$Pad;", true)
  | _ => ("MeetingCarpets", "plan", "LMeetingCarpets$Plan;", true)
def tyX7 : Nat → FieldType := fun k => match k with
  | 0 => .object "MeetingCarpets$House"
  | 1 => .object "MeetingCarpets$House"
  | 2 => .object "MeetingCarpets$History"
  | 3 => .object "MeetingCarpets$Slot"
  | 4 => .object "MeetingCarpets$Slot"
  | 5 => .object "MeetingCarpets$Pad"
  | _ => .object "MeetingCarpets$Plan"
theorem nmX7 : ∀ a, a < 7 → ∀ b, b < 7 → a ≠ b → (TX7 a).2.1 ≠ (TX7 b).2.1 := by decide +kernel
theorem tyX7_ok : ∀ k, k < 7 → parseFieldDescriptor (TX7 k).2.2.1 = some (tyX7 k) := by decide +kernel
abbrev x_CLS : List vw_C := [(RX0, TX0, 6), (RX1, TX1, 3), (RX2, TX2, 6), (RX3, TX3, 2), (RX4, TX4, 3), (RX5, TX5, 2), (RX6, TX6, 4), (RX7, TX7, 7)]
def x_TY (ci : Nat) : Nat → FieldType := ([tyX0, tyX1, tyX2, tyX3, tyX4, tyX5, tyX6, tyX7] : List (Nat → FieldType)).getD ci (fun _ => .int)
def x_RCS : List String := ["MeetingCarpets$Crew", "MeetingCarpets$History", "MeetingCarpets$House", "MeetingCarpets$Pad", "MeetingCarpets$Plan", "MeetingCarpets$Slot", "MeetingCarpets$Stairs", "MeetingCarpets", "java/lang/Math", "MeetingCarpetsLaw"]
def x_RC (c : Nat) : String := x_RCS.getD c ""
def x_dfl (ci : Nat) : List Value := ([[.int 0, .int 0, .int 0, .int 0, .int 0, .int 0], [.null, .int 0, .int 0], [.int 0, .int 0, .int 0, .null, .null, .null], [.null, .int 0], [.null, .int 0, .int 0], [.null, .int 0], [.null, .null, .null, .int 0], [.null, .null, .null, .null, .null, .null, .null]] : List (List Value)).getD ci []
def x_CDS : List ByteArray := [prog_2_method_1_code, prog_2_method_2_code, prog_2_method_3_code, prog_2_method_4_code, prog_3_method_1_code, prog_3_method_2_code, prog_4_method_1_code, prog_4_method_2_code, prog_4_method_3_code, prog_4_method_4_code, prog_4_method_5_code, prog_4_method_6_code, prog_4_method_7_code, prog_4_method_8_code, prog_4_method_9_code, prog_4_method_10_code, prog_4_method_11_code, prog_4_method_12_code, prog_4_method_13_code, prog_4_method_14_code, prog_4_method_15_code, prog_4_method_16_code, prog_4_method_17_code, prog_4_method_18_code, prog_4_method_19_code, prog_4_method_20_code, prog_4_method_21_code, prog_4_method_22_code, prog_4_method_23_code, prog_4_method_24_code, prog_4_method_25_code, prog_4_method_26_code, prog_4_method_27_code, prog_4_method_28_code, prog_4_method_29_code, prog_5_method_1_code, prog_6_method_1_code, prog_7_method_1_code, prog_8_method_1_code, prog_8_method_2_code, prog_8_method_4_code, prog_8_method_5_code, prog_8_method_6_code, prog_8_method_7_code, prog_8_method_8_code, prog_8_method_9_code, prog_8_method_10_code, prog_8_method_11_code, prog_1_method_1_code, prog_1_method_2_code, prog_1_method_3_code, prog_1_method_4_code, prog_1_method_5_code, prog_1_method_6_code, prog_1_method_8_code, prog_1_method_9_code, prog_1_method_10_code, prog_1_method_11_code, prog_1_method_12_code, prog_1_method_13_code, prog_1_method_14_code, prog_1_method_15_code, prog_1_method_16_code, prog_1_method_17_code, prog_1_method_18_code, prog_1_method_19_code, prog_1_method_27_code, prog_1_method_28_code, prog_1_method_29_code, prog_1_method_30_code, prog_1_method_31_code, prog_1_method_32_code, prog_11_method_65_code, prog_11_method_69_code, method_2_code, method_3_code, method_4_code, method_5_code, method_6_code, method_7_code, method_8_code, method_9_code, method_10_code, method_11_code, method_12_code, method_13_code, method_14_code, method_15_code, code]
def x_cd (y : Nat) : ByteArray := x_CDS.getD y ByteArray.empty
def x_NMS : List MethodName := [⟨"MeetingCarpets$Crew", "<init>", "(Z)V"⟩, ⟨"MeetingCarpets$Crew", "becomeCrew", "(LMeetingCarpets$Crew;)V"⟩, ⟨"MeetingCarpets$Crew", "beginAnew", "()V"⟩, ⟨"MeetingCarpets$Crew", "seams", "()I"⟩, ⟨"MeetingCarpets$History", "<init>", "()V"⟩, ⟨"MeetingCarpets$History", "keep", "(LMeetingCarpets$House;)V"⟩, ⟨"MeetingCarpets$House", "<init>", "()V"⟩, ⟨"MeetingCarpets$House", "becomeHouse", "(LMeetingCarpets$House;)V"⟩, ⟨"MeetingCarpets$House", "takeAllUp", "()V"⟩, ⟨"MeetingCarpets$House", "crewOf", "(I)LMeetingCarpets$Crew;"⟩, ⟨"MeetingCarpets$House", "hasTakenPiece", "()Z"⟩, ⟨"MeetingCarpets$House", "stepsLaid", "()I"⟩, ⟨"MeetingCarpets$House", "lengthLaid", "()I"⟩, ⟨"MeetingCarpets$House", "carpetTaken", "()I"⟩, ⟨"MeetingCarpets$House", "allTrims", "()I"⟩, ⟨"MeetingCarpets$House", "lowestOfUpper", "()I"⟩, ⟨"MeetingCarpets$House", "isLaid", "(I)Z"⟩, ⟨"MeetingCarpets$House", "layerOf", "(I)I"⟩, ⟨"MeetingCarpets$House", "nextStepOf", "(LMeetingCarpets$Crew;)I"⟩, ⟨"MeetingCarpets$House", "placeFromBelow", "(I)I"⟩, ⟨"MeetingCarpets$House", "placeFromAbove", "(I)I"⟩, ⟨"MeetingCarpets$House", "phaseOf", "(I)I"⟩, ⟨"MeetingCarpets$House", "endOf", "(I)I"⟩, ⟨"MeetingCarpets$House", "patternStartsOn", "(I)I"⟩, ⟨"MeetingCarpets$House", "placeToBegin", "(LMeetingCarpets$Crew;)I"⟩, ⟨"MeetingCarpets$House", "cutOff", "(LMeetingCarpets$Crew;II)I"⟩, ⟨"MeetingCarpets$House", "canLayNext", "(LMeetingCarpets$Crew;)Z"⟩, ⟨"MeetingCarpets$House", "layNext", "(LMeetingCarpets$Crew;)V"⟩, ⟨"MeetingCarpets$House", "takeUpLatest", "(LMeetingCarpets$Crew;)I"⟩, ⟨"MeetingCarpets$House", "doCrewsMeet", "()Z"⟩, ⟨"MeetingCarpets$House", "differenceOf", "(II)I"⟩, ⟨"MeetingCarpets$House", "differenceBelow", "(I)I"⟩, ⟨"MeetingCarpets$House", "inPhaseBelow", "(I)I"⟩, ⟨"MeetingCarpets$House", "differenceStepByStep", "(I)I"⟩, ⟨"MeetingCarpets$House", "differenceAtOnce", "()I"⟩, ⟨"MeetingCarpets$Pad", "<init>", "()V"⟩, ⟨"MeetingCarpets$Plan", "<init>", "()V"⟩, ⟨"MeetingCarpets$Slot", "<init>", "()V"⟩, ⟨"MeetingCarpets$Stairs", "<init>", "()V"⟩, ⟨"MeetingCarpets$Stairs", "becomeStairs", "(LMeetingCarpets$Stairs;)V"⟩, ⟨"MeetingCarpets$Stairs", "addStep", "(II)V"⟩, ⟨"MeetingCarpets$Stairs", "has", "(I)Z"⟩, ⟨"MeetingCarpets$Stairs", "riserOf", "(I)I"⟩, ⟨"MeetingCarpets$Stairs", "treadOf", "(I)I"⟩, ⟨"MeetingCarpets$Stairs", "lengthOf", "(I)I"⟩, ⟨"MeetingCarpets$Stairs", "lengthBelow", "(I)I"⟩, ⟨"MeetingCarpets$Stairs", "wholeLength", "()I"⟩, ⟨"MeetingCarpets$Stairs", "lengthFrom", "(I)I"⟩, ⟨"MeetingCarpets", "<init>", "()V"⟩, ⟨"MeetingCarpets", "set", "(II)I"⟩, ⟨"MeetingCarpets", "setRepeat", "(I)I"⟩, ⟨"MeetingCarpets", "setRoll", "(I)I"⟩, ⟨"MeetingCarpets", "setSlack", "(I)I"⟩, ⟨"MeetingCarpets", "build", "(II)I"⟩, ⟨"MeetingCarpets", "begin", "(II)I"⟩, ⟨"MeetingCarpets", "lay", "(I)I"⟩, ⟨"MeetingCarpets", "takeUp", "(I)I"⟩, ⟨"MeetingCarpets", "clear", "()I"⟩, ⟨"MeetingCarpets", "step", "(II)I"⟩, ⟨"MeetingCarpets", "crew", "(II)I"⟩, ⟨"MeetingCarpets", "count", "(I)I"⟩, ⟨"MeetingCarpets", "ifMet", "(II)I"⟩, ⟨"MeetingCarpets", "bestBeginning", "(I)I"⟩, ⟨"MeetingCarpets", "ifLaid", "(I)I"⟩, ⟨"MeetingCarpets", "trimsIfLaid", "(I)I"⟩, ⟨"MeetingCarpets", "leastTrim", "()I"⟩, ⟨"MeetingCarpets", "isWithin", "(III)Z"⟩, ⟨"MeetingCarpets", "leftOver", "(II)I"⟩, ⟨"MeetingCarpets", "numberAt", "([II)I"⟩, ⟨"MeetingCarpets", "copyNumbers", "([I[I)V"⟩, ⟨"MeetingCarpets", "houseAt", "([LMeetingCarpets$House;I)LMeetingCarpets$House;"⟩, ⟨"MeetingCarpets", "copyHouse", "(LMeetingCarpets$House;LMeetingCarpets$House;)V"⟩, ⟨"java/lang/Math", "max", "(II)I"⟩, ⟨"java/lang/Math", "min", "(II)I"⟩, ⟨"MeetingCarpetsLaw", "cell", "([II)I"⟩, ⟨"MeetingCarpetsLaw", "low", "(II)I"⟩, ⟨"MeetingCarpetsLaw", "sum", "([I[II)I"⟩, ⟨"MeetingCarpetsLaw", "needs", "([I[I[I[I[III)I"⟩, ⟨"MeetingCarpetsLaw", "cuts", "([IIII)I"⟩, ⟨"MeetingCarpetsLaw", "lays", "([I[I[I[I[I[III)Z"⟩, ⟨"MeetingCarpetsLaw", "next", "([I[II)I"⟩, ⟨"MeetingCarpetsLaw", "areSteps", "(LMeetingCarpets;[I[I[I[I[I)Z"⟩, ⟨"MeetingCarpetsLaw", "around", "([III)I"⟩, ⟨"MeetingCarpetsLaw", "areCrews", "(LMeetingCarpets;[I[I[I[I[I[I)Z"⟩, ⟨"MeetingCarpetsLaw", "would", "(LMeetingCarpets;[I[I[I[I)Z"⟩, ⟨"MeetingCarpetsLaw", "builds", "(LMeetingCarpets;[I[I[I[I[I[II)Z"⟩, ⟨"MeetingCarpetsLaw", "sets", "(LMeetingCarpets;[I[II)Z"⟩, ⟨"MeetingCarpetsLaw", "acts", "(LMeetingCarpets;[I[I[I[I[I[III)Z"⟩, ⟨"MeetingCarpetsLaw", "law", "([I)Z"⟩]
def x_nm (y : Nat) : MethodName := x_NMS.getD y ⟨"", "", ""⟩
def x_MLS : List Nat := [2, 2, 1, 1, 2, 2, 1, 2, 1, 2, 1, 1, 1, 1, 1, 1, 2, 2, 2, 2, 2, 2, 2, 6, 2, 4, 5, 5, 3, 1, 4, 2, 2, 5, 1, 1, 1, 1, 1, 2, 3, 2, 2, 2, 2, 2, 1, 2, 1, 3, 3, 3, 3, 3, 5, 4, 3, 2, 3, 4, 2, 3, 3, 2, 4, 5, 3, 3, 2, 3, 2, 2, 2, 2, 2, 2, 5, 7, 6, 15, 3, 13, 4, 14, 15, 10, 8, 17, 11]
def x_ml (y : Nat) : Nat := x_MLS.getD y 0
def x_RTS : List (Option FieldType) := [none, none, none, some .int, none, none, none, none, none, some (.object "MeetingCarpets$Crew"), some .boolean, some .int, some .int, some .int, some .int, some .int, some .boolean, some .int, some .int, some .int, some .int, some .int, some .int, some .int, some .int, some .int, some .boolean, none, some .int, some .boolean, some .int, some .int, some .int, some .int, some .int, none, none, none, none, none, none, some .boolean, some .int, some .int, some .int, some .int, some .int, some .int, none, some .int, some .int, some .int, some .int, some .int, some .int, some .int, some .int, some .int, some .int, some .int, some .int, some .int, some .int, some .int, some .int, some .int, some .boolean, some .int, some .int, none, some (.object "MeetingCarpets$House"), none, some .int, some .int, some .int, some .int, some .int, some .int, some .int, some .boolean, some .int, some .boolean, some .int, some .boolean, some .boolean, some .boolean, some .boolean, some .boolean, some .boolean]
def x_rt (y : Nat) : Option FieldType := x_RTS.getD y none
def x_KLS : List Nat := [0, 0, 0, 0, 1, 1, 2, 2, 2, 2, 2, 2, 2, 2, 2, 2, 2, 2, 2, 2, 2, 2, 2, 2, 2, 2, 2, 2, 2, 2, 2, 2, 2, 2, 2, 3, 4, 5, 6, 6, 6, 6, 6, 6, 6, 6, 6, 6, 7, 7, 7, 7, 7, 7, 7, 7, 7, 7, 7, 7, 7, 7, 7, 7, 7, 7, 7, 7, 7, 7, 7, 7, 8, 8, 9, 9, 9, 9, 9, 9, 9, 9, 9, 9, 9, 9, 9, 9, 9]
def x_kl (y : Nat) : Nat := x_KLS.getD y 99
def x_INS : List Bool := [true, false, false, false, true, false, true, false, false, false, false, false, false, false, false, false, false, false, false, false, false, false, false, false, false, false, false, false, false, false, false, false, false, false, false, true, true, true, true, false, false, false, false, false, false, false, false, false, true, false, false, false, false, false, false, false, false, false, false, false, false, false, false, false, false, false, false, false, false, false, false, false, false, false, false, false, false, false, false, false, false, false, false, false, false, false, false, false, false]
def x_in (y : Nat) : Bool := x_INS.getD y false
def x_FRS : List Nat := [1, 0, 0, 1, 3, 4, 2, 2, 1, 0, 0, 0, 2, 0, 0, 0, 1, 2, 1, 2, 2, 3, 4, 4, 3, 1, 4, 4, 3, 1, 1, 3, 4, 3, 2, 1, 2, 3, 1, 1, 0, 0, 1, 1, 2, 1, 1, 1, 4, 6, 5, 5, 5, 5, 5, 5, 5, 5, 5, 2, 5, 4, 3, 6, 5, 6, 0, 0, 0, 0, 0, 3, 0, 0, 0, 0, 0, 0, 0, 1, 0, 6, 0, 6, 7, 6, 7, 8, 9]
def x_fr (y : Nat) : Nat := x_FRS.getD y 0
def x_LOS : List Nat := [20, 0, 0, 21, 61, 85, 41, 43, 20, 0, 0, 0, 42, 0, 0, 0, 20, 41, 20, 42, 42, 63, 84, 84, 63, 22, 84, 84, 63, 20, 22, 63, 84, 63, 45, 20, 40, 61, 20, 22, 0, 0, 21, 21, 42, 21, 21, 21, 82, 128, 106, 106, 106, 106, 106, 108, 106, 106, 109, 41, 105, 87, 63, 131, 108, 131, 0, 0, 0, 0, 0, 64, 0, 0, 0, 0, 0, 0, 0, 26, 0, 131, 0, 126, 155, 128, 150, 177, 213]
def x_lo (y : Nat) : Nat := x_LOS.getD y 0
def x_find {α : Type} : List ((Nat × Nat) × α) → Nat → Nat → Option α
  | [], _, _ => none
  | q :: t, c, i => if q.1.1 = c ∧ q.1.2 = i then some q.2 else x_find t c i
def x_GFL : List ((Nat × Nat) × (Nat × Nat)) := [((0, 7), (0, 1)), ((0, 13), (0, 2)), ((0, 16), (0, 3)), ((0, 19), (0, 4)), ((0, 22), (0, 5)), ((0, 25), (0, 0)), ((1, 11), (1, 0)), ((1, 17), (1, 1)), ((1, 21), (1, 2)), ((2, 9), (2, 0)), ((2, 15), (2, 1)), ((2, 18), (2, 2)), ((2, 24), (2, 3)), ((2, 33), (2, 4)), ((2, 37), (2, 5)), ((2, 51), (0, 4)), ((2, 54), (0, 2)), ((2, 68), (0, 5)), ((2, 71), (6, 3)), ((2, 81), (0, 0)), ((2, 85), (0, 1)), ((2, 111), (0, 3)), ((3, 9), (3, 0)), ((3, 15), (3, 1)), ((4, 12), (4, 0)), ((4, 18), (4, 1)), ((4, 22), (4, 2)), ((5, 10), (5, 0)), ((5, 16), (5, 1)), ((6, 9), (6, 0)), ((6, 15), (6, 1)), ((6, 18), (6, 2)), ((6, 21), (6, 3)), ((7, 10), (7, 0)), ((7, 16), (7, 1)), ((7, 22), (7, 2)), ((7, 29), (7, 3)), ((7, 33), (7, 4)), ((7, 39), (7, 5)), ((7, 46), (7, 6)), ((7, 68), (2, 4)), ((7, 72), (0, 1)), ((7, 78), (2, 5)), ((7, 85), (2, 0)), ((7, 88), (2, 1)), ((7, 91), (2, 2)), ((7, 98), (2, 3)), ((7, 102), (6, 3)), ((7, 123), (3, 1)), ((7, 130), (0, 2)), ((7, 182), (0, 3)), ((7, 185), (0, 4)), ((7, 191), (0, 5)), ((7, 218), (1, 2)), ((7, 227), (0, 0))]
def x_gf (c i : Nat) : Option (Nat × Nat) := x_find x_GFL c i
def x_PFL : List ((Nat × Nat) × (Nat × Nat × Bool)) := [((0, 7), (0, 1, false)), ((0, 13), (0, 2, false)), ((0, 16), (0, 3, false)), ((0, 19), (0, 4, false)), ((0, 22), (0, 5, false)), ((0, 25), (0, 0, true)), ((1, 11), (1, 0, true)), ((1, 17), (1, 1, false)), ((1, 21), (1, 2, false)), ((2, 9), (2, 0, false)), ((2, 15), (2, 1, false)), ((2, 18), (2, 2, false)), ((2, 24), (2, 3, true)), ((2, 33), (2, 4, true)), ((2, 37), (2, 5, true)), ((2, 51), (0, 4, false)), ((2, 54), (0, 2, false)), ((2, 68), (0, 5, false)), ((2, 71), (6, 3, false)), ((2, 85), (0, 1, false)), ((2, 111), (0, 3, false)), ((3, 9), (3, 0, true)), ((3, 15), (3, 1, false)), ((4, 12), (4, 0, true)), ((4, 18), (4, 1, false)), ((4, 22), (4, 2, false)), ((5, 10), (5, 0, true)), ((5, 16), (5, 1, false)), ((6, 9), (6, 0, true)), ((6, 15), (6, 1, true)), ((6, 18), (6, 2, true)), ((6, 21), (6, 3, false)), ((7, 10), (7, 0, true)), ((7, 16), (7, 1, true)), ((7, 22), (7, 2, true)), ((7, 29), (7, 3, true)), ((7, 33), (7, 4, true)), ((7, 39), (7, 5, true)), ((7, 46), (7, 6, true)), ((7, 72), (0, 1, false)), ((7, 85), (2, 0, false)), ((7, 88), (2, 1, false)), ((7, 91), (2, 2, false)), ((7, 102), (6, 3, false)), ((7, 123), (3, 1, false)), ((7, 130), (0, 2, false)), ((7, 182), (0, 3, false)), ((7, 185), (0, 4, false)), ((7, 191), (0, 5, false)), ((7, 218), (1, 2, false))]
def x_pf (c i : Nat) : Option (Nat × Nat × Bool) := x_find x_PFL c i
def x_IVL : List ((Nat × Nat) × (Nat × Nat × Nat)) := [((1, 24), (2, 6, 0)), ((1, 25), (1, 70, 2)), ((1, 29), (1, 71, 2)), ((2, 23), (2, 38, 0)), ((2, 30), (2, 0, 1)), ((2, 40), (0, 39, 1)), ((2, 44), (0, 1, 1)), ((2, 48), (0, 2, 0)), ((2, 57), (0, 45, 1)), ((2, 61), (0, 15, 0)), ((2, 65), (0, 47, 1)), ((2, 74), (0, 16, 1)), ((2, 78), (0, 11, 0)), ((2, 88), (1, 67, 2)), ((2, 92), (0, 19, 1)), ((2, 95), (0, 20, 1)), ((2, 98), (0, 21, 1)), ((2, 101), (0, 44, 1)), ((2, 104), (0, 18, 1)), ((2, 108), (0, 24, 1)), ((2, 114), (0, 25, 3)), ((2, 123), (0, 30, 2)), ((2, 126), (0, 31, 1)), ((2, 129), (0, 46, 0)), ((4, 11), (2, 38, 0)), ((5, 9), (2, 6, 0)), ((6, 25), (1, 69, 2)), ((6, 29), (0, 42, 1)), ((6, 33), (0, 43, 1)), ((6, 40), (1, 68, 2)), ((7, 9), (2, 6, 0)), ((7, 21), (2, 4, 0)), ((7, 28), (2, 37, 0)), ((7, 38), (2, 35, 0)), ((7, 45), (2, 36, 0)), ((7, 50), (0, 50, 1)), ((7, 54), (0, 51, 1)), ((7, 57), (0, 52, 1)), ((7, 60), (1, 66, 3)), ((7, 64), (0, 10, 0)), ((7, 81), (0, 5, 1)), ((7, 94), (0, 11, 0)), ((7, 107), (0, 40, 2)), ((7, 126), (0, 9, 1)), ((7, 133), (0, 26, 1)), ((7, 137), (0, 18, 1)), ((7, 141), (0, 27, 1)), ((7, 145), (0, 21, 1)), ((7, 148), (0, 28, 1)), ((7, 151), (0, 8, 0)), ((7, 154), (0, 41, 1)), ((7, 158), (0, 42, 1)), ((7, 161), (0, 43, 1)), ((7, 164), (0, 44, 1)), ((7, 167), (0, 45, 1)), ((7, 170), (0, 17, 1)), ((7, 173), (0, 16, 1)), ((7, 176), (0, 22, 1)), ((7, 179), (0, 23, 1)), ((7, 188), (0, 3, 0)), ((7, 194), (0, 46, 0)), ((7, 197), (0, 12, 0)), ((7, 200), (0, 13, 0)), ((7, 203), (0, 14, 0)), ((7, 206), (0, 29, 0)), ((7, 209), (0, 15, 0)), ((7, 212), (0, 31, 1)), ((7, 215), (0, 32, 1)), ((7, 221), (0, 33, 1)), ((7, 224), (0, 34, 0)), ((7, 231), (0, 20, 1)), ((7, 234), (0, 19, 1)), ((7, 237), (0, 64, 1)), ((7, 240), (1, 71, 2)), ((7, 269), (0, 7, 1)), ((9, 9), (1, 77, 7)), ((9, 15), (1, 78, 4)), ((9, 19), (0, 58, 2)), ((9, 25), (0, 60, 1)), ((9, 29), (0, 59, 2)), ((9, 32), (1, 80, 3)), ((9, 36), (1, 82, 3)), ((9, 40), (0, 63, 1)), ((9, 43), (0, 61, 2)), ((9, 46), (1, 79, 8)), ((9, 50), (1, 76, 3)), ((9, 53), (0, 62, 1)), ((9, 56), (0, 65, 0)), ((9, 60), (1, 75, 2)), ((9, 63), (0, 53, 2)), ((9, 66), (0, 49, 2)), ((9, 69), (1, 85, 8)), ((9, 73), (1, 86, 4)), ((9, 77), (0, 54, 2)), ((9, 80), (0, 56, 1)), ((9, 83), (0, 55, 1)), ((9, 86), (0, 57, 0)), ((9, 89), (2, 48, 0)), ((9, 90), (1, 81, 6)), ((9, 94), (1, 83, 7)), ((9, 98), (1, 74, 2)), ((9, 102), (1, 87, 9)), ((9, 106), (1, 84, 5))]
def x_iv (c i : Nat) : Option (Nat × Nat × Nat) := x_find x_IVL c i
def x_NWL : List ((Nat × Nat) × Nat) := [((1, 9), 2), ((2, 21), 6), ((2, 28), 0), ((4, 9), 6), ((5, 7), 2), ((7, 7), 2), ((7, 19), 1), ((7, 26), 5), ((7, 36), 3), ((7, 43), 4), ((9, 20), 7)]
def x_nw (c i : Nat) : Option Nat := x_find x_NWL c i
def x_LCL : List ((Nat × Nat) × Int64) := []
def x_lc (c i : Nat) : Option Int64 := x_find x_LCL c i
def x_ICL : List ((Nat × Nat) × Int32) := [((9, 7), 1204396517), ((9, 8), 2147483647)]
def x_ic (c i : Nat) : Option Int32 := x_find x_ICL c i
def x_MML : List ((Nat × Nat) × Bool) := [((0, 29), true), ((1, 33), false), ((2, 118), false)]
def x_mm (c i : Nat) : Option Bool := x_find x_MML c i
def x_OIL : List ((Nat × Nat) × Unit) := [((0, 1), ()), ((1, 3), ()), ((2, 3), ()), ((3, 3), ()), ((4, 3), ()), ((5, 1), ()), ((6, 3), ()), ((7, 1), ())]
def x_oi (c i : Nat) : Bool := (x_find x_OIL c i).isSome
