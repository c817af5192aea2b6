section
-- ===== PART A: goes FIRST, ahead of the names: the tables' words, and 'selects' of the private methods out of them =====
/-- a private method of a class that the tables say can be made, by its rows of tables_1 -/
def lw_okq (q : MethodName × Nat) : Prop := (q.1.cls ≠ "java/lang/invoke/MethodHandle" ∧ q.1.cls ≠ "java/lang/invoke/VarHandle") ∧ Cond.instantiable q.1.cls q.2 ∈ tables_1 ∧ Cond.privateMethod q.1 ∈ tables_1 ∧ Cond.instanceMethod q.1 ∈ tables_1
theorem lw_p0 : lw_okq (⟨"DrumBoats", "isCrew", "(I)Z"⟩, 16) := ⟨⟨by decide +kernel, by decide +kernel⟩, List.mem_of_getElem? (i := 18) (by decide +kernel), List.mem_of_getElem? (i := 408) (by decide +kernel), List.mem_of_getElem? (i := 409) (by decide +kernel)⟩
theorem lw_p1 : lw_okq (⟨"DrumBoats$SeatSearch", "loadMembers", "(LDrumBoats$Roster;LDrumBoats$Crew;)V"⟩, 17) := ⟨⟨by decide +kernel, by decide +kernel⟩, List.mem_of_getElem? (i := 91) (by decide +kernel), List.mem_of_getElem? (i := 440) (by decide +kernel), List.mem_of_getElem? (i := 441) (by decide +kernel)⟩
theorem lw_p2 : lw_okq (⟨"DrumBoats$SeatSearch", "loadBounds", "(LDrumBoats$Crew;)V"⟩, 17) := ⟨⟨by decide +kernel, by decide +kernel⟩, List.mem_of_getElem? (i := 91) (by decide +kernel), List.mem_of_getElem? (i := 445) (by decide +kernel), List.mem_of_getElem? (i := 446) (by decide +kernel)⟩
theorem lw_p3 : lw_okq (⟨"DrumBoats$SeatSearch", "leastFrom", "(IIII)I"⟩, 17) := ⟨⟨by decide +kernel, by decide +kernel⟩, List.mem_of_getElem? (i := 91) (by decide +kernel), List.mem_of_getElem? (i := 468) (by decide +kernel), List.mem_of_getElem? (i := 469) (by decide +kernel)⟩
theorem lw_p4 : lw_okq (⟨"DrumBoats$SeatSearch", "keepChosen", "(I)V"⟩, 17) := ⟨⟨by decide +kernel, by decide +kernel⟩, List.mem_of_getElem? (i := 91) (by decide +kernel), List.mem_of_getElem? (i := 478) (by decide +kernel), List.mem_of_getElem? (i := 479) (by decide +kernel)⟩
theorem lw_p5 : lw_okq (⟨"DrumBoats$SeatSearch", "gainOf", "(II)I"⟩, 17) := ⟨⟨by decide +kernel, by decide +kernel⟩, List.mem_of_getElem? (i := 91) (by decide +kernel), List.mem_of_getElem? (i := 482) (by decide +kernel), List.mem_of_getElem? (i := 483) (by decide +kernel)⟩
theorem lw_p6 : lw_okq (⟨"DrumBoats$Tape", "readTest", "(LDrumBoats$Rule;I)Z"⟩, 3) := ⟨⟨by decide +kernel, by decide +kernel⟩, List.mem_of_getElem? (i := 150) (by decide +kernel), List.mem_of_getElem? (i := 542) (by decide +kernel), List.mem_of_getElem? (i := 543) (by decide +kernel)⟩
theorem lw_p7 : lw_okq (⟨"DrumBoats$Tape", "readWord", "(II)I"⟩, 3) := ⟨⟨by decide +kernel, by decide +kernel⟩, List.mem_of_getElem? (i := 150) (by decide +kernel), List.mem_of_getElem? (i := 546) (by decide +kernel), List.mem_of_getElem? (i := 547) (by decide +kernel)⟩
theorem lw_p8 : lw_okq (⟨"DrumBoats$Tape", "peek", "()I"⟩, 3) := ⟨⟨by decide +kernel, by decide +kernel⟩, List.mem_of_getElem? (i := 150) (by decide +kernel), List.mem_of_getElem? (i := 562) (by decide +kernel), List.mem_of_getElem? (i := 563) (by decide +kernel)⟩
theorem lw_p9 : lw_okq (⟨"DrumBoats$Tape", "readBlank", "()Z"⟩, 3) := ⟨⟨by decide +kernel, by decide +kernel⟩, List.mem_of_getElem? (i := 150) (by decide +kernel), List.mem_of_getElem? (i := 617) (by decide +kernel), List.mem_of_getElem? (i := 618) (by decide +kernel)⟩
theorem lw_p10 : lw_okq (⟨"DrumBoats$Tape", "readSign", "(LDrumBoats$Rule;I)Z"⟩, 3) := ⟨⟨by decide +kernel, by decide +kernel⟩, List.mem_of_getElem? (i := 150) (by decide +kernel), List.mem_of_getElem? (i := 621) (by decide +kernel), List.mem_of_getElem? (i := 622) (by decide +kernel)⟩
theorem lw_p11 : lw_okq (⟨"DrumBoats$Tape", "readNumber", "(LDrumBoats$Rule;I)Z"⟩, 3) := ⟨⟨by decide +kernel, by decide +kernel⟩, List.mem_of_getElem? (i := 150) (by decide +kernel), List.mem_of_getElem? (i := 625) (by decide +kernel), List.mem_of_getElem? (i := 626) (by decide +kernel)⟩
theorem lw_p12 : lw_okq (⟨"DrumBoats$Tape", "readJoint", "(LDrumBoats$Rule;I)Z"⟩, 3) := ⟨⟨by decide +kernel, by decide +kernel⟩, List.mem_of_getElem? (i := 150) (by decide +kernel), List.mem_of_getElem? (i := 630) (by decide +kernel), List.mem_of_getElem? (i := 631) (by decide +kernel)⟩
theorem lw_p13 : lw_okq (⟨"DrumBoats", "tallySeated", "(LDrumBoats$Crew;)V"⟩, 16) := ⟨⟨by decide +kernel, by decide +kernel⟩, List.mem_of_getElem? (i := 18) (by decide +kernel), List.mem_of_getElem? (i := 639) (by decide +kernel), List.mem_of_getElem? (i := 640) (by decide +kernel)⟩
theorem lw_p14 : lw_okq (⟨"DrumBoats$Rule", "testHolds", "(II)Z"⟩, 6) := ⟨⟨by decide +kernel, by decide +kernel⟩, List.mem_of_getElem? (i := 255) (by decide +kernel), List.mem_of_getElem? (i := 647) (by decide +kernel), List.mem_of_getElem? (i := 648) (by decide +kernel)⟩
theorem lw_p15 : lw_okq (⟨"DrumBoats", "isMetByOneOf", "([II)Z"⟩, 16) := ⟨⟨by decide +kernel, by decide +kernel⟩, List.mem_of_getElem? (i := 18) (by decide +kernel), List.mem_of_getElem? (i := 662) (by decide +kernel), List.mem_of_getElem? (i := 663) (by decide +kernel)⟩
def lw_privs_1 : List (MethodName × Nat) := [(⟨"DrumBoats", "isCrew", "(I)Z"⟩, 16), (⟨"DrumBoats$SeatSearch", "loadMembers", "(LDrumBoats$Roster;LDrumBoats$Crew;)V"⟩, 17), (⟨"DrumBoats$SeatSearch", "loadBounds", "(LDrumBoats$Crew;)V"⟩, 17), (⟨"DrumBoats$SeatSearch", "leastFrom", "(IIII)I"⟩, 17), (⟨"DrumBoats$SeatSearch", "keepChosen", "(I)V"⟩, 17), (⟨"DrumBoats$SeatSearch", "gainOf", "(II)I"⟩, 17), (⟨"DrumBoats$Tape", "readTest", "(LDrumBoats$Rule;I)Z"⟩, 3), (⟨"DrumBoats$Tape", "readWord", "(II)I"⟩, 3), (⟨"DrumBoats$Tape", "peek", "()I"⟩, 3), (⟨"DrumBoats$Tape", "readBlank", "()Z"⟩, 3), (⟨"DrumBoats$Tape", "readSign", "(LDrumBoats$Rule;I)Z"⟩, 3), (⟨"DrumBoats$Tape", "readNumber", "(LDrumBoats$Rule;I)Z"⟩, 3), (⟨"DrumBoats$Tape", "readJoint", "(LDrumBoats$Rule;I)Z"⟩, 3), (⟨"DrumBoats", "tallySeated", "(LDrumBoats$Crew;)V"⟩, 16), (⟨"DrumBoats$Rule", "testHolds", "(II)Z"⟩, 6), (⟨"DrumBoats", "isMetByOneOf", "([II)Z"⟩, 16)]
theorem lw_r1 : ∀ q ∈ lw_privs_1, lw_okq q := List.forall_mem_cons.mpr ⟨lw_p0, List.forall_mem_cons.mpr ⟨lw_p1, List.forall_mem_cons.mpr ⟨lw_p2, List.forall_mem_cons.mpr ⟨lw_p3, List.forall_mem_cons.mpr ⟨lw_p4, List.forall_mem_cons.mpr ⟨lw_p5, List.forall_mem_cons.mpr ⟨lw_p6, List.forall_mem_cons.mpr ⟨lw_p7, List.forall_mem_cons.mpr ⟨lw_p8, List.forall_mem_cons.mpr ⟨lw_p9, List.forall_mem_cons.mpr ⟨lw_p10, List.forall_mem_cons.mpr ⟨lw_p11, List.forall_mem_cons.mpr ⟨lw_p12, List.forall_mem_cons.mpr ⟨lw_p13, List.forall_mem_cons.mpr ⟨lw_p14, List.forall_mem_cons.mpr ⟨lw_p15, fun _ h => absurd h List.not_mem_nil⟩⟩⟩⟩⟩⟩⟩⟩⟩⟩⟩⟩⟩⟩⟩⟩
theorem lw_p16 : lw_okq (⟨"DrumBoats", "howManyWait", "()I"⟩, 16) := ⟨⟨by decide +kernel, by decide +kernel⟩, List.mem_of_getElem? (i := 18) (by decide +kernel), List.mem_of_getElem? (i := 666) (by decide +kernel), List.mem_of_getElem? (i := 667) (by decide +kernel)⟩
theorem lw_p17 : lw_okq (⟨"DrumBoats", "firstBarring", "(I)I"⟩, 16) := ⟨⟨by decide +kernel, by decide +kernel⟩, List.mem_of_getElem? (i := 18) (by decide +kernel), List.mem_of_getElem? (i := 678) (by decide +kernel), List.mem_of_getElem? (i := 679) (by decide +kernel)⟩
theorem lw_p18 : lw_okq (⟨"DrumBoats", "racesMeet", "(LDrumBoats$Race;LDrumBoats$Race;)Z"⟩, 16) := ⟨⟨by decide +kernel, by decide +kernel⟩, List.mem_of_getElem? (i := 18) (by decide +kernel), List.mem_of_getElem? (i := 687) (by decide +kernel), List.mem_of_getElem? (i := 688) (by decide +kernel)⟩
theorem lw_p19 : lw_okq (⟨"DrumBoats", "isRace", "(I)Z"⟩, 16) := ⟨⟨by decide +kernel, by decide +kernel⟩, List.mem_of_getElem? (i := 18) (by decide +kernel), List.mem_of_getElem? (i := 699) (by decide +kernel), List.mem_of_getElem? (i := 700) (by decide +kernel)⟩
theorem lw_p20 : lw_okq (⟨"DrumBoats", "goDown", "(LDrumBoats$Race;II)V"⟩, 16) := ⟨⟨by decide +kernel, by decide +kernel⟩, List.mem_of_getElem? (i := 18) (by decide +kernel), List.mem_of_getElem? (i := 703) (by decide +kernel), List.mem_of_getElem? (i := 704) (by decide +kernel)⟩
theorem lw_p21 : lw_okq (⟨"DrumBoats$FinalList", "addHeat", "(LDrumBoats$Race;I)V"⟩, 5) := ⟨⟨by decide +kernel, by decide +kernel⟩, List.mem_of_getElem? (i := 187) (by decide +kernel), List.mem_of_getElem? (i := 758) (by decide +kernel), List.mem_of_getElem? (i := 759) (by decide +kernel)⟩
theorem lw_p22 : lw_okq (⟨"DrumBoats$FinalList", "fasterOthers", "(I)I"⟩, 5) := ⟨⟨by decide +kernel, by decide +kernel⟩, List.mem_of_getElem? (i := 187) (by decide +kernel), List.mem_of_getElem? (i := 764) (by decide +kernel), List.mem_of_getElem? (i := 765) (by decide +kernel)⟩
theorem lw_p23 : lw_okq (⟨"DrumBoats$FinalList", "putInOrder", "()V"⟩, 5) := ⟨⟨by decide +kernel, by decide +kernel⟩, List.mem_of_getElem? (i := 187) (by decide +kernel), List.mem_of_getElem? (i := 768) (by decide +kernel), List.mem_of_getElem? (i := 769) (by decide +kernel)⟩
theorem lw_p24 : lw_okq (⟨"DrumBoats$FinalList", "chosenAheadOf", "(I)I"⟩, 5) := ⟨⟨by decide +kernel, by decide +kernel⟩, List.mem_of_getElem? (i := 187) (by decide +kernel), List.mem_of_getElem? (i := 772) (by decide +kernel), List.mem_of_getElem? (i := 773) (by decide +kernel)⟩
theorem lw_p25 : lw_okq (⟨"DrumBoats", "leastTimeIn", "(II)I"⟩, 16) := ⟨⟨by decide +kernel, by decide +kernel⟩, List.mem_of_getElem? (i := 18) (by decide +kernel), List.mem_of_getElem? (i := 789) (by decide +kernel), List.mem_of_getElem? (i := 790) (by decide +kernel)⟩
theorem lw_p26 : lw_okq (⟨"DrumBoats", "pointsOf", "(I)I"⟩, 16) := ⟨⟨by decide +kernel, by decide +kernel⟩, List.mem_of_getElem? (i := 18) (by decide +kernel), List.mem_of_getElem? (i := 803) (by decide +kernel), List.mem_of_getElem? (i := 804) (by decide +kernel)⟩
theorem lw_p27 : lw_okq (⟨"DrumBoats", "crewsAheadOf", "(I)I"⟩, 16) := ⟨⟨by decide +kernel, by decide +kernel⟩, List.mem_of_getElem? (i := 18) (by decide +kernel), List.mem_of_getElem? (i := 818) (by decide +kernel), List.mem_of_getElem? (i := 819) (by decide +kernel)⟩
theorem lw_p28 : lw_okq (⟨"DrumBoats", "howManyAreSeated", "()I"⟩, 16) := ⟨⟨by decide +kernel, by decide +kernel⟩, List.mem_of_getElem? (i := 18) (by decide +kernel), List.mem_of_getElem? (i := 826) (by decide +kernel), List.mem_of_getElem? (i := 827) (by decide +kernel)⟩
theorem lw_p29 : lw_okq (⟨"DrumBoats", "howManyTimes", "()I"⟩, 16) := ⟨⟨by decide +kernel, by decide +kernel⟩, List.mem_of_getElem? (i := 18) (by decide +kernel), List.mem_of_getElem? (i := 830) (by decide +kernel), List.mem_of_getElem? (i := 831) (by decide +kernel)⟩
theorem lw_p30 : lw_okq (⟨"DrumBoatsModel", "isPaddler", "(I)Z"⟩, 48) := ⟨⟨by decide +kernel, by decide +kernel⟩, List.mem_of_getElem? (i := 834) (by decide +kernel), List.mem_of_getElem? (i := 993) (by decide +kernel), List.mem_of_getElem? (i := 994) (by decide +kernel)⟩
theorem lw_p31 : lw_okq (⟨"DrumBoatsModel", "isCrew", "(I)Z"⟩, 48) := ⟨⟨by decide +kernel, by decide +kernel⟩, List.mem_of_getElem? (i := 834) (by decide +kernel), List.mem_of_getElem? (i := 1005) (by decide +kernel), List.mem_of_getElem? (i := 1006) (by decide +kernel)⟩
def lw_privs_2 : List (MethodName × Nat) := [(⟨"DrumBoats", "howManyWait", "()I"⟩, 16), (⟨"DrumBoats", "firstBarring", "(I)I"⟩, 16), (⟨"DrumBoats", "racesMeet", "(LDrumBoats$Race;LDrumBoats$Race;)Z"⟩, 16), (⟨"DrumBoats", "isRace", "(I)Z"⟩, 16), (⟨"DrumBoats", "goDown", "(LDrumBoats$Race;II)V"⟩, 16), (⟨"DrumBoats$FinalList", "addHeat", "(LDrumBoats$Race;I)V"⟩, 5), (⟨"DrumBoats$FinalList", "fasterOthers", "(I)I"⟩, 5), (⟨"DrumBoats$FinalList", "putInOrder", "()V"⟩, 5), (⟨"DrumBoats$FinalList", "chosenAheadOf", "(I)I"⟩, 5), (⟨"DrumBoats", "leastTimeIn", "(II)I"⟩, 16), (⟨"DrumBoats", "pointsOf", "(I)I"⟩, 16), (⟨"DrumBoats", "crewsAheadOf", "(I)I"⟩, 16), (⟨"DrumBoats", "howManyAreSeated", "()I"⟩, 16), (⟨"DrumBoats", "howManyTimes", "()I"⟩, 16), (⟨"DrumBoatsModel", "isPaddler", "(I)Z"⟩, 48), (⟨"DrumBoatsModel", "isCrew", "(I)Z"⟩, 48)]
theorem lw_r2 : ∀ q ∈ lw_privs_2, lw_okq q := List.forall_mem_cons.mpr ⟨lw_p16, List.forall_mem_cons.mpr ⟨lw_p17, List.forall_mem_cons.mpr ⟨lw_p18, List.forall_mem_cons.mpr ⟨lw_p19, List.forall_mem_cons.mpr ⟨lw_p20, List.forall_mem_cons.mpr ⟨lw_p21, List.forall_mem_cons.mpr ⟨lw_p22, List.forall_mem_cons.mpr ⟨lw_p23, List.forall_mem_cons.mpr ⟨lw_p24, List.forall_mem_cons.mpr ⟨lw_p25, List.forall_mem_cons.mpr ⟨lw_p26, List.forall_mem_cons.mpr ⟨lw_p27, List.forall_mem_cons.mpr ⟨lw_p28, List.forall_mem_cons.mpr ⟨lw_p29, List.forall_mem_cons.mpr ⟨lw_p30, List.forall_mem_cons.mpr ⟨lw_p31, fun _ h => absurd h List.not_mem_nil⟩⟩⟩⟩⟩⟩⟩⟩⟩⟩⟩⟩⟩⟩⟩⟩
theorem lw_p32 : lw_okq (⟨"DrumBoatsModel", "isMember", "(II)Z"⟩, 48) := ⟨⟨by decide +kernel, by decide +kernel⟩, List.mem_of_getElem? (i := 834) (by decide +kernel), List.mem_of_getElem? (i := 1009) (by decide +kernel), List.mem_of_getElem? (i := 1010) (by decide +kernel)⟩
theorem lw_p33 : lw_okq (⟨"DrumBoatsModel", "fits", "(II)Z"⟩, 48) := ⟨⟨by decide +kernel, by decide +kernel⟩, List.mem_of_getElem? (i := 834) (by decide +kernel), List.mem_of_getElem? (i := 1022) (by decide +kernel), List.mem_of_getElem? (i := 1023) (by decide +kernel)⟩
theorem lw_p34 : lw_okq (⟨"DrumBoatsModel", "tilt", "(I[II)I"⟩, 48) := ⟨⟨by decide +kernel, by decide +kernel⟩, List.mem_of_getElem? (i := 834) (by decide +kernel), List.mem_of_getElem? (i := 1026) (by decide +kernel), List.mem_of_getElem? (i := 1027) (by decide +kernel)⟩
theorem lw_p35 : lw_okq (⟨"DrumBoatsModel", "trims", "(I[III)I"⟩, 48) := ⟨⟨by decide +kernel, by decide +kernel⟩, List.mem_of_getElem? (i := 834) (by decide +kernel), List.mem_of_getElem? (i := 1030) (by decide +kernel), List.mem_of_getElem? (i := 1031) (by decide +kernel)⟩
theorem lw_p36 : lw_okq (⟨"DrumBoatsModel", "test", "(I)V"⟩, 48) := ⟨⟨by decide +kernel, by decide +kernel⟩, List.mem_of_getElem? (i := 834) (by decide +kernel), List.mem_of_getElem? (i := 1059) (by decide +kernel), List.mem_of_getElem? (i := 1060) (by decide +kernel)⟩
theorem lw_p37 : lw_okq (⟨"DrumBoatsModel", "now", "()I"⟩, 48) := ⟨⟨by decide +kernel, by decide +kernel⟩, List.mem_of_getElem? (i := 834) (by decide +kernel), List.mem_of_getElem? (i := 1063) (by decide +kernel), List.mem_of_getElem? (i := 1064) (by decide +kernel)⟩
theorem lw_p38 : lw_okq (⟨"DrumBoatsModel", "expect", "(Ljava/lang/String;)V"⟩, 48) := ⟨⟨by decide +kernel, by decide +kernel⟩, List.mem_of_getElem? (i := 834) (by decide +kernel), List.mem_of_getElem? (i := 1068) (by decide +kernel), List.mem_of_getElem? (i := 1069) (by decide +kernel)⟩
theorem lw_p39 : lw_okq (⟨"DrumBoatsModel", "field", "(II)I"⟩, 48) := ⟨⟨by decide +kernel, by decide +kernel⟩, List.mem_of_getElem? (i := 834) (by decide +kernel), List.mem_of_getElem? (i := 1087) (by decide +kernel), List.mem_of_getElem? (i := 1088) (by decide +kernel)⟩
theorem lw_p40 : lw_okq (⟨"DrumBoatsModel", "haveCommon", "(II)Z"⟩, 48) := ⟨⟨by decide +kernel, by decide +kernel⟩, List.mem_of_getElem? (i := 834) (by decide +kernel), List.mem_of_getElem? (i := 1099) (by decide +kernel), List.mem_of_getElem? (i := 1100) (by decide +kernel)⟩
theorem lw_p41 : lw_okq (⟨"DrumBoatsModel", "isRace", "(I)Z"⟩, 48) := ⟨⟨by decide +kernel, by decide +kernel⟩, List.mem_of_getElem? (i := 834) (by decide +kernel), List.mem_of_getElem? (i := 1115) (by decide +kernel), List.mem_of_getElem? (i := 1116) (by decide +kernel)⟩
theorem lw_p42 : lw_okq (⟨"DrumBoatsModel", "goes", "(III)Z"⟩, 48) := ⟨⟨by decide +kernel, by decide +kernel⟩, List.mem_of_getElem? (i := 834) (by decide +kernel), List.mem_of_getElem? (i := 1119) (by decide +kernel), List.mem_of_getElem? (i := 1120) (by decide +kernel)⟩
theorem lw_p43 : lw_okq (⟨"DrumBoatsModel", "isIn", "(II)Z"⟩, 48) := ⟨⟨by decide +kernel, by decide +kernel⟩, List.mem_of_getElem? (i := 834) (by decide +kernel), List.mem_of_getElem? (i := 1127) (by decide +kernel), List.mem_of_getElem? (i := 1128) (by decide +kernel)⟩
theorem lw_p44 : lw_okq (⟨"DrumBoatsModel", "place", "(II)I"⟩, 48) := ⟨⟨by decide +kernel, by decide +kernel⟩, List.mem_of_getElem? (i := 834) (by decide +kernel), List.mem_of_getElem? (i := 1136) (by decide +kernel), List.mem_of_getElem? (i := 1137) (by decide +kernel)⟩
theorem lw_p45 : lw_okq (⟨"DrumBoatsModel", "leastTime", "(II)I"⟩, 48) := ⟨⟨by decide +kernel, by decide +kernel⟩, List.mem_of_getElem? (i := 834) (by decide +kernel), List.mem_of_getElem? (i := 1165) (by decide +kernel), List.mem_of_getElem? (i := 1166) (by decide +kernel)⟩
theorem lw_p46 : lw_okq (⟨"DrumBoatsModel", "pointsOf", "(I)I"⟩, 48) := ⟨⟨by decide +kernel, by decide +kernel⟩, List.mem_of_getElem? (i := 834) (by decide +kernel), List.mem_of_getElem? (i := 1173) (by decide +kernel), List.mem_of_getElem? (i := 1174) (by decide +kernel)⟩
def lw_privs_3 : List (MethodName × Nat) := [(⟨"DrumBoatsModel", "isMember", "(II)Z"⟩, 48), (⟨"DrumBoatsModel", "fits", "(II)Z"⟩, 48), (⟨"DrumBoatsModel", "tilt", "(I[II)I"⟩, 48), (⟨"DrumBoatsModel", "trims", "(I[III)I"⟩, 48), (⟨"DrumBoatsModel", "test", "(I)V"⟩, 48), (⟨"DrumBoatsModel", "now", "()I"⟩, 48), (⟨"DrumBoatsModel", "expect", "(Ljava/lang/String;)V"⟩, 48), (⟨"DrumBoatsModel", "field", "(II)I"⟩, 48), (⟨"DrumBoatsModel", "haveCommon", "(II)Z"⟩, 48), (⟨"DrumBoatsModel", "isRace", "(I)Z"⟩, 48), (⟨"DrumBoatsModel", "goes", "(III)Z"⟩, 48), (⟨"DrumBoatsModel", "isIn", "(II)Z"⟩, 48), (⟨"DrumBoatsModel", "place", "(II)I"⟩, 48), (⟨"DrumBoatsModel", "leastTime", "(II)I"⟩, 48), (⟨"DrumBoatsModel", "pointsOf", "(I)I"⟩, 48)]
theorem lw_r3 : ∀ q ∈ lw_privs_3, lw_okq q := List.forall_mem_cons.mpr ⟨lw_p32, List.forall_mem_cons.mpr ⟨lw_p33, List.forall_mem_cons.mpr ⟨lw_p34, List.forall_mem_cons.mpr ⟨lw_p35, List.forall_mem_cons.mpr ⟨lw_p36, List.forall_mem_cons.mpr ⟨lw_p37, List.forall_mem_cons.mpr ⟨lw_p38, List.forall_mem_cons.mpr ⟨lw_p39, List.forall_mem_cons.mpr ⟨lw_p40, List.forall_mem_cons.mpr ⟨lw_p41, List.forall_mem_cons.mpr ⟨lw_p42, List.forall_mem_cons.mpr ⟨lw_p43, List.forall_mem_cons.mpr ⟨lw_p44, List.forall_mem_cons.mpr ⟨lw_p45, List.forall_mem_cons.mpr ⟨lw_p46, fun _ h => absurd h List.not_mem_nil⟩⟩⟩⟩⟩⟩⟩⟩⟩⟩⟩⟩⟩⟩⟩
def lw_privs : List (MethodName × Nat) := lw_privs_1 ++ (lw_privs_2 ++ (lw_privs_3))
def lw_tbl : List Cond := k2_sels lw_privs ++ tables_1
theorem lw_privs_ok : ∀ q ∈ lw_privs, lw_okq q := by
  show ∀ q ∈ lw_privs_1 ++ (lw_privs_2 ++ (lw_privs_3)), lw_okq q
  exact List.forall_mem_append.mpr ⟨lw_r1, List.forall_mem_append.mpr ⟨lw_r2, lw_r3⟩⟩
end
section
def RX0 : String := "DrumBoats$Course"
def TX0 : u_T := fun k => match k with
  | 0 => ("DrumBoats$Course", "hundredths", "I", false)
  | _ => ("DrumBoats$Course", "gone", "I", false)
def tyX0 : Nat → FieldType := fun k => match k with
  | 0 => .int
  | _ => .int
abbrev wsX00 : List Cond := u_ws RX0 TX0 2
theorem nmX0 : ∀ a, a < 2 → ∀ b, b < 2 → a ≠ b → (TX0 a).2.1 ≠ (TX0 b).2.1 := by decide +kernel
theorem tyX0_ok : ∀ k, k < 2 → parseFieldDescriptor (TX0 k).2.2.1 = some (tyX0 k) := by decide +kernel
abbrev cX0_init : ByteArray := prog_2_method_1_code
def yX0_init : MethodName := ⟨RX0, "<init>", "()V"⟩
abbrev cX0_paddle : ByteArray := prog_2_method_2_code
def yX0_paddle : MethodName := ⟨RX0, "paddle", "(LDrumBoats$Roster;LDrumBoats$Crew;III)V"⟩
abbrev cX0_driveOf : ByteArray := prog_2_method_3_code
def yX0_driveOf : MethodName := ⟨RX0, "driveOf", "(LDrumBoats$Roster;LDrumBoats$Crew;I)I"⟩
def RX1 : String := "DrumBoats$Crew"
def TX1 : u_T := fun k => match k with
  | 0 => ("DrumBoats$Crew", "rows", "I", false)
  | 1 => ("DrumBoats$Crew", "drummer", "I", false)
  | 2 => ("DrumBoats$Crew", "drumBeat", "I", false)
  | 3 => ("DrumBoats$Crew", "memberCount", "I", false)
  | 4 => ("DrumBoats$Crew", "members", "[I", true)
  | 5 => ("DrumBoats$Crew", "memberBits", "J", false)
  | 6 => ("DrumBoats$Crew", "seated", "Z", false)
  | _ => ("DrumBoats$Crew", "seats", "[I", true)
def tyX1 : Nat → FieldType := fun k => match k with
  | 0 => .int
  | 1 => .int
  | 2 => .int
  | 3 => .int
  | 4 => .array .int
  | 5 => .long
  | 6 => .boolean
  | _ => .array .int
abbrev wsX10 : List Cond := u_ws RX1 TX1 8
theorem nmX1 : ∀ a, a < 8 → ∀ b, b < 8 → a ≠ b → (TX1 a).2.1 ≠ (TX1 b).2.1 := by decide +kernel
theorem tyX1_ok : ∀ k, k < 8 → parseFieldDescriptor (TX1 k).2.2.1 = some (tyX1 k) := by decide +kernel
abbrev cX1_init : ByteArray := prog_3_method_1_code
def yX1_init : MethodName := ⟨RX1, "<init>", "()V"⟩
abbrev cX1_seatCount : ByteArray := prog_3_method_2_code
def yX1_seatCount : MethodName := ⟨RX1, "seatCount", "()I"⟩
abbrev cX1_hasMember : ByteArray := prog_3_method_3_code
def yX1_hasMember : MethodName := ⟨RX1, "hasMember", "(I)Z"⟩
abbrev cX1_addMember : ByteArray := prog_3_method_4_code
def yX1_addMember : MethodName := ⟨RX1, "addMember", "(I)V"⟩
abbrev cX1_swapSeats : ByteArray := prog_3_method_5_code
def yX1_swapSeats : MethodName := ⟨RX1, "swapSeats", "(II)V"⟩
abbrev cX1_pitchFactor : ByteArray := prog_3_method_6_code
def yX1_pitchFactor : MethodName := ⟨RX1, "pitchFactor", "(I)I"⟩
abbrev cX1_middleFactor : ByteArray := prog_3_method_7_code
def yX1_middleFactor : MethodName := ⟨RX1, "middleFactor", "(I)I"⟩
abbrev cX1_drummerPitch : ByteArray := prog_3_method_8_code
def yX1_drummerPitch : MethodName := ⟨RX1, "drummerPitch", "()I"⟩
def RX2 : String := "DrumBoats$FinalList"
def TX2 : u_T := fun k => match k with
  | 0 => ("DrumBoats$FinalList", "size", "I", false)
  | 1 => ("DrumBoats$FinalList", "list", "[I", true)
  | 2 => ("DrumBoats$FinalList", "bestTime", "[I", true)
  | 3 => ("DrumBoats$FinalList", "byPlace", "[Z", true)
  | _ => ("DrumBoats$FinalList", "chosen", "[Z", true)
def tyX2 : Nat → FieldType := fun k => match k with
  | 0 => .int
  | 1 => .array .int
  | 2 => .array .int
  | 3 => .array .boolean
  | _ => .array .boolean
abbrev wsX20 : List Cond := u_ws RX2 TX2 5
theorem nmX2 : ∀ a, a < 5 → ∀ b, b < 5 → a ≠ b → (TX2 a).2.1 ≠ (TX2 b).2.1 := by decide +kernel
theorem tyX2_ok : ∀ k, k < 5 → parseFieldDescriptor (TX2 k).2.2.1 = some (tyX2 k) := by decide +kernel
abbrev cX2_init : ByteArray := prog_4_method_1_code
def yX2_init : MethodName := ⟨RX2, "<init>", "()V"⟩
abbrev cX2_choose : ByteArray := prog_4_method_2_code
def yX2_choose : MethodName := ⟨RX2, "choose", "([LDrumBoats$Race;III)V"⟩
abbrev cX2_addHeat : ByteArray := prog_4_method_3_code
def yX2_addHeat : MethodName := ⟨RX2, "addHeat", "(LDrumBoats$Race;I)V"⟩
abbrev cX2_fasterOthers : ByteArray := prog_4_method_4_code
def yX2_fasterOthers : MethodName := ⟨RX2, "fasterOthers", "(I)I"⟩
abbrev cX2_putInOrder : ByteArray := prog_4_method_5_code
def yX2_putInOrder : MethodName := ⟨RX2, "putInOrder", "()V"⟩
abbrev cX2_chosenAheadOf : ByteArray := prog_4_method_6_code
def yX2_chosenAheadOf : MethodName := ⟨RX2, "chosenAheadOf", "(I)I"⟩
def RX3 : String := "DrumBoats$Race"
def TX3 : u_T := fun k => match k with
  | 0 => ("DrumBoats$Race", "minute", "I", false)
  | 1 => ("DrumBoats$Race", "round", "I", false)
  | 2 => ("DrumBoats$Race", "begun", "Z", false)
  | 3 => ("DrumBoats$Race", "crews", "[I", true)
  | 4 => ("DrumBoats$Race", "times", "[I", true)
  | 5 => ("DrumBoats$Race", "gone", "[I", true)
  | _ => ("DrumBoats$Race", "struck", "[Z", true)
def tyX3 : Nat → FieldType := fun k => match k with
  | 0 => .int
  | 1 => .int
  | 2 => .boolean
  | 3 => .array .int
  | 4 => .array .int
  | 5 => .array .int
  | _ => .array .boolean
abbrev wsX30 : List Cond := u_ws RX3 TX3 7
theorem nmX3 : ∀ a, a < 7 → ∀ b, b < 7 → a ≠ b → (TX3 a).2.1 ≠ (TX3 b).2.1 := by decide +kernel
theorem tyX3_ok : ∀ k, k < 7 → parseFieldDescriptor (TX3 k).2.2.1 = some (tyX3 k) := by decide +kernel
abbrev cX3_init : ByteArray := prog_5_method_1_code
def yX3_init : MethodName := ⟨RX3, "<init>", "()V"⟩
abbrev cX3_set : ByteArray := prog_5_method_2_code
def yX3_set : MethodName := ⟨RX3, "set", "(II[I)V"⟩
abbrev cX3_forgetTimes : ByteArray := prog_5_method_3_code
def yX3_forgetTimes : MethodName := ⟨RX3, "forgetTimes", "()V"⟩
abbrev cX3_minutesTo : ByteArray := prog_5_method_4_code
def yX3_minutesTo : MethodName := ⟨RX3, "minutesTo", "(LDrumBoats$Race;)I"⟩
abbrev cX3_laneOf : ByteArray := prog_5_method_5_code
def yX3_laneOf : MethodName := ⟨RX3, "laneOf", "(I)I"⟩
abbrev cX3_timeCount : ByteArray := prog_5_method_6_code
def yX3_timeCount : MethodName := ⟨RX3, "timeCount", "()I"⟩
abbrev cX3_placeOf : ByteArray := prog_5_method_7_code
def yX3_placeOf : MethodName := ⟨RX3, "placeOf", "(I)I"⟩
abbrev cX3_pointsIn : ByteArray := prog_5_method_8_code
def yX3_pointsIn : MethodName := ⟨RX3, "pointsIn", "(I)I"⟩
def RX4 : String := "DrumBoats$Roster"
def TX4 : u_T := fun k => match k with
  | 0 => ("DrumBoats$Roster", "size", "I", false)
  | 1 => ("DrumBoats$Roster", "weight", "[I", true)
  | 2 => ("DrumBoats$Roster", "strength", "[I", true)
  | 3 => ("DrumBoats$Roster", "arm", "[I", true)
  | 4 => ("DrumBoats$Roster", "sex", "[I", true)
  | 5 => ("DrumBoats$Roster", "age", "[I", true)
  | _ => ("DrumBoats$Roster", "friendBits", "[J", true)
def tyX4 : Nat → FieldType := fun k => match k with
  | 0 => .int
  | 1 => .array .int
  | 2 => .array .int
  | 3 => .array .int
  | 4 => .array .int
  | 5 => .array .int
  | _ => .array .long
abbrev wsX40 : List Cond := u_ws RX4 TX4 7
theorem nmX4 : ∀ a, a < 7 → ∀ b, b < 7 → a ≠ b → (TX4 a).2.1 ≠ (TX4 b).2.1 := by decide +kernel
theorem tyX4_ok : ∀ k, k < 7 → parseFieldDescriptor (TX4 k).2.2.1 = some (tyX4 k) := by decide +kernel
abbrev cX4_init : ByteArray := prog_6_method_1_code
def yX4_init : MethodName := ⟨RX4, "<init>", "()V"⟩
abbrev cX4_has : ByteArray := prog_6_method_2_code
def yX4_has : MethodName := ⟨RX4, "has", "(I)Z"⟩
abbrev cX4_add : ByteArray := prog_6_method_3_code
def yX4_add : MethodName := ⟨RX4, "add", "(IIIII)I"⟩
abbrev cX4_areFriends : ByteArray := prog_6_method_4_code
def yX4_areFriends : MethodName := ⟨RX4, "areFriends", "(II)Z"⟩
abbrev cX4_setFriends : ByteArray := prog_6_method_5_code
def yX4_setFriends : MethodName := ⟨RX4, "setFriends", "(IIZ)V"⟩
abbrev cX4_maySit : ByteArray := prog_6_method_6_code
def yX4_maySit : MethodName := ⟨RX4, "maySit", "(II)Z"⟩
def RX5 : String := "DrumBoats$Rule"
def TX5 : u_T := fun k => match k with
  | 0 => ("DrumBoats$Rule", "tests", "I", false)
  | 1 => ("DrumBoats$Rule", "negated", "[Z", true)
  | 2 => ("DrumBoats$Rule", "field", "[I", true)
  | 3 => ("DrumBoats$Rule", "sign", "[I", true)
  | 4 => ("DrumBoats$Rule", "number", "[I", true)
  | _ => ("DrumBoats$Rule", "orAhead", "[Z", true)
def tyX5 : Nat → FieldType := fun k => match k with
  | 0 => .int
  | 1 => .array .boolean
  | 2 => .array .int
  | 3 => .array .int
  | 4 => .array .int
  | _ => .array .boolean
abbrev wsX50 : List Cond := u_ws RX5 TX5 6
theorem nmX5 : ∀ a, a < 6 → ∀ b, b < 6 → a ≠ b → (TX5 a).2.1 ≠ (TX5 b).2.1 := by decide +kernel
theorem tyX5_ok : ∀ k, k < 6 → parseFieldDescriptor (TX5 k).2.2.1 = some (tyX5 k) := by decide +kernel
abbrev cX5_init : ByteArray := prog_7_method_1_code
def yX5_init : MethodName := ⟨RX5, "<init>", "()V"⟩
abbrev cX5_holds : ByteArray := prog_7_method_2_code
def yX5_holds : MethodName := ⟨RX5, "holds", "([I)Z"⟩
abbrev cX5_testHolds : ByteArray := prog_7_method_3_code
def yX5_testHolds : MethodName := ⟨RX5, "testHolds", "(II)Z"⟩
def RX6 : String := "DrumBoats$SeatSearch"
def TX6 : u_T := fun k => match k with
  | 0 => ("DrumBoats$SeatSearch", "leastTilt", "I", false)
  | 1 => ("DrumBoats$SeatSearch", "found", "Z", false)
  | 2 => ("DrumBoats$SeatSearch", "seats", "I", false)
  | 3 => ("DrumBoats$SeatSearch", "members", "I", false)
  | 4 => ("DrumBoats$SeatSearch", "weight", "[I", true)
  | 5 => ("DrumBoats$SeatSearch", "strength", "[I", true)
  | 6 => ("DrumBoats$SeatSearch", "arm", "[I", true)
  | 7 => ("DrumBoats$SeatSearch", "friendBits", "[I", true)
  | 8 => ("DrumBoats$SeatSearch", "pitchFactor", "[I", true)
  | 9 => ("DrumBoats$SeatSearch", "middleFactor", "[I", true)
  | 10 => ("DrumBoats$SeatSearch", "chosen", "[I", true)
  | 11 => ("DrumBoats$SeatSearch", "best", "[I", true)
  | 12 => ("DrumBoats$SeatSearch", "leanLow", "[I", true)
  | 13 => ("DrumBoats$SeatSearch", "leanHigh", "[I", true)
  | 14 => ("DrumBoats$SeatSearch", "pitchLow", "[I", true)
  | 15 => ("DrumBoats$SeatSearch", "pitchHigh", "[I", true)
  | _ => ("DrumBoats$SeatSearch", "gainHigh", "[I", true)
def tyX6 : Nat → FieldType := fun k => match k with
  | 0 => .int
  | 1 => .boolean
  | 2 => .int
  | 3 => .int
  | 4 => .array .int
  | 5 => .array .int
  | 6 => .array .int
  | 7 => .array .int
  | 8 => .array .int
  | 9 => .array .int
  | 10 => .array .int
  | 11 => .array .int
  | 12 => .array .int
  | 13 => .array .int
  | 14 => .array .int
  | 15 => .array .int
  | _ => .array .int
abbrev wsX60 : List Cond := u_ws RX6 TX6 17
theorem nmX6 : ∀ a, a < 17 → ∀ b, b < 17 → a ≠ b → (TX6 a).2.1 ≠ (TX6 b).2.1 := by decide +kernel
theorem tyX6_ok : ∀ k, k < 17 → parseFieldDescriptor (TX6 k).2.2.1 = some (tyX6 k) := by decide +kernel
abbrev cX6_init : ByteArray := prog_8_method_1_code
def yX6_init : MethodName := ⟨RX6, "<init>", "()V"⟩
abbrev cX6_find : ByteArray := prog_8_method_2_code
def yX6_find : MethodName := ⟨RX6, "find", "(LDrumBoats$Roster;LDrumBoats$Crew;)Z"⟩
abbrev cX6_copyBestTo : ByteArray := prog_8_method_3_code
def yX6_copyBestTo : MethodName := ⟨RX6, "copyBestTo", "(LDrumBoats$Crew;)V"⟩
abbrev cX6_loadMembers : ByteArray := prog_8_method_4_code
def yX6_loadMembers : MethodName := ⟨RX6, "loadMembers", "(LDrumBoats$Roster;LDrumBoats$Crew;)V"⟩
abbrev cX6_loadBounds : ByteArray := prog_8_method_5_code
def yX6_loadBounds : MethodName := ⟨RX6, "loadBounds", "(LDrumBoats$Crew;)V"⟩
abbrev cX6_fillFrom : ByteArray := prog_8_method_6_code
def yX6_fillFrom : MethodName := ⟨RX6, "fillFrom", "(LDrumBoats$SeatSearch;IIIII)V"⟩
abbrev cX6_gainOf : ByteArray := prog_8_method_7_code
def yX6_gainOf : MethodName := ⟨RX6, "gainOf", "(II)I"⟩
abbrev cX6_leastFrom : ByteArray := prog_8_method_8_code
def yX6_leastFrom : MethodName := ⟨RX6, "leastFrom", "(IIII)I"⟩
abbrev cX6_leastSize : ByteArray := prog_8_method_9_code
def yX6_leastSize : MethodName := ⟨RX6, "leastSize", "(II)I"⟩
abbrev cX6_keepChosen : ByteArray := prog_8_method_10_code
def yX6_keepChosen : MethodName := ⟨RX6, "keepChosen", "(I)V"⟩
def RX7 : String := "DrumBoats$Tape"
def TX7 : u_T := fun k => match k with
  | 0 => ("DrumBoats$Tape", "size", "I", false)
  | 1 => ("DrumBoats$Tape", "at", "I", false)
  | _ => ("DrumBoats$Tape", "bytes", "[I", true)
def tyX7 : Nat → FieldType := fun k => match k with
  | 0 => .int
  | 1 => .int
  | _ => .array .int
abbrev wsX70 : List Cond := u_ws RX7 TX7 3
theorem nmX7 : ∀ a, a < 3 → ∀ b, b < 3 → a ≠ b → (TX7 a).2.1 ≠ (TX7 b).2.1 := by decide +kernel
theorem tyX7_ok : ∀ k, k < 3 → parseFieldDescriptor (TX7 k).2.2.1 = some (tyX7 k) := by decide +kernel
abbrev cX7_init : ByteArray := prog_9_method_1_code
def yX7_init : MethodName := ⟨RX7, "<init>", "()V"⟩
abbrev cX7_append : ByteArray := prog_9_method_2_code
def yX7_append : MethodName := ⟨RX7, "append", "(JI)V"⟩
abbrev cX7_readInto : ByteArray := prog_9_method_3_code
def yX7_readInto : MethodName := ⟨RX7, "readInto", "(LDrumBoats$Rule;)Z"⟩
abbrev cX7_readJoint : ByteArray := prog_9_method_4_code
def yX7_readJoint : MethodName := ⟨RX7, "readJoint", "(LDrumBoats$Rule;I)Z"⟩
abbrev cX7_readTest : ByteArray := prog_9_method_5_code
def yX7_readTest : MethodName := ⟨RX7, "readTest", "(LDrumBoats$Rule;I)Z"⟩
abbrev cX7_readSign : ByteArray := prog_9_method_6_code
def yX7_readSign : MethodName := ⟨RX7, "readSign", "(LDrumBoats$Rule;I)Z"⟩
abbrev cX7_readNumber : ByteArray := prog_9_method_7_code
def yX7_readNumber : MethodName := ⟨RX7, "readNumber", "(LDrumBoats$Rule;I)Z"⟩
abbrev cX7_readBlank : ByteArray := prog_9_method_8_code
def yX7_readBlank : MethodName := ⟨RX7, "readBlank", "()Z"⟩
abbrev cX7_peek : ByteArray := prog_9_method_9_code
def yX7_peek : MethodName := ⟨RX7, "peek", "()I"⟩
abbrev cX7_readWord : ByteArray := prog_9_method_10_code
def yX7_readWord : MethodName := ⟨RX7, "readWord", "(II)I"⟩
abbrev cX7_hasSign : ByteArray := prog_9_method_11_code
def yX7_hasSign : MethodName := ⟨RX7, "hasSign", "(Ljava/lang/String;II)Z"⟩
abbrev cX7_wordOf : ByteArray := prog_9_method_12_code
def yX7_wordOf : MethodName := ⟨RX7, "wordOf", "(I)Ljava/lang/String;"⟩
def RX8 : String := "DrumBoats$Trim"
def TX8 : u_T := fun k => match k with
  | 0 => ("DrumBoats$Trim", "lean", "I", false)
  | 1 => ("DrumBoats$Trim", "pitch", "I", false)
  | 2 => ("DrumBoats$Trim", "middle", "I", false)
  | _ => ("DrumBoats$Trim", "friends", "I", false)
def tyX8 : Nat → FieldType := fun k => match k with
  | 0 => .int
  | 1 => .int
  | 2 => .int
  | _ => .int
abbrev wsX80 : List Cond := u_ws RX8 TX8 4
theorem nmX8 : ∀ a, a < 4 → ∀ b, b < 4 → a ≠ b → (TX8 a).2.1 ≠ (TX8 b).2.1 := by decide +kernel
theorem tyX8_ok : ∀ k, k < 4 → parseFieldDescriptor (TX8 k).2.2.1 = some (tyX8 k) := by decide +kernel
abbrev cX8_init : ByteArray := prog_10_method_1_code
def yX8_init : MethodName := ⟨RX8, "<init>", "()V"⟩
abbrev cX8_weigh : ByteArray := prog_10_method_2_code
def yX8_weigh : MethodName := ⟨RX8, "weigh", "(LDrumBoats$Roster;LDrumBoats$Crew;)V"⟩
abbrev cX8_tilt : ByteArray := prog_10_method_3_code
def yX8_tilt : MethodName := ⟨RX8, "tilt", "()I"⟩
def RX9 : String := "DrumBoats"
def TX9 : u_T := fun k => match k with
  | 0 => ("DrumBoats", "roster", "LDrumBoats$Roster;", true)
  | 1 => ("DrumBoats", "crews", "[LDrumBoats$Crew;", true)
  | 2 => ("DrumBoats", "crewCount", "I", false)
  | 3 => ("DrumBoats", "balance", "LDrumBoats$Trim;", true)
  | 4 => ("DrumBoats", "search", "LDrumBoats$SeatSearch;", true)
  | 5 => ("DrumBoats", "tape", "LDrumBoats$Tape;", true)
  | 6 => ("DrumBoats", "rules", "[LDrumBoats$Rule;", true)
  | 7 => ("DrumBoats", "ruleCount", "I", false)
  | 8 => ("DrumBoats", "tallies", "[I", true)
  | 9 => ("DrumBoats", "restMinutes", "I", false)
  | 10 => ("DrumBoats", "waiting", "[I", true)
  | 11 => ("DrumBoats", "currents", "[I", true)
  | 12 => ("DrumBoats", "races", "[LDrumBoats$Race;", true)
  | 13 => ("DrumBoats", "raceCount", "I", false)
  | 14 => ("DrumBoats", "course", "LDrumBoats$Course;", true)
  | _ => ("DrumBoats", "finals", "LDrumBoats$FinalList;", true)
def tyX9 : Nat → FieldType := fun k => match k with
  | 0 => .object "DrumBoats$Roster"
  | 1 => .array (.object "DrumBoats$Crew")
  | 2 => .int
  | 3 => .object "DrumBoats$Trim"
  | 4 => .object "DrumBoats$SeatSearch"
  | 5 => .object "DrumBoats$Tape"
  | 6 => .array (.object "DrumBoats$Rule")
  | 7 => .int
  | 8 => .array .int
  | 9 => .int
  | 10 => .array .int
  | 11 => .array .int
  | 12 => .array (.object "DrumBoats$Race")
  | 13 => .int
  | 14 => .object "DrumBoats$Course"
  | _ => .object "DrumBoats$FinalList"
abbrev wsX90 : List Cond := u_ws RX9 TX9 16
theorem nmX9 : ∀ a, a < 16 → ∀ b, b < 16 → a ≠ b → (TX9 a).2.1 ≠ (TX9 b).2.1 := by decide +kernel
theorem tyX9_ok : ∀ k, k < 16 → parseFieldDescriptor (TX9 k).2.2.1 = some (tyX9 k) := by decide +kernel
abbrev cX9_init : ByteArray := prog_1_method_1_code
def yX9_init : MethodName := ⟨RX9, "<init>", "()V"⟩
abbrev cX9_paddler : ByteArray := prog_1_method_2_code
def yX9_paddler : MethodName := ⟨RX9, "paddler", "(IIIII)I"⟩
abbrev cX9_like : ByteArray := prog_1_method_3_code
def yX9_like : MethodName := ⟨RX9, "like", "(III)I"⟩
abbrev cX9_crew : ByteArray := prog_1_method_4_code
def yX9_crew : MethodName := ⟨RX9, "crew", "(II)I"⟩
abbrev cX9_join : ByteArray := prog_1_method_5_code
def yX9_join : MethodName := ⟨RX9, "join", "(II)I"⟩
abbrev cX9_beat : ByteArray := prog_1_method_6_code
def yX9_beat : MethodName := ⟨RX9, "beat", "(II)I"⟩
abbrev cX9_seat : ByteArray := prog_1_method_7_code
def yX9_seat : MethodName := ⟨RX9, "seat", "(I)I"⟩
abbrev cX9_sits : ByteArray := prog_1_method_8_code
def yX9_sits : MethodName := ⟨RX9, "sits", "(III)I"⟩
abbrev cX9_trim : ByteArray := prog_1_method_9_code
def yX9_trim : MethodName := ⟨RX9, "trim", "(II)I"⟩
abbrev cX9_change : ByteArray := prog_1_method_10_code
def yX9_change : MethodName := ⟨RX9, "change", "(III)I"⟩
abbrev cX9_feed : ByteArray := prog_1_method_11_code
def yX9_feed : MethodName := ⟨RX9, "feed", "(JI)I"⟩
abbrev cX9_rule : ByteArray := prog_1_method_12_code
def yX9_rule : MethodName := ⟨RX9, "rule", "()I"⟩
abbrev cX9_keeps : ByteArray := prog_1_method_13_code
def yX9_keeps : MethodName := ⟨RX9, "keeps", "(II)I"⟩
abbrev cX9_rest : ByteArray := prog_1_method_14_code
def yX9_rest : MethodName := ⟨RX9, "rest", "(I)I"⟩
abbrev cX9_lane : ByteArray := prog_1_method_15_code
def yX9_lane : MethodName := ⟨RX9, "lane", "(II)I"⟩
abbrev cX9_race : ByteArray := prog_1_method_16_code
def yX9_race : MethodName := ⟨RX9, "race", "(II)I"⟩
abbrev cX9_current : ByteArray := prog_1_method_17_code
def yX9_current : MethodName := ⟨RX9, "current", "(II)I"⟩
abbrev cX9_run : ByteArray := prog_1_method_18_code
def yX9_run : MethodName := ⟨RX9, "run", "(II)I"⟩
abbrev cX9_time : ByteArray := prog_1_method_19_code
def yX9_time : MethodName := ⟨RX9, "time", "(III)I"⟩
abbrev cX9_told : ByteArray := prog_1_method_20_code
def yX9_told : MethodName := ⟨RX9, "told", "(III)I"⟩
abbrev cX9_again : ByteArray := prog_1_method_21_code
def yX9_again : MethodName := ⟨RX9, "again", "(I)I"⟩
abbrev cX9_strike : ByteArray := prog_1_method_22_code
def yX9_strike : MethodName := ⟨RX9, "strike", "(II)I"⟩
abbrev cX9_finalists : ByteArray := prog_1_method_23_code
def yX9_finalists : MethodName := ⟨RX9, "finalists", "(II)I"⟩
abbrev cX9_finalist : ByteArray := prog_1_method_24_code
def yX9_finalist : MethodName := ⟨RX9, "finalist", "(I)I"⟩
abbrev cX9_slack : ByteArray := prog_1_method_25_code
def yX9_slack : MethodName := ⟨RX9, "slack", "()I"⟩
abbrev cX9_level : ByteArray := prog_1_method_26_code
def yX9_level : MethodName := ⟨RX9, "level", "(III)J"⟩
abbrev cX9_points : ByteArray := prog_1_method_27_code
def yX9_points : MethodName := ⟨RX9, "points", "(I)I"⟩
abbrev cX9_table : ByteArray := prog_1_method_28_code
def yX9_table : MethodName := ⟨RX9, "table", "(I)I"⟩
abbrev cX9_count : ByteArray := prog_1_method_29_code
def yX9_count : MethodName := ⟨RX9, "count", "(I)I"⟩
abbrev cX9_within : ByteArray := prog_1_method_30_code
def yX9_within : MethodName := ⟨RX9, "within", "(III)Z"⟩
abbrev cX9_isLane : ByteArray := prog_1_method_31_code
def yX9_isLane : MethodName := ⟨RX9, "isLane", "(I)Z"⟩
abbrev cX9_isCrew : ByteArray := prog_1_method_32_code
def yX9_isCrew : MethodName := ⟨RX9, "isCrew", "(I)Z"⟩
abbrev cX9_isRace : ByteArray := prog_1_method_33_code
def yX9_isRace : MethodName := ⟨RX9, "isRace", "(I)Z"⟩
abbrev cX9_tallySeated : ByteArray := prog_1_method_34_code
def yX9_tallySeated : MethodName := ⟨RX9, "tallySeated", "(LDrumBoats$Crew;)V"⟩
abbrev cX9_howManyWait : ByteArray := prog_1_method_35_code
def yX9_howManyWait : MethodName := ⟨RX9, "howManyWait", "()I"⟩
abbrev cX9_howManyAreSeated : ByteArray := prog_1_method_36_code
def yX9_howManyAreSeated : MethodName := ⟨RX9, "howManyAreSeated", "()I"⟩
abbrev cX9_howManyTimes : ByteArray := prog_1_method_37_code
def yX9_howManyTimes : MethodName := ⟨RX9, "howManyTimes", "()I"⟩
abbrev cX9_isMetByOneOf : ByteArray := prog_1_method_38_code
def yX9_isMetByOneOf : MethodName := ⟨RX9, "isMetByOneOf", "([II)Z"⟩
abbrev cX9_racesMeet : ByteArray := prog_1_method_39_code
def yX9_racesMeet : MethodName := ⟨RX9, "racesMeet", "(LDrumBoats$Race;LDrumBoats$Race;)Z"⟩
abbrev cX9_firstBarring : ByteArray := prog_1_method_40_code
def yX9_firstBarring : MethodName := ⟨RX9, "firstBarring", "(I)I"⟩
abbrev cX9_goDown : ByteArray := prog_1_method_41_code
def yX9_goDown : MethodName := ⟨RX9, "goDown", "(LDrumBoats$Race;II)V"⟩
abbrev cX9_leastTimeIn : ByteArray := prog_1_method_42_code
def yX9_leastTimeIn : MethodName := ⟨RX9, "leastTimeIn", "(II)I"⟩
abbrev cX9_commonDivisor : ByteArray := prog_1_method_43_code
def yX9_commonDivisor : MethodName := ⟨RX9, "commonDivisor", "(JJ)J"⟩
abbrev cX9_pointsOf : ByteArray := prog_1_method_44_code
def yX9_pointsOf : MethodName := ⟨RX9, "pointsOf", "(I)I"⟩
abbrev cX9_crewsAheadOf : ByteArray := prog_1_method_45_code
def yX9_crewsAheadOf : MethodName := ⟨RX9, "crewsAheadOf", "(I)I"⟩
def RX10 : String := "DrumBoatsModel"
def TX10 : u_T := fun k => match k with
  | 0 => ("DrumBoatsModel", "paddlers", "I", false)
  | 1 => ("DrumBoatsModel", "crews", "I", false)
  | 2 => ("DrumBoatsModel", "rules", "I", false)
  | 3 => ("DrumBoatsModel", "races", "I", false)
  | 4 => ("DrumBoatsModel", "tapeN", "I", false)
  | 5 => ("DrumBoatsModel", "rest", "I", false)
  | 6 => ("DrumBoatsModel", "waiting", "I", false)
  | 7 => ("DrumBoatsModel", "finalN", "I", false)
  | 8 => ("DrumBoatsModel", "weight", "[I", true)
  | 9 => ("DrumBoatsModel", "strength", "[I", true)
  | 10 => ("DrumBoatsModel", "arm", "[I", true)
  | 11 => ("DrumBoatsModel", "sex", "[I", true)
  | 12 => ("DrumBoatsModel", "age", "[I", true)
  | 13 => ("DrumBoatsModel", "likes", "[Z", true)
  | 14 => ("DrumBoatsModel", "rows", "[I", true)
  | 15 => ("DrumBoatsModel", "drummer", "[I", true)
  | 16 => ("DrumBoatsModel", "members", "[I", true)
  | 17 => ("DrumBoatsModel", "beat", "[I", true)
  | 18 => ("DrumBoatsModel", "member", "[I", true)
  | 19 => ("DrumBoatsModel", "seated", "[I", true)
  | 20 => ("DrumBoatsModel", "isSeated", "[Z", true)
  | 21 => ("DrumBoatsModel", "tape", "[I", true)
  | 22 => ("DrumBoatsModel", "rTests", "[I", true)
  | 23 => ("DrumBoatsModel", "tField", "[I", true)
  | 24 => ("DrumBoatsModel", "tSign", "[I", true)
  | 25 => ("DrumBoatsModel", "tNumber", "[I", true)
  | 26 => ("DrumBoatsModel", "tNot", "[Z", true)
  | 27 => ("DrumBoatsModel", "tOr", "[Z", true)
  | 28 => ("DrumBoatsModel", "minute", "[I", true)
  | 29 => ("DrumBoatsModel", "round", "[I", true)
  | 30 => ("DrumBoatsModel", "laneCrew", "[I", true)
  | 31 => ("DrumBoatsModel", "laneTime", "[I", true)
  | 32 => ("DrumBoatsModel", "gone", "[I", true)
  | 33 => ("DrumBoatsModel", "struck", "[Z", true)
  | 34 => ("DrumBoatsModel", "wasRun", "[Z", true)
  | 35 => ("DrumBoatsModel", "wait", "[I", true)
  | 36 => ("DrumBoatsModel", "current", "[I", true)
  | 37 => ("DrumBoatsModel", "finals", "[I", true)
  | 38 => ("DrumBoatsModel", "bestTime", "[I", true)
  | 39 => ("DrumBoatsModel", "inFinal", "[Z", true)
  | 40 => ("DrumBoatsModel", "pick", "[I", true)
  | 41 => ("DrumBoatsModel", "found", "[I", true)
  | 42 => ("DrumBoatsModel", "fresh", "[I", true)
  | 43 => ("DrumBoatsModel", "at", "[I", true)
  | 44 => ("DrumBoatsModel", "above", "J", false)
  | 45 => ("DrumBoatsModel", "below", "J", false)
  | 46 => ("DrumBoatsModel", "here", "I", false)
  | _ => ("DrumBoatsModel", "fault", "I", false)
def tyX10 : Nat → FieldType := fun k => match k with
  | 0 => .int
  | 1 => .int
  | 2 => .int
  | 3 => .int
  | 4 => .int
  | 5 => .int
  | 6 => .int
  | 7 => .int
  | 8 => .array .int
  | 9 => .array .int
  | 10 => .array .int
  | 11 => .array .int
  | 12 => .array .int
  | 13 => .array .boolean
  | 14 => .array .int
  | 15 => .array .int
  | 16 => .array .int
  | 17 => .array .int
  | 18 => .array .int
  | 19 => .array .int
  | 20 => .array .boolean
  | 21 => .array .int
  | 22 => .array .int
  | 23 => .array .int
  | 24 => .array .int
  | 25 => .array .int
  | 26 => .array .boolean
  | 27 => .array .boolean
  | 28 => .array .int
  | 29 => .array .int
  | 30 => .array .int
  | 31 => .array .int
  | 32 => .array .int
  | 33 => .array .boolean
  | 34 => .array .boolean
  | 35 => .array .int
  | 36 => .array .int
  | 37 => .array .int
  | 38 => .array .int
  | 39 => .array .boolean
  | 40 => .array .int
  | 41 => .array .int
  | 42 => .array .int
  | 43 => .array .int
  | 44 => .long
  | 45 => .long
  | 46 => .int
  | _ => .int
abbrev wsX100 : List Cond := u_ws RX10 TX10 48
theorem nmX10 : ∀ a, a < 48 → ∀ b, b < 48 → a ≠ b → (TX10 a).2.1 ≠ (TX10 b).2.1 := by decide +kernel
theorem tyX10_ok : ∀ k, k < 48 → parseFieldDescriptor (TX10 k).2.2.1 = some (tyX10 k) := by decide +kernel
abbrev cX10_init : ByteArray := prog_12_method_1_code
def yX10_init : MethodName := ⟨RX10, "<init>", "()V"⟩
abbrev cX10_isPaddler : ByteArray := prog_12_method_2_code
def yX10_isPaddler : MethodName := ⟨RX10, "isPaddler", "(I)Z"⟩
abbrev cX10_isCrew : ByteArray := prog_12_method_3_code
def yX10_isCrew : MethodName := ⟨RX10, "isCrew", "(I)Z"⟩
abbrev cX10_size : ByteArray := prog_12_method_4_code
def yX10_size : MethodName := ⟨RX10, "size", "(I)I"⟩
abbrev cX10_paddler : ByteArray := prog_12_method_5_code
def yX10_paddler : MethodName := ⟨RX10, "paddler", "(IIIII)I"⟩
abbrev cX10_like : ByteArray := prog_12_method_6_code
def yX10_like : MethodName := ⟨RX10, "like", "(III)I"⟩
abbrev cX10_crew : ByteArray := prog_12_method_7_code
def yX10_crew : MethodName := ⟨RX10, "crew", "(II)I"⟩
abbrev cX10_isMember : ByteArray := prog_12_method_8_code
def yX10_isMember : MethodName := ⟨RX10, "isMember", "(II)Z"⟩
abbrev cX10_join : ByteArray := prog_12_method_9_code
def yX10_join : MethodName := ⟨RX10, "join", "(II)I"⟩
abbrev cX10_beat : ByteArray := prog_12_method_10_code
def yX10_beat : MethodName := ⟨RX10, "beat", "(II)I"⟩
abbrev cX10_fits : ByteArray := prog_12_method_11_code
def yX10_fits : MethodName := ⟨RX10, "fits", "(II)Z"⟩
abbrev cX10_trims : ByteArray := prog_12_method_12_code
def yX10_trims : MethodName := ⟨RX10, "trims", "(I[III)I"⟩
abbrev cX10_tilt : ByteArray := prog_12_method_13_code
def yX10_tilt : MethodName := ⟨RX10, "tilt", "(I[II)I"⟩
abbrev cX10_seat : ByteArray := prog_12_method_14_code
def yX10_seat : MethodName := ⟨RX10, "seat", "(I)I"⟩
abbrev cX10_sits : ByteArray := prog_12_method_15_code
def yX10_sits : MethodName := ⟨RX10, "sits", "(III)I"⟩
abbrev cX10_trim : ByteArray := prog_12_method_16_code
def yX10_trim : MethodName := ⟨RX10, "trim", "(II)I"⟩
abbrev cX10_change : ByteArray := prog_12_method_17_code
def yX10_change : MethodName := ⟨RX10, "change", "(III)I"⟩
abbrev cX10_feed : ByteArray := prog_12_method_18_code
def yX10_feed : MethodName := ⟨RX10, "feed", "(JI)I"⟩
abbrev cX10_now : ByteArray := prog_12_method_19_code
def yX10_now : MethodName := ⟨RX10, "now", "()I"⟩
abbrev cX10_expect : ByteArray := prog_12_method_20_code
def yX10_expect : MethodName := ⟨RX10, "expect", "(Ljava/lang/String;)V"⟩
abbrev cX10_test : ByteArray := prog_12_method_21_code
def yX10_test : MethodName := ⟨RX10, "test", "(I)V"⟩
abbrev cX10_rule : ByteArray := prog_12_method_22_code
def yX10_rule : MethodName := ⟨RX10, "rule", "()I"⟩
abbrev cX10_field : ByteArray := prog_12_method_23_code
def yX10_field : MethodName := ⟨RX10, "field", "(II)I"⟩
abbrev cX10_keeps : ByteArray := prog_12_method_24_code
def yX10_keeps : MethodName := ⟨RX10, "keeps", "(II)I"⟩
abbrev cX10_rest : ByteArray := prog_12_method_25_code
def yX10_rest : MethodName := ⟨RX10, "rest", "(I)I"⟩
abbrev cX10_haveCommon : ByteArray := prog_12_method_26_code
def yX10_haveCommon : MethodName := ⟨RX10, "haveCommon", "(II)Z"⟩
abbrev cX10_lane : ByteArray := prog_12_method_27_code
def yX10_lane : MethodName := ⟨RX10, "lane", "(II)I"⟩
abbrev cX10_race : ByteArray := prog_12_method_28_code
def yX10_race : MethodName := ⟨RX10, "race", "(II)I"⟩
abbrev cX10_current : ByteArray := prog_12_method_29_code
def yX10_current : MethodName := ⟨RX10, "current", "(II)I"⟩
abbrev cX10_isRace : ByteArray := prog_12_method_30_code
def yX10_isRace : MethodName := ⟨RX10, "isRace", "(I)Z"⟩
abbrev cX10_goes : ByteArray := prog_12_method_31_code
def yX10_goes : MethodName := ⟨RX10, "goes", "(III)Z"⟩
abbrev cX10_run : ByteArray := prog_12_method_32_code
def yX10_run : MethodName := ⟨RX10, "run", "(II)I"⟩
abbrev cX10_isIn : ByteArray := prog_12_method_33_code
def yX10_isIn : MethodName := ⟨RX10, "isIn", "(II)Z"⟩
abbrev cX10_time : ByteArray := prog_12_method_34_code
def yX10_time : MethodName := ⟨RX10, "time", "(III)I"⟩
abbrev cX10_place : ByteArray := prog_12_method_35_code
def yX10_place : MethodName := ⟨RX10, "place", "(II)I"⟩
abbrev cX10_told : ByteArray := prog_12_method_36_code
def yX10_told : MethodName := ⟨RX10, "told", "(III)I"⟩
abbrev cX10_again : ByteArray := prog_12_method_37_code
def yX10_again : MethodName := ⟨RX10, "again", "(I)I"⟩
abbrev cX10_strike : ByteArray := prog_12_method_38_code
def yX10_strike : MethodName := ⟨RX10, "strike", "(II)I"⟩
abbrev cX10_finalists : ByteArray := prog_12_method_39_code
def yX10_finalists : MethodName := ⟨RX10, "finalists", "(II)I"⟩
abbrev cX10_finalist : ByteArray := prog_12_method_40_code
def yX10_finalist : MethodName := ⟨RX10, "finalist", "(I)I"⟩
abbrev cX10_slack : ByteArray := prog_12_method_41_code
def yX10_slack : MethodName := ⟨RX10, "slack", "()I"⟩
abbrev cX10_leastTime : ByteArray := prog_12_method_42_code
def yX10_leastTime : MethodName := ⟨RX10, "leastTime", "(II)I"⟩
abbrev cX10_level : ByteArray := prog_12_method_43_code
def yX10_level : MethodName := ⟨RX10, "level", "(III)J"⟩
abbrev cX10_worth : ByteArray := prog_12_method_44_code
def yX10_worth : MethodName := ⟨RX10, "worth", "(I)I"⟩
abbrev cX10_pointsOf : ByteArray := prog_12_method_45_code
def yX10_pointsOf : MethodName := ⟨RX10, "pointsOf", "(I)I"⟩
abbrev cX10_points : ByteArray := prog_12_method_46_code
def yX10_points : MethodName := ⟨RX10, "points", "(I)I"⟩
abbrev cX10_table : ByteArray := prog_12_method_47_code
def yX10_table : MethodName := ⟨RX10, "table", "(I)I"⟩
abbrev cX10_count : ByteArray := prog_12_method_48_code
def yX10_count : MethodName := ⟨RX10, "count", "(I)I"⟩
def RJ9 : String := "java/lang/Math"
def TJ9 : u_T := fun k => match k with
  | _ => ("", "", "", false)
def tyJ9 : Nat → FieldType := fun k => match k with
  | _ => .int
abbrev wsJ90 : List Cond := u_ws RJ9 TJ9 0
theorem nmJ9 : ∀ a, a < 0 → ∀ b, b < 0 → a ≠ b → (TJ9 a).2.1 ≠ (TJ9 b).2.1 := by decide +kernel
theorem tyJ9_ok : ∀ k, k < 0 → parseFieldDescriptor (TJ9 k).2.2.1 = some (tyJ9 k) := by decide +kernel
abbrev cJ9_abs_0f7a4 : ByteArray := prog_13_method_59_code
def yJ9_abs_0f7a4 : MethodName := ⟨RJ9, "abs", "(I)I"⟩
abbrev cJ9_abs_067f4 : ByteArray := prog_13_method_61_code
def yJ9_abs_067f4 : MethodName := ⟨RJ9, "abs", "(J)J"⟩
abbrev cJ9_max_7cf53 : ByteArray := prog_13_method_65_code
def yJ9_max_7cf53 : MethodName := ⟨RJ9, "max", "(II)I"⟩
abbrev cJ9_min_7cf53 : ByteArray := prog_13_method_69_code
def yJ9_min_7cf53 : MethodName := ⟨RJ9, "min", "(II)I"⟩
def RJ0 : String := "java/lang/String"
def TJ0 : u_T := fun k => match k with
  | _ => ("", "", "", false)
def tyJ0 : Nat → FieldType := fun k => match k with
  | _ => .int
abbrev wsJ00 : List Cond := u_ws RJ0 TJ0 0
theorem nmJ0 : ∀ a, a < 0 → ∀ b, b < 0 → a ≠ b → (TJ0 a).2.1 ≠ (TJ0 b).2.1 := by decide +kernel
theorem tyJ0_ok : ∀ k, k < 0 → parseFieldDescriptor (TJ0 k).2.2.1 = some (tyJ0 k) := by decide +kernel
abbrev cJ0_length_8abf5 : ByteArray := prog_14_method_54_code
def yJ0_length_8abf5 : MethodName := ⟨RJ0, "length", "()I"⟩
abbrev cJ0_charAt_5068e : ByteArray := prog_14_method_56_code
def yJ0_charAt_5068e : MethodName := ⟨RJ0, "charAt", "(I)C"⟩
abbrev cJ0_coder_7d493 : ByteArray := prog_14_method_152_code
def yJ0_coder_7d493 : MethodName := ⟨RJ0, "coder", "()B"⟩
abbrev cJ0_isLatin1_aae02 : ByteArray := prog_14_method_154_code
def yJ0_isLatin1_aae02 : MethodName := ⟨RJ0, "isLatin1", "()Z"⟩
abbrev cJ0_checkIndex_df160 : ByteArray := prog_14_method_155_code
def yJ0_checkIndex_df160 : MethodName := ⟨RJ0, "checkIndex", "(II)V"⟩
def RJ1 : String := "java/lang/StringLatin1"
def TJ1 : u_T := fun k => match k with
  | _ => ("", "", "", false)
def tyJ1 : Nat → FieldType := fun k => match k with
  | _ => .int
abbrev wsJ10 : List Cond := u_ws RJ1 TJ1 0
theorem nmJ1 : ∀ a, a < 0 → ∀ b, b < 0 → a ≠ b → (TJ1 a).2.1 ≠ (TJ1 b).2.1 := by decide +kernel
theorem tyJ1_ok : ∀ k, k < 0 → parseFieldDescriptor (TJ1 k).2.2.1 = some (tyJ1 k) := by decide +kernel
abbrev cJ1_charAt_3b067 : ByteArray := prog_15_method_2_code
def yJ1_charAt_3b067 : MethodName := ⟨RJ1, "charAt", "([BI)C"⟩
def RJ2 : String := "java/lang/StringUTF16"
def TJ2 : u_T := fun k => match k with
  | _ => ("", "", "", false)
def tyJ2 : Nat → FieldType := fun k => match k with
  | _ => .int
abbrev wsJ20 : List Cond := u_ws RJ2 TJ2 0
theorem nmJ2 : ∀ a, a < 0 → ∀ b, b < 0 → a ≠ b → (TJ2 a).2.1 ≠ (TJ2 b).2.1 := by decide +kernel
theorem tyJ2_ok : ∀ k, k < 0 → parseFieldDescriptor (TJ2 k).2.2.1 = some (tyJ2 k) := by decide +kernel
abbrev cJ2_getChar_3b067 : ByteArray := prog_16_method_5_code
def yJ2_getChar_3b067 : MethodName := ⟨RJ2, "getChar", "([BI)C"⟩
abbrev cJ2_length_9d52b : ByteArray := prog_16_method_6_code
def yJ2_length_9d52b : MethodName := ⟨RJ2, "length", "([B)I"⟩
abbrev cJ2_charAt_3b067 : ByteArray := prog_16_method_83_code
def yJ2_charAt_3b067 : MethodName := ⟨RJ2, "charAt", "([BI)C"⟩
abbrev cJ2_checkIndex_2214a : ByteArray := prog_16_method_91_code
def yJ2_checkIndex_2214a : MethodName := ⟨RJ2, "checkIndex", "(I[B)V"⟩
def RJ3 : String := "jdk/internal/util/Preconditions"
def TJ3 : u_T := fun k => match k with
  | _ => ("", "", "", false)
def tyJ3 : Nat → FieldType := fun k => match k with
  | _ => .int
abbrev wsJ30 : List Cond := u_ws RJ3 TJ3 0
theorem nmJ3 : ∀ a, a < 0 → ∀ b, b < 0 → a ≠ b → (TJ3 a).2.1 ≠ (TJ3 b).2.1 := by decide +kernel
theorem tyJ3_ok : ∀ k, k < 0 → parseFieldDescriptor (TJ3 k).2.2.1 = some (tyJ3 k) := by decide +kernel
abbrev cJ3_checkIndex_8e157 : ByteArray := prog_17_method_11_code
def yJ3_checkIndex_8e157 : MethodName := ⟨RJ3, "checkIndex", "(IILjava/util/function/BiFunction;)I"⟩
def RL : String := "DrumBoatsLaw"
abbrev cL_law : ByteArray := code
def yL_law : MethodName := ⟨RL, "law", "([I)Z"⟩
abbrev vwCl : List vw_C := [(RX0, TX0, 2), (RX1, TX1, 8), (RX2, TX2, 5), (RX3, TX3, 7), (RX4, TX4, 7), (RX5, TX5, 6), (RX6, TX6, 17), (RX7, TX7, 3), (RX8, TX8, 4), (RX9, TX9, 16), (RX10, TX10, 48)]
end
section
def GW : List Cond := lw_tbl.filter goodWord
theorem gw_of {w : Cond} (h : w ∈ lw_tbl) (hg : goodWord w = true) : w ∈ GW := List.mem_filter.mpr ⟨h, hg⟩
theorem gw_tbl {w : Cond} (h : w ∈ GW) : w ∈ lw_tbl := (List.mem_filter.mp h).1
theorem gw_good : GoodIn GW GW := fun w hw => ⟨hw, good_of_word (List.mem_filter.mp hw).2⟩
theorem gw_cons {w : Cond} {ws : List Cond} (h : w ∈ GW) (hs : GoodIn GW ws) : GoodIn GW (w :: ws) := fun v hv => (List.mem_cons.mp hv).elim (fun e => e ▸ gw_good w h) (hs v)
theorem mem_r {big : List Cond} (ws : List Cond) (ps : List Nat) (hp : ws = ps.filterMap (fun i => big[i]?)) : ∀ w ∈ ws, w ∈ big := by
  intro w hw
  rw [hp] at hw
  obtain ⟨i, -, hi⟩ := List.mem_filterMap.mp hw
  exact List.mem_of_getElem? hi
set_option maxRecDepth 100000 in
theorem inlX0 : ∀ w ∈ wsX00, w ∈ lw_tbl := mem_r _ [228, 230] (by decide +kernel)
set_option maxRecDepth 100000 in
theorem inX0 : ∀ w ∈ wsX00, w ∈ GW := fun w h => gw_of (inlX0 w h) (List.all_eq_true.mp (show wsX00.all goodWord = true by decide +kernel) w h)
set_option maxRecDepth 100000 in
theorem inlX1 : ∀ w ∈ wsX10, w ∈ lw_tbl := mem_r _ [285, 287, 289, 291, 293, 295, 297, 299] (by decide +kernel)
set_option maxRecDepth 100000 in
theorem inX1 : ∀ w ∈ wsX10, w ∈ GW := fun w h => gw_of (inlX1 w h) (List.all_eq_true.mp (show wsX10.all goodWord = true by decide +kernel) w h)
set_option maxRecDepth 100000 in
theorem inlX2 : ∀ w ∈ wsX20, w ∈ lw_tbl := mem_r _ [246, 248, 250, 252, 254] (by decide +kernel)
set_option maxRecDepth 100000 in
theorem inX2 : ∀ w ∈ wsX20, w ∈ GW := fun w h => gw_of (inlX2 w h) (List.all_eq_true.mp (show wsX20.all goodWord = true by decide +kernel) w h)
set_option maxRecDepth 100000 in
theorem inlX3 : ∀ w ∈ wsX30, w ∈ lw_tbl := mem_r _ [353, 355, 357, 359, 361, 363, 365] (by decide +kernel)
set_option maxRecDepth 100000 in
theorem inX3 : ∀ w ∈ wsX30, w ∈ GW := fun w h => gw_of (inlX3 w h) (List.all_eq_true.mp (show wsX30.all goodWord = true by decide +kernel) w h)
set_option maxRecDepth 100000 in
theorem inlX4 : ∀ w ∈ wsX40, w ∈ lw_tbl := mem_r _ [95, 97, 99, 101, 103, 105, 107] (by decide +kernel)
set_option maxRecDepth 100000 in
theorem inX4 : ∀ w ∈ wsX40, w ∈ GW := fun w h => gw_of (inlX4 w h) (List.all_eq_true.mp (show wsX40.all goodWord = true by decide +kernel) w h)
set_option maxRecDepth 100000 in
theorem inlX5 : ∀ w ∈ wsX50, w ∈ lw_tbl := mem_r _ [319, 321, 323, 325, 327, 329] (by decide +kernel)
set_option maxRecDepth 100000 in
theorem inX5 : ∀ w ∈ wsX50, w ∈ GW := fun w h => gw_of (inlX5 w h) (List.all_eq_true.mp (show wsX50.all goodWord = true by decide +kernel) w h)
set_option maxRecDepth 100000 in
theorem inlX6 : ∀ w ∈ wsX60, w ∈ lw_tbl := mem_r _ [161, 163, 165, 167, 169, 171, 173, 175, 177, 179, 181, 183, 185, 187, 189, 191, 193] (by decide +kernel)
set_option maxRecDepth 100000 in
theorem inX6 : ∀ w ∈ wsX60, w ∈ GW := fun w h => gw_of (inlX6 w h) (List.all_eq_true.mp (show wsX60.all goodWord = true by decide +kernel) w h)
set_option maxRecDepth 100000 in
theorem inlX7 : ∀ w ∈ wsX70, w ∈ lw_tbl := mem_r _ [207, 209, 211] (by decide +kernel)
set_option maxRecDepth 100000 in
theorem inX7 : ∀ w ∈ wsX70, w ∈ GW := fun w h => gw_of (inlX7 w h) (List.all_eq_true.mp (show wsX70.all goodWord = true by decide +kernel) w h)
set_option maxRecDepth 100000 in
theorem inlX8 : ∀ w ∈ wsX80, w ∈ lw_tbl := mem_r _ [128, 130, 132, 134] (by decide +kernel)
set_option maxRecDepth 100000 in
theorem inX8 : ∀ w ∈ wsX80, w ∈ GW := fun w h => gw_of (inlX8 w h) (List.all_eq_true.mp (show wsX80.all goodWord = true by decide +kernel) w h)
set_option maxRecDepth 100000 in
theorem inlX9 : ∀ w ∈ wsX90, w ∈ lw_tbl := mem_r _ [384, 386, 388, 390, 392, 394, 396, 398, 400, 402, 404, 406, 408, 410, 412, 414] (by decide +kernel)
set_option maxRecDepth 100000 in
theorem inX9 : ∀ w ∈ wsX90, w ∈ GW := fun w h => gw_of (inlX9 w h) (List.all_eq_true.mp (show wsX90.all goodWord = true by decide +kernel) w h)
set_option maxRecDepth 100000 in
theorem inlX10 : ∀ w ∈ wsX100, w ∈ lw_tbl := mem_r _ [934, 936, 938, 940, 942, 944, 946, 948, 950, 952, 954, 956, 958, 960, 962, 964, 966, 968, 970, 972, 974, 976, 978, 980, 982, 984, 986, 988, 990, 992, 994, 996, 998, 1000, 1002, 1004, 1006, 1008, 1010, 1012, 1014, 1016, 1018, 1020, 1022, 1024, 1026, 1028] (by decide +kernel)
set_option maxRecDepth 100000 in
theorem inX10 : ∀ w ∈ wsX100, w ∈ GW := fun w h => gw_of (inlX10 w h) (List.all_eq_true.mp (show wsX100.all goodWord = true by decide +kernel) w h)
end
section
/-- n cells: number i lies at ad i and holds C i -/
def pw (n : Nat) (ad : Nat → Nat) (C : Nat → va_E) : va_W := (List.range n).map (fun i => (ad i, C i))
theorem pw_get {n : Nat} {ad : Nat → Nat} {C : Nat → va_E} {i : Nat} (h : i < n) : (pw n ad C)[i]? = some (ad i, C i) := by simp [pw, h]
theorem pw_len {n : Nat} {ad : Nat → Nat} {C : Nat → va_E} : (pw n ad C).length = n := by simp [pw]
theorem pw_set {n : Nat} {ad : Nat → Nat} {C : Nat → va_E} {i : Nat} {v : va_E} (h : i < n) : (pw n ad C).set i (ad i, v) = pw n ad (va_up C i v) := by
  apply List.ext_getElem?
  intro j
  by_cases hj : j < n
  · by_cases hij : i = j
    · subst hij
      rw [List.getElem?_set_self (by rw [pw_len]; exact h), pw_get h, va_up_self]
    · rw [List.getElem?_set_ne hij, pw_get hj, pw_get hj, va_up_ne _ _ (Ne.symm hij)]
  · rw [List.getElem?_eq_none (by rw [List.length_set, pw_len]; omega), List.getElem?_eq_none (by rw [pw_len]; omega)]
theorem pw_congr {n : Nat} {ad ad2 : Nat → Nat} {C C2 : Nat → va_E} (h : ∀ i, i < n → ad i = ad2 i ∧ C i = C2 i) : pw n ad C = pw n ad2 C2 := by
  apply List.map_congr_left
  intro i hi
  have h1 := h i (List.mem_range.mp hi)
  rw [h1.1, h1.2]
theorem pw_push {n : Nat} {ad : Nat → Nat} {C : Nat → va_E} {q : Nat} {v : va_E} : pw n ad C ++ [(q, v)] = pw (n + 1) (va_up ad n q) (va_up C n v) := by
  rw [pw, pw, List.range_succ, List.map_append]
  congr 1
  · apply List.map_congr_left
    intro i hi
    have h1 := List.mem_range.mp hi
    rw [va_up_ne _ _ (by omega), va_up_ne _ _ (by omega)]
  · simp [va_up_self]
def kd (i : Nat) : Nat := if i < 37 then ([9, 4, 11, 11, 11, 11, 11, 12, 14, 8, 6, 11, 11, 11, 11, 11, 11, 11, 11, 11, 11, 11, 11, 11, 7, 11, 15, 11, 11, 11, 16, 0, 2, 11, 11, 13, 13] : List Nat).getD i 99 else if i < 55 then ([1, 11, 11] : List Nat).getD ((i - 37) % 3) 99 else if i < 91 then ([5, 13, 11, 11, 11, 13] : List Nat).getD ((i - 55) % 6) 99 else if i < 211 then ([3, 11, 11, 11, 13] : List Nat).getD ((i - 91) % 5) 99 else ([10, 11, 11, 11, 11, 11, 13, 11, 11, 11, 11, 11, 11, 13, 11, 11, 11, 11, 11, 13, 13, 11, 11, 11, 11, 11, 13, 13, 11, 11, 11, 11, 13, 11, 11, 11, 11] : List Nat).getD (i - 211) 99
def ln (i : Nat) : Nat := if i < 37 then ([0, 0, 40, 40, 40, 40, 40, 40, 6, 0, 0, 8, 8, 8, 8, 8, 8, 8, 8, 9, 9, 9, 9, 9, 0, 120, 6, 6, 4, 4, 24, 0, 0, 6, 6, 6, 6] : List Nat).getD i 99 else if i < 55 then ([0, 8, 8] : List Nat).getD ((i - 37) % 3) 99 else if i < 91 then ([0, 8, 8, 8, 8, 8] : List Nat).getD ((i - 55) % 6) 99 else if i < 211 then ([0, 4, 4, 4, 4] : List Nat).getD ((i - 91) % 5) 99 else ([0, 40, 40, 40, 40, 40, 1600, 6, 6, 6, 6, 48, 48, 6, 120, 6, 48, 48, 48, 48, 48, 24, 24, 96, 96, 96, 96, 24, 4, 4, 6, 6, 6, 8, 8, 8, 8] : List Nat).getD (i - 211) 99
/-- what cell i holds: x its ints, y its longs -/
def cc (ad : Nat → Nat) (cA : Nat → ClassId) (i : Nat) (x : Nat → Int32) (y : Nat → Int64) : va_E := if kd i = 0 then .inr (0, [.int (x 0), .int (x 1)]) else if kd i = 1 then .inr (1, [.int (x 0), .int (x 1), .int (x 2), .int (x 3), .ref (ad (i + 1)), .long (y 5), .int (x 6), .ref (ad (i + 2))]) else if kd i = 2 then .inr (2, [.int (x 0), .ref (ad (i + 1)), .ref (ad (i + 2)), .ref (ad (i + 3)), .ref (ad (i + 4))]) else if kd i = 3 then .inr (3, [.int (x 0), .int (x 1), .int (x 2), .ref (ad (i + 1)), .ref (ad (i + 2)), .ref (ad (i + 3)), .ref (ad (i + 4))]) else if kd i = 4 then .inr (4, [.int (x 0), .ref (ad (i + 1)), .ref (ad (i + 2)), .ref (ad (i + 3)), .ref (ad (i + 4)), .ref (ad (i + 5)), .ref (ad (i + 6))]) else if kd i = 5 then .inr (5, [.int (x 0), .ref (ad (i + 1)), .ref (ad (i + 2)), .ref (ad (i + 3)), .ref (ad (i + 4)), .ref (ad (i + 5))]) else if kd i = 6 then .inr (6, [.int (x 0), .int (x 1), .int (x 2), .int (x 3), .ref (ad (i + 1)), .ref (ad (i + 2)), .ref (ad (i + 3)), .ref (ad (i + 4)), .ref (ad (i + 5)), .ref (ad (i + 6)), .ref (ad (i + 7)), .ref (ad (i + 8)), .ref (ad (i + 9)), .ref (ad (i + 10)), .ref (ad (i + 11)), .ref (ad (i + 12)), .ref (ad (i + 13))]) else if kd i = 7 then .inr (7, [.int (x 0), .int (x 1), .ref (ad (i + 1))]) else if kd i = 8 then .inr (8, [.int (x 0), .int (x 1), .int (x 2), .int (x 3)]) else if kd i = 9 then .inr (9, [.ref (ad (i + 1)), .ref (ad (i + 8)), .int (x 2), .ref (ad (i + 9)), .ref (ad (i + 10)), .ref (ad (i + 24)), .ref (ad (i + 26)), .int (x 7), .ref (ad (i + 27)), .int (x 9), .ref (ad (i + 28)), .ref (ad (i + 29)), .ref (ad (i + 30)), .int (x 13), .ref (ad (i + 31)), .ref (ad (i + 32))]) else if kd i = 10 then .inr (10, [.int (x 0), .int (x 1), .int (x 2), .int (x 3), .int (x 4), .int (x 5), .int (x 6), .int (x 7), .ref (ad (i + 1)), .ref (ad (i + 2)), .ref (ad (i + 3)), .ref (ad (i + 4)), .ref (ad (i + 5)), .ref (ad (i + 6)), .ref (ad (i + 7)), .ref (ad (i + 8)), .ref (ad (i + 9)), .ref (ad (i + 10)), .ref (ad (i + 11)), .ref (ad (i + 12)), .ref (ad (i + 13)), .ref (ad (i + 14)), .ref (ad (i + 15)), .ref (ad (i + 16)), .ref (ad (i + 17)), .ref (ad (i + 18)), .ref (ad (i + 19)), .ref (ad (i + 20)), .ref (ad (i + 21)), .ref (ad (i + 22)), .ref (ad (i + 23)), .ref (ad (i + 24)), .ref (ad (i + 25)), .ref (ad (i + 26)), .ref (ad (i + 27)), .ref (ad (i + 28)), .ref (ad (i + 29)), .ref (ad (i + 30)), .ref (ad (i + 31)), .ref (ad (i + 32)), .ref (ad (i + 33)), .ref (ad (i + 34)), .ref (ad (i + 35)), .ref (ad (i + 36)), .long (y 44), .long (y 45), .int (x 46), .int (x 47)]) else if kd i = 11 then .inl (cA i, ln i, .inl x) else if kd i = 12 then .inl (cA i, ln i, .inr (.inl y)) else if kd i = 13 then .inl (cA i, ln i, .inl x) else if kd i = 14 then .inl (cA i, ln i, .inr (.inr (.inr (.inr (fun k => if k < 6 then some (ad (37 + 3 * k)) else none))))) else if kd i = 15 then .inl (cA i, ln i, .inr (.inr (.inr (.inr (fun k => if k < 6 then some (ad (55 + 6 * k)) else none))))) else if kd i = 16 then .inl (cA i, ln i, .inr (.inr (.inr (.inr (fun k => if k < 24 then some (ad (91 + 5 * k)) else none))))) else .inr (0, [])
def CC (ad : Nat → Nat) (cA : Nat → ClassId) (d : Nat → Nat → Int32) (dl : Nat → Nat → Int64) : Nat → va_E := fun i => cc ad cA i (d i) (dl i)
def u2 (d : Nat → Nat → Int32) (i j : Nat) (v : Int32) : Nat → Nat → Int32 := fun a => if a = i then upd (d i) j v else d a
def l2 (d : Nat → Nat → Int64) (i j : Nat) (v : Int64) : Nat → Nat → Int64 := fun a => if a = i then vp_updL (d i) j v else d a
theorem u2_eq (d : Nat → Nat → Int32) (i j : Nat) (v : Int32) : u2 d i j v i j = v := by simp [u2, upd]
theorem u2_row {d : Nat → Nat → Int32} {i j a : Nat} {v : Int32} (h : a ≠ i) : u2 d i j v a = d a := by simp [u2, h]
theorem u2_own (d : Nat → Nat → Int32) (i j : Nat) (v : Int32) : u2 d i j v i = upd (d i) j v := by simp [u2]
theorem u2_ne {d : Nat → Nat → Int32} {i j a b : Nat} {v : Int32} (h : a ≠ i ∨ b ≠ j) : u2 d i j v a b = d a b := by
  by_cases ha : a = i
  · subst ha
    rcases h with h | h
    · exact absurd rfl h
    · simp [u2, upd, h]
  · rw [u2_row ha]
theorem l2_eq (d : Nat → Nat → Int64) (i j : Nat) (v : Int64) : l2 d i j v i j = v := by simp [l2, vp_updL]
theorem l2_row {d : Nat → Nat → Int64} {i j a : Nat} {v : Int64} (h : a ≠ i) : l2 d i j v a = d a := by simp [l2, h]
theorem l2_own (d : Nat → Nat → Int64) (i j : Nat) (v : Int64) : l2 d i j v i = vp_updL (d i) j v := by simp [l2]
theorem CC_put {ad : Nat → Nat} {cA : Nat → ClassId} {d : Nat → Nat → Int32} {dl : Nat → Nat → Int64} {i j : Nat} {v : Int32} {e : va_E} (h : e = cc ad cA i (upd (d i) j v) (dl i)) : va_up (CC ad cA d dl) i e = CC ad cA (u2 d i j v) dl := by
  funext a
  by_cases ha : a = i
  · subst ha
    rw [va_up_self, h, CC, u2_own]
  · rw [va_up_ne _ _ ha, CC, CC, u2_row ha]
theorem CC_putl {ad : Nat → Nat} {cA : Nat → ClassId} {d : Nat → Nat → Int32} {dl : Nat → Nat → Int64} {i j : Nat} {v : Int64} {e : va_E} (h : e = cc ad cA i (d i) (vp_updL (dl i) j v)) : va_up (CC ad cA d dl) i e = CC ad cA d (l2 dl i j v) := by
  funext a
  by_cases ha : a = i
  · subst ha
    rw [va_up_self, h, CC, l2_own]
  · rw [va_up_ne _ _ ha, CC, CC, l2_row ha]
theorem cc_0 {ad : Nat → Nat} {cA : Nat → ClassId} {i : Nat} {x : Nat → Int32} {y : Nat → Int64} (h : kd i = 0) : cc ad cA i x y = .inr (0, [.int (x 0), .int (x 1)]) := by simp only [cc, h]; rfl
theorem at_0 {ad : Nat → Nat} {cA : Nat → ClassId} {d : Nat → Nat → Int32} {dl : Nat → Nat → Int64} {n i : Nat} (hi : i < n) (h : kd i = 0) : (pw n ad (CC ad cA d dl))[i]? = some (ad i, .inr (0, [.int (d i 0), .int (d i 1)])) := by rw [pw_get hi, CC, cc_0 h]
theorem cc_1 {ad : Nat → Nat} {cA : Nat → ClassId} {i : Nat} {x : Nat → Int32} {y : Nat → Int64} (h : kd i = 1) : cc ad cA i x y = .inr (1, [.int (x 0), .int (x 1), .int (x 2), .int (x 3), .ref (ad (i + 1)), .long (y 5), .int (x 6), .ref (ad (i + 2))]) := by simp only [cc, h]; rfl
theorem at_1 {ad : Nat → Nat} {cA : Nat → ClassId} {d : Nat → Nat → Int32} {dl : Nat → Nat → Int64} {n i : Nat} (hi : i < n) (h : kd i = 1) : (pw n ad (CC ad cA d dl))[i]? = some (ad i, .inr (1, [.int (d i 0), .int (d i 1), .int (d i 2), .int (d i 3), .ref (ad (i + 1)), .long (dl i 5), .int (d i 6), .ref (ad (i + 2))])) := by rw [pw_get hi, CC, cc_1 h]
theorem cc_2 {ad : Nat → Nat} {cA : Nat → ClassId} {i : Nat} {x : Nat → Int32} {y : Nat → Int64} (h : kd i = 2) : cc ad cA i x y = .inr (2, [.int (x 0), .ref (ad (i + 1)), .ref (ad (i + 2)), .ref (ad (i + 3)), .ref (ad (i + 4))]) := by simp only [cc, h]; rfl
theorem at_2 {ad : Nat → Nat} {cA : Nat → ClassId} {d : Nat → Nat → Int32} {dl : Nat → Nat → Int64} {n i : Nat} (hi : i < n) (h : kd i = 2) : (pw n ad (CC ad cA d dl))[i]? = some (ad i, .inr (2, [.int (d i 0), .ref (ad (i + 1)), .ref (ad (i + 2)), .ref (ad (i + 3)), .ref (ad (i + 4))])) := by rw [pw_get hi, CC, cc_2 h]
theorem cc_3 {ad : Nat → Nat} {cA : Nat → ClassId} {i : Nat} {x : Nat → Int32} {y : Nat → Int64} (h : kd i = 3) : cc ad cA i x y = .inr (3, [.int (x 0), .int (x 1), .int (x 2), .ref (ad (i + 1)), .ref (ad (i + 2)), .ref (ad (i + 3)), .ref (ad (i + 4))]) := by simp only [cc, h]; rfl
theorem at_3 {ad : Nat → Nat} {cA : Nat → ClassId} {d : Nat → Nat → Int32} {dl : Nat → Nat → Int64} {n i : Nat} (hi : i < n) (h : kd i = 3) : (pw n ad (CC ad cA d dl))[i]? = some (ad i, .inr (3, [.int (d i 0), .int (d i 1), .int (d i 2), .ref (ad (i + 1)), .ref (ad (i + 2)), .ref (ad (i + 3)), .ref (ad (i + 4))])) := by rw [pw_get hi, CC, cc_3 h]
theorem cc_4 {ad : Nat → Nat} {cA : Nat → ClassId} {i : Nat} {x : Nat → Int32} {y : Nat → Int64} (h : kd i = 4) : cc ad cA i x y = .inr (4, [.int (x 0), .ref (ad (i + 1)), .ref (ad (i + 2)), .ref (ad (i + 3)), .ref (ad (i + 4)), .ref (ad (i + 5)), .ref (ad (i + 6))]) := by simp only [cc, h]; rfl
theorem at_4 {ad : Nat → Nat} {cA : Nat → ClassId} {d : Nat → Nat → Int32} {dl : Nat → Nat → Int64} {n i : Nat} (hi : i < n) (h : kd i = 4) : (pw n ad (CC ad cA d dl))[i]? = some (ad i, .inr (4, [.int (d i 0), .ref (ad (i + 1)), .ref (ad (i + 2)), .ref (ad (i + 3)), .ref (ad (i + 4)), .ref (ad (i + 5)), .ref (ad (i + 6))])) := by rw [pw_get hi, CC, cc_4 h]
theorem cc_5 {ad : Nat → Nat} {cA : Nat → ClassId} {i : Nat} {x : Nat → Int32} {y : Nat → Int64} (h : kd i = 5) : cc ad cA i x y = .inr (5, [.int (x 0), .ref (ad (i + 1)), .ref (ad (i + 2)), .ref (ad (i + 3)), .ref (ad (i + 4)), .ref (ad (i + 5))]) := by simp only [cc, h]; rfl
theorem at_5 {ad : Nat → Nat} {cA : Nat → ClassId} {d : Nat → Nat → Int32} {dl : Nat → Nat → Int64} {n i : Nat} (hi : i < n) (h : kd i = 5) : (pw n ad (CC ad cA d dl))[i]? = some (ad i, .inr (5, [.int (d i 0), .ref (ad (i + 1)), .ref (ad (i + 2)), .ref (ad (i + 3)), .ref (ad (i + 4)), .ref (ad (i + 5))])) := by rw [pw_get hi, CC, cc_5 h]
theorem cc_6 {ad : Nat → Nat} {cA : Nat → ClassId} {i : Nat} {x : Nat → Int32} {y : Nat → Int64} (h : kd i = 6) : cc ad cA i x y = .inr (6, [.int (x 0), .int (x 1), .int (x 2), .int (x 3), .ref (ad (i + 1)), .ref (ad (i + 2)), .ref (ad (i + 3)), .ref (ad (i + 4)), .ref (ad (i + 5)), .ref (ad (i + 6)), .ref (ad (i + 7)), .ref (ad (i + 8)), .ref (ad (i + 9)), .ref (ad (i + 10)), .ref (ad (i + 11)), .ref (ad (i + 12)), .ref (ad (i + 13))]) := by simp only [cc, h]; rfl
theorem at_6 {ad : Nat → Nat} {cA : Nat → ClassId} {d : Nat → Nat → Int32} {dl : Nat → Nat → Int64} {n i : Nat} (hi : i < n) (h : kd i = 6) : (pw n ad (CC ad cA d dl))[i]? = some (ad i, .inr (6, [.int (d i 0), .int (d i 1), .int (d i 2), .int (d i 3), .ref (ad (i + 1)), .ref (ad (i + 2)), .ref (ad (i + 3)), .ref (ad (i + 4)), .ref (ad (i + 5)), .ref (ad (i + 6)), .ref (ad (i + 7)), .ref (ad (i + 8)), .ref (ad (i + 9)), .ref (ad (i + 10)), .ref (ad (i + 11)), .ref (ad (i + 12)), .ref (ad (i + 13))])) := by rw [pw_get hi, CC, cc_6 h]
theorem cc_7 {ad : Nat → Nat} {cA : Nat → ClassId} {i : Nat} {x : Nat → Int32} {y : Nat → Int64} (h : kd i = 7) : cc ad cA i x y = .inr (7, [.int (x 0), .int (x 1), .ref (ad (i + 1))]) := by simp only [cc, h]; rfl
theorem at_7 {ad : Nat → Nat} {cA : Nat → ClassId} {d : Nat → Nat → Int32} {dl : Nat → Nat → Int64} {n i : Nat} (hi : i < n) (h : kd i = 7) : (pw n ad (CC ad cA d dl))[i]? = some (ad i, .inr (7, [.int (d i 0), .int (d i 1), .ref (ad (i + 1))])) := by rw [pw_get hi, CC, cc_7 h]
theorem cc_8 {ad : Nat → Nat} {cA : Nat → ClassId} {i : Nat} {x : Nat → Int32} {y : Nat → Int64} (h : kd i = 8) : cc ad cA i x y = .inr (8, [.int (x 0), .int (x 1), .int (x 2), .int (x 3)]) := by simp only [cc, h]; rfl
theorem at_8 {ad : Nat → Nat} {cA : Nat → ClassId} {d : Nat → Nat → Int32} {dl : Nat → Nat → Int64} {n i : Nat} (hi : i < n) (h : kd i = 8) : (pw n ad (CC ad cA d dl))[i]? = some (ad i, .inr (8, [.int (d i 0), .int (d i 1), .int (d i 2), .int (d i 3)])) := by rw [pw_get hi, CC, cc_8 h]
theorem cc_9 {ad : Nat → Nat} {cA : Nat → ClassId} {i : Nat} {x : Nat → Int32} {y : Nat → Int64} (h : kd i = 9) : cc ad cA i x y = .inr (9, [.ref (ad (i + 1)), .ref (ad (i + 8)), .int (x 2), .ref (ad (i + 9)), .ref (ad (i + 10)), .ref (ad (i + 24)), .ref (ad (i + 26)), .int (x 7), .ref (ad (i + 27)), .int (x 9), .ref (ad (i + 28)), .ref (ad (i + 29)), .ref (ad (i + 30)), .int (x 13), .ref (ad (i + 31)), .ref (ad (i + 32))]) := by simp only [cc, h]; rfl
theorem at_9 {ad : Nat → Nat} {cA : Nat → ClassId} {d : Nat → Nat → Int32} {dl : Nat → Nat → Int64} {n i : Nat} (hi : i < n) (h : kd i = 9) : (pw n ad (CC ad cA d dl))[i]? = some (ad i, .inr (9, [.ref (ad (i + 1)), .ref (ad (i + 8)), .int (d i 2), .ref (ad (i + 9)), .ref (ad (i + 10)), .ref (ad (i + 24)), .ref (ad (i + 26)), .int (d i 7), .ref (ad (i + 27)), .int (d i 9), .ref (ad (i + 28)), .ref (ad (i + 29)), .ref (ad (i + 30)), .int (d i 13), .ref (ad (i + 31)), .ref (ad (i + 32))])) := by rw [pw_get hi, CC, cc_9 h]
theorem cc_10 {ad : Nat → Nat} {cA : Nat → ClassId} {i : Nat} {x : Nat → Int32} {y : Nat → Int64} (h : kd i = 10) : cc ad cA i x y = .inr (10, [.int (x 0), .int (x 1), .int (x 2), .int (x 3), .int (x 4), .int (x 5), .int (x 6), .int (x 7), .ref (ad (i + 1)), .ref (ad (i + 2)), .ref (ad (i + 3)), .ref (ad (i + 4)), .ref (ad (i + 5)), .ref (ad (i + 6)), .ref (ad (i + 7)), .ref (ad (i + 8)), .ref (ad (i + 9)), .ref (ad (i + 10)), .ref (ad (i + 11)), .ref (ad (i + 12)), .ref (ad (i + 13)), .ref (ad (i + 14)), .ref (ad (i + 15)), .ref (ad (i + 16)), .ref (ad (i + 17)), .ref (ad (i + 18)), .ref (ad (i + 19)), .ref (ad (i + 20)), .ref (ad (i + 21)), .ref (ad (i + 22)), .ref (ad (i + 23)), .ref (ad (i + 24)), .ref (ad (i + 25)), .ref (ad (i + 26)), .ref (ad (i + 27)), .ref (ad (i + 28)), .ref (ad (i + 29)), .ref (ad (i + 30)), .ref (ad (i + 31)), .ref (ad (i + 32)), .ref (ad (i + 33)), .ref (ad (i + 34)), .ref (ad (i + 35)), .ref (ad (i + 36)), .long (y 44), .long (y 45), .int (x 46), .int (x 47)]) := by simp only [cc, h]; rfl
theorem at_10 {ad : Nat → Nat} {cA : Nat → ClassId} {d : Nat → Nat → Int32} {dl : Nat → Nat → Int64} {n i : Nat} (hi : i < n) (h : kd i = 10) : (pw n ad (CC ad cA d dl))[i]? = some (ad i, .inr (10, [.int (d i 0), .int (d i 1), .int (d i 2), .int (d i 3), .int (d i 4), .int (d i 5), .int (d i 6), .int (d i 7), .ref (ad (i + 1)), .ref (ad (i + 2)), .ref (ad (i + 3)), .ref (ad (i + 4)), .ref (ad (i + 5)), .ref (ad (i + 6)), .ref (ad (i + 7)), .ref (ad (i + 8)), .ref (ad (i + 9)), .ref (ad (i + 10)), .ref (ad (i + 11)), .ref (ad (i + 12)), .ref (ad (i + 13)), .ref (ad (i + 14)), .ref (ad (i + 15)), .ref (ad (i + 16)), .ref (ad (i + 17)), .ref (ad (i + 18)), .ref (ad (i + 19)), .ref (ad (i + 20)), .ref (ad (i + 21)), .ref (ad (i + 22)), .ref (ad (i + 23)), .ref (ad (i + 24)), .ref (ad (i + 25)), .ref (ad (i + 26)), .ref (ad (i + 27)), .ref (ad (i + 28)), .ref (ad (i + 29)), .ref (ad (i + 30)), .ref (ad (i + 31)), .ref (ad (i + 32)), .ref (ad (i + 33)), .ref (ad (i + 34)), .ref (ad (i + 35)), .ref (ad (i + 36)), .long (dl i 44), .long (dl i 45), .int (d i 46), .int (d i 47)])) := by rw [pw_get hi, CC, cc_10 h]
theorem cc_11 {ad : Nat → Nat} {cA : Nat → ClassId} {i : Nat} {x : Nat → Int32} {y : Nat → Int64} (h : kd i = 11) : cc ad cA i x y = .inl (cA i, ln i, .inl x) := by simp only [cc, h]; rfl
theorem at_11 {ad : Nat → Nat} {cA : Nat → ClassId} {d : Nat → Nat → Int32} {dl : Nat → Nat → Int64} {n i : Nat} (hi : i < n) (h : kd i = 11) : (pw n ad (CC ad cA d dl))[i]? = some (ad i, .inl (cA i, ln i, .inl (d i))) := by rw [pw_get hi, CC, cc_11 h]
theorem cc_12 {ad : Nat → Nat} {cA : Nat → ClassId} {i : Nat} {x : Nat → Int32} {y : Nat → Int64} (h : kd i = 12) : cc ad cA i x y = .inl (cA i, ln i, .inr (.inl y)) := by simp only [cc, h]; rfl
theorem at_12 {ad : Nat → Nat} {cA : Nat → ClassId} {d : Nat → Nat → Int32} {dl : Nat → Nat → Int64} {n i : Nat} (hi : i < n) (h : kd i = 12) : (pw n ad (CC ad cA d dl))[i]? = some (ad i, .inl (cA i, ln i, .inr (.inl (dl i)))) := by rw [pw_get hi, CC, cc_12 h]
theorem cc_13 {ad : Nat → Nat} {cA : Nat → ClassId} {i : Nat} {x : Nat → Int32} {y : Nat → Int64} (h : kd i = 13) : cc ad cA i x y = .inl (cA i, ln i, .inl x) := by simp only [cc, h]; rfl
theorem at_13 {ad : Nat → Nat} {cA : Nat → ClassId} {d : Nat → Nat → Int32} {dl : Nat → Nat → Int64} {n i : Nat} (hi : i < n) (h : kd i = 13) : (pw n ad (CC ad cA d dl))[i]? = some (ad i, .inl (cA i, ln i, .inl (d i))) := by rw [pw_get hi, CC, cc_13 h]
theorem cc_14 {ad : Nat → Nat} {cA : Nat → ClassId} {i : Nat} {x : Nat → Int32} {y : Nat → Int64} (h : kd i = 14) : cc ad cA i x y = .inl (cA i, ln i, .inr (.inr (.inr (.inr (fun k => if k < 6 then some (ad (37 + 3 * k)) else none))))) := by simp only [cc, h]; rfl
theorem at_14 {ad : Nat → Nat} {cA : Nat → ClassId} {d : Nat → Nat → Int32} {dl : Nat → Nat → Int64} {n i : Nat} (hi : i < n) (h : kd i = 14) : (pw n ad (CC ad cA d dl))[i]? = some (ad i, .inl (cA i, ln i, .inr (.inr (.inr (.inr (fun k => if k < 6 then some (ad (37 + 3 * k)) else none)))))) := by rw [pw_get hi, CC, cc_14 h]
theorem cc_15 {ad : Nat → Nat} {cA : Nat → ClassId} {i : Nat} {x : Nat → Int32} {y : Nat → Int64} (h : kd i = 15) : cc ad cA i x y = .inl (cA i, ln i, .inr (.inr (.inr (.inr (fun k => if k < 6 then some (ad (55 + 6 * k)) else none))))) := by simp only [cc, h]; rfl
theorem at_15 {ad : Nat → Nat} {cA : Nat → ClassId} {d : Nat → Nat → Int32} {dl : Nat → Nat → Int64} {n i : Nat} (hi : i < n) (h : kd i = 15) : (pw n ad (CC ad cA d dl))[i]? = some (ad i, .inl (cA i, ln i, .inr (.inr (.inr (.inr (fun k => if k < 6 then some (ad (55 + 6 * k)) else none)))))) := by rw [pw_get hi, CC, cc_15 h]
theorem cc_16 {ad : Nat → Nat} {cA : Nat → ClassId} {i : Nat} {x : Nat → Int32} {y : Nat → Int64} (h : kd i = 16) : cc ad cA i x y = .inl (cA i, ln i, .inr (.inr (.inr (.inr (fun k => if k < 24 then some (ad (91 + 5 * k)) else none))))) := by simp only [cc, h]; rfl
theorem at_16 {ad : Nat → Nat} {cA : Nat → ClassId} {d : Nat → Nat → Int32} {dl : Nat → Nat → Int64} {n i : Nat} (hi : i < n) (h : kd i = 16) : (pw n ad (CC ad cA d dl))[i]? = some (ad i, .inl (cA i, ln i, .inr (.inr (.inr (.inr (fun k => if k < 24 then some (ad (91 + 5 * k)) else none)))))) := by rw [pw_get hi, CC, cc_16 h]
theorem put_0_0 {ad : Nat → Nat} {cA : Nat → ClassId} {d : Nat → Nat → Int32} {dl : Nat → Nat → Int64} {n i : Nat} (v : Int32) (hi : i < n) (h : kd i = 0) : (pw n ad (CC ad cA d dl)).set i (ad i, .inr (0, [.int (d i 0), .int (d i 1)].set 0 (.int v))) = pw n ad (CC ad cA (u2 d i 0 v) dl) := by rw [pw_set hi, CC_put (j := 0) (v := v)]; rw [cc_0 h]; rfl
theorem put_0_1 {ad : Nat → Nat} {cA : Nat → ClassId} {d : Nat → Nat → Int32} {dl : Nat → Nat → Int64} {n i : Nat} (v : Int32) (hi : i < n) (h : kd i = 0) : (pw n ad (CC ad cA d dl)).set i (ad i, .inr (0, [.int (d i 0), .int (d i 1)].set 1 (.int v))) = pw n ad (CC ad cA (u2 d i 1 v) dl) := by rw [pw_set hi, CC_put (j := 1) (v := v)]; rw [cc_0 h]; rfl
theorem put_1_0 {ad : Nat → Nat} {cA : Nat → ClassId} {d : Nat → Nat → Int32} {dl : Nat → Nat → Int64} {n i : Nat} (v : Int32) (hi : i < n) (h : kd i = 1) : (pw n ad (CC ad cA d dl)).set i (ad i, .inr (1, [.int (d i 0), .int (d i 1), .int (d i 2), .int (d i 3), .ref (ad (i + 1)), .long (dl i 5), .int (d i 6), .ref (ad (i + 2))].set 0 (.int v))) = pw n ad (CC ad cA (u2 d i 0 v) dl) := by rw [pw_set hi, CC_put (j := 0) (v := v)]; rw [cc_1 h]; rfl
theorem put_1_1 {ad : Nat → Nat} {cA : Nat → ClassId} {d : Nat → Nat → Int32} {dl : Nat → Nat → Int64} {n i : Nat} (v : Int32) (hi : i < n) (h : kd i = 1) : (pw n ad (CC ad cA d dl)).set i (ad i, .inr (1, [.int (d i 0), .int (d i 1), .int (d i 2), .int (d i 3), .ref (ad (i + 1)), .long (dl i 5), .int (d i 6), .ref (ad (i + 2))].set 1 (.int v))) = pw n ad (CC ad cA (u2 d i 1 v) dl) := by rw [pw_set hi, CC_put (j := 1) (v := v)]; rw [cc_1 h]; rfl
theorem put_1_2 {ad : Nat → Nat} {cA : Nat → ClassId} {d : Nat → Nat → Int32} {dl : Nat → Nat → Int64} {n i : Nat} (v : Int32) (hi : i < n) (h : kd i = 1) : (pw n ad (CC ad cA d dl)).set i (ad i, .inr (1, [.int (d i 0), .int (d i 1), .int (d i 2), .int (d i 3), .ref (ad (i + 1)), .long (dl i 5), .int (d i 6), .ref (ad (i + 2))].set 2 (.int v))) = pw n ad (CC ad cA (u2 d i 2 v) dl) := by rw [pw_set hi, CC_put (j := 2) (v := v)]; rw [cc_1 h]; rfl
theorem put_1_3 {ad : Nat → Nat} {cA : Nat → ClassId} {d : Nat → Nat → Int32} {dl : Nat → Nat → Int64} {n i : Nat} (v : Int32) (hi : i < n) (h : kd i = 1) : (pw n ad (CC ad cA d dl)).set i (ad i, .inr (1, [.int (d i 0), .int (d i 1), .int (d i 2), .int (d i 3), .ref (ad (i + 1)), .long (dl i 5), .int (d i 6), .ref (ad (i + 2))].set 3 (.int v))) = pw n ad (CC ad cA (u2 d i 3 v) dl) := by rw [pw_set hi, CC_put (j := 3) (v := v)]; rw [cc_1 h]; rfl
theorem put_1_5 {ad : Nat → Nat} {cA : Nat → ClassId} {d : Nat → Nat → Int32} {dl : Nat → Nat → Int64} {n i : Nat} (v : Int64) (hi : i < n) (h : kd i = 1) : (pw n ad (CC ad cA d dl)).set i (ad i, .inr (1, [.int (d i 0), .int (d i 1), .int (d i 2), .int (d i 3), .ref (ad (i + 1)), .long (dl i 5), .int (d i 6), .ref (ad (i + 2))].set 5 (.long v))) = pw n ad (CC ad cA d (l2 dl i 5 v)) := by rw [pw_set hi, CC_putl (j := 5) (v := v)]; rw [cc_1 h]; rfl
theorem put_1_6 {ad : Nat → Nat} {cA : Nat → ClassId} {d : Nat → Nat → Int32} {dl : Nat → Nat → Int64} {n i : Nat} (v : Int32) (hi : i < n) (h : kd i = 1) : (pw n ad (CC ad cA d dl)).set i (ad i, .inr (1, [.int (d i 0), .int (d i 1), .int (d i 2), .int (d i 3), .ref (ad (i + 1)), .long (dl i 5), .int (d i 6), .ref (ad (i + 2))].set 6 (.int v))) = pw n ad (CC ad cA (u2 d i 6 v) dl) := by rw [pw_set hi, CC_put (j := 6) (v := v)]; rw [cc_1 h]; rfl
theorem put_2_0 {ad : Nat → Nat} {cA : Nat → ClassId} {d : Nat → Nat → Int32} {dl : Nat → Nat → Int64} {n i : Nat} (v : Int32) (hi : i < n) (h : kd i = 2) : (pw n ad (CC ad cA d dl)).set i (ad i, .inr (2, [.int (d i 0), .ref (ad (i + 1)), .ref (ad (i + 2)), .ref (ad (i + 3)), .ref (ad (i + 4))].set 0 (.int v))) = pw n ad (CC ad cA (u2 d i 0 v) dl) := by rw [pw_set hi, CC_put (j := 0) (v := v)]; rw [cc_2 h]; rfl
theorem put_3_0 {ad : Nat → Nat} {cA : Nat → ClassId} {d : Nat → Nat → Int32} {dl : Nat → Nat → Int64} {n i : Nat} (v : Int32) (hi : i < n) (h : kd i = 3) : (pw n ad (CC ad cA d dl)).set i (ad i, .inr (3, [.int (d i 0), .int (d i 1), .int (d i 2), .ref (ad (i + 1)), .ref (ad (i + 2)), .ref (ad (i + 3)), .ref (ad (i + 4))].set 0 (.int v))) = pw n ad (CC ad cA (u2 d i 0 v) dl) := by rw [pw_set hi, CC_put (j := 0) (v := v)]; rw [cc_3 h]; rfl
theorem put_3_1 {ad : Nat → Nat} {cA : Nat → ClassId} {d : Nat → Nat → Int32} {dl : Nat → Nat → Int64} {n i : Nat} (v : Int32) (hi : i < n) (h : kd i = 3) : (pw n ad (CC ad cA d dl)).set i (ad i, .inr (3, [.int (d i 0), .int (d i 1), .int (d i 2), .ref (ad (i + 1)), .ref (ad (i + 2)), .ref (ad (i + 3)), .ref (ad (i + 4))].set 1 (.int v))) = pw n ad (CC ad cA (u2 d i 1 v) dl) := by rw [pw_set hi, CC_put (j := 1) (v := v)]; rw [cc_3 h]; rfl
theorem put_3_2 {ad : Nat → Nat} {cA : Nat → ClassId} {d : Nat → Nat → Int32} {dl : Nat → Nat → Int64} {n i : Nat} (v : Int32) (hi : i < n) (h : kd i = 3) : (pw n ad (CC ad cA d dl)).set i (ad i, .inr (3, [.int (d i 0), .int (d i 1), .int (d i 2), .ref (ad (i + 1)), .ref (ad (i + 2)), .ref (ad (i + 3)), .ref (ad (i + 4))].set 2 (.int v))) = pw n ad (CC ad cA (u2 d i 2 v) dl) := by rw [pw_set hi, CC_put (j := 2) (v := v)]; rw [cc_3 h]; rfl
theorem put_4_0 {ad : Nat → Nat} {cA : Nat → ClassId} {d : Nat → Nat → Int32} {dl : Nat → Nat → Int64} {n i : Nat} (v : Int32) (hi : i < n) (h : kd i = 4) : (pw n ad (CC ad cA d dl)).set i (ad i, .inr (4, [.int (d i 0), .ref (ad (i + 1)), .ref (ad (i + 2)), .ref (ad (i + 3)), .ref (ad (i + 4)), .ref (ad (i + 5)), .ref (ad (i + 6))].set 0 (.int v))) = pw n ad (CC ad cA (u2 d i 0 v) dl) := by rw [pw_set hi, CC_put (j := 0) (v := v)]; rw [cc_4 h]; rfl
theorem put_5_0 {ad : Nat → Nat} {cA : Nat → ClassId} {d : Nat → Nat → Int32} {dl : Nat → Nat → Int64} {n i : Nat} (v : Int32) (hi : i < n) (h : kd i = 5) : (pw n ad (CC ad cA d dl)).set i (ad i, .inr (5, [.int (d i 0), .ref (ad (i + 1)), .ref (ad (i + 2)), .ref (ad (i + 3)), .ref (ad (i + 4)), .ref (ad (i + 5))].set 0 (.int v))) = pw n ad (CC ad cA (u2 d i 0 v) dl) := by rw [pw_set hi, CC_put (j := 0) (v := v)]; rw [cc_5 h]; rfl
theorem put_6_0 {ad : Nat → Nat} {cA : Nat → ClassId} {d : Nat → Nat → Int32} {dl : Nat → Nat → Int64} {n i : Nat} (v : Int32) (hi : i < n) (h : kd i = 6) : (pw n ad (CC ad cA d dl)).set i (ad i, .inr (6, [.int (d i 0), .int (d i 1), .int (d i 2), .int (d i 3), .ref (ad (i + 1)), .ref (ad (i + 2)), .ref (ad (i + 3)), .ref (ad (i + 4)), .ref (ad (i + 5)), .ref (ad (i + 6)), .ref (ad (i + 7)), .ref (ad (i + 8)), .ref (ad (i + 9)), .ref (ad (i + 10)), .ref (ad (i + 11)), .ref (ad (i + 12)), .ref (ad (i + 13))].set 0 (.int v))) = pw n ad (CC ad cA (u2 d i 0 v) dl) := by rw [pw_set hi, CC_put (j := 0) (v := v)]; rw [cc_6 h]; rfl
theorem put_6_1 {ad : Nat → Nat} {cA : Nat → ClassId} {d : Nat → Nat → Int32} {dl : Nat → Nat → Int64} {n i : Nat} (v : Int32) (hi : i < n) (h : kd i = 6) : (pw n ad (CC ad cA d dl)).set i (ad i, .inr (6, [.int (d i 0), .int (d i 1), .int (d i 2), .int (d i 3), .ref (ad (i + 1)), .ref (ad (i + 2)), .ref (ad (i + 3)), .ref (ad (i + 4)), .ref (ad (i + 5)), .ref (ad (i + 6)), .ref (ad (i + 7)), .ref (ad (i + 8)), .ref (ad (i + 9)), .ref (ad (i + 10)), .ref (ad (i + 11)), .ref (ad (i + 12)), .ref (ad (i + 13))].set 1 (.int v))) = pw n ad (CC ad cA (u2 d i 1 v) dl) := by rw [pw_set hi, CC_put (j := 1) (v := v)]; rw [cc_6 h]; rfl
theorem put_6_2 {ad : Nat → Nat} {cA : Nat → ClassId} {d : Nat → Nat → Int32} {dl : Nat → Nat → Int64} {n i : Nat} (v : Int32) (hi : i < n) (h : kd i = 6) : (pw n ad (CC ad cA d dl)).set i (ad i, .inr (6, [.int (d i 0), .int (d i 1), .int (d i 2), .int (d i 3), .ref (ad (i + 1)), .ref (ad (i + 2)), .ref (ad (i + 3)), .ref (ad (i + 4)), .ref (ad (i + 5)), .ref (ad (i + 6)), .ref (ad (i + 7)), .ref (ad (i + 8)), .ref (ad (i + 9)), .ref (ad (i + 10)), .ref (ad (i + 11)), .ref (ad (i + 12)), .ref (ad (i + 13))].set 2 (.int v))) = pw n ad (CC ad cA (u2 d i 2 v) dl) := by rw [pw_set hi, CC_put (j := 2) (v := v)]; rw [cc_6 h]; rfl
theorem put_6_3 {ad : Nat → Nat} {cA : Nat → ClassId} {d : Nat → Nat → Int32} {dl : Nat → Nat → Int64} {n i : Nat} (v : Int32) (hi : i < n) (h : kd i = 6) : (pw n ad (CC ad cA d dl)).set i (ad i, .inr (6, [.int (d i 0), .int (d i 1), .int (d i 2), .int (d i 3), .ref (ad (i + 1)), .ref (ad (i + 2)), .ref (ad (i + 3)), .ref (ad (i + 4)), .ref (ad (i + 5)), .ref (ad (i + 6)), .ref (ad (i + 7)), .ref (ad (i + 8)), .ref (ad (i + 9)), .ref (ad (i + 10)), .ref (ad (i + 11)), .ref (ad (i + 12)), .ref (ad (i + 13))].set 3 (.int v))) = pw n ad (CC ad cA (u2 d i 3 v) dl) := by rw [pw_set hi, CC_put (j := 3) (v := v)]; rw [cc_6 h]; rfl
theorem put_7_0 {ad : Nat → Nat} {cA : Nat → ClassId} {d : Nat → Nat → Int32} {dl : Nat → Nat → Int64} {n i : Nat} (v : Int32) (hi : i < n) (h : kd i = 7) : (pw n ad (CC ad cA d dl)).set i (ad i, .inr (7, [.int (d i 0), .int (d i 1), .ref (ad (i + 1))].set 0 (.int v))) = pw n ad (CC ad cA (u2 d i 0 v) dl) := by rw [pw_set hi, CC_put (j := 0) (v := v)]; rw [cc_7 h]; rfl
theorem put_7_1 {ad : Nat → Nat} {cA : Nat → ClassId} {d : Nat → Nat → Int32} {dl : Nat → Nat → Int64} {n i : Nat} (v : Int32) (hi : i < n) (h : kd i = 7) : (pw n ad (CC ad cA d dl)).set i (ad i, .inr (7, [.int (d i 0), .int (d i 1), .ref (ad (i + 1))].set 1 (.int v))) = pw n ad (CC ad cA (u2 d i 1 v) dl) := by rw [pw_set hi, CC_put (j := 1) (v := v)]; rw [cc_7 h]; rfl
theorem put_8_0 {ad : Nat → Nat} {cA : Nat → ClassId} {d : Nat → Nat → Int32} {dl : Nat → Nat → Int64} {n i : Nat} (v : Int32) (hi : i < n) (h : kd i = 8) : (pw n ad (CC ad cA d dl)).set i (ad i, .inr (8, [.int (d i 0), .int (d i 1), .int (d i 2), .int (d i 3)].set 0 (.int v))) = pw n ad (CC ad cA (u2 d i 0 v) dl) := by rw [pw_set hi, CC_put (j := 0) (v := v)]; rw [cc_8 h]; rfl
theorem put_8_1 {ad : Nat → Nat} {cA : Nat → ClassId} {d : Nat → Nat → Int32} {dl : Nat → Nat → Int64} {n i : Nat} (v : Int32) (hi : i < n) (h : kd i = 8) : (pw n ad (CC ad cA d dl)).set i (ad i, .inr (8, [.int (d i 0), .int (d i 1), .int (d i 2), .int (d i 3)].set 1 (.int v))) = pw n ad (CC ad cA (u2 d i 1 v) dl) := by rw [pw_set hi, CC_put (j := 1) (v := v)]; rw [cc_8 h]; rfl
theorem put_8_2 {ad : Nat → Nat} {cA : Nat → ClassId} {d : Nat → Nat → Int32} {dl : Nat → Nat → Int64} {n i : Nat} (v : Int32) (hi : i < n) (h : kd i = 8) : (pw n ad (CC ad cA d dl)).set i (ad i, .inr (8, [.int (d i 0), .int (d i 1), .int (d i 2), .int (d i 3)].set 2 (.int v))) = pw n ad (CC ad cA (u2 d i 2 v) dl) := by rw [pw_set hi, CC_put (j := 2) (v := v)]; rw [cc_8 h]; rfl
theorem put_8_3 {ad : Nat → Nat} {cA : Nat → ClassId} {d : Nat → Nat → Int32} {dl : Nat → Nat → Int64} {n i : Nat} (v : Int32) (hi : i < n) (h : kd i = 8) : (pw n ad (CC ad cA d dl)).set i (ad i, .inr (8, [.int (d i 0), .int (d i 1), .int (d i 2), .int (d i 3)].set 3 (.int v))) = pw n ad (CC ad cA (u2 d i 3 v) dl) := by rw [pw_set hi, CC_put (j := 3) (v := v)]; rw [cc_8 h]; rfl
theorem put_9_2 {ad : Nat → Nat} {cA : Nat → ClassId} {d : Nat → Nat → Int32} {dl : Nat → Nat → Int64} {n i : Nat} (v : Int32) (hi : i < n) (h : kd i = 9) : (pw n ad (CC ad cA d dl)).set i (ad i, .inr (9, [.ref (ad (i + 1)), .ref (ad (i + 8)), .int (d i 2), .ref (ad (i + 9)), .ref (ad (i + 10)), .ref (ad (i + 24)), .ref (ad (i + 26)), .int (d i 7), .ref (ad (i + 27)), .int (d i 9), .ref (ad (i + 28)), .ref (ad (i + 29)), .ref (ad (i + 30)), .int (d i 13), .ref (ad (i + 31)), .ref (ad (i + 32))].set 2 (.int v))) = pw n ad (CC ad cA (u2 d i 2 v) dl) := by rw [pw_set hi, CC_put (j := 2) (v := v)]; rw [cc_9 h]; rfl
theorem put_9_7 {ad : Nat → Nat} {cA : Nat → ClassId} {d : Nat → Nat → Int32} {dl : Nat → Nat → Int64} {n i : Nat} (v : Int32) (hi : i < n) (h : kd i = 9) : (pw n ad (CC ad cA d dl)).set i (ad i, .inr (9, [.ref (ad (i + 1)), .ref (ad (i + 8)), .int (d i 2), .ref (ad (i + 9)), .ref (ad (i + 10)), .ref (ad (i + 24)), .ref (ad (i + 26)), .int (d i 7), .ref (ad (i + 27)), .int (d i 9), .ref (ad (i + 28)), .ref (ad (i + 29)), .ref (ad (i + 30)), .int (d i 13), .ref (ad (i + 31)), .ref (ad (i + 32))].set 7 (.int v))) = pw n ad (CC ad cA (u2 d i 7 v) dl) := by rw [pw_set hi, CC_put (j := 7) (v := v)]; rw [cc_9 h]; rfl
theorem put_9_9 {ad : Nat → Nat} {cA : Nat → ClassId} {d : Nat → Nat → Int32} {dl : Nat → Nat → Int64} {n i : Nat} (v : Int32) (hi : i < n) (h : kd i = 9) : (pw n ad (CC ad cA d dl)).set i (ad i, .inr (9, [.ref (ad (i + 1)), .ref (ad (i + 8)), .int (d i 2), .ref (ad (i + 9)), .ref (ad (i + 10)), .ref (ad (i + 24)), .ref (ad (i + 26)), .int (d i 7), .ref (ad (i + 27)), .int (d i 9), .ref (ad (i + 28)), .ref (ad (i + 29)), .ref (ad (i + 30)), .int (d i 13), .ref (ad (i + 31)), .ref (ad (i + 32))].set 9 (.int v))) = pw n ad (CC ad cA (u2 d i 9 v) dl) := by rw [pw_set hi, CC_put (j := 9) (v := v)]; rw [cc_9 h]; rfl
theorem put_9_13 {ad : Nat → Nat} {cA : Nat → ClassId} {d : Nat → Nat → Int32} {dl : Nat → Nat → Int64} {n i : Nat} (v : Int32) (hi : i < n) (h : kd i = 9) : (pw n ad (CC ad cA d dl)).set i (ad i, .inr (9, [.ref (ad (i + 1)), .ref (ad (i + 8)), .int (d i 2), .ref (ad (i + 9)), .ref (ad (i + 10)), .ref (ad (i + 24)), .ref (ad (i + 26)), .int (d i 7), .ref (ad (i + 27)), .int (d i 9), .ref (ad (i + 28)), .ref (ad (i + 29)), .ref (ad (i + 30)), .int (d i 13), .ref (ad (i + 31)), .ref (ad (i + 32))].set 13 (.int v))) = pw n ad (CC ad cA (u2 d i 13 v) dl) := by rw [pw_set hi, CC_put (j := 13) (v := v)]; rw [cc_9 h]; rfl
theorem put_10_0 {ad : Nat → Nat} {cA : Nat → ClassId} {d : Nat → Nat → Int32} {dl : Nat → Nat → Int64} {n i : Nat} (v : Int32) (hi : i < n) (h : kd i = 10) : (pw n ad (CC ad cA d dl)).set i (ad i, .inr (10, [.int (d i 0), .int (d i 1), .int (d i 2), .int (d i 3), .int (d i 4), .int (d i 5), .int (d i 6), .int (d i 7), .ref (ad (i + 1)), .ref (ad (i + 2)), .ref (ad (i + 3)), .ref (ad (i + 4)), .ref (ad (i + 5)), .ref (ad (i + 6)), .ref (ad (i + 7)), .ref (ad (i + 8)), .ref (ad (i + 9)), .ref (ad (i + 10)), .ref (ad (i + 11)), .ref (ad (i + 12)), .ref (ad (i + 13)), .ref (ad (i + 14)), .ref (ad (i + 15)), .ref (ad (i + 16)), .ref (ad (i + 17)), .ref (ad (i + 18)), .ref (ad (i + 19)), .ref (ad (i + 20)), .ref (ad (i + 21)), .ref (ad (i + 22)), .ref (ad (i + 23)), .ref (ad (i + 24)), .ref (ad (i + 25)), .ref (ad (i + 26)), .ref (ad (i + 27)), .ref (ad (i + 28)), .ref (ad (i + 29)), .ref (ad (i + 30)), .ref (ad (i + 31)), .ref (ad (i + 32)), .ref (ad (i + 33)), .ref (ad (i + 34)), .ref (ad (i + 35)), .ref (ad (i + 36)), .long (dl i 44), .long (dl i 45), .int (d i 46), .int (d i 47)].set 0 (.int v))) = pw n ad (CC ad cA (u2 d i 0 v) dl) := by rw [pw_set hi, CC_put (j := 0) (v := v)]; rw [cc_10 h]; rfl
theorem put_10_1 {ad : Nat → Nat} {cA : Nat → ClassId} {d : Nat → Nat → Int32} {dl : Nat → Nat → Int64} {n i : Nat} (v : Int32) (hi : i < n) (h : kd i = 10) : (pw n ad (CC ad cA d dl)).set i (ad i, .inr (10, [.int (d i 0), .int (d i 1), .int (d i 2), .int (d i 3), .int (d i 4), .int (d i 5), .int (d i 6), .int (d i 7), .ref (ad (i + 1)), .ref (ad (i + 2)), .ref (ad (i + 3)), .ref (ad (i + 4)), .ref (ad (i + 5)), .ref (ad (i + 6)), .ref (ad (i + 7)), .ref (ad (i + 8)), .ref (ad (i + 9)), .ref (ad (i + 10)), .ref (ad (i + 11)), .ref (ad (i + 12)), .ref (ad (i + 13)), .ref (ad (i + 14)), .ref (ad (i + 15)), .ref (ad (i + 16)), .ref (ad (i + 17)), .ref (ad (i + 18)), .ref (ad (i + 19)), .ref (ad (i + 20)), .ref (ad (i + 21)), .ref (ad (i + 22)), .ref (ad (i + 23)), .ref (ad (i + 24)), .ref (ad (i + 25)), .ref (ad (i + 26)), .ref (ad (i + 27)), .ref (ad (i + 28)), .ref (ad (i + 29)), .ref (ad (i + 30)), .ref (ad (i + 31)), .ref (ad (i + 32)), .ref (ad (i + 33)), .ref (ad (i + 34)), .ref (ad (i + 35)), .ref (ad (i + 36)), .long (dl i 44), .long (dl i 45), .int (d i 46), .int (d i 47)].set 1 (.int v))) = pw n ad (CC ad cA (u2 d i 1 v) dl) := by rw [pw_set hi, CC_put (j := 1) (v := v)]; rw [cc_10 h]; rfl
theorem put_10_2 {ad : Nat → Nat} {cA : Nat → ClassId} {d : Nat → Nat → Int32} {dl : Nat → Nat → Int64} {n i : Nat} (v : Int32) (hi : i < n) (h : kd i = 10) : (pw n ad (CC ad cA d dl)).set i (ad i, .inr (10, [.int (d i 0), .int (d i 1), .int (d i 2), .int (d i 3), .int (d i 4), .int (d i 5), .int (d i 6), .int (d i 7), .ref (ad (i + 1)), .ref (ad (i + 2)), .ref (ad (i + 3)), .ref (ad (i + 4)), .ref (ad (i + 5)), .ref (ad (i + 6)), .ref (ad (i + 7)), .ref (ad (i + 8)), .ref (ad (i + 9)), .ref (ad (i + 10)), .ref (ad (i + 11)), .ref (ad (i + 12)), .ref (ad (i + 13)), .ref (ad (i + 14)), .ref (ad (i + 15)), .ref (ad (i + 16)), .ref (ad (i + 17)), .ref (ad (i + 18)), .ref (ad (i + 19)), .ref (ad (i + 20)), .ref (ad (i + 21)), .ref (ad (i + 22)), .ref (ad (i + 23)), .ref (ad (i + 24)), .ref (ad (i + 25)), .ref (ad (i + 26)), .ref (ad (i + 27)), .ref (ad (i + 28)), .ref (ad (i + 29)), .ref (ad (i + 30)), .ref (ad (i + 31)), .ref (ad (i + 32)), .ref (ad (i + 33)), .ref (ad (i + 34)), .ref (ad (i + 35)), .ref (ad (i + 36)), .long (dl i 44), .long (dl i 45), .int (d i 46), .int (d i 47)].set 2 (.int v))) = pw n ad (CC ad cA (u2 d i 2 v) dl) := by rw [pw_set hi, CC_put (j := 2) (v := v)]; rw [cc_10 h]; rfl
theorem put_10_3 {ad : Nat → Nat} {cA : Nat → ClassId} {d : Nat → Nat → Int32} {dl : Nat → Nat → Int64} {n i : Nat} (v : Int32) (hi : i < n) (h : kd i = 10) : (pw n ad (CC ad cA d dl)).set i (ad i, .inr (10, [.int (d i 0), .int (d i 1), .int (d i 2), .int (d i 3), .int (d i 4), .int (d i 5), .int (d i 6), .int (d i 7), .ref (ad (i + 1)), .ref (ad (i + 2)), .ref (ad (i + 3)), .ref (ad (i + 4)), .ref (ad (i + 5)), .ref (ad (i + 6)), .ref (ad (i + 7)), .ref (ad (i + 8)), .ref (ad (i + 9)), .ref (ad (i + 10)), .ref (ad (i + 11)), .ref (ad (i + 12)), .ref (ad (i + 13)), .ref (ad (i + 14)), .ref (ad (i + 15)), .ref (ad (i + 16)), .ref (ad (i + 17)), .ref (ad (i + 18)), .ref (ad (i + 19)), .ref (ad (i + 20)), .ref (ad (i + 21)), .ref (ad (i + 22)), .ref (ad (i + 23)), .ref (ad (i + 24)), .ref (ad (i + 25)), .ref (ad (i + 26)), .ref (ad (i + 27)), .ref (ad (i + 28)), .ref (ad (i + 29)), .ref (ad (i + 30)), .ref (ad (i + 31)), .ref (ad (i + 32)), .ref (ad (i + 33)), .ref (ad (i + 34)), .ref (ad (i + 35)), .ref (ad (i + 36)), .long (dl i 44), .long (dl i 45), .int (d i 46), .int (d i 47)].set 3 (.int v))) = pw n ad (CC ad cA (u2 d i 3 v) dl) := by rw [pw_set hi, CC_put (j := 3) (v := v)]; rw [cc_10 h]; rfl
theorem put_10_4 {ad : Nat → Nat} {cA : Nat → ClassId} {d : Nat → Nat → Int32} {dl : Nat → Nat → Int64} {n i : Nat} (v : Int32) (hi : i < n) (h : kd i = 10) : (pw n ad (CC ad cA d dl)).set i (ad i, .inr (10, [.int (d i 0), .int (d i 1), .int (d i 2), .int (d i 3), .int (d i 4), .int (d i 5), .int (d i 6), .int (d i 7), .ref (ad (i + 1)), .ref (ad (i + 2)), .ref (ad (i + 3)), .ref (ad (i + 4)), .ref (ad (i + 5)), .ref (ad (i + 6)), .ref (ad (i + 7)), .ref (ad (i + 8)), .ref (ad (i + 9)), .ref (ad (i + 10)), .ref (ad (i + 11)), .ref (ad (i + 12)), .ref (ad (i + 13)), .ref (ad (i + 14)), .ref (ad (i + 15)), .ref (ad (i + 16)), .ref (ad (i + 17)), .ref (ad (i + 18)), .ref (ad (i + 19)), .ref (ad (i + 20)), .ref (ad (i + 21)), .ref (ad (i + 22)), .ref (ad (i + 23)), .ref (ad (i + 24)), .ref (ad (i + 25)), .ref (ad (i + 26)), .ref (ad (i + 27)), .ref (ad (i + 28)), .ref (ad (i + 29)), .ref (ad (i + 30)), .ref (ad (i + 31)), .ref (ad (i + 32)), .ref (ad (i + 33)), .ref (ad (i + 34)), .ref (ad (i + 35)), .ref (ad (i + 36)), .long (dl i 44), .long (dl i 45), .int (d i 46), .int (d i 47)].set 4 (.int v))) = pw n ad (CC ad cA (u2 d i 4 v) dl) := by rw [pw_set hi, CC_put (j := 4) (v := v)]; rw [cc_10 h]; rfl
theorem put_10_5 {ad : Nat → Nat} {cA : Nat → ClassId} {d : Nat → Nat → Int32} {dl : Nat → Nat → Int64} {n i : Nat} (v : Int32) (hi : i < n) (h : kd i = 10) : (pw n ad (CC ad cA d dl)).set i (ad i, .inr (10, [.int (d i 0), .int (d i 1), .int (d i 2), .int (d i 3), .int (d i 4), .int (d i 5), .int (d i 6), .int (d i 7), .ref (ad (i + 1)), .ref (ad (i + 2)), .ref (ad (i + 3)), .ref (ad (i + 4)), .ref (ad (i + 5)), .ref (ad (i + 6)), .ref (ad (i + 7)), .ref (ad (i + 8)), .ref (ad (i + 9)), .ref (ad (i + 10)), .ref (ad (i + 11)), .ref (ad (i + 12)), .ref (ad (i + 13)), .ref (ad (i + 14)), .ref (ad (i + 15)), .ref (ad (i + 16)), .ref (ad (i + 17)), .ref (ad (i + 18)), .ref (ad (i + 19)), .ref (ad (i + 20)), .ref (ad (i + 21)), .ref (ad (i + 22)), .ref (ad (i + 23)), .ref (ad (i + 24)), .ref (ad (i + 25)), .ref (ad (i + 26)), .ref (ad (i + 27)), .ref (ad (i + 28)), .ref (ad (i + 29)), .ref (ad (i + 30)), .ref (ad (i + 31)), .ref (ad (i + 32)), .ref (ad (i + 33)), .ref (ad (i + 34)), .ref (ad (i + 35)), .ref (ad (i + 36)), .long (dl i 44), .long (dl i 45), .int (d i 46), .int (d i 47)].set 5 (.int v))) = pw n ad (CC ad cA (u2 d i 5 v) dl) := by rw [pw_set hi, CC_put (j := 5) (v := v)]; rw [cc_10 h]; rfl
theorem put_10_6 {ad : Nat → Nat} {cA : Nat → ClassId} {d : Nat → Nat → Int32} {dl : Nat → Nat → Int64} {n i : Nat} (v : Int32) (hi : i < n) (h : kd i = 10) : (pw n ad (CC ad cA d dl)).set i (ad i, .inr (10, [.int (d i 0), .int (d i 1), .int (d i 2), .int (d i 3), .int (d i 4), .int (d i 5), .int (d i 6), .int (d i 7), .ref (ad (i + 1)), .ref (ad (i + 2)), .ref (ad (i + 3)), .ref (ad (i + 4)), .ref (ad (i + 5)), .ref (ad (i + 6)), .ref (ad (i + 7)), .ref (ad (i + 8)), .ref (ad (i + 9)), .ref (ad (i + 10)), .ref (ad (i + 11)), .ref (ad (i + 12)), .ref (ad (i + 13)), .ref (ad (i + 14)), .ref (ad (i + 15)), .ref (ad (i + 16)), .ref (ad (i + 17)), .ref (ad (i + 18)), .ref (ad (i + 19)), .ref (ad (i + 20)), .ref (ad (i + 21)), .ref (ad (i + 22)), .ref (ad (i + 23)), .ref (ad (i + 24)), .ref (ad (i + 25)), .ref (ad (i + 26)), .ref (ad (i + 27)), .ref (ad (i + 28)), .ref (ad (i + 29)), .ref (ad (i + 30)), .ref (ad (i + 31)), .ref (ad (i + 32)), .ref (ad (i + 33)), .ref (ad (i + 34)), .ref (ad (i + 35)), .ref (ad (i + 36)), .long (dl i 44), .long (dl i 45), .int (d i 46), .int (d i 47)].set 6 (.int v))) = pw n ad (CC ad cA (u2 d i 6 v) dl) := by rw [pw_set hi, CC_put (j := 6) (v := v)]; rw [cc_10 h]; rfl
theorem put_10_7 {ad : Nat → Nat} {cA : Nat → ClassId} {d : Nat → Nat → Int32} {dl : Nat → Nat → Int64} {n i : Nat} (v : Int32) (hi : i < n) (h : kd i = 10) : (pw n ad (CC ad cA d dl)).set i (ad i, .inr (10, [.int (d i 0), .int (d i 1), .int (d i 2), .int (d i 3), .int (d i 4), .int (d i 5), .int (d i 6), .int (d i 7), .ref (ad (i + 1)), .ref (ad (i + 2)), .ref (ad (i + 3)), .ref (ad (i + 4)), .ref (ad (i + 5)), .ref (ad (i + 6)), .ref (ad (i + 7)), .ref (ad (i + 8)), .ref (ad (i + 9)), .ref (ad (i + 10)), .ref (ad (i + 11)), .ref (ad (i + 12)), .ref (ad (i + 13)), .ref (ad (i + 14)), .ref (ad (i + 15)), .ref (ad (i + 16)), .ref (ad (i + 17)), .ref (ad (i + 18)), .ref (ad (i + 19)), .ref (ad (i + 20)), .ref (ad (i + 21)), .ref (ad (i + 22)), .ref (ad (i + 23)), .ref (ad (i + 24)), .ref (ad (i + 25)), .ref (ad (i + 26)), .ref (ad (i + 27)), .ref (ad (i + 28)), .ref (ad (i + 29)), .ref (ad (i + 30)), .ref (ad (i + 31)), .ref (ad (i + 32)), .ref (ad (i + 33)), .ref (ad (i + 34)), .ref (ad (i + 35)), .ref (ad (i + 36)), .long (dl i 44), .long (dl i 45), .int (d i 46), .int (d i 47)].set 7 (.int v))) = pw n ad (CC ad cA (u2 d i 7 v) dl) := by rw [pw_set hi, CC_put (j := 7) (v := v)]; rw [cc_10 h]; rfl
theorem put_10_44 {ad : Nat → Nat} {cA : Nat → ClassId} {d : Nat → Nat → Int32} {dl : Nat → Nat → Int64} {n i : Nat} (v : Int64) (hi : i < n) (h : kd i = 10) : (pw n ad (CC ad cA d dl)).set i (ad i, .inr (10, [.int (d i 0), .int (d i 1), .int (d i 2), .int (d i 3), .int (d i 4), .int (d i 5), .int (d i 6), .int (d i 7), .ref (ad (i + 1)), .ref (ad (i + 2)), .ref (ad (i + 3)), .ref (ad (i + 4)), .ref (ad (i + 5)), .ref (ad (i + 6)), .ref (ad (i + 7)), .ref (ad (i + 8)), .ref (ad (i + 9)), .ref (ad (i + 10)), .ref (ad (i + 11)), .ref (ad (i + 12)), .ref (ad (i + 13)), .ref (ad (i + 14)), .ref (ad (i + 15)), .ref (ad (i + 16)), .ref (ad (i + 17)), .ref (ad (i + 18)), .ref (ad (i + 19)), .ref (ad (i + 20)), .ref (ad (i + 21)), .ref (ad (i + 22)), .ref (ad (i + 23)), .ref (ad (i + 24)), .ref (ad (i + 25)), .ref (ad (i + 26)), .ref (ad (i + 27)), .ref (ad (i + 28)), .ref (ad (i + 29)), .ref (ad (i + 30)), .ref (ad (i + 31)), .ref (ad (i + 32)), .ref (ad (i + 33)), .ref (ad (i + 34)), .ref (ad (i + 35)), .ref (ad (i + 36)), .long (dl i 44), .long (dl i 45), .int (d i 46), .int (d i 47)].set 44 (.long v))) = pw n ad (CC ad cA d (l2 dl i 44 v)) := by rw [pw_set hi, CC_putl (j := 44) (v := v)]; rw [cc_10 h]; rfl
theorem put_10_45 {ad : Nat → Nat} {cA : Nat → ClassId} {d : Nat → Nat → Int32} {dl : Nat → Nat → Int64} {n i : Nat} (v : Int64) (hi : i < n) (h : kd i = 10) : (pw n ad (CC ad cA d dl)).set i (ad i, .inr (10, [.int (d i 0), .int (d i 1), .int (d i 2), .int (d i 3), .int (d i 4), .int (d i 5), .int (d i 6), .int (d i 7), .ref (ad (i + 1)), .ref (ad (i + 2)), .ref (ad (i + 3)), .ref (ad (i + 4)), .ref (ad (i + 5)), .ref (ad (i + 6)), .ref (ad (i + 7)), .ref (ad (i + 8)), .ref (ad (i + 9)), .ref (ad (i + 10)), .ref (ad (i + 11)), .ref (ad (i + 12)), .ref (ad (i + 13)), .ref (ad (i + 14)), .ref (ad (i + 15)), .ref (ad (i + 16)), .ref (ad (i + 17)), .ref (ad (i + 18)), .ref (ad (i + 19)), .ref (ad (i + 20)), .ref (ad (i + 21)), .ref (ad (i + 22)), .ref (ad (i + 23)), .ref (ad (i + 24)), .ref (ad (i + 25)), .ref (ad (i + 26)), .ref (ad (i + 27)), .ref (ad (i + 28)), .ref (ad (i + 29)), .ref (ad (i + 30)), .ref (ad (i + 31)), .ref (ad (i + 32)), .ref (ad (i + 33)), .ref (ad (i + 34)), .ref (ad (i + 35)), .ref (ad (i + 36)), .long (dl i 44), .long (dl i 45), .int (d i 46), .int (d i 47)].set 45 (.long v))) = pw n ad (CC ad cA d (l2 dl i 45 v)) := by rw [pw_set hi, CC_putl (j := 45) (v := v)]; rw [cc_10 h]; rfl
theorem put_10_46 {ad : Nat → Nat} {cA : Nat → ClassId} {d : Nat → Nat → Int32} {dl : Nat → Nat → Int64} {n i : Nat} (v : Int32) (hi : i < n) (h : kd i = 10) : (pw n ad (CC ad cA d dl)).set i (ad i, .inr (10, [.int (d i 0), .int (d i 1), .int (d i 2), .int (d i 3), .int (d i 4), .int (d i 5), .int (d i 6), .int (d i 7), .ref (ad (i + 1)), .ref (ad (i + 2)), .ref (ad (i + 3)), .ref (ad (i + 4)), .ref (ad (i + 5)), .ref (ad (i + 6)), .ref (ad (i + 7)), .ref (ad (i + 8)), .ref (ad (i + 9)), .ref (ad (i + 10)), .ref (ad (i + 11)), .ref (ad (i + 12)), .ref (ad (i + 13)), .ref (ad (i + 14)), .ref (ad (i + 15)), .ref (ad (i + 16)), .ref (ad (i + 17)), .ref (ad (i + 18)), .ref (ad (i + 19)), .ref (ad (i + 20)), .ref (ad (i + 21)), .ref (ad (i + 22)), .ref (ad (i + 23)), .ref (ad (i + 24)), .ref (ad (i + 25)), .ref (ad (i + 26)), .ref (ad (i + 27)), .ref (ad (i + 28)), .ref (ad (i + 29)), .ref (ad (i + 30)), .ref (ad (i + 31)), .ref (ad (i + 32)), .ref (ad (i + 33)), .ref (ad (i + 34)), .ref (ad (i + 35)), .ref (ad (i + 36)), .long (dl i 44), .long (dl i 45), .int (d i 46), .int (d i 47)].set 46 (.int v))) = pw n ad (CC ad cA (u2 d i 46 v) dl) := by rw [pw_set hi, CC_put (j := 46) (v := v)]; rw [cc_10 h]; rfl
theorem put_10_47 {ad : Nat → Nat} {cA : Nat → ClassId} {d : Nat → Nat → Int32} {dl : Nat → Nat → Int64} {n i : Nat} (v : Int32) (hi : i < n) (h : kd i = 10) : (pw n ad (CC ad cA d dl)).set i (ad i, .inr (10, [.int (d i 0), .int (d i 1), .int (d i 2), .int (d i 3), .int (d i 4), .int (d i 5), .int (d i 6), .int (d i 7), .ref (ad (i + 1)), .ref (ad (i + 2)), .ref (ad (i + 3)), .ref (ad (i + 4)), .ref (ad (i + 5)), .ref (ad (i + 6)), .ref (ad (i + 7)), .ref (ad (i + 8)), .ref (ad (i + 9)), .ref (ad (i + 10)), .ref (ad (i + 11)), .ref (ad (i + 12)), .ref (ad (i + 13)), .ref (ad (i + 14)), .ref (ad (i + 15)), .ref (ad (i + 16)), .ref (ad (i + 17)), .ref (ad (i + 18)), .ref (ad (i + 19)), .ref (ad (i + 20)), .ref (ad (i + 21)), .ref (ad (i + 22)), .ref (ad (i + 23)), .ref (ad (i + 24)), .ref (ad (i + 25)), .ref (ad (i + 26)), .ref (ad (i + 27)), .ref (ad (i + 28)), .ref (ad (i + 29)), .ref (ad (i + 30)), .ref (ad (i + 31)), .ref (ad (i + 32)), .ref (ad (i + 33)), .ref (ad (i + 34)), .ref (ad (i + 35)), .ref (ad (i + 36)), .long (dl i 44), .long (dl i 45), .int (d i 46), .int (d i 47)].set 47 (.int v))) = pw n ad (CC ad cA (u2 d i 47 v) dl) := by rw [pw_set hi, CC_put (j := 47) (v := v)]; rw [cc_10 h]; rfl
theorem put_11 {ad : Nat → Nat} {cA : Nat → ClassId} {d : Nat → Nat → Int32} {dl : Nat → Nat → Int64} {n i : Nat} (j : Nat) (v : Int32) (hi : i < n) (h : kd i = 11) : (pw n ad (CC ad cA d dl)).set i (ad i, .inl (cA i, ln i, .inl (upd (d i) j v))) = pw n ad (CC ad cA (u2 d i j v) dl) := by rw [pw_set hi, CC_put (j := j) (v := v)]; rw [cc_11 h]
theorem put_13 {ad : Nat → Nat} {cA : Nat → ClassId} {d : Nat → Nat → Int32} {dl : Nat → Nat → Int64} {n i : Nat} (j : Nat) (v : Int32) (hi : i < n) (h : kd i = 13) : (pw n ad (CC ad cA d dl)).set i (ad i, .inl (cA i, ln i, .inl (upd (d i) j v))) = pw n ad (CC ad cA (u2 d i j v) dl) := by rw [pw_set hi, CC_put (j := j) (v := v)]; rw [cc_13 h]
theorem put_12 {ad : Nat → Nat} {cA : Nat → ClassId} {d : Nat → Nat → Int32} {dl : Nat → Nat → Int64} {n i : Nat} (j : Nat) (v : Int64) (hi : i < n) (h : kd i = 12) : (pw n ad (CC ad cA d dl)).set i (ad i, .inl (cA i, ln i, .inr (.inl (vp_updL (dl i) j v)))) = pw n ad (CC ad cA d (l2 dl i j v)) := by rw [pw_set hi, CC_putl (j := j) (v := v)]; rw [cc_12 h]
theorem kd_crew_0 : ∀ k, k < 6 → kd (37 + 3 * k) = 1 ∧ ln (37 + 3 * k) = 0 := by decide
theorem kd_crew_1 : ∀ k, k < 6 → kd (38 + 3 * k) = 11 ∧ ln (38 + 3 * k) = 8 := by decide
theorem kd_crew_2 : ∀ k, k < 6 → kd (39 + 3 * k) = 11 ∧ ln (39 + 3 * k) = 8 := by decide
theorem kd_rule_0 : ∀ k, k < 6 → kd (55 + 6 * k) = 5 ∧ ln (55 + 6 * k) = 0 := by decide
theorem kd_rule_1 : ∀ k, k < 6 → kd (56 + 6 * k) = 13 ∧ ln (56 + 6 * k) = 8 := by decide
theorem kd_rule_2 : ∀ k, k < 6 → kd (57 + 6 * k) = 11 ∧ ln (57 + 6 * k) = 8 := by decide
theorem kd_rule_3 : ∀ k, k < 6 → kd (58 + 6 * k) = 11 ∧ ln (58 + 6 * k) = 8 := by decide
theorem kd_rule_4 : ∀ k, k < 6 → kd (59 + 6 * k) = 11 ∧ ln (59 + 6 * k) = 8 := by decide
theorem kd_rule_5 : ∀ k, k < 6 → kd (60 + 6 * k) = 13 ∧ ln (60 + 6 * k) = 8 := by decide
theorem kd_race_0 : ∀ k, k < 24 → kd (91 + 5 * k) = 3 ∧ ln (91 + 5 * k) = 0 := by decide
theorem kd_race_1 : ∀ k, k < 24 → kd (92 + 5 * k) = 11 ∧ ln (92 + 5 * k) = 4 := by decide
theorem kd_race_2 : ∀ k, k < 24 → kd (93 + 5 * k) = 11 ∧ ln (93 + 5 * k) = 4 := by decide
theorem kd_race_3 : ∀ k, k < 24 → kd (94 + 5 * k) = 11 ∧ ln (94 + 5 * k) = 4 := by decide
theorem kd_race_4 : ∀ k, k < 24 → kd (95 + 5 * k) = 13 ∧ ln (95 + 5 * k) = 4 := by decide
end
section
/-- the element type of row i (of a cell that is no row: int, so that cA i may be any int row's class) -/
def ety (i : Nat) : FieldType := if kd i = 12 then .long else if kd i = 13 then .boolean else if kd i = 14 then .object RX1 else if kd i = 15 then .object RX5 else if kd i = 16 then .object RX3 else .int
def tysW (cA : Nat → ClassId) : List (ClassId × FieldType) := (List.range 248).map (fun i => (cA i, ety i))
theorem ty_at {cA : Nat → ClassId} {i : Nat} (hi : i < 248) : (tysW cA)[i]? = some (cA i, ety i) := by simp [tysW, hi]
theorem ty_11 {cA : Nat → ClassId} {i : Nat} (hi : i < 248) (h : kd i = 11) : (tysW cA)[i]? = some (cA i, .int) := by rw [ty_at hi]; simp [ety, h]
theorem ty_12 {cA : Nat → ClassId} {i : Nat} (hi : i < 248) (h : kd i = 12) : (tysW cA)[i]? = some (cA i, .long) := by rw [ty_at hi]; simp [ety, h]
theorem ty_13 {cA : Nat → ClassId} {i : Nat} (hi : i < 248) (h : kd i = 13) : (tysW cA)[i]? = some (cA i, .boolean) := by rw [ty_at hi]; simp [ety, h]
theorem ty_14 {cA : Nat → ClassId} {i : Nat} (hi : i < 248) (h : kd i = 14) : (tysW cA)[i]? = some (cA i, .object RX1) := by rw [ty_at hi]; simp [ety, h]
theorem ty_15 {cA : Nat → ClassId} {i : Nat} (hi : i < 248) (h : kd i = 15) : (tysW cA)[i]? = some (cA i, .object RX5) := by rw [ty_at hi]; simp [ety, h]
theorem ty_16 {cA : Nat → ClassId} {i : Nat} (hi : i < 248) (h : kd i = 16) : (tysW cA)[i]? = some (cA i, .object RX3) := by rw [ty_at hi]; simp [ety, h]
/-- the cells of the pool, and all that come from sz on -/
def AA (ad : Nat → Nat) (sz : Nat) : Nat → Prop := fun q => (∃ i, i < 248 ∧ q = ad i) ∨ sz ≤ q
theorem pw_some {n : Nat} {ad : Nat → Nat} {C : Nat → va_E} {k : Nat} {q : Nat × va_E} (h : (pw n ad C)[k]? = some q) : k < n ∧ q = (ad k, C k) := by
  have hk : k < n := by
    have := (List.getElem?_eq_some_iff.mp h).1
    rwa [pw_len] at this
  rw [pw_get hk] at h
  exact ⟨hk, (Option.some.inj h).symm⟩
theorem AA_D {ad : Nat → Nat} {C : Nat → va_E} {sz : Nat} {A : Nat → Prop} (h : va_D A (pw 248 ad C)) : va_D (AA ad sz) (pw 248 ad C) :=
  ⟨h.1, fun k q hk => by obtain ⟨h1, rfl⟩ := pw_some hk; exact Or.inl ⟨k, h1, rfl⟩⟩
theorem D_any {n : Nat} {ad : Nat → Nat} {C C2 : Nat → va_E} {A : Nat → Prop} (h : va_D A (pw n ad C)) : va_D A (pw n ad C2) := by
  refine ⟨fun i j p q hi hj e => ?_, fun k q hk => ?_⟩
  · obtain ⟨h1, rfl⟩ := pw_some hi
    obtain ⟨h2, rfl⟩ := pw_some hj
    exact h.1 i j (ad i, C i) (ad j, C j) (pw_get h1) (pw_get h2) e
  · obtain ⟨h1, rfl⟩ := pw_some hk
    exact h.2 k (ad k, C k) (pw_get h1)
theorem AA_free {ad : Nat → Nat} {H0 H : Heap} {locs : List Loc} (hS : va_S (AA ad H0.size) H0 H locs) : ∀ q, AA ad H.size q → AA ad H0.size q :=
  fun q h => h.elim Or.inl (fun h1 => Or.inr (Nat.le_trans hS.1 h1))
/-- every int of the memory lies in its interval -/
def InI (bl bh : Nat → Nat → Int) (d : Nat → Nat → Int32) : Prop := ∀ i j, bl i j ≤ (d i j).toInt ∧ (d i j).toInt ≤ bh i j
theorem InI_put {bl bh : Nat → Nat → Int} {d : Nat → Nat → Int32} {i j : Nat} {v : Int32} (h : InI bl bh d) (h1 : bl i j ≤ v.toInt) (h2 : v.toInt ≤ bh i j) : InI bl bh (u2 d i j v) := by
  intro a b
  by_cases hab : a = i ∧ b = j
  · obtain ⟨rfl, rfl⟩ := hab
    rw [u2_eq]
    exact ⟨h1, h2⟩
  · rw [u2_ne (by
      by_cases ha : a = i
      · exact Or.inr (fun hb => hab ⟨ha, hb⟩)
      · exact Or.inl ha)]
    exact h a b
end
section
/-- shifts as the machine has them -/
def ushr (u v : Int32) : Int32 := (u.toUInt32 >>> (v.toUInt32 &&& Int32.toUInt32 31)).toInt32
def lushr (u : Int64) (v : Int32) : Int64 := (u.toUInt64 >>> (v.toInt64.toUInt64 &&& Int64.toUInt64 63)).toInt64
def lshl (u : Int64) (v : Int32) : Int64 := u <<< (v.toInt64 &&& 63)
def lshr (u : Int64) (v : Int32) : Int64 := u >>> (v.toInt64 &&& 63)
abbrev DD : Type := Nat → Nat → Int32
abbrev LL : Type := Nat → Nat → Int64
abbrev Ex : Type := Launch × (Nat → ClassId) × (Nat → Nat → Nat) × (Nat → Nat) × (Nat → ClassId) × (Nat → Nat) × (Nat → Nat) × Value
abbrev Fx : Type := (Program × Env × Room × State × MethodId) × (Array Value × List Frame × Method × Code) × ((Nat → Prop) × Nat × Nat × (State → Prop))
/-- the bytes of a text, as cells of its row -/
def sb (l : List Int32) : Nat → Value := fun j => .int (l.getD j 0)
def sbs (w : Nat) : List Int32 := ([[109, 101, 110], [119, 111, 109, 101, 110], [111, 108, 100], [121, 111, 117, 110, 103], [119, 101, 105, 103, 104, 116], [99, 114, 101, 119], [110, 111, 116], [111, 114], [97, 110, 100], [110, 111, 116, 32], [109, 101, 110], [119, 111, 109, 101, 110], [111, 108, 100], [121, 111, 117, 110, 103], [119, 101, 105, 103, 104, 116], [99, 114, 101, 119], [32], [111, 114, 32], [97, 110, 100, 32]] : List (List Int32)).getD w []
def sown (w : Nat) : String := if w < 9 then RX7 else RX10
def sidx (w : Nat) : Nat := ([91, 93, 95, 97, 99, 101, 103, 105, 107, 183, 189, 191, 193, 195, 197, 198, 207, 209, 211] : List Nat).getD w 0
def stx (w : Nat) : String := (["men", "women", "old", "young", "weight", "crew", "not", "or", "and", "not ", "men", "women", "old", "young", "weight", "crew", " ", "or ", "and "] : List String).getD w ""
def EVs (sa sv : Nat → Nat) (A : Nat → Prop) (U : State) (H : Heap) : Prop := ∀ w, w < 19 → va_O "java/lang/String" (sa w) A U H ∧ va_OF "java/lang/String" "coder" "B" (.int 0) (sa w) A U H ∧ va_OF "java/lang/String" "value" "[B" (.ref (sv w)) (sa w) A U H ∧ va_T .byte (sv w) (sbs w).length (sb (sbs w)) A U H
def EVr (sa : Nat → Nat) (U : State) : Prop := ∀ w, w < 19 → vk_R (sown w) (sidx w) (stx w) (sa w) U
def EVn (U : State) : Prop := va_Nw (.methodLinkNest RX4 35 yX9_within RX9) U ∧ va_Nw (.methodLinkNest RX7 67 yX9_within RX9) U ∧ va_Nw (.methodLinkNest RX2 51 yX9_within RX9) U ∧ va_Nw (.fieldLinkNest RX3 45 "DrumBoats" "PLACE_POINTS" "[I" RX9) U
def EVz (sa : Nat → Nat) (vf : Value) (A : Nat → Prop) (U : State) (H : Heap) : Prop := va_Z "java/lang/String" "COMPACT_STRINGS" "Z" (.int 1) A U H ∧ va_Z "jdk/internal/util/Preconditions" "SIOOBE_FORMATTER" "Ljava/util/function/BiFunction;" vf A U H ∧ va_Z "DrumBoats" "PLACE_POINTS" "[I" (.ref (sa 19)) A U H ∧ va_T .int (sa 19) 6 (sb [10, 8, 6, 5, 4, 3]) A U H ∧ vf.category = 1
def EV (sa sv : Nat → Nat) (vf : Value) (A : Nat → Prop) (U : State) (H : Heap) : Prop := EVs sa sv A U H ∧ EVr sa U ∧ EVn U ∧ EVz sa vf A U H
theorem EV.calling {sa sv : Nat → Nat} {vf : Value} {A : Nat → Prop} {U : State} {H : Heap} (g : JFrame) (mk : MethodId) (a : Array Value) (h : EV sa sv vf A U H) : EV sa sv vf A (U.calling g mk a) H := by
  obtain ⟨h1, h2, ⟨n1, n2, n3, n4⟩, z1, z2, z3, z4, z5⟩ := h
  refine ⟨fun w hw => ?_, fun w hw => vk_R.same (U := U.calling g mk a) rfl (h2 w hw), ⟨va_Nw.same (U := U.calling g mk a) rfl rfl n1, va_Nw.same (U := U.calling g mk a) rfl rfl n2, va_Nw.same (U := U.calling g mk a) rfl rfl n3, va_Nw.same (U := U.calling g mk a) rfl rfl n4⟩, va_Z.moved (U := U.calling g mk a) (Vm.Alike.refl U.vm) z1, va_Z.moved (U := U.calling g mk a) (Vm.Alike.refl U.vm) z2, va_Z.moved (U := U.calling g mk a) (Vm.Alike.refl U.vm) z3, va_T.moved (U := U.calling g mk a) (Vm.Alike.refl U.vm) z4, z5⟩
  obtain ⟨q1, q2, q3, q4⟩ := h1 w hw
  exact ⟨va_O.moved (U := U.calling g mk a) (Vm.Alike.refl U.vm) q1, va_OF.moved (U := U.calling g mk a) (Vm.Alike.refl U.vm) q2, va_OF.moved (U := U.calling g mk a) (Vm.Alike.refl U.vm) q3, va_T.moved (U := U.calling g mk a) (Vm.Alike.refl U.vm) q4⟩
theorem EV.warm {sa sv : Nat → Nat} {vf : Value} {A B : Nat → Prop} {s U : State} {H : Heap} {locs : List Loc} (hW : s.WarmedH U.vm) (hS : va_S A s.heap H locs) (hAB : ∀ q, B q → A q) (h : EV sa sv vf A s s.heap) : EV sa sv vf B U H := by
  obtain ⟨h1, h2, ⟨n1, n2, n3, n4⟩, z1, z2, z3, z4, z5⟩ := h
  refine ⟨fun w hw => ?_, fun w hw => vk_R.warm hW (h2 w hw), ⟨va_Nw.warmM hW n1, va_Nw.warmM hW n2, va_Nw.warmM hW n3, va_Nw.warmF hW n4⟩, va_Z.moved hW.alike ((z1.kept hS.2.1).narrow hAB), va_Z.moved hW.alike ((z2.kept hS.2.1).narrow hAB), va_Z.moved hW.alike ((z3.kept hS.2.1).narrow hAB), va_T.moved hW.alike ((z4.kept hS.2.1).narrow hAB), z5⟩
  obtain ⟨q1, q2, q3, q4⟩ := h1 w hw
  exact ⟨va_O.moved hW.alike ((q1.kept hS.2.1).narrow hAB), va_OF.moved hW.alike ((q2.kept hS.2.1).narrow hAB), va_OF.moved hW.alike ((q3.kept hS.2.1).narrow hAB), va_T.moved hW.alike ((q4.kept hS.2.1).narrow hAB)⟩
/-- cell i of the pool, as a reference -/
def rf (g : Ex) (i : Nat) : Value := .ref (g.2.2.2.1 i)
/-- text w, as a reference -/
def rs (g : Ex) (w : Nat) : Value := .ref (g.2.2.2.2.2.1 w)
/-- the bytes of text w -/
def rv (g : Ex) (w : Nat) : Value := .ref (g.2.2.2.2.2.2.1 w)
def rz (g : Ex) : Value := g.2.2.2.2.2.2.2
/-- the frame at pc with these locals and this stack, the pool holding d and dl: the machine comes to the end Z -/
def FW (g : Ex) (x : Fx) (nL : Nat) (d : DD) (dl : LL) (pc : Nat) (lo : List (Nat × Value)) (st : List Value) : Prop :=
  match g, x with
  | (l, dC, dI, ad, cA, sa, sv, vf), ((p, e, R, s, m), (args, below, meth, c), (A, nc, ns, Z)) => ∀ (H : Heap) (locs : List Loc) (ls : Array Slot), va_P (dC, dI) vwCl (pw 248 ad (CC ad cA d dl)) H → va_S A s.heap H locs → lv_has ls nL lo → W p l e R s m args below meth c H locs nc ns Z (F0 m pc ls st)
def Cx (g : Ex) (x : Fx) (cc : ByteArray) (nL : Nat) (ret : Option FieldType) (own : String) (fr lc : Nat) : Prop :=
  match g, x with
  | (l, dC, dI, ad, cA, sa, sv, vf), ((p, e, R, s, m), (args, below, meth, c), (A, nc, ns, Z)) => p.tables.exec = Jvm.exec ∧ c.code = cc ∧ meth.sig.returnType = ret ∧ c.maxLocals = nL ∧ s.vm.findClass own = some m.cls ∧ (∀ w ∈ GW, w.before args s = true) ∧ meth.locks = false ∧ va_K (dC, dI) vwCl (tysW cA) s ∧ va_D A (pw 248 ad (fun _ => .inr (0, []))) ∧ (∀ q : Nat, s.heap.size ≤ q → A q) ∧ EV sa sv vf A s s.heap ∧ fr ≤ R.frames ∧ lc ≤ R.locals ∧ nc ≤ R.cells ∧ ns ≤ R.slots
def Zi (g : Ex) (x : Fx) (Q : Int32 → DD → LL → Prop) : Prop :=
  match g, x with
  | (l, dC, dI, ad, cA, sa, sv, vf), ((p, e, R, s, m), (args, below, meth, c), (A, nc, ns, Z)) => Z = MQ below (va_Qi (fun (r : Int32) (u : DD × LL) => Q r u.1 u.2) (fun u t => va_P (dC, dI) vwCl (pw 248 ad (CC ad cA u.1 u.2)) t.heap) (AA ad s.heap.size)) args s nc ns (AA ad s.heap.size) ∧ A = AA ad s.heap.size
def Zl (g : Ex) (x : Fx) (Q : Int64 → DD → LL → Prop) : Prop :=
  match g, x with
  | (l, dC, dI, ad, cA, sa, sv, vf), ((p, e, R, s, m), (args, below, meth, c), (A, nc, ns, Z)) => Z = MQ below (va_Ql (fun (r : Int64) (u : DD × LL) => Q r u.1 u.2) (fun u t => va_P (dC, dI) vwCl (pw 248 ad (CC ad cA u.1 u.2)) t.heap) (AA ad s.heap.size)) args s nc ns (AA ad s.heap.size) ∧ A = AA ad s.heap.size
def Zr (g : Ex) (x : Fx) (Q : Nat → DD → LL → Prop) : Prop :=
  match g, x with
  | (l, dC, dI, ad, cA, sa, sv, vf), ((p, e, R, s, m), (args, below, meth, c), (A, nc, ns, Z)) => Z = MQ below (va_Qr (fun (u : Nat × DD × LL) => Q u.1 u.2.1 u.2.2) (fun u a t => a = sa u.1 ∧ va_P (dC, dI) vwCl (pw 248 ad (CC ad cA u.2.1 u.2.2)) t.heap) (AA ad s.heap.size)) args s nc ns (AA ad s.heap.size) ∧ A = AA ad s.heap.size
def Zv (g : Ex) (x : Fx) (Q : DD → LL → Prop) : Prop :=
  match g, x with
  | (l, dC, dI, ad, cA, sa, sv, vf), ((p, e, R, s, m), (args, below, meth, c), (A, nc, ns, Z)) => Z = MQ below (va_Qv (fun (u : DD × LL) => Q u.1 u.2) (fun u t => va_P (dC, dI) vwCl (pw 248 ad (CC ad cA u.1 u.2)) t.heap) (AA ad s.heap.size)) args s nc ns (AA ad s.heap.size) ∧ A = AA ad s.heap.size
def KD (i k : Nat) : Prop := i < 248 ∧ kd i = k
def KL (i k n : Nat) : Prop := i < 248 ∧ kd i = k ∧ ln i = n
section FROWS
variable {g : Ex} {x : Fx} {cc : ByteArray} {nL fr lc pc : Nat} {ret : Option FieldType} {own : String} {d : DD} {dl : LL} {lo : List (Nat × Value)} {st : List Value}
theorem f_iconst (C0 : Cx g x cc nL ret own fr lc) {n : Int} {v : Int32} (hd : decode cc pc = .ok (.iconst n, 1)) (hv : Int32.ofInt n = v) (h : FW g x nL d dl (pc + 1) lo (.int v :: st)) : FW g x nL d dl pc lo st := by
  obtain ⟨⟨p, e, R, s, m⟩, ⟨args, below, meth, c⟩, ⟨A, nc, ns, Z⟩⟩ := x
  obtain ⟨l, dC, dI, ad, cA, sa, sv, vf⟩ := g
  obtain ⟨hx, hb, hr, hml, hown, hts, hlk, hK, hD0, hA, hE, hfr, hlc, hnc, hns⟩ := C0
  intro H locs ls hP hS hl
  exact lv_iconst hx hb hd hv (h H locs ls hP hS hl)
theorem f_bipush (C0 : Cx g x cc nL ret own fr lc) {n : Int} {v : Int32} (hd : decode cc pc = .ok (.bipush n, 2)) (hv : (Int8.ofInt n).toInt32 = v) (h : FW g x nL d dl (pc + 2) lo (.int v :: st)) : FW g x nL d dl pc lo st := by
  obtain ⟨⟨p, e, R, s, m⟩, ⟨args, below, meth, c⟩, ⟨A, nc, ns, Z⟩⟩ := x
  obtain ⟨l, dC, dI, ad, cA, sa, sv, vf⟩ := g
  obtain ⟨hx, hb, hr, hml, hown, hts, hlk, hK, hD0, hA, hE, hfr, hlc, hnc, hns⟩ := C0
  intro H locs ls hP hS hl
  exact lv_bipush hx hb hd hv (h H locs ls hP hS hl)
theorem f_sipush (C0 : Cx g x cc nL ret own fr lc) {n : Int} {v : Int32} (hd : decode cc pc = .ok (.sipush n, 3)) (hv : (Int16.ofInt n).toInt32 = v) (h : FW g x nL d dl (pc + 3) lo (.int v :: st)) : FW g x nL d dl pc lo st := by
  obtain ⟨⟨p, e, R, s, m⟩, ⟨args, below, meth, c⟩, ⟨A, nc, ns, Z⟩⟩ := x
  obtain ⟨l, dC, dI, ad, cA, sa, sv, vf⟩ := g
  obtain ⟨hx, hb, hr, hml, hown, hts, hlk, hK, hD0, hA, hE, hfr, hlc, hnc, hns⟩ := C0
  intro H locs ls hP hS hl
  exact lv_sipush hx hb hd hv (h H locs ls hP hS hl)
theorem f_lconst (C0 : Cx g x cc nL ret own fr lc) {n : Fin 2} {v : Int64} (hd : decode cc pc = .ok (.lconst n, 1)) (hv : Int64.ofNat (n : Nat) = v) (h : FW g x nL d dl (pc + 1) lo (.long v :: st)) : FW g x nL d dl pc lo st := by
  obtain ⟨⟨p, e, R, s, m⟩, ⟨args, below, meth, c⟩, ⟨A, nc, ns, Z⟩⟩ := x
  obtain ⟨l, dC, dI, ad, cA, sa, sv, vf⟩ := g
  obtain ⟨hx, hb, hr, hml, hown, hts, hlk, hK, hD0, hA, hE, hfr, hlc, hnc, hns⟩ := C0
  intro H locs ls hP hS hl
  exact lv_lconst hx hb hd hv (h H locs ls hP hS hl)
theorem f_ldc (C0 : Cx g x cc nL ret own fr lc) {index : Nat} {v : Int32} (hw : Jvm.Cond.constant own index v ∈ GW) (hd : decode cc pc = .ok (.ldc index, 2)) (h : FW g x nL d dl (pc + 2) lo (.int v :: st)) : FW g x nL d dl pc lo st := by
  obtain ⟨⟨p, e, R, s, m⟩, ⟨args, below, meth, c⟩, ⟨A, nc, ns, Z⟩⟩ := x
  obtain ⟨l, dC, dI, ad, cA, sa, sv, vf⟩ := g
  obtain ⟨hx, hb, hr, hml, hown, hts, hlk, hK, hD0, hA, hE, hfr, hlc, hnc, hns⟩ := C0
  intro H locs ls hP hS hl
  exact lv_ldc hx hb hown (hts _ hw) hd (h H locs ls hP hS hl)
theorem f_ldc2 (C0 : Cx g x cc nL ret own fr lc) {index : Nat} {v : Int64} (hw : Jvm.Cond.constantLong own index v ∈ GW) (hd : decode cc pc = .ok (.ldc2_w index, 3)) (h : FW g x nL d dl (pc + 3) lo (.long v :: st)) : FW g x nL d dl pc lo st := by
  obtain ⟨⟨p, e, R, s, m⟩, ⟨args, below, meth, c⟩, ⟨A, nc, ns, Z⟩⟩ := x
  obtain ⟨l, dC, dI, ad, cA, sa, sv, vf⟩ := g
  obtain ⟨hx, hb, hr, hml, hown, hts, hlk, hK, hD0, hA, hE, hfr, hlc, hnc, hns⟩ := C0
  intro H locs ls hP hS hl
  exact lv_ldc2 hx hb hown (hts _ hw) hd (h H locs ls hP hS hl)
theorem f_ldcS (C0 : Cx g x cc nL ret own fr lc) {w index : Nat} (hw : w < 19) (ho : sown w = own) (hi : sidx w = index) (hd : decode cc pc = .ok (.ldc index, 2)) (h : FW g x nL d dl (pc + 2) lo (rs g w :: st)) : FW g x nL d dl pc lo st := by
  obtain ⟨⟨p, e, R, s, m⟩, ⟨args, below, meth, c⟩, ⟨A, nc, ns, Z⟩⟩ := x
  obtain ⟨l, dC, dI, ad, cA, sa, sv, vf⟩ := g
  obtain ⟨hx, hb, hr, hml, hown, hts, hlk, hK, hD0, hA, hE, hfr, hlc, hnc, hns⟩ := C0
  intro H locs ls hP hS hl
  exact va_ldcS hx hb hown (by rw [← ho, ← hi]; exact hE.2.1 w hw) hd (h H locs ls hP hS hl)
theorem f_iload_n (C0 : Cx g x cc nL ret own fr lc) {k : Fin 4} {i : Nat} {v : Int32} (hd : decode cc pc = .ok (.iload_n k, 1)) (hi : (k : Nat) = i) (j : Nat) (hj : lo[j]? = some (i, .int v)) (h : FW g x nL d dl (pc + 1) lo (.int v :: st)) : FW g x nL d dl pc lo st := by
  obtain ⟨⟨p, e, R, s, m⟩, ⟨args, below, meth, c⟩, ⟨A, nc, ns, Z⟩⟩ := x
  obtain ⟨l, dC, dI, ad, cA, sa, sv, vf⟩ := g
  obtain ⟨hx, hb, hr, hml, hown, hts, hlk, hK, hD0, hA, hE, hfr, hlc, hnc, hns⟩ := C0
  intro H locs ls hP hS hl
  exact lv_iload_n hx hb hd hi (lv_at hl j hj) (h H locs ls hP hS hl)
theorem f_iload (C0 : Cx g x cc nL ret own fr lc) {i : Nat} {v : Int32} (hd : decode cc pc = .ok (.iload i, 2)) (j : Nat) (hj : lo[j]? = some (i, .int v)) (h : FW g x nL d dl (pc + 2) lo (.int v :: st)) : FW g x nL d dl pc lo st := by
  obtain ⟨⟨p, e, R, s, m⟩, ⟨args, below, meth, c⟩, ⟨A, nc, ns, Z⟩⟩ := x
  obtain ⟨l, dC, dI, ad, cA, sa, sv, vf⟩ := g
  obtain ⟨hx, hb, hr, hml, hown, hts, hlk, hK, hD0, hA, hE, hfr, hlc, hnc, hns⟩ := C0
  intro H locs ls hP hS hl
  exact lv_iload hx hb hd (lv_at hl j hj) (h H locs ls hP hS hl)
theorem f_lload_n (C0 : Cx g x cc nL ret own fr lc) {k : Fin 4} {i : Nat} {v : Int64} (hd : decode cc pc = .ok (.lload_n k, 1)) (hi : (k : Nat) = i) (j : Nat) (hj : lo[j]? = some (i, .long v)) (h : FW g x nL d dl (pc + 1) lo (.long v :: st)) : FW g x nL d dl pc lo st := by
  obtain ⟨⟨p, e, R, s, m⟩, ⟨args, below, meth, c⟩, ⟨A, nc, ns, Z⟩⟩ := x
  obtain ⟨l, dC, dI, ad, cA, sa, sv, vf⟩ := g
  obtain ⟨hx, hb, hr, hml, hown, hts, hlk, hK, hD0, hA, hE, hfr, hlc, hnc, hns⟩ := C0
  intro H locs ls hP hS hl
  exact lv_lload_n hx hb hd hi (lv_at hl j hj) (h H locs ls hP hS hl)
theorem f_lload (C0 : Cx g x cc nL ret own fr lc) {i : Nat} {v : Int64} (hd : decode cc pc = .ok (.lload i, 2)) (j : Nat) (hj : lo[j]? = some (i, .long v)) (h : FW g x nL d dl (pc + 2) lo (.long v :: st)) : FW g x nL d dl pc lo st := by
  obtain ⟨⟨p, e, R, s, m⟩, ⟨args, below, meth, c⟩, ⟨A, nc, ns, Z⟩⟩ := x
  obtain ⟨l, dC, dI, ad, cA, sa, sv, vf⟩ := g
  obtain ⟨hx, hb, hr, hml, hown, hts, hlk, hK, hD0, hA, hE, hfr, hlc, hnc, hns⟩ := C0
  intro H locs ls hP hS hl
  exact lv_lload hx hb hd (lv_at hl j hj) (h H locs ls hP hS hl)
theorem f_istore_n (C0 : Cx g x cc nL ret own fr lc) {lo' : List (Nat × Value)} {k : Fin 4} {i : Nat} {v : Int32} (hd : decode cc pc = .ok (.istore_n k, 1)) (hi : (k : Nat) = i) (hn : i < nL) (hf : (i, Value.int v) :: lo.filter (fun q => !(q.1 == i) && !(q.1 + 1 == i && q.2.category == 2)) = lo') (h : FW g x nL d dl (pc + 1) lo' st) : FW g x nL d dl pc lo (.int v :: st) := by
  obtain ⟨⟨p, e, R, s, m⟩, ⟨args, below, meth, c⟩, ⟨A, nc, ns, Z⟩⟩ := x
  obtain ⟨l, dC, dI, ad, cA, sa, sv, vf⟩ := g
  obtain ⟨hx, hb, hr, hml, hown, hts, hlk, hK, hD0, hA, hE, hfr, hlc, hnc, hns⟩ := C0
  intro H locs ls hP hS hl
  exact lv_istore_n hx hb hd hi hl hn hf (fun ls hl => (h H locs ls hP hS hl))
theorem f_istore (C0 : Cx g x cc nL ret own fr lc) {lo' : List (Nat × Value)} {i : Nat} {v : Int32} (hd : decode cc pc = .ok (.istore i, 2)) (hn : i < nL) (hf : (i, Value.int v) :: lo.filter (fun q => !(q.1 == i) && !(q.1 + 1 == i && q.2.category == 2)) = lo') (h : FW g x nL d dl (pc + 2) lo' st) : FW g x nL d dl pc lo (.int v :: st) := by
  obtain ⟨⟨p, e, R, s, m⟩, ⟨args, below, meth, c⟩, ⟨A, nc, ns, Z⟩⟩ := x
  obtain ⟨l, dC, dI, ad, cA, sa, sv, vf⟩ := g
  obtain ⟨hx, hb, hr, hml, hown, hts, hlk, hK, hD0, hA, hE, hfr, hlc, hnc, hns⟩ := C0
  intro H locs ls hP hS hl
  exact lv_istore hx hb hd hl hn hf (fun ls hl => (h H locs ls hP hS hl))
theorem f_lstore_n (C0 : Cx g x cc nL ret own fr lc) {lo' : List (Nat × Value)} {k : Fin 4} {i : Nat} {v : Int64} (hd : decode cc pc = .ok (.lstore_n k, 1)) (hi : (k : Nat) = i) (hn : i + 1 < nL) (hf : (i, Value.long v) :: lo.filter (fun q => !(q.1 == i) && (!(q.1 == i + 1) && !(q.1 + 1 == i && q.2.category == 2))) = lo') (h : FW g x nL d dl (pc + 1) lo' st) : FW g x nL d dl pc lo (.long v :: st) := by
  obtain ⟨⟨p, e, R, s, m⟩, ⟨args, below, meth, c⟩, ⟨A, nc, ns, Z⟩⟩ := x
  obtain ⟨l, dC, dI, ad, cA, sa, sv, vf⟩ := g
  obtain ⟨hx, hb, hr, hml, hown, hts, hlk, hK, hD0, hA, hE, hfr, hlc, hnc, hns⟩ := C0
  intro H locs ls hP hS hl
  exact lv_lstore_n hx hb hd hi hl hn hf (fun ls hl => (h H locs ls hP hS hl))
theorem f_lstore (C0 : Cx g x cc nL ret own fr lc) {lo' : List (Nat × Value)} {i : Nat} {v : Int64} (hd : decode cc pc = .ok (.lstore i, 2)) (hn : i + 1 < nL) (hf : (i, Value.long v) :: lo.filter (fun q => !(q.1 == i) && (!(q.1 == i + 1) && !(q.1 + 1 == i && q.2.category == 2))) = lo') (h : FW g x nL d dl (pc + 2) lo' st) : FW g x nL d dl pc lo (.long v :: st) := by
  obtain ⟨⟨p, e, R, s, m⟩, ⟨args, below, meth, c⟩, ⟨A, nc, ns, Z⟩⟩ := x
  obtain ⟨l, dC, dI, ad, cA, sa, sv, vf⟩ := g
  obtain ⟨hx, hb, hr, hml, hown, hts, hlk, hK, hD0, hA, hE, hfr, hlc, hnc, hns⟩ := C0
  intro H locs ls hP hS hl
  exact lv_lstore hx hb hd hl hn hf (fun ls hl => (h H locs ls hP hS hl))
theorem f_iinc (C0 : Cx g x cc nL ret own fr lc) {lo' : List (Nat × Value)} {i : Nat} {n : Int} {u v : Int32} (hd : decode cc pc = .ok (.iinc i n, 3)) (j : Nat) (hj : lo[j]? = some (i, .int u)) (hv : u + Int32.ofInt n = v) (hn : i < nL) (hf : (i, Value.int v) :: lo.filter (fun q => !(q.1 == i) && !(q.1 + 1 == i && q.2.category == 2)) = lo') (h : FW g x nL d dl (pc + 3) lo' st) : FW g x nL d dl pc lo st := by
  obtain ⟨⟨p, e, R, s, m⟩, ⟨args, below, meth, c⟩, ⟨A, nc, ns, Z⟩⟩ := x
  obtain ⟨l, dC, dI, ad, cA, sa, sv, vf⟩ := g
  obtain ⟨hx, hb, hr, hml, hown, hts, hlk, hK, hD0, hA, hE, hfr, hlc, hnc, hns⟩ := C0
  intro H locs ls hP hS hl
  exact lv_iinc hx hb hd hl hj hv hn hf (fun ls hl => (h H locs ls hP hS hl))
theorem f_iadd (C0 : Cx g x cc nL ret own fr lc) {u v : Int32} (hd : decode cc pc = .ok (.iadd, 1)) (h : FW g x nL d dl (pc + 1) lo (.int (u + v) :: st)) : FW g x nL d dl pc lo (.int v :: .int u :: st) := by
  obtain ⟨⟨p, e, R, s, m⟩, ⟨args, below, meth, c⟩, ⟨A, nc, ns, Z⟩⟩ := x
  obtain ⟨l, dC, dI, ad, cA, sa, sv, vf⟩ := g
  obtain ⟨hx, hb, hr, hml, hown, hts, hlk, hK, hD0, hA, hE, hfr, hlc, hnc, hns⟩ := C0
  intro H locs ls hP hS hl
  exact lv_iadd hx hb hd (h H locs ls hP hS hl)
theorem f_isub (C0 : Cx g x cc nL ret own fr lc) {u v : Int32} (hd : decode cc pc = .ok (.isub, 1)) (h : FW g x nL d dl (pc + 1) lo (.int (u - v) :: st)) : FW g x nL d dl pc lo (.int v :: .int u :: st) := by
  obtain ⟨⟨p, e, R, s, m⟩, ⟨args, below, meth, c⟩, ⟨A, nc, ns, Z⟩⟩ := x
  obtain ⟨l, dC, dI, ad, cA, sa, sv, vf⟩ := g
  obtain ⟨hx, hb, hr, hml, hown, hts, hlk, hK, hD0, hA, hE, hfr, hlc, hnc, hns⟩ := C0
  intro H locs ls hP hS hl
  exact lv_isub hx hb hd (h H locs ls hP hS hl)
theorem f_imul (C0 : Cx g x cc nL ret own fr lc) {u v : Int32} (hd : decode cc pc = .ok (.imul, 1)) (h : FW g x nL d dl (pc + 1) lo (.int (u * v) :: st)) : FW g x nL d dl pc lo (.int v :: .int u :: st) := by
  obtain ⟨⟨p, e, R, s, m⟩, ⟨args, below, meth, c⟩, ⟨A, nc, ns, Z⟩⟩ := x
  obtain ⟨l, dC, dI, ad, cA, sa, sv, vf⟩ := g
  obtain ⟨hx, hb, hr, hml, hown, hts, hlk, hK, hD0, hA, hE, hfr, hlc, hnc, hns⟩ := C0
  intro H locs ls hP hS hl
  exact lv_imul hx hb hd (h H locs ls hP hS hl)
theorem f_iand (C0 : Cx g x cc nL ret own fr lc) {u v : Int32} (hd : decode cc pc = .ok (.iand, 1)) (h : FW g x nL d dl (pc + 1) lo (.int (u &&& v) :: st)) : FW g x nL d dl pc lo (.int v :: .int u :: st) := by
  obtain ⟨⟨p, e, R, s, m⟩, ⟨args, below, meth, c⟩, ⟨A, nc, ns, Z⟩⟩ := x
  obtain ⟨l, dC, dI, ad, cA, sa, sv, vf⟩ := g
  obtain ⟨hx, hb, hr, hml, hown, hts, hlk, hK, hD0, hA, hE, hfr, hlc, hnc, hns⟩ := C0
  intro H locs ls hP hS hl
  exact lv_iand hx hb hd (h H locs ls hP hS hl)
theorem f_ior (C0 : Cx g x cc nL ret own fr lc) {u v : Int32} (hd : decode cc pc = .ok (.ior, 1)) (h : FW g x nL d dl (pc + 1) lo (.int (u ||| v) :: st)) : FW g x nL d dl pc lo (.int v :: .int u :: st) := by
  obtain ⟨⟨p, e, R, s, m⟩, ⟨args, below, meth, c⟩, ⟨A, nc, ns, Z⟩⟩ := x
  obtain ⟨l, dC, dI, ad, cA, sa, sv, vf⟩ := g
  obtain ⟨hx, hb, hr, hml, hown, hts, hlk, hK, hD0, hA, hE, hfr, hlc, hnc, hns⟩ := C0
  intro H locs ls hP hS hl
  exact lv_ior hx hb hd (h H locs ls hP hS hl)
theorem f_ixor (C0 : Cx g x cc nL ret own fr lc) {u v : Int32} (hd : decode cc pc = .ok (.ixor, 1)) (h : FW g x nL d dl (pc + 1) lo (.int (u ^^^ v) :: st)) : FW g x nL d dl pc lo (.int v :: .int u :: st) := by
  obtain ⟨⟨p, e, R, s, m⟩, ⟨args, below, meth, c⟩, ⟨A, nc, ns, Z⟩⟩ := x
  obtain ⟨l, dC, dI, ad, cA, sa, sv, vf⟩ := g
  obtain ⟨hx, hb, hr, hml, hown, hts, hlk, hK, hD0, hA, hE, hfr, hlc, hnc, hns⟩ := C0
  intro H locs ls hP hS hl
  exact lv_ixor hx hb hd (h H locs ls hP hS hl)
theorem f_ishl (C0 : Cx g x cc nL ret own fr lc) {u v : Int32} (hd : decode cc pc = .ok (.ishl, 1)) (h : FW g x nL d dl (pc + 1) lo (.int (u <<< (v &&& 31)) :: st)) : FW g x nL d dl pc lo (.int v :: .int u :: st) := by
  obtain ⟨⟨p, e, R, s, m⟩, ⟨args, below, meth, c⟩, ⟨A, nc, ns, Z⟩⟩ := x
  obtain ⟨l, dC, dI, ad, cA, sa, sv, vf⟩ := g
  obtain ⟨hx, hb, hr, hml, hown, hts, hlk, hK, hD0, hA, hE, hfr, hlc, hnc, hns⟩ := C0
  intro H locs ls hP hS hl
  exact lv_ishl hx hb hd (h H locs ls hP hS hl)
theorem f_ishr (C0 : Cx g x cc nL ret own fr lc) {u v : Int32} (hd : decode cc pc = .ok (.ishr, 1)) (h : FW g x nL d dl (pc + 1) lo (.int (u >>> (v &&& 31)) :: st)) : FW g x nL d dl pc lo (.int v :: .int u :: st) := by
  obtain ⟨⟨p, e, R, s, m⟩, ⟨args, below, meth, c⟩, ⟨A, nc, ns, Z⟩⟩ := x
  obtain ⟨l, dC, dI, ad, cA, sa, sv, vf⟩ := g
  obtain ⟨hx, hb, hr, hml, hown, hts, hlk, hK, hD0, hA, hE, hfr, hlc, hnc, hns⟩ := C0
  intro H locs ls hP hS hl
  exact lv_ishr hx hb hd (h H locs ls hP hS hl)
theorem f_idiv (C0 : Cx g x cc nL ret own fr lc) {u v : Int32} (hd : decode cc pc = .ok (.idiv, 1)) (hne : ¬ v = 0) (h : FW g x nL d dl (pc + 1) lo (.int (u / v) :: st)) : FW g x nL d dl pc lo (.int v :: .int u :: st) := by
  obtain ⟨⟨p, e, R, s, m⟩, ⟨args, below, meth, c⟩, ⟨A, nc, ns, Z⟩⟩ := x
  obtain ⟨l, dC, dI, ad, cA, sa, sv, vf⟩ := g
  obtain ⟨hx, hb, hr, hml, hown, hts, hlk, hK, hD0, hA, hE, hfr, hlc, hnc, hns⟩ := C0
  intro H locs ls hP hS hl
  exact lv_idiv hx hb hd hne (h H locs ls hP hS hl)
theorem f_irem (C0 : Cx g x cc nL ret own fr lc) {u v : Int32} (hd : decode cc pc = .ok (.irem, 1)) (hne : ¬ v = 0) (h : FW g x nL d dl (pc + 1) lo (.int (u - u / v * v) :: st)) : FW g x nL d dl pc lo (.int v :: .int u :: st) := by
  obtain ⟨⟨p, e, R, s, m⟩, ⟨args, below, meth, c⟩, ⟨A, nc, ns, Z⟩⟩ := x
  obtain ⟨l, dC, dI, ad, cA, sa, sv, vf⟩ := g
  obtain ⟨hx, hb, hr, hml, hown, hts, hlk, hK, hD0, hA, hE, hfr, hlc, hnc, hns⟩ := C0
  intro H locs ls hP hS hl
  exact lv_irem hx hb hd hne (h H locs ls hP hS hl)
theorem f_ladd (C0 : Cx g x cc nL ret own fr lc) {u v : Int64} (hd : decode cc pc = .ok (.ladd, 1)) (h : FW g x nL d dl (pc + 1) lo (.long (u + v) :: st)) : FW g x nL d dl pc lo (.long v :: .long u :: st) := by
  obtain ⟨⟨p, e, R, s, m⟩, ⟨args, below, meth, c⟩, ⟨A, nc, ns, Z⟩⟩ := x
  obtain ⟨l, dC, dI, ad, cA, sa, sv, vf⟩ := g
  obtain ⟨hx, hb, hr, hml, hown, hts, hlk, hK, hD0, hA, hE, hfr, hlc, hnc, hns⟩ := C0
  intro H locs ls hP hS hl
  exact lv_ladd hx hb hd (h H locs ls hP hS hl)
theorem f_lsub (C0 : Cx g x cc nL ret own fr lc) {u v : Int64} (hd : decode cc pc = .ok (.lsub, 1)) (h : FW g x nL d dl (pc + 1) lo (.long (u - v) :: st)) : FW g x nL d dl pc lo (.long v :: .long u :: st) := by
  obtain ⟨⟨p, e, R, s, m⟩, ⟨args, below, meth, c⟩, ⟨A, nc, ns, Z⟩⟩ := x
  obtain ⟨l, dC, dI, ad, cA, sa, sv, vf⟩ := g
  obtain ⟨hx, hb, hr, hml, hown, hts, hlk, hK, hD0, hA, hE, hfr, hlc, hnc, hns⟩ := C0
  intro H locs ls hP hS hl
  exact lv_lsub hx hb hd (h H locs ls hP hS hl)
theorem f_lmul (C0 : Cx g x cc nL ret own fr lc) {u v : Int64} (hd : decode cc pc = .ok (.lmul, 1)) (h : FW g x nL d dl (pc + 1) lo (.long (u * v) :: st)) : FW g x nL d dl pc lo (.long v :: .long u :: st) := by
  obtain ⟨⟨p, e, R, s, m⟩, ⟨args, below, meth, c⟩, ⟨A, nc, ns, Z⟩⟩ := x
  obtain ⟨l, dC, dI, ad, cA, sa, sv, vf⟩ := g
  obtain ⟨hx, hb, hr, hml, hown, hts, hlk, hK, hD0, hA, hE, hfr, hlc, hnc, hns⟩ := C0
  intro H locs ls hP hS hl
  exact lv_lmul hx hb hd (h H locs ls hP hS hl)
theorem f_land (C0 : Cx g x cc nL ret own fr lc) {u v : Int64} (hd : decode cc pc = .ok (.land, 1)) (h : FW g x nL d dl (pc + 1) lo (.long (u &&& v) :: st)) : FW g x nL d dl pc lo (.long v :: .long u :: st) := by
  obtain ⟨⟨p, e, R, s, m⟩, ⟨args, below, meth, c⟩, ⟨A, nc, ns, Z⟩⟩ := x
  obtain ⟨l, dC, dI, ad, cA, sa, sv, vf⟩ := g
  obtain ⟨hx, hb, hr, hml, hown, hts, hlk, hK, hD0, hA, hE, hfr, hlc, hnc, hns⟩ := C0
  intro H locs ls hP hS hl
  exact lv_land hx hb hd (h H locs ls hP hS hl)
theorem f_lor (C0 : Cx g x cc nL ret own fr lc) {u v : Int64} (hd : decode cc pc = .ok (.lor, 1)) (h : FW g x nL d dl (pc + 1) lo (.long (u ||| v) :: st)) : FW g x nL d dl pc lo (.long v :: .long u :: st) := by
  obtain ⟨⟨p, e, R, s, m⟩, ⟨args, below, meth, c⟩, ⟨A, nc, ns, Z⟩⟩ := x
  obtain ⟨l, dC, dI, ad, cA, sa, sv, vf⟩ := g
  obtain ⟨hx, hb, hr, hml, hown, hts, hlk, hK, hD0, hA, hE, hfr, hlc, hnc, hns⟩ := C0
  intro H locs ls hP hS hl
  exact lv_lor hx hb hd (h H locs ls hP hS hl)
theorem f_lxor (C0 : Cx g x cc nL ret own fr lc) {u v : Int64} (hd : decode cc pc = .ok (.lxor, 1)) (h : FW g x nL d dl (pc + 1) lo (.long (u ^^^ v) :: st)) : FW g x nL d dl pc lo (.long v :: .long u :: st) := by
  obtain ⟨⟨p, e, R, s, m⟩, ⟨args, below, meth, c⟩, ⟨A, nc, ns, Z⟩⟩ := x
  obtain ⟨l, dC, dI, ad, cA, sa, sv, vf⟩ := g
  obtain ⟨hx, hb, hr, hml, hown, hts, hlk, hK, hD0, hA, hE, hfr, hlc, hnc, hns⟩ := C0
  intro H locs ls hP hS hl
  exact lv_lxor hx hb hd (h H locs ls hP hS hl)
theorem f_ldiv (C0 : Cx g x cc nL ret own fr lc) {u v : Int64} (hd : decode cc pc = .ok (.ldiv, 1)) (hne : ¬ v = 0) (h : FW g x nL d dl (pc + 1) lo (.long (u / v) :: st)) : FW g x nL d dl pc lo (.long v :: .long u :: st) := by
  obtain ⟨⟨p, e, R, s, m⟩, ⟨args, below, meth, c⟩, ⟨A, nc, ns, Z⟩⟩ := x
  obtain ⟨l, dC, dI, ad, cA, sa, sv, vf⟩ := g
  obtain ⟨hx, hb, hr, hml, hown, hts, hlk, hK, hD0, hA, hE, hfr, hlc, hnc, hns⟩ := C0
  intro H locs ls hP hS hl
  exact lv_ldiv hx hb hd hne (h H locs ls hP hS hl)
theorem f_lrem (C0 : Cx g x cc nL ret own fr lc) {u v : Int64} (hd : decode cc pc = .ok (.lrem, 1)) (hne : ¬ v = 0) (h : FW g x nL d dl (pc + 1) lo (.long (u - u / v * v) :: st)) : FW g x nL d dl pc lo (.long v :: .long u :: st) := by
  obtain ⟨⟨p, e, R, s, m⟩, ⟨args, below, meth, c⟩, ⟨A, nc, ns, Z⟩⟩ := x
  obtain ⟨l, dC, dI, ad, cA, sa, sv, vf⟩ := g
  obtain ⟨hx, hb, hr, hml, hown, hts, hlk, hK, hD0, hA, hE, hfr, hlc, hnc, hns⟩ := C0
  intro H locs ls hP hS hl
  exact lv_lrem hx hb hd hne (h H locs ls hP hS hl)
theorem f_ineg (C0 : Cx g x cc nL ret own fr lc) {u : Int32} (hd : decode cc pc = .ok (.ineg, 1)) (h : FW g x nL d dl (pc + 1) lo (.int (-u) :: st)) : FW g x nL d dl pc lo (.int u :: st) := by
  obtain ⟨⟨p, e, R, s, m⟩, ⟨args, below, meth, c⟩, ⟨A, nc, ns, Z⟩⟩ := x
  obtain ⟨l, dC, dI, ad, cA, sa, sv, vf⟩ := g
  obtain ⟨hx, hb, hr, hml, hown, hts, hlk, hK, hD0, hA, hE, hfr, hlc, hnc, hns⟩ := C0
  intro H locs ls hP hS hl
  exact lv_ineg hx hb hd (h H locs ls hP hS hl)
theorem f_lneg (C0 : Cx g x cc nL ret own fr lc) {u : Int64} (hd : decode cc pc = .ok (.lneg, 1)) (h : FW g x nL d dl (pc + 1) lo (.long (-u) :: st)) : FW g x nL d dl pc lo (.long u :: st) := by
  obtain ⟨⟨p, e, R, s, m⟩, ⟨args, below, meth, c⟩, ⟨A, nc, ns, Z⟩⟩ := x
  obtain ⟨l, dC, dI, ad, cA, sa, sv, vf⟩ := g
  obtain ⟨hx, hb, hr, hml, hown, hts, hlk, hK, hD0, hA, hE, hfr, hlc, hnc, hns⟩ := C0
  intro H locs ls hP hS hl
  exact lv_lneg hx hb hd (h H locs ls hP hS hl)
theorem f_iushr (C0 : Cx g x cc nL ret own fr lc) {u v : Int32} (hd : decode cc pc = .ok (.iushr, 1)) (h : FW g x nL d dl (pc + 1) lo (.int (ushr u v) :: st)) : FW g x nL d dl pc lo (.int v :: .int u :: st) := by
  obtain ⟨⟨p, e, R, s, m⟩, ⟨args, below, meth, c⟩, ⟨A, nc, ns, Z⟩⟩ := x
  obtain ⟨l, dC, dI, ad, cA, sa, sv, vf⟩ := g
  obtain ⟨hx, hb, hr, hml, hown, hts, hlk, hK, hD0, hA, hE, hfr, hlc, hnc, hns⟩ := C0
  intro H locs ls hP hS hl
  exact lv_iushr hx hb hd rfl (h H locs ls hP hS hl)
theorem f_lushr (C0 : Cx g x cc nL ret own fr lc) {u : Int64} {v : Int32} (hd : decode cc pc = .ok (.lushr, 1)) (h : FW g x nL d dl (pc + 1) lo (.long (lushr u v) :: st)) : FW g x nL d dl pc lo (.int v :: .long u :: st) := by
  obtain ⟨⟨p, e, R, s, m⟩, ⟨args, below, meth, c⟩, ⟨A, nc, ns, Z⟩⟩ := x
  obtain ⟨l, dC, dI, ad, cA, sa, sv, vf⟩ := g
  obtain ⟨hx, hb, hr, hml, hown, hts, hlk, hK, hD0, hA, hE, hfr, hlc, hnc, hns⟩ := C0
  intro H locs ls hP hS hl
  exact lv_lushr hx hb hd rfl (h H locs ls hP hS hl)
theorem f_lshl (C0 : Cx g x cc nL ret own fr lc) {u : Int64} {v : Int32} (hd : decode cc pc = .ok (.lshl, 1)) (h : FW g x nL d dl (pc + 1) lo (.long (lshl u v) :: st)) : FW g x nL d dl pc lo (.int v :: .long u :: st) := by
  obtain ⟨⟨p, e, R, s, m⟩, ⟨args, below, meth, c⟩, ⟨A, nc, ns, Z⟩⟩ := x
  obtain ⟨l, dC, dI, ad, cA, sa, sv, vf⟩ := g
  obtain ⟨hx, hb, hr, hml, hown, hts, hlk, hK, hD0, hA, hE, hfr, hlc, hnc, hns⟩ := C0
  intro H locs ls hP hS hl
  exact lv_lshl hx hb hd rfl (h H locs ls hP hS hl)
theorem f_lshr (C0 : Cx g x cc nL ret own fr lc) {u : Int64} {v : Int32} (hd : decode cc pc = .ok (.lshr, 1)) (h : FW g x nL d dl (pc + 1) lo (.long (lshr u v) :: st)) : FW g x nL d dl pc lo (.int v :: .long u :: st) := by
  obtain ⟨⟨p, e, R, s, m⟩, ⟨args, below, meth, c⟩, ⟨A, nc, ns, Z⟩⟩ := x
  obtain ⟨l, dC, dI, ad, cA, sa, sv, vf⟩ := g
  obtain ⟨hx, hb, hr, hml, hown, hts, hlk, hK, hD0, hA, hE, hfr, hlc, hnc, hns⟩ := C0
  intro H locs ls hP hS hl
  exact lv_lshr hx hb hd rfl (h H locs ls hP hS hl)
theorem f_i2l (C0 : Cx g x cc nL ret own fr lc) {u : Int32} (hd : decode cc pc = .ok (.i2l, 1)) (h : FW g x nL d dl (pc + 1) lo (.long u.toInt64 :: st)) : FW g x nL d dl pc lo (.int u :: st) := by
  obtain ⟨⟨p, e, R, s, m⟩, ⟨args, below, meth, c⟩, ⟨A, nc, ns, Z⟩⟩ := x
  obtain ⟨l, dC, dI, ad, cA, sa, sv, vf⟩ := g
  obtain ⟨hx, hb, hr, hml, hown, hts, hlk, hK, hD0, hA, hE, hfr, hlc, hnc, hns⟩ := C0
  intro H locs ls hP hS hl
  exact lv_i2l hx hb hd rfl (h H locs ls hP hS hl)
theorem f_l2i (C0 : Cx g x cc nL ret own fr lc) {u : Int64} (hd : decode cc pc = .ok (.l2i, 1)) (h : FW g x nL d dl (pc + 1) lo (.int u.toInt32 :: st)) : FW g x nL d dl pc lo (.long u :: st) := by
  obtain ⟨⟨p, e, R, s, m⟩, ⟨args, below, meth, c⟩, ⟨A, nc, ns, Z⟩⟩ := x
  obtain ⟨l, dC, dI, ad, cA, sa, sv, vf⟩ := g
  obtain ⟨hx, hb, hr, hml, hown, hts, hlk, hK, hD0, hA, hE, hfr, hlc, hnc, hns⟩ := C0
  intro H locs ls hP hS hl
  exact lv_l2i hx hb hd rfl (h H locs ls hP hS hl)
theorem f_i2c (C0 : Cx g x cc nL ret own fr lc) {u : Int32} (hd : decode cc pc = .ok (.i2c, 1)) (h : FW g x nL d dl (pc + 1) lo (.int (u.toUInt32 % 65536).toInt32 :: st)) : FW g x nL d dl pc lo (.int u :: st) := by
  obtain ⟨⟨p, e, R, s, m⟩, ⟨args, below, meth, c⟩, ⟨A, nc, ns, Z⟩⟩ := x
  obtain ⟨l, dC, dI, ad, cA, sa, sv, vf⟩ := g
  obtain ⟨hx, hb, hr, hml, hown, hts, hlk, hK, hD0, hA, hE, hfr, hlc, hnc, hns⟩ := C0
  intro H locs ls hP hS hl
  exact lv_i2c hx hb hd rfl (h H locs ls hP hS hl)
theorem f_lcmp (C0 : Cx g x cc nL ret own fr lc) {u v : Int64} (hd : decode cc pc = .ok (.lcmp, 1)) (h : FW g x nL d dl (pc + 1) lo (.int (lg_cmp u v) :: st)) : FW g x nL d dl pc lo (.long v :: .long u :: st) := by
  obtain ⟨⟨p, e, R, s, m⟩, ⟨args, below, meth, c⟩, ⟨A, nc, ns, Z⟩⟩ := x
  obtain ⟨l, dC, dI, ad, cA, sa, sv, vf⟩ := g
  obtain ⟨hx, hb, hr, hml, hown, hts, hlk, hK, hD0, hA, hE, hfr, hlc, hnc, hns⟩ := C0
  intro H locs ls hP hS hl
  exact W.lcmp hx hb hd (h H locs ls hP hS hl)
theorem f_dup (C0 : Cx g x cc nL ret own fr lc) {a : Value} (hd : decode cc pc = .ok (.dup, 1)) (ha : a.category = 1) (h : FW g x nL d dl (pc + 1) lo (a :: a :: st)) : FW g x nL d dl pc lo (a :: st) := by
  obtain ⟨⟨p, e, R, s, m⟩, ⟨args, below, meth, c⟩, ⟨A, nc, ns, Z⟩⟩ := x
  obtain ⟨l, dC, dI, ad, cA, sa, sv, vf⟩ := g
  obtain ⟨hx, hb, hr, hml, hown, hts, hlk, hK, hD0, hA, hE, hfr, hlc, hnc, hns⟩ := C0
  intro H locs ls hP hS hl
  exact lv_dup hx hb hd ha (h H locs ls hP hS hl)
theorem f_pop (C0 : Cx g x cc nL ret own fr lc) {a : Value} (hd : decode cc pc = .ok (.pop, 1)) (ha : a.category = 1) (h : FW g x nL d dl (pc + 1) lo st) : FW g x nL d dl pc lo (a :: st) := by
  obtain ⟨⟨p, e, R, s, m⟩, ⟨args, below, meth, c⟩, ⟨A, nc, ns, Z⟩⟩ := x
  obtain ⟨l, dC, dI, ad, cA, sa, sv, vf⟩ := g
  obtain ⟨hx, hb, hr, hml, hown, hts, hlk, hK, hD0, hA, hE, hfr, hlc, hnc, hns⟩ := C0
  intro H locs ls hP hS hl
  exact lv_pop hx hb hd ha (h H locs ls hP hS hl)
theorem f_dup_x1 (C0 : Cx g x cc nL ret own fr lc) {a b : Value} (hd : decode cc pc = .ok (.dup_x1, 1)) (ha : a.category = 1) (hb2 : b.category = 1) (h : FW g x nL d dl (pc + 1) lo (a :: b :: a :: st)) : FW g x nL d dl pc lo (a :: b :: st) := by
  obtain ⟨⟨p, e, R, s, m⟩, ⟨args, below, meth, c⟩, ⟨A, nc, ns, Z⟩⟩ := x
  obtain ⟨l, dC, dI, ad, cA, sa, sv, vf⟩ := g
  obtain ⟨hx, hb, hr, hml, hown, hts, hlk, hK, hD0, hA, hE, hfr, hlc, hnc, hns⟩ := C0
  intro H locs ls hP hS hl
  exact lv_dup_x1 hx hb hd ha hb2 (h H locs ls hP hS hl)
theorem f_dup_x2 (C0 : Cx g x cc nL ret own fr lc) {a b b3 : Value} (hd : decode cc pc = .ok (.dup_x2, 1)) (ha : a.category = 1) (hb2 : b.category = 1) (hb3 : b3.category = 1) (h : FW g x nL d dl (pc + 1) lo (a :: b :: b3 :: a :: st)) : FW g x nL d dl pc lo (a :: b :: b3 :: st) := by
  obtain ⟨⟨p, e, R, s, m⟩, ⟨args, below, meth, c⟩, ⟨A, nc, ns, Z⟩⟩ := x
  obtain ⟨l, dC, dI, ad, cA, sa, sv, vf⟩ := g
  obtain ⟨hx, hb, hr, hml, hown, hts, hlk, hK, hD0, hA, hE, hfr, hlc, hnc, hns⟩ := C0
  intro H locs ls hP hS hl
  exact lv_dup_x2 hx hb hd ha hb2 hb3 (h H locs ls hP hS hl)
theorem f_dup2 (C0 : Cx g x cc nL ret own fr lc) {a b : Value} (hd : decode cc pc = .ok (.dup2, 1)) (ha : a.category = 1) (hb2 : b.category = 1) (h : FW g x nL d dl (pc + 1) lo (a :: b :: a :: b :: st)) : FW g x nL d dl pc lo (a :: b :: st) := by
  obtain ⟨⟨p, e, R, s, m⟩, ⟨args, below, meth, c⟩, ⟨A, nc, ns, Z⟩⟩ := x
  obtain ⟨l, dC, dI, ad, cA, sa, sv, vf⟩ := g
  obtain ⟨hx, hb, hr, hml, hown, hts, hlk, hK, hD0, hA, hE, hfr, hlc, hnc, hns⟩ := C0
  intro H locs ls hP hS hl
  exact lv_dup2_11 hx hb hd ha hb2 (h H locs ls hP hS hl)
theorem f_if_eq (C0 : Cx g x cc nL ret own fr lc) {u : Int32} {off : Int} {tgt : Nat} (hd : decode cc pc = .ok (.ifCond .eq off, 3)) (ht : (pc : Int) + off = (tgt : Int)) (kt : u = 0 → FW g x nL d dl tgt lo st) (kf : ¬ u = 0 → FW g x nL d dl (pc + 3) lo st) : FW g x nL d dl pc lo (.int u :: st) := by
  obtain ⟨⟨p, e, R, s, m⟩, ⟨args, below, meth, c⟩, ⟨A, nc, ns, Z⟩⟩ := x
  obtain ⟨l, dC, dI, ad, cA, sa, sv, vf⟩ := g
  obtain ⟨hx, hb, hr, hml, hown, hts, hlk, hK, hD0, hA, hE, hfr, hlc, hnc, hns⟩ := C0
  intro H locs ls hP hS hl
  exact lv_if_eq hx hb hd ht (fun q => kt q H locs ls hP hS hl) (fun q => kf q H locs ls hP hS hl)
theorem f_icmp_eq (C0 : Cx g x cc nL ret own fr lc) {u v : Int32} {off : Int} {tgt : Nat} (hd : decode cc pc = .ok (.if_icmp .eq off, 3)) (ht : (pc : Int) + off = (tgt : Int)) (kt : u = v → FW g x nL d dl tgt lo st) (kf : ¬ u = v → FW g x nL d dl (pc + 3) lo st) : FW g x nL d dl pc lo (.int v :: .int u :: st) := by
  obtain ⟨⟨p, e, R, s, m⟩, ⟨args, below, meth, c⟩, ⟨A, nc, ns, Z⟩⟩ := x
  obtain ⟨l, dC, dI, ad, cA, sa, sv, vf⟩ := g
  obtain ⟨hx, hb, hr, hml, hown, hts, hlk, hK, hD0, hA, hE, hfr, hlc, hnc, hns⟩ := C0
  intro H locs ls hP hS hl
  exact lv_icmp_eq hx hb hd ht (fun q => kt q H locs ls hP hS hl) (fun q => kf q H locs ls hP hS hl)
theorem f_if_ne (C0 : Cx g x cc nL ret own fr lc) {u : Int32} {off : Int} {tgt : Nat} (hd : decode cc pc = .ok (.ifCond .ne off, 3)) (ht : (pc : Int) + off = (tgt : Int)) (kt : ¬ u = 0 → FW g x nL d dl tgt lo st) (kf : u = 0 → FW g x nL d dl (pc + 3) lo st) : FW g x nL d dl pc lo (.int u :: st) := by
  obtain ⟨⟨p, e, R, s, m⟩, ⟨args, below, meth, c⟩, ⟨A, nc, ns, Z⟩⟩ := x
  obtain ⟨l, dC, dI, ad, cA, sa, sv, vf⟩ := g
  obtain ⟨hx, hb, hr, hml, hown, hts, hlk, hK, hD0, hA, hE, hfr, hlc, hnc, hns⟩ := C0
  intro H locs ls hP hS hl
  exact lv_if_ne hx hb hd ht (fun q => kt q H locs ls hP hS hl) (fun q => kf q H locs ls hP hS hl)
theorem f_icmp_ne (C0 : Cx g x cc nL ret own fr lc) {u v : Int32} {off : Int} {tgt : Nat} (hd : decode cc pc = .ok (.if_icmp .ne off, 3)) (ht : (pc : Int) + off = (tgt : Int)) (kt : ¬ u = v → FW g x nL d dl tgt lo st) (kf : u = v → FW g x nL d dl (pc + 3) lo st) : FW g x nL d dl pc lo (.int v :: .int u :: st) := by
  obtain ⟨⟨p, e, R, s, m⟩, ⟨args, below, meth, c⟩, ⟨A, nc, ns, Z⟩⟩ := x
  obtain ⟨l, dC, dI, ad, cA, sa, sv, vf⟩ := g
  obtain ⟨hx, hb, hr, hml, hown, hts, hlk, hK, hD0, hA, hE, hfr, hlc, hnc, hns⟩ := C0
  intro H locs ls hP hS hl
  exact lv_icmp_ne hx hb hd ht (fun q => kt q H locs ls hP hS hl) (fun q => kf q H locs ls hP hS hl)
theorem f_if_lt (C0 : Cx g x cc nL ret own fr lc) {u : Int32} {off : Int} {tgt : Nat} (hd : decode cc pc = .ok (.ifCond .lt off, 3)) (ht : (pc : Int) + off = (tgt : Int)) (kt : u < 0 → FW g x nL d dl tgt lo st) (kf : ¬ u < 0 → FW g x nL d dl (pc + 3) lo st) : FW g x nL d dl pc lo (.int u :: st) := by
  obtain ⟨⟨p, e, R, s, m⟩, ⟨args, below, meth, c⟩, ⟨A, nc, ns, Z⟩⟩ := x
  obtain ⟨l, dC, dI, ad, cA, sa, sv, vf⟩ := g
  obtain ⟨hx, hb, hr, hml, hown, hts, hlk, hK, hD0, hA, hE, hfr, hlc, hnc, hns⟩ := C0
  intro H locs ls hP hS hl
  exact lv_if_lt hx hb hd ht (fun q => kt q H locs ls hP hS hl) (fun q => kf q H locs ls hP hS hl)
theorem f_icmp_lt (C0 : Cx g x cc nL ret own fr lc) {u v : Int32} {off : Int} {tgt : Nat} (hd : decode cc pc = .ok (.if_icmp .lt off, 3)) (ht : (pc : Int) + off = (tgt : Int)) (kt : u < v → FW g x nL d dl tgt lo st) (kf : ¬ u < v → FW g x nL d dl (pc + 3) lo st) : FW g x nL d dl pc lo (.int v :: .int u :: st) := by
  obtain ⟨⟨p, e, R, s, m⟩, ⟨args, below, meth, c⟩, ⟨A, nc, ns, Z⟩⟩ := x
  obtain ⟨l, dC, dI, ad, cA, sa, sv, vf⟩ := g
  obtain ⟨hx, hb, hr, hml, hown, hts, hlk, hK, hD0, hA, hE, hfr, hlc, hnc, hns⟩ := C0
  intro H locs ls hP hS hl
  exact lv_icmp_lt hx hb hd ht (fun q => kt q H locs ls hP hS hl) (fun q => kf q H locs ls hP hS hl)
theorem f_if_ge (C0 : Cx g x cc nL ret own fr lc) {u : Int32} {off : Int} {tgt : Nat} (hd : decode cc pc = .ok (.ifCond .ge off, 3)) (ht : (pc : Int) + off = (tgt : Int)) (kt : 0 ≤ u → FW g x nL d dl tgt lo st) (kf : ¬ 0 ≤ u → FW g x nL d dl (pc + 3) lo st) : FW g x nL d dl pc lo (.int u :: st) := by
  obtain ⟨⟨p, e, R, s, m⟩, ⟨args, below, meth, c⟩, ⟨A, nc, ns, Z⟩⟩ := x
  obtain ⟨l, dC, dI, ad, cA, sa, sv, vf⟩ := g
  obtain ⟨hx, hb, hr, hml, hown, hts, hlk, hK, hD0, hA, hE, hfr, hlc, hnc, hns⟩ := C0
  intro H locs ls hP hS hl
  exact lv_if_ge hx hb hd ht (fun q => kt q H locs ls hP hS hl) (fun q => kf q H locs ls hP hS hl)
theorem f_icmp_ge (C0 : Cx g x cc nL ret own fr lc) {u v : Int32} {off : Int} {tgt : Nat} (hd : decode cc pc = .ok (.if_icmp .ge off, 3)) (ht : (pc : Int) + off = (tgt : Int)) (kt : v ≤ u → FW g x nL d dl tgt lo st) (kf : ¬ v ≤ u → FW g x nL d dl (pc + 3) lo st) : FW g x nL d dl pc lo (.int v :: .int u :: st) := by
  obtain ⟨⟨p, e, R, s, m⟩, ⟨args, below, meth, c⟩, ⟨A, nc, ns, Z⟩⟩ := x
  obtain ⟨l, dC, dI, ad, cA, sa, sv, vf⟩ := g
  obtain ⟨hx, hb, hr, hml, hown, hts, hlk, hK, hD0, hA, hE, hfr, hlc, hnc, hns⟩ := C0
  intro H locs ls hP hS hl
  exact lv_icmp_ge hx hb hd ht (fun q => kt q H locs ls hP hS hl) (fun q => kf q H locs ls hP hS hl)
theorem f_if_gt (C0 : Cx g x cc nL ret own fr lc) {u : Int32} {off : Int} {tgt : Nat} (hd : decode cc pc = .ok (.ifCond .gt off, 3)) (ht : (pc : Int) + off = (tgt : Int)) (kt : 0 < u → FW g x nL d dl tgt lo st) (kf : ¬ 0 < u → FW g x nL d dl (pc + 3) lo st) : FW g x nL d dl pc lo (.int u :: st) := by
  obtain ⟨⟨p, e, R, s, m⟩, ⟨args, below, meth, c⟩, ⟨A, nc, ns, Z⟩⟩ := x
  obtain ⟨l, dC, dI, ad, cA, sa, sv, vf⟩ := g
  obtain ⟨hx, hb, hr, hml, hown, hts, hlk, hK, hD0, hA, hE, hfr, hlc, hnc, hns⟩ := C0
  intro H locs ls hP hS hl
  exact lv_if_gt hx hb hd ht (fun q => kt q H locs ls hP hS hl) (fun q => kf q H locs ls hP hS hl)
theorem f_icmp_gt (C0 : Cx g x cc nL ret own fr lc) {u v : Int32} {off : Int} {tgt : Nat} (hd : decode cc pc = .ok (.if_icmp .gt off, 3)) (ht : (pc : Int) + off = (tgt : Int)) (kt : v < u → FW g x nL d dl tgt lo st) (kf : ¬ v < u → FW g x nL d dl (pc + 3) lo st) : FW g x nL d dl pc lo (.int v :: .int u :: st) := by
  obtain ⟨⟨p, e, R, s, m⟩, ⟨args, below, meth, c⟩, ⟨A, nc, ns, Z⟩⟩ := x
  obtain ⟨l, dC, dI, ad, cA, sa, sv, vf⟩ := g
  obtain ⟨hx, hb, hr, hml, hown, hts, hlk, hK, hD0, hA, hE, hfr, hlc, hnc, hns⟩ := C0
  intro H locs ls hP hS hl
  exact lv_icmp_gt hx hb hd ht (fun q => kt q H locs ls hP hS hl) (fun q => kf q H locs ls hP hS hl)
theorem f_if_le (C0 : Cx g x cc nL ret own fr lc) {u : Int32} {off : Int} {tgt : Nat} (hd : decode cc pc = .ok (.ifCond .le off, 3)) (ht : (pc : Int) + off = (tgt : Int)) (kt : u ≤ 0 → FW g x nL d dl tgt lo st) (kf : ¬ u ≤ 0 → FW g x nL d dl (pc + 3) lo st) : FW g x nL d dl pc lo (.int u :: st) := by
  obtain ⟨⟨p, e, R, s, m⟩, ⟨args, below, meth, c⟩, ⟨A, nc, ns, Z⟩⟩ := x
  obtain ⟨l, dC, dI, ad, cA, sa, sv, vf⟩ := g
  obtain ⟨hx, hb, hr, hml, hown, hts, hlk, hK, hD0, hA, hE, hfr, hlc, hnc, hns⟩ := C0
  intro H locs ls hP hS hl
  exact lv_if_le hx hb hd ht (fun q => kt q H locs ls hP hS hl) (fun q => kf q H locs ls hP hS hl)
theorem f_icmp_le (C0 : Cx g x cc nL ret own fr lc) {u v : Int32} {off : Int} {tgt : Nat} (hd : decode cc pc = .ok (.if_icmp .le off, 3)) (ht : (pc : Int) + off = (tgt : Int)) (kt : u ≤ v → FW g x nL d dl tgt lo st) (kf : ¬ u ≤ v → FW g x nL d dl (pc + 3) lo st) : FW g x nL d dl pc lo (.int v :: .int u :: st) := by
  obtain ⟨⟨p, e, R, s, m⟩, ⟨args, below, meth, c⟩, ⟨A, nc, ns, Z⟩⟩ := x
  obtain ⟨l, dC, dI, ad, cA, sa, sv, vf⟩ := g
  obtain ⟨hx, hb, hr, hml, hown, hts, hlk, hK, hD0, hA, hE, hfr, hlc, hnc, hns⟩ := C0
  intro H locs ls hP hS hl
  exact lv_icmp_le hx hb hd ht (fun q => kt q H locs ls hP hS hl) (fun q => kf q H locs ls hP hS hl)
theorem f_goto (C0 : Cx g x cc nL ret own fr lc) {off : Int} {tgt : Nat} (hd : decode cc pc = .ok (.goto off, 3)) (ht : (pc : Int) + off = (tgt : Int)) (h : FW g x nL d dl tgt lo st) : FW g x nL d dl pc lo st := by
  obtain ⟨⟨p, e, R, s, m⟩, ⟨args, below, meth, c⟩, ⟨A, nc, ns, Z⟩⟩ := x
  obtain ⟨l, dC, dI, ad, cA, sa, sv, vf⟩ := g
  obtain ⟨hx, hb, hr, hml, hown, hts, hlk, hK, hD0, hA, hE, hfr, hlc, hnc, hns⟩ := C0
  intro H locs ls hP hS hl
  exact lv_goto hx hb hd ht (h H locs ls hP hS hl)
theorem f_tableOut (C0 : Cx g x cc nL ret own fr lc) {dflt lw hi : Int} {offs : Array Int} {len : Nat} {u : Int32} {tgt : Nat} (hd : decode cc pc = .ok (.tableswitch dflt lw hi offs, len)) (hu : u.toInt < lw ∨ hi < u.toInt) (ht : (pc : Int) + dflt = (tgt : Int)) (h : FW g x nL d dl tgt lo st) : FW g x nL d dl pc lo (.int u :: st) := by
  obtain ⟨⟨p, e, R, s, m⟩, ⟨args, below, meth, c⟩, ⟨A, nc, ns, Z⟩⟩ := x
  obtain ⟨l, dC, dI, ad, cA, sa, sv, vf⟩ := g
  obtain ⟨hx, hb, hr, hml, hown, hts, hlk, hK, hD0, hA, hE, hfr, hlc, hnc, hns⟩ := C0
  intro H locs ls hP hS hl
  exact lv_tableOut hx hb hd hu ht (h H locs ls hP hS hl)
theorem f_tableIn (C0 : Cx g x cc nL ret own fr lc) {dflt lw hi : Int} {offs : Array Int} {len : Nat} {u : Int32} {off : Int} {tgt : Nat} (hd : decode cc pc = .ok (.tableswitch dflt lw hi offs, len)) (h1 : ¬ u.toInt < lw) (h2 : ¬ hi < u.toInt) (ho : offs[(u.toInt - lw).toNat]? = some off) (ht : (pc : Int) + off = (tgt : Int)) (h : FW g x nL d dl tgt lo st) : FW g x nL d dl pc lo (.int u :: st) := by
  obtain ⟨⟨p, e, R, s, m⟩, ⟨args, below, meth, c⟩, ⟨A, nc, ns, Z⟩⟩ := x
  obtain ⟨l, dC, dI, ad, cA, sa, sv, vf⟩ := g
  obtain ⟨hx, hb, hr, hml, hown, hts, hlk, hK, hD0, hA, hE, hfr, hlc, hnc, hns⟩ := C0
  intro H locs ls hP hS hl
  exact lv_tableIn hx hb hd h1 h2 ho ht (h H locs ls hP hS hl)
theorem f_lookup (C0 : Cx g x cc nL ret own fr lc) {dflt : Int} {ps : Array (Int × Int)} {len : Nat} {u : Int32} {off : Int} {tgt : Nat} (hd : decode cc pc = .ok (.lookupswitch dflt ps, len)) (hp : (ps.toList.zip (ps.toList.drop 1)).all (fun (a, next) => a.1 < next.1) = true) (ho : Op.lookupswitch.offset ps.toList dflt u.toInt = off) (ht : (pc : Int) + off = (tgt : Int)) (h : FW g x nL d dl tgt lo st) : FW g x nL d dl pc lo (.int u :: st) := by
  obtain ⟨⟨p, e, R, s, m⟩, ⟨args, below, meth, c⟩, ⟨A, nc, ns, Z⟩⟩ := x
  obtain ⟨l, dC, dI, ad, cA, sa, sv, vf⟩ := g
  obtain ⟨hx, hb, hr, hml, hown, hts, hlk, hK, hD0, hA, hE, hfr, hlc, hnc, hns⟩ := C0
  intro H locs ls hP hS hl
  exact lv_lookup hx hb hd hp ho ht (h H locs ls hP hS hl)
theorem f_aload_n (C0 : Cx g x cc nL ret own fr lc) {k : Fin 4} {i : Nat} {v : Value} (hd : decode cc pc = .ok (.aload_n k, 1)) (hi : (k : Nat) = i) (j : Nat) (hj : lo[j]? = some (i, v)) (hv : ∃ q, v = .ref q) (h : FW g x nL d dl (pc + 1) lo (v :: st)) : FW g x nL d dl pc lo st := by
  obtain ⟨⟨p, e, R, s, m⟩, ⟨args, below, meth, c⟩, ⟨A, nc, ns, Z⟩⟩ := x
  obtain ⟨l, dC, dI, ad, cA, sa, sv, vf⟩ := g
  obtain ⟨hx, hb, hr, hml, hown, hts, hlk, hK, hD0, hA, hE, hfr, hlc, hnc, hns⟩ := C0
  intro H locs ls hP hS hl
  exact by obtain ⟨q, rfl⟩ := hv; exact lv_aload_n hx hb hd hi (lv_at hl j hj) (h H locs ls hP hS hl)
theorem f_aload (C0 : Cx g x cc nL ret own fr lc) {i : Nat} {v : Value} (hd : decode cc pc = .ok (.aload i, 2)) (j : Nat) (hj : lo[j]? = some (i, v)) (hv : ∃ q, v = .ref q) (h : FW g x nL d dl (pc + 2) lo (v :: st)) : FW g x nL d dl pc lo st := by
  obtain ⟨⟨p, e, R, s, m⟩, ⟨args, below, meth, c⟩, ⟨A, nc, ns, Z⟩⟩ := x
  obtain ⟨l, dC, dI, ad, cA, sa, sv, vf⟩ := g
  obtain ⟨hx, hb, hr, hml, hown, hts, hlk, hK, hD0, hA, hE, hfr, hlc, hnc, hns⟩ := C0
  intro H locs ls hP hS hl
  exact by obtain ⟨q, rfl⟩ := hv; exact lv_aload hx hb hd (lv_at hl j hj) (h H locs ls hP hS hl)
theorem f_astore_n (C0 : Cx g x cc nL ret own fr lc) {lo' : List (Nat × Value)} {k : Fin 4} {i : Nat} {v : Value} (hd : decode cc pc = .ok (.astore_n k, 1)) (hi : (k : Nat) = i) (hn : i < nL) (hf : (i, v) :: lo.filter (fun q => !(q.1 == i) && !(q.1 + 1 == i && q.2.category == 2)) = lo') (hv : ∃ q, v = .ref q) (h : FW g x nL d dl (pc + 1) lo' st) : FW g x nL d dl pc lo (v :: st) := by
  obtain ⟨⟨p, e, R, s, m⟩, ⟨args, below, meth, c⟩, ⟨A, nc, ns, Z⟩⟩ := x
  obtain ⟨l, dC, dI, ad, cA, sa, sv, vf⟩ := g
  obtain ⟨hx, hb, hr, hml, hown, hts, hlk, hK, hD0, hA, hE, hfr, hlc, hnc, hns⟩ := C0
  intro H locs ls hP hS hl
  exact by obtain ⟨q, rfl⟩ := hv; exact lv_astore_n hx hb hd hi hl hn hf (fun ls hl => (h H locs ls hP hS hl))
theorem f_astore (C0 : Cx g x cc nL ret own fr lc) {lo' : List (Nat × Value)} {i : Nat} {v : Value} (hd : decode cc pc = .ok (.astore i, 2)) (hn : i < nL) (hf : (i, v) :: lo.filter (fun q => !(q.1 == i) && !(q.1 + 1 == i && q.2.category == 2)) = lo') (hv : ∃ q, v = .ref q) (h : FW g x nL d dl (pc + 2) lo' st) : FW g x nL d dl pc lo (v :: st) := by
  obtain ⟨⟨p, e, R, s, m⟩, ⟨args, below, meth, c⟩, ⟨A, nc, ns, Z⟩⟩ := x
  obtain ⟨l, dC, dI, ad, cA, sa, sv, vf⟩ := g
  obtain ⟨hx, hb, hr, hml, hown, hts, hlk, hK, hD0, hA, hE, hfr, hlc, hnc, hns⟩ := C0
  intro H locs ls hP hS hl
  exact by obtain ⟨q, rfl⟩ := hv; exact lv_astore hx hb hd hl hn hf (fun ls hl => (h H locs ls hP hS hl))
theorem f_pop2 (C0 : Cx g x cc nL ret own fr lc) {a : Value} (hd : decode cc pc = .ok (.pop2, 1)) (ha : a.category = 2) (h : FW g x nL d dl (pc + 1) lo st) : FW g x nL d dl pc lo (a :: st) := by
  obtain ⟨⟨p, e, R, s, m⟩, ⟨args, below, meth, c⟩, ⟨A, nc, ns, Z⟩⟩ := x
  obtain ⟨l, dC, dI, ad, cA, sa, sv, vf⟩ := g
  obtain ⟨hx, hb, hr, hml, hown, hts, hlk, hK, hD0, hA, hE, hfr, hlc, hnc, hns⟩ := C0
  intro H locs ls hP hS hl
  exact lv_pop2_2 hx hb hd ha (h H locs ls hP hS hl)
theorem f_sub {lo' : List (Nat × Value)} (ks : List Nat) (hk : lv_pick lo ks = lo') (h : FW g x nL d dl pc lo' st) : FW g x nL d dl pc lo st := by
  obtain ⟨⟨p, e, R, s, m⟩, ⟨args, below, meth, c⟩, ⟨A, nc, ns, Z⟩⟩ := x
  obtain ⟨l, dC, dI, ad, cA, sa, sv, vf⟩ := g
  intro H locs ls hP hS hl
  exact h H locs ls hP hS (lv_sub hl ks hk)
theorem f_iald (C0 : Cx g x cc nL ret own fr lc) {i n : Nat} {v : Int32} (hi : KL i 11 n) (hin : vp_in v n) (hd : decode cc pc = .ok (.iaload, 1)) (h : FW g x nL d dl (pc + 1) lo (.int (d i v.toNatClampNeg) :: st)) : FW g x nL d dl pc lo (.int v :: rf g i :: st) := by
  obtain ⟨⟨p, e, R, s, m⟩, ⟨args, below, meth, c⟩, ⟨A, nc, ns, Z⟩⟩ := x
  obtain ⟨l, dC, dI, ad, cA, sa, sv, vf⟩ := g
  obtain ⟨hx, hb, hr, hml, hown, hts, hlk, hK, hD0, hA, hE, hfr, hlc, hnc, hns⟩ := C0
  intro H locs ls hP hS hl
  exact va_iald hx hb hK hP i i (at_11 hi.1 hi.2.1) (ty_11 hi.1 hi.2.1) (by rw [hi.2.2]; exact hin) hd (h H locs ls hP hS hl)
theorem f_zald (C0 : Cx g x cc nL ret own fr lc) {i n : Nat} {v : Int32} (hi : KL i 13 n) (hin : vp_in v n) (hd : decode cc pc = .ok (.baload, 1)) (h : FW g x nL d dl (pc + 1) lo (.int (d i v.toNatClampNeg) :: st)) : FW g x nL d dl pc lo (.int v :: rf g i :: st) := by
  obtain ⟨⟨p, e, R, s, m⟩, ⟨args, below, meth, c⟩, ⟨A, nc, ns, Z⟩⟩ := x
  obtain ⟨l, dC, dI, ad, cA, sa, sv, vf⟩ := g
  obtain ⟨hx, hb, hr, hml, hown, hts, hlk, hK, hD0, hA, hE, hfr, hlc, hnc, hns⟩ := C0
  intro H locs ls hP hS hl
  exact va_zald hx hb hK hP i i (at_13 hi.1 hi.2.1) (ty_13 hi.1 hi.2.1) (by rw [hi.2.2]; exact hin) hd (h H locs ls hP hS hl)
theorem f_lald (C0 : Cx g x cc nL ret own fr lc) {i n : Nat} {v : Int32} (hi : KL i 12 n) (hin : vp_in v n) (hd : decode cc pc = .ok (.laload, 1)) (h : FW g x nL d dl (pc + 1) lo (.long (dl i v.toNatClampNeg) :: st)) : FW g x nL d dl pc lo (.int v :: rf g i :: st) := by
  obtain ⟨⟨p, e, R, s, m⟩, ⟨args, below, meth, c⟩, ⟨A, nc, ns, Z⟩⟩ := x
  obtain ⟨l, dC, dI, ad, cA, sa, sv, vf⟩ := g
  obtain ⟨hx, hb, hr, hml, hown, hts, hlk, hK, hD0, hA, hE, hfr, hlc, hnc, hns⟩ := C0
  intro H locs ls hP hS hl
  exact va_lald hx hb hK hP i i (at_12 hi.1 hi.2.1) (ty_12 hi.1 hi.2.1) (by rw [hi.2.2]; exact hin) hd (h H locs ls hP hS hl)
theorem f_iast (C0 : Cx g x cc nL ret own fr lc) {i n : Nat} {v : Int32} {u : Int32} (hi : KL i 11 n) (hin : vp_in v n) (hd : decode cc pc = .ok (.iastore, 1)) (h : FW g x nL (u2 d i v.toNatClampNeg u) dl (pc + 1) lo st) : FW g x nL d dl pc lo (.int u :: .int v :: rf g i :: st) := by
  obtain ⟨⟨p, e, R, s, m⟩, ⟨args, below, meth, c⟩, ⟨A, nc, ns, Z⟩⟩ := x
  obtain ⟨l, dC, dI, ad, cA, sa, sv, vf⟩ := g
  obtain ⟨hx, hb, hr, hml, hown, hts, hlk, hK, hD0, hA, hE, hfr, hlc, hnc, hns⟩ := C0
  intro H locs ls hP hS hl
  refine va_iast hx hb hK hP (D_any hD0) hS i i (at_11 hi.1 hi.2.1) (ty_11 hi.1 hi.2.1) (by rw [hi.2.2]; exact hin) hd (fun H locs hP hD hS => ?_)
  rw [put_11 _ _ hi.1 hi.2.1] at hP
  exact (h H locs ls hP hS hl)
theorem f_zast (C0 : Cx g x cc nL ret own fr lc) {i n : Nat} {v : Int32} {u : Int32} (hi : KL i 13 n) (hin : vp_in v n) (hd : decode cc pc = .ok (.bastore, 1)) (h : FW g x nL (u2 d i v.toNatClampNeg (vp_nar .boolean u)) dl (pc + 1) lo st) : FW g x nL d dl pc lo (.int u :: .int v :: rf g i :: st) := by
  obtain ⟨⟨p, e, R, s, m⟩, ⟨args, below, meth, c⟩, ⟨A, nc, ns, Z⟩⟩ := x
  obtain ⟨l, dC, dI, ad, cA, sa, sv, vf⟩ := g
  obtain ⟨hx, hb, hr, hml, hown, hts, hlk, hK, hD0, hA, hE, hfr, hlc, hnc, hns⟩ := C0
  intro H locs ls hP hS hl
  refine va_zast hx hb hK hP (D_any hD0) hS i i (at_13 hi.1 hi.2.1) (ty_13 hi.1 hi.2.1) (by rw [hi.2.2]; exact hin) hd (fun H locs hP hD hS => ?_)
  rw [put_13 _ _ hi.1 hi.2.1] at hP
  exact (h H locs ls hP hS hl)
theorem f_last (C0 : Cx g x cc nL ret own fr lc) {i n : Nat} {v : Int32} {u : Int64} (hi : KL i 12 n) (hin : vp_in v n) (hd : decode cc pc = .ok (.lastore, 1)) (h : FW g x nL d (l2 dl i v.toNatClampNeg u) (pc + 1) lo st) : FW g x nL d dl pc lo (.long u :: .int v :: rf g i :: st) := by
  obtain ⟨⟨p, e, R, s, m⟩, ⟨args, below, meth, c⟩, ⟨A, nc, ns, Z⟩⟩ := x
  obtain ⟨l, dC, dI, ad, cA, sa, sv, vf⟩ := g
  obtain ⟨hx, hb, hr, hml, hown, hts, hlk, hK, hD0, hA, hE, hfr, hlc, hnc, hns⟩ := C0
  intro H locs ls hP hS hl
  refine va_last hx hb hK hP (D_any hD0) hS i i (at_12 hi.1 hi.2.1) (ty_12 hi.1 hi.2.1) (by rw [hi.2.2]; exact hin) hd (fun H locs hP hD hS => ?_)
  rw [put_12 _ _ hi.1 hi.2.1] at hP
  exact (h H locs ls hP hS hl)
theorem clamp_in {v : Int32} {n : Nat} (h : vp_in v n) : v.toNatClampNeg < n := Nat.lt_of_not_le (fun q => h (Or.inr q))
theorem f_aald14 (C0 : Cx g x cc nL ret own fr lc) {i : Nat} {v : Int32} (hi : KL i 14 6) (hin : vp_in v 6) (hd : decode cc pc = .ok (.aaload, 1)) (h : FW g x nL d dl (pc + 1) lo (rf g (37 + 3 * v.toNatClampNeg) :: st)) : FW g x nL d dl pc lo (.int v :: rf g i :: st) := by
  obtain ⟨⟨p, e, R, s, m⟩, ⟨args, below, meth, c⟩, ⟨A, nc, ns, Z⟩⟩ := x
  obtain ⟨l, dC, dI, ad, cA, sa, sv, vf⟩ := g
  obtain ⟨hx, hb, hr, hml, hown, hts, hlk, hK, hD0, hA, hE, hfr, hlc, hnc, hns⟩ := C0
  intro H locs ls hP hS hl
  refine va_aldq hx hb hK hP i i (at_14 hi.1 hi.2.1) (ty_14 hi.1 hi.2.1) (by rw [hi.2.2]; exact hin) hd ?_
  have h1 := clamp_in hin
  simp only [h1, if_true]
  exact (h H locs ls hP hS hl)
theorem f_aald15 (C0 : Cx g x cc nL ret own fr lc) {i : Nat} {v : Int32} (hi : KL i 15 6) (hin : vp_in v 6) (hd : decode cc pc = .ok (.aaload, 1)) (h : FW g x nL d dl (pc + 1) lo (rf g (55 + 6 * v.toNatClampNeg) :: st)) : FW g x nL d dl pc lo (.int v :: rf g i :: st) := by
  obtain ⟨⟨p, e, R, s, m⟩, ⟨args, below, meth, c⟩, ⟨A, nc, ns, Z⟩⟩ := x
  obtain ⟨l, dC, dI, ad, cA, sa, sv, vf⟩ := g
  obtain ⟨hx, hb, hr, hml, hown, hts, hlk, hK, hD0, hA, hE, hfr, hlc, hnc, hns⟩ := C0
  intro H locs ls hP hS hl
  refine va_aldq hx hb hK hP i i (at_15 hi.1 hi.2.1) (ty_15 hi.1 hi.2.1) (by rw [hi.2.2]; exact hin) hd ?_
  have h1 := clamp_in hin
  simp only [h1, if_true]
  exact (h H locs ls hP hS hl)
theorem f_aald16 (C0 : Cx g x cc nL ret own fr lc) {i : Nat} {v : Int32} (hi : KL i 16 24) (hin : vp_in v 24) (hd : decode cc pc = .ok (.aaload, 1)) (h : FW g x nL d dl (pc + 1) lo (rf g (91 + 5 * v.toNatClampNeg) :: st)) : FW g x nL d dl pc lo (.int v :: rf g i :: st) := by
  obtain ⟨⟨p, e, R, s, m⟩, ⟨args, below, meth, c⟩, ⟨A, nc, ns, Z⟩⟩ := x
  obtain ⟨l, dC, dI, ad, cA, sa, sv, vf⟩ := g
  obtain ⟨hx, hb, hr, hml, hown, hts, hlk, hK, hD0, hA, hE, hfr, hlc, hnc, hns⟩ := C0
  intro H locs ls hP hS hl
  refine va_aldq hx hb hK hP i i (at_16 hi.1 hi.2.1) (ty_16 hi.1 hi.2.1) (by rw [hi.2.2]; exact hin) hd ?_
  have h1 := clamp_in hin
  simp only [h1, if_true]
  exact (h H locs ls hP hS hl)
theorem f_points (C0 : Cx g x cc nL ret own fr lc) (hd : decode cc pc = .ok (.getstatic 45, 3)) (ho : own = RX3) (h : FW g x nL d dl (pc + 3) lo (rs g 19 :: st)) : FW g x nL d dl pc lo st := by
  obtain ⟨⟨p, e, R, s, m⟩, ⟨args, below, meth, c⟩, ⟨A, nc, ns, Z⟩⟩ := x
  obtain ⟨l, dC, dI, ad, cA, sa, sv, vf⟩ := g
  obtain ⟨hx, hb, hr, hml, hown, hts, hlk, hK, hD0, hA, hE, hfr, hlc, hnc, hns⟩ := C0
  intro H locs ls hP hS hl
  exact va_getsN hx hb hE.2.2.2.2.2.1 hS hown (va_Nw.use rfl (by rw [ho]; exact hE.2.2.1.2.2.2)) (fun _ h9 => h9) hd (h H locs ls hP hS hl)
theorem f_plen (C0 : Cx g x cc nL ret own fr lc) (hd : decode cc pc = .ok (.arraylength, 1)) (h : FW g x nL d dl (pc + 1) lo (.int 6 :: st)) : FW g x nL d dl pc lo (rs g 19 :: st) := by
  obtain ⟨⟨p, e, R, s, m⟩, ⟨args, below, meth, c⟩, ⟨A, nc, ns, Z⟩⟩ := x
  obtain ⟨l, dC, dI, ad, cA, sa, sv, vf⟩ := g
  obtain ⟨hx, hb, hr, hml, hown, hts, hlk, hK, hD0, hA, hE, hfr, hlc, hnc, hns⟩ := C0
  intro H locs ls hP hS hl
  exact va_tlen (v := 6) hx hb hE.2.2.2.2.2.2.1 hS (by decide) hd (h H locs ls hP hS hl)
theorem f_pald (C0 : Cx g x cc nL ret own fr lc) {v : Int32} (hin : vp_in v 6) (hd : decode cc pc = .ok (.iaload, 1)) (h : FW g x nL d dl (pc + 1) lo (.int (([10, 8, 6, 5, 4, 3] : List Int32).getD v.toNatClampNeg 0) :: st)) : FW g x nL d dl pc lo (.int v :: rs g 19 :: st) := by
  obtain ⟨⟨p, e, R, s, m⟩, ⟨args, below, meth, c⟩, ⟨A, nc, ns, Z⟩⟩ := x
  obtain ⟨l, dC, dI, ad, cA, sa, sv, vf⟩ := g
  obtain ⟨hx, hb, hr, hml, hown, hts, hlk, hK, hD0, hA, hE, hfr, hlc, hnc, hns⟩ := C0
  intro H locs ls hP hS hl
  exact va_ti hx hb hE.2.2.2.2.2.2.1 hS hin rfl hd (h H locs ls hP hS hl)
theorem f_scoder (C0 : Cx g x cc nL ret own fr lc) {w index : Nat} (hw : w < 19) (hk : Cond.fieldLink own index "java/lang/String" "coder" "B" ∈ GW) (hd : decode cc pc = .ok (.getfield index, 3)) (h : FW g x nL d dl (pc + 3) lo (.int 0 :: st)) : FW g x nL d dl pc lo (rs g w :: st) := by
  obtain ⟨⟨p, e, R, s, m⟩, ⟨args, below, meth, c⟩, ⟨A, nc, ns, Z⟩⟩ := x
  obtain ⟨l, dC, dI, ad, cA, sa, sv, vf⟩ := g
  obtain ⟨hx, hb, hr, hml, hown, hts, hlk, hK, hD0, hA, hE, hfr, hlc, hnc, hns⟩ := C0
  intro H locs ls hP hS hl
  exact vk_getf hx hb (hE.1 w hw).2.1 hS hown (hts _ hk) (fun _ h9 => h9) hd (h H locs ls hP hS hl)
theorem f_svalue (C0 : Cx g x cc nL ret own fr lc) {w index : Nat} (hw : w < 19) (hk : Cond.fieldLink own index "java/lang/String" "value" "[B" ∈ GW) (hd : decode cc pc = .ok (.getfield index, 3)) (h : FW g x nL d dl (pc + 3) lo (rv g w :: st)) : FW g x nL d dl pc lo (rs g w :: st) := by
  obtain ⟨⟨p, e, R, s, m⟩, ⟨args, below, meth, c⟩, ⟨A, nc, ns, Z⟩⟩ := x
  obtain ⟨l, dC, dI, ad, cA, sa, sv, vf⟩ := g
  obtain ⟨hx, hb, hr, hml, hown, hts, hlk, hK, hD0, hA, hE, hfr, hlc, hnc, hns⟩ := C0
  intro H locs ls hP hS hl
  exact vk_getf hx hb (hE.1 w hw).2.2.1 hS hown (hts _ hk) (fun _ h9 => h9) hd (h H locs ls hP hS hl)
theorem f_slen (C0 : Cx g x cc nL ret own fr lc) {w : Nat} (hw : w < 19) (hd : decode cc pc = .ok (.arraylength, 1)) (h : FW g x nL d dl (pc + 1) lo (.int (Int32.ofNat (sbs w).length) :: st)) : FW g x nL d dl pc lo (rv g w :: st) := by
  obtain ⟨⟨p, e, R, s, m⟩, ⟨args, below, meth, c⟩, ⟨A, nc, ns, Z⟩⟩ := x
  obtain ⟨l, dC, dI, ad, cA, sa, sv, vf⟩ := g
  obtain ⟨hx, hb, hr, hml, hown, hts, hlk, hK, hD0, hA, hE, hfr, hlc, hnc, hns⟩ := C0
  intro H locs ls hP hS hl
  exact va_tlen hx hb (hE.1 w hw).2.2.2 hS rfl hd (h H locs ls hP hS hl)
theorem f_sald (C0 : Cx g x cc nL ret own fr lc) {w : Nat} {v : Int32} (hw : w < 19) (hin : vp_in v (sbs w).length) (hd : decode cc pc = .ok (.baload, 1)) (h : FW g x nL d dl (pc + 1) lo (.int ((sbs w).getD v.toNatClampNeg 0) :: st)) : FW g x nL d dl pc lo (.int v :: rv g w :: st) := by
  obtain ⟨⟨p, e, R, s, m⟩, ⟨args, below, meth, c⟩, ⟨A, nc, ns, Z⟩⟩ := x
  obtain ⟨l, dC, dI, ad, cA, sa, sv, vf⟩ := g
  obtain ⟨hx, hb, hr, hml, hown, hts, hlk, hK, hD0, hA, hE, hfr, hlc, hnc, hns⟩ := C0
  intro H locs ls hP hS hl
  exact va_tb hx hb (hE.1 w hw).2.2.2 hS hin rfl hd (h H locs ls hP hS hl)
theorem f_compact (C0 : Cx g x cc nL ret own fr lc) {index : Nat} (hk : Cond.fieldLink own index "java/lang/String" "COMPACT_STRINGS" "Z" ∈ GW) (hd : decode cc pc = .ok (.getstatic index, 3)) (h : FW g x nL d dl (pc + 3) lo (.int 1 :: st)) : FW g x nL d dl pc lo st := by
  obtain ⟨⟨p, e, R, s, m⟩, ⟨args, below, meth, c⟩, ⟨A, nc, ns, Z⟩⟩ := x
  obtain ⟨l, dC, dI, ad, cA, sa, sv, vf⟩ := g
  obtain ⟨hx, hb, hr, hml, hown, hts, hlk, hK, hD0, hA, hE, hfr, hlc, hnc, hns⟩ := C0
  intro H locs ls hP hS hl
  exact va_gets hx hb hE.2.2.2.1 hS hown (hts _ hk) (fun _ h9 => h9) hd (h H locs ls hP hS hl)
theorem f_form (C0 : Cx g x cc nL ret own fr lc) {index : Nat} (hk : Cond.fieldLink own index "jdk/internal/util/Preconditions" "SIOOBE_FORMATTER" "Ljava/util/function/BiFunction;" ∈ GW) (hd : decode cc pc = .ok (.getstatic index, 3)) (h : FW g x nL d dl (pc + 3) lo (rz g :: st)) : FW g x nL d dl pc lo st := by
  obtain ⟨⟨p, e, R, s, m⟩, ⟨args, below, meth, c⟩, ⟨A, nc, ns, Z⟩⟩ := x
  obtain ⟨l, dC, dI, ad, cA, sa, sv, vf⟩ := g
  obtain ⟨hx, hb, hr, hml, hown, hts, hlk, hK, hD0, hA, hE, hfr, hlc, hnc, hns⟩ := C0
  intro H locs ls hP hS hl
  exact va_gets hx hb hE.2.2.2.2.1 hS hown (hts _ hk) (fun _ h9 => h9) hd (h H locs ls hP hS hl)
theorem f_iret (C0 : Cx g x cc nL (some .int) own fr lc) {Q : Int32 → DD → LL → Prop} {v : Int32} (hZ : Zi g x Q) (hq : Q v d dl) (hd : decode cc pc = .ok (.ireturn, 1)) : FW g x nL d dl pc lo [.int v] := by
  obtain ⟨⟨p, e, R, s, m⟩, ⟨args, below, meth, c⟩, ⟨A, nc, ns, Z⟩⟩ := x
  obtain ⟨l, dC, dI, ad, cA, sa, sv, vf⟩ := g
  obtain ⟨hx, hb, hr, hml, hown, hts, hlk, hK, hD0, hA, hE, hfr, hlc, hnc, hns⟩ := C0
  obtain ⟨rfl, rfl⟩ := hZ
  intro H locs ls hP hS hl
  exact W.iret (v := v) hx hb hr (fun t ht hW => ⟨⟨v, (d, dl), rfl, hq, by subst ht; exact hP⟩, hS.F ht⟩) hS.2.2 hd hlk
theorem f_lret (C0 : Cx g x cc nL (some .long) own fr lc) {Q : Int64 → DD → LL → Prop} {v : Int64} (hZ : Zl g x Q) (hq : Q v d dl) (hd : decode cc pc = .ok (.lreturn, 1)) : FW g x nL d dl pc lo [.long v] := by
  obtain ⟨⟨p, e, R, s, m⟩, ⟨args, below, meth, c⟩, ⟨A, nc, ns, Z⟩⟩ := x
  obtain ⟨l, dC, dI, ad, cA, sa, sv, vf⟩ := g
  obtain ⟨hx, hb, hr, hml, hown, hts, hlk, hK, hD0, hA, hE, hfr, hlc, hnc, hns⟩ := C0
  obtain ⟨rfl, rfl⟩ := hZ
  intro H locs ls hP hS hl
  exact W.lret (v := v) hx hb hr (fun t ht hW => ⟨⟨v, (d, dl), rfl, hq, by subst ht; exact hP⟩, hS.F ht⟩) hS.2.2 hd hlk
theorem f_zret {ty : FieldType} (C0 : Cx g x cc nL (some ty) own fr lc) {Q : Int32 → DD → LL → Prop} {v : Int32} (hZ : Zi g x Q) (hn : narrow ty (.int v) = .int v) (hq : Q v d dl) (hd : decode cc pc = .ok (.ireturn, 1)) : FW g x nL d dl pc lo [.int v] := by
  obtain ⟨⟨p, e, R, s, m⟩, ⟨args, below, meth, c⟩, ⟨A, nc, ns, Z⟩⟩ := x
  obtain ⟨l, dC, dI, ad, cA, sa, sv, vf⟩ := g
  obtain ⟨hx, hb, hr, hml, hown, hts, hlk, hK, hD0, hA, hE, hfr, hlc, hnc, hns⟩ := C0
  obtain ⟨rfl, rfl⟩ := hZ
  intro H locs ls hP hS hl
  exact W.zret (v := v) hx hb hr hn (fun t ht hW => ⟨⟨v, (d, dl), rfl, hq, by subst ht; exact hP⟩, hS.F ht⟩) hS.2.2 hd hlk
theorem f_vret (C0 : Cx g x cc nL none own fr lc) {Q : DD → LL → Prop} (hZ : Zv g x Q) (hq : Q d dl) (hd : decode cc pc = .ok (.return_, 1)) : FW g x nL d dl pc lo [] := by
  obtain ⟨⟨p, e, R, s, m⟩, ⟨args, below, meth, c⟩, ⟨A, nc, ns, Z⟩⟩ := x
  obtain ⟨l, dC, dI, ad, cA, sa, sv, vf⟩ := g
  obtain ⟨hx, hb, hr, hml, hown, hts, hlk, hK, hD0, hA, hE, hfr, hlc, hnc, hns⟩ := C0
  obtain ⟨rfl, rfl⟩ := hZ
  intro H locs ls hP hS hl
  exact W.vret hx hb hr (fun t ht hW => ⟨⟨(d, dl), rfl, hq, by subst ht; exact hP⟩, hS.F ht⟩) hS.2.2 hd hlk
theorem f_aret {nm : String} (C0 : Cx g x cc nL (some (.object nm)) own fr lc) {Q : Nat → DD → LL → Prop} {w : Nat} (hZ : Zr g x Q) (hq : Q w d dl) (hd : decode cc pc = .ok (.areturn, 1)) : FW g x nL d dl pc lo [rs g w] := by
  obtain ⟨⟨p, e, R, s, m⟩, ⟨args, below, meth, c⟩, ⟨A, nc, ns, Z⟩⟩ := x
  obtain ⟨l, dC, dI, ad, cA, sa, sv, vf⟩ := g
  obtain ⟨hx, hb, hr, hml, hown, hts, hlk, hK, hD0, hA, hE, hfr, hlc, hnc, hns⟩ := C0
  obtain ⟨rfl, rfl⟩ := hZ
  intro H locs ls hP hS hl
  exact W.aret (v := .ref (sa w)) hx hb hr (Or.inl ⟨_, rfl⟩) (Or.inr ⟨_, rfl⟩) (fun t ht hW => ⟨⟨(w, d, dl), sa w, rfl, hq, rfl, by subst ht; exact hP⟩, hS.F ht⟩) hS.2.2 hd hlk
end FROWS
end
section
section FFIELDS
variable {g : Ex} {x : Fx} {cc : ByteArray} {nL fr lc pc : Nat} {ret : Option FieldType} {own : String} {d : DD} {dl : LL} {lo : List (Nat × Value)} {st : List Value}
theorem gf_0_0 (C0 : Cx g x cc nL ret own fr lc) {i index : Nat} (hi : KD i 0) (hw : Cond.fieldLink own index "DrumBoats$Course" "hundredths" "I" ∈ GW) (hd : decode cc pc = .ok (.getfield index, 3)) (h : FW g x nL d dl (pc + 3) lo (.int (d i 0) :: st)) : FW g x nL d dl pc lo (rf g i :: st) := by
  obtain ⟨⟨p, e, R, s, m⟩, ⟨args, below, meth, c⟩, ⟨A, nc, ns, Z⟩⟩ := x
  obtain ⟨l, dC, dI, ad, cA, sa, sv, vf⟩ := g
  obtain ⟨hx, hb, hr, hml, hown, hts, hlk, hK, hD0, hA, hE, hfr, hlc, hnc, hns⟩ := C0
  intro H locs ls hP hS hl
  exact va_get (D := (dC, dI)) (ci := 0) (C := RX0) (T := TX0) (N := 2) hx hb hts inX0 hown hK hP i (at_0 hi.1 hi.2) rfl 0 (by decide) (hts _ hw) (fun _ h9 => h9) rfl hd (h H locs ls hP hS hl)
theorem pf_0_0 (C0 : Cx g x cc nL ret own fr lc) {i index : Nat} {v : Int32} (hi : KD i 0) (hw : Cond.fieldLink own index "DrumBoats$Course" "hundredths" "I" ∈ GW) (hd : decode cc pc = .ok (.putfield index, 3)) (h : FW g x nL (u2 d i 0 v) dl (pc + 3) lo st) : FW g x nL d dl pc lo (.int v :: rf g i :: st) := by
  obtain ⟨⟨p, e, R, s, m⟩, ⟨args, below, meth, c⟩, ⟨A, nc, ns, Z⟩⟩ := x
  obtain ⟨l, dC, dI, ad, cA, sa, sv, vf⟩ := g
  obtain ⟨hx, hb, hr, hml, hown, hts, hlk, hK, hD0, hA, hE, hfr, hlc, hnc, hns⟩ := C0
  intro H locs ls hP hS hl
  refine va_put (D := (dC, dI)) (ci := 0) (ty := .int) (C := RX0) (T := TX0) (N := 2) hx hb hts inX0 tyX0 tyX0_ok nmX0 hown hK hP (D_any hD0) hS i (at_0 hi.1 hi.2) rfl 0 (by decide) (hts _ hw) (fun _ h9 => h9) rfl (by decide +kernel) rfl rfl (Nat.le_of_ble_eq_true rfl) hd (fun H locs hP hD hS => ?_)
  rw [put_0_0 v hi.1 hi.2] at hP
  exact (h H locs ls hP hS hl)
theorem gf_0_1 (C0 : Cx g x cc nL ret own fr lc) {i index : Nat} (hi : KD i 0) (hw : Cond.fieldLink own index "DrumBoats$Course" "gone" "I" ∈ GW) (hd : decode cc pc = .ok (.getfield index, 3)) (h : FW g x nL d dl (pc + 3) lo (.int (d i 1) :: st)) : FW g x nL d dl pc lo (rf g i :: st) := by
  obtain ⟨⟨p, e, R, s, m⟩, ⟨args, below, meth, c⟩, ⟨A, nc, ns, Z⟩⟩ := x
  obtain ⟨l, dC, dI, ad, cA, sa, sv, vf⟩ := g
  obtain ⟨hx, hb, hr, hml, hown, hts, hlk, hK, hD0, hA, hE, hfr, hlc, hnc, hns⟩ := C0
  intro H locs ls hP hS hl
  exact va_get (D := (dC, dI)) (ci := 0) (C := RX0) (T := TX0) (N := 2) hx hb hts inX0 hown hK hP i (at_0 hi.1 hi.2) rfl 1 (by decide) (hts _ hw) (fun _ h9 => h9) rfl hd (h H locs ls hP hS hl)
theorem pf_0_1 (C0 : Cx g x cc nL ret own fr lc) {i index : Nat} {v : Int32} (hi : KD i 0) (hw : Cond.fieldLink own index "DrumBoats$Course" "gone" "I" ∈ GW) (hd : decode cc pc = .ok (.putfield index, 3)) (h : FW g x nL (u2 d i 1 v) dl (pc + 3) lo st) : FW g x nL d dl pc lo (.int v :: rf g i :: st) := by
  obtain ⟨⟨p, e, R, s, m⟩, ⟨args, below, meth, c⟩, ⟨A, nc, ns, Z⟩⟩ := x
  obtain ⟨l, dC, dI, ad, cA, sa, sv, vf⟩ := g
  obtain ⟨hx, hb, hr, hml, hown, hts, hlk, hK, hD0, hA, hE, hfr, hlc, hnc, hns⟩ := C0
  intro H locs ls hP hS hl
  refine va_put (D := (dC, dI)) (ci := 0) (ty := .int) (C := RX0) (T := TX0) (N := 2) hx hb hts inX0 tyX0 tyX0_ok nmX0 hown hK hP (D_any hD0) hS i (at_0 hi.1 hi.2) rfl 1 (by decide) (hts _ hw) (fun _ h9 => h9) rfl (by decide +kernel) rfl rfl (Nat.le_of_ble_eq_true rfl) hd (fun H locs hP hD hS => ?_)
  rw [put_0_1 v hi.1 hi.2] at hP
  exact (h H locs ls hP hS hl)
theorem gf_1_0 (C0 : Cx g x cc nL ret own fr lc) {i index : Nat} (hi : KD i 1) (hw : Cond.fieldLink own index "DrumBoats$Crew" "rows" "I" ∈ GW) (hd : decode cc pc = .ok (.getfield index, 3)) (h : FW g x nL d dl (pc + 3) lo (.int (d i 0) :: st)) : FW g x nL d dl pc lo (rf g i :: st) := by
  obtain ⟨⟨p, e, R, s, m⟩, ⟨args, below, meth, c⟩, ⟨A, nc, ns, Z⟩⟩ := x
  obtain ⟨l, dC, dI, ad, cA, sa, sv, vf⟩ := g
  obtain ⟨hx, hb, hr, hml, hown, hts, hlk, hK, hD0, hA, hE, hfr, hlc, hnc, hns⟩ := C0
  intro H locs ls hP hS hl
  exact va_get (D := (dC, dI)) (ci := 1) (C := RX1) (T := TX1) (N := 8) hx hb hts inX1 hown hK hP i (at_1 hi.1 hi.2) rfl 0 (by decide) (hts _ hw) (fun _ h9 => h9) rfl hd (h H locs ls hP hS hl)
theorem pf_1_0 (C0 : Cx g x cc nL ret own fr lc) {i index : Nat} {v : Int32} (hi : KD i 1) (hw : Cond.fieldLink own index "DrumBoats$Crew" "rows" "I" ∈ GW) (hd : decode cc pc = .ok (.putfield index, 3)) (h : FW g x nL (u2 d i 0 v) dl (pc + 3) lo st) : FW g x nL d dl pc lo (.int v :: rf g i :: st) := by
  obtain ⟨⟨p, e, R, s, m⟩, ⟨args, below, meth, c⟩, ⟨A, nc, ns, Z⟩⟩ := x
  obtain ⟨l, dC, dI, ad, cA, sa, sv, vf⟩ := g
  obtain ⟨hx, hb, hr, hml, hown, hts, hlk, hK, hD0, hA, hE, hfr, hlc, hnc, hns⟩ := C0
  intro H locs ls hP hS hl
  refine va_put (D := (dC, dI)) (ci := 1) (ty := .int) (C := RX1) (T := TX1) (N := 8) hx hb hts inX1 tyX1 tyX1_ok nmX1 hown hK hP (D_any hD0) hS i (at_1 hi.1 hi.2) rfl 0 (by decide) (hts _ hw) (fun _ h9 => h9) rfl (by decide +kernel) rfl rfl (Nat.le_of_ble_eq_true rfl) hd (fun H locs hP hD hS => ?_)
  rw [put_1_0 v hi.1 hi.2] at hP
  exact (h H locs ls hP hS hl)
theorem gf_1_1 (C0 : Cx g x cc nL ret own fr lc) {i index : Nat} (hi : KD i 1) (hw : Cond.fieldLink own index "DrumBoats$Crew" "drummer" "I" ∈ GW) (hd : decode cc pc = .ok (.getfield index, 3)) (h : FW g x nL d dl (pc + 3) lo (.int (d i 1) :: st)) : FW g x nL d dl pc lo (rf g i :: st) := by
  obtain ⟨⟨p, e, R, s, m⟩, ⟨args, below, meth, c⟩, ⟨A, nc, ns, Z⟩⟩ := x
  obtain ⟨l, dC, dI, ad, cA, sa, sv, vf⟩ := g
  obtain ⟨hx, hb, hr, hml, hown, hts, hlk, hK, hD0, hA, hE, hfr, hlc, hnc, hns⟩ := C0
  intro H locs ls hP hS hl
  exact va_get (D := (dC, dI)) (ci := 1) (C := RX1) (T := TX1) (N := 8) hx hb hts inX1 hown hK hP i (at_1 hi.1 hi.2) rfl 1 (by decide) (hts _ hw) (fun _ h9 => h9) rfl hd (h H locs ls hP hS hl)
theorem pf_1_1 (C0 : Cx g x cc nL ret own fr lc) {i index : Nat} {v : Int32} (hi : KD i 1) (hw : Cond.fieldLink own index "DrumBoats$Crew" "drummer" "I" ∈ GW) (hd : decode cc pc = .ok (.putfield index, 3)) (h : FW g x nL (u2 d i 1 v) dl (pc + 3) lo st) : FW g x nL d dl pc lo (.int v :: rf g i :: st) := by
  obtain ⟨⟨p, e, R, s, m⟩, ⟨args, below, meth, c⟩, ⟨A, nc, ns, Z⟩⟩ := x
  obtain ⟨l, dC, dI, ad, cA, sa, sv, vf⟩ := g
  obtain ⟨hx, hb, hr, hml, hown, hts, hlk, hK, hD0, hA, hE, hfr, hlc, hnc, hns⟩ := C0
  intro H locs ls hP hS hl
  refine va_put (D := (dC, dI)) (ci := 1) (ty := .int) (C := RX1) (T := TX1) (N := 8) hx hb hts inX1 tyX1 tyX1_ok nmX1 hown hK hP (D_any hD0) hS i (at_1 hi.1 hi.2) rfl 1 (by decide) (hts _ hw) (fun _ h9 => h9) rfl (by decide +kernel) rfl rfl (Nat.le_of_ble_eq_true rfl) hd (fun H locs hP hD hS => ?_)
  rw [put_1_1 v hi.1 hi.2] at hP
  exact (h H locs ls hP hS hl)
theorem gf_1_2 (C0 : Cx g x cc nL ret own fr lc) {i index : Nat} (hi : KD i 1) (hw : Cond.fieldLink own index "DrumBoats$Crew" "drumBeat" "I" ∈ GW) (hd : decode cc pc = .ok (.getfield index, 3)) (h : FW g x nL d dl (pc + 3) lo (.int (d i 2) :: st)) : FW g x nL d dl pc lo (rf g i :: st) := by
  obtain ⟨⟨p, e, R, s, m⟩, ⟨args, below, meth, c⟩, ⟨A, nc, ns, Z⟩⟩ := x
  obtain ⟨l, dC, dI, ad, cA, sa, sv, vf⟩ := g
  obtain ⟨hx, hb, hr, hml, hown, hts, hlk, hK, hD0, hA, hE, hfr, hlc, hnc, hns⟩ := C0
  intro H locs ls hP hS hl
  exact va_get (D := (dC, dI)) (ci := 1) (C := RX1) (T := TX1) (N := 8) hx hb hts inX1 hown hK hP i (at_1 hi.1 hi.2) rfl 2 (by decide) (hts _ hw) (fun _ h9 => h9) rfl hd (h H locs ls hP hS hl)
theorem pf_1_2 (C0 : Cx g x cc nL ret own fr lc) {i index : Nat} {v : Int32} (hi : KD i 1) (hw : Cond.fieldLink own index "DrumBoats$Crew" "drumBeat" "I" ∈ GW) (hd : decode cc pc = .ok (.putfield index, 3)) (h : FW g x nL (u2 d i 2 v) dl (pc + 3) lo st) : FW g x nL d dl pc lo (.int v :: rf g i :: st) := by
  obtain ⟨⟨p, e, R, s, m⟩, ⟨args, below, meth, c⟩, ⟨A, nc, ns, Z⟩⟩ := x
  obtain ⟨l, dC, dI, ad, cA, sa, sv, vf⟩ := g
  obtain ⟨hx, hb, hr, hml, hown, hts, hlk, hK, hD0, hA, hE, hfr, hlc, hnc, hns⟩ := C0
  intro H locs ls hP hS hl
  refine va_put (D := (dC, dI)) (ci := 1) (ty := .int) (C := RX1) (T := TX1) (N := 8) hx hb hts inX1 tyX1 tyX1_ok nmX1 hown hK hP (D_any hD0) hS i (at_1 hi.1 hi.2) rfl 2 (by decide) (hts _ hw) (fun _ h9 => h9) rfl (by decide +kernel) rfl rfl (Nat.le_of_ble_eq_true rfl) hd (fun H locs hP hD hS => ?_)
  rw [put_1_2 v hi.1 hi.2] at hP
  exact (h H locs ls hP hS hl)
theorem gf_1_3 (C0 : Cx g x cc nL ret own fr lc) {i index : Nat} (hi : KD i 1) (hw : Cond.fieldLink own index "DrumBoats$Crew" "memberCount" "I" ∈ GW) (hd : decode cc pc = .ok (.getfield index, 3)) (h : FW g x nL d dl (pc + 3) lo (.int (d i 3) :: st)) : FW g x nL d dl pc lo (rf g i :: st) := by
  obtain ⟨⟨p, e, R, s, m⟩, ⟨args, below, meth, c⟩, ⟨A, nc, ns, Z⟩⟩ := x
  obtain ⟨l, dC, dI, ad, cA, sa, sv, vf⟩ := g
  obtain ⟨hx, hb, hr, hml, hown, hts, hlk, hK, hD0, hA, hE, hfr, hlc, hnc, hns⟩ := C0
  intro H locs ls hP hS hl
  exact va_get (D := (dC, dI)) (ci := 1) (C := RX1) (T := TX1) (N := 8) hx hb hts inX1 hown hK hP i (at_1 hi.1 hi.2) rfl 3 (by decide) (hts _ hw) (fun _ h9 => h9) rfl hd (h H locs ls hP hS hl)
theorem pf_1_3 (C0 : Cx g x cc nL ret own fr lc) {i index : Nat} {v : Int32} (hi : KD i 1) (hw : Cond.fieldLink own index "DrumBoats$Crew" "memberCount" "I" ∈ GW) (hd : decode cc pc = .ok (.putfield index, 3)) (h : FW g x nL (u2 d i 3 v) dl (pc + 3) lo st) : FW g x nL d dl pc lo (.int v :: rf g i :: st) := by
  obtain ⟨⟨p, e, R, s, m⟩, ⟨args, below, meth, c⟩, ⟨A, nc, ns, Z⟩⟩ := x
  obtain ⟨l, dC, dI, ad, cA, sa, sv, vf⟩ := g
  obtain ⟨hx, hb, hr, hml, hown, hts, hlk, hK, hD0, hA, hE, hfr, hlc, hnc, hns⟩ := C0
  intro H locs ls hP hS hl
  refine va_put (D := (dC, dI)) (ci := 1) (ty := .int) (C := RX1) (T := TX1) (N := 8) hx hb hts inX1 tyX1 tyX1_ok nmX1 hown hK hP (D_any hD0) hS i (at_1 hi.1 hi.2) rfl 3 (by decide) (hts _ hw) (fun _ h9 => h9) rfl (by decide +kernel) rfl rfl (Nat.le_of_ble_eq_true rfl) hd (fun H locs hP hD hS => ?_)
  rw [put_1_3 v hi.1 hi.2] at hP
  exact (h H locs ls hP hS hl)
theorem gf_1_4 (C0 : Cx g x cc nL ret own fr lc) {i index : Nat} {r : Nat} (hr9 : i + 1 = r) (hi : KD i 1) (hw : Cond.fieldLink own index "DrumBoats$Crew" "members" "[I" ∈ GW) (hd : decode cc pc = .ok (.getfield index, 3)) (h : FW g x nL d dl (pc + 3) lo (rf g r :: st)) : FW g x nL d dl pc lo (rf g i :: st) := by
  subst hr9
  obtain ⟨⟨p, e, R, s, m⟩, ⟨args, below, meth, c⟩, ⟨A, nc, ns, Z⟩⟩ := x
  obtain ⟨l, dC, dI, ad, cA, sa, sv, vf⟩ := g
  obtain ⟨hx, hb, hr, hml, hown, hts, hlk, hK, hD0, hA, hE, hfr, hlc, hnc, hns⟩ := C0
  intro H locs ls hP hS hl
  exact va_get (D := (dC, dI)) (ci := 1) (C := RX1) (T := TX1) (N := 8) hx hb hts inX1 hown hK hP i (at_1 hi.1 hi.2) rfl 4 (by decide) (hts _ hw) (fun _ h9 => h9) rfl hd (h H locs ls hP hS hl)
theorem gf_1_5 (C0 : Cx g x cc nL ret own fr lc) {i index : Nat} (hi : KD i 1) (hw : Cond.fieldLink own index "DrumBoats$Crew" "memberBits" "J" ∈ GW) (hd : decode cc pc = .ok (.getfield index, 3)) (h : FW g x nL d dl (pc + 3) lo (.long (dl i 5) :: st)) : FW g x nL d dl pc lo (rf g i :: st) := by
  obtain ⟨⟨p, e, R, s, m⟩, ⟨args, below, meth, c⟩, ⟨A, nc, ns, Z⟩⟩ := x
  obtain ⟨l, dC, dI, ad, cA, sa, sv, vf⟩ := g
  obtain ⟨hx, hb, hr, hml, hown, hts, hlk, hK, hD0, hA, hE, hfr, hlc, hnc, hns⟩ := C0
  intro H locs ls hP hS hl
  exact va_get (D := (dC, dI)) (ci := 1) (C := RX1) (T := TX1) (N := 8) hx hb hts inX1 hown hK hP i (at_1 hi.1 hi.2) rfl 5 (by decide) (hts _ hw) (fun _ h9 => h9) rfl hd (h H locs ls hP hS hl)
theorem pf_1_5 (C0 : Cx g x cc nL ret own fr lc) {i index : Nat} {v : Int64} (hi : KD i 1) (hw : Cond.fieldLink own index "DrumBoats$Crew" "memberBits" "J" ∈ GW) (hd : decode cc pc = .ok (.putfield index, 3)) (h : FW g x nL d (l2 dl i 5 v) (pc + 3) lo st) : FW g x nL d dl pc lo (.long v :: rf g i :: st) := by
  obtain ⟨⟨p, e, R, s, m⟩, ⟨args, below, meth, c⟩, ⟨A, nc, ns, Z⟩⟩ := x
  obtain ⟨l, dC, dI, ad, cA, sa, sv, vf⟩ := g
  obtain ⟨hx, hb, hr, hml, hown, hts, hlk, hK, hD0, hA, hE, hfr, hlc, hnc, hns⟩ := C0
  intro H locs ls hP hS hl
  refine va_put (D := (dC, dI)) (ci := 1) (ty := .long) (C := RX1) (T := TX1) (N := 8) hx hb hts inX1 tyX1 tyX1_ok nmX1 hown hK hP (D_any hD0) hS i (at_1 hi.1 hi.2) rfl 5 (by decide) (hts _ hw) (fun _ h9 => h9) rfl (by decide +kernel) rfl rfl (Nat.le_of_ble_eq_true rfl) hd (fun H locs hP hD hS => ?_)
  rw [put_1_5 v hi.1 hi.2] at hP
  exact (h H locs ls hP hS hl)
theorem gf_1_6 (C0 : Cx g x cc nL ret own fr lc) {i index : Nat} (hi : KD i 1) (hw : Cond.fieldLink own index "DrumBoats$Crew" "seated" "Z" ∈ GW) (hd : decode cc pc = .ok (.getfield index, 3)) (h : FW g x nL d dl (pc + 3) lo (.int (d i 6) :: st)) : FW g x nL d dl pc lo (rf g i :: st) := by
  obtain ⟨⟨p, e, R, s, m⟩, ⟨args, below, meth, c⟩, ⟨A, nc, ns, Z⟩⟩ := x
  obtain ⟨l, dC, dI, ad, cA, sa, sv, vf⟩ := g
  obtain ⟨hx, hb, hr, hml, hown, hts, hlk, hK, hD0, hA, hE, hfr, hlc, hnc, hns⟩ := C0
  intro H locs ls hP hS hl
  exact va_get (D := (dC, dI)) (ci := 1) (C := RX1) (T := TX1) (N := 8) hx hb hts inX1 hown hK hP i (at_1 hi.1 hi.2) rfl 6 (by decide) (hts _ hw) (fun _ h9 => h9) rfl hd (h H locs ls hP hS hl)
theorem pf_1_6 (C0 : Cx g x cc nL ret own fr lc) {i index : Nat} {v : Int32} (hi : KD i 1) (hv : v = 0 ∨ v = 1) (hw : Cond.fieldLink own index "DrumBoats$Crew" "seated" "Z" ∈ GW) (hd : decode cc pc = .ok (.putfield index, 3)) (h : FW g x nL (u2 d i 6 v) dl (pc + 3) lo st) : FW g x nL d dl pc lo (.int v :: rf g i :: st) := by
  obtain ⟨⟨p, e, R, s, m⟩, ⟨args, below, meth, c⟩, ⟨A, nc, ns, Z⟩⟩ := x
  obtain ⟨l, dC, dI, ad, cA, sa, sv, vf⟩ := g
  obtain ⟨hx, hb, hr, hml, hown, hts, hlk, hK, hD0, hA, hE, hfr, hlc, hnc, hns⟩ := C0
  intro H locs ls hP hS hl
  refine va_put (D := (dC, dI)) (ci := 1) (ty := .boolean) (C := RX1) (T := TX1) (N := 8) hx hb hts inX1 tyX1 tyX1_ok nmX1 hown hK hP (D_any hD0) hS i (at_1 hi.1 hi.2) rfl 6 (by decide) (hts _ hw) (fun _ h9 => h9) rfl (by decide +kernel) (by rcases hv with rfl | rfl <;> rfl) (by rcases hv with rfl | rfl <;> rfl) (Nat.le_of_ble_eq_true rfl) hd (fun H locs hP hD hS => ?_)
  rw [put_1_6 v hi.1 hi.2] at hP
  exact (h H locs ls hP hS hl)
theorem gf_1_7 (C0 : Cx g x cc nL ret own fr lc) {i index : Nat} {r : Nat} (hr9 : i + 2 = r) (hi : KD i 1) (hw : Cond.fieldLink own index "DrumBoats$Crew" "seats" "[I" ∈ GW) (hd : decode cc pc = .ok (.getfield index, 3)) (h : FW g x nL d dl (pc + 3) lo (rf g r :: st)) : FW g x nL d dl pc lo (rf g i :: st) := by
  subst hr9
  obtain ⟨⟨p, e, R, s, m⟩, ⟨args, below, meth, c⟩, ⟨A, nc, ns, Z⟩⟩ := x
  obtain ⟨l, dC, dI, ad, cA, sa, sv, vf⟩ := g
  obtain ⟨hx, hb, hr, hml, hown, hts, hlk, hK, hD0, hA, hE, hfr, hlc, hnc, hns⟩ := C0
  intro H locs ls hP hS hl
  exact va_get (D := (dC, dI)) (ci := 1) (C := RX1) (T := TX1) (N := 8) hx hb hts inX1 hown hK hP i (at_1 hi.1 hi.2) rfl 7 (by decide) (hts _ hw) (fun _ h9 => h9) rfl hd (h H locs ls hP hS hl)
theorem gf_2_0 (C0 : Cx g x cc nL ret own fr lc) {i index : Nat} (hi : KD i 2) (hw : Cond.fieldLink own index "DrumBoats$FinalList" "size" "I" ∈ GW) (hd : decode cc pc = .ok (.getfield index, 3)) (h : FW g x nL d dl (pc + 3) lo (.int (d i 0) :: st)) : FW g x nL d dl pc lo (rf g i :: st) := by
  obtain ⟨⟨p, e, R, s, m⟩, ⟨args, below, meth, c⟩, ⟨A, nc, ns, Z⟩⟩ := x
  obtain ⟨l, dC, dI, ad, cA, sa, sv, vf⟩ := g
  obtain ⟨hx, hb, hr, hml, hown, hts, hlk, hK, hD0, hA, hE, hfr, hlc, hnc, hns⟩ := C0
  intro H locs ls hP hS hl
  exact va_get (D := (dC, dI)) (ci := 2) (C := RX2) (T := TX2) (N := 5) hx hb hts inX2 hown hK hP i (at_2 hi.1 hi.2) rfl 0 (by decide) (hts _ hw) (fun _ h9 => h9) rfl hd (h H locs ls hP hS hl)
theorem pf_2_0 (C0 : Cx g x cc nL ret own fr lc) {i index : Nat} {v : Int32} (hi : KD i 2) (hw : Cond.fieldLink own index "DrumBoats$FinalList" "size" "I" ∈ GW) (hd : decode cc pc = .ok (.putfield index, 3)) (h : FW g x nL (u2 d i 0 v) dl (pc + 3) lo st) : FW g x nL d dl pc lo (.int v :: rf g i :: st) := by
  obtain ⟨⟨p, e, R, s, m⟩, ⟨args, below, meth, c⟩, ⟨A, nc, ns, Z⟩⟩ := x
  obtain ⟨l, dC, dI, ad, cA, sa, sv, vf⟩ := g
  obtain ⟨hx, hb, hr, hml, hown, hts, hlk, hK, hD0, hA, hE, hfr, hlc, hnc, hns⟩ := C0
  intro H locs ls hP hS hl
  refine va_put (D := (dC, dI)) (ci := 2) (ty := .int) (C := RX2) (T := TX2) (N := 5) hx hb hts inX2 tyX2 tyX2_ok nmX2 hown hK hP (D_any hD0) hS i (at_2 hi.1 hi.2) rfl 0 (by decide) (hts _ hw) (fun _ h9 => h9) rfl (by decide +kernel) rfl rfl (Nat.le_of_ble_eq_true rfl) hd (fun H locs hP hD hS => ?_)
  rw [put_2_0 v hi.1 hi.2] at hP
  exact (h H locs ls hP hS hl)
theorem gf_2_1 (C0 : Cx g x cc nL ret own fr lc) {i index : Nat} {r : Nat} (hr9 : i + 1 = r) (hi : KD i 2) (hw : Cond.fieldLink own index "DrumBoats$FinalList" "list" "[I" ∈ GW) (hd : decode cc pc = .ok (.getfield index, 3)) (h : FW g x nL d dl (pc + 3) lo (rf g r :: st)) : FW g x nL d dl pc lo (rf g i :: st) := by
  subst hr9
  obtain ⟨⟨p, e, R, s, m⟩, ⟨args, below, meth, c⟩, ⟨A, nc, ns, Z⟩⟩ := x
  obtain ⟨l, dC, dI, ad, cA, sa, sv, vf⟩ := g
  obtain ⟨hx, hb, hr, hml, hown, hts, hlk, hK, hD0, hA, hE, hfr, hlc, hnc, hns⟩ := C0
  intro H locs ls hP hS hl
  exact va_get (D := (dC, dI)) (ci := 2) (C := RX2) (T := TX2) (N := 5) hx hb hts inX2 hown hK hP i (at_2 hi.1 hi.2) rfl 1 (by decide) (hts _ hw) (fun _ h9 => h9) rfl hd (h H locs ls hP hS hl)
theorem gf_2_2 (C0 : Cx g x cc nL ret own fr lc) {i index : Nat} {r : Nat} (hr9 : i + 2 = r) (hi : KD i 2) (hw : Cond.fieldLink own index "DrumBoats$FinalList" "bestTime" "[I" ∈ GW) (hd : decode cc pc = .ok (.getfield index, 3)) (h : FW g x nL d dl (pc + 3) lo (rf g r :: st)) : FW g x nL d dl pc lo (rf g i :: st) := by
  subst hr9
  obtain ⟨⟨p, e, R, s, m⟩, ⟨args, below, meth, c⟩, ⟨A, nc, ns, Z⟩⟩ := x
  obtain ⟨l, dC, dI, ad, cA, sa, sv, vf⟩ := g
  obtain ⟨hx, hb, hr, hml, hown, hts, hlk, hK, hD0, hA, hE, hfr, hlc, hnc, hns⟩ := C0
  intro H locs ls hP hS hl
  exact va_get (D := (dC, dI)) (ci := 2) (C := RX2) (T := TX2) (N := 5) hx hb hts inX2 hown hK hP i (at_2 hi.1 hi.2) rfl 2 (by decide) (hts _ hw) (fun _ h9 => h9) rfl hd (h H locs ls hP hS hl)
theorem gf_2_3 (C0 : Cx g x cc nL ret own fr lc) {i index : Nat} {r : Nat} (hr9 : i + 3 = r) (hi : KD i 2) (hw : Cond.fieldLink own index "DrumBoats$FinalList" "byPlace" "[Z" ∈ GW) (hd : decode cc pc = .ok (.getfield index, 3)) (h : FW g x nL d dl (pc + 3) lo (rf g r :: st)) : FW g x nL d dl pc lo (rf g i :: st) := by
  subst hr9
  obtain ⟨⟨p, e, R, s, m⟩, ⟨args, below, meth, c⟩, ⟨A, nc, ns, Z⟩⟩ := x
  obtain ⟨l, dC, dI, ad, cA, sa, sv, vf⟩ := g
  obtain ⟨hx, hb, hr, hml, hown, hts, hlk, hK, hD0, hA, hE, hfr, hlc, hnc, hns⟩ := C0
  intro H locs ls hP hS hl
  exact va_get (D := (dC, dI)) (ci := 2) (C := RX2) (T := TX2) (N := 5) hx hb hts inX2 hown hK hP i (at_2 hi.1 hi.2) rfl 3 (by decide) (hts _ hw) (fun _ h9 => h9) rfl hd (h H locs ls hP hS hl)
theorem gf_2_4 (C0 : Cx g x cc nL ret own fr lc) {i index : Nat} {r : Nat} (hr9 : i + 4 = r) (hi : KD i 2) (hw : Cond.fieldLink own index "DrumBoats$FinalList" "chosen" "[Z" ∈ GW) (hd : decode cc pc = .ok (.getfield index, 3)) (h : FW g x nL d dl (pc + 3) lo (rf g r :: st)) : FW g x nL d dl pc lo (rf g i :: st) := by
  subst hr9
  obtain ⟨⟨p, e, R, s, m⟩, ⟨args, below, meth, c⟩, ⟨A, nc, ns, Z⟩⟩ := x
  obtain ⟨l, dC, dI, ad, cA, sa, sv, vf⟩ := g
  obtain ⟨hx, hb, hr, hml, hown, hts, hlk, hK, hD0, hA, hE, hfr, hlc, hnc, hns⟩ := C0
  intro H locs ls hP hS hl
  exact va_get (D := (dC, dI)) (ci := 2) (C := RX2) (T := TX2) (N := 5) hx hb hts inX2 hown hK hP i (at_2 hi.1 hi.2) rfl 4 (by decide) (hts _ hw) (fun _ h9 => h9) rfl hd (h H locs ls hP hS hl)
theorem gf_3_0 (C0 : Cx g x cc nL ret own fr lc) {i index : Nat} (hi : KD i 3) (hw : Cond.fieldLink own index "DrumBoats$Race" "minute" "I" ∈ GW) (hd : decode cc pc = .ok (.getfield index, 3)) (h : FW g x nL d dl (pc + 3) lo (.int (d i 0) :: st)) : FW g x nL d dl pc lo (rf g i :: st) := by
  obtain ⟨⟨p, e, R, s, m⟩, ⟨args, below, meth, c⟩, ⟨A, nc, ns, Z⟩⟩ := x
  obtain ⟨l, dC, dI, ad, cA, sa, sv, vf⟩ := g
  obtain ⟨hx, hb, hr, hml, hown, hts, hlk, hK, hD0, hA, hE, hfr, hlc, hnc, hns⟩ := C0
  intro H locs ls hP hS hl
  exact va_get (D := (dC, dI)) (ci := 3) (C := RX3) (T := TX3) (N := 7) hx hb hts inX3 hown hK hP i (at_3 hi.1 hi.2) rfl 0 (by decide) (hts _ hw) (fun _ h9 => h9) rfl hd (h H locs ls hP hS hl)
theorem pf_3_0 (C0 : Cx g x cc nL ret own fr lc) {i index : Nat} {v : Int32} (hi : KD i 3) (hw : Cond.fieldLink own index "DrumBoats$Race" "minute" "I" ∈ GW) (hd : decode cc pc = .ok (.putfield index, 3)) (h : FW g x nL (u2 d i 0 v) dl (pc + 3) lo st) : FW g x nL d dl pc lo (.int v :: rf g i :: st) := by
  obtain ⟨⟨p, e, R, s, m⟩, ⟨args, below, meth, c⟩, ⟨A, nc, ns, Z⟩⟩ := x
  obtain ⟨l, dC, dI, ad, cA, sa, sv, vf⟩ := g
  obtain ⟨hx, hb, hr, hml, hown, hts, hlk, hK, hD0, hA, hE, hfr, hlc, hnc, hns⟩ := C0
  intro H locs ls hP hS hl
  refine va_put (D := (dC, dI)) (ci := 3) (ty := .int) (C := RX3) (T := TX3) (N := 7) hx hb hts inX3 tyX3 tyX3_ok nmX3 hown hK hP (D_any hD0) hS i (at_3 hi.1 hi.2) rfl 0 (by decide) (hts _ hw) (fun _ h9 => h9) rfl (by decide +kernel) rfl rfl (Nat.le_of_ble_eq_true rfl) hd (fun H locs hP hD hS => ?_)
  rw [put_3_0 v hi.1 hi.2] at hP
  exact (h H locs ls hP hS hl)
theorem gf_3_1 (C0 : Cx g x cc nL ret own fr lc) {i index : Nat} (hi : KD i 3) (hw : Cond.fieldLink own index "DrumBoats$Race" "round" "I" ∈ GW) (hd : decode cc pc = .ok (.getfield index, 3)) (h : FW g x nL d dl (pc + 3) lo (.int (d i 1) :: st)) : FW g x nL d dl pc lo (rf g i :: st) := by
  obtain ⟨⟨p, e, R, s, m⟩, ⟨args, below, meth, c⟩, ⟨A, nc, ns, Z⟩⟩ := x
  obtain ⟨l, dC, dI, ad, cA, sa, sv, vf⟩ := g
  obtain ⟨hx, hb, hr, hml, hown, hts, hlk, hK, hD0, hA, hE, hfr, hlc, hnc, hns⟩ := C0
  intro H locs ls hP hS hl
  exact va_get (D := (dC, dI)) (ci := 3) (C := RX3) (T := TX3) (N := 7) hx hb hts inX3 hown hK hP i (at_3 hi.1 hi.2) rfl 1 (by decide) (hts _ hw) (fun _ h9 => h9) rfl hd (h H locs ls hP hS hl)
theorem pf_3_1 (C0 : Cx g x cc nL ret own fr lc) {i index : Nat} {v : Int32} (hi : KD i 3) (hw : Cond.fieldLink own index "DrumBoats$Race" "round" "I" ∈ GW) (hd : decode cc pc = .ok (.putfield index, 3)) (h : FW g x nL (u2 d i 1 v) dl (pc + 3) lo st) : FW g x nL d dl pc lo (.int v :: rf g i :: st) := by
  obtain ⟨⟨p, e, R, s, m⟩, ⟨args, below, meth, c⟩, ⟨A, nc, ns, Z⟩⟩ := x
  obtain ⟨l, dC, dI, ad, cA, sa, sv, vf⟩ := g
  obtain ⟨hx, hb, hr, hml, hown, hts, hlk, hK, hD0, hA, hE, hfr, hlc, hnc, hns⟩ := C0
  intro H locs ls hP hS hl
  refine va_put (D := (dC, dI)) (ci := 3) (ty := .int) (C := RX3) (T := TX3) (N := 7) hx hb hts inX3 tyX3 tyX3_ok nmX3 hown hK hP (D_any hD0) hS i (at_3 hi.1 hi.2) rfl 1 (by decide) (hts _ hw) (fun _ h9 => h9) rfl (by decide +kernel) rfl rfl (Nat.le_of_ble_eq_true rfl) hd (fun H locs hP hD hS => ?_)
  rw [put_3_1 v hi.1 hi.2] at hP
  exact (h H locs ls hP hS hl)
theorem gf_3_2 (C0 : Cx g x cc nL ret own fr lc) {i index : Nat} (hi : KD i 3) (hw : Cond.fieldLink own index "DrumBoats$Race" "begun" "Z" ∈ GW) (hd : decode cc pc = .ok (.getfield index, 3)) (h : FW g x nL d dl (pc + 3) lo (.int (d i 2) :: st)) : FW g x nL d dl pc lo (rf g i :: st) := by
  obtain ⟨⟨p, e, R, s, m⟩, ⟨args, below, meth, c⟩, ⟨A, nc, ns, Z⟩⟩ := x
  obtain ⟨l, dC, dI, ad, cA, sa, sv, vf⟩ := g
  obtain ⟨hx, hb, hr, hml, hown, hts, hlk, hK, hD0, hA, hE, hfr, hlc, hnc, hns⟩ := C0
  intro H locs ls hP hS hl
  exact va_get (D := (dC, dI)) (ci := 3) (C := RX3) (T := TX3) (N := 7) hx hb hts inX3 hown hK hP i (at_3 hi.1 hi.2) rfl 2 (by decide) (hts _ hw) (fun _ h9 => h9) rfl hd (h H locs ls hP hS hl)
theorem pf_3_2 (C0 : Cx g x cc nL ret own fr lc) {i index : Nat} {v : Int32} (hi : KD i 3) (hv : v = 0 ∨ v = 1) (hw : Cond.fieldLink own index "DrumBoats$Race" "begun" "Z" ∈ GW) (hd : decode cc pc = .ok (.putfield index, 3)) (h : FW g x nL (u2 d i 2 v) dl (pc + 3) lo st) : FW g x nL d dl pc lo (.int v :: rf g i :: st) := by
  obtain ⟨⟨p, e, R, s, m⟩, ⟨args, below, meth, c⟩, ⟨A, nc, ns, Z⟩⟩ := x
  obtain ⟨l, dC, dI, ad, cA, sa, sv, vf⟩ := g
  obtain ⟨hx, hb, hr, hml, hown, hts, hlk, hK, hD0, hA, hE, hfr, hlc, hnc, hns⟩ := C0
  intro H locs ls hP hS hl
  refine va_put (D := (dC, dI)) (ci := 3) (ty := .boolean) (C := RX3) (T := TX3) (N := 7) hx hb hts inX3 tyX3 tyX3_ok nmX3 hown hK hP (D_any hD0) hS i (at_3 hi.1 hi.2) rfl 2 (by decide) (hts _ hw) (fun _ h9 => h9) rfl (by decide +kernel) (by rcases hv with rfl | rfl <;> rfl) (by rcases hv with rfl | rfl <;> rfl) (Nat.le_of_ble_eq_true rfl) hd (fun H locs hP hD hS => ?_)
  rw [put_3_2 v hi.1 hi.2] at hP
  exact (h H locs ls hP hS hl)
theorem gf_3_3 (C0 : Cx g x cc nL ret own fr lc) {i index : Nat} {r : Nat} (hr9 : i + 1 = r) (hi : KD i 3) (hw : Cond.fieldLink own index "DrumBoats$Race" "crews" "[I" ∈ GW) (hd : decode cc pc = .ok (.getfield index, 3)) (h : FW g x nL d dl (pc + 3) lo (rf g r :: st)) : FW g x nL d dl pc lo (rf g i :: st) := by
  subst hr9
  obtain ⟨⟨p, e, R, s, m⟩, ⟨args, below, meth, c⟩, ⟨A, nc, ns, Z⟩⟩ := x
  obtain ⟨l, dC, dI, ad, cA, sa, sv, vf⟩ := g
  obtain ⟨hx, hb, hr, hml, hown, hts, hlk, hK, hD0, hA, hE, hfr, hlc, hnc, hns⟩ := C0
  intro H locs ls hP hS hl
  exact va_get (D := (dC, dI)) (ci := 3) (C := RX3) (T := TX3) (N := 7) hx hb hts inX3 hown hK hP i (at_3 hi.1 hi.2) rfl 3 (by decide) (hts _ hw) (fun _ h9 => h9) rfl hd (h H locs ls hP hS hl)
theorem gf_3_4 (C0 : Cx g x cc nL ret own fr lc) {i index : Nat} {r : Nat} (hr9 : i + 2 = r) (hi : KD i 3) (hw : Cond.fieldLink own index "DrumBoats$Race" "times" "[I" ∈ GW) (hd : decode cc pc = .ok (.getfield index, 3)) (h : FW g x nL d dl (pc + 3) lo (rf g r :: st)) : FW g x nL d dl pc lo (rf g i :: st) := by
  subst hr9
  obtain ⟨⟨p, e, R, s, m⟩, ⟨args, below, meth, c⟩, ⟨A, nc, ns, Z⟩⟩ := x
  obtain ⟨l, dC, dI, ad, cA, sa, sv, vf⟩ := g
  obtain ⟨hx, hb, hr, hml, hown, hts, hlk, hK, hD0, hA, hE, hfr, hlc, hnc, hns⟩ := C0
  intro H locs ls hP hS hl
  exact va_get (D := (dC, dI)) (ci := 3) (C := RX3) (T := TX3) (N := 7) hx hb hts inX3 hown hK hP i (at_3 hi.1 hi.2) rfl 4 (by decide) (hts _ hw) (fun _ h9 => h9) rfl hd (h H locs ls hP hS hl)
theorem gf_3_5 (C0 : Cx g x cc nL ret own fr lc) {i index : Nat} {r : Nat} (hr9 : i + 3 = r) (hi : KD i 3) (hw : Cond.fieldLink own index "DrumBoats$Race" "gone" "[I" ∈ GW) (hd : decode cc pc = .ok (.getfield index, 3)) (h : FW g x nL d dl (pc + 3) lo (rf g r :: st)) : FW g x nL d dl pc lo (rf g i :: st) := by
  subst hr9
  obtain ⟨⟨p, e, R, s, m⟩, ⟨args, below, meth, c⟩, ⟨A, nc, ns, Z⟩⟩ := x
  obtain ⟨l, dC, dI, ad, cA, sa, sv, vf⟩ := g
  obtain ⟨hx, hb, hr, hml, hown, hts, hlk, hK, hD0, hA, hE, hfr, hlc, hnc, hns⟩ := C0
  intro H locs ls hP hS hl
  exact va_get (D := (dC, dI)) (ci := 3) (C := RX3) (T := TX3) (N := 7) hx hb hts inX3 hown hK hP i (at_3 hi.1 hi.2) rfl 5 (by decide) (hts _ hw) (fun _ h9 => h9) rfl hd (h H locs ls hP hS hl)
theorem gf_3_6 (C0 : Cx g x cc nL ret own fr lc) {i index : Nat} {r : Nat} (hr9 : i + 4 = r) (hi : KD i 3) (hw : Cond.fieldLink own index "DrumBoats$Race" "struck" "[Z" ∈ GW) (hd : decode cc pc = .ok (.getfield index, 3)) (h : FW g x nL d dl (pc + 3) lo (rf g r :: st)) : FW g x nL d dl pc lo (rf g i :: st) := by
  subst hr9
  obtain ⟨⟨p, e, R, s, m⟩, ⟨args, below, meth, c⟩, ⟨A, nc, ns, Z⟩⟩ := x
  obtain ⟨l, dC, dI, ad, cA, sa, sv, vf⟩ := g
  obtain ⟨hx, hb, hr, hml, hown, hts, hlk, hK, hD0, hA, hE, hfr, hlc, hnc, hns⟩ := C0
  intro H locs ls hP hS hl
  exact va_get (D := (dC, dI)) (ci := 3) (C := RX3) (T := TX3) (N := 7) hx hb hts inX3 hown hK hP i (at_3 hi.1 hi.2) rfl 6 (by decide) (hts _ hw) (fun _ h9 => h9) rfl hd (h H locs ls hP hS hl)
theorem gf_4_0 (C0 : Cx g x cc nL ret own fr lc) {i index : Nat} (hi : KD i 4) (hw : Cond.fieldLink own index "DrumBoats$Roster" "size" "I" ∈ GW) (hd : decode cc pc = .ok (.getfield index, 3)) (h : FW g x nL d dl (pc + 3) lo (.int (d i 0) :: st)) : FW g x nL d dl pc lo (rf g i :: st) := by
  obtain ⟨⟨p, e, R, s, m⟩, ⟨args, below, meth, c⟩, ⟨A, nc, ns, Z⟩⟩ := x
  obtain ⟨l, dC, dI, ad, cA, sa, sv, vf⟩ := g
  obtain ⟨hx, hb, hr, hml, hown, hts, hlk, hK, hD0, hA, hE, hfr, hlc, hnc, hns⟩ := C0
  intro H locs ls hP hS hl
  exact va_get (D := (dC, dI)) (ci := 4) (C := RX4) (T := TX4) (N := 7) hx hb hts inX4 hown hK hP i (at_4 hi.1 hi.2) rfl 0 (by decide) (hts _ hw) (fun _ h9 => h9) rfl hd (h H locs ls hP hS hl)
theorem pf_4_0 (C0 : Cx g x cc nL ret own fr lc) {i index : Nat} {v : Int32} (hi : KD i 4) (hw : Cond.fieldLink own index "DrumBoats$Roster" "size" "I" ∈ GW) (hd : decode cc pc = .ok (.putfield index, 3)) (h : FW g x nL (u2 d i 0 v) dl (pc + 3) lo st) : FW g x nL d dl pc lo (.int v :: rf g i :: st) := by
  obtain ⟨⟨p, e, R, s, m⟩, ⟨args, below, meth, c⟩, ⟨A, nc, ns, Z⟩⟩ := x
  obtain ⟨l, dC, dI, ad, cA, sa, sv, vf⟩ := g
  obtain ⟨hx, hb, hr, hml, hown, hts, hlk, hK, hD0, hA, hE, hfr, hlc, hnc, hns⟩ := C0
  intro H locs ls hP hS hl
  refine va_put (D := (dC, dI)) (ci := 4) (ty := .int) (C := RX4) (T := TX4) (N := 7) hx hb hts inX4 tyX4 tyX4_ok nmX4 hown hK hP (D_any hD0) hS i (at_4 hi.1 hi.2) rfl 0 (by decide) (hts _ hw) (fun _ h9 => h9) rfl (by decide +kernel) rfl rfl (Nat.le_of_ble_eq_true rfl) hd (fun H locs hP hD hS => ?_)
  rw [put_4_0 v hi.1 hi.2] at hP
  exact (h H locs ls hP hS hl)
theorem gf_4_1 (C0 : Cx g x cc nL ret own fr lc) {i index : Nat} {r : Nat} (hr9 : i + 1 = r) (hi : KD i 4) (hw : Cond.fieldLink own index "DrumBoats$Roster" "weight" "[I" ∈ GW) (hd : decode cc pc = .ok (.getfield index, 3)) (h : FW g x nL d dl (pc + 3) lo (rf g r :: st)) : FW g x nL d dl pc lo (rf g i :: st) := by
  subst hr9
  obtain ⟨⟨p, e, R, s, m⟩, ⟨args, below, meth, c⟩, ⟨A, nc, ns, Z⟩⟩ := x
  obtain ⟨l, dC, dI, ad, cA, sa, sv, vf⟩ := g
  obtain ⟨hx, hb, hr, hml, hown, hts, hlk, hK, hD0, hA, hE, hfr, hlc, hnc, hns⟩ := C0
  intro H locs ls hP hS hl
  exact va_get (D := (dC, dI)) (ci := 4) (C := RX4) (T := TX4) (N := 7) hx hb hts inX4 hown hK hP i (at_4 hi.1 hi.2) rfl 1 (by decide) (hts _ hw) (fun _ h9 => h9) rfl hd (h H locs ls hP hS hl)
theorem gf_4_2 (C0 : Cx g x cc nL ret own fr lc) {i index : Nat} {r : Nat} (hr9 : i + 2 = r) (hi : KD i 4) (hw : Cond.fieldLink own index "DrumBoats$Roster" "strength" "[I" ∈ GW) (hd : decode cc pc = .ok (.getfield index, 3)) (h : FW g x nL d dl (pc + 3) lo (rf g r :: st)) : FW g x nL d dl pc lo (rf g i :: st) := by
  subst hr9
  obtain ⟨⟨p, e, R, s, m⟩, ⟨args, below, meth, c⟩, ⟨A, nc, ns, Z⟩⟩ := x
  obtain ⟨l, dC, dI, ad, cA, sa, sv, vf⟩ := g
  obtain ⟨hx, hb, hr, hml, hown, hts, hlk, hK, hD0, hA, hE, hfr, hlc, hnc, hns⟩ := C0
  intro H locs ls hP hS hl
  exact va_get (D := (dC, dI)) (ci := 4) (C := RX4) (T := TX4) (N := 7) hx hb hts inX4 hown hK hP i (at_4 hi.1 hi.2) rfl 2 (by decide) (hts _ hw) (fun _ h9 => h9) rfl hd (h H locs ls hP hS hl)
theorem gf_4_3 (C0 : Cx g x cc nL ret own fr lc) {i index : Nat} {r : Nat} (hr9 : i + 3 = r) (hi : KD i 4) (hw : Cond.fieldLink own index "DrumBoats$Roster" "arm" "[I" ∈ GW) (hd : decode cc pc = .ok (.getfield index, 3)) (h : FW g x nL d dl (pc + 3) lo (rf g r :: st)) : FW g x nL d dl pc lo (rf g i :: st) := by
  subst hr9
  obtain ⟨⟨p, e, R, s, m⟩, ⟨args, below, meth, c⟩, ⟨A, nc, ns, Z⟩⟩ := x
  obtain ⟨l, dC, dI, ad, cA, sa, sv, vf⟩ := g
  obtain ⟨hx, hb, hr, hml, hown, hts, hlk, hK, hD0, hA, hE, hfr, hlc, hnc, hns⟩ := C0
  intro H locs ls hP hS hl
  exact va_get (D := (dC, dI)) (ci := 4) (C := RX4) (T := TX4) (N := 7) hx hb hts inX4 hown hK hP i (at_4 hi.1 hi.2) rfl 3 (by decide) (hts _ hw) (fun _ h9 => h9) rfl hd (h H locs ls hP hS hl)
theorem gf_4_4 (C0 : Cx g x cc nL ret own fr lc) {i index : Nat} {r : Nat} (hr9 : i + 4 = r) (hi : KD i 4) (hw : Cond.fieldLink own index "DrumBoats$Roster" "sex" "[I" ∈ GW) (hd : decode cc pc = .ok (.getfield index, 3)) (h : FW g x nL d dl (pc + 3) lo (rf g r :: st)) : FW g x nL d dl pc lo (rf g i :: st) := by
  subst hr9
  obtain ⟨⟨p, e, R, s, m⟩, ⟨args, below, meth, c⟩, ⟨A, nc, ns, Z⟩⟩ := x
  obtain ⟨l, dC, dI, ad, cA, sa, sv, vf⟩ := g
  obtain ⟨hx, hb, hr, hml, hown, hts, hlk, hK, hD0, hA, hE, hfr, hlc, hnc, hns⟩ := C0
  intro H locs ls hP hS hl
  exact va_get (D := (dC, dI)) (ci := 4) (C := RX4) (T := TX4) (N := 7) hx hb hts inX4 hown hK hP i (at_4 hi.1 hi.2) rfl 4 (by decide) (hts _ hw) (fun _ h9 => h9) rfl hd (h H locs ls hP hS hl)
theorem gf_4_5 (C0 : Cx g x cc nL ret own fr lc) {i index : Nat} {r : Nat} (hr9 : i + 5 = r) (hi : KD i 4) (hw : Cond.fieldLink own index "DrumBoats$Roster" "age" "[I" ∈ GW) (hd : decode cc pc = .ok (.getfield index, 3)) (h : FW g x nL d dl (pc + 3) lo (rf g r :: st)) : FW g x nL d dl pc lo (rf g i :: st) := by
  subst hr9
  obtain ⟨⟨p, e, R, s, m⟩, ⟨args, below, meth, c⟩, ⟨A, nc, ns, Z⟩⟩ := x
  obtain ⟨l, dC, dI, ad, cA, sa, sv, vf⟩ := g
  obtain ⟨hx, hb, hr, hml, hown, hts, hlk, hK, hD0, hA, hE, hfr, hlc, hnc, hns⟩ := C0
  intro H locs ls hP hS hl
  exact va_get (D := (dC, dI)) (ci := 4) (C := RX4) (T := TX4) (N := 7) hx hb hts inX4 hown hK hP i (at_4 hi.1 hi.2) rfl 5 (by decide) (hts _ hw) (fun _ h9 => h9) rfl hd (h H locs ls hP hS hl)
theorem gf_4_6 (C0 : Cx g x cc nL ret own fr lc) {i index : Nat} {r : Nat} (hr9 : i + 6 = r) (hi : KD i 4) (hw : Cond.fieldLink own index "DrumBoats$Roster" "friendBits" "[J" ∈ GW) (hd : decode cc pc = .ok (.getfield index, 3)) (h : FW g x nL d dl (pc + 3) lo (rf g r :: st)) : FW g x nL d dl pc lo (rf g i :: st) := by
  subst hr9
  obtain ⟨⟨p, e, R, s, m⟩, ⟨args, below, meth, c⟩, ⟨A, nc, ns, Z⟩⟩ := x
  obtain ⟨l, dC, dI, ad, cA, sa, sv, vf⟩ := g
  obtain ⟨hx, hb, hr, hml, hown, hts, hlk, hK, hD0, hA, hE, hfr, hlc, hnc, hns⟩ := C0
  intro H locs ls hP hS hl
  exact va_get (D := (dC, dI)) (ci := 4) (C := RX4) (T := TX4) (N := 7) hx hb hts inX4 hown hK hP i (at_4 hi.1 hi.2) rfl 6 (by decide) (hts _ hw) (fun _ h9 => h9) rfl hd (h H locs ls hP hS hl)
theorem gf_5_0 (C0 : Cx g x cc nL ret own fr lc) {i index : Nat} (hi : KD i 5) (hw : Cond.fieldLink own index "DrumBoats$Rule" "tests" "I" ∈ GW) (hd : decode cc pc = .ok (.getfield index, 3)) (h : FW g x nL d dl (pc + 3) lo (.int (d i 0) :: st)) : FW g x nL d dl pc lo (rf g i :: st) := by
  obtain ⟨⟨p, e, R, s, m⟩, ⟨args, below, meth, c⟩, ⟨A, nc, ns, Z⟩⟩ := x
  obtain ⟨l, dC, dI, ad, cA, sa, sv, vf⟩ := g
  obtain ⟨hx, hb, hr, hml, hown, hts, hlk, hK, hD0, hA, hE, hfr, hlc, hnc, hns⟩ := C0
  intro H locs ls hP hS hl
  exact va_get (D := (dC, dI)) (ci := 5) (C := RX5) (T := TX5) (N := 6) hx hb hts inX5 hown hK hP i (at_5 hi.1 hi.2) rfl 0 (by decide) (hts _ hw) (fun _ h9 => h9) rfl hd (h H locs ls hP hS hl)
theorem pf_5_0 (C0 : Cx g x cc nL ret own fr lc) {i index : Nat} {v : Int32} (hi : KD i 5) (hw : Cond.fieldLink own index "DrumBoats$Rule" "tests" "I" ∈ GW) (hd : decode cc pc = .ok (.putfield index, 3)) (h : FW g x nL (u2 d i 0 v) dl (pc + 3) lo st) : FW g x nL d dl pc lo (.int v :: rf g i :: st) := by
  obtain ⟨⟨p, e, R, s, m⟩, ⟨args, below, meth, c⟩, ⟨A, nc, ns, Z⟩⟩ := x
  obtain ⟨l, dC, dI, ad, cA, sa, sv, vf⟩ := g
  obtain ⟨hx, hb, hr, hml, hown, hts, hlk, hK, hD0, hA, hE, hfr, hlc, hnc, hns⟩ := C0
  intro H locs ls hP hS hl
  refine va_put (D := (dC, dI)) (ci := 5) (ty := .int) (C := RX5) (T := TX5) (N := 6) hx hb hts inX5 tyX5 tyX5_ok nmX5 hown hK hP (D_any hD0) hS i (at_5 hi.1 hi.2) rfl 0 (by decide) (hts _ hw) (fun _ h9 => h9) rfl (by decide +kernel) rfl rfl (Nat.le_of_ble_eq_true rfl) hd (fun H locs hP hD hS => ?_)
  rw [put_5_0 v hi.1 hi.2] at hP
  exact (h H locs ls hP hS hl)
theorem gf_5_1 (C0 : Cx g x cc nL ret own fr lc) {i index : Nat} {r : Nat} (hr9 : i + 1 = r) (hi : KD i 5) (hw : Cond.fieldLink own index "DrumBoats$Rule" "negated" "[Z" ∈ GW) (hd : decode cc pc = .ok (.getfield index, 3)) (h : FW g x nL d dl (pc + 3) lo (rf g r :: st)) : FW g x nL d dl pc lo (rf g i :: st) := by
  subst hr9
  obtain ⟨⟨p, e, R, s, m⟩, ⟨args, below, meth, c⟩, ⟨A, nc, ns, Z⟩⟩ := x
  obtain ⟨l, dC, dI, ad, cA, sa, sv, vf⟩ := g
  obtain ⟨hx, hb, hr, hml, hown, hts, hlk, hK, hD0, hA, hE, hfr, hlc, hnc, hns⟩ := C0
  intro H locs ls hP hS hl
  exact va_get (D := (dC, dI)) (ci := 5) (C := RX5) (T := TX5) (N := 6) hx hb hts inX5 hown hK hP i (at_5 hi.1 hi.2) rfl 1 (by decide) (hts _ hw) (fun _ h9 => h9) rfl hd (h H locs ls hP hS hl)
theorem gf_5_2 (C0 : Cx g x cc nL ret own fr lc) {i index : Nat} {r : Nat} (hr9 : i + 2 = r) (hi : KD i 5) (hw : Cond.fieldLink own index "DrumBoats$Rule" "field" "[I" ∈ GW) (hd : decode cc pc = .ok (.getfield index, 3)) (h : FW g x nL d dl (pc + 3) lo (rf g r :: st)) : FW g x nL d dl pc lo (rf g i :: st) := by
  subst hr9
  obtain ⟨⟨p, e, R, s, m⟩, ⟨args, below, meth, c⟩, ⟨A, nc, ns, Z⟩⟩ := x
  obtain ⟨l, dC, dI, ad, cA, sa, sv, vf⟩ := g
  obtain ⟨hx, hb, hr, hml, hown, hts, hlk, hK, hD0, hA, hE, hfr, hlc, hnc, hns⟩ := C0
  intro H locs ls hP hS hl
  exact va_get (D := (dC, dI)) (ci := 5) (C := RX5) (T := TX5) (N := 6) hx hb hts inX5 hown hK hP i (at_5 hi.1 hi.2) rfl 2 (by decide) (hts _ hw) (fun _ h9 => h9) rfl hd (h H locs ls hP hS hl)
theorem gf_5_3 (C0 : Cx g x cc nL ret own fr lc) {i index : Nat} {r : Nat} (hr9 : i + 3 = r) (hi : KD i 5) (hw : Cond.fieldLink own index "DrumBoats$Rule" "sign" "[I" ∈ GW) (hd : decode cc pc = .ok (.getfield index, 3)) (h : FW g x nL d dl (pc + 3) lo (rf g r :: st)) : FW g x nL d dl pc lo (rf g i :: st) := by
  subst hr9
  obtain ⟨⟨p, e, R, s, m⟩, ⟨args, below, meth, c⟩, ⟨A, nc, ns, Z⟩⟩ := x
  obtain ⟨l, dC, dI, ad, cA, sa, sv, vf⟩ := g
  obtain ⟨hx, hb, hr, hml, hown, hts, hlk, hK, hD0, hA, hE, hfr, hlc, hnc, hns⟩ := C0
  intro H locs ls hP hS hl
  exact va_get (D := (dC, dI)) (ci := 5) (C := RX5) (T := TX5) (N := 6) hx hb hts inX5 hown hK hP i (at_5 hi.1 hi.2) rfl 3 (by decide) (hts _ hw) (fun _ h9 => h9) rfl hd (h H locs ls hP hS hl)
theorem gf_5_4 (C0 : Cx g x cc nL ret own fr lc) {i index : Nat} {r : Nat} (hr9 : i + 4 = r) (hi : KD i 5) (hw : Cond.fieldLink own index "DrumBoats$Rule" "number" "[I" ∈ GW) (hd : decode cc pc = .ok (.getfield index, 3)) (h : FW g x nL d dl (pc + 3) lo (rf g r :: st)) : FW g x nL d dl pc lo (rf g i :: st) := by
  subst hr9
  obtain ⟨⟨p, e, R, s, m⟩, ⟨args, below, meth, c⟩, ⟨A, nc, ns, Z⟩⟩ := x
  obtain ⟨l, dC, dI, ad, cA, sa, sv, vf⟩ := g
  obtain ⟨hx, hb, hr, hml, hown, hts, hlk, hK, hD0, hA, hE, hfr, hlc, hnc, hns⟩ := C0
  intro H locs ls hP hS hl
  exact va_get (D := (dC, dI)) (ci := 5) (C := RX5) (T := TX5) (N := 6) hx hb hts inX5 hown hK hP i (at_5 hi.1 hi.2) rfl 4 (by decide) (hts _ hw) (fun _ h9 => h9) rfl hd (h H locs ls hP hS hl)
theorem gf_5_5 (C0 : Cx g x cc nL ret own fr lc) {i index : Nat} {r : Nat} (hr9 : i + 5 = r) (hi : KD i 5) (hw : Cond.fieldLink own index "DrumBoats$Rule" "orAhead" "[Z" ∈ GW) (hd : decode cc pc = .ok (.getfield index, 3)) (h : FW g x nL d dl (pc + 3) lo (rf g r :: st)) : FW g x nL d dl pc lo (rf g i :: st) := by
  subst hr9
  obtain ⟨⟨p, e, R, s, m⟩, ⟨args, below, meth, c⟩, ⟨A, nc, ns, Z⟩⟩ := x
  obtain ⟨l, dC, dI, ad, cA, sa, sv, vf⟩ := g
  obtain ⟨hx, hb, hr, hml, hown, hts, hlk, hK, hD0, hA, hE, hfr, hlc, hnc, hns⟩ := C0
  intro H locs ls hP hS hl
  exact va_get (D := (dC, dI)) (ci := 5) (C := RX5) (T := TX5) (N := 6) hx hb hts inX5 hown hK hP i (at_5 hi.1 hi.2) rfl 5 (by decide) (hts _ hw) (fun _ h9 => h9) rfl hd (h H locs ls hP hS hl)
theorem gf_6_0 (C0 : Cx g x cc nL ret own fr lc) {i index : Nat} (hi : KD i 6) (hw : Cond.fieldLink own index "DrumBoats$SeatSearch" "leastTilt" "I" ∈ GW) (hd : decode cc pc = .ok (.getfield index, 3)) (h : FW g x nL d dl (pc + 3) lo (.int (d i 0) :: st)) : FW g x nL d dl pc lo (rf g i :: st) := by
  obtain ⟨⟨p, e, R, s, m⟩, ⟨args, below, meth, c⟩, ⟨A, nc, ns, Z⟩⟩ := x
  obtain ⟨l, dC, dI, ad, cA, sa, sv, vf⟩ := g
  obtain ⟨hx, hb, hr, hml, hown, hts, hlk, hK, hD0, hA, hE, hfr, hlc, hnc, hns⟩ := C0
  intro H locs ls hP hS hl
  exact va_get (D := (dC, dI)) (ci := 6) (C := RX6) (T := TX6) (N := 17) hx hb hts inX6 hown hK hP i (at_6 hi.1 hi.2) rfl 0 (by decide) (hts _ hw) (fun _ h9 => h9) rfl hd (h H locs ls hP hS hl)
theorem pf_6_0 (C0 : Cx g x cc nL ret own fr lc) {i index : Nat} {v : Int32} (hi : KD i 6) (hw : Cond.fieldLink own index "DrumBoats$SeatSearch" "leastTilt" "I" ∈ GW) (hd : decode cc pc = .ok (.putfield index, 3)) (h : FW g x nL (u2 d i 0 v) dl (pc + 3) lo st) : FW g x nL d dl pc lo (.int v :: rf g i :: st) := by
  obtain ⟨⟨p, e, R, s, m⟩, ⟨args, below, meth, c⟩, ⟨A, nc, ns, Z⟩⟩ := x
  obtain ⟨l, dC, dI, ad, cA, sa, sv, vf⟩ := g
  obtain ⟨hx, hb, hr, hml, hown, hts, hlk, hK, hD0, hA, hE, hfr, hlc, hnc, hns⟩ := C0
  intro H locs ls hP hS hl
  refine va_put (D := (dC, dI)) (ci := 6) (ty := .int) (C := RX6) (T := TX6) (N := 17) hx hb hts inX6 tyX6 tyX6_ok nmX6 hown hK hP (D_any hD0) hS i (at_6 hi.1 hi.2) rfl 0 (by decide) (hts _ hw) (fun _ h9 => h9) rfl (by decide +kernel) rfl rfl (Nat.le_of_ble_eq_true rfl) hd (fun H locs hP hD hS => ?_)
  rw [put_6_0 v hi.1 hi.2] at hP
  exact (h H locs ls hP hS hl)
theorem gf_6_1 (C0 : Cx g x cc nL ret own fr lc) {i index : Nat} (hi : KD i 6) (hw : Cond.fieldLink own index "DrumBoats$SeatSearch" "found" "Z" ∈ GW) (hd : decode cc pc = .ok (.getfield index, 3)) (h : FW g x nL d dl (pc + 3) lo (.int (d i 1) :: st)) : FW g x nL d dl pc lo (rf g i :: st) := by
  obtain ⟨⟨p, e, R, s, m⟩, ⟨args, below, meth, c⟩, ⟨A, nc, ns, Z⟩⟩ := x
  obtain ⟨l, dC, dI, ad, cA, sa, sv, vf⟩ := g
  obtain ⟨hx, hb, hr, hml, hown, hts, hlk, hK, hD0, hA, hE, hfr, hlc, hnc, hns⟩ := C0
  intro H locs ls hP hS hl
  exact va_get (D := (dC, dI)) (ci := 6) (C := RX6) (T := TX6) (N := 17) hx hb hts inX6 hown hK hP i (at_6 hi.1 hi.2) rfl 1 (by decide) (hts _ hw) (fun _ h9 => h9) rfl hd (h H locs ls hP hS hl)
theorem pf_6_1 (C0 : Cx g x cc nL ret own fr lc) {i index : Nat} {v : Int32} (hi : KD i 6) (hv : v = 0 ∨ v = 1) (hw : Cond.fieldLink own index "DrumBoats$SeatSearch" "found" "Z" ∈ GW) (hd : decode cc pc = .ok (.putfield index, 3)) (h : FW g x nL (u2 d i 1 v) dl (pc + 3) lo st) : FW g x nL d dl pc lo (.int v :: rf g i :: st) := by
  obtain ⟨⟨p, e, R, s, m⟩, ⟨args, below, meth, c⟩, ⟨A, nc, ns, Z⟩⟩ := x
  obtain ⟨l, dC, dI, ad, cA, sa, sv, vf⟩ := g
  obtain ⟨hx, hb, hr, hml, hown, hts, hlk, hK, hD0, hA, hE, hfr, hlc, hnc, hns⟩ := C0
  intro H locs ls hP hS hl
  refine va_put (D := (dC, dI)) (ci := 6) (ty := .boolean) (C := RX6) (T := TX6) (N := 17) hx hb hts inX6 tyX6 tyX6_ok nmX6 hown hK hP (D_any hD0) hS i (at_6 hi.1 hi.2) rfl 1 (by decide) (hts _ hw) (fun _ h9 => h9) rfl (by decide +kernel) (by rcases hv with rfl | rfl <;> rfl) (by rcases hv with rfl | rfl <;> rfl) (Nat.le_of_ble_eq_true rfl) hd (fun H locs hP hD hS => ?_)
  rw [put_6_1 v hi.1 hi.2] at hP
  exact (h H locs ls hP hS hl)
theorem gf_6_2 (C0 : Cx g x cc nL ret own fr lc) {i index : Nat} (hi : KD i 6) (hw : Cond.fieldLink own index "DrumBoats$SeatSearch" "seats" "I" ∈ GW) (hd : decode cc pc = .ok (.getfield index, 3)) (h : FW g x nL d dl (pc + 3) lo (.int (d i 2) :: st)) : FW g x nL d dl pc lo (rf g i :: st) := by
  obtain ⟨⟨p, e, R, s, m⟩, ⟨args, below, meth, c⟩, ⟨A, nc, ns, Z⟩⟩ := x
  obtain ⟨l, dC, dI, ad, cA, sa, sv, vf⟩ := g
  obtain ⟨hx, hb, hr, hml, hown, hts, hlk, hK, hD0, hA, hE, hfr, hlc, hnc, hns⟩ := C0
  intro H locs ls hP hS hl
  exact va_get (D := (dC, dI)) (ci := 6) (C := RX6) (T := TX6) (N := 17) hx hb hts inX6 hown hK hP i (at_6 hi.1 hi.2) rfl 2 (by decide) (hts _ hw) (fun _ h9 => h9) rfl hd (h H locs ls hP hS hl)
theorem pf_6_2 (C0 : Cx g x cc nL ret own fr lc) {i index : Nat} {v : Int32} (hi : KD i 6) (hw : Cond.fieldLink own index "DrumBoats$SeatSearch" "seats" "I" ∈ GW) (hd : decode cc pc = .ok (.putfield index, 3)) (h : FW g x nL (u2 d i 2 v) dl (pc + 3) lo st) : FW g x nL d dl pc lo (.int v :: rf g i :: st) := by
  obtain ⟨⟨p, e, R, s, m⟩, ⟨args, below, meth, c⟩, ⟨A, nc, ns, Z⟩⟩ := x
  obtain ⟨l, dC, dI, ad, cA, sa, sv, vf⟩ := g
  obtain ⟨hx, hb, hr, hml, hown, hts, hlk, hK, hD0, hA, hE, hfr, hlc, hnc, hns⟩ := C0
  intro H locs ls hP hS hl
  refine va_put (D := (dC, dI)) (ci := 6) (ty := .int) (C := RX6) (T := TX6) (N := 17) hx hb hts inX6 tyX6 tyX6_ok nmX6 hown hK hP (D_any hD0) hS i (at_6 hi.1 hi.2) rfl 2 (by decide) (hts _ hw) (fun _ h9 => h9) rfl (by decide +kernel) rfl rfl (Nat.le_of_ble_eq_true rfl) hd (fun H locs hP hD hS => ?_)
  rw [put_6_2 v hi.1 hi.2] at hP
  exact (h H locs ls hP hS hl)
theorem gf_6_3 (C0 : Cx g x cc nL ret own fr lc) {i index : Nat} (hi : KD i 6) (hw : Cond.fieldLink own index "DrumBoats$SeatSearch" "members" "I" ∈ GW) (hd : decode cc pc = .ok (.getfield index, 3)) (h : FW g x nL d dl (pc + 3) lo (.int (d i 3) :: st)) : FW g x nL d dl pc lo (rf g i :: st) := by
  obtain ⟨⟨p, e, R, s, m⟩, ⟨args, below, meth, c⟩, ⟨A, nc, ns, Z⟩⟩ := x
  obtain ⟨l, dC, dI, ad, cA, sa, sv, vf⟩ := g
  obtain ⟨hx, hb, hr, hml, hown, hts, hlk, hK, hD0, hA, hE, hfr, hlc, hnc, hns⟩ := C0
  intro H locs ls hP hS hl
  exact va_get (D := (dC, dI)) (ci := 6) (C := RX6) (T := TX6) (N := 17) hx hb hts inX6 hown hK hP i (at_6 hi.1 hi.2) rfl 3 (by decide) (hts _ hw) (fun _ h9 => h9) rfl hd (h H locs ls hP hS hl)
theorem pf_6_3 (C0 : Cx g x cc nL ret own fr lc) {i index : Nat} {v : Int32} (hi : KD i 6) (hw : Cond.fieldLink own index "DrumBoats$SeatSearch" "members" "I" ∈ GW) (hd : decode cc pc = .ok (.putfield index, 3)) (h : FW g x nL (u2 d i 3 v) dl (pc + 3) lo st) : FW g x nL d dl pc lo (.int v :: rf g i :: st) := by
  obtain ⟨⟨p, e, R, s, m⟩, ⟨args, below, meth, c⟩, ⟨A, nc, ns, Z⟩⟩ := x
  obtain ⟨l, dC, dI, ad, cA, sa, sv, vf⟩ := g
  obtain ⟨hx, hb, hr, hml, hown, hts, hlk, hK, hD0, hA, hE, hfr, hlc, hnc, hns⟩ := C0
  intro H locs ls hP hS hl
  refine va_put (D := (dC, dI)) (ci := 6) (ty := .int) (C := RX6) (T := TX6) (N := 17) hx hb hts inX6 tyX6 tyX6_ok nmX6 hown hK hP (D_any hD0) hS i (at_6 hi.1 hi.2) rfl 3 (by decide) (hts _ hw) (fun _ h9 => h9) rfl (by decide +kernel) rfl rfl (Nat.le_of_ble_eq_true rfl) hd (fun H locs hP hD hS => ?_)
  rw [put_6_3 v hi.1 hi.2] at hP
  exact (h H locs ls hP hS hl)
theorem gf_6_4 (C0 : Cx g x cc nL ret own fr lc) {i index : Nat} {r : Nat} (hr9 : i + 1 = r) (hi : KD i 6) (hw : Cond.fieldLink own index "DrumBoats$SeatSearch" "weight" "[I" ∈ GW) (hd : decode cc pc = .ok (.getfield index, 3)) (h : FW g x nL d dl (pc + 3) lo (rf g r :: st)) : FW g x nL d dl pc lo (rf g i :: st) := by
  subst hr9
  obtain ⟨⟨p, e, R, s, m⟩, ⟨args, below, meth, c⟩, ⟨A, nc, ns, Z⟩⟩ := x
  obtain ⟨l, dC, dI, ad, cA, sa, sv, vf⟩ := g
  obtain ⟨hx, hb, hr, hml, hown, hts, hlk, hK, hD0, hA, hE, hfr, hlc, hnc, hns⟩ := C0
  intro H locs ls hP hS hl
  exact va_get (D := (dC, dI)) (ci := 6) (C := RX6) (T := TX6) (N := 17) hx hb hts inX6 hown hK hP i (at_6 hi.1 hi.2) rfl 4 (by decide) (hts _ hw) (fun _ h9 => h9) rfl hd (h H locs ls hP hS hl)
theorem gf_6_5 (C0 : Cx g x cc nL ret own fr lc) {i index : Nat} {r : Nat} (hr9 : i + 2 = r) (hi : KD i 6) (hw : Cond.fieldLink own index "DrumBoats$SeatSearch" "strength" "[I" ∈ GW) (hd : decode cc pc = .ok (.getfield index, 3)) (h : FW g x nL d dl (pc + 3) lo (rf g r :: st)) : FW g x nL d dl pc lo (rf g i :: st) := by
  subst hr9
  obtain ⟨⟨p, e, R, s, m⟩, ⟨args, below, meth, c⟩, ⟨A, nc, ns, Z⟩⟩ := x
  obtain ⟨l, dC, dI, ad, cA, sa, sv, vf⟩ := g
  obtain ⟨hx, hb, hr, hml, hown, hts, hlk, hK, hD0, hA, hE, hfr, hlc, hnc, hns⟩ := C0
  intro H locs ls hP hS hl
  exact va_get (D := (dC, dI)) (ci := 6) (C := RX6) (T := TX6) (N := 17) hx hb hts inX6 hown hK hP i (at_6 hi.1 hi.2) rfl 5 (by decide) (hts _ hw) (fun _ h9 => h9) rfl hd (h H locs ls hP hS hl)
theorem gf_6_6 (C0 : Cx g x cc nL ret own fr lc) {i index : Nat} {r : Nat} (hr9 : i + 3 = r) (hi : KD i 6) (hw : Cond.fieldLink own index "DrumBoats$SeatSearch" "arm" "[I" ∈ GW) (hd : decode cc pc = .ok (.getfield index, 3)) (h : FW g x nL d dl (pc + 3) lo (rf g r :: st)) : FW g x nL d dl pc lo (rf g i :: st) := by
  subst hr9
  obtain ⟨⟨p, e, R, s, m⟩, ⟨args, below, meth, c⟩, ⟨A, nc, ns, Z⟩⟩ := x
  obtain ⟨l, dC, dI, ad, cA, sa, sv, vf⟩ := g
  obtain ⟨hx, hb, hr, hml, hown, hts, hlk, hK, hD0, hA, hE, hfr, hlc, hnc, hns⟩ := C0
  intro H locs ls hP hS hl
  exact va_get (D := (dC, dI)) (ci := 6) (C := RX6) (T := TX6) (N := 17) hx hb hts inX6 hown hK hP i (at_6 hi.1 hi.2) rfl 6 (by decide) (hts _ hw) (fun _ h9 => h9) rfl hd (h H locs ls hP hS hl)
theorem gf_6_7 (C0 : Cx g x cc nL ret own fr lc) {i index : Nat} {r : Nat} (hr9 : i + 4 = r) (hi : KD i 6) (hw : Cond.fieldLink own index "DrumBoats$SeatSearch" "friendBits" "[I" ∈ GW) (hd : decode cc pc = .ok (.getfield index, 3)) (h : FW g x nL d dl (pc + 3) lo (rf g r :: st)) : FW g x nL d dl pc lo (rf g i :: st) := by
  subst hr9
  obtain ⟨⟨p, e, R, s, m⟩, ⟨args, below, meth, c⟩, ⟨A, nc, ns, Z⟩⟩ := x
  obtain ⟨l, dC, dI, ad, cA, sa, sv, vf⟩ := g
  obtain ⟨hx, hb, hr, hml, hown, hts, hlk, hK, hD0, hA, hE, hfr, hlc, hnc, hns⟩ := C0
  intro H locs ls hP hS hl
  exact va_get (D := (dC, dI)) (ci := 6) (C := RX6) (T := TX6) (N := 17) hx hb hts inX6 hown hK hP i (at_6 hi.1 hi.2) rfl 7 (by decide) (hts _ hw) (fun _ h9 => h9) rfl hd (h H locs ls hP hS hl)
theorem gf_6_8 (C0 : Cx g x cc nL ret own fr lc) {i index : Nat} {r : Nat} (hr9 : i + 5 = r) (hi : KD i 6) (hw : Cond.fieldLink own index "DrumBoats$SeatSearch" "pitchFactor" "[I" ∈ GW) (hd : decode cc pc = .ok (.getfield index, 3)) (h : FW g x nL d dl (pc + 3) lo (rf g r :: st)) : FW g x nL d dl pc lo (rf g i :: st) := by
  subst hr9
  obtain ⟨⟨p, e, R, s, m⟩, ⟨args, below, meth, c⟩, ⟨A, nc, ns, Z⟩⟩ := x
  obtain ⟨l, dC, dI, ad, cA, sa, sv, vf⟩ := g
  obtain ⟨hx, hb, hr, hml, hown, hts, hlk, hK, hD0, hA, hE, hfr, hlc, hnc, hns⟩ := C0
  intro H locs ls hP hS hl
  exact va_get (D := (dC, dI)) (ci := 6) (C := RX6) (T := TX6) (N := 17) hx hb hts inX6 hown hK hP i (at_6 hi.1 hi.2) rfl 8 (by decide) (hts _ hw) (fun _ h9 => h9) rfl hd (h H locs ls hP hS hl)
theorem gf_6_9 (C0 : Cx g x cc nL ret own fr lc) {i index : Nat} {r : Nat} (hr9 : i + 6 = r) (hi : KD i 6) (hw : Cond.fieldLink own index "DrumBoats$SeatSearch" "middleFactor" "[I" ∈ GW) (hd : decode cc pc = .ok (.getfield index, 3)) (h : FW g x nL d dl (pc + 3) lo (rf g r :: st)) : FW g x nL d dl pc lo (rf g i :: st) := by
  subst hr9
  obtain ⟨⟨p, e, R, s, m⟩, ⟨args, below, meth, c⟩, ⟨A, nc, ns, Z⟩⟩ := x
  obtain ⟨l, dC, dI, ad, cA, sa, sv, vf⟩ := g
  obtain ⟨hx, hb, hr, hml, hown, hts, hlk, hK, hD0, hA, hE, hfr, hlc, hnc, hns⟩ := C0
  intro H locs ls hP hS hl
  exact va_get (D := (dC, dI)) (ci := 6) (C := RX6) (T := TX6) (N := 17) hx hb hts inX6 hown hK hP i (at_6 hi.1 hi.2) rfl 9 (by decide) (hts _ hw) (fun _ h9 => h9) rfl hd (h H locs ls hP hS hl)
theorem gf_6_10 (C0 : Cx g x cc nL ret own fr lc) {i index : Nat} {r : Nat} (hr9 : i + 7 = r) (hi : KD i 6) (hw : Cond.fieldLink own index "DrumBoats$SeatSearch" "chosen" "[I" ∈ GW) (hd : decode cc pc = .ok (.getfield index, 3)) (h : FW g x nL d dl (pc + 3) lo (rf g r :: st)) : FW g x nL d dl pc lo (rf g i :: st) := by
  subst hr9
  obtain ⟨⟨p, e, R, s, m⟩, ⟨args, below, meth, c⟩, ⟨A, nc, ns, Z⟩⟩ := x
  obtain ⟨l, dC, dI, ad, cA, sa, sv, vf⟩ := g
  obtain ⟨hx, hb, hr, hml, hown, hts, hlk, hK, hD0, hA, hE, hfr, hlc, hnc, hns⟩ := C0
  intro H locs ls hP hS hl
  exact va_get (D := (dC, dI)) (ci := 6) (C := RX6) (T := TX6) (N := 17) hx hb hts inX6 hown hK hP i (at_6 hi.1 hi.2) rfl 10 (by decide) (hts _ hw) (fun _ h9 => h9) rfl hd (h H locs ls hP hS hl)
theorem gf_6_11 (C0 : Cx g x cc nL ret own fr lc) {i index : Nat} {r : Nat} (hr9 : i + 8 = r) (hi : KD i 6) (hw : Cond.fieldLink own index "DrumBoats$SeatSearch" "best" "[I" ∈ GW) (hd : decode cc pc = .ok (.getfield index, 3)) (h : FW g x nL d dl (pc + 3) lo (rf g r :: st)) : FW g x nL d dl pc lo (rf g i :: st) := by
  subst hr9
  obtain ⟨⟨p, e, R, s, m⟩, ⟨args, below, meth, c⟩, ⟨A, nc, ns, Z⟩⟩ := x
  obtain ⟨l, dC, dI, ad, cA, sa, sv, vf⟩ := g
  obtain ⟨hx, hb, hr, hml, hown, hts, hlk, hK, hD0, hA, hE, hfr, hlc, hnc, hns⟩ := C0
  intro H locs ls hP hS hl
  exact va_get (D := (dC, dI)) (ci := 6) (C := RX6) (T := TX6) (N := 17) hx hb hts inX6 hown hK hP i (at_6 hi.1 hi.2) rfl 11 (by decide) (hts _ hw) (fun _ h9 => h9) rfl hd (h H locs ls hP hS hl)
theorem gf_6_12 (C0 : Cx g x cc nL ret own fr lc) {i index : Nat} {r : Nat} (hr9 : i + 9 = r) (hi : KD i 6) (hw : Cond.fieldLink own index "DrumBoats$SeatSearch" "leanLow" "[I" ∈ GW) (hd : decode cc pc = .ok (.getfield index, 3)) (h : FW g x nL d dl (pc + 3) lo (rf g r :: st)) : FW g x nL d dl pc lo (rf g i :: st) := by
  subst hr9
  obtain ⟨⟨p, e, R, s, m⟩, ⟨args, below, meth, c⟩, ⟨A, nc, ns, Z⟩⟩ := x
  obtain ⟨l, dC, dI, ad, cA, sa, sv, vf⟩ := g
  obtain ⟨hx, hb, hr, hml, hown, hts, hlk, hK, hD0, hA, hE, hfr, hlc, hnc, hns⟩ := C0
  intro H locs ls hP hS hl
  exact va_get (D := (dC, dI)) (ci := 6) (C := RX6) (T := TX6) (N := 17) hx hb hts inX6 hown hK hP i (at_6 hi.1 hi.2) rfl 12 (by decide) (hts _ hw) (fun _ h9 => h9) rfl hd (h H locs ls hP hS hl)
theorem gf_6_13 (C0 : Cx g x cc nL ret own fr lc) {i index : Nat} {r : Nat} (hr9 : i + 10 = r) (hi : KD i 6) (hw : Cond.fieldLink own index "DrumBoats$SeatSearch" "leanHigh" "[I" ∈ GW) (hd : decode cc pc = .ok (.getfield index, 3)) (h : FW g x nL d dl (pc + 3) lo (rf g r :: st)) : FW g x nL d dl pc lo (rf g i :: st) := by
  subst hr9
  obtain ⟨⟨p, e, R, s, m⟩, ⟨args, below, meth, c⟩, ⟨A, nc, ns, Z⟩⟩ := x
  obtain ⟨l, dC, dI, ad, cA, sa, sv, vf⟩ := g
  obtain ⟨hx, hb, hr, hml, hown, hts, hlk, hK, hD0, hA, hE, hfr, hlc, hnc, hns⟩ := C0
  intro H locs ls hP hS hl
  exact va_get (D := (dC, dI)) (ci := 6) (C := RX6) (T := TX6) (N := 17) hx hb hts inX6 hown hK hP i (at_6 hi.1 hi.2) rfl 13 (by decide) (hts _ hw) (fun _ h9 => h9) rfl hd (h H locs ls hP hS hl)
theorem gf_6_14 (C0 : Cx g x cc nL ret own fr lc) {i index : Nat} {r : Nat} (hr9 : i + 11 = r) (hi : KD i 6) (hw : Cond.fieldLink own index "DrumBoats$SeatSearch" "pitchLow" "[I" ∈ GW) (hd : decode cc pc = .ok (.getfield index, 3)) (h : FW g x nL d dl (pc + 3) lo (rf g r :: st)) : FW g x nL d dl pc lo (rf g i :: st) := by
  subst hr9
  obtain ⟨⟨p, e, R, s, m⟩, ⟨args, below, meth, c⟩, ⟨A, nc, ns, Z⟩⟩ := x
  obtain ⟨l, dC, dI, ad, cA, sa, sv, vf⟩ := g
  obtain ⟨hx, hb, hr, hml, hown, hts, hlk, hK, hD0, hA, hE, hfr, hlc, hnc, hns⟩ := C0
  intro H locs ls hP hS hl
  exact va_get (D := (dC, dI)) (ci := 6) (C := RX6) (T := TX6) (N := 17) hx hb hts inX6 hown hK hP i (at_6 hi.1 hi.2) rfl 14 (by decide) (hts _ hw) (fun _ h9 => h9) rfl hd (h H locs ls hP hS hl)
theorem gf_6_15 (C0 : Cx g x cc nL ret own fr lc) {i index : Nat} {r : Nat} (hr9 : i + 12 = r) (hi : KD i 6) (hw : Cond.fieldLink own index "DrumBoats$SeatSearch" "pitchHigh" "[I" ∈ GW) (hd : decode cc pc = .ok (.getfield index, 3)) (h : FW g x nL d dl (pc + 3) lo (rf g r :: st)) : FW g x nL d dl pc lo (rf g i :: st) := by
  subst hr9
  obtain ⟨⟨p, e, R, s, m⟩, ⟨args, below, meth, c⟩, ⟨A, nc, ns, Z⟩⟩ := x
  obtain ⟨l, dC, dI, ad, cA, sa, sv, vf⟩ := g
  obtain ⟨hx, hb, hr, hml, hown, hts, hlk, hK, hD0, hA, hE, hfr, hlc, hnc, hns⟩ := C0
  intro H locs ls hP hS hl
  exact va_get (D := (dC, dI)) (ci := 6) (C := RX6) (T := TX6) (N := 17) hx hb hts inX6 hown hK hP i (at_6 hi.1 hi.2) rfl 15 (by decide) (hts _ hw) (fun _ h9 => h9) rfl hd (h H locs ls hP hS hl)
theorem gf_6_16 (C0 : Cx g x cc nL ret own fr lc) {i index : Nat} {r : Nat} (hr9 : i + 13 = r) (hi : KD i 6) (hw : Cond.fieldLink own index "DrumBoats$SeatSearch" "gainHigh" "[I" ∈ GW) (hd : decode cc pc = .ok (.getfield index, 3)) (h : FW g x nL d dl (pc + 3) lo (rf g r :: st)) : FW g x nL d dl pc lo (rf g i :: st) := by
  subst hr9
  obtain ⟨⟨p, e, R, s, m⟩, ⟨args, below, meth, c⟩, ⟨A, nc, ns, Z⟩⟩ := x
  obtain ⟨l, dC, dI, ad, cA, sa, sv, vf⟩ := g
  obtain ⟨hx, hb, hr, hml, hown, hts, hlk, hK, hD0, hA, hE, hfr, hlc, hnc, hns⟩ := C0
  intro H locs ls hP hS hl
  exact va_get (D := (dC, dI)) (ci := 6) (C := RX6) (T := TX6) (N := 17) hx hb hts inX6 hown hK hP i (at_6 hi.1 hi.2) rfl 16 (by decide) (hts _ hw) (fun _ h9 => h9) rfl hd (h H locs ls hP hS hl)
theorem gf_7_0 (C0 : Cx g x cc nL ret own fr lc) {i index : Nat} (hi : KD i 7) (hw : Cond.fieldLink own index "DrumBoats$Tape" "size" "I" ∈ GW) (hd : decode cc pc = .ok (.getfield index, 3)) (h : FW g x nL d dl (pc + 3) lo (.int (d i 0) :: st)) : FW g x nL d dl pc lo (rf g i :: st) := by
  obtain ⟨⟨p, e, R, s, m⟩, ⟨args, below, meth, c⟩, ⟨A, nc, ns, Z⟩⟩ := x
  obtain ⟨l, dC, dI, ad, cA, sa, sv, vf⟩ := g
  obtain ⟨hx, hb, hr, hml, hown, hts, hlk, hK, hD0, hA, hE, hfr, hlc, hnc, hns⟩ := C0
  intro H locs ls hP hS hl
  exact va_get (D := (dC, dI)) (ci := 7) (C := RX7) (T := TX7) (N := 3) hx hb hts inX7 hown hK hP i (at_7 hi.1 hi.2) rfl 0 (by decide) (hts _ hw) (fun _ h9 => h9) rfl hd (h H locs ls hP hS hl)
theorem pf_7_0 (C0 : Cx g x cc nL ret own fr lc) {i index : Nat} {v : Int32} (hi : KD i 7) (hw : Cond.fieldLink own index "DrumBoats$Tape" "size" "I" ∈ GW) (hd : decode cc pc = .ok (.putfield index, 3)) (h : FW g x nL (u2 d i 0 v) dl (pc + 3) lo st) : FW g x nL d dl pc lo (.int v :: rf g i :: st) := by
  obtain ⟨⟨p, e, R, s, m⟩, ⟨args, below, meth, c⟩, ⟨A, nc, ns, Z⟩⟩ := x
  obtain ⟨l, dC, dI, ad, cA, sa, sv, vf⟩ := g
  obtain ⟨hx, hb, hr, hml, hown, hts, hlk, hK, hD0, hA, hE, hfr, hlc, hnc, hns⟩ := C0
  intro H locs ls hP hS hl
  refine va_put (D := (dC, dI)) (ci := 7) (ty := .int) (C := RX7) (T := TX7) (N := 3) hx hb hts inX7 tyX7 tyX7_ok nmX7 hown hK hP (D_any hD0) hS i (at_7 hi.1 hi.2) rfl 0 (by decide) (hts _ hw) (fun _ h9 => h9) rfl (by decide +kernel) rfl rfl (Nat.le_of_ble_eq_true rfl) hd (fun H locs hP hD hS => ?_)
  rw [put_7_0 v hi.1 hi.2] at hP
  exact (h H locs ls hP hS hl)
theorem gf_7_1 (C0 : Cx g x cc nL ret own fr lc) {i index : Nat} (hi : KD i 7) (hw : Cond.fieldLink own index "DrumBoats$Tape" "at" "I" ∈ GW) (hd : decode cc pc = .ok (.getfield index, 3)) (h : FW g x nL d dl (pc + 3) lo (.int (d i 1) :: st)) : FW g x nL d dl pc lo (rf g i :: st) := by
  obtain ⟨⟨p, e, R, s, m⟩, ⟨args, below, meth, c⟩, ⟨A, nc, ns, Z⟩⟩ := x
  obtain ⟨l, dC, dI, ad, cA, sa, sv, vf⟩ := g
  obtain ⟨hx, hb, hr, hml, hown, hts, hlk, hK, hD0, hA, hE, hfr, hlc, hnc, hns⟩ := C0
  intro H locs ls hP hS hl
  exact va_get (D := (dC, dI)) (ci := 7) (C := RX7) (T := TX7) (N := 3) hx hb hts inX7 hown hK hP i (at_7 hi.1 hi.2) rfl 1 (by decide) (hts _ hw) (fun _ h9 => h9) rfl hd (h H locs ls hP hS hl)
theorem pf_7_1 (C0 : Cx g x cc nL ret own fr lc) {i index : Nat} {v : Int32} (hi : KD i 7) (hw : Cond.fieldLink own index "DrumBoats$Tape" "at" "I" ∈ GW) (hd : decode cc pc = .ok (.putfield index, 3)) (h : FW g x nL (u2 d i 1 v) dl (pc + 3) lo st) : FW g x nL d dl pc lo (.int v :: rf g i :: st) := by
  obtain ⟨⟨p, e, R, s, m⟩, ⟨args, below, meth, c⟩, ⟨A, nc, ns, Z⟩⟩ := x
  obtain ⟨l, dC, dI, ad, cA, sa, sv, vf⟩ := g
  obtain ⟨hx, hb, hr, hml, hown, hts, hlk, hK, hD0, hA, hE, hfr, hlc, hnc, hns⟩ := C0
  intro H locs ls hP hS hl
  refine va_put (D := (dC, dI)) (ci := 7) (ty := .int) (C := RX7) (T := TX7) (N := 3) hx hb hts inX7 tyX7 tyX7_ok nmX7 hown hK hP (D_any hD0) hS i (at_7 hi.1 hi.2) rfl 1 (by decide) (hts _ hw) (fun _ h9 => h9) rfl (by decide +kernel) rfl rfl (Nat.le_of_ble_eq_true rfl) hd (fun H locs hP hD hS => ?_)
  rw [put_7_1 v hi.1 hi.2] at hP
  exact (h H locs ls hP hS hl)
theorem gf_7_2 (C0 : Cx g x cc nL ret own fr lc) {i index : Nat} {r : Nat} (hr9 : i + 1 = r) (hi : KD i 7) (hw : Cond.fieldLink own index "DrumBoats$Tape" "bytes" "[I" ∈ GW) (hd : decode cc pc = .ok (.getfield index, 3)) (h : FW g x nL d dl (pc + 3) lo (rf g r :: st)) : FW g x nL d dl pc lo (rf g i :: st) := by
  subst hr9
  obtain ⟨⟨p, e, R, s, m⟩, ⟨args, below, meth, c⟩, ⟨A, nc, ns, Z⟩⟩ := x
  obtain ⟨l, dC, dI, ad, cA, sa, sv, vf⟩ := g
  obtain ⟨hx, hb, hr, hml, hown, hts, hlk, hK, hD0, hA, hE, hfr, hlc, hnc, hns⟩ := C0
  intro H locs ls hP hS hl
  exact va_get (D := (dC, dI)) (ci := 7) (C := RX7) (T := TX7) (N := 3) hx hb hts inX7 hown hK hP i (at_7 hi.1 hi.2) rfl 2 (by decide) (hts _ hw) (fun _ h9 => h9) rfl hd (h H locs ls hP hS hl)
theorem gf_8_0 (C0 : Cx g x cc nL ret own fr lc) {i index : Nat} (hi : KD i 8) (hw : Cond.fieldLink own index "DrumBoats$Trim" "lean" "I" ∈ GW) (hd : decode cc pc = .ok (.getfield index, 3)) (h : FW g x nL d dl (pc + 3) lo (.int (d i 0) :: st)) : FW g x nL d dl pc lo (rf g i :: st) := by
  obtain ⟨⟨p, e, R, s, m⟩, ⟨args, below, meth, c⟩, ⟨A, nc, ns, Z⟩⟩ := x
  obtain ⟨l, dC, dI, ad, cA, sa, sv, vf⟩ := g
  obtain ⟨hx, hb, hr, hml, hown, hts, hlk, hK, hD0, hA, hE, hfr, hlc, hnc, hns⟩ := C0
  intro H locs ls hP hS hl
  exact va_get (D := (dC, dI)) (ci := 8) (C := RX8) (T := TX8) (N := 4) hx hb hts inX8 hown hK hP i (at_8 hi.1 hi.2) rfl 0 (by decide) (hts _ hw) (fun _ h9 => h9) rfl hd (h H locs ls hP hS hl)
theorem pf_8_0 (C0 : Cx g x cc nL ret own fr lc) {i index : Nat} {v : Int32} (hi : KD i 8) (hw : Cond.fieldLink own index "DrumBoats$Trim" "lean" "I" ∈ GW) (hd : decode cc pc = .ok (.putfield index, 3)) (h : FW g x nL (u2 d i 0 v) dl (pc + 3) lo st) : FW g x nL d dl pc lo (.int v :: rf g i :: st) := by
  obtain ⟨⟨p, e, R, s, m⟩, ⟨args, below, meth, c⟩, ⟨A, nc, ns, Z⟩⟩ := x
  obtain ⟨l, dC, dI, ad, cA, sa, sv, vf⟩ := g
  obtain ⟨hx, hb, hr, hml, hown, hts, hlk, hK, hD0, hA, hE, hfr, hlc, hnc, hns⟩ := C0
  intro H locs ls hP hS hl
  refine va_put (D := (dC, dI)) (ci := 8) (ty := .int) (C := RX8) (T := TX8) (N := 4) hx hb hts inX8 tyX8 tyX8_ok nmX8 hown hK hP (D_any hD0) hS i (at_8 hi.1 hi.2) rfl 0 (by decide) (hts _ hw) (fun _ h9 => h9) rfl (by decide +kernel) rfl rfl (Nat.le_of_ble_eq_true rfl) hd (fun H locs hP hD hS => ?_)
  rw [put_8_0 v hi.1 hi.2] at hP
  exact (h H locs ls hP hS hl)
theorem gf_8_1 (C0 : Cx g x cc nL ret own fr lc) {i index : Nat} (hi : KD i 8) (hw : Cond.fieldLink own index "DrumBoats$Trim" "pitch" "I" ∈ GW) (hd : decode cc pc = .ok (.getfield index, 3)) (h : FW g x nL d dl (pc + 3) lo (.int (d i 1) :: st)) : FW g x nL d dl pc lo (rf g i :: st) := by
  obtain ⟨⟨p, e, R, s, m⟩, ⟨args, below, meth, c⟩, ⟨A, nc, ns, Z⟩⟩ := x
  obtain ⟨l, dC, dI, ad, cA, sa, sv, vf⟩ := g
  obtain ⟨hx, hb, hr, hml, hown, hts, hlk, hK, hD0, hA, hE, hfr, hlc, hnc, hns⟩ := C0
  intro H locs ls hP hS hl
  exact va_get (D := (dC, dI)) (ci := 8) (C := RX8) (T := TX8) (N := 4) hx hb hts inX8 hown hK hP i (at_8 hi.1 hi.2) rfl 1 (by decide) (hts _ hw) (fun _ h9 => h9) rfl hd (h H locs ls hP hS hl)
theorem pf_8_1 (C0 : Cx g x cc nL ret own fr lc) {i index : Nat} {v : Int32} (hi : KD i 8) (hw : Cond.fieldLink own index "DrumBoats$Trim" "pitch" "I" ∈ GW) (hd : decode cc pc = .ok (.putfield index, 3)) (h : FW g x nL (u2 d i 1 v) dl (pc + 3) lo st) : FW g x nL d dl pc lo (.int v :: rf g i :: st) := by
  obtain ⟨⟨p, e, R, s, m⟩, ⟨args, below, meth, c⟩, ⟨A, nc, ns, Z⟩⟩ := x
  obtain ⟨l, dC, dI, ad, cA, sa, sv, vf⟩ := g
  obtain ⟨hx, hb, hr, hml, hown, hts, hlk, hK, hD0, hA, hE, hfr, hlc, hnc, hns⟩ := C0
  intro H locs ls hP hS hl
  refine va_put (D := (dC, dI)) (ci := 8) (ty := .int) (C := RX8) (T := TX8) (N := 4) hx hb hts inX8 tyX8 tyX8_ok nmX8 hown hK hP (D_any hD0) hS i (at_8 hi.1 hi.2) rfl 1 (by decide) (hts _ hw) (fun _ h9 => h9) rfl (by decide +kernel) rfl rfl (Nat.le_of_ble_eq_true rfl) hd (fun H locs hP hD hS => ?_)
  rw [put_8_1 v hi.1 hi.2] at hP
  exact (h H locs ls hP hS hl)
theorem gf_8_2 (C0 : Cx g x cc nL ret own fr lc) {i index : Nat} (hi : KD i 8) (hw : Cond.fieldLink own index "DrumBoats$Trim" "middle" "I" ∈ GW) (hd : decode cc pc = .ok (.getfield index, 3)) (h : FW g x nL d dl (pc + 3) lo (.int (d i 2) :: st)) : FW g x nL d dl pc lo (rf g i :: st) := by
  obtain ⟨⟨p, e, R, s, m⟩, ⟨args, below, meth, c⟩, ⟨A, nc, ns, Z⟩⟩ := x
  obtain ⟨l, dC, dI, ad, cA, sa, sv, vf⟩ := g
  obtain ⟨hx, hb, hr, hml, hown, hts, hlk, hK, hD0, hA, hE, hfr, hlc, hnc, hns⟩ := C0
  intro H locs ls hP hS hl
  exact va_get (D := (dC, dI)) (ci := 8) (C := RX8) (T := TX8) (N := 4) hx hb hts inX8 hown hK hP i (at_8 hi.1 hi.2) rfl 2 (by decide) (hts _ hw) (fun _ h9 => h9) rfl hd (h H locs ls hP hS hl)
theorem pf_8_2 (C0 : Cx g x cc nL ret own fr lc) {i index : Nat} {v : Int32} (hi : KD i 8) (hw : Cond.fieldLink own index "DrumBoats$Trim" "middle" "I" ∈ GW) (hd : decode cc pc = .ok (.putfield index, 3)) (h : FW g x nL (u2 d i 2 v) dl (pc + 3) lo st) : FW g x nL d dl pc lo (.int v :: rf g i :: st) := by
  obtain ⟨⟨p, e, R, s, m⟩, ⟨args, below, meth, c⟩, ⟨A, nc, ns, Z⟩⟩ := x
  obtain ⟨l, dC, dI, ad, cA, sa, sv, vf⟩ := g
  obtain ⟨hx, hb, hr, hml, hown, hts, hlk, hK, hD0, hA, hE, hfr, hlc, hnc, hns⟩ := C0
  intro H locs ls hP hS hl
  refine va_put (D := (dC, dI)) (ci := 8) (ty := .int) (C := RX8) (T := TX8) (N := 4) hx hb hts inX8 tyX8 tyX8_ok nmX8 hown hK hP (D_any hD0) hS i (at_8 hi.1 hi.2) rfl 2 (by decide) (hts _ hw) (fun _ h9 => h9) rfl (by decide +kernel) rfl rfl (Nat.le_of_ble_eq_true rfl) hd (fun H locs hP hD hS => ?_)
  rw [put_8_2 v hi.1 hi.2] at hP
  exact (h H locs ls hP hS hl)
theorem gf_8_3 (C0 : Cx g x cc nL ret own fr lc) {i index : Nat} (hi : KD i 8) (hw : Cond.fieldLink own index "DrumBoats$Trim" "friends" "I" ∈ GW) (hd : decode cc pc = .ok (.getfield index, 3)) (h : FW g x nL d dl (pc + 3) lo (.int (d i 3) :: st)) : FW g x nL d dl pc lo (rf g i :: st) := by
  obtain ⟨⟨p, e, R, s, m⟩, ⟨args, below, meth, c⟩, ⟨A, nc, ns, Z⟩⟩ := x
  obtain ⟨l, dC, dI, ad, cA, sa, sv, vf⟩ := g
  obtain ⟨hx, hb, hr, hml, hown, hts, hlk, hK, hD0, hA, hE, hfr, hlc, hnc, hns⟩ := C0
  intro H locs ls hP hS hl
  exact va_get (D := (dC, dI)) (ci := 8) (C := RX8) (T := TX8) (N := 4) hx hb hts inX8 hown hK hP i (at_8 hi.1 hi.2) rfl 3 (by decide) (hts _ hw) (fun _ h9 => h9) rfl hd (h H locs ls hP hS hl)
theorem pf_8_3 (C0 : Cx g x cc nL ret own fr lc) {i index : Nat} {v : Int32} (hi : KD i 8) (hw : Cond.fieldLink own index "DrumBoats$Trim" "friends" "I" ∈ GW) (hd : decode cc pc = .ok (.putfield index, 3)) (h : FW g x nL (u2 d i 3 v) dl (pc + 3) lo st) : FW g x nL d dl pc lo (.int v :: rf g i :: st) := by
  obtain ⟨⟨p, e, R, s, m⟩, ⟨args, below, meth, c⟩, ⟨A, nc, ns, Z⟩⟩ := x
  obtain ⟨l, dC, dI, ad, cA, sa, sv, vf⟩ := g
  obtain ⟨hx, hb, hr, hml, hown, hts, hlk, hK, hD0, hA, hE, hfr, hlc, hnc, hns⟩ := C0
  intro H locs ls hP hS hl
  refine va_put (D := (dC, dI)) (ci := 8) (ty := .int) (C := RX8) (T := TX8) (N := 4) hx hb hts inX8 tyX8 tyX8_ok nmX8 hown hK hP (D_any hD0) hS i (at_8 hi.1 hi.2) rfl 3 (by decide) (hts _ hw) (fun _ h9 => h9) rfl (by decide +kernel) rfl rfl (Nat.le_of_ble_eq_true rfl) hd (fun H locs hP hD hS => ?_)
  rw [put_8_3 v hi.1 hi.2] at hP
  exact (h H locs ls hP hS hl)
theorem gf_9_0 (C0 : Cx g x cc nL ret own fr lc) {i index : Nat} {r : Nat} (hr9 : i + 1 = r) (hi : KD i 9) (hw : Cond.fieldLink own index "DrumBoats" "roster" "LDrumBoats$Roster;" ∈ GW) (hd : decode cc pc = .ok (.getfield index, 3)) (h : FW g x nL d dl (pc + 3) lo (rf g r :: st)) : FW g x nL d dl pc lo (rf g i :: st) := by
  subst hr9
  obtain ⟨⟨p, e, R, s, m⟩, ⟨args, below, meth, c⟩, ⟨A, nc, ns, Z⟩⟩ := x
  obtain ⟨l, dC, dI, ad, cA, sa, sv, vf⟩ := g
  obtain ⟨hx, hb, hr, hml, hown, hts, hlk, hK, hD0, hA, hE, hfr, hlc, hnc, hns⟩ := C0
  intro H locs ls hP hS hl
  exact va_get (D := (dC, dI)) (ci := 9) (C := RX9) (T := TX9) (N := 16) hx hb hts inX9 hown hK hP i (at_9 hi.1 hi.2) rfl 0 (by decide) (hts _ hw) (fun _ h9 => h9) rfl hd (h H locs ls hP hS hl)
theorem gf_9_1 (C0 : Cx g x cc nL ret own fr lc) {i index : Nat} {r : Nat} (hr9 : i + 8 = r) (hi : KD i 9) (hw : Cond.fieldLink own index "DrumBoats" "crews" "[LDrumBoats$Crew;" ∈ GW) (hd : decode cc pc = .ok (.getfield index, 3)) (h : FW g x nL d dl (pc + 3) lo (rf g r :: st)) : FW g x nL d dl pc lo (rf g i :: st) := by
  subst hr9
  obtain ⟨⟨p, e, R, s, m⟩, ⟨args, below, meth, c⟩, ⟨A, nc, ns, Z⟩⟩ := x
  obtain ⟨l, dC, dI, ad, cA, sa, sv, vf⟩ := g
  obtain ⟨hx, hb, hr, hml, hown, hts, hlk, hK, hD0, hA, hE, hfr, hlc, hnc, hns⟩ := C0
  intro H locs ls hP hS hl
  exact va_get (D := (dC, dI)) (ci := 9) (C := RX9) (T := TX9) (N := 16) hx hb hts inX9 hown hK hP i (at_9 hi.1 hi.2) rfl 1 (by decide) (hts _ hw) (fun _ h9 => h9) rfl hd (h H locs ls hP hS hl)
theorem gf_9_2 (C0 : Cx g x cc nL ret own fr lc) {i index : Nat} (hi : KD i 9) (hw : Cond.fieldLink own index "DrumBoats" "crewCount" "I" ∈ GW) (hd : decode cc pc = .ok (.getfield index, 3)) (h : FW g x nL d dl (pc + 3) lo (.int (d i 2) :: st)) : FW g x nL d dl pc lo (rf g i :: st) := by
  obtain ⟨⟨p, e, R, s, m⟩, ⟨args, below, meth, c⟩, ⟨A, nc, ns, Z⟩⟩ := x
  obtain ⟨l, dC, dI, ad, cA, sa, sv, vf⟩ := g
  obtain ⟨hx, hb, hr, hml, hown, hts, hlk, hK, hD0, hA, hE, hfr, hlc, hnc, hns⟩ := C0
  intro H locs ls hP hS hl
  exact va_get (D := (dC, dI)) (ci := 9) (C := RX9) (T := TX9) (N := 16) hx hb hts inX9 hown hK hP i (at_9 hi.1 hi.2) rfl 2 (by decide) (hts _ hw) (fun _ h9 => h9) rfl hd (h H locs ls hP hS hl)
theorem pf_9_2 (C0 : Cx g x cc nL ret own fr lc) {i index : Nat} {v : Int32} (hi : KD i 9) (hw : Cond.fieldLink own index "DrumBoats" "crewCount" "I" ∈ GW) (hd : decode cc pc = .ok (.putfield index, 3)) (h : FW g x nL (u2 d i 2 v) dl (pc + 3) lo st) : FW g x nL d dl pc lo (.int v :: rf g i :: st) := by
  obtain ⟨⟨p, e, R, s, m⟩, ⟨args, below, meth, c⟩, ⟨A, nc, ns, Z⟩⟩ := x
  obtain ⟨l, dC, dI, ad, cA, sa, sv, vf⟩ := g
  obtain ⟨hx, hb, hr, hml, hown, hts, hlk, hK, hD0, hA, hE, hfr, hlc, hnc, hns⟩ := C0
  intro H locs ls hP hS hl
  refine va_put (D := (dC, dI)) (ci := 9) (ty := .int) (C := RX9) (T := TX9) (N := 16) hx hb hts inX9 tyX9 tyX9_ok nmX9 hown hK hP (D_any hD0) hS i (at_9 hi.1 hi.2) rfl 2 (by decide) (hts _ hw) (fun _ h9 => h9) rfl (by decide +kernel) rfl rfl (Nat.le_of_ble_eq_true rfl) hd (fun H locs hP hD hS => ?_)
  rw [put_9_2 v hi.1 hi.2] at hP
  exact (h H locs ls hP hS hl)
theorem gf_9_3 (C0 : Cx g x cc nL ret own fr lc) {i index : Nat} {r : Nat} (hr9 : i + 9 = r) (hi : KD i 9) (hw : Cond.fieldLink own index "DrumBoats" "balance" "LDrumBoats$Trim;" ∈ GW) (hd : decode cc pc = .ok (.getfield index, 3)) (h : FW g x nL d dl (pc + 3) lo (rf g r :: st)) : FW g x nL d dl pc lo (rf g i :: st) := by
  subst hr9
  obtain ⟨⟨p, e, R, s, m⟩, ⟨args, below, meth, c⟩, ⟨A, nc, ns, Z⟩⟩ := x
  obtain ⟨l, dC, dI, ad, cA, sa, sv, vf⟩ := g
  obtain ⟨hx, hb, hr, hml, hown, hts, hlk, hK, hD0, hA, hE, hfr, hlc, hnc, hns⟩ := C0
  intro H locs ls hP hS hl
  exact va_get (D := (dC, dI)) (ci := 9) (C := RX9) (T := TX9) (N := 16) hx hb hts inX9 hown hK hP i (at_9 hi.1 hi.2) rfl 3 (by decide) (hts _ hw) (fun _ h9 => h9) rfl hd (h H locs ls hP hS hl)
theorem gf_9_4 (C0 : Cx g x cc nL ret own fr lc) {i index : Nat} {r : Nat} (hr9 : i + 10 = r) (hi : KD i 9) (hw : Cond.fieldLink own index "DrumBoats" "search" "LDrumBoats$SeatSearch;" ∈ GW) (hd : decode cc pc = .ok (.getfield index, 3)) (h : FW g x nL d dl (pc + 3) lo (rf g r :: st)) : FW g x nL d dl pc lo (rf g i :: st) := by
  subst hr9
  obtain ⟨⟨p, e, R, s, m⟩, ⟨args, below, meth, c⟩, ⟨A, nc, ns, Z⟩⟩ := x
  obtain ⟨l, dC, dI, ad, cA, sa, sv, vf⟩ := g
  obtain ⟨hx, hb, hr, hml, hown, hts, hlk, hK, hD0, hA, hE, hfr, hlc, hnc, hns⟩ := C0
  intro H locs ls hP hS hl
  exact va_get (D := (dC, dI)) (ci := 9) (C := RX9) (T := TX9) (N := 16) hx hb hts inX9 hown hK hP i (at_9 hi.1 hi.2) rfl 4 (by decide) (hts _ hw) (fun _ h9 => h9) rfl hd (h H locs ls hP hS hl)
theorem gf_9_5 (C0 : Cx g x cc nL ret own fr lc) {i index : Nat} {r : Nat} (hr9 : i + 24 = r) (hi : KD i 9) (hw : Cond.fieldLink own index "DrumBoats" "tape" "LDrumBoats$Tape;" ∈ GW) (hd : decode cc pc = .ok (.getfield index, 3)) (h : FW g x nL d dl (pc + 3) lo (rf g r :: st)) : FW g x nL d dl pc lo (rf g i :: st) := by
  subst hr9
  obtain ⟨⟨p, e, R, s, m⟩, ⟨args, below, meth, c⟩, ⟨A, nc, ns, Z⟩⟩ := x
  obtain ⟨l, dC, dI, ad, cA, sa, sv, vf⟩ := g
  obtain ⟨hx, hb, hr, hml, hown, hts, hlk, hK, hD0, hA, hE, hfr, hlc, hnc, hns⟩ := C0
  intro H locs ls hP hS hl
  exact va_get (D := (dC, dI)) (ci := 9) (C := RX9) (T := TX9) (N := 16) hx hb hts inX9 hown hK hP i (at_9 hi.1 hi.2) rfl 5 (by decide) (hts _ hw) (fun _ h9 => h9) rfl hd (h H locs ls hP hS hl)
theorem gf_9_6 (C0 : Cx g x cc nL ret own fr lc) {i index : Nat} {r : Nat} (hr9 : i + 26 = r) (hi : KD i 9) (hw : Cond.fieldLink own index "DrumBoats" "rules" "[LDrumBoats$Rule;" ∈ GW) (hd : decode cc pc = .ok (.getfield index, 3)) (h : FW g x nL d dl (pc + 3) lo (rf g r :: st)) : FW g x nL d dl pc lo (rf g i :: st) := by
  subst hr9
  obtain ⟨⟨p, e, R, s, m⟩, ⟨args, below, meth, c⟩, ⟨A, nc, ns, Z⟩⟩ := x
  obtain ⟨l, dC, dI, ad, cA, sa, sv, vf⟩ := g
  obtain ⟨hx, hb, hr, hml, hown, hts, hlk, hK, hD0, hA, hE, hfr, hlc, hnc, hns⟩ := C0
  intro H locs ls hP hS hl
  exact va_get (D := (dC, dI)) (ci := 9) (C := RX9) (T := TX9) (N := 16) hx hb hts inX9 hown hK hP i (at_9 hi.1 hi.2) rfl 6 (by decide) (hts _ hw) (fun _ h9 => h9) rfl hd (h H locs ls hP hS hl)
theorem gf_9_7 (C0 : Cx g x cc nL ret own fr lc) {i index : Nat} (hi : KD i 9) (hw : Cond.fieldLink own index "DrumBoats" "ruleCount" "I" ∈ GW) (hd : decode cc pc = .ok (.getfield index, 3)) (h : FW g x nL d dl (pc + 3) lo (.int (d i 7) :: st)) : FW g x nL d dl pc lo (rf g i :: st) := by
  obtain ⟨⟨p, e, R, s, m⟩, ⟨args, below, meth, c⟩, ⟨A, nc, ns, Z⟩⟩ := x
  obtain ⟨l, dC, dI, ad, cA, sa, sv, vf⟩ := g
  obtain ⟨hx, hb, hr, hml, hown, hts, hlk, hK, hD0, hA, hE, hfr, hlc, hnc, hns⟩ := C0
  intro H locs ls hP hS hl
  exact va_get (D := (dC, dI)) (ci := 9) (C := RX9) (T := TX9) (N := 16) hx hb hts inX9 hown hK hP i (at_9 hi.1 hi.2) rfl 7 (by decide) (hts _ hw) (fun _ h9 => h9) rfl hd (h H locs ls hP hS hl)
theorem pf_9_7 (C0 : Cx g x cc nL ret own fr lc) {i index : Nat} {v : Int32} (hi : KD i 9) (hw : Cond.fieldLink own index "DrumBoats" "ruleCount" "I" ∈ GW) (hd : decode cc pc = .ok (.putfield index, 3)) (h : FW g x nL (u2 d i 7 v) dl (pc + 3) lo st) : FW g x nL d dl pc lo (.int v :: rf g i :: st) := by
  obtain ⟨⟨p, e, R, s, m⟩, ⟨args, below, meth, c⟩, ⟨A, nc, ns, Z⟩⟩ := x
  obtain ⟨l, dC, dI, ad, cA, sa, sv, vf⟩ := g
  obtain ⟨hx, hb, hr, hml, hown, hts, hlk, hK, hD0, hA, hE, hfr, hlc, hnc, hns⟩ := C0
  intro H locs ls hP hS hl
  refine va_put (D := (dC, dI)) (ci := 9) (ty := .int) (C := RX9) (T := TX9) (N := 16) hx hb hts inX9 tyX9 tyX9_ok nmX9 hown hK hP (D_any hD0) hS i (at_9 hi.1 hi.2) rfl 7 (by decide) (hts _ hw) (fun _ h9 => h9) rfl (by decide +kernel) rfl rfl (Nat.le_of_ble_eq_true rfl) hd (fun H locs hP hD hS => ?_)
  rw [put_9_7 v hi.1 hi.2] at hP
  exact (h H locs ls hP hS hl)
theorem gf_9_8 (C0 : Cx g x cc nL ret own fr lc) {i index : Nat} {r : Nat} (hr9 : i + 27 = r) (hi : KD i 9) (hw : Cond.fieldLink own index "DrumBoats" "tallies" "[I" ∈ GW) (hd : decode cc pc = .ok (.getfield index, 3)) (h : FW g x nL d dl (pc + 3) lo (rf g r :: st)) : FW g x nL d dl pc lo (rf g i :: st) := by
  subst hr9
  obtain ⟨⟨p, e, R, s, m⟩, ⟨args, below, meth, c⟩, ⟨A, nc, ns, Z⟩⟩ := x
  obtain ⟨l, dC, dI, ad, cA, sa, sv, vf⟩ := g
  obtain ⟨hx, hb, hr, hml, hown, hts, hlk, hK, hD0, hA, hE, hfr, hlc, hnc, hns⟩ := C0
  intro H locs ls hP hS hl
  exact va_get (D := (dC, dI)) (ci := 9) (C := RX9) (T := TX9) (N := 16) hx hb hts inX9 hown hK hP i (at_9 hi.1 hi.2) rfl 8 (by decide) (hts _ hw) (fun _ h9 => h9) rfl hd (h H locs ls hP hS hl)
theorem gf_9_9 (C0 : Cx g x cc nL ret own fr lc) {i index : Nat} (hi : KD i 9) (hw : Cond.fieldLink own index "DrumBoats" "restMinutes" "I" ∈ GW) (hd : decode cc pc = .ok (.getfield index, 3)) (h : FW g x nL d dl (pc + 3) lo (.int (d i 9) :: st)) : FW g x nL d dl pc lo (rf g i :: st) := by
  obtain ⟨⟨p, e, R, s, m⟩, ⟨args, below, meth, c⟩, ⟨A, nc, ns, Z⟩⟩ := x
  obtain ⟨l, dC, dI, ad, cA, sa, sv, vf⟩ := g
  obtain ⟨hx, hb, hr, hml, hown, hts, hlk, hK, hD0, hA, hE, hfr, hlc, hnc, hns⟩ := C0
  intro H locs ls hP hS hl
  exact va_get (D := (dC, dI)) (ci := 9) (C := RX9) (T := TX9) (N := 16) hx hb hts inX9 hown hK hP i (at_9 hi.1 hi.2) rfl 9 (by decide) (hts _ hw) (fun _ h9 => h9) rfl hd (h H locs ls hP hS hl)
theorem pf_9_9 (C0 : Cx g x cc nL ret own fr lc) {i index : Nat} {v : Int32} (hi : KD i 9) (hw : Cond.fieldLink own index "DrumBoats" "restMinutes" "I" ∈ GW) (hd : decode cc pc = .ok (.putfield index, 3)) (h : FW g x nL (u2 d i 9 v) dl (pc + 3) lo st) : FW g x nL d dl pc lo (.int v :: rf g i :: st) := by
  obtain ⟨⟨p, e, R, s, m⟩, ⟨args, below, meth, c⟩, ⟨A, nc, ns, Z⟩⟩ := x
  obtain ⟨l, dC, dI, ad, cA, sa, sv, vf⟩ := g
  obtain ⟨hx, hb, hr, hml, hown, hts, hlk, hK, hD0, hA, hE, hfr, hlc, hnc, hns⟩ := C0
  intro H locs ls hP hS hl
  refine va_put (D := (dC, dI)) (ci := 9) (ty := .int) (C := RX9) (T := TX9) (N := 16) hx hb hts inX9 tyX9 tyX9_ok nmX9 hown hK hP (D_any hD0) hS i (at_9 hi.1 hi.2) rfl 9 (by decide) (hts _ hw) (fun _ h9 => h9) rfl (by decide +kernel) rfl rfl (Nat.le_of_ble_eq_true rfl) hd (fun H locs hP hD hS => ?_)
  rw [put_9_9 v hi.1 hi.2] at hP
  exact (h H locs ls hP hS hl)
theorem gf_9_10 (C0 : Cx g x cc nL ret own fr lc) {i index : Nat} {r : Nat} (hr9 : i + 28 = r) (hi : KD i 9) (hw : Cond.fieldLink own index "DrumBoats" "waiting" "[I" ∈ GW) (hd : decode cc pc = .ok (.getfield index, 3)) (h : FW g x nL d dl (pc + 3) lo (rf g r :: st)) : FW g x nL d dl pc lo (rf g i :: st) := by
  subst hr9
  obtain ⟨⟨p, e, R, s, m⟩, ⟨args, below, meth, c⟩, ⟨A, nc, ns, Z⟩⟩ := x
  obtain ⟨l, dC, dI, ad, cA, sa, sv, vf⟩ := g
  obtain ⟨hx, hb, hr, hml, hown, hts, hlk, hK, hD0, hA, hE, hfr, hlc, hnc, hns⟩ := C0
  intro H locs ls hP hS hl
  exact va_get (D := (dC, dI)) (ci := 9) (C := RX9) (T := TX9) (N := 16) hx hb hts inX9 hown hK hP i (at_9 hi.1 hi.2) rfl 10 (by decide) (hts _ hw) (fun _ h9 => h9) rfl hd (h H locs ls hP hS hl)
theorem gf_9_11 (C0 : Cx g x cc nL ret own fr lc) {i index : Nat} {r : Nat} (hr9 : i + 29 = r) (hi : KD i 9) (hw : Cond.fieldLink own index "DrumBoats" "currents" "[I" ∈ GW) (hd : decode cc pc = .ok (.getfield index, 3)) (h : FW g x nL d dl (pc + 3) lo (rf g r :: st)) : FW g x nL d dl pc lo (rf g i :: st) := by
  subst hr9
  obtain ⟨⟨p, e, R, s, m⟩, ⟨args, below, meth, c⟩, ⟨A, nc, ns, Z⟩⟩ := x
  obtain ⟨l, dC, dI, ad, cA, sa, sv, vf⟩ := g
  obtain ⟨hx, hb, hr, hml, hown, hts, hlk, hK, hD0, hA, hE, hfr, hlc, hnc, hns⟩ := C0
  intro H locs ls hP hS hl
  exact va_get (D := (dC, dI)) (ci := 9) (C := RX9) (T := TX9) (N := 16) hx hb hts inX9 hown hK hP i (at_9 hi.1 hi.2) rfl 11 (by decide) (hts _ hw) (fun _ h9 => h9) rfl hd (h H locs ls hP hS hl)
theorem gf_9_12 (C0 : Cx g x cc nL ret own fr lc) {i index : Nat} {r : Nat} (hr9 : i + 30 = r) (hi : KD i 9) (hw : Cond.fieldLink own index "DrumBoats" "races" "[LDrumBoats$Race;" ∈ GW) (hd : decode cc pc = .ok (.getfield index, 3)) (h : FW g x nL d dl (pc + 3) lo (rf g r :: st)) : FW g x nL d dl pc lo (rf g i :: st) := by
  subst hr9
  obtain ⟨⟨p, e, R, s, m⟩, ⟨args, below, meth, c⟩, ⟨A, nc, ns, Z⟩⟩ := x
  obtain ⟨l, dC, dI, ad, cA, sa, sv, vf⟩ := g
  obtain ⟨hx, hb, hr, hml, hown, hts, hlk, hK, hD0, hA, hE, hfr, hlc, hnc, hns⟩ := C0
  intro H locs ls hP hS hl
  exact va_get (D := (dC, dI)) (ci := 9) (C := RX9) (T := TX9) (N := 16) hx hb hts inX9 hown hK hP i (at_9 hi.1 hi.2) rfl 12 (by decide) (hts _ hw) (fun _ h9 => h9) rfl hd (h H locs ls hP hS hl)
theorem gf_9_13 (C0 : Cx g x cc nL ret own fr lc) {i index : Nat} (hi : KD i 9) (hw : Cond.fieldLink own index "DrumBoats" "raceCount" "I" ∈ GW) (hd : decode cc pc = .ok (.getfield index, 3)) (h : FW g x nL d dl (pc + 3) lo (.int (d i 13) :: st)) : FW g x nL d dl pc lo (rf g i :: st) := by
  obtain ⟨⟨p, e, R, s, m⟩, ⟨args, below, meth, c⟩, ⟨A, nc, ns, Z⟩⟩ := x
  obtain ⟨l, dC, dI, ad, cA, sa, sv, vf⟩ := g
  obtain ⟨hx, hb, hr, hml, hown, hts, hlk, hK, hD0, hA, hE, hfr, hlc, hnc, hns⟩ := C0
  intro H locs ls hP hS hl
  exact va_get (D := (dC, dI)) (ci := 9) (C := RX9) (T := TX9) (N := 16) hx hb hts inX9 hown hK hP i (at_9 hi.1 hi.2) rfl 13 (by decide) (hts _ hw) (fun _ h9 => h9) rfl hd (h H locs ls hP hS hl)
theorem pf_9_13 (C0 : Cx g x cc nL ret own fr lc) {i index : Nat} {v : Int32} (hi : KD i 9) (hw : Cond.fieldLink own index "DrumBoats" "raceCount" "I" ∈ GW) (hd : decode cc pc = .ok (.putfield index, 3)) (h : FW g x nL (u2 d i 13 v) dl (pc + 3) lo st) : FW g x nL d dl pc lo (.int v :: rf g i :: st) := by
  obtain ⟨⟨p, e, R, s, m⟩, ⟨args, below, meth, c⟩, ⟨A, nc, ns, Z⟩⟩ := x
  obtain ⟨l, dC, dI, ad, cA, sa, sv, vf⟩ := g
  obtain ⟨hx, hb, hr, hml, hown, hts, hlk, hK, hD0, hA, hE, hfr, hlc, hnc, hns⟩ := C0
  intro H locs ls hP hS hl
  refine va_put (D := (dC, dI)) (ci := 9) (ty := .int) (C := RX9) (T := TX9) (N := 16) hx hb hts inX9 tyX9 tyX9_ok nmX9 hown hK hP (D_any hD0) hS i (at_9 hi.1 hi.2) rfl 13 (by decide) (hts _ hw) (fun _ h9 => h9) rfl (by decide +kernel) rfl rfl (Nat.le_of_ble_eq_true rfl) hd (fun H locs hP hD hS => ?_)
  rw [put_9_13 v hi.1 hi.2] at hP
  exact (h H locs ls hP hS hl)
theorem gf_9_14 (C0 : Cx g x cc nL ret own fr lc) {i index : Nat} {r : Nat} (hr9 : i + 31 = r) (hi : KD i 9) (hw : Cond.fieldLink own index "DrumBoats" "course" "LDrumBoats$Course;" ∈ GW) (hd : decode cc pc = .ok (.getfield index, 3)) (h : FW g x nL d dl (pc + 3) lo (rf g r :: st)) : FW g x nL d dl pc lo (rf g i :: st) := by
  subst hr9
  obtain ⟨⟨p, e, R, s, m⟩, ⟨args, below, meth, c⟩, ⟨A, nc, ns, Z⟩⟩ := x
  obtain ⟨l, dC, dI, ad, cA, sa, sv, vf⟩ := g
  obtain ⟨hx, hb, hr, hml, hown, hts, hlk, hK, hD0, hA, hE, hfr, hlc, hnc, hns⟩ := C0
  intro H locs ls hP hS hl
  exact va_get (D := (dC, dI)) (ci := 9) (C := RX9) (T := TX9) (N := 16) hx hb hts inX9 hown hK hP i (at_9 hi.1 hi.2) rfl 14 (by decide) (hts _ hw) (fun _ h9 => h9) rfl hd (h H locs ls hP hS hl)
theorem gf_9_15 (C0 : Cx g x cc nL ret own fr lc) {i index : Nat} {r : Nat} (hr9 : i + 32 = r) (hi : KD i 9) (hw : Cond.fieldLink own index "DrumBoats" "finals" "LDrumBoats$FinalList;" ∈ GW) (hd : decode cc pc = .ok (.getfield index, 3)) (h : FW g x nL d dl (pc + 3) lo (rf g r :: st)) : FW g x nL d dl pc lo (rf g i :: st) := by
  subst hr9
  obtain ⟨⟨p, e, R, s, m⟩, ⟨args, below, meth, c⟩, ⟨A, nc, ns, Z⟩⟩ := x
  obtain ⟨l, dC, dI, ad, cA, sa, sv, vf⟩ := g
  obtain ⟨hx, hb, hr, hml, hown, hts, hlk, hK, hD0, hA, hE, hfr, hlc, hnc, hns⟩ := C0
  intro H locs ls hP hS hl
  exact va_get (D := (dC, dI)) (ci := 9) (C := RX9) (T := TX9) (N := 16) hx hb hts inX9 hown hK hP i (at_9 hi.1 hi.2) rfl 15 (by decide) (hts _ hw) (fun _ h9 => h9) rfl hd (h H locs ls hP hS hl)
theorem gf_10_0 (C0 : Cx g x cc nL ret own fr lc) {i index : Nat} (hi : KD i 10) (hw : Cond.fieldLink own index "DrumBoatsModel" "paddlers" "I" ∈ GW) (hd : decode cc pc = .ok (.getfield index, 3)) (h : FW g x nL d dl (pc + 3) lo (.int (d i 0) :: st)) : FW g x nL d dl pc lo (rf g i :: st) := by
  obtain ⟨⟨p, e, R, s, m⟩, ⟨args, below, meth, c⟩, ⟨A, nc, ns, Z⟩⟩ := x
  obtain ⟨l, dC, dI, ad, cA, sa, sv, vf⟩ := g
  obtain ⟨hx, hb, hr, hml, hown, hts, hlk, hK, hD0, hA, hE, hfr, hlc, hnc, hns⟩ := C0
  intro H locs ls hP hS hl
  exact va_get (D := (dC, dI)) (ci := 10) (C := RX10) (T := TX10) (N := 48) hx hb hts inX10 hown hK hP i (at_10 hi.1 hi.2) rfl 0 (by decide) (hts _ hw) (fun _ h9 => h9) rfl hd (h H locs ls hP hS hl)
theorem pf_10_0 (C0 : Cx g x cc nL ret own fr lc) {i index : Nat} {v : Int32} (hi : KD i 10) (hw : Cond.fieldLink own index "DrumBoatsModel" "paddlers" "I" ∈ GW) (hd : decode cc pc = .ok (.putfield index, 3)) (h : FW g x nL (u2 d i 0 v) dl (pc + 3) lo st) : FW g x nL d dl pc lo (.int v :: rf g i :: st) := by
  obtain ⟨⟨p, e, R, s, m⟩, ⟨args, below, meth, c⟩, ⟨A, nc, ns, Z⟩⟩ := x
  obtain ⟨l, dC, dI, ad, cA, sa, sv, vf⟩ := g
  obtain ⟨hx, hb, hr, hml, hown, hts, hlk, hK, hD0, hA, hE, hfr, hlc, hnc, hns⟩ := C0
  intro H locs ls hP hS hl
  refine va_put (D := (dC, dI)) (ci := 10) (ty := .int) (C := RX10) (T := TX10) (N := 48) hx hb hts inX10 tyX10 tyX10_ok nmX10 hown hK hP (D_any hD0) hS i (at_10 hi.1 hi.2) rfl 0 (by decide) (hts _ hw) (fun _ h9 => h9) rfl (by decide +kernel) rfl rfl (Nat.le_of_ble_eq_true rfl) hd (fun H locs hP hD hS => ?_)
  rw [put_10_0 v hi.1 hi.2] at hP
  exact (h H locs ls hP hS hl)
theorem gf_10_1 (C0 : Cx g x cc nL ret own fr lc) {i index : Nat} (hi : KD i 10) (hw : Cond.fieldLink own index "DrumBoatsModel" "crews" "I" ∈ GW) (hd : decode cc pc = .ok (.getfield index, 3)) (h : FW g x nL d dl (pc + 3) lo (.int (d i 1) :: st)) : FW g x nL d dl pc lo (rf g i :: st) := by
  obtain ⟨⟨p, e, R, s, m⟩, ⟨args, below, meth, c⟩, ⟨A, nc, ns, Z⟩⟩ := x
  obtain ⟨l, dC, dI, ad, cA, sa, sv, vf⟩ := g
  obtain ⟨hx, hb, hr, hml, hown, hts, hlk, hK, hD0, hA, hE, hfr, hlc, hnc, hns⟩ := C0
  intro H locs ls hP hS hl
  exact va_get (D := (dC, dI)) (ci := 10) (C := RX10) (T := TX10) (N := 48) hx hb hts inX10 hown hK hP i (at_10 hi.1 hi.2) rfl 1 (by decide) (hts _ hw) (fun _ h9 => h9) rfl hd (h H locs ls hP hS hl)
theorem pf_10_1 (C0 : Cx g x cc nL ret own fr lc) {i index : Nat} {v : Int32} (hi : KD i 10) (hw : Cond.fieldLink own index "DrumBoatsModel" "crews" "I" ∈ GW) (hd : decode cc pc = .ok (.putfield index, 3)) (h : FW g x nL (u2 d i 1 v) dl (pc + 3) lo st) : FW g x nL d dl pc lo (.int v :: rf g i :: st) := by
  obtain ⟨⟨p, e, R, s, m⟩, ⟨args, below, meth, c⟩, ⟨A, nc, ns, Z⟩⟩ := x
  obtain ⟨l, dC, dI, ad, cA, sa, sv, vf⟩ := g
  obtain ⟨hx, hb, hr, hml, hown, hts, hlk, hK, hD0, hA, hE, hfr, hlc, hnc, hns⟩ := C0
  intro H locs ls hP hS hl
  refine va_put (D := (dC, dI)) (ci := 10) (ty := .int) (C := RX10) (T := TX10) (N := 48) hx hb hts inX10 tyX10 tyX10_ok nmX10 hown hK hP (D_any hD0) hS i (at_10 hi.1 hi.2) rfl 1 (by decide) (hts _ hw) (fun _ h9 => h9) rfl (by decide +kernel) rfl rfl (Nat.le_of_ble_eq_true rfl) hd (fun H locs hP hD hS => ?_)
  rw [put_10_1 v hi.1 hi.2] at hP
  exact (h H locs ls hP hS hl)
theorem gf_10_2 (C0 : Cx g x cc nL ret own fr lc) {i index : Nat} (hi : KD i 10) (hw : Cond.fieldLink own index "DrumBoatsModel" "rules" "I" ∈ GW) (hd : decode cc pc = .ok (.getfield index, 3)) (h : FW g x nL d dl (pc + 3) lo (.int (d i 2) :: st)) : FW g x nL d dl pc lo (rf g i :: st) := by
  obtain ⟨⟨p, e, R, s, m⟩, ⟨args, below, meth, c⟩, ⟨A, nc, ns, Z⟩⟩ := x
  obtain ⟨l, dC, dI, ad, cA, sa, sv, vf⟩ := g
  obtain ⟨hx, hb, hr, hml, hown, hts, hlk, hK, hD0, hA, hE, hfr, hlc, hnc, hns⟩ := C0
  intro H locs ls hP hS hl
  exact va_get (D := (dC, dI)) (ci := 10) (C := RX10) (T := TX10) (N := 48) hx hb hts inX10 hown hK hP i (at_10 hi.1 hi.2) rfl 2 (by decide) (hts _ hw) (fun _ h9 => h9) rfl hd (h H locs ls hP hS hl)
theorem pf_10_2 (C0 : Cx g x cc nL ret own fr lc) {i index : Nat} {v : Int32} (hi : KD i 10) (hw : Cond.fieldLink own index "DrumBoatsModel" "rules" "I" ∈ GW) (hd : decode cc pc = .ok (.putfield index, 3)) (h : FW g x nL (u2 d i 2 v) dl (pc + 3) lo st) : FW g x nL d dl pc lo (.int v :: rf g i :: st) := by
  obtain ⟨⟨p, e, R, s, m⟩, ⟨args, below, meth, c⟩, ⟨A, nc, ns, Z⟩⟩ := x
  obtain ⟨l, dC, dI, ad, cA, sa, sv, vf⟩ := g
  obtain ⟨hx, hb, hr, hml, hown, hts, hlk, hK, hD0, hA, hE, hfr, hlc, hnc, hns⟩ := C0
  intro H locs ls hP hS hl
  refine va_put (D := (dC, dI)) (ci := 10) (ty := .int) (C := RX10) (T := TX10) (N := 48) hx hb hts inX10 tyX10 tyX10_ok nmX10 hown hK hP (D_any hD0) hS i (at_10 hi.1 hi.2) rfl 2 (by decide) (hts _ hw) (fun _ h9 => h9) rfl (by decide +kernel) rfl rfl (Nat.le_of_ble_eq_true rfl) hd (fun H locs hP hD hS => ?_)
  rw [put_10_2 v hi.1 hi.2] at hP
  exact (h H locs ls hP hS hl)
theorem gf_10_3 (C0 : Cx g x cc nL ret own fr lc) {i index : Nat} (hi : KD i 10) (hw : Cond.fieldLink own index "DrumBoatsModel" "races" "I" ∈ GW) (hd : decode cc pc = .ok (.getfield index, 3)) (h : FW g x nL d dl (pc + 3) lo (.int (d i 3) :: st)) : FW g x nL d dl pc lo (rf g i :: st) := by
  obtain ⟨⟨p, e, R, s, m⟩, ⟨args, below, meth, c⟩, ⟨A, nc, ns, Z⟩⟩ := x
  obtain ⟨l, dC, dI, ad, cA, sa, sv, vf⟩ := g
  obtain ⟨hx, hb, hr, hml, hown, hts, hlk, hK, hD0, hA, hE, hfr, hlc, hnc, hns⟩ := C0
  intro H locs ls hP hS hl
  exact va_get (D := (dC, dI)) (ci := 10) (C := RX10) (T := TX10) (N := 48) hx hb hts inX10 hown hK hP i (at_10 hi.1 hi.2) rfl 3 (by decide) (hts _ hw) (fun _ h9 => h9) rfl hd (h H locs ls hP hS hl)
theorem pf_10_3 (C0 : Cx g x cc nL ret own fr lc) {i index : Nat} {v : Int32} (hi : KD i 10) (hw : Cond.fieldLink own index "DrumBoatsModel" "races" "I" ∈ GW) (hd : decode cc pc = .ok (.putfield index, 3)) (h : FW g x nL (u2 d i 3 v) dl (pc + 3) lo st) : FW g x nL d dl pc lo (.int v :: rf g i :: st) := by
  obtain ⟨⟨p, e, R, s, m⟩, ⟨args, below, meth, c⟩, ⟨A, nc, ns, Z⟩⟩ := x
  obtain ⟨l, dC, dI, ad, cA, sa, sv, vf⟩ := g
  obtain ⟨hx, hb, hr, hml, hown, hts, hlk, hK, hD0, hA, hE, hfr, hlc, hnc, hns⟩ := C0
  intro H locs ls hP hS hl
  refine va_put (D := (dC, dI)) (ci := 10) (ty := .int) (C := RX10) (T := TX10) (N := 48) hx hb hts inX10 tyX10 tyX10_ok nmX10 hown hK hP (D_any hD0) hS i (at_10 hi.1 hi.2) rfl 3 (by decide) (hts _ hw) (fun _ h9 => h9) rfl (by decide +kernel) rfl rfl (Nat.le_of_ble_eq_true rfl) hd (fun H locs hP hD hS => ?_)
  rw [put_10_3 v hi.1 hi.2] at hP
  exact (h H locs ls hP hS hl)
theorem gf_10_4 (C0 : Cx g x cc nL ret own fr lc) {i index : Nat} (hi : KD i 10) (hw : Cond.fieldLink own index "DrumBoatsModel" "tapeN" "I" ∈ GW) (hd : decode cc pc = .ok (.getfield index, 3)) (h : FW g x nL d dl (pc + 3) lo (.int (d i 4) :: st)) : FW g x nL d dl pc lo (rf g i :: st) := by
  obtain ⟨⟨p, e, R, s, m⟩, ⟨args, below, meth, c⟩, ⟨A, nc, ns, Z⟩⟩ := x
  obtain ⟨l, dC, dI, ad, cA, sa, sv, vf⟩ := g
  obtain ⟨hx, hb, hr, hml, hown, hts, hlk, hK, hD0, hA, hE, hfr, hlc, hnc, hns⟩ := C0
  intro H locs ls hP hS hl
  exact va_get (D := (dC, dI)) (ci := 10) (C := RX10) (T := TX10) (N := 48) hx hb hts inX10 hown hK hP i (at_10 hi.1 hi.2) rfl 4 (by decide) (hts _ hw) (fun _ h9 => h9) rfl hd (h H locs ls hP hS hl)
theorem pf_10_4 (C0 : Cx g x cc nL ret own fr lc) {i index : Nat} {v : Int32} (hi : KD i 10) (hw : Cond.fieldLink own index "DrumBoatsModel" "tapeN" "I" ∈ GW) (hd : decode cc pc = .ok (.putfield index, 3)) (h : FW g x nL (u2 d i 4 v) dl (pc + 3) lo st) : FW g x nL d dl pc lo (.int v :: rf g i :: st) := by
  obtain ⟨⟨p, e, R, s, m⟩, ⟨args, below, meth, c⟩, ⟨A, nc, ns, Z⟩⟩ := x
  obtain ⟨l, dC, dI, ad, cA, sa, sv, vf⟩ := g
  obtain ⟨hx, hb, hr, hml, hown, hts, hlk, hK, hD0, hA, hE, hfr, hlc, hnc, hns⟩ := C0
  intro H locs ls hP hS hl
  refine va_put (D := (dC, dI)) (ci := 10) (ty := .int) (C := RX10) (T := TX10) (N := 48) hx hb hts inX10 tyX10 tyX10_ok nmX10 hown hK hP (D_any hD0) hS i (at_10 hi.1 hi.2) rfl 4 (by decide) (hts _ hw) (fun _ h9 => h9) rfl (by decide +kernel) rfl rfl (Nat.le_of_ble_eq_true rfl) hd (fun H locs hP hD hS => ?_)
  rw [put_10_4 v hi.1 hi.2] at hP
  exact (h H locs ls hP hS hl)
theorem gf_10_5 (C0 : Cx g x cc nL ret own fr lc) {i index : Nat} (hi : KD i 10) (hw : Cond.fieldLink own index "DrumBoatsModel" "rest" "I" ∈ GW) (hd : decode cc pc = .ok (.getfield index, 3)) (h : FW g x nL d dl (pc + 3) lo (.int (d i 5) :: st)) : FW g x nL d dl pc lo (rf g i :: st) := by
  obtain ⟨⟨p, e, R, s, m⟩, ⟨args, below, meth, c⟩, ⟨A, nc, ns, Z⟩⟩ := x
  obtain ⟨l, dC, dI, ad, cA, sa, sv, vf⟩ := g
  obtain ⟨hx, hb, hr, hml, hown, hts, hlk, hK, hD0, hA, hE, hfr, hlc, hnc, hns⟩ := C0
  intro H locs ls hP hS hl
  exact va_get (D := (dC, dI)) (ci := 10) (C := RX10) (T := TX10) (N := 48) hx hb hts inX10 hown hK hP i (at_10 hi.1 hi.2) rfl 5 (by decide) (hts _ hw) (fun _ h9 => h9) rfl hd (h H locs ls hP hS hl)
theorem pf_10_5 (C0 : Cx g x cc nL ret own fr lc) {i index : Nat} {v : Int32} (hi : KD i 10) (hw : Cond.fieldLink own index "DrumBoatsModel" "rest" "I" ∈ GW) (hd : decode cc pc = .ok (.putfield index, 3)) (h : FW g x nL (u2 d i 5 v) dl (pc + 3) lo st) : FW g x nL d dl pc lo (.int v :: rf g i :: st) := by
  obtain ⟨⟨p, e, R, s, m⟩, ⟨args, below, meth, c⟩, ⟨A, nc, ns, Z⟩⟩ := x
  obtain ⟨l, dC, dI, ad, cA, sa, sv, vf⟩ := g
  obtain ⟨hx, hb, hr, hml, hown, hts, hlk, hK, hD0, hA, hE, hfr, hlc, hnc, hns⟩ := C0
  intro H locs ls hP hS hl
  refine va_put (D := (dC, dI)) (ci := 10) (ty := .int) (C := RX10) (T := TX10) (N := 48) hx hb hts inX10 tyX10 tyX10_ok nmX10 hown hK hP (D_any hD0) hS i (at_10 hi.1 hi.2) rfl 5 (by decide) (hts _ hw) (fun _ h9 => h9) rfl (by decide +kernel) rfl rfl (Nat.le_of_ble_eq_true rfl) hd (fun H locs hP hD hS => ?_)
  rw [put_10_5 v hi.1 hi.2] at hP
  exact (h H locs ls hP hS hl)
theorem gf_10_6 (C0 : Cx g x cc nL ret own fr lc) {i index : Nat} (hi : KD i 10) (hw : Cond.fieldLink own index "DrumBoatsModel" "waiting" "I" ∈ GW) (hd : decode cc pc = .ok (.getfield index, 3)) (h : FW g x nL d dl (pc + 3) lo (.int (d i 6) :: st)) : FW g x nL d dl pc lo (rf g i :: st) := by
  obtain ⟨⟨p, e, R, s, m⟩, ⟨args, below, meth, c⟩, ⟨A, nc, ns, Z⟩⟩ := x
  obtain ⟨l, dC, dI, ad, cA, sa, sv, vf⟩ := g
  obtain ⟨hx, hb, hr, hml, hown, hts, hlk, hK, hD0, hA, hE, hfr, hlc, hnc, hns⟩ := C0
  intro H locs ls hP hS hl
  exact va_get (D := (dC, dI)) (ci := 10) (C := RX10) (T := TX10) (N := 48) hx hb hts inX10 hown hK hP i (at_10 hi.1 hi.2) rfl 6 (by decide) (hts _ hw) (fun _ h9 => h9) rfl hd (h H locs ls hP hS hl)
theorem pf_10_6 (C0 : Cx g x cc nL ret own fr lc) {i index : Nat} {v : Int32} (hi : KD i 10) (hw : Cond.fieldLink own index "DrumBoatsModel" "waiting" "I" ∈ GW) (hd : decode cc pc = .ok (.putfield index, 3)) (h : FW g x nL (u2 d i 6 v) dl (pc + 3) lo st) : FW g x nL d dl pc lo (.int v :: rf g i :: st) := by
  obtain ⟨⟨p, e, R, s, m⟩, ⟨args, below, meth, c⟩, ⟨A, nc, ns, Z⟩⟩ := x
  obtain ⟨l, dC, dI, ad, cA, sa, sv, vf⟩ := g
  obtain ⟨hx, hb, hr, hml, hown, hts, hlk, hK, hD0, hA, hE, hfr, hlc, hnc, hns⟩ := C0
  intro H locs ls hP hS hl
  refine va_put (D := (dC, dI)) (ci := 10) (ty := .int) (C := RX10) (T := TX10) (N := 48) hx hb hts inX10 tyX10 tyX10_ok nmX10 hown hK hP (D_any hD0) hS i (at_10 hi.1 hi.2) rfl 6 (by decide) (hts _ hw) (fun _ h9 => h9) rfl (by decide +kernel) rfl rfl (Nat.le_of_ble_eq_true rfl) hd (fun H locs hP hD hS => ?_)
  rw [put_10_6 v hi.1 hi.2] at hP
  exact (h H locs ls hP hS hl)
theorem gf_10_7 (C0 : Cx g x cc nL ret own fr lc) {i index : Nat} (hi : KD i 10) (hw : Cond.fieldLink own index "DrumBoatsModel" "finalN" "I" ∈ GW) (hd : decode cc pc = .ok (.getfield index, 3)) (h : FW g x nL d dl (pc + 3) lo (.int (d i 7) :: st)) : FW g x nL d dl pc lo (rf g i :: st) := by
  obtain ⟨⟨p, e, R, s, m⟩, ⟨args, below, meth, c⟩, ⟨A, nc, ns, Z⟩⟩ := x
  obtain ⟨l, dC, dI, ad, cA, sa, sv, vf⟩ := g
  obtain ⟨hx, hb, hr, hml, hown, hts, hlk, hK, hD0, hA, hE, hfr, hlc, hnc, hns⟩ := C0
  intro H locs ls hP hS hl
  exact va_get (D := (dC, dI)) (ci := 10) (C := RX10) (T := TX10) (N := 48) hx hb hts inX10 hown hK hP i (at_10 hi.1 hi.2) rfl 7 (by decide) (hts _ hw) (fun _ h9 => h9) rfl hd (h H locs ls hP hS hl)
theorem pf_10_7 (C0 : Cx g x cc nL ret own fr lc) {i index : Nat} {v : Int32} (hi : KD i 10) (hw : Cond.fieldLink own index "DrumBoatsModel" "finalN" "I" ∈ GW) (hd : decode cc pc = .ok (.putfield index, 3)) (h : FW g x nL (u2 d i 7 v) dl (pc + 3) lo st) : FW g x nL d dl pc lo (.int v :: rf g i :: st) := by
  obtain ⟨⟨p, e, R, s, m⟩, ⟨args, below, meth, c⟩, ⟨A, nc, ns, Z⟩⟩ := x
  obtain ⟨l, dC, dI, ad, cA, sa, sv, vf⟩ := g
  obtain ⟨hx, hb, hr, hml, hown, hts, hlk, hK, hD0, hA, hE, hfr, hlc, hnc, hns⟩ := C0
  intro H locs ls hP hS hl
  refine va_put (D := (dC, dI)) (ci := 10) (ty := .int) (C := RX10) (T := TX10) (N := 48) hx hb hts inX10 tyX10 tyX10_ok nmX10 hown hK hP (D_any hD0) hS i (at_10 hi.1 hi.2) rfl 7 (by decide) (hts _ hw) (fun _ h9 => h9) rfl (by decide +kernel) rfl rfl (Nat.le_of_ble_eq_true rfl) hd (fun H locs hP hD hS => ?_)
  rw [put_10_7 v hi.1 hi.2] at hP
  exact (h H locs ls hP hS hl)
theorem gf_10_8 (C0 : Cx g x cc nL ret own fr lc) {i index : Nat} {r : Nat} (hr9 : i + 1 = r) (hi : KD i 10) (hw : Cond.fieldLink own index "DrumBoatsModel" "weight" "[I" ∈ GW) (hd : decode cc pc = .ok (.getfield index, 3)) (h : FW g x nL d dl (pc + 3) lo (rf g r :: st)) : FW g x nL d dl pc lo (rf g i :: st) := by
  subst hr9
  obtain ⟨⟨p, e, R, s, m⟩, ⟨args, below, meth, c⟩, ⟨A, nc, ns, Z⟩⟩ := x
  obtain ⟨l, dC, dI, ad, cA, sa, sv, vf⟩ := g
  obtain ⟨hx, hb, hr, hml, hown, hts, hlk, hK, hD0, hA, hE, hfr, hlc, hnc, hns⟩ := C0
  intro H locs ls hP hS hl
  exact va_get (D := (dC, dI)) (ci := 10) (C := RX10) (T := TX10) (N := 48) hx hb hts inX10 hown hK hP i (at_10 hi.1 hi.2) rfl 8 (by decide) (hts _ hw) (fun _ h9 => h9) rfl hd (h H locs ls hP hS hl)
theorem gf_10_9 (C0 : Cx g x cc nL ret own fr lc) {i index : Nat} {r : Nat} (hr9 : i + 2 = r) (hi : KD i 10) (hw : Cond.fieldLink own index "DrumBoatsModel" "strength" "[I" ∈ GW) (hd : decode cc pc = .ok (.getfield index, 3)) (h : FW g x nL d dl (pc + 3) lo (rf g r :: st)) : FW g x nL d dl pc lo (rf g i :: st) := by
  subst hr9
  obtain ⟨⟨p, e, R, s, m⟩, ⟨args, below, meth, c⟩, ⟨A, nc, ns, Z⟩⟩ := x
  obtain ⟨l, dC, dI, ad, cA, sa, sv, vf⟩ := g
  obtain ⟨hx, hb, hr, hml, hown, hts, hlk, hK, hD0, hA, hE, hfr, hlc, hnc, hns⟩ := C0
  intro H locs ls hP hS hl
  exact va_get (D := (dC, dI)) (ci := 10) (C := RX10) (T := TX10) (N := 48) hx hb hts inX10 hown hK hP i (at_10 hi.1 hi.2) rfl 9 (by decide) (hts _ hw) (fun _ h9 => h9) rfl hd (h H locs ls hP hS hl)
theorem gf_10_10 (C0 : Cx g x cc nL ret own fr lc) {i index : Nat} {r : Nat} (hr9 : i + 3 = r) (hi : KD i 10) (hw : Cond.fieldLink own index "DrumBoatsModel" "arm" "[I" ∈ GW) (hd : decode cc pc = .ok (.getfield index, 3)) (h : FW g x nL d dl (pc + 3) lo (rf g r :: st)) : FW g x nL d dl pc lo (rf g i :: st) := by
  subst hr9
  obtain ⟨⟨p, e, R, s, m⟩, ⟨args, below, meth, c⟩, ⟨A, nc, ns, Z⟩⟩ := x
  obtain ⟨l, dC, dI, ad, cA, sa, sv, vf⟩ := g
  obtain ⟨hx, hb, hr, hml, hown, hts, hlk, hK, hD0, hA, hE, hfr, hlc, hnc, hns⟩ := C0
  intro H locs ls hP hS hl
  exact va_get (D := (dC, dI)) (ci := 10) (C := RX10) (T := TX10) (N := 48) hx hb hts inX10 hown hK hP i (at_10 hi.1 hi.2) rfl 10 (by decide) (hts _ hw) (fun _ h9 => h9) rfl hd (h H locs ls hP hS hl)
theorem gf_10_11 (C0 : Cx g x cc nL ret own fr lc) {i index : Nat} {r : Nat} (hr9 : i + 4 = r) (hi : KD i 10) (hw : Cond.fieldLink own index "DrumBoatsModel" "sex" "[I" ∈ GW) (hd : decode cc pc = .ok (.getfield index, 3)) (h : FW g x nL d dl (pc + 3) lo (rf g r :: st)) : FW g x nL d dl pc lo (rf g i :: st) := by
  subst hr9
  obtain ⟨⟨p, e, R, s, m⟩, ⟨args, below, meth, c⟩, ⟨A, nc, ns, Z⟩⟩ := x
  obtain ⟨l, dC, dI, ad, cA, sa, sv, vf⟩ := g
  obtain ⟨hx, hb, hr, hml, hown, hts, hlk, hK, hD0, hA, hE, hfr, hlc, hnc, hns⟩ := C0
  intro H locs ls hP hS hl
  exact va_get (D := (dC, dI)) (ci := 10) (C := RX10) (T := TX10) (N := 48) hx hb hts inX10 hown hK hP i (at_10 hi.1 hi.2) rfl 11 (by decide) (hts _ hw) (fun _ h9 => h9) rfl hd (h H locs ls hP hS hl)
theorem gf_10_12 (C0 : Cx g x cc nL ret own fr lc) {i index : Nat} {r : Nat} (hr9 : i + 5 = r) (hi : KD i 10) (hw : Cond.fieldLink own index "DrumBoatsModel" "age" "[I" ∈ GW) (hd : decode cc pc = .ok (.getfield index, 3)) (h : FW g x nL d dl (pc + 3) lo (rf g r :: st)) : FW g x nL d dl pc lo (rf g i :: st) := by
  subst hr9
  obtain ⟨⟨p, e, R, s, m⟩, ⟨args, below, meth, c⟩, ⟨A, nc, ns, Z⟩⟩ := x
  obtain ⟨l, dC, dI, ad, cA, sa, sv, vf⟩ := g
  obtain ⟨hx, hb, hr, hml, hown, hts, hlk, hK, hD0, hA, hE, hfr, hlc, hnc, hns⟩ := C0
  intro H locs ls hP hS hl
  exact va_get (D := (dC, dI)) (ci := 10) (C := RX10) (T := TX10) (N := 48) hx hb hts inX10 hown hK hP i (at_10 hi.1 hi.2) rfl 12 (by decide) (hts _ hw) (fun _ h9 => h9) rfl hd (h H locs ls hP hS hl)
theorem gf_10_13 (C0 : Cx g x cc nL ret own fr lc) {i index : Nat} {r : Nat} (hr9 : i + 6 = r) (hi : KD i 10) (hw : Cond.fieldLink own index "DrumBoatsModel" "likes" "[Z" ∈ GW) (hd : decode cc pc = .ok (.getfield index, 3)) (h : FW g x nL d dl (pc + 3) lo (rf g r :: st)) : FW g x nL d dl pc lo (rf g i :: st) := by
  subst hr9
  obtain ⟨⟨p, e, R, s, m⟩, ⟨args, below, meth, c⟩, ⟨A, nc, ns, Z⟩⟩ := x
  obtain ⟨l, dC, dI, ad, cA, sa, sv, vf⟩ := g
  obtain ⟨hx, hb, hr, hml, hown, hts, hlk, hK, hD0, hA, hE, hfr, hlc, hnc, hns⟩ := C0
  intro H locs ls hP hS hl
  exact va_get (D := (dC, dI)) (ci := 10) (C := RX10) (T := TX10) (N := 48) hx hb hts inX10 hown hK hP i (at_10 hi.1 hi.2) rfl 13 (by decide) (hts _ hw) (fun _ h9 => h9) rfl hd (h H locs ls hP hS hl)
theorem gf_10_14 (C0 : Cx g x cc nL ret own fr lc) {i index : Nat} {r : Nat} (hr9 : i + 7 = r) (hi : KD i 10) (hw : Cond.fieldLink own index "DrumBoatsModel" "rows" "[I" ∈ GW) (hd : decode cc pc = .ok (.getfield index, 3)) (h : FW g x nL d dl (pc + 3) lo (rf g r :: st)) : FW g x nL d dl pc lo (rf g i :: st) := by
  subst hr9
  obtain ⟨⟨p, e, R, s, m⟩, ⟨args, below, meth, c⟩, ⟨A, nc, ns, Z⟩⟩ := x
  obtain ⟨l, dC, dI, ad, cA, sa, sv, vf⟩ := g
  obtain ⟨hx, hb, hr, hml, hown, hts, hlk, hK, hD0, hA, hE, hfr, hlc, hnc, hns⟩ := C0
  intro H locs ls hP hS hl
  exact va_get (D := (dC, dI)) (ci := 10) (C := RX10) (T := TX10) (N := 48) hx hb hts inX10 hown hK hP i (at_10 hi.1 hi.2) rfl 14 (by decide) (hts _ hw) (fun _ h9 => h9) rfl hd (h H locs ls hP hS hl)
theorem gf_10_15 (C0 : Cx g x cc nL ret own fr lc) {i index : Nat} {r : Nat} (hr9 : i + 8 = r) (hi : KD i 10) (hw : Cond.fieldLink own index "DrumBoatsModel" "drummer" "[I" ∈ GW) (hd : decode cc pc = .ok (.getfield index, 3)) (h : FW g x nL d dl (pc + 3) lo (rf g r :: st)) : FW g x nL d dl pc lo (rf g i :: st) := by
  subst hr9
  obtain ⟨⟨p, e, R, s, m⟩, ⟨args, below, meth, c⟩, ⟨A, nc, ns, Z⟩⟩ := x
  obtain ⟨l, dC, dI, ad, cA, sa, sv, vf⟩ := g
  obtain ⟨hx, hb, hr, hml, hown, hts, hlk, hK, hD0, hA, hE, hfr, hlc, hnc, hns⟩ := C0
  intro H locs ls hP hS hl
  exact va_get (D := (dC, dI)) (ci := 10) (C := RX10) (T := TX10) (N := 48) hx hb hts inX10 hown hK hP i (at_10 hi.1 hi.2) rfl 15 (by decide) (hts _ hw) (fun _ h9 => h9) rfl hd (h H locs ls hP hS hl)
theorem gf_10_16 (C0 : Cx g x cc nL ret own fr lc) {i index : Nat} {r : Nat} (hr9 : i + 9 = r) (hi : KD i 10) (hw : Cond.fieldLink own index "DrumBoatsModel" "members" "[I" ∈ GW) (hd : decode cc pc = .ok (.getfield index, 3)) (h : FW g x nL d dl (pc + 3) lo (rf g r :: st)) : FW g x nL d dl pc lo (rf g i :: st) := by
  subst hr9
  obtain ⟨⟨p, e, R, s, m⟩, ⟨args, below, meth, c⟩, ⟨A, nc, ns, Z⟩⟩ := x
  obtain ⟨l, dC, dI, ad, cA, sa, sv, vf⟩ := g
  obtain ⟨hx, hb, hr, hml, hown, hts, hlk, hK, hD0, hA, hE, hfr, hlc, hnc, hns⟩ := C0
  intro H locs ls hP hS hl
  exact va_get (D := (dC, dI)) (ci := 10) (C := RX10) (T := TX10) (N := 48) hx hb hts inX10 hown hK hP i (at_10 hi.1 hi.2) rfl 16 (by decide) (hts _ hw) (fun _ h9 => h9) rfl hd (h H locs ls hP hS hl)
theorem gf_10_17 (C0 : Cx g x cc nL ret own fr lc) {i index : Nat} {r : Nat} (hr9 : i + 10 = r) (hi : KD i 10) (hw : Cond.fieldLink own index "DrumBoatsModel" "beat" "[I" ∈ GW) (hd : decode cc pc = .ok (.getfield index, 3)) (h : FW g x nL d dl (pc + 3) lo (rf g r :: st)) : FW g x nL d dl pc lo (rf g i :: st) := by
  subst hr9
  obtain ⟨⟨p, e, R, s, m⟩, ⟨args, below, meth, c⟩, ⟨A, nc, ns, Z⟩⟩ := x
  obtain ⟨l, dC, dI, ad, cA, sa, sv, vf⟩ := g
  obtain ⟨hx, hb, hr, hml, hown, hts, hlk, hK, hD0, hA, hE, hfr, hlc, hnc, hns⟩ := C0
  intro H locs ls hP hS hl
  exact va_get (D := (dC, dI)) (ci := 10) (C := RX10) (T := TX10) (N := 48) hx hb hts inX10 hown hK hP i (at_10 hi.1 hi.2) rfl 17 (by decide) (hts _ hw) (fun _ h9 => h9) rfl hd (h H locs ls hP hS hl)
theorem gf_10_18 (C0 : Cx g x cc nL ret own fr lc) {i index : Nat} {r : Nat} (hr9 : i + 11 = r) (hi : KD i 10) (hw : Cond.fieldLink own index "DrumBoatsModel" "member" "[I" ∈ GW) (hd : decode cc pc = .ok (.getfield index, 3)) (h : FW g x nL d dl (pc + 3) lo (rf g r :: st)) : FW g x nL d dl pc lo (rf g i :: st) := by
  subst hr9
  obtain ⟨⟨p, e, R, s, m⟩, ⟨args, below, meth, c⟩, ⟨A, nc, ns, Z⟩⟩ := x
  obtain ⟨l, dC, dI, ad, cA, sa, sv, vf⟩ := g
  obtain ⟨hx, hb, hr, hml, hown, hts, hlk, hK, hD0, hA, hE, hfr, hlc, hnc, hns⟩ := C0
  intro H locs ls hP hS hl
  exact va_get (D := (dC, dI)) (ci := 10) (C := RX10) (T := TX10) (N := 48) hx hb hts inX10 hown hK hP i (at_10 hi.1 hi.2) rfl 18 (by decide) (hts _ hw) (fun _ h9 => h9) rfl hd (h H locs ls hP hS hl)
theorem gf_10_19 (C0 : Cx g x cc nL ret own fr lc) {i index : Nat} {r : Nat} (hr9 : i + 12 = r) (hi : KD i 10) (hw : Cond.fieldLink own index "DrumBoatsModel" "seated" "[I" ∈ GW) (hd : decode cc pc = .ok (.getfield index, 3)) (h : FW g x nL d dl (pc + 3) lo (rf g r :: st)) : FW g x nL d dl pc lo (rf g i :: st) := by
  subst hr9
  obtain ⟨⟨p, e, R, s, m⟩, ⟨args, below, meth, c⟩, ⟨A, nc, ns, Z⟩⟩ := x
  obtain ⟨l, dC, dI, ad, cA, sa, sv, vf⟩ := g
  obtain ⟨hx, hb, hr, hml, hown, hts, hlk, hK, hD0, hA, hE, hfr, hlc, hnc, hns⟩ := C0
  intro H locs ls hP hS hl
  exact va_get (D := (dC, dI)) (ci := 10) (C := RX10) (T := TX10) (N := 48) hx hb hts inX10 hown hK hP i (at_10 hi.1 hi.2) rfl 19 (by decide) (hts _ hw) (fun _ h9 => h9) rfl hd (h H locs ls hP hS hl)
theorem gf_10_20 (C0 : Cx g x cc nL ret own fr lc) {i index : Nat} {r : Nat} (hr9 : i + 13 = r) (hi : KD i 10) (hw : Cond.fieldLink own index "DrumBoatsModel" "isSeated" "[Z" ∈ GW) (hd : decode cc pc = .ok (.getfield index, 3)) (h : FW g x nL d dl (pc + 3) lo (rf g r :: st)) : FW g x nL d dl pc lo (rf g i :: st) := by
  subst hr9
  obtain ⟨⟨p, e, R, s, m⟩, ⟨args, below, meth, c⟩, ⟨A, nc, ns, Z⟩⟩ := x
  obtain ⟨l, dC, dI, ad, cA, sa, sv, vf⟩ := g
  obtain ⟨hx, hb, hr, hml, hown, hts, hlk, hK, hD0, hA, hE, hfr, hlc, hnc, hns⟩ := C0
  intro H locs ls hP hS hl
  exact va_get (D := (dC, dI)) (ci := 10) (C := RX10) (T := TX10) (N := 48) hx hb hts inX10 hown hK hP i (at_10 hi.1 hi.2) rfl 20 (by decide) (hts _ hw) (fun _ h9 => h9) rfl hd (h H locs ls hP hS hl)
theorem gf_10_21 (C0 : Cx g x cc nL ret own fr lc) {i index : Nat} {r : Nat} (hr9 : i + 14 = r) (hi : KD i 10) (hw : Cond.fieldLink own index "DrumBoatsModel" "tape" "[I" ∈ GW) (hd : decode cc pc = .ok (.getfield index, 3)) (h : FW g x nL d dl (pc + 3) lo (rf g r :: st)) : FW g x nL d dl pc lo (rf g i :: st) := by
  subst hr9
  obtain ⟨⟨p, e, R, s, m⟩, ⟨args, below, meth, c⟩, ⟨A, nc, ns, Z⟩⟩ := x
  obtain ⟨l, dC, dI, ad, cA, sa, sv, vf⟩ := g
  obtain ⟨hx, hb, hr, hml, hown, hts, hlk, hK, hD0, hA, hE, hfr, hlc, hnc, hns⟩ := C0
  intro H locs ls hP hS hl
  exact va_get (D := (dC, dI)) (ci := 10) (C := RX10) (T := TX10) (N := 48) hx hb hts inX10 hown hK hP i (at_10 hi.1 hi.2) rfl 21 (by decide) (hts _ hw) (fun _ h9 => h9) rfl hd (h H locs ls hP hS hl)
theorem gf_10_22 (C0 : Cx g x cc nL ret own fr lc) {i index : Nat} {r : Nat} (hr9 : i + 15 = r) (hi : KD i 10) (hw : Cond.fieldLink own index "DrumBoatsModel" "rTests" "[I" ∈ GW) (hd : decode cc pc = .ok (.getfield index, 3)) (h : FW g x nL d dl (pc + 3) lo (rf g r :: st)) : FW g x nL d dl pc lo (rf g i :: st) := by
  subst hr9
  obtain ⟨⟨p, e, R, s, m⟩, ⟨args, below, meth, c⟩, ⟨A, nc, ns, Z⟩⟩ := x
  obtain ⟨l, dC, dI, ad, cA, sa, sv, vf⟩ := g
  obtain ⟨hx, hb, hr, hml, hown, hts, hlk, hK, hD0, hA, hE, hfr, hlc, hnc, hns⟩ := C0
  intro H locs ls hP hS hl
  exact va_get (D := (dC, dI)) (ci := 10) (C := RX10) (T := TX10) (N := 48) hx hb hts inX10 hown hK hP i (at_10 hi.1 hi.2) rfl 22 (by decide) (hts _ hw) (fun _ h9 => h9) rfl hd (h H locs ls hP hS hl)
theorem gf_10_23 (C0 : Cx g x cc nL ret own fr lc) {i index : Nat} {r : Nat} (hr9 : i + 16 = r) (hi : KD i 10) (hw : Cond.fieldLink own index "DrumBoatsModel" "tField" "[I" ∈ GW) (hd : decode cc pc = .ok (.getfield index, 3)) (h : FW g x nL d dl (pc + 3) lo (rf g r :: st)) : FW g x nL d dl pc lo (rf g i :: st) := by
  subst hr9
  obtain ⟨⟨p, e, R, s, m⟩, ⟨args, below, meth, c⟩, ⟨A, nc, ns, Z⟩⟩ := x
  obtain ⟨l, dC, dI, ad, cA, sa, sv, vf⟩ := g
  obtain ⟨hx, hb, hr, hml, hown, hts, hlk, hK, hD0, hA, hE, hfr, hlc, hnc, hns⟩ := C0
  intro H locs ls hP hS hl
  exact va_get (D := (dC, dI)) (ci := 10) (C := RX10) (T := TX10) (N := 48) hx hb hts inX10 hown hK hP i (at_10 hi.1 hi.2) rfl 23 (by decide) (hts _ hw) (fun _ h9 => h9) rfl hd (h H locs ls hP hS hl)
theorem gf_10_24 (C0 : Cx g x cc nL ret own fr lc) {i index : Nat} {r : Nat} (hr9 : i + 17 = r) (hi : KD i 10) (hw : Cond.fieldLink own index "DrumBoatsModel" "tSign" "[I" ∈ GW) (hd : decode cc pc = .ok (.getfield index, 3)) (h : FW g x nL d dl (pc + 3) lo (rf g r :: st)) : FW g x nL d dl pc lo (rf g i :: st) := by
  subst hr9
  obtain ⟨⟨p, e, R, s, m⟩, ⟨args, below, meth, c⟩, ⟨A, nc, ns, Z⟩⟩ := x
  obtain ⟨l, dC, dI, ad, cA, sa, sv, vf⟩ := g
  obtain ⟨hx, hb, hr, hml, hown, hts, hlk, hK, hD0, hA, hE, hfr, hlc, hnc, hns⟩ := C0
  intro H locs ls hP hS hl
  exact va_get (D := (dC, dI)) (ci := 10) (C := RX10) (T := TX10) (N := 48) hx hb hts inX10 hown hK hP i (at_10 hi.1 hi.2) rfl 24 (by decide) (hts _ hw) (fun _ h9 => h9) rfl hd (h H locs ls hP hS hl)
theorem gf_10_25 (C0 : Cx g x cc nL ret own fr lc) {i index : Nat} {r : Nat} (hr9 : i + 18 = r) (hi : KD i 10) (hw : Cond.fieldLink own index "DrumBoatsModel" "tNumber" "[I" ∈ GW) (hd : decode cc pc = .ok (.getfield index, 3)) (h : FW g x nL d dl (pc + 3) lo (rf g r :: st)) : FW g x nL d dl pc lo (rf g i :: st) := by
  subst hr9
  obtain ⟨⟨p, e, R, s, m⟩, ⟨args, below, meth, c⟩, ⟨A, nc, ns, Z⟩⟩ := x
  obtain ⟨l, dC, dI, ad, cA, sa, sv, vf⟩ := g
  obtain ⟨hx, hb, hr, hml, hown, hts, hlk, hK, hD0, hA, hE, hfr, hlc, hnc, hns⟩ := C0
  intro H locs ls hP hS hl
  exact va_get (D := (dC, dI)) (ci := 10) (C := RX10) (T := TX10) (N := 48) hx hb hts inX10 hown hK hP i (at_10 hi.1 hi.2) rfl 25 (by decide) (hts _ hw) (fun _ h9 => h9) rfl hd (h H locs ls hP hS hl)
theorem gf_10_26 (C0 : Cx g x cc nL ret own fr lc) {i index : Nat} {r : Nat} (hr9 : i + 19 = r) (hi : KD i 10) (hw : Cond.fieldLink own index "DrumBoatsModel" "tNot" "[Z" ∈ GW) (hd : decode cc pc = .ok (.getfield index, 3)) (h : FW g x nL d dl (pc + 3) lo (rf g r :: st)) : FW g x nL d dl pc lo (rf g i :: st) := by
  subst hr9
  obtain ⟨⟨p, e, R, s, m⟩, ⟨args, below, meth, c⟩, ⟨A, nc, ns, Z⟩⟩ := x
  obtain ⟨l, dC, dI, ad, cA, sa, sv, vf⟩ := g
  obtain ⟨hx, hb, hr, hml, hown, hts, hlk, hK, hD0, hA, hE, hfr, hlc, hnc, hns⟩ := C0
  intro H locs ls hP hS hl
  exact va_get (D := (dC, dI)) (ci := 10) (C := RX10) (T := TX10) (N := 48) hx hb hts inX10 hown hK hP i (at_10 hi.1 hi.2) rfl 26 (by decide) (hts _ hw) (fun _ h9 => h9) rfl hd (h H locs ls hP hS hl)
theorem gf_10_27 (C0 : Cx g x cc nL ret own fr lc) {i index : Nat} {r : Nat} (hr9 : i + 20 = r) (hi : KD i 10) (hw : Cond.fieldLink own index "DrumBoatsModel" "tOr" "[Z" ∈ GW) (hd : decode cc pc = .ok (.getfield index, 3)) (h : FW g x nL d dl (pc + 3) lo (rf g r :: st)) : FW g x nL d dl pc lo (rf g i :: st) := by
  subst hr9
  obtain ⟨⟨p, e, R, s, m⟩, ⟨args, below, meth, c⟩, ⟨A, nc, ns, Z⟩⟩ := x
  obtain ⟨l, dC, dI, ad, cA, sa, sv, vf⟩ := g
  obtain ⟨hx, hb, hr, hml, hown, hts, hlk, hK, hD0, hA, hE, hfr, hlc, hnc, hns⟩ := C0
  intro H locs ls hP hS hl
  exact va_get (D := (dC, dI)) (ci := 10) (C := RX10) (T := TX10) (N := 48) hx hb hts inX10 hown hK hP i (at_10 hi.1 hi.2) rfl 27 (by decide) (hts _ hw) (fun _ h9 => h9) rfl hd (h H locs ls hP hS hl)
theorem gf_10_28 (C0 : Cx g x cc nL ret own fr lc) {i index : Nat} {r : Nat} (hr9 : i + 21 = r) (hi : KD i 10) (hw : Cond.fieldLink own index "DrumBoatsModel" "minute" "[I" ∈ GW) (hd : decode cc pc = .ok (.getfield index, 3)) (h : FW g x nL d dl (pc + 3) lo (rf g r :: st)) : FW g x nL d dl pc lo (rf g i :: st) := by
  subst hr9
  obtain ⟨⟨p, e, R, s, m⟩, ⟨args, below, meth, c⟩, ⟨A, nc, ns, Z⟩⟩ := x
  obtain ⟨l, dC, dI, ad, cA, sa, sv, vf⟩ := g
  obtain ⟨hx, hb, hr, hml, hown, hts, hlk, hK, hD0, hA, hE, hfr, hlc, hnc, hns⟩ := C0
  intro H locs ls hP hS hl
  exact va_get (D := (dC, dI)) (ci := 10) (C := RX10) (T := TX10) (N := 48) hx hb hts inX10 hown hK hP i (at_10 hi.1 hi.2) rfl 28 (by decide) (hts _ hw) (fun _ h9 => h9) rfl hd (h H locs ls hP hS hl)
theorem gf_10_29 (C0 : Cx g x cc nL ret own fr lc) {i index : Nat} {r : Nat} (hr9 : i + 22 = r) (hi : KD i 10) (hw : Cond.fieldLink own index "DrumBoatsModel" "round" "[I" ∈ GW) (hd : decode cc pc = .ok (.getfield index, 3)) (h : FW g x nL d dl (pc + 3) lo (rf g r :: st)) : FW g x nL d dl pc lo (rf g i :: st) := by
  subst hr9
  obtain ⟨⟨p, e, R, s, m⟩, ⟨args, below, meth, c⟩, ⟨A, nc, ns, Z⟩⟩ := x
  obtain ⟨l, dC, dI, ad, cA, sa, sv, vf⟩ := g
  obtain ⟨hx, hb, hr, hml, hown, hts, hlk, hK, hD0, hA, hE, hfr, hlc, hnc, hns⟩ := C0
  intro H locs ls hP hS hl
  exact va_get (D := (dC, dI)) (ci := 10) (C := RX10) (T := TX10) (N := 48) hx hb hts inX10 hown hK hP i (at_10 hi.1 hi.2) rfl 29 (by decide) (hts _ hw) (fun _ h9 => h9) rfl hd (h H locs ls hP hS hl)
theorem gf_10_30 (C0 : Cx g x cc nL ret own fr lc) {i index : Nat} {r : Nat} (hr9 : i + 23 = r) (hi : KD i 10) (hw : Cond.fieldLink own index "DrumBoatsModel" "laneCrew" "[I" ∈ GW) (hd : decode cc pc = .ok (.getfield index, 3)) (h : FW g x nL d dl (pc + 3) lo (rf g r :: st)) : FW g x nL d dl pc lo (rf g i :: st) := by
  subst hr9
  obtain ⟨⟨p, e, R, s, m⟩, ⟨args, below, meth, c⟩, ⟨A, nc, ns, Z⟩⟩ := x
  obtain ⟨l, dC, dI, ad, cA, sa, sv, vf⟩ := g
  obtain ⟨hx, hb, hr, hml, hown, hts, hlk, hK, hD0, hA, hE, hfr, hlc, hnc, hns⟩ := C0
  intro H locs ls hP hS hl
  exact va_get (D := (dC, dI)) (ci := 10) (C := RX10) (T := TX10) (N := 48) hx hb hts inX10 hown hK hP i (at_10 hi.1 hi.2) rfl 30 (by decide) (hts _ hw) (fun _ h9 => h9) rfl hd (h H locs ls hP hS hl)
theorem gf_10_31 (C0 : Cx g x cc nL ret own fr lc) {i index : Nat} {r : Nat} (hr9 : i + 24 = r) (hi : KD i 10) (hw : Cond.fieldLink own index "DrumBoatsModel" "laneTime" "[I" ∈ GW) (hd : decode cc pc = .ok (.getfield index, 3)) (h : FW g x nL d dl (pc + 3) lo (rf g r :: st)) : FW g x nL d dl pc lo (rf g i :: st) := by
  subst hr9
  obtain ⟨⟨p, e, R, s, m⟩, ⟨args, below, meth, c⟩, ⟨A, nc, ns, Z⟩⟩ := x
  obtain ⟨l, dC, dI, ad, cA, sa, sv, vf⟩ := g
  obtain ⟨hx, hb, hr, hml, hown, hts, hlk, hK, hD0, hA, hE, hfr, hlc, hnc, hns⟩ := C0
  intro H locs ls hP hS hl
  exact va_get (D := (dC, dI)) (ci := 10) (C := RX10) (T := TX10) (N := 48) hx hb hts inX10 hown hK hP i (at_10 hi.1 hi.2) rfl 31 (by decide) (hts _ hw) (fun _ h9 => h9) rfl hd (h H locs ls hP hS hl)
theorem gf_10_32 (C0 : Cx g x cc nL ret own fr lc) {i index : Nat} {r : Nat} (hr9 : i + 25 = r) (hi : KD i 10) (hw : Cond.fieldLink own index "DrumBoatsModel" "gone" "[I" ∈ GW) (hd : decode cc pc = .ok (.getfield index, 3)) (h : FW g x nL d dl (pc + 3) lo (rf g r :: st)) : FW g x nL d dl pc lo (rf g i :: st) := by
  subst hr9
  obtain ⟨⟨p, e, R, s, m⟩, ⟨args, below, meth, c⟩, ⟨A, nc, ns, Z⟩⟩ := x
  obtain ⟨l, dC, dI, ad, cA, sa, sv, vf⟩ := g
  obtain ⟨hx, hb, hr, hml, hown, hts, hlk, hK, hD0, hA, hE, hfr, hlc, hnc, hns⟩ := C0
  intro H locs ls hP hS hl
  exact va_get (D := (dC, dI)) (ci := 10) (C := RX10) (T := TX10) (N := 48) hx hb hts inX10 hown hK hP i (at_10 hi.1 hi.2) rfl 32 (by decide) (hts _ hw) (fun _ h9 => h9) rfl hd (h H locs ls hP hS hl)
theorem gf_10_33 (C0 : Cx g x cc nL ret own fr lc) {i index : Nat} {r : Nat} (hr9 : i + 26 = r) (hi : KD i 10) (hw : Cond.fieldLink own index "DrumBoatsModel" "struck" "[Z" ∈ GW) (hd : decode cc pc = .ok (.getfield index, 3)) (h : FW g x nL d dl (pc + 3) lo (rf g r :: st)) : FW g x nL d dl pc lo (rf g i :: st) := by
  subst hr9
  obtain ⟨⟨p, e, R, s, m⟩, ⟨args, below, meth, c⟩, ⟨A, nc, ns, Z⟩⟩ := x
  obtain ⟨l, dC, dI, ad, cA, sa, sv, vf⟩ := g
  obtain ⟨hx, hb, hr, hml, hown, hts, hlk, hK, hD0, hA, hE, hfr, hlc, hnc, hns⟩ := C0
  intro H locs ls hP hS hl
  exact va_get (D := (dC, dI)) (ci := 10) (C := RX10) (T := TX10) (N := 48) hx hb hts inX10 hown hK hP i (at_10 hi.1 hi.2) rfl 33 (by decide) (hts _ hw) (fun _ h9 => h9) rfl hd (h H locs ls hP hS hl)
theorem gf_10_34 (C0 : Cx g x cc nL ret own fr lc) {i index : Nat} {r : Nat} (hr9 : i + 27 = r) (hi : KD i 10) (hw : Cond.fieldLink own index "DrumBoatsModel" "wasRun" "[Z" ∈ GW) (hd : decode cc pc = .ok (.getfield index, 3)) (h : FW g x nL d dl (pc + 3) lo (rf g r :: st)) : FW g x nL d dl pc lo (rf g i :: st) := by
  subst hr9
  obtain ⟨⟨p, e, R, s, m⟩, ⟨args, below, meth, c⟩, ⟨A, nc, ns, Z⟩⟩ := x
  obtain ⟨l, dC, dI, ad, cA, sa, sv, vf⟩ := g
  obtain ⟨hx, hb, hr, hml, hown, hts, hlk, hK, hD0, hA, hE, hfr, hlc, hnc, hns⟩ := C0
  intro H locs ls hP hS hl
  exact va_get (D := (dC, dI)) (ci := 10) (C := RX10) (T := TX10) (N := 48) hx hb hts inX10 hown hK hP i (at_10 hi.1 hi.2) rfl 34 (by decide) (hts _ hw) (fun _ h9 => h9) rfl hd (h H locs ls hP hS hl)
theorem gf_10_35 (C0 : Cx g x cc nL ret own fr lc) {i index : Nat} {r : Nat} (hr9 : i + 28 = r) (hi : KD i 10) (hw : Cond.fieldLink own index "DrumBoatsModel" "wait" "[I" ∈ GW) (hd : decode cc pc = .ok (.getfield index, 3)) (h : FW g x nL d dl (pc + 3) lo (rf g r :: st)) : FW g x nL d dl pc lo (rf g i :: st) := by
  subst hr9
  obtain ⟨⟨p, e, R, s, m⟩, ⟨args, below, meth, c⟩, ⟨A, nc, ns, Z⟩⟩ := x
  obtain ⟨l, dC, dI, ad, cA, sa, sv, vf⟩ := g
  obtain ⟨hx, hb, hr, hml, hown, hts, hlk, hK, hD0, hA, hE, hfr, hlc, hnc, hns⟩ := C0
  intro H locs ls hP hS hl
  exact va_get (D := (dC, dI)) (ci := 10) (C := RX10) (T := TX10) (N := 48) hx hb hts inX10 hown hK hP i (at_10 hi.1 hi.2) rfl 35 (by decide) (hts _ hw) (fun _ h9 => h9) rfl hd (h H locs ls hP hS hl)
theorem gf_10_36 (C0 : Cx g x cc nL ret own fr lc) {i index : Nat} {r : Nat} (hr9 : i + 29 = r) (hi : KD i 10) (hw : Cond.fieldLink own index "DrumBoatsModel" "current" "[I" ∈ GW) (hd : decode cc pc = .ok (.getfield index, 3)) (h : FW g x nL d dl (pc + 3) lo (rf g r :: st)) : FW g x nL d dl pc lo (rf g i :: st) := by
  subst hr9
  obtain ⟨⟨p, e, R, s, m⟩, ⟨args, below, meth, c⟩, ⟨A, nc, ns, Z⟩⟩ := x
  obtain ⟨l, dC, dI, ad, cA, sa, sv, vf⟩ := g
  obtain ⟨hx, hb, hr, hml, hown, hts, hlk, hK, hD0, hA, hE, hfr, hlc, hnc, hns⟩ := C0
  intro H locs ls hP hS hl
  exact va_get (D := (dC, dI)) (ci := 10) (C := RX10) (T := TX10) (N := 48) hx hb hts inX10 hown hK hP i (at_10 hi.1 hi.2) rfl 36 (by decide) (hts _ hw) (fun _ h9 => h9) rfl hd (h H locs ls hP hS hl)
theorem gf_10_37 (C0 : Cx g x cc nL ret own fr lc) {i index : Nat} {r : Nat} (hr9 : i + 30 = r) (hi : KD i 10) (hw : Cond.fieldLink own index "DrumBoatsModel" "finals" "[I" ∈ GW) (hd : decode cc pc = .ok (.getfield index, 3)) (h : FW g x nL d dl (pc + 3) lo (rf g r :: st)) : FW g x nL d dl pc lo (rf g i :: st) := by
  subst hr9
  obtain ⟨⟨p, e, R, s, m⟩, ⟨args, below, meth, c⟩, ⟨A, nc, ns, Z⟩⟩ := x
  obtain ⟨l, dC, dI, ad, cA, sa, sv, vf⟩ := g
  obtain ⟨hx, hb, hr, hml, hown, hts, hlk, hK, hD0, hA, hE, hfr, hlc, hnc, hns⟩ := C0
  intro H locs ls hP hS hl
  exact va_get (D := (dC, dI)) (ci := 10) (C := RX10) (T := TX10) (N := 48) hx hb hts inX10 hown hK hP i (at_10 hi.1 hi.2) rfl 37 (by decide) (hts _ hw) (fun _ h9 => h9) rfl hd (h H locs ls hP hS hl)
theorem gf_10_38 (C0 : Cx g x cc nL ret own fr lc) {i index : Nat} {r : Nat} (hr9 : i + 31 = r) (hi : KD i 10) (hw : Cond.fieldLink own index "DrumBoatsModel" "bestTime" "[I" ∈ GW) (hd : decode cc pc = .ok (.getfield index, 3)) (h : FW g x nL d dl (pc + 3) lo (rf g r :: st)) : FW g x nL d dl pc lo (rf g i :: st) := by
  subst hr9
  obtain ⟨⟨p, e, R, s, m⟩, ⟨args, below, meth, c⟩, ⟨A, nc, ns, Z⟩⟩ := x
  obtain ⟨l, dC, dI, ad, cA, sa, sv, vf⟩ := g
  obtain ⟨hx, hb, hr, hml, hown, hts, hlk, hK, hD0, hA, hE, hfr, hlc, hnc, hns⟩ := C0
  intro H locs ls hP hS hl
  exact va_get (D := (dC, dI)) (ci := 10) (C := RX10) (T := TX10) (N := 48) hx hb hts inX10 hown hK hP i (at_10 hi.1 hi.2) rfl 38 (by decide) (hts _ hw) (fun _ h9 => h9) rfl hd (h H locs ls hP hS hl)
theorem gf_10_39 (C0 : Cx g x cc nL ret own fr lc) {i index : Nat} {r : Nat} (hr9 : i + 32 = r) (hi : KD i 10) (hw : Cond.fieldLink own index "DrumBoatsModel" "inFinal" "[Z" ∈ GW) (hd : decode cc pc = .ok (.getfield index, 3)) (h : FW g x nL d dl (pc + 3) lo (rf g r :: st)) : FW g x nL d dl pc lo (rf g i :: st) := by
  subst hr9
  obtain ⟨⟨p, e, R, s, m⟩, ⟨args, below, meth, c⟩, ⟨A, nc, ns, Z⟩⟩ := x
  obtain ⟨l, dC, dI, ad, cA, sa, sv, vf⟩ := g
  obtain ⟨hx, hb, hr, hml, hown, hts, hlk, hK, hD0, hA, hE, hfr, hlc, hnc, hns⟩ := C0
  intro H locs ls hP hS hl
  exact va_get (D := (dC, dI)) (ci := 10) (C := RX10) (T := TX10) (N := 48) hx hb hts inX10 hown hK hP i (at_10 hi.1 hi.2) rfl 39 (by decide) (hts _ hw) (fun _ h9 => h9) rfl hd (h H locs ls hP hS hl)
theorem gf_10_40 (C0 : Cx g x cc nL ret own fr lc) {i index : Nat} {r : Nat} (hr9 : i + 33 = r) (hi : KD i 10) (hw : Cond.fieldLink own index "DrumBoatsModel" "pick" "[I" ∈ GW) (hd : decode cc pc = .ok (.getfield index, 3)) (h : FW g x nL d dl (pc + 3) lo (rf g r :: st)) : FW g x nL d dl pc lo (rf g i :: st) := by
  subst hr9
  obtain ⟨⟨p, e, R, s, m⟩, ⟨args, below, meth, c⟩, ⟨A, nc, ns, Z⟩⟩ := x
  obtain ⟨l, dC, dI, ad, cA, sa, sv, vf⟩ := g
  obtain ⟨hx, hb, hr, hml, hown, hts, hlk, hK, hD0, hA, hE, hfr, hlc, hnc, hns⟩ := C0
  intro H locs ls hP hS hl
  exact va_get (D := (dC, dI)) (ci := 10) (C := RX10) (T := TX10) (N := 48) hx hb hts inX10 hown hK hP i (at_10 hi.1 hi.2) rfl 40 (by decide) (hts _ hw) (fun _ h9 => h9) rfl hd (h H locs ls hP hS hl)
theorem gf_10_41 (C0 : Cx g x cc nL ret own fr lc) {i index : Nat} {r : Nat} (hr9 : i + 34 = r) (hi : KD i 10) (hw : Cond.fieldLink own index "DrumBoatsModel" "found" "[I" ∈ GW) (hd : decode cc pc = .ok (.getfield index, 3)) (h : FW g x nL d dl (pc + 3) lo (rf g r :: st)) : FW g x nL d dl pc lo (rf g i :: st) := by
  subst hr9
  obtain ⟨⟨p, e, R, s, m⟩, ⟨args, below, meth, c⟩, ⟨A, nc, ns, Z⟩⟩ := x
  obtain ⟨l, dC, dI, ad, cA, sa, sv, vf⟩ := g
  obtain ⟨hx, hb, hr, hml, hown, hts, hlk, hK, hD0, hA, hE, hfr, hlc, hnc, hns⟩ := C0
  intro H locs ls hP hS hl
  exact va_get (D := (dC, dI)) (ci := 10) (C := RX10) (T := TX10) (N := 48) hx hb hts inX10 hown hK hP i (at_10 hi.1 hi.2) rfl 41 (by decide) (hts _ hw) (fun _ h9 => h9) rfl hd (h H locs ls hP hS hl)
theorem gf_10_42 (C0 : Cx g x cc nL ret own fr lc) {i index : Nat} {r : Nat} (hr9 : i + 35 = r) (hi : KD i 10) (hw : Cond.fieldLink own index "DrumBoatsModel" "fresh" "[I" ∈ GW) (hd : decode cc pc = .ok (.getfield index, 3)) (h : FW g x nL d dl (pc + 3) lo (rf g r :: st)) : FW g x nL d dl pc lo (rf g i :: st) := by
  subst hr9
  obtain ⟨⟨p, e, R, s, m⟩, ⟨args, below, meth, c⟩, ⟨A, nc, ns, Z⟩⟩ := x
  obtain ⟨l, dC, dI, ad, cA, sa, sv, vf⟩ := g
  obtain ⟨hx, hb, hr, hml, hown, hts, hlk, hK, hD0, hA, hE, hfr, hlc, hnc, hns⟩ := C0
  intro H locs ls hP hS hl
  exact va_get (D := (dC, dI)) (ci := 10) (C := RX10) (T := TX10) (N := 48) hx hb hts inX10 hown hK hP i (at_10 hi.1 hi.2) rfl 42 (by decide) (hts _ hw) (fun _ h9 => h9) rfl hd (h H locs ls hP hS hl)
theorem gf_10_43 (C0 : Cx g x cc nL ret own fr lc) {i index : Nat} {r : Nat} (hr9 : i + 36 = r) (hi : KD i 10) (hw : Cond.fieldLink own index "DrumBoatsModel" "at" "[I" ∈ GW) (hd : decode cc pc = .ok (.getfield index, 3)) (h : FW g x nL d dl (pc + 3) lo (rf g r :: st)) : FW g x nL d dl pc lo (rf g i :: st) := by
  subst hr9
  obtain ⟨⟨p, e, R, s, m⟩, ⟨args, below, meth, c⟩, ⟨A, nc, ns, Z⟩⟩ := x
  obtain ⟨l, dC, dI, ad, cA, sa, sv, vf⟩ := g
  obtain ⟨hx, hb, hr, hml, hown, hts, hlk, hK, hD0, hA, hE, hfr, hlc, hnc, hns⟩ := C0
  intro H locs ls hP hS hl
  exact va_get (D := (dC, dI)) (ci := 10) (C := RX10) (T := TX10) (N := 48) hx hb hts inX10 hown hK hP i (at_10 hi.1 hi.2) rfl 43 (by decide) (hts _ hw) (fun _ h9 => h9) rfl hd (h H locs ls hP hS hl)
theorem gf_10_44 (C0 : Cx g x cc nL ret own fr lc) {i index : Nat} (hi : KD i 10) (hw : Cond.fieldLink own index "DrumBoatsModel" "above" "J" ∈ GW) (hd : decode cc pc = .ok (.getfield index, 3)) (h : FW g x nL d dl (pc + 3) lo (.long (dl i 44) :: st)) : FW g x nL d dl pc lo (rf g i :: st) := by
  obtain ⟨⟨p, e, R, s, m⟩, ⟨args, below, meth, c⟩, ⟨A, nc, ns, Z⟩⟩ := x
  obtain ⟨l, dC, dI, ad, cA, sa, sv, vf⟩ := g
  obtain ⟨hx, hb, hr, hml, hown, hts, hlk, hK, hD0, hA, hE, hfr, hlc, hnc, hns⟩ := C0
  intro H locs ls hP hS hl
  exact va_get (D := (dC, dI)) (ci := 10) (C := RX10) (T := TX10) (N := 48) hx hb hts inX10 hown hK hP i (at_10 hi.1 hi.2) rfl 44 (by decide) (hts _ hw) (fun _ h9 => h9) rfl hd (h H locs ls hP hS hl)
theorem pf_10_44 (C0 : Cx g x cc nL ret own fr lc) {i index : Nat} {v : Int64} (hi : KD i 10) (hw : Cond.fieldLink own index "DrumBoatsModel" "above" "J" ∈ GW) (hd : decode cc pc = .ok (.putfield index, 3)) (h : FW g x nL d (l2 dl i 44 v) (pc + 3) lo st) : FW g x nL d dl pc lo (.long v :: rf g i :: st) := by
  obtain ⟨⟨p, e, R, s, m⟩, ⟨args, below, meth, c⟩, ⟨A, nc, ns, Z⟩⟩ := x
  obtain ⟨l, dC, dI, ad, cA, sa, sv, vf⟩ := g
  obtain ⟨hx, hb, hr, hml, hown, hts, hlk, hK, hD0, hA, hE, hfr, hlc, hnc, hns⟩ := C0
  intro H locs ls hP hS hl
  refine va_put (D := (dC, dI)) (ci := 10) (ty := .long) (C := RX10) (T := TX10) (N := 48) hx hb hts inX10 tyX10 tyX10_ok nmX10 hown hK hP (D_any hD0) hS i (at_10 hi.1 hi.2) rfl 44 (by decide) (hts _ hw) (fun _ h9 => h9) rfl (by decide +kernel) rfl rfl (Nat.le_of_ble_eq_true rfl) hd (fun H locs hP hD hS => ?_)
  rw [put_10_44 v hi.1 hi.2] at hP
  exact (h H locs ls hP hS hl)
theorem gf_10_45 (C0 : Cx g x cc nL ret own fr lc) {i index : Nat} (hi : KD i 10) (hw : Cond.fieldLink own index "DrumBoatsModel" "below" "J" ∈ GW) (hd : decode cc pc = .ok (.getfield index, 3)) (h : FW g x nL d dl (pc + 3) lo (.long (dl i 45) :: st)) : FW g x nL d dl pc lo (rf g i :: st) := by
  obtain ⟨⟨p, e, R, s, m⟩, ⟨args, below, meth, c⟩, ⟨A, nc, ns, Z⟩⟩ := x
  obtain ⟨l, dC, dI, ad, cA, sa, sv, vf⟩ := g
  obtain ⟨hx, hb, hr, hml, hown, hts, hlk, hK, hD0, hA, hE, hfr, hlc, hnc, hns⟩ := C0
  intro H locs ls hP hS hl
  exact va_get (D := (dC, dI)) (ci := 10) (C := RX10) (T := TX10) (N := 48) hx hb hts inX10 hown hK hP i (at_10 hi.1 hi.2) rfl 45 (by decide) (hts _ hw) (fun _ h9 => h9) rfl hd (h H locs ls hP hS hl)
theorem pf_10_45 (C0 : Cx g x cc nL ret own fr lc) {i index : Nat} {v : Int64} (hi : KD i 10) (hw : Cond.fieldLink own index "DrumBoatsModel" "below" "J" ∈ GW) (hd : decode cc pc = .ok (.putfield index, 3)) (h : FW g x nL d (l2 dl i 45 v) (pc + 3) lo st) : FW g x nL d dl pc lo (.long v :: rf g i :: st) := by
  obtain ⟨⟨p, e, R, s, m⟩, ⟨args, below, meth, c⟩, ⟨A, nc, ns, Z⟩⟩ := x
  obtain ⟨l, dC, dI, ad, cA, sa, sv, vf⟩ := g
  obtain ⟨hx, hb, hr, hml, hown, hts, hlk, hK, hD0, hA, hE, hfr, hlc, hnc, hns⟩ := C0
  intro H locs ls hP hS hl
  refine va_put (D := (dC, dI)) (ci := 10) (ty := .long) (C := RX10) (T := TX10) (N := 48) hx hb hts inX10 tyX10 tyX10_ok nmX10 hown hK hP (D_any hD0) hS i (at_10 hi.1 hi.2) rfl 45 (by decide) (hts _ hw) (fun _ h9 => h9) rfl (by decide +kernel) rfl rfl (Nat.le_of_ble_eq_true rfl) hd (fun H locs hP hD hS => ?_)
  rw [put_10_45 v hi.1 hi.2] at hP
  exact (h H locs ls hP hS hl)
theorem gf_10_46 (C0 : Cx g x cc nL ret own fr lc) {i index : Nat} (hi : KD i 10) (hw : Cond.fieldLink own index "DrumBoatsModel" "here" "I" ∈ GW) (hd : decode cc pc = .ok (.getfield index, 3)) (h : FW g x nL d dl (pc + 3) lo (.int (d i 46) :: st)) : FW g x nL d dl pc lo (rf g i :: st) := by
  obtain ⟨⟨p, e, R, s, m⟩, ⟨args, below, meth, c⟩, ⟨A, nc, ns, Z⟩⟩ := x
  obtain ⟨l, dC, dI, ad, cA, sa, sv, vf⟩ := g
  obtain ⟨hx, hb, hr, hml, hown, hts, hlk, hK, hD0, hA, hE, hfr, hlc, hnc, hns⟩ := C0
  intro H locs ls hP hS hl
  exact va_get (D := (dC, dI)) (ci := 10) (C := RX10) (T := TX10) (N := 48) hx hb hts inX10 hown hK hP i (at_10 hi.1 hi.2) rfl 46 (by decide) (hts _ hw) (fun _ h9 => h9) rfl hd (h H locs ls hP hS hl)
theorem pf_10_46 (C0 : Cx g x cc nL ret own fr lc) {i index : Nat} {v : Int32} (hi : KD i 10) (hw : Cond.fieldLink own index "DrumBoatsModel" "here" "I" ∈ GW) (hd : decode cc pc = .ok (.putfield index, 3)) (h : FW g x nL (u2 d i 46 v) dl (pc + 3) lo st) : FW g x nL d dl pc lo (.int v :: rf g i :: st) := by
  obtain ⟨⟨p, e, R, s, m⟩, ⟨args, below, meth, c⟩, ⟨A, nc, ns, Z⟩⟩ := x
  obtain ⟨l, dC, dI, ad, cA, sa, sv, vf⟩ := g
  obtain ⟨hx, hb, hr, hml, hown, hts, hlk, hK, hD0, hA, hE, hfr, hlc, hnc, hns⟩ := C0
  intro H locs ls hP hS hl
  refine va_put (D := (dC, dI)) (ci := 10) (ty := .int) (C := RX10) (T := TX10) (N := 48) hx hb hts inX10 tyX10 tyX10_ok nmX10 hown hK hP (D_any hD0) hS i (at_10 hi.1 hi.2) rfl 46 (by decide) (hts _ hw) (fun _ h9 => h9) rfl (by decide +kernel) rfl rfl (Nat.le_of_ble_eq_true rfl) hd (fun H locs hP hD hS => ?_)
  rw [put_10_46 v hi.1 hi.2] at hP
  exact (h H locs ls hP hS hl)
theorem gf_10_47 (C0 : Cx g x cc nL ret own fr lc) {i index : Nat} (hi : KD i 10) (hw : Cond.fieldLink own index "DrumBoatsModel" "fault" "I" ∈ GW) (hd : decode cc pc = .ok (.getfield index, 3)) (h : FW g x nL d dl (pc + 3) lo (.int (d i 47) :: st)) : FW g x nL d dl pc lo (rf g i :: st) := by
  obtain ⟨⟨p, e, R, s, m⟩, ⟨args, below, meth, c⟩, ⟨A, nc, ns, Z⟩⟩ := x
  obtain ⟨l, dC, dI, ad, cA, sa, sv, vf⟩ := g
  obtain ⟨hx, hb, hr, hml, hown, hts, hlk, hK, hD0, hA, hE, hfr, hlc, hnc, hns⟩ := C0
  intro H locs ls hP hS hl
  exact va_get (D := (dC, dI)) (ci := 10) (C := RX10) (T := TX10) (N := 48) hx hb hts inX10 hown hK hP i (at_10 hi.1 hi.2) rfl 47 (by decide) (hts _ hw) (fun _ h9 => h9) rfl hd (h H locs ls hP hS hl)
theorem pf_10_47 (C0 : Cx g x cc nL ret own fr lc) {i index : Nat} {v : Int32} (hi : KD i 10) (hw : Cond.fieldLink own index "DrumBoatsModel" "fault" "I" ∈ GW) (hd : decode cc pc = .ok (.putfield index, 3)) (h : FW g x nL (u2 d i 47 v) dl (pc + 3) lo st) : FW g x nL d dl pc lo (.int v :: rf g i :: st) := by
  obtain ⟨⟨p, e, R, s, m⟩, ⟨args, below, meth, c⟩, ⟨A, nc, ns, Z⟩⟩ := x
  obtain ⟨l, dC, dI, ad, cA, sa, sv, vf⟩ := g
  obtain ⟨hx, hb, hr, hml, hown, hts, hlk, hK, hD0, hA, hE, hfr, hlc, hnc, hns⟩ := C0
  intro H locs ls hP hS hl
  refine va_put (D := (dC, dI)) (ci := 10) (ty := .int) (C := RX10) (T := TX10) (N := 48) hx hb hts inX10 tyX10 tyX10_ok nmX10 hown hK hP (D_any hD0) hS i (at_10 hi.1 hi.2) rfl 47 (by decide) (hts _ hw) (fun _ h9 => h9) rfl (by decide +kernel) rfl rfl (Nat.le_of_ble_eq_true rfl) hd (fun H locs hP hD hS => ?_)
  rw [put_10_47 v hi.1 hi.2] at hP
  exact (h H locs ls hP hS hl)
end FFIELDS
def FPre (g : Ex) (sz : Nat) (d : DD) (dl : LL) (U : State) : Prop :=
  match g with
  | (l, dC, dI, ad, cA, sa, sv, vf) => U.heap.size = sz ∧ va_P (dC, dI) vwCl (pw 248 ad (CC ad cA d dl)) U.heap ∧ va_K (dC, dI) vwCl (tysW cA) U ∧ va_D (AA ad sz) (pw 248 ad (fun _ => .inr (0, []))) ∧ EV sa sv vf (AA ad sz) U U.heap
def rmm (fr lc : Nat) : Room := { frames := fr, cells := 0, slots := 0, locals := lc }
def FPo (g : Ex) (u : DD × LL) (t : State) : Prop :=
  match g with
  | (l, dC, dI, ad, cA, sa, sv, vf) => va_P (dC, dI) vwCl (pw 248 ad (CC ad cA u.1 u.2)) t.heap
def FPr (g : Ex) (u : Nat × DD × LL) (a : Nat) (t : State) : Prop :=
  match g with
  | (l, dC, dI, ad, cA, sa, sv, vf) => a = sa u.1 ∧ va_P (dC, dI) vwCl (pw 248 ad (CC ad cA u.2.1 u.2.2)) t.heap
def Mi (g : Ex) (y : MethodName) (bytes : ByteArray) (maxL : Nat) (rt : Option FieldType) (fr lc : Nat) (As : List Value) (d : DD) (dl : LL) (Q : Int32 → DD → LL → Prop) : Prop := ∀ sz : Nat, Met g.1 y (.code y bytes maxL rt :: GW) (rmm fr lc) (va_Pc As (FPre g sz d dl)) (va_Qi (fun (r : Int32) (u : DD × LL) => Q r u.1 u.2) (FPo g) (AA g.2.2.2.1 sz)) 0 0 (AA g.2.2.2.1 sz)
theorem Mi.of {g : Ex} {y : MethodName} {bytes : ByteArray} {maxL : Nat} {rt : Option FieldType} {fr lc : Nat} {As : List Value} {d : DD} {dl : LL} {Q : Int32 → DD → LL → Prop} (hy : plainName y.cls = true) (hlen : (lg_sl As).length ≤ maxL) (body : ∀ x : Fx, Cx g x bytes maxL rt y.cls fr lc → Zi g x Q → FW g x maxL d dl 0 (lv_args 0 As) []) : Mi g y bytes maxL rt fr lc As d dl Q := by
  intro sz
  obtain ⟨l, dC, dI, ad, cA, sa, sv, vf⟩ := g
  refine Met.ofW (cc := bytes) (maxL := maxL) (ret := rt) hy rfl ?_
  intro p e s m args below meth c s₁ B hml hv
  obtain ⟨rfl, hsz, hP, hK, hD, hE⟩ := hv
  subst hsz
  have hts := atoms_spec (ws := .code y bytes maxL rt :: GW) B.pre
  have hown : s.vm.findClass y.cls = some m.cls := findClass_of_methodNamed B.named
  have h9 := body ((p, e, rmm fr lc, s, m), (As.toArray, below, meth, c), (AA ad s.heap.size, 0, 0, _)) ⟨B.exec, B.bytes, B.returns, hml, hown, fun w hw => hts w (List.mem_cons_of_mem _ hw), B.notSynchronized, hK, hD, fun q h => Or.inr h, hE, Nat.le_refl _, Nat.le_refl _, Nat.zero_le _, Nat.zero_le _⟩ ⟨rfl, rfl⟩
  rw [lg_entry_eq]
  exact h9 s.heap [] _ hP va_S.rf (lv_entry As hlen)
def Ml (g : Ex) (y : MethodName) (bytes : ByteArray) (maxL : Nat) (rt : Option FieldType) (fr lc : Nat) (As : List Value) (d : DD) (dl : LL) (Q : Int64 → DD → LL → Prop) : Prop := ∀ sz : Nat, Met g.1 y (.code y bytes maxL rt :: GW) (rmm fr lc) (va_Pc As (FPre g sz d dl)) (va_Ql (fun (r : Int64) (u : DD × LL) => Q r u.1 u.2) (FPo g) (AA g.2.2.2.1 sz)) 0 0 (AA g.2.2.2.1 sz)
theorem Ml.of {g : Ex} {y : MethodName} {bytes : ByteArray} {maxL : Nat} {rt : Option FieldType} {fr lc : Nat} {As : List Value} {d : DD} {dl : LL} {Q : Int64 → DD → LL → Prop} (hy : plainName y.cls = true) (hlen : (lg_sl As).length ≤ maxL) (body : ∀ x : Fx, Cx g x bytes maxL rt y.cls fr lc → Zl g x Q → FW g x maxL d dl 0 (lv_args 0 As) []) : Ml g y bytes maxL rt fr lc As d dl Q := by
  intro sz
  obtain ⟨l, dC, dI, ad, cA, sa, sv, vf⟩ := g
  refine Met.ofW (cc := bytes) (maxL := maxL) (ret := rt) hy rfl ?_
  intro p e s m args below meth c s₁ B hml hv
  obtain ⟨rfl, hsz, hP, hK, hD, hE⟩ := hv
  subst hsz
  have hts := atoms_spec (ws := .code y bytes maxL rt :: GW) B.pre
  have hown : s.vm.findClass y.cls = some m.cls := findClass_of_methodNamed B.named
  have h9 := body ((p, e, rmm fr lc, s, m), (As.toArray, below, meth, c), (AA ad s.heap.size, 0, 0, _)) ⟨B.exec, B.bytes, B.returns, hml, hown, fun w hw => hts w (List.mem_cons_of_mem _ hw), B.notSynchronized, hK, hD, fun q h => Or.inr h, hE, Nat.le_refl _, Nat.le_refl _, Nat.zero_le _, Nat.zero_le _⟩ ⟨rfl, rfl⟩
  rw [lg_entry_eq]
  exact h9 s.heap [] _ hP va_S.rf (lv_entry As hlen)
def Mv (g : Ex) (y : MethodName) (bytes : ByteArray) (maxL : Nat) (rt : Option FieldType) (fr lc : Nat) (As : List Value) (d : DD) (dl : LL) (Q : DD → LL → Prop) : Prop := ∀ sz : Nat, Met g.1 y (.code y bytes maxL rt :: GW) (rmm fr lc) (va_Pc As (FPre g sz d dl)) (va_Qv (fun (u : DD × LL) => Q u.1 u.2) (FPo g) (AA g.2.2.2.1 sz)) 0 0 (AA g.2.2.2.1 sz)
theorem Mv.of {g : Ex} {y : MethodName} {bytes : ByteArray} {maxL : Nat} {rt : Option FieldType} {fr lc : Nat} {As : List Value} {d : DD} {dl : LL} {Q : DD → LL → Prop} (hy : plainName y.cls = true) (hlen : (lg_sl As).length ≤ maxL) (body : ∀ x : Fx, Cx g x bytes maxL rt y.cls fr lc → Zv g x Q → FW g x maxL d dl 0 (lv_args 0 As) []) : Mv g y bytes maxL rt fr lc As d dl Q := by
  intro sz
  obtain ⟨l, dC, dI, ad, cA, sa, sv, vf⟩ := g
  refine Met.ofW (cc := bytes) (maxL := maxL) (ret := rt) hy rfl ?_
  intro p e s m args below meth c s₁ B hml hv
  obtain ⟨rfl, hsz, hP, hK, hD, hE⟩ := hv
  subst hsz
  have hts := atoms_spec (ws := .code y bytes maxL rt :: GW) B.pre
  have hown : s.vm.findClass y.cls = some m.cls := findClass_of_methodNamed B.named
  have h9 := body ((p, e, rmm fr lc, s, m), (As.toArray, below, meth, c), (AA ad s.heap.size, 0, 0, _)) ⟨B.exec, B.bytes, B.returns, hml, hown, fun w hw => hts w (List.mem_cons_of_mem _ hw), B.notSynchronized, hK, hD, fun q h => Or.inr h, hE, Nat.le_refl _, Nat.le_refl _, Nat.zero_le _, Nat.zero_le _⟩ ⟨rfl, rfl⟩
  rw [lg_entry_eq]
  exact h9 s.heap [] _ hP va_S.rf (lv_entry As hlen)
def Mr (g : Ex) (y : MethodName) (bytes : ByteArray) (maxL : Nat) (rt : Option FieldType) (fr lc : Nat) (As : List Value) (d : DD) (dl : LL) (Q : Nat → DD → LL → Prop) : Prop := ∀ sz : Nat, Met g.1 y (.code y bytes maxL rt :: GW) (rmm fr lc) (va_Pc As (FPre g sz d dl)) (va_Qr (fun (u : Nat × DD × LL) => Q u.1 u.2.1 u.2.2) (FPr g) (AA g.2.2.2.1 sz)) 0 0 (AA g.2.2.2.1 sz)
theorem Mr.of {g : Ex} {y : MethodName} {bytes : ByteArray} {maxL : Nat} {rt : Option FieldType} {fr lc : Nat} {As : List Value} {d : DD} {dl : LL} {Q : Nat → DD → LL → Prop} (hy : plainName y.cls = true) (hlen : (lg_sl As).length ≤ maxL) (body : ∀ x : Fx, Cx g x bytes maxL rt y.cls fr lc → Zr g x Q → FW g x maxL d dl 0 (lv_args 0 As) []) : Mr g y bytes maxL rt fr lc As d dl Q := by
  intro sz
  obtain ⟨l, dC, dI, ad, cA, sa, sv, vf⟩ := g
  refine Met.ofW (cc := bytes) (maxL := maxL) (ret := rt) hy rfl ?_
  intro p e s m args below meth c s₁ B hml hv
  obtain ⟨rfl, hsz, hP, hK, hD, hE⟩ := hv
  subst hsz
  have hts := atoms_spec (ws := .code y bytes maxL rt :: GW) B.pre
  have hown : s.vm.findClass y.cls = some m.cls := findClass_of_methodNamed B.named
  have h9 := body ((p, e, rmm fr lc, s, m), (As.toArray, below, meth, c), (AA ad s.heap.size, 0, 0, _)) ⟨B.exec, B.bytes, B.returns, hml, hown, fun w hw => hts w (List.mem_cons_of_mem _ hw), B.notSynchronized, hK, hD, fun q h => Or.inr h, hE, Nat.le_refl _, Nat.le_refl _, Nat.zero_le _, Nat.zero_le _⟩ ⟨rfl, rfl⟩
  rw [lg_entry_eq]
  exact h9 s.heap [] _ hP va_S.rf (lv_entry As hlen)
theorem AA_sub {s : State} {A : Nat → Prop} {ad : Nat → Nat} {H : Heap} {locs : List Loc} (hD0 : va_D A (pw 248 ad (fun _ => .inr (0, [])))) (hA : ∀ q : Nat, s.heap.size ≤ q → A q) (hS : va_S A s.heap H locs) : ∀ q, AA ad H.size q → A q := by
  intro q h
  rcases h with ⟨i, hi, rfl⟩ | h
  · exact hD0.2 i (ad i, .inr (0, [])) (pw_get hi)
  · exact hA q (Nat.le_trans hS.1 h)
theorem AA_Dz {A : Nat → Prop} {ad : Nat → Nat} (sz : Nat) (hD0 : va_D A (pw 248 ad (fun _ => .inr (0, [])))) : va_D (AA ad sz) (pw 248 ad (fun _ => .inr (0, []))) := AA_D hD0
theorem FPre.blind {g : Ex} {sz : Nat} {d : DD} {dl : LL} {As : List Value} : FrameBlind (va_Pc As (FPre g sz d dl)) := by
  intro a U g9 mk q
  obtain ⟨l, dC, dI, ad, cA, sa, sv, vf⟩ := g
  obtain ⟨q0, q1, qP, qK, qD, qE⟩ := q
  exact ⟨q0, q1, qP, va_K.moved (u := U) (U := U.calling g9 mk a) (Vm.Alike.refl U.vm) qK, qD, EV.calling g9 mk a qE⟩
theorem kobj {i ci : Nat} (h : KD i ci) (hc : ci < 11) (ad : Nat → Nat) (cA : Nat → ClassId) (d : DD) (dl : LL) : ∃ fs, (pw 248 ad (CC ad cA d dl))[i]? = some (ad i, .inr (ci, fs)) := by
  rcases (show ci = 0 ∨ ci = 1 ∨ ci = 2 ∨ ci = 3 ∨ ci = 4 ∨ ci = 5 ∨ ci = 6 ∨ ci = 7 ∨ ci = 8 ∨ ci = 9 ∨ ci = 10 by omega) with rfl | rfl | rfl | rfl | rfl | rfl | rfl | rfl | rfl | rfl | rfl
  · exact ⟨_, at_0 h.1 h.2⟩
  · exact ⟨_, at_1 h.1 h.2⟩
  · exact ⟨_, at_2 h.1 h.2⟩
  · exact ⟨_, at_3 h.1 h.2⟩
  · exact ⟨_, at_4 h.1 h.2⟩
  · exact ⟨_, at_5 h.1 h.2⟩
  · exact ⟨_, at_6 h.1 h.2⟩
  · exact ⟨_, at_7 h.1 h.2⟩
  · exact ⟨_, at_8 h.1 h.2⟩
  · exact ⟨_, at_9 h.1 h.2⟩
  · exact ⟨_, at_10 h.1 h.2⟩
def CB (own : String) (index : Nat) (y : MethodName) (bytes : ByteArray) (maxL : Nat) (rt : Option FieldType) (n : Nat) : Prop := Cond.initialized y.cls ∈ GW ∧ Cond.code y bytes maxL rt ∈ GW ∧ y.cls ≠ "java/lang/invoke/MethodHandle" ∧ y.cls ≠ "java/lang/invoke/VarHandle" ∧ (parseMethodDescriptor y.desc).map (fun d => d.parameters.length) = some n
def CV (own : String) (index : Nat) (y : MethodName) (bytes : ByteArray) (maxL : Nat) (rt : Option FieldType) (n : Nat) : Prop := CB own index y bytes maxL rt n ∧ Cond.methodLink own index y ∈ GW ∧ Cond.instanceMethod y ∈ GW ∧ Cond.selects y.cls y y ∈ GW
def CS (own : String) (index : Nat) (y : MethodName) (bytes : ByteArray) (maxL : Nat) (rt : Option FieldType) (n : Nat) : Prop := CB own index y bytes maxL rt n ∧ Cond.methodLink own index y ∈ GW ∧ Cond.static y ∈ GW
def CN (own : String) (index : Nat) (y : MethodName) (bytes : ByteArray) (maxL : Nat) (rt : Option FieldType) (n : Nat) : Prop := CB own index y bytes maxL rt n ∧ Cond.static y ∈ GW
theorem callB9 {R : Room} {s : State} {args : Array Value} {own : String} {index : Nat} {y : MethodName} {bytes : ByteArray} {maxL : Nat} {rt : Option FieldType} {n fr lc rfr rlc : Nat} (hts : ∀ w ∈ GW, w.before args s = true) (hw : CB own index y bytes maxL rt n) (hl : (Cond.methodLink own index y).before args s = true) (hfr : fr ≤ R.frames) (hlc : lc ≤ R.locals) (hR : rfr + 1 ≤ fr ∧ 19 + maxL + rlc ≤ lc) : CallB R s args own index y bytes maxL rt (.code y bytes maxL rt :: GW) (rmm rfr rlc) 0 0 n :=
  callB_of n hts (gw_cons hw.2.1 gw_good) rfl rfl rfl (hts _ hw.1) hl ⟨hw.2.2.1, hw.2.2.2.1, hw.2.2.2.2⟩ ⟨Nat.le_trans hR.1 hfr, by have := hR.2; have h1 : (rmm rfr rlc).locals = rlc := rfl; omega⟩
section FCALLS
variable {g : Ex} {x : Fx} {cc : ByteArray} {nL fr lc pc : Nat} {ret : Option FieldType} {own : String} {d : DD} {dl : LL} {lo : List (Nat × Value)} {st : List Value}
variable {y : MethodName} {bytes : ByteArray} {maxL n index rfr rlc : Nat} {rt : Option FieldType} {As rest st0 : List Value}
theorem f_callVi (C0 : Cx g x cc nL ret own fr lc) {i ci : Nat} {q : vw_C} {Q : Int32 → DD → LL → Prop} (hM : Mi g y bytes maxL rt rfr rlc (rf g i :: As) d dl Q) (hw : CV own index y bytes maxL rt n) (hi : KD i ci) (hci : ci < 11) (hq : vwCl[ci]? = some q) (hq1 : q.1 = y.cls) (hR : rfr + 1 ≤ fr ∧ 19 + maxL + rlc ≤ lc) (hn : As.length = n) (hst : st0 = As.reverse ++ rf g i :: rest) (hcat : (rest.map fun v => v.category).sum ≤ 8) (hd : decode cc pc = .ok (.invokevirtual index, 3)) (h : ∀ (r : Int32) (d' : DD) (dl' : LL), Q r d' dl' → FW g x nL d' dl' (pc + 3) lo (.int r :: rest)) : FW g x nL d dl pc lo st0 := by
  subst hst
  obtain ⟨⟨p, e, R, s, m⟩, ⟨args, below, meth, c⟩, ⟨A, nc, ns, Z⟩⟩ := x
  obtain ⟨l, dC, dI, ad, cA, sa, sv, vf⟩ := g
  obtain ⟨hx, hb, hr, hml, hown, hts, hlk, hK, hD0, hA, hE, hfr, hlc, hnc, hns⟩ := C0
  intro H locs ls hP hS hl
  obtain ⟨fs, hfs⟩ := kobj hi hci ad cA d dl
  have hFc := AA_sub hD0 hA hS
  refine va_calli (va_runV (C := y.cls) (As := As) (rest := rest) ⟨hx, hb, hml, hown, hts⟩ (hM H.size) ⟨callB9 hts hw.1 (hts _ hw.2.1) hfr hlc hR, hts _ hw.2.2.1, hts _ hw.2.2.2⟩ ⟨FPre.blind, (by rw [← hq1]; exact va_recv hK hP (ci := ci) (q0 := i) hq hfs), (fun U hU hW => ⟨rfl, by rw [hU], by rw [hU]; exact hP, va_K.moved hW.alike hK, AA_Dz _ hD0, by rw [hU]; exact EV.warm hW hS (AA_sub hD0 hA hS) hE⟩)⟩ rfl hn hl.1 rfl (lv_room hcat) hd ⟨hnc, hns⟩) hS (fun q _ h9 => hFc q h9) hFc (fun r u t H1 locs ht hvm hw9 hB hz1 hk1 hS => ?_)
  exact h r u.1 u.2 hw9 H1 locs ls (ht ▸ hB) hS hl
theorem f_callSi (C0 : Cx g x cc nL ret own fr lc) {Q : Int32 → DD → LL → Prop} (hM : Mi g y bytes maxL rt rfr rlc As d dl Q) (hw : CS own index y bytes maxL rt n) (hR : rfr + 1 ≤ fr ∧ 19 + maxL + rlc ≤ lc) (hn : As.length = n) (hst : st0 = As.reverse ++ rest) (hcat : (rest.map fun v => v.category).sum ≤ 8) (hd : decode cc pc = .ok (.invokestatic index, 3)) (h : ∀ (r : Int32) (d' : DD) (dl' : LL), Q r d' dl' → FW g x nL d' dl' (pc + 3) lo (.int r :: rest)) : FW g x nL d dl pc lo st0 := by
  subst hst
  obtain ⟨⟨p, e, R, s, m⟩, ⟨args, below, meth, c⟩, ⟨A, nc, ns, Z⟩⟩ := x
  obtain ⟨l, dC, dI, ad, cA, sa, sv, vf⟩ := g
  obtain ⟨hx, hb, hr, hml, hown, hts, hlk, hK, hD0, hA, hE, hfr, hlc, hnc, hns⟩ := C0
  intro H locs ls hP hS hl
  have hFc := AA_sub hD0 hA hS
  refine va_calli (va_runS (As := As) (rest := rest) ⟨hx, hb, hml, hown, hts⟩ (hM H.size) ⟨callB9 hts hw.1 (hts _ hw.2.1) hfr hlc hR, hts _ hw.2.2⟩ ⟨FPre.blind, (fun U hU hW => ⟨rfl, by rw [hU], by rw [hU]; exact hP, va_K.moved hW.alike hK, AA_Dz _ hD0, by rw [hU]; exact EV.warm hW hS (AA_sub hD0 hA hS) hE⟩)⟩ rfl hn hl.1 rfl (lv_room hcat) hd ⟨hnc, hns⟩) hS (fun q _ h9 => hFc q h9) hFc (fun r u t H1 locs ht hvm hw9 hB hz1 hk1 hS => ?_)
  exact h r u.1 u.2 hw9 H1 locs ls (ht ▸ hB) hS hl
theorem f_callNi (C0 : Cx g x cc nL ret own fr lc) {Q : Int32 → DD → LL → Prop} (hM : Mi g y bytes maxL rt rfr rlc As d dl Q) (hw : CN own index y bytes maxL rt n) (hnw : ∀ U : State, EVn U → va_Nw (.methodLinkNest own index y RX9) U) (hR : rfr + 1 ≤ fr ∧ 19 + maxL + rlc ≤ lc) (hn : As.length = n) (hst : st0 = As.reverse ++ rest) (hcat : (rest.map fun v => v.category).sum ≤ 8) (hd : decode cc pc = .ok (.invokestatic index, 3)) (h : ∀ (r : Int32) (d' : DD) (dl' : LL), Q r d' dl' → FW g x nL d' dl' (pc + 3) lo (.int r :: rest)) : FW g x nL d dl pc lo st0 := by
  subst hst
  obtain ⟨⟨p, e, R, s, m⟩, ⟨args, below, meth, c⟩, ⟨A, nc, ns, Z⟩⟩ := x
  obtain ⟨l, dC, dI, ad, cA, sa, sv, vf⟩ := g
  obtain ⟨hx, hb, hr, hml, hown, hts, hlk, hK, hD0, hA, hE, hfr, hlc, hnc, hns⟩ := C0
  intro H locs ls hP hS hl
  have hFc := AA_sub hD0 hA hS
  refine va_calli (va_runSN (As := As) (rest := rest) ⟨hx, hb, hml, hown, hts⟩ (hM H.size) ⟨va_cnB n hts (gw_cons hw.1.2.1 gw_good) rfl rfl rfl (hnw s hE.2.2.1) (hts _ hw.1.1) ⟨hw.1.2.2.1, hw.1.2.2.2.1, hw.1.2.2.2.2⟩ ⟨Nat.le_trans hR.1 hfr, by have := hR.2; have h1 : (rmm rfr rlc).locals = rlc := rfl; omega⟩, hts _ hw.2, trivial⟩ ⟨FPre.blind, (fun U hU hW => ⟨rfl, by rw [hU], by rw [hU]; exact hP, va_K.moved hW.alike hK, AA_Dz _ hD0, by rw [hU]; exact EV.warm hW hS (AA_sub hD0 hA hS) hE⟩)⟩ rfl hn hl.1 rfl (lv_room hcat) hd ⟨hnc, hns⟩) hS (fun q _ h9 => hFc q h9) hFc (fun r u t H1 locs ht hvm hw9 hB hz1 hk1 hS => ?_)
  exact h r u.1 u.2 hw9 H1 locs ls (ht ▸ hB) hS hl
theorem f_callTi (C0 : Cx g x cc nL ret own fr lc) {w : Nat} {Q : Int32 → DD → LL → Prop} (hM : Mi g y bytes maxL rt rfr rlc (rs g w :: As) d dl Q) (hw : CV own index y bytes maxL rt n) (hi : w < 19) (hq1 : "java/lang/String" = y.cls) (hR : rfr + 1 ≤ fr ∧ 19 + maxL + rlc ≤ lc) (hn : As.length = n) (hst : st0 = As.reverse ++ rs g w :: rest) (hcat : (rest.map fun v => v.category).sum ≤ 8) (hd : decode cc pc = .ok (.invokevirtual index, 3)) (h : ∀ (r : Int32) (d' : DD) (dl' : LL), Q r d' dl' → FW g x nL d' dl' (pc + 3) lo (.int r :: rest)) : FW g x nL d dl pc lo st0 := by
  subst hst
  obtain ⟨⟨p, e, R, s, m⟩, ⟨args, below, meth, c⟩, ⟨A, nc, ns, Z⟩⟩ := x
  obtain ⟨l, dC, dI, ad, cA, sa, sv, vf⟩ := g
  obtain ⟨hx, hb, hr, hml, hown, hts, hlk, hK, hD0, hA, hE, hfr, hlc, hnc, hns⟩ := C0
  intro H locs ls hP hS hl
  have hFc := AA_sub hD0 hA hS
  refine va_calli (va_runV (C := y.cls) (As := As) (rest := rest) ⟨hx, hb, hml, hown, hts⟩ (hM H.size) ⟨callB9 hts hw.1 (hts _ hw.2.1) hfr hlc hR, hts _ hw.2.2.1, hts _ hw.2.2.2⟩ ⟨FPre.blind, (by rw [← hq1]; exact va_Orecv (hE.1 w hi).1 hS), (fun U hU hW => ⟨rfl, by rw [hU], by rw [hU]; exact hP, va_K.moved hW.alike hK, AA_Dz _ hD0, by rw [hU]; exact EV.warm hW hS (AA_sub hD0 hA hS) hE⟩)⟩ rfl hn hl.1 rfl (lv_room hcat) hd ⟨hnc, hns⟩) hS (fun q _ h9 => hFc q h9) hFc (fun r u t H1 locs ht hvm hw9 hB hz1 hk1 hS => ?_)
  exact h r u.1 u.2 hw9 H1 locs ls (ht ▸ hB) hS hl
theorem f_callVl (C0 : Cx g x cc nL ret own fr lc) {i ci : Nat} {q : vw_C} {Q : Int64 → DD → LL → Prop} (hM : Ml g y bytes maxL rt rfr rlc (rf g i :: As) d dl Q) (hw : CV own index y bytes maxL rt n) (hi : KD i ci) (hci : ci < 11) (hq : vwCl[ci]? = some q) (hq1 : q.1 = y.cls) (hR : rfr + 1 ≤ fr ∧ 19 + maxL + rlc ≤ lc) (hn : As.length = n) (hst : st0 = As.reverse ++ rf g i :: rest) (hcat : (rest.map fun v => v.category).sum ≤ 8) (hd : decode cc pc = .ok (.invokevirtual index, 3)) (h : ∀ (r : Int64) (d' : DD) (dl' : LL), Q r d' dl' → FW g x nL d' dl' (pc + 3) lo (.long r :: rest)) : FW g x nL d dl pc lo st0 := by
  subst hst
  obtain ⟨⟨p, e, R, s, m⟩, ⟨args, below, meth, c⟩, ⟨A, nc, ns, Z⟩⟩ := x
  obtain ⟨l, dC, dI, ad, cA, sa, sv, vf⟩ := g
  obtain ⟨hx, hb, hr, hml, hown, hts, hlk, hK, hD0, hA, hE, hfr, hlc, hnc, hns⟩ := C0
  intro H locs ls hP hS hl
  obtain ⟨fs, hfs⟩ := kobj hi hci ad cA d dl
  have hFc := AA_sub hD0 hA hS
  refine va_calll (va_runV (C := y.cls) (As := As) (rest := rest) ⟨hx, hb, hml, hown, hts⟩ (hM H.size) ⟨callB9 hts hw.1 (hts _ hw.2.1) hfr hlc hR, hts _ hw.2.2.1, hts _ hw.2.2.2⟩ ⟨FPre.blind, (by rw [← hq1]; exact va_recv hK hP (ci := ci) (q0 := i) hq hfs), (fun U hU hW => ⟨rfl, by rw [hU], by rw [hU]; exact hP, va_K.moved hW.alike hK, AA_Dz _ hD0, by rw [hU]; exact EV.warm hW hS (AA_sub hD0 hA hS) hE⟩)⟩ rfl hn hl.1 rfl (lv_room hcat) hd ⟨hnc, hns⟩) hS (fun q _ h9 => hFc q h9) hFc (fun r u t H1 locs ht hvm hw9 hB hz1 hk1 hS => ?_)
  exact h r u.1 u.2 hw9 H1 locs ls (ht ▸ hB) hS hl
theorem f_callSl (C0 : Cx g x cc nL ret own fr lc) {Q : Int64 → DD → LL → Prop} (hM : Ml g y bytes maxL rt rfr rlc As d dl Q) (hw : CS own index y bytes maxL rt n) (hR : rfr + 1 ≤ fr ∧ 19 + maxL + rlc ≤ lc) (hn : As.length = n) (hst : st0 = As.reverse ++ rest) (hcat : (rest.map fun v => v.category).sum ≤ 8) (hd : decode cc pc = .ok (.invokestatic index, 3)) (h : ∀ (r : Int64) (d' : DD) (dl' : LL), Q r d' dl' → FW g x nL d' dl' (pc + 3) lo (.long r :: rest)) : FW g x nL d dl pc lo st0 := by
  subst hst
  obtain ⟨⟨p, e, R, s, m⟩, ⟨args, below, meth, c⟩, ⟨A, nc, ns, Z⟩⟩ := x
  obtain ⟨l, dC, dI, ad, cA, sa, sv, vf⟩ := g
  obtain ⟨hx, hb, hr, hml, hown, hts, hlk, hK, hD0, hA, hE, hfr, hlc, hnc, hns⟩ := C0
  intro H locs ls hP hS hl
  have hFc := AA_sub hD0 hA hS
  refine va_calll (va_runS (As := As) (rest := rest) ⟨hx, hb, hml, hown, hts⟩ (hM H.size) ⟨callB9 hts hw.1 (hts _ hw.2.1) hfr hlc hR, hts _ hw.2.2⟩ ⟨FPre.blind, (fun U hU hW => ⟨rfl, by rw [hU], by rw [hU]; exact hP, va_K.moved hW.alike hK, AA_Dz _ hD0, by rw [hU]; exact EV.warm hW hS (AA_sub hD0 hA hS) hE⟩)⟩ rfl hn hl.1 rfl (lv_room hcat) hd ⟨hnc, hns⟩) hS (fun q _ h9 => hFc q h9) hFc (fun r u t H1 locs ht hvm hw9 hB hz1 hk1 hS => ?_)
  exact h r u.1 u.2 hw9 H1 locs ls (ht ▸ hB) hS hl
theorem f_callVv (C0 : Cx g x cc nL ret own fr lc) {i ci : Nat} {q : vw_C} {Q : DD → LL → Prop} (hM : Mv g y bytes maxL rt rfr rlc (rf g i :: As) d dl Q) (hw : CV own index y bytes maxL rt n) (hi : KD i ci) (hci : ci < 11) (hq : vwCl[ci]? = some q) (hq1 : q.1 = y.cls) (hR : rfr + 1 ≤ fr ∧ 19 + maxL + rlc ≤ lc) (hn : As.length = n) (hst : st0 = As.reverse ++ rf g i :: rest) (hcat : (rest.map fun v => v.category).sum ≤ 8) (hd : decode cc pc = .ok (.invokevirtual index, 3)) (h : ∀ (d' : DD) (dl' : LL), Q d' dl' → FW g x nL d' dl' (pc + 3) lo rest) : FW g x nL d dl pc lo st0 := by
  subst hst
  obtain ⟨⟨p, e, R, s, m⟩, ⟨args, below, meth, c⟩, ⟨A, nc, ns, Z⟩⟩ := x
  obtain ⟨l, dC, dI, ad, cA, sa, sv, vf⟩ := g
  obtain ⟨hx, hb, hr, hml, hown, hts, hlk, hK, hD0, hA, hE, hfr, hlc, hnc, hns⟩ := C0
  intro H locs ls hP hS hl
  obtain ⟨fs, hfs⟩ := kobj hi hci ad cA d dl
  have hFc := AA_sub hD0 hA hS
  refine va_callv (va_runV (C := y.cls) (As := As) (rest := rest) ⟨hx, hb, hml, hown, hts⟩ (hM H.size) ⟨callB9 hts hw.1 (hts _ hw.2.1) hfr hlc hR, hts _ hw.2.2.1, hts _ hw.2.2.2⟩ ⟨FPre.blind, (by rw [← hq1]; exact va_recv hK hP (ci := ci) (q0 := i) hq hfs), (fun U hU hW => ⟨rfl, by rw [hU], by rw [hU]; exact hP, va_K.moved hW.alike hK, AA_Dz _ hD0, by rw [hU]; exact EV.warm hW hS (AA_sub hD0 hA hS) hE⟩)⟩ rfl hn hl.1 rfl (lv_room hcat) hd ⟨hnc, hns⟩) hS (fun q _ h9 => hFc q h9) hFc (fun u t H1 locs ht hvm hw9 hB hz1 hk1 hS => ?_)
  exact h u.1 u.2 hw9 H1 locs ls (ht ▸ hB) hS hl
theorem f_callSv (C0 : Cx g x cc nL ret own fr lc) {Q : DD → LL → Prop} (hM : Mv g y bytes maxL rt rfr rlc As d dl Q) (hw : CS own index y bytes maxL rt n) (hR : rfr + 1 ≤ fr ∧ 19 + maxL + rlc ≤ lc) (hn : As.length = n) (hst : st0 = As.reverse ++ rest) (hcat : (rest.map fun v => v.category).sum ≤ 8) (hd : decode cc pc = .ok (.invokestatic index, 3)) (h : ∀ (d' : DD) (dl' : LL), Q d' dl' → FW g x nL d' dl' (pc + 3) lo rest) : FW g x nL d dl pc lo st0 := by
  subst hst
  obtain ⟨⟨p, e, R, s, m⟩, ⟨args, below, meth, c⟩, ⟨A, nc, ns, Z⟩⟩ := x
  obtain ⟨l, dC, dI, ad, cA, sa, sv, vf⟩ := g
  obtain ⟨hx, hb, hr, hml, hown, hts, hlk, hK, hD0, hA, hE, hfr, hlc, hnc, hns⟩ := C0
  intro H locs ls hP hS hl
  have hFc := AA_sub hD0 hA hS
  refine va_callv (va_runS (As := As) (rest := rest) ⟨hx, hb, hml, hown, hts⟩ (hM H.size) ⟨callB9 hts hw.1 (hts _ hw.2.1) hfr hlc hR, hts _ hw.2.2⟩ ⟨FPre.blind, (fun U hU hW => ⟨rfl, by rw [hU], by rw [hU]; exact hP, va_K.moved hW.alike hK, AA_Dz _ hD0, by rw [hU]; exact EV.warm hW hS (AA_sub hD0 hA hS) hE⟩)⟩ rfl hn hl.1 rfl (lv_room hcat) hd ⟨hnc, hns⟩) hS (fun q _ h9 => hFc q h9) hFc (fun u t H1 locs ht hvm hw9 hB hz1 hk1 hS => ?_)
  exact h u.1 u.2 hw9 H1 locs ls (ht ▸ hB) hS hl
theorem f_callSr (C0 : Cx g x cc nL ret own fr lc) {Q : Nat → DD → LL → Prop} (hM : Mr g y bytes maxL rt rfr rlc As d dl Q) (hw : CS own index y bytes maxL rt n) (hR : rfr + 1 ≤ fr ∧ 19 + maxL + rlc ≤ lc) (hn : As.length = n) (hst : st0 = As.reverse ++ rest) (hcat : (rest.map fun v => v.category).sum ≤ 8) (hd : decode cc pc = .ok (.invokestatic index, 3)) (h : ∀ (r : Nat) (d' : DD) (dl' : LL), Q r d' dl' → FW g x nL d' dl' (pc + 3) lo (rs g r :: rest)) : FW g x nL d dl pc lo st0 := by
  subst hst
  obtain ⟨⟨p, e, R, s, m⟩, ⟨args, below, meth, c⟩, ⟨A, nc, ns, Z⟩⟩ := x
  obtain ⟨l, dC, dI, ad, cA, sa, sv, vf⟩ := g
  obtain ⟨hx, hb, hr, hml, hown, hts, hlk, hK, hD0, hA, hE, hfr, hlc, hnc, hns⟩ := C0
  intro H locs ls hP hS hl
  have hFc := AA_sub hD0 hA hS
  refine va_callr (va_runS (As := As) (rest := rest) ⟨hx, hb, hml, hown, hts⟩ (hM H.size) ⟨callB9 hts hw.1 (hts _ hw.2.1) hfr hlc hR, hts _ hw.2.2⟩ ⟨FPre.blind, (fun U hU hW => ⟨rfl, by rw [hU], by rw [hU]; exact hP, va_K.moved hW.alike hK, AA_Dz _ hD0, by rw [hU]; exact EV.warm hW hS (AA_sub hD0 hA hS) hE⟩)⟩ rfl hn hl.1 rfl (lv_room hcat) hd ⟨hnc, hns⟩) hS (fun q _ h9 => hFc q h9) hFc (fun u ra t H1 locs ht hvm hw9 hB hz1 hk1 hS => ?_)
  obtain ⟨rfl, hB⟩ := hB
  exact h u.1 u.2.1 u.2.2 hw9 H1 locs ls (ht ▸ hB) hS hl
theorem f_mmax (C0 : Cx g x cc nL ret own fr lc) {u v : Int32} (w1 : Cond.methodLink own index Lib.Math.max.name ∈ GW) (w2 : Cond.static Lib.Math.max.name ∈ GW) (w3 : Cond.initialized "java/lang/Math" ∈ GW) (w4 : Cond.code Lib.Math.max.name Lib.Math.max.code 2 (some .int) ∈ GW) (hR : 1 ≤ fr ∧ (st.map fun v => v.category).sum + 13 ≤ lc) (hd : decode cc pc = .ok (.invokestatic index, 3)) (h : FW g x nL d dl (pc + 3) lo (.int (if u < v then v else u) :: st)) : FW g x nL d dl pc lo (.int v :: .int u :: st) := by
  obtain ⟨⟨p, e, R, s, m⟩, ⟨args, below, meth, c⟩, ⟨A, nc, ns, Z⟩⟩ := x
  obtain ⟨l, dC, dI, ad, cA, sa, sv, vf⟩ := g
  obtain ⟨hx, hb, hr, hml, hown, hts, hlk, hK, hD0, hA, hE, hfr, hlc, hnc, hns⟩ := C0
  intro H locs ls hP hS hl
  exact va_mmax hx hb (by rw [hml]; exact hl.1.symm) hown (hts _ w1) (hts _ w2) (hts _ w3) (hts _ w4) (Nat.le_trans hR.1 hfr) (Nat.le_trans hR.2 hlc) hnc hns hd (h H locs ls hP hS hl)
theorem f_mmin (C0 : Cx g x cc nL ret own fr lc) {u v : Int32} (w1 : Cond.methodLink own index Lib.Math.min.name ∈ GW) (w2 : Cond.static Lib.Math.min.name ∈ GW) (w3 : Cond.initialized "java/lang/Math" ∈ GW) (w4 : Cond.code Lib.Math.min.name Lib.Math.min.code 2 (some .int) ∈ GW) (hR : 1 ≤ fr ∧ (st.map fun v => v.category).sum + 13 ≤ lc) (hd : decode cc pc = .ok (.invokestatic index, 3)) (h : FW g x nL d dl (pc + 3) lo (.int (if v < u then v else u) :: st)) : FW g x nL d dl pc lo (.int v :: .int u :: st) := by
  obtain ⟨⟨p, e, R, s, m⟩, ⟨args, below, meth, c⟩, ⟨A, nc, ns, Z⟩⟩ := x
  obtain ⟨l, dC, dI, ad, cA, sa, sv, vf⟩ := g
  obtain ⟨hx, hb, hr, hml, hown, hts, hlk, hK, hD0, hA, hE, hfr, hlc, hnc, hns⟩ := C0
  intro H locs ls hP hS hl
  exact va_mmin hx hb (by rw [hml]; exact hl.1.symm) hown (hts _ w1) (hts _ w2) (hts _ w3) (hts _ w4) (Nat.le_trans hR.1 hfr) (Nat.le_trans hR.2 hlc) hnc hns hd (h H locs ls hP hS hl)
theorem f_mabs (C0 : Cx g x cc nL ret own fr lc) {u v : Int32} (w1 : Cond.methodLink own index Lib.Math.abs.name ∈ GW) (w2 : Cond.static Lib.Math.abs.name ∈ GW) (w3 : Cond.initialized "java/lang/Math" ∈ GW) (w4 : Cond.code Lib.Math.abs.name Lib.Math.abs.code 1 (some .int) ∈ GW) (hR : 1 ≤ fr ∧ (st.map fun v => v.category).sum + 13 ≤ lc) (hd : decode cc pc = .ok (.invokestatic index, 3)) (h : FW g x nL d dl (pc + 3) lo (.int (if 0 ≤ u then u else -u) :: st)) : FW g x nL d dl pc lo (.int u :: st) := by
  obtain ⟨⟨p, e, R, s, m⟩, ⟨args, below, meth, c⟩, ⟨A, nc, ns, Z⟩⟩ := x
  obtain ⟨l, dC, dI, ad, cA, sa, sv, vf⟩ := g
  obtain ⟨hx, hb, hr, hml, hown, hts, hlk, hK, hD0, hA, hE, hfr, hlc, hnc, hns⟩ := C0
  intro H locs ls hP hS hl
  exact va_mabs hx hb (by rw [hml]; exact hl.1.symm) hown (hts _ w1) (hts _ w2) (hts _ w3) (hts _ w4) (Nat.le_trans hR.1 hfr) (Nat.le_trans hR.2 hlc) hnc hns hd (h H locs ls hP hS hl)
theorem f_mabsl (C0 : Cx g x cc nL ret own fr lc) {u : Int64} (w1 : Cond.methodLink own index Lib.MathLoose.abs_long.x ∈ GW) (w2 : Cond.static Lib.MathLoose.abs_long.x ∈ GW) (w3 : Cond.initialized "java/lang/Math" ∈ GW) (w4 : Cond.code Lib.MathLoose.abs_long.x Lib.MathLoose.abs_long.code 2 (some .long) ∈ GW) (hR : 1 ≤ fr ∧ (st.map fun v => v.category).sum + 13 ≤ lc) (hd : decode cc pc = .ok (.invokestatic index, 3)) (h : FW g x nL d dl (pc + 3) lo (.long (if 0 < u then u else -u) :: st)) : FW g x nL d dl pc lo (.long u :: st) := by
  obtain ⟨⟨p, e, R, s, m⟩, ⟨args, below, meth, c⟩, ⟨A, nc, ns, Z⟩⟩ := x
  obtain ⟨l, dC, dI, ad, cA, sa, sv, vf⟩ := g
  obtain ⟨hx, hb, hr, hml, hown, hts, hlk, hK, hD0, hA, hE, hfr, hlc, hnc, hns⟩ := C0
  intro H locs ls hP hS hl
  exact va_mabs_long hx hb (by rw [hml]; exact hl.1.symm) hown (hts _ w1) (hts _ w2) (hts _ w3) (hts _ w4) (Nat.le_trans hR.1 hfr) (Nat.le_trans hR.2 hlc) hnc hns hd (h H locs ls hP hS hl)
end FCALLS
end
