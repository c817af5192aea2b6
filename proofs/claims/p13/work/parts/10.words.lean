set_option maxRecDepth 100000 in
theorem mw_0 : Cond.selects RX9 yX9_isCrew yX9_isCrew ∈ GW := gw_of (lwt_0 (List.mem_of_getElem? (i := 0) rfl)) (by decide +kernel)
set_option maxRecDepth 100000 in
theorem mw_1 : Cond.selects RX6 yX6_loadMembers yX6_loadMembers ∈ GW := gw_of (lwt_0 (List.mem_of_getElem? (i := 1) rfl)) (by decide +kernel)
set_option maxRecDepth 100000 in
theorem mw_2 : Cond.selects RX6 yX6_loadBounds yX6_loadBounds ∈ GW := gw_of (lwt_0 (List.mem_of_getElem? (i := 2) rfl)) (by decide +kernel)
set_option maxRecDepth 100000 in
theorem mw_3 : Cond.selects RX6 yX6_leastFrom yX6_leastFrom ∈ GW := gw_of (lwt_0 (List.mem_of_getElem? (i := 3) rfl)) (by decide +kernel)
set_option maxRecDepth 100000 in
theorem mw_4 : Cond.selects RX6 yX6_keepChosen yX6_keepChosen ∈ GW := gw_of (lwt_0 (List.mem_of_getElem? (i := 4) rfl)) (by decide +kernel)
set_option maxRecDepth 100000 in
theorem mw_5 : Cond.selects RX6 yX6_gainOf yX6_gainOf ∈ GW := gw_of (lwt_0 (List.mem_of_getElem? (i := 5) rfl)) (by decide +kernel)
set_option maxRecDepth 100000 in
theorem mw_6 : Cond.selects RX7 yX7_readTest yX7_readTest ∈ GW := gw_of (lwt_0 (List.mem_of_getElem? (i := 6) rfl)) (by decide +kernel)
set_option maxRecDepth 100000 in
theorem mw_7 : Cond.selects RX7 yX7_readWord yX7_readWord ∈ GW := gw_of (lwt_0 (List.mem_of_getElem? (i := 7) rfl)) (by decide +kernel)
set_option maxRecDepth 100000 in
theorem mw_8 : Cond.selects RX7 yX7_peek yX7_peek ∈ GW := gw_of (lwt_0 (List.mem_of_getElem? (i := 8) rfl)) (by decide +kernel)
set_option maxRecDepth 100000 in
theorem mw_9 : Cond.selects RX7 yX7_readBlank yX7_readBlank ∈ GW := gw_of (lwt_0 (List.mem_of_getElem? (i := 9) rfl)) (by decide +kernel)
set_option maxRecDepth 100000 in
theorem mw_10 : Cond.selects RX7 yX7_readSign yX7_readSign ∈ GW := gw_of (lwt_0 (List.mem_of_getElem? (i := 10) rfl)) (by decide +kernel)
set_option maxRecDepth 100000 in
theorem mw_11 : Cond.selects RX7 yX7_readNumber yX7_readNumber ∈ GW := gw_of (lwt_0 (List.mem_of_getElem? (i := 11) rfl)) (by decide +kernel)
set_option maxRecDepth 100000 in
theorem mw_12 : Cond.selects RX7 yX7_readJoint yX7_readJoint ∈ GW := gw_of (lwt_0 (List.mem_of_getElem? (i := 12) rfl)) (by decide +kernel)
set_option maxRecDepth 100000 in
theorem mw_13 : Cond.selects RX9 yX9_tallySeated yX9_tallySeated ∈ GW := gw_of (lwt_0 (List.mem_of_getElem? (i := 13) rfl)) (by decide +kernel)
set_option maxRecDepth 100000 in
theorem mw_14 : Cond.selects RX5 yX5_testHolds yX5_testHolds ∈ GW := gw_of (lwt_0 (List.mem_of_getElem? (i := 14) rfl)) (by decide +kernel)
set_option maxRecDepth 100000 in
theorem mw_15 : Cond.selects RX9 yX9_isMetByOneOf yX9_isMetByOneOf ∈ GW := gw_of (lwt_0 (List.mem_of_getElem? (i := 15) rfl)) (by decide +kernel)
set_option maxRecDepth 100000 in
theorem mw_16 : Cond.selects RX9 yX9_howManyWait yX9_howManyWait ∈ GW := gw_of (lwt_0 (List.mem_of_getElem? (i := 16) rfl)) (by decide +kernel)
set_option maxRecDepth 100000 in
theorem mw_17 : Cond.selects RX9 yX9_firstBarring yX9_firstBarring ∈ GW := gw_of (lwt_0 (List.mem_of_getElem? (i := 17) rfl)) (by decide +kernel)
set_option maxRecDepth 100000 in
theorem mw_18 : Cond.selects RX9 yX9_racesMeet yX9_racesMeet ∈ GW := gw_of (lwt_0 (List.mem_of_getElem? (i := 18) rfl)) (by decide +kernel)
set_option maxRecDepth 100000 in
theorem mw_19 : Cond.selects RX9 yX9_isRace yX9_isRace ∈ GW := gw_of (lwt_0 (List.mem_of_getElem? (i := 19) rfl)) (by decide +kernel)
set_option maxRecDepth 100000 in
theorem mw_20 : Cond.selects RX9 yX9_goDown yX9_goDown ∈ GW := gw_of (lwt_0 (List.mem_of_getElem? (i := 20) rfl)) (by decide +kernel)
set_option maxRecDepth 100000 in
theorem mw_21 : Cond.selects RX2 yX2_addHeat yX2_addHeat ∈ GW := gw_of (lwt_0 (List.mem_of_getElem? (i := 21) rfl)) (by decide +kernel)
set_option maxRecDepth 100000 in
theorem mw_22 : Cond.selects RX2 yX2_fasterOthers yX2_fasterOthers ∈ GW := gw_of (lwt_0 (List.mem_of_getElem? (i := 22) rfl)) (by decide +kernel)
set_option maxRecDepth 100000 in
theorem mw_23 : Cond.selects RX2 yX2_putInOrder yX2_putInOrder ∈ GW := gw_of (lwt_0 (List.mem_of_getElem? (i := 23) rfl)) (by decide +kernel)
set_option maxRecDepth 100000 in
theorem mw_24 : Cond.selects RX2 yX2_chosenAheadOf yX2_chosenAheadOf ∈ GW := gw_of (lwt_0 (List.mem_of_getElem? (i := 24) rfl)) (by decide +kernel)
set_option maxRecDepth 100000 in
theorem mw_25 : Cond.selects RX9 yX9_leastTimeIn yX9_leastTimeIn ∈ GW := gw_of (lwt_0 (List.mem_of_getElem? (i := 25) rfl)) (by decide +kernel)
set_option maxRecDepth 100000 in
theorem mw_26 : Cond.selects RX9 yX9_pointsOf yX9_pointsOf ∈ GW := gw_of (lwt_0 (List.mem_of_getElem? (i := 26) rfl)) (by decide +kernel)
set_option maxRecDepth 100000 in
theorem mw_27 : Cond.selects RX9 yX9_crewsAheadOf yX9_crewsAheadOf ∈ GW := gw_of (lwt_0 (List.mem_of_getElem? (i := 27) rfl)) (by decide +kernel)
set_option maxRecDepth 100000 in
theorem mw_28 : Cond.selects RX9 yX9_howManyAreSeated yX9_howManyAreSeated ∈ GW := gw_of (lwt_0 (List.mem_of_getElem? (i := 28) rfl)) (by decide +kernel)
set_option maxRecDepth 100000 in
theorem mw_29 : Cond.selects RX9 yX9_howManyTimes yX9_howManyTimes ∈ GW := gw_of (lwt_0 (List.mem_of_getElem? (i := 29) rfl)) (by decide +kernel)
set_option maxRecDepth 100000 in
theorem mw_30 : Cond.selects RX10 yX10_isPaddler yX10_isPaddler ∈ GW := gw_of (lwt_0 (List.mem_of_getElem? (i := 30) rfl)) (by decide +kernel)
set_option maxRecDepth 100000 in
theorem mw_31 : Cond.selects RX10 yX10_isCrew yX10_isCrew ∈ GW := gw_of (lwt_0 (List.mem_of_getElem? (i := 31) rfl)) (by decide +kernel)
set_option maxRecDepth 100000 in
theorem mw_32 : Cond.selects RX10 yX10_isMember yX10_isMember ∈ GW := gw_of (lwt_0 (List.mem_of_getElem? (i := 32) rfl)) (by decide +kernel)
set_option maxRecDepth 100000 in
theorem mw_33 : Cond.selects RX10 yX10_fits yX10_fits ∈ GW := gw_of (lwt_0 (List.mem_of_getElem? (i := 33) rfl)) (by decide +kernel)
set_option maxRecDepth 100000 in
theorem mw_34 : Cond.selects RX10 yX10_tilt yX10_tilt ∈ GW := gw_of (lwt_0 (List.mem_of_getElem? (i := 34) rfl)) (by decide +kernel)
set_option maxRecDepth 100000 in
theorem mw_35 : Cond.selects RX10 yX10_trims yX10_trims ∈ GW := gw_of (lwt_0 (List.mem_of_getElem? (i := 35) rfl)) (by decide +kernel)
set_option maxRecDepth 100000 in
theorem mw_36 : Cond.selects RX10 yX10_test yX10_test ∈ GW := gw_of (lwt_0 (List.mem_of_getElem? (i := 36) rfl)) (by decide +kernel)
set_option maxRecDepth 100000 in
theorem mw_37 : Cond.selects RX10 yX10_now yX10_now ∈ GW := gw_of (lwt_0 (List.mem_of_getElem? (i := 37) rfl)) (by decide +kernel)
set_option maxRecDepth 100000 in
theorem mw_38 : Cond.selects RX10 yX10_expect yX10_expect ∈ GW := gw_of (lwt_0 (List.mem_of_getElem? (i := 38) rfl)) (by decide +kernel)
set_option maxRecDepth 100000 in
theorem mw_39 : Cond.selects RX10 yX10_field yX10_field ∈ GW := gw_of (lwt_0 (List.mem_of_getElem? (i := 39) rfl)) (by decide +kernel)
set_option maxRecDepth 100000 in
theorem mw_40 : Cond.selects RX10 yX10_haveCommon yX10_haveCommon ∈ GW := gw_of (lwt_0 (List.mem_of_getElem? (i := 40) rfl)) (by decide +kernel)
set_option maxRecDepth 100000 in
theorem mw_41 : Cond.selects RX10 yX10_isRace yX10_isRace ∈ GW := gw_of (lwt_0 (List.mem_of_getElem? (i := 41) rfl)) (by decide +kernel)
set_option maxRecDepth 100000 in
theorem mw_42 : Cond.selects RX10 yX10_goes yX10_goes ∈ GW := gw_of (lwt_0 (List.mem_of_getElem? (i := 42) rfl)) (by decide +kernel)
set_option maxRecDepth 100000 in
theorem mw_43 : Cond.selects RX10 yX10_isIn yX10_isIn ∈ GW := gw_of (lwt_0 (List.mem_of_getElem? (i := 43) rfl)) (by decide +kernel)
set_option maxRecDepth 100000 in
theorem mw_44 : Cond.selects RX10 yX10_place yX10_place ∈ GW := gw_of (lwt_0 (List.mem_of_getElem? (i := 44) rfl)) (by decide +kernel)
set_option maxRecDepth 100000 in
theorem mw_45 : Cond.selects RX10 yX10_leastTime yX10_leastTime ∈ GW := gw_of (lwt_0 (List.mem_of_getElem? (i := 45) rfl)) (by decide +kernel)
set_option maxRecDepth 100000 in
theorem mw_46 : Cond.selects RX10 yX10_pointsOf yX10_pointsOf ∈ GW := gw_of (lwt_0 (List.mem_of_getElem? (i := 46) rfl)) (by decide +kernel)
set_option maxRecDepth 100000 in
theorem mw_48 : Cond.initialized RX9 ∈ GW := gw_of (lwt_1 (List.mem_of_getElem? (i := 1) rfl)) (by decide +kernel)
set_option maxRecDepth 100000 in
theorem mw_49 : Cond.initialized RX4 ∈ GW := gw_of (lwt_1 (List.mem_of_getElem? (i := 2) rfl)) (by decide +kernel)
set_option maxRecDepth 100000 in
theorem mw_50 : Cond.initialized RX8 ∈ GW := gw_of (lwt_1 (List.mem_of_getElem? (i := 3) rfl)) (by decide +kernel)
set_option maxRecDepth 100000 in
theorem mw_51 : Cond.initialized RX6 ∈ GW := gw_of (lwt_1 (List.mem_of_getElem? (i := 4) rfl)) (by decide +kernel)
set_option maxRecDepth 100000 in
theorem mw_52 : Cond.initialized RX7 ∈ GW := gw_of (lwt_1 (List.mem_of_getElem? (i := 5) rfl)) (by decide +kernel)
set_option maxRecDepth 100000 in
theorem mw_53 : Cond.initialized RX0 ∈ GW := gw_of (lwt_1 (List.mem_of_getElem? (i := 6) rfl)) (by decide +kernel)
set_option maxRecDepth 100000 in
theorem mw_54 : Cond.initialized RX2 ∈ GW := gw_of (lwt_1 (List.mem_of_getElem? (i := 7) rfl)) (by decide +kernel)
set_option maxRecDepth 100000 in
theorem mw_55 : Cond.initialized RX1 ∈ GW := gw_of (lwt_1 (List.mem_of_getElem? (i := 8) rfl)) (by decide +kernel)
set_option maxRecDepth 100000 in
theorem mw_56 : Cond.initialized RX5 ∈ GW := gw_of (lwt_1 (List.mem_of_getElem? (i := 9) rfl)) (by decide +kernel)
set_option maxRecDepth 100000 in
theorem mw_57 : Cond.initialized RX3 ∈ GW := gw_of (lwt_1 (List.mem_of_getElem? (i := 10) rfl)) (by decide +kernel)
set_option maxRecDepth 100000 in
theorem mw_58 : Cond.initialized RX10 ∈ GW := gw_of (lwt_1 (List.mem_of_getElem? (i := 11) rfl)) (by decide +kernel)
set_option maxRecDepth 100000 in
theorem mw_59 : Cond.initialized "java/lang/Math" ∈ GW := gw_of (lwt_1 (List.mem_of_getElem? (i := 12) rfl)) (by decide +kernel)
set_option maxRecDepth 100000 in
theorem mw_60 : Cond.initialized RJ0 ∈ GW := gw_of (lwt_1 (List.mem_of_getElem? (i := 13) rfl)) (by decide +kernel)
set_option maxRecDepth 100000 in
theorem mw_61 : Cond.initialized RJ1 ∈ GW := gw_of (lwt_1 (List.mem_of_getElem? (i := 14) rfl)) (by decide +kernel)
set_option maxRecDepth 100000 in
theorem mw_62 : Cond.initialized RJ3 ∈ GW := gw_of (lwt_1 (List.mem_of_getElem? (i := 15) rfl)) (by decide +kernel)
set_option maxRecDepth 100000 in
theorem mw_78 : Cond.fieldLink RX4 9 "DrumBoats$Roster" "size" "I" ∈ GW := gw_of (lwt_1 (List.mem_of_getElem? (i := 31) rfl)) (by decide +kernel)
set_option maxRecDepth 100000 in
theorem mw_79 : Cond.fieldLink RX9 101 "DrumBoats$Roster" "size" "I" ∈ GW := gw_of (lwt_1 (List.mem_of_getElem? (i := 32) rfl)) (by decide +kernel)
set_option maxRecDepth 100000 in
theorem mw_80 : Cond.fieldLink RX4 15 "DrumBoats$Roster" "weight" "[I" ∈ GW := gw_of (lwt_1 (List.mem_of_getElem? (i := 33) rfl)) (by decide +kernel)
set_option maxRecDepth 100000 in
theorem mw_81 : Cond.fieldLink RX8 35 "DrumBoats$Roster" "weight" "[I" ∈ GW := gw_of (lwt_1 (List.mem_of_getElem? (i := 34) rfl)) (by decide +kernel)
set_option maxRecDepth 100000 in
theorem mw_82 : Cond.fieldLink RX6 99 "DrumBoats$Roster" "weight" "[I" ∈ GW := gw_of (lwt_1 (List.mem_of_getElem? (i := 35) rfl)) (by decide +kernel)
set_option maxRecDepth 100000 in
theorem mw_83 : Cond.fieldLink RX9 314 "DrumBoats$Roster" "weight" "[I" ∈ GW := gw_of (lwt_1 (List.mem_of_getElem? (i := 36) rfl)) (by decide +kernel)
set_option maxRecDepth 100000 in
theorem mw_84 : Cond.fieldLink RX4 19 "DrumBoats$Roster" "strength" "[I" ∈ GW := gw_of (lwt_1 (List.mem_of_getElem? (i := 37) rfl)) (by decide +kernel)
set_option maxRecDepth 100000 in
theorem mw_85 : Cond.fieldLink RX8 44 "DrumBoats$Roster" "strength" "[I" ∈ GW := gw_of (lwt_1 (List.mem_of_getElem? (i := 38) rfl)) (by decide +kernel)
set_option maxRecDepth 100000 in
theorem mw_86 : Cond.fieldLink RX0 35 "DrumBoats$Roster" "strength" "[I" ∈ GW := gw_of (lwt_1 (List.mem_of_getElem? (i := 39) rfl)) (by decide +kernel)
set_option maxRecDepth 100000 in
theorem mw_87 : Cond.fieldLink RX6 102 "DrumBoats$Roster" "strength" "[I" ∈ GW := gw_of (lwt_1 (List.mem_of_getElem? (i := 40) rfl)) (by decide +kernel)
set_option maxRecDepth 100000 in
theorem mw_88 : Cond.fieldLink RX4 22 "DrumBoats$Roster" "arm" "[I" ∈ GW := gw_of (lwt_1 (List.mem_of_getElem? (i := 41) rfl)) (by decide +kernel)
set_option maxRecDepth 100000 in
theorem mw_89 : Cond.fieldLink RX6 103 "DrumBoats$Roster" "arm" "[I" ∈ GW := gw_of (lwt_1 (List.mem_of_getElem? (i := 42) rfl)) (by decide +kernel)
set_option maxRecDepth 100000 in
theorem mw_90 : Cond.fieldLink RX4 25 "DrumBoats$Roster" "sex" "[I" ∈ GW := gw_of (lwt_1 (List.mem_of_getElem? (i := 43) rfl)) (by decide +kernel)
set_option maxRecDepth 100000 in
theorem mw_91 : Cond.fieldLink RX9 308 "DrumBoats$Roster" "sex" "[I" ∈ GW := gw_of (lwt_1 (List.mem_of_getElem? (i := 44) rfl)) (by decide +kernel)
set_option maxRecDepth 100000 in
theorem mw_92 : Cond.fieldLink RX4 28 "DrumBoats$Roster" "age" "[I" ∈ GW := gw_of (lwt_1 (List.mem_of_getElem? (i := 45) rfl)) (by decide +kernel)
set_option maxRecDepth 100000 in
theorem mw_93 : Cond.fieldLink RX9 311 "DrumBoats$Roster" "age" "[I" ∈ GW := gw_of (lwt_1 (List.mem_of_getElem? (i := 46) rfl)) (by decide +kernel)
set_option maxRecDepth 100000 in
theorem mw_94 : Cond.fieldLink RX4 31 "DrumBoats$Roster" "friendBits" "[J" ∈ GW := gw_of (lwt_1 (List.mem_of_getElem? (i := 47) rfl)) (by decide +kernel)
set_option maxRecDepth 100000 in
theorem mw_120 : Cond.fieldLink RX8 7 "DrumBoats$Trim" "lean" "I" ∈ GW := gw_of (lwt_1 (List.mem_of_getElem? (i := 73) rfl)) (by decide +kernel)
set_option maxRecDepth 100000 in
theorem mw_121 : Cond.fieldLink RX9 166 "DrumBoats$Trim" "lean" "I" ∈ GW := gw_of (lwt_1 (List.mem_of_getElem? (i := 74) rfl)) (by decide +kernel)
set_option maxRecDepth 100000 in
theorem mw_122 : Cond.fieldLink RX8 13 "DrumBoats$Trim" "pitch" "I" ∈ GW := gw_of (lwt_1 (List.mem_of_getElem? (i := 75) rfl)) (by decide +kernel)
set_option maxRecDepth 100000 in
theorem mw_123 : Cond.fieldLink RX9 169 "DrumBoats$Trim" "pitch" "I" ∈ GW := gw_of (lwt_1 (List.mem_of_getElem? (i := 76) rfl)) (by decide +kernel)
set_option maxRecDepth 100000 in
theorem mw_124 : Cond.fieldLink RX8 16 "DrumBoats$Trim" "middle" "I" ∈ GW := gw_of (lwt_1 (List.mem_of_getElem? (i := 77) rfl)) (by decide +kernel)
set_option maxRecDepth 100000 in
theorem mw_125 : Cond.fieldLink RX9 172 "DrumBoats$Trim" "middle" "I" ∈ GW := gw_of (lwt_1 (List.mem_of_getElem? (i := 78) rfl)) (by decide +kernel)
set_option maxRecDepth 100000 in
theorem mw_126 : Cond.fieldLink RX8 19 "DrumBoats$Trim" "friends" "I" ∈ GW := gw_of (lwt_1 (List.mem_of_getElem? (i := 79) rfl)) (by decide +kernel)
set_option maxRecDepth 100000 in
theorem mw_127 : Cond.fieldLink RX9 175 "DrumBoats$Trim" "friends" "I" ∈ GW := gw_of (lwt_1 (List.mem_of_getElem? (i := 80) rfl)) (by decide +kernel)
set_option maxRecDepth 100000 in
theorem mw_143 : Cond.fieldLink RX6 9 "DrumBoats$SeatSearch" "leastTilt" "I" ∈ GW := gw_of (lwt_1 (List.mem_of_getElem? (i := 96) rfl)) (by decide +kernel)
set_option maxRecDepth 100000 in
theorem mw_144 : Cond.fieldLink RX9 156 "DrumBoats$SeatSearch" "leastTilt" "I" ∈ GW := gw_of (lwt_1 (List.mem_of_getElem? (i := 97) rfl)) (by decide +kernel)
set_option maxRecDepth 100000 in
theorem mw_145 : Cond.fieldLink RX6 15 "DrumBoats$SeatSearch" "found" "Z" ∈ GW := gw_of (lwt_1 (List.mem_of_getElem? (i := 98) rfl)) (by decide +kernel)
set_option maxRecDepth 100000 in
theorem mw_146 : Cond.fieldLink RX6 19 "DrumBoats$SeatSearch" "seats" "I" ∈ GW := gw_of (lwt_1 (List.mem_of_getElem? (i := 99) rfl)) (by decide +kernel)
set_option maxRecDepth 100000 in
theorem mw_147 : Cond.fieldLink RX6 22 "DrumBoats$SeatSearch" "members" "I" ∈ GW := gw_of (lwt_1 (List.mem_of_getElem? (i := 100) rfl)) (by decide +kernel)
set_option maxRecDepth 100000 in
theorem mw_148 : Cond.fieldLink RX6 25 "DrumBoats$SeatSearch" "weight" "[I" ∈ GW := gw_of (lwt_1 (List.mem_of_getElem? (i := 101) rfl)) (by decide +kernel)
set_option maxRecDepth 100000 in
theorem mw_149 : Cond.fieldLink RX6 29 "DrumBoats$SeatSearch" "strength" "[I" ∈ GW := gw_of (lwt_1 (List.mem_of_getElem? (i := 102) rfl)) (by decide +kernel)
set_option maxRecDepth 100000 in
theorem mw_150 : Cond.fieldLink RX6 32 "DrumBoats$SeatSearch" "arm" "[I" ∈ GW := gw_of (lwt_1 (List.mem_of_getElem? (i := 103) rfl)) (by decide +kernel)
set_option maxRecDepth 100000 in
theorem mw_151 : Cond.fieldLink RX6 35 "DrumBoats$SeatSearch" "friendBits" "[I" ∈ GW := gw_of (lwt_1 (List.mem_of_getElem? (i := 104) rfl)) (by decide +kernel)
set_option maxRecDepth 100000 in
theorem mw_152 : Cond.fieldLink RX6 38 "DrumBoats$SeatSearch" "pitchFactor" "[I" ∈ GW := gw_of (lwt_1 (List.mem_of_getElem? (i := 105) rfl)) (by decide +kernel)
set_option maxRecDepth 100000 in
theorem mw_153 : Cond.fieldLink RX6 41 "DrumBoats$SeatSearch" "middleFactor" "[I" ∈ GW := gw_of (lwt_1 (List.mem_of_getElem? (i := 106) rfl)) (by decide +kernel)
set_option maxRecDepth 100000 in
theorem mw_154 : Cond.fieldLink RX6 44 "DrumBoats$SeatSearch" "chosen" "[I" ∈ GW := gw_of (lwt_1 (List.mem_of_getElem? (i := 107) rfl)) (by decide +kernel)
set_option maxRecDepth 100000 in
theorem mw_155 : Cond.fieldLink RX6 47 "DrumBoats$SeatSearch" "best" "[I" ∈ GW := gw_of (lwt_1 (List.mem_of_getElem? (i := 108) rfl)) (by decide +kernel)
set_option maxRecDepth 100000 in
theorem mw_156 : Cond.fieldLink RX6 50 "DrumBoats$SeatSearch" "leanLow" "[I" ∈ GW := gw_of (lwt_1 (List.mem_of_getElem? (i := 109) rfl)) (by decide +kernel)
set_option maxRecDepth 100000 in
theorem mw_157 : Cond.fieldLink RX6 53 "DrumBoats$SeatSearch" "leanHigh" "[I" ∈ GW := gw_of (lwt_1 (List.mem_of_getElem? (i := 110) rfl)) (by decide +kernel)
set_option maxRecDepth 100000 in
theorem mw_158 : Cond.fieldLink RX6 56 "DrumBoats$SeatSearch" "pitchLow" "[I" ∈ GW := gw_of (lwt_1 (List.mem_of_getElem? (i := 111) rfl)) (by decide +kernel)
set_option maxRecDepth 100000 in
theorem mw_159 : Cond.fieldLink RX6 59 "DrumBoats$SeatSearch" "pitchHigh" "[I" ∈ GW := gw_of (lwt_1 (List.mem_of_getElem? (i := 112) rfl)) (by decide +kernel)
set_option maxRecDepth 100000 in
theorem mw_160 : Cond.fieldLink RX6 62 "DrumBoats$SeatSearch" "gainHigh" "[I" ∈ GW := gw_of (lwt_1 (List.mem_of_getElem? (i := 113) rfl)) (by decide +kernel)
set_option maxRecDepth 100000 in
theorem mw_202 : Cond.fieldLink RX7 9 "DrumBoats$Tape" "size" "I" ∈ GW := gw_of (lwt_1 (List.mem_of_getElem? (i := 155) rfl)) (by decide +kernel)
set_option maxRecDepth 100000 in
theorem mw_203 : Cond.fieldLink RX9 192 "DrumBoats$Tape" "size" "I" ∈ GW := gw_of (lwt_1 (List.mem_of_getElem? (i := 156) rfl)) (by decide +kernel)
set_option maxRecDepth 100000 in
theorem mw_204 : Cond.fieldLink RX7 15 "DrumBoats$Tape" "at" "I" ∈ GW := gw_of (lwt_1 (List.mem_of_getElem? (i := 157) rfl)) (by decide +kernel)
set_option maxRecDepth 100000 in
theorem mw_205 : Cond.fieldLink RX9 201 "DrumBoats$Tape" "at" "I" ∈ GW := gw_of (lwt_1 (List.mem_of_getElem? (i := 158) rfl)) (by decide +kernel)
set_option maxRecDepth 100000 in
theorem mw_206 : Cond.fieldLink RX7 18 "DrumBoats$Tape" "bytes" "[I" ∈ GW := gw_of (lwt_1 (List.mem_of_getElem? (i := 159) rfl)) (by decide +kernel)
set_option maxRecDepth 100000 in
theorem mw_224 : Cond.fieldLink RX0 7 "DrumBoats$Course" "hundredths" "I" ∈ GW := gw_of (lwt_1 (List.mem_of_getElem? (i := 177) rfl)) (by decide +kernel)
set_option maxRecDepth 100000 in
theorem mw_225 : Cond.fieldLink RX9 328 "DrumBoats$Course" "hundredths" "I" ∈ GW := gw_of (lwt_1 (List.mem_of_getElem? (i := 178) rfl)) (by decide +kernel)
set_option maxRecDepth 100000 in
theorem mw_226 : Cond.fieldLink RX0 13 "DrumBoats$Course" "gone" "I" ∈ GW := gw_of (lwt_1 (List.mem_of_getElem? (i := 179) rfl)) (by decide +kernel)
set_option maxRecDepth 100000 in
theorem mw_227 : Cond.fieldLink RX9 331 "DrumBoats$Course" "gone" "I" ∈ GW := gw_of (lwt_1 (List.mem_of_getElem? (i := 180) rfl)) (by decide +kernel)
set_option maxRecDepth 100000 in
theorem mw_239 : Cond.fieldLink RX2 9 "DrumBoats$FinalList" "size" "I" ∈ GW := gw_of (lwt_1 (List.mem_of_getElem? (i := 192) rfl)) (by decide +kernel)
set_option maxRecDepth 100000 in
theorem mw_240 : Cond.fieldLink RX9 268 "DrumBoats$FinalList" "size" "I" ∈ GW := gw_of (lwt_1 (List.mem_of_getElem? (i := 193) rfl)) (by decide +kernel)
set_option maxRecDepth 100000 in
theorem mw_241 : Cond.fieldLink RX2 15 "DrumBoats$FinalList" "list" "[I" ∈ GW := gw_of (lwt_1 (List.mem_of_getElem? (i := 194) rfl)) (by decide +kernel)
set_option maxRecDepth 100000 in
theorem mw_242 : Cond.fieldLink RX9 269 "DrumBoats$FinalList" "list" "[I" ∈ GW := gw_of (lwt_1 (List.mem_of_getElem? (i := 195) rfl)) (by decide +kernel)
set_option maxRecDepth 100000 in
theorem mw_243 : Cond.fieldLink RX2 19 "DrumBoats$FinalList" "bestTime" "[I" ∈ GW := gw_of (lwt_1 (List.mem_of_getElem? (i := 196) rfl)) (by decide +kernel)
set_option maxRecDepth 100000 in
theorem mw_244 : Cond.fieldLink RX2 22 "DrumBoats$FinalList" "byPlace" "[Z" ∈ GW := gw_of (lwt_1 (List.mem_of_getElem? (i := 197) rfl)) (by decide +kernel)
set_option maxRecDepth 100000 in
theorem mw_245 : Cond.fieldLink RX2 26 "DrumBoats$FinalList" "chosen" "[Z" ∈ GW := gw_of (lwt_1 (List.mem_of_getElem? (i := 198) rfl)) (by decide +kernel)
set_option maxRecDepth 100000 in
theorem mw_263 : Cond.fieldLink RX1 9 "DrumBoats$Crew" "rows" "I" ∈ GW := gw_of (lwt_1 (List.mem_of_getElem? (i := 216) rfl)) (by decide +kernel)
set_option maxRecDepth 100000 in
theorem mw_264 : Cond.fieldLink RX8 28 "DrumBoats$Crew" "rows" "I" ∈ GW := gw_of (lwt_1 (List.mem_of_getElem? (i := 217) rfl)) (by decide +kernel)
set_option maxRecDepth 100000 in
theorem mw_265 : Cond.fieldLink RX9 120 "DrumBoats$Crew" "rows" "I" ∈ GW := gw_of (lwt_1 (List.mem_of_getElem? (i := 218) rfl)) (by decide +kernel)
set_option maxRecDepth 100000 in
theorem mw_266 : Cond.fieldLink RX1 15 "DrumBoats$Crew" "drummer" "I" ∈ GW := gw_of (lwt_1 (List.mem_of_getElem? (i := 219) rfl)) (by decide +kernel)
set_option maxRecDepth 100000 in
theorem mw_267 : Cond.fieldLink RX9 123 "DrumBoats$Crew" "drummer" "I" ∈ GW := gw_of (lwt_1 (List.mem_of_getElem? (i := 220) rfl)) (by decide +kernel)
set_option maxRecDepth 100000 in
theorem mw_269 : Cond.fieldLink RX0 26 "DrumBoats$Crew" "drumBeat" "I" ∈ GW := gw_of (lwt_1 (List.mem_of_getElem? (i := 222) rfl)) (by decide +kernel)
set_option maxRecDepth 100000 in
theorem mw_270 : Cond.fieldLink RX9 139 "DrumBoats$Crew" "drumBeat" "I" ∈ GW := gw_of (lwt_1 (List.mem_of_getElem? (i := 223) rfl)) (by decide +kernel)
set_option maxRecDepth 100000 in
theorem mw_271 : Cond.fieldLink RX1 21 "DrumBoats$Crew" "memberCount" "I" ∈ GW := gw_of (lwt_1 (List.mem_of_getElem? (i := 224) rfl)) (by decide +kernel)
set_option maxRecDepth 100000 in
theorem mw_272 : Cond.fieldLink RX6 77 "DrumBoats$Crew" "memberCount" "I" ∈ GW := gw_of (lwt_1 (List.mem_of_getElem? (i := 225) rfl)) (by decide +kernel)
set_option maxRecDepth 100000 in
theorem mw_273 : Cond.fieldLink RX9 132 "DrumBoats$Crew" "memberCount" "I" ∈ GW := gw_of (lwt_1 (List.mem_of_getElem? (i := 226) rfl)) (by decide +kernel)
set_option maxRecDepth 100000 in
theorem mw_274 : Cond.fieldLink RX1 24 "DrumBoats$Crew" "members" "[I" ∈ GW := gw_of (lwt_1 (List.mem_of_getElem? (i := 227) rfl)) (by decide +kernel)
set_option maxRecDepth 100000 in
theorem mw_275 : Cond.fieldLink RX6 97 "DrumBoats$Crew" "members" "[I" ∈ GW := gw_of (lwt_1 (List.mem_of_getElem? (i := 228) rfl)) (by decide +kernel)
set_option maxRecDepth 100000 in
theorem mw_276 : Cond.fieldLink RX1 28 "DrumBoats$Crew" "memberBits" "J" ∈ GW := gw_of (lwt_1 (List.mem_of_getElem? (i := 229) rfl)) (by decide +kernel)
set_option maxRecDepth 100000 in
theorem mw_277 : Cond.fieldLink RX9 317 "DrumBoats$Crew" "memberBits" "J" ∈ GW := gw_of (lwt_1 (List.mem_of_getElem? (i := 230) rfl)) (by decide +kernel)
set_option maxRecDepth 100000 in
theorem mw_278 : Cond.fieldLink RX1 32 "DrumBoats$Crew" "seated" "Z" ∈ GW := gw_of (lwt_1 (List.mem_of_getElem? (i := 231) rfl)) (by decide +kernel)
set_option maxRecDepth 100000 in
theorem mw_279 : Cond.fieldLink RX9 147 "DrumBoats$Crew" "seated" "Z" ∈ GW := gw_of (lwt_1 (List.mem_of_getElem? (i := 232) rfl)) (by decide +kernel)
set_option maxRecDepth 100000 in
theorem mw_280 : Cond.fieldLink RX1 36 "DrumBoats$Crew" "seats" "[I" ∈ GW := gw_of (lwt_1 (List.mem_of_getElem? (i := 233) rfl)) (by decide +kernel)
set_option maxRecDepth 100000 in
theorem mw_281 : Cond.fieldLink RX8 31 "DrumBoats$Crew" "seats" "[I" ∈ GW := gw_of (lwt_1 (List.mem_of_getElem? (i := 234) rfl)) (by decide +kernel)
set_option maxRecDepth 100000 in
theorem mw_282 : Cond.fieldLink RX6 95 "DrumBoats$Crew" "seats" "[I" ∈ GW := gw_of (lwt_1 (List.mem_of_getElem? (i := 235) rfl)) (by decide +kernel)
set_option maxRecDepth 100000 in
theorem mw_283 : Cond.fieldLink RX0 41 "DrumBoats$Crew" "seats" "[I" ∈ GW := gw_of (lwt_1 (List.mem_of_getElem? (i := 236) rfl)) (by decide +kernel)
set_option maxRecDepth 100000 in
theorem mw_284 : Cond.fieldLink RX9 159 "DrumBoats$Crew" "seats" "[I" ∈ GW := gw_of (lwt_1 (List.mem_of_getElem? (i := 237) rfl)) (by decide +kernel)
set_option maxRecDepth 100000 in
theorem mw_307 : Cond.fieldLink RX5 9 "DrumBoats$Rule" "tests" "I" ∈ GW := gw_of (lwt_2 (List.mem_of_getElem? (i := 20) rfl)) (by decide +kernel)
set_option maxRecDepth 100000 in
theorem mw_308 : Cond.fieldLink RX7 24 "DrumBoats$Rule" "tests" "I" ∈ GW := gw_of (lwt_2 (List.mem_of_getElem? (i := 21) rfl)) (by decide +kernel)
set_option maxRecDepth 100000 in
theorem mw_309 : Cond.fieldLink RX5 15 "DrumBoats$Rule" "negated" "[Z" ∈ GW := gw_of (lwt_2 (List.mem_of_getElem? (i := 22) rfl)) (by decide +kernel)
set_option maxRecDepth 100000 in
theorem mw_310 : Cond.fieldLink RX7 48 "DrumBoats$Rule" "negated" "[Z" ∈ GW := gw_of (lwt_2 (List.mem_of_getElem? (i := 23) rfl)) (by decide +kernel)
set_option maxRecDepth 100000 in
theorem mw_311 : Cond.fieldLink RX5 19 "DrumBoats$Rule" "field" "[I" ∈ GW := gw_of (lwt_2 (List.mem_of_getElem? (i := 24) rfl)) (by decide +kernel)
set_option maxRecDepth 100000 in
theorem mw_312 : Cond.fieldLink RX7 51 "DrumBoats$Rule" "field" "[I" ∈ GW := gw_of (lwt_2 (List.mem_of_getElem? (i := 25) rfl)) (by decide +kernel)
set_option maxRecDepth 100000 in
theorem mw_313 : Cond.fieldLink RX5 23 "DrumBoats$Rule" "sign" "[I" ∈ GW := gw_of (lwt_2 (List.mem_of_getElem? (i := 26) rfl)) (by decide +kernel)
set_option maxRecDepth 100000 in
theorem mw_314 : Cond.fieldLink RX7 64 "DrumBoats$Rule" "sign" "[I" ∈ GW := gw_of (lwt_2 (List.mem_of_getElem? (i := 27) rfl)) (by decide +kernel)
set_option maxRecDepth 100000 in
theorem mw_315 : Cond.fieldLink RX5 26 "DrumBoats$Rule" "number" "[I" ∈ GW := gw_of (lwt_2 (List.mem_of_getElem? (i := 28) rfl)) (by decide +kernel)
set_option maxRecDepth 100000 in
theorem mw_316 : Cond.fieldLink RX7 71 "DrumBoats$Rule" "number" "[I" ∈ GW := gw_of (lwt_2 (List.mem_of_getElem? (i := 29) rfl)) (by decide +kernel)
set_option maxRecDepth 100000 in
theorem mw_317 : Cond.fieldLink RX5 29 "DrumBoats$Rule" "orAhead" "[Z" ∈ GW := gw_of (lwt_2 (List.mem_of_getElem? (i := 30) rfl)) (by decide +kernel)
set_option maxRecDepth 100000 in
theorem mw_318 : Cond.fieldLink RX7 29 "DrumBoats$Rule" "orAhead" "[Z" ∈ GW := gw_of (lwt_2 (List.mem_of_getElem? (i := 31) rfl)) (by decide +kernel)
set_option maxRecDepth 100000 in
theorem mw_337 : Cond.fieldLink RX3 9 "DrumBoats$Race" "minute" "I" ∈ GW := gw_of (lwt_2 (List.mem_of_getElem? (i := 50) rfl)) (by decide +kernel)
set_option maxRecDepth 100000 in
theorem mw_338 : Cond.fieldLink RX3 15 "DrumBoats$Race" "round" "I" ∈ GW := gw_of (lwt_2 (List.mem_of_getElem? (i := 51) rfl)) (by decide +kernel)
set_option maxRecDepth 100000 in
theorem mw_339 : Cond.fieldLink RX2 29 "DrumBoats$Race" "round" "I" ∈ GW := gw_of (lwt_2 (List.mem_of_getElem? (i := 52) rfl)) (by decide +kernel)
set_option maxRecDepth 100000 in
theorem mw_340 : Cond.fieldLink RX9 333 "DrumBoats$Race" "round" "I" ∈ GW := gw_of (lwt_2 (List.mem_of_getElem? (i := 53) rfl)) (by decide +kernel)
set_option maxRecDepth 100000 in
theorem mw_341 : Cond.fieldLink RX3 18 "DrumBoats$Race" "begun" "Z" ∈ GW := gw_of (lwt_2 (List.mem_of_getElem? (i := 54) rfl)) (by decide +kernel)
set_option maxRecDepth 100000 in
theorem mw_342 : Cond.fieldLink RX9 232 "DrumBoats$Race" "begun" "Z" ∈ GW := gw_of (lwt_2 (List.mem_of_getElem? (i := 55) rfl)) (by decide +kernel)
set_option maxRecDepth 100000 in
theorem mw_343 : Cond.fieldLink RX3 22 "DrumBoats$Race" "crews" "[I" ∈ GW := gw_of (lwt_2 (List.mem_of_getElem? (i := 56) rfl)) (by decide +kernel)
set_option maxRecDepth 100000 in
theorem mw_344 : Cond.fieldLink RX2 48 "DrumBoats$Race" "crews" "[I" ∈ GW := gw_of (lwt_2 (List.mem_of_getElem? (i := 57) rfl)) (by decide +kernel)
set_option maxRecDepth 100000 in
theorem mw_345 : Cond.fieldLink RX9 235 "DrumBoats$Race" "crews" "[I" ∈ GW := gw_of (lwt_2 (List.mem_of_getElem? (i := 58) rfl)) (by decide +kernel)
set_option maxRecDepth 100000 in
theorem mw_346 : Cond.fieldLink RX3 26 "DrumBoats$Race" "times" "[I" ∈ GW := gw_of (lwt_2 (List.mem_of_getElem? (i := 59) rfl)) (by decide +kernel)
set_option maxRecDepth 100000 in
theorem mw_347 : Cond.fieldLink RX2 45 "DrumBoats$Race" "times" "[I" ∈ GW := gw_of (lwt_2 (List.mem_of_getElem? (i := 60) rfl)) (by decide +kernel)
set_option maxRecDepth 100000 in
theorem mw_348 : Cond.fieldLink RX9 249 "DrumBoats$Race" "times" "[I" ∈ GW := gw_of (lwt_2 (List.mem_of_getElem? (i := 61) rfl)) (by decide +kernel)
set_option maxRecDepth 100000 in
theorem mw_349 : Cond.fieldLink RX3 29 "DrumBoats$Race" "gone" "[I" ∈ GW := gw_of (lwt_2 (List.mem_of_getElem? (i := 62) rfl)) (by decide +kernel)
set_option maxRecDepth 100000 in
theorem mw_350 : Cond.fieldLink RX9 255 "DrumBoats$Race" "gone" "[I" ∈ GW := gw_of (lwt_2 (List.mem_of_getElem? (i := 63) rfl)) (by decide +kernel)
set_option maxRecDepth 100000 in
theorem mw_352 : Cond.fieldLink RX9 237 "DrumBoats$Race" "struck" "[Z" ∈ GW := gw_of (lwt_2 (List.mem_of_getElem? (i := 65) rfl)) (by decide +kernel)
set_option maxRecDepth 100000 in
theorem mw_368 : Cond.fieldLink RX9 12 "DrumBoats" "roster" "LDrumBoats$Roster;" ∈ GW := gw_of (lwt_2 (List.mem_of_getElem? (i := 81) rfl)) (by decide +kernel)
set_option maxRecDepth 100000 in
theorem mw_369 : Cond.fieldLink RX9 20 "DrumBoats" "crews" "[LDrumBoats$Crew;" ∈ GW := gw_of (lwt_2 (List.mem_of_getElem? (i := 82) rfl)) (by decide +kernel)
set_option maxRecDepth 100000 in
theorem mw_370 : Cond.fieldLink RX9 24 "DrumBoats" "crewCount" "I" ∈ GW := gw_of (lwt_2 (List.mem_of_getElem? (i := 83) rfl)) (by decide +kernel)
set_option maxRecDepth 100000 in
theorem mw_371 : Cond.fieldLink RX9 31 "DrumBoats" "balance" "LDrumBoats$Trim;" ∈ GW := gw_of (lwt_2 (List.mem_of_getElem? (i := 84) rfl)) (by decide +kernel)
set_option maxRecDepth 100000 in
theorem mw_372 : Cond.fieldLink RX9 38 "DrumBoats" "search" "LDrumBoats$SeatSearch;" ∈ GW := gw_of (lwt_2 (List.mem_of_getElem? (i := 85) rfl)) (by decide +kernel)
set_option maxRecDepth 100000 in
theorem mw_373 : Cond.fieldLink RX9 45 "DrumBoats" "tape" "LDrumBoats$Tape;" ∈ GW := gw_of (lwt_2 (List.mem_of_getElem? (i := 86) rfl)) (by decide +kernel)
set_option maxRecDepth 100000 in
theorem mw_374 : Cond.fieldLink RX9 51 "DrumBoats" "rules" "[LDrumBoats$Rule;" ∈ GW := gw_of (lwt_2 (List.mem_of_getElem? (i := 87) rfl)) (by decide +kernel)
set_option maxRecDepth 100000 in
theorem mw_375 : Cond.fieldLink RX9 55 "DrumBoats" "ruleCount" "I" ∈ GW := gw_of (lwt_2 (List.mem_of_getElem? (i := 88) rfl)) (by decide +kernel)
set_option maxRecDepth 100000 in
theorem mw_376 : Cond.fieldLink RX9 58 "DrumBoats" "tallies" "[I" ∈ GW := gw_of (lwt_2 (List.mem_of_getElem? (i := 89) rfl)) (by decide +kernel)
set_option maxRecDepth 100000 in
theorem mw_377 : Cond.fieldLink RX9 62 "DrumBoats" "restMinutes" "I" ∈ GW := gw_of (lwt_2 (List.mem_of_getElem? (i := 90) rfl)) (by decide +kernel)
set_option maxRecDepth 100000 in
theorem mw_378 : Cond.fieldLink RX9 65 "DrumBoats" "waiting" "[I" ∈ GW := gw_of (lwt_2 (List.mem_of_getElem? (i := 91) rfl)) (by decide +kernel)
set_option maxRecDepth 100000 in
theorem mw_379 : Cond.fieldLink RX9 68 "DrumBoats" "currents" "[I" ∈ GW := gw_of (lwt_2 (List.mem_of_getElem? (i := 92) rfl)) (by decide +kernel)
set_option maxRecDepth 100000 in
theorem mw_380 : Cond.fieldLink RX9 73 "DrumBoats" "races" "[LDrumBoats$Race;" ∈ GW := gw_of (lwt_2 (List.mem_of_getElem? (i := 93) rfl)) (by decide +kernel)
set_option maxRecDepth 100000 in
theorem mw_381 : Cond.fieldLink RX9 77 "DrumBoats" "raceCount" "I" ∈ GW := gw_of (lwt_2 (List.mem_of_getElem? (i := 94) rfl)) (by decide +kernel)
set_option maxRecDepth 100000 in
theorem mw_382 : Cond.fieldLink RX9 83 "DrumBoats" "course" "LDrumBoats$Course;" ∈ GW := gw_of (lwt_2 (List.mem_of_getElem? (i := 95) rfl)) (by decide +kernel)
set_option maxRecDepth 100000 in
theorem mw_383 : Cond.fieldLink RX9 90 "DrumBoats" "finals" "LDrumBoats$FinalList;" ∈ GW := gw_of (lwt_2 (List.mem_of_getElem? (i := 96) rfl)) (by decide +kernel)
set_option maxRecDepth 100000 in
theorem mw_421 : Cond.methodLink RX9 97 yX9_within ∈ GW := gw_of (lwt_2 (List.mem_of_getElem? (i := 134) rfl)) (by decide +kernel)
set_option maxRecDepth 100000 in
theorem mw_422 : Cond.static yX9_within ∈ GW := gw_of (lwt_2 (List.mem_of_getElem? (i := 135) rfl)) (by decide +kernel)
set_option maxRecDepth 100000 in
theorem mw_423 : Cond.code yX9_within cX9_within 3 (some .boolean) ∈ GW := gw_of (lwt_2 (List.mem_of_getElem? (i := 136) rfl)) (by decide +kernel)
set_option maxRecDepth 100000 in
theorem mw_424 : Cond.methodLink RX9 104 yX4_add ∈ GW := gw_of (lwt_2 (List.mem_of_getElem? (i := 137) rfl)) (by decide +kernel)
set_option maxRecDepth 100000 in
theorem mw_425 : Cond.instanceMethod yX4_add ∈ GW := gw_of (lwt_2 (List.mem_of_getElem? (i := 138) rfl)) (by decide +kernel)
set_option maxRecDepth 100000 in
theorem mw_426 : Cond.selects RX4 yX4_add yX4_add ∈ GW := gw_of (lwt_2 (List.mem_of_getElem? (i := 139) rfl)) (by decide +kernel)
set_option maxRecDepth 100000 in
theorem mw_427 : Cond.code yX4_add cX4_add 6 (some .int) ∈ GW := gw_of (lwt_2 (List.mem_of_getElem? (i := 140) rfl)) (by decide +kernel)
set_option maxRecDepth 100000 in
theorem mw_432 : Cond.methodLink RX9 108 yX4_has ∈ GW := gw_of (lwt_2 (List.mem_of_getElem? (i := 145) rfl)) (by decide +kernel)
set_option maxRecDepth 100000 in
theorem mw_433 : Cond.instanceMethod yX4_has ∈ GW := gw_of (lwt_2 (List.mem_of_getElem? (i := 146) rfl)) (by decide +kernel)
set_option maxRecDepth 100000 in
theorem mw_434 : Cond.selects RX4 yX4_has yX4_has ∈ GW := gw_of (lwt_2 (List.mem_of_getElem? (i := 147) rfl)) (by decide +kernel)
set_option maxRecDepth 100000 in
theorem mw_435 : Cond.code yX4_has cX4_has 2 (some .boolean) ∈ GW := gw_of (lwt_2 (List.mem_of_getElem? (i := 148) rfl)) (by decide +kernel)
set_option maxRecDepth 100000 in
theorem mw_437 : Cond.methodLink RX9 112 yX4_areFriends ∈ GW := gw_of (lwt_2 (List.mem_of_getElem? (i := 150) rfl)) (by decide +kernel)
set_option maxRecDepth 100000 in
theorem mw_438 : Cond.instanceMethod yX4_areFriends ∈ GW := gw_of (lwt_2 (List.mem_of_getElem? (i := 151) rfl)) (by decide +kernel)
set_option maxRecDepth 100000 in
theorem mw_439 : Cond.selects RX4 yX4_areFriends yX4_areFriends ∈ GW := gw_of (lwt_2 (List.mem_of_getElem? (i := 152) rfl)) (by decide +kernel)
set_option maxRecDepth 100000 in
theorem mw_440 : Cond.code yX4_areFriends cX4_areFriends 3 (some .boolean) ∈ GW := gw_of (lwt_2 (List.mem_of_getElem? (i := 153) rfl)) (by decide +kernel)
set_option maxRecDepth 100000 in
theorem mw_441 : Cond.methodLink RX9 116 yX4_setFriends ∈ GW := gw_of (lwt_2 (List.mem_of_getElem? (i := 154) rfl)) (by decide +kernel)
set_option maxRecDepth 100000 in
theorem mw_442 : Cond.instanceMethod yX4_setFriends ∈ GW := gw_of (lwt_2 (List.mem_of_getElem? (i := 155) rfl)) (by decide +kernel)
set_option maxRecDepth 100000 in
theorem mw_443 : Cond.selects RX4 yX4_setFriends yX4_setFriends ∈ GW := gw_of (lwt_2 (List.mem_of_getElem? (i := 156) rfl)) (by decide +kernel)
set_option maxRecDepth 100000 in
theorem mw_444 : Cond.code yX4_setFriends cX4_setFriends 8 none ∈ GW := gw_of (lwt_2 (List.mem_of_getElem? (i := 157) rfl)) (by decide +kernel)
set_option maxRecDepth 100000 in
theorem mw_445 : Cond.constantLong RX4 39 (-1) ∈ GW := gw_of (lwt_2 (List.mem_of_getElem? (i := 158) rfl)) (by decide +kernel)
set_option maxRecDepth 100000 in
theorem mw_454 : Cond.methodLink RX9 126 yX9_isCrew ∈ GW := gw_of (lwt_2 (List.mem_of_getElem? (i := 167) rfl)) (by decide +kernel)
set_option maxRecDepth 100000 in
theorem mw_456 : Cond.instanceMethod yX9_isCrew ∈ GW := gw_of (lwt_2 (List.mem_of_getElem? (i := 169) rfl)) (by decide +kernel)
set_option maxRecDepth 100000 in
theorem mw_457 : Cond.code yX9_isCrew cX9_isCrew 2 (some .boolean) ∈ GW := gw_of (lwt_2 (List.mem_of_getElem? (i := 170) rfl)) (by decide +kernel)
set_option maxRecDepth 100000 in
theorem mw_458 : Cond.methodLink RX9 129 yX1_hasMember ∈ GW := gw_of (lwt_2 (List.mem_of_getElem? (i := 171) rfl)) (by decide +kernel)
set_option maxRecDepth 100000 in
theorem mw_459 : Cond.instanceMethod yX1_hasMember ∈ GW := gw_of (lwt_2 (List.mem_of_getElem? (i := 172) rfl)) (by decide +kernel)
set_option maxRecDepth 100000 in
theorem mw_460 : Cond.selects RX1 yX1_hasMember yX1_hasMember ∈ GW := gw_of (lwt_2 (List.mem_of_getElem? (i := 173) rfl)) (by decide +kernel)
set_option maxRecDepth 100000 in
theorem mw_461 : Cond.code yX1_hasMember cX1_hasMember 2 (some .boolean) ∈ GW := gw_of (lwt_2 (List.mem_of_getElem? (i := 174) rfl)) (by decide +kernel)
set_option maxRecDepth 100000 in
theorem mw_462 : Cond.methodLink RX9 135 yX1_addMember ∈ GW := gw_of (lwt_2 (List.mem_of_getElem? (i := 175) rfl)) (by decide +kernel)
set_option maxRecDepth 100000 in
theorem mw_463 : Cond.instanceMethod yX1_addMember ∈ GW := gw_of (lwt_2 (List.mem_of_getElem? (i := 176) rfl)) (by decide +kernel)
set_option maxRecDepth 100000 in
theorem mw_464 : Cond.selects RX1 yX1_addMember yX1_addMember ∈ GW := gw_of (lwt_2 (List.mem_of_getElem? (i := 177) rfl)) (by decide +kernel)
set_option maxRecDepth 100000 in
theorem mw_465 : Cond.code yX1_addMember cX1_addMember 2 none ∈ GW := gw_of (lwt_2 (List.mem_of_getElem? (i := 178) rfl)) (by decide +kernel)
set_option maxRecDepth 100000 in
theorem mw_474 : Cond.constant RX9 142 (-100000) ∈ GW := gw_of (lwt_2 (List.mem_of_getElem? (i := 187) rfl)) (by decide +kernel)
set_option maxRecDepth 100000 in
theorem mw_475 : Cond.methodLink RX9 143 yX6_find ∈ GW := gw_of (lwt_2 (List.mem_of_getElem? (i := 188) rfl)) (by decide +kernel)
set_option maxRecDepth 100000 in
theorem mw_476 : Cond.instanceMethod yX6_find ∈ GW := gw_of (lwt_2 (List.mem_of_getElem? (i := 189) rfl)) (by decide +kernel)
set_option maxRecDepth 100000 in
theorem mw_477 : Cond.selects RX6 yX6_find yX6_find ∈ GW := gw_of (lwt_2 (List.mem_of_getElem? (i := 190) rfl)) (by decide +kernel)
set_option maxRecDepth 100000 in
theorem mw_478 : Cond.code yX6_find cX6_find 3 (some .boolean) ∈ GW := gw_of (lwt_2 (List.mem_of_getElem? (i := 191) rfl)) (by decide +kernel)
set_option maxRecDepth 100000 in
theorem mw_479 : Cond.methodLink RX6 65 yX1_seatCount ∈ GW := gw_of (lwt_2 (List.mem_of_getElem? (i := 192) rfl)) (by decide +kernel)
set_option maxRecDepth 100000 in
theorem mw_480 : Cond.instanceMethod yX1_seatCount ∈ GW := gw_of (lwt_2 (List.mem_of_getElem? (i := 193) rfl)) (by decide +kernel)
set_option maxRecDepth 100000 in
theorem mw_481 : Cond.selects RX1 yX1_seatCount yX1_seatCount ∈ GW := gw_of (lwt_2 (List.mem_of_getElem? (i := 194) rfl)) (by decide +kernel)
set_option maxRecDepth 100000 in
theorem mw_482 : Cond.code yX1_seatCount cX1_seatCount 1 (some .int) ∈ GW := gw_of (lwt_2 (List.mem_of_getElem? (i := 195) rfl)) (by decide +kernel)
set_option maxRecDepth 100000 in
theorem mw_483 : Cond.methodLink RX6 71 Lib.Math.min.name ∈ GW := gw_of (lwt_2 (List.mem_of_getElem? (i := 196) rfl)) (by decide +kernel)
set_option maxRecDepth 100000 in
theorem mw_484 : Cond.static Lib.Math.min.name ∈ GW := gw_of (lwt_2 (List.mem_of_getElem? (i := 197) rfl)) (by decide +kernel)
set_option maxRecDepth 100000 in
theorem mw_485 : Cond.code Lib.Math.min.name Lib.Math.min.code 2 (some .int) ∈ GW := gw_of (lwt_2 (List.mem_of_getElem? (i := 198) rfl)) (by decide +kernel)
set_option maxRecDepth 100000 in
theorem mw_486 : Cond.methodLink RX6 80 yX6_loadMembers ∈ GW := gw_of (lwt_2 (List.mem_of_getElem? (i := 199) rfl)) (by decide +kernel)
set_option maxRecDepth 100000 in
theorem mw_488 : Cond.instanceMethod yX6_loadMembers ∈ GW := gw_of (lwt_2 (List.mem_of_getElem? (i := 201) rfl)) (by decide +kernel)
set_option maxRecDepth 100000 in
theorem mw_489 : Cond.code yX6_loadMembers cX6_loadMembers 6 none ∈ GW := gw_of (lwt_2 (List.mem_of_getElem? (i := 202) rfl)) (by decide +kernel)
set_option maxRecDepth 100000 in
theorem mw_490 : Cond.methodLink RX6 104 yX4_areFriends ∈ GW := gw_of (lwt_2 (List.mem_of_getElem? (i := 203) rfl)) (by decide +kernel)
set_option maxRecDepth 100000 in
theorem mw_491 : Cond.methodLink RX6 84 yX6_loadBounds ∈ GW := gw_of (lwt_2 (List.mem_of_getElem? (i := 204) rfl)) (by decide +kernel)
set_option maxRecDepth 100000 in
theorem mw_493 : Cond.instanceMethod yX6_loadBounds ∈ GW := gw_of (lwt_2 (List.mem_of_getElem? (i := 206) rfl)) (by decide +kernel)
set_option maxRecDepth 100000 in
theorem mw_494 : Cond.code yX6_loadBounds cX6_loadBounds 11 none ∈ GW := gw_of (lwt_2 (List.mem_of_getElem? (i := 207) rfl)) (by decide +kernel)
set_option maxRecDepth 100000 in
theorem mw_495 : Cond.methodLink RX6 108 Lib.Math.max.name ∈ GW := gw_of (lwt_2 (List.mem_of_getElem? (i := 208) rfl)) (by decide +kernel)
set_option maxRecDepth 100000 in
theorem mw_496 : Cond.static Lib.Math.max.name ∈ GW := gw_of (lwt_2 (List.mem_of_getElem? (i := 209) rfl)) (by decide +kernel)
set_option maxRecDepth 100000 in
theorem mw_497 : Cond.code Lib.Math.max.name Lib.Math.max.code 2 (some .int) ∈ GW := gw_of (lwt_2 (List.mem_of_getElem? (i := 210) rfl)) (by decide +kernel)
set_option maxRecDepth 100000 in
theorem mw_498 : Cond.methodLink RX6 113 yX1_pitchFactor ∈ GW := gw_of (lwt_2 (List.mem_of_getElem? (i := 211) rfl)) (by decide +kernel)
set_option maxRecDepth 100000 in
theorem mw_499 : Cond.instanceMethod yX1_pitchFactor ∈ GW := gw_of (lwt_2 (List.mem_of_getElem? (i := 212) rfl)) (by decide +kernel)
set_option maxRecDepth 100000 in
theorem mw_500 : Cond.selects RX1 yX1_pitchFactor yX1_pitchFactor ∈ GW := gw_of (lwt_2 (List.mem_of_getElem? (i := 213) rfl)) (by decide +kernel)
set_option maxRecDepth 100000 in
theorem mw_501 : Cond.code yX1_pitchFactor cX1_pitchFactor 2 (some .int) ∈ GW := gw_of (lwt_2 (List.mem_of_getElem? (i := 214) rfl)) (by decide +kernel)
set_option maxRecDepth 100000 in
theorem mw_502 : Cond.methodLink RX6 116 yX1_middleFactor ∈ GW := gw_of (lwt_2 (List.mem_of_getElem? (i := 215) rfl)) (by decide +kernel)
set_option maxRecDepth 100000 in
theorem mw_503 : Cond.instanceMethod yX1_middleFactor ∈ GW := gw_of (lwt_2 (List.mem_of_getElem? (i := 216) rfl)) (by decide +kernel)
set_option maxRecDepth 100000 in
theorem mw_504 : Cond.selects RX1 yX1_middleFactor yX1_middleFactor ∈ GW := gw_of (lwt_2 (List.mem_of_getElem? (i := 217) rfl)) (by decide +kernel)
set_option maxRecDepth 100000 in
theorem mw_505 : Cond.code yX1_middleFactor cX1_middleFactor 2 (some .int) ∈ GW := gw_of (lwt_2 (List.mem_of_getElem? (i := 218) rfl)) (by decide +kernel)
set_option maxRecDepth 100000 in
theorem mw_506 : Cond.methodLink RX1 39 Lib.Math.min.name ∈ GW := gw_of (lwt_2 (List.mem_of_getElem? (i := 219) rfl)) (by decide +kernel)
set_option maxRecDepth 100000 in
theorem mw_507 : Cond.methodLink RX6 88 yX1_drummerPitch ∈ GW := gw_of (lwt_2 (List.mem_of_getElem? (i := 220) rfl)) (by decide +kernel)
set_option maxRecDepth 100000 in
theorem mw_508 : Cond.instanceMethod yX1_drummerPitch ∈ GW := gw_of (lwt_2 (List.mem_of_getElem? (i := 221) rfl)) (by decide +kernel)
set_option maxRecDepth 100000 in
theorem mw_509 : Cond.selects RX1 yX1_drummerPitch yX1_drummerPitch ∈ GW := gw_of (lwt_2 (List.mem_of_getElem? (i := 222) rfl)) (by decide +kernel)
set_option maxRecDepth 100000 in
theorem mw_510 : Cond.code yX1_drummerPitch cX1_drummerPitch 1 (some .int) ∈ GW := gw_of (lwt_2 (List.mem_of_getElem? (i := 223) rfl)) (by decide +kernel)
set_option maxRecDepth 100000 in
theorem mw_511 : Cond.methodLink RX6 91 yX6_fillFrom ∈ GW := gw_of (lwt_2 (List.mem_of_getElem? (i := 224) rfl)) (by decide +kernel)
set_option maxRecDepth 100000 in
theorem mw_512 : Cond.static yX6_fillFrom ∈ GW := gw_of (lwt_2 (List.mem_of_getElem? (i := 225) rfl)) (by decide +kernel)
set_option maxRecDepth 100000 in
theorem mw_513 : Cond.code yX6_fillFrom cX6_fillFrom 8 none ∈ GW := gw_of (lwt_2 (List.mem_of_getElem? (i := 226) rfl)) (by decide +kernel)
set_option maxRecDepth 100000 in
theorem mw_514 : Cond.methodLink RX6 118 yX6_leastFrom ∈ GW := gw_of (lwt_2 (List.mem_of_getElem? (i := 227) rfl)) (by decide +kernel)
set_option maxRecDepth 100000 in
theorem mw_516 : Cond.instanceMethod yX6_leastFrom ∈ GW := gw_of (lwt_2 (List.mem_of_getElem? (i := 229) rfl)) (by decide +kernel)
set_option maxRecDepth 100000 in
theorem mw_517 : Cond.code yX6_leastFrom cX6_leastFrom 5 (some .int) ∈ GW := gw_of (lwt_2 (List.mem_of_getElem? (i := 230) rfl)) (by decide +kernel)
set_option maxRecDepth 100000 in
theorem mw_518 : Cond.methodLink RX6 132 yX6_leastSize ∈ GW := gw_of (lwt_2 (List.mem_of_getElem? (i := 231) rfl)) (by decide +kernel)
set_option maxRecDepth 100000 in
theorem mw_519 : Cond.static yX6_leastSize ∈ GW := gw_of (lwt_2 (List.mem_of_getElem? (i := 232) rfl)) (by decide +kernel)
set_option maxRecDepth 100000 in
theorem mw_520 : Cond.code yX6_leastSize cX6_leastSize 2 (some .int) ∈ GW := gw_of (lwt_2 (List.mem_of_getElem? (i := 233) rfl)) (by decide +kernel)
set_option maxRecDepth 100000 in
theorem mw_521 : Cond.methodLink RX6 122 Lib.Math.abs.name ∈ GW := gw_of (lwt_2 (List.mem_of_getElem? (i := 234) rfl)) (by decide +kernel)
set_option maxRecDepth 100000 in
theorem mw_522 : Cond.static Lib.Math.abs.name ∈ GW := gw_of (lwt_2 (List.mem_of_getElem? (i := 235) rfl)) (by decide +kernel)
set_option maxRecDepth 100000 in
theorem mw_523 : Cond.code Lib.Math.abs.name Lib.Math.abs.code 1 (some .int) ∈ GW := gw_of (lwt_2 (List.mem_of_getElem? (i := 236) rfl)) (by decide +kernel)
set_option maxRecDepth 100000 in
theorem mw_524 : Cond.methodLink RX6 125 yX6_keepChosen ∈ GW := gw_of (lwt_2 (List.mem_of_getElem? (i := 237) rfl)) (by decide +kernel)
set_option maxRecDepth 100000 in
theorem mw_526 : Cond.instanceMethod yX6_keepChosen ∈ GW := gw_of (lwt_2 (List.mem_of_getElem? (i := 239) rfl)) (by decide +kernel)
set_option maxRecDepth 100000 in
theorem mw_527 : Cond.code yX6_keepChosen cX6_keepChosen 3 none ∈ GW := gw_of (lwt_3 (List.mem_of_getElem? (i := 0) rfl)) (by decide +kernel)
set_option maxRecDepth 100000 in
theorem mw_528 : Cond.methodLink RX6 129 yX6_gainOf ∈ GW := gw_of (lwt_3 (List.mem_of_getElem? (i := 1) rfl)) (by decide +kernel)
set_option maxRecDepth 100000 in
theorem mw_530 : Cond.instanceMethod yX6_gainOf ∈ GW := gw_of (lwt_3 (List.mem_of_getElem? (i := 3) rfl)) (by decide +kernel)
set_option maxRecDepth 100000 in
theorem mw_531 : Cond.code yX6_gainOf cX6_gainOf 5 (some .int) ∈ GW := gw_of (lwt_3 (List.mem_of_getElem? (i := 4) rfl)) (by decide +kernel)
set_option maxRecDepth 100000 in
theorem mw_532 : Cond.constant RX9 151 (-100001) ∈ GW := gw_of (lwt_3 (List.mem_of_getElem? (i := 5) rfl)) (by decide +kernel)
set_option maxRecDepth 100000 in
theorem mw_533 : Cond.methodLink RX9 152 yX6_copyBestTo ∈ GW := gw_of (lwt_3 (List.mem_of_getElem? (i := 6) rfl)) (by decide +kernel)
set_option maxRecDepth 100000 in
theorem mw_534 : Cond.instanceMethod yX6_copyBestTo ∈ GW := gw_of (lwt_3 (List.mem_of_getElem? (i := 7) rfl)) (by decide +kernel)
set_option maxRecDepth 100000 in
theorem mw_535 : Cond.selects RX6 yX6_copyBestTo yX6_copyBestTo ∈ GW := gw_of (lwt_3 (List.mem_of_getElem? (i := 8) rfl)) (by decide +kernel)
set_option maxRecDepth 100000 in
theorem mw_536 : Cond.code yX6_copyBestTo cX6_copyBestTo 3 none ∈ GW := gw_of (lwt_3 (List.mem_of_getElem? (i := 9) rfl)) (by decide +kernel)
set_option maxRecDepth 100000 in
theorem mw_545 : Cond.methodLink RX9 162 yX8_weigh ∈ GW := gw_of (lwt_3 (List.mem_of_getElem? (i := 18) rfl)) (by decide +kernel)
set_option maxRecDepth 100000 in
theorem mw_546 : Cond.instanceMethod yX8_weigh ∈ GW := gw_of (lwt_3 (List.mem_of_getElem? (i := 19) rfl)) (by decide +kernel)
set_option maxRecDepth 100000 in
theorem mw_547 : Cond.selects RX8 yX8_weigh yX8_weigh ∈ GW := gw_of (lwt_3 (List.mem_of_getElem? (i := 20) rfl)) (by decide +kernel)
set_option maxRecDepth 100000 in
theorem mw_548 : Cond.code yX8_weigh cX8_weigh 8 none ∈ GW := gw_of (lwt_3 (List.mem_of_getElem? (i := 21) rfl)) (by decide +kernel)
set_option maxRecDepth 100000 in
theorem mw_549 : Cond.methodLink RX8 22 yX1_drummerPitch ∈ GW := gw_of (lwt_3 (List.mem_of_getElem? (i := 22) rfl)) (by decide +kernel)
set_option maxRecDepth 100000 in
theorem mw_550 : Cond.methodLink RX8 40 yX1_pitchFactor ∈ GW := gw_of (lwt_3 (List.mem_of_getElem? (i := 23) rfl)) (by decide +kernel)
set_option maxRecDepth 100000 in
theorem mw_551 : Cond.methodLink RX8 47 yX1_middleFactor ∈ GW := gw_of (lwt_3 (List.mem_of_getElem? (i := 24) rfl)) (by decide +kernel)
set_option maxRecDepth 100000 in
theorem mw_552 : Cond.methodLink RX8 50 yX4_areFriends ∈ GW := gw_of (lwt_3 (List.mem_of_getElem? (i := 25) rfl)) (by decide +kernel)
set_option maxRecDepth 100000 in
theorem mw_553 : Cond.methodLink RX8 54 Lib.Math.abs.name ∈ GW := gw_of (lwt_3 (List.mem_of_getElem? (i := 26) rfl)) (by decide +kernel)
set_option maxRecDepth 100000 in
theorem mw_558 : Cond.methodLink RX9 178 yX1_seatCount ∈ GW := gw_of (lwt_3 (List.mem_of_getElem? (i := 31) rfl)) (by decide +kernel)
set_option maxRecDepth 100000 in
theorem mw_559 : Cond.methodLink RX9 182 yX4_maySit ∈ GW := gw_of (lwt_3 (List.mem_of_getElem? (i := 32) rfl)) (by decide +kernel)
set_option maxRecDepth 100000 in
theorem mw_560 : Cond.instanceMethod yX4_maySit ∈ GW := gw_of (lwt_3 (List.mem_of_getElem? (i := 33) rfl)) (by decide +kernel)
set_option maxRecDepth 100000 in
theorem mw_561 : Cond.selects RX4 yX4_maySit yX4_maySit ∈ GW := gw_of (lwt_3 (List.mem_of_getElem? (i := 34) rfl)) (by decide +kernel)
set_option maxRecDepth 100000 in
theorem mw_562 : Cond.code yX4_maySit cX4_maySit 3 (some .boolean) ∈ GW := gw_of (lwt_3 (List.mem_of_getElem? (i := 35) rfl)) (by decide +kernel)
set_option maxRecDepth 100000 in
theorem mw_563 : Cond.methodLink RX9 185 yX1_swapSeats ∈ GW := gw_of (lwt_3 (List.mem_of_getElem? (i := 36) rfl)) (by decide +kernel)
set_option maxRecDepth 100000 in
theorem mw_564 : Cond.instanceMethod yX1_swapSeats ∈ GW := gw_of (lwt_3 (List.mem_of_getElem? (i := 37) rfl)) (by decide +kernel)
set_option maxRecDepth 100000 in
theorem mw_565 : Cond.selects RX1 yX1_swapSeats yX1_swapSeats ∈ GW := gw_of (lwt_3 (List.mem_of_getElem? (i := 38) rfl)) (by decide +kernel)
set_option maxRecDepth 100000 in
theorem mw_566 : Cond.code yX1_swapSeats cX1_swapSeats 4 none ∈ GW := gw_of (lwt_3 (List.mem_of_getElem? (i := 39) rfl)) (by decide +kernel)
set_option maxRecDepth 100000 in
theorem mw_567 : Cond.methodLink RX9 189 yX8_tilt ∈ GW := gw_of (lwt_3 (List.mem_of_getElem? (i := 40) rfl)) (by decide +kernel)
set_option maxRecDepth 100000 in
theorem mw_568 : Cond.instanceMethod yX8_tilt ∈ GW := gw_of (lwt_3 (List.mem_of_getElem? (i := 41) rfl)) (by decide +kernel)
set_option maxRecDepth 100000 in
theorem mw_569 : Cond.selects RX8 yX8_tilt yX8_tilt ∈ GW := gw_of (lwt_3 (List.mem_of_getElem? (i := 42) rfl)) (by decide +kernel)
set_option maxRecDepth 100000 in
theorem mw_570 : Cond.code yX8_tilt cX8_tilt 1 (some .int) ∈ GW := gw_of (lwt_3 (List.mem_of_getElem? (i := 43) rfl)) (by decide +kernel)
set_option maxRecDepth 100000 in
theorem mw_575 : Cond.methodLink RX9 193 yX7_append ∈ GW := gw_of (lwt_3 (List.mem_of_getElem? (i := 48) rfl)) (by decide +kernel)
set_option maxRecDepth 100000 in
theorem mw_576 : Cond.instanceMethod yX7_append ∈ GW := gw_of (lwt_3 (List.mem_of_getElem? (i := 49) rfl)) (by decide +kernel)
set_option maxRecDepth 100000 in
theorem mw_577 : Cond.selects RX7 yX7_append yX7_append ∈ GW := gw_of (lwt_3 (List.mem_of_getElem? (i := 50) rfl)) (by decide +kernel)
set_option maxRecDepth 100000 in
theorem mw_578 : Cond.code yX7_append cX7_append 5 none ∈ GW := gw_of (lwt_3 (List.mem_of_getElem? (i := 51) rfl)) (by decide +kernel)
set_option maxRecDepth 100000 in
theorem mw_579 : Cond.constantLong RX7 22 255 ∈ GW := gw_of (lwt_3 (List.mem_of_getElem? (i := 52) rfl)) (by decide +kernel)
set_option maxRecDepth 100000 in
theorem mw_584 : Cond.methodLink RX9 197 yX7_readInto ∈ GW := gw_of (lwt_3 (List.mem_of_getElem? (i := 57) rfl)) (by decide +kernel)
set_option maxRecDepth 100000 in
theorem mw_585 : Cond.instanceMethod yX7_readInto ∈ GW := gw_of (lwt_3 (List.mem_of_getElem? (i := 58) rfl)) (by decide +kernel)
set_option maxRecDepth 100000 in
theorem mw_586 : Cond.selects RX7 yX7_readInto yX7_readInto ∈ GW := gw_of (lwt_3 (List.mem_of_getElem? (i := 59) rfl)) (by decide +kernel)
set_option maxRecDepth 100000 in
theorem mw_587 : Cond.code yX7_readInto cX7_readInto 3 (some .boolean) ∈ GW := gw_of (lwt_3 (List.mem_of_getElem? (i := 60) rfl)) (by decide +kernel)
set_option maxRecDepth 100000 in
theorem mw_588 : Cond.methodLink RX7 33 yX7_readTest ∈ GW := gw_of (lwt_3 (List.mem_of_getElem? (i := 61) rfl)) (by decide +kernel)
set_option maxRecDepth 100000 in
theorem mw_590 : Cond.instanceMethod yX7_readTest ∈ GW := gw_of (lwt_3 (List.mem_of_getElem? (i := 63) rfl)) (by decide +kernel)
set_option maxRecDepth 100000 in
theorem mw_591 : Cond.code yX7_readTest cX7_readTest 4 (some .boolean) ∈ GW := gw_of (lwt_3 (List.mem_of_getElem? (i := 64) rfl)) (by decide +kernel)
set_option maxRecDepth 100000 in
theorem mw_592 : Cond.methodLink RX7 44 yX7_readWord ∈ GW := gw_of (lwt_3 (List.mem_of_getElem? (i := 65) rfl)) (by decide +kernel)
set_option maxRecDepth 100000 in
theorem mw_594 : Cond.instanceMethod yX7_readWord ∈ GW := gw_of (lwt_3 (List.mem_of_getElem? (i := 67) rfl)) (by decide +kernel)
set_option maxRecDepth 100000 in
theorem mw_595 : Cond.code yX7_readWord cX7_readWord 7 (some .int) ∈ GW := gw_of (lwt_3 (List.mem_of_getElem? (i := 68) rfl)) (by decide +kernel)
set_option maxRecDepth 100000 in
theorem mw_596 : Cond.methodLink RX7 74 yX7_wordOf ∈ GW := gw_of (lwt_3 (List.mem_of_getElem? (i := 69) rfl)) (by decide +kernel)
set_option maxRecDepth 100000 in
theorem mw_597 : Cond.static yX7_wordOf ∈ GW := gw_of (lwt_3 (List.mem_of_getElem? (i := 70) rfl)) (by decide +kernel)
set_option maxRecDepth 100000 in
theorem mw_598 : Cond.code yX7_wordOf cX7_wordOf 1 (some (.object "java/lang/String")) ∈ GW := gw_of (lwt_3 (List.mem_of_getElem? (i := 71) rfl)) (by decide +kernel)
set_option maxRecDepth 100000 in
theorem mw_608 : Cond.methodLink RX7 60 yX7_peek ∈ GW := gw_of (lwt_3 (List.mem_of_getElem? (i := 81) rfl)) (by decide +kernel)
set_option maxRecDepth 100000 in
theorem mw_610 : Cond.instanceMethod yX7_peek ∈ GW := gw_of (lwt_3 (List.mem_of_getElem? (i := 83) rfl)) (by decide +kernel)
set_option maxRecDepth 100000 in
theorem mw_611 : Cond.code yX7_peek cX7_peek 1 (some .int) ∈ GW := gw_of (lwt_3 (List.mem_of_getElem? (i := 84) rfl)) (by decide +kernel)
set_option maxRecDepth 100000 in
theorem mw_612 : Cond.methodLink RX7 78 yX7_hasSign ∈ GW := gw_of (lwt_3 (List.mem_of_getElem? (i := 85) rfl)) (by decide +kernel)
set_option maxRecDepth 100000 in
theorem mw_613 : Cond.static yX7_hasSign ∈ GW := gw_of (lwt_3 (List.mem_of_getElem? (i := 86) rfl)) (by decide +kernel)
set_option maxRecDepth 100000 in
theorem mw_614 : Cond.code yX7_hasSign cX7_hasSign 3 (some .boolean) ∈ GW := gw_of (lwt_3 (List.mem_of_getElem? (i := 87) rfl)) (by decide +kernel)
set_option maxRecDepth 100000 in
theorem mw_615 : Cond.methodLink RX7 82 yJ0_length_8abf5 ∈ GW := gw_of (lwt_3 (List.mem_of_getElem? (i := 88) rfl)) (by decide +kernel)
set_option maxRecDepth 100000 in
theorem mw_616 : Cond.instanceMethod yJ0_length_8abf5 ∈ GW := gw_of (lwt_3 (List.mem_of_getElem? (i := 89) rfl)) (by decide +kernel)
set_option maxRecDepth 100000 in
theorem mw_617 : Cond.selects RJ0 yJ0_length_8abf5 yJ0_length_8abf5 ∈ GW := gw_of (lwt_3 (List.mem_of_getElem? (i := 90) rfl)) (by decide +kernel)
set_option maxRecDepth 100000 in
theorem mw_618 : Cond.code yJ0_length_8abf5 cJ0_length_8abf5 1 (some .int) ∈ GW := gw_of (lwt_3 (List.mem_of_getElem? (i := 91) rfl)) (by decide +kernel)
set_option maxRecDepth 100000 in
theorem mw_619 : Cond.methodLink RJ0 335 yJ0_coder_7d493 ∈ GW := gw_of (lwt_3 (List.mem_of_getElem? (i := 92) rfl)) (by decide +kernel)
set_option maxRecDepth 100000 in
theorem mw_620 : Cond.instanceMethod yJ0_coder_7d493 ∈ GW := gw_of (lwt_3 (List.mem_of_getElem? (i := 93) rfl)) (by decide +kernel)
set_option maxRecDepth 100000 in
theorem mw_621 : Cond.selects RJ0 yJ0_coder_7d493 yJ0_coder_7d493 ∈ GW := gw_of (lwt_3 (List.mem_of_getElem? (i := 94) rfl)) (by decide +kernel)
set_option maxRecDepth 100000 in
theorem mw_622 : Cond.code yJ0_coder_7d493 cJ0_coder_7d493 1 (some .byte) ∈ GW := gw_of (lwt_3 (List.mem_of_getElem? (i := 95) rfl)) (by decide +kernel)
set_option maxRecDepth 100000 in
theorem mw_623 : Cond.fieldLink RJ0 38 "java/lang/String" "COMPACT_STRINGS" "Z" ∈ GW := gw_of (lwt_3 (List.mem_of_getElem? (i := 96) rfl)) (by decide +kernel)
set_option maxRecDepth 100000 in
theorem mw_625 : Cond.methodLink RX7 87 yJ0_charAt_5068e ∈ GW := gw_of (lwt_3 (List.mem_of_getElem? (i := 98) rfl)) (by decide +kernel)
set_option maxRecDepth 100000 in
theorem mw_626 : Cond.instanceMethod yJ0_charAt_5068e ∈ GW := gw_of (lwt_3 (List.mem_of_getElem? (i := 99) rfl)) (by decide +kernel)
set_option maxRecDepth 100000 in
theorem mw_627 : Cond.selects RJ0 yJ0_charAt_5068e yJ0_charAt_5068e ∈ GW := gw_of (lwt_3 (List.mem_of_getElem? (i := 100) rfl)) (by decide +kernel)
set_option maxRecDepth 100000 in
theorem mw_628 : Cond.code yJ0_charAt_5068e cJ0_charAt_5068e 2 (some .char) ∈ GW := gw_of (lwt_3 (List.mem_of_getElem? (i := 101) rfl)) (by decide +kernel)
set_option maxRecDepth 100000 in
theorem mw_629 : Cond.methodLink RJ0 492 yJ0_isLatin1_aae02 ∈ GW := gw_of (lwt_3 (List.mem_of_getElem? (i := 102) rfl)) (by decide +kernel)
set_option maxRecDepth 100000 in
theorem mw_630 : Cond.instanceMethod yJ0_isLatin1_aae02 ∈ GW := gw_of (lwt_3 (List.mem_of_getElem? (i := 103) rfl)) (by decide +kernel)
set_option maxRecDepth 100000 in
theorem mw_631 : Cond.selects RJ0 yJ0_isLatin1_aae02 yJ0_isLatin1_aae02 ∈ GW := gw_of (lwt_3 (List.mem_of_getElem? (i := 104) rfl)) (by decide +kernel)
set_option maxRecDepth 100000 in
theorem mw_632 : Cond.code yJ0_isLatin1_aae02 cJ0_isLatin1_aae02 1 (some .boolean) ∈ GW := gw_of (lwt_3 (List.mem_of_getElem? (i := 105) rfl)) (by decide +kernel)
set_option maxRecDepth 100000 in
theorem mw_633 : Cond.methodLink RJ0 495 yJ1_charAt_3b067 ∈ GW := gw_of (lwt_3 (List.mem_of_getElem? (i := 106) rfl)) (by decide +kernel)
set_option maxRecDepth 100000 in
theorem mw_634 : Cond.static yJ1_charAt_3b067 ∈ GW := gw_of (lwt_3 (List.mem_of_getElem? (i := 107) rfl)) (by decide +kernel)
set_option maxRecDepth 100000 in
theorem mw_635 : Cond.code yJ1_charAt_3b067 cJ1_charAt_3b067 2 (some .char) ∈ GW := gw_of (lwt_3 (List.mem_of_getElem? (i := 108) rfl)) (by decide +kernel)
set_option maxRecDepth 100000 in
theorem mw_636 : Cond.methodLink RJ1 9 yJ0_checkIndex_df160 ∈ GW := gw_of (lwt_3 (List.mem_of_getElem? (i := 109) rfl)) (by decide +kernel)
set_option maxRecDepth 100000 in
theorem mw_637 : Cond.static yJ0_checkIndex_df160 ∈ GW := gw_of (lwt_3 (List.mem_of_getElem? (i := 110) rfl)) (by decide +kernel)
set_option maxRecDepth 100000 in
theorem mw_638 : Cond.code yJ0_checkIndex_df160 cJ0_checkIndex_df160 2 none ∈ GW := gw_of (lwt_3 (List.mem_of_getElem? (i := 111) rfl)) (by decide +kernel)
set_option maxRecDepth 100000 in
theorem mw_639 : Cond.fieldLink RJ0 1053 "jdk/internal/util/Preconditions" "SIOOBE_FORMATTER" "Ljava/util/function/BiFunction;" ∈ GW := gw_of (lwt_3 (List.mem_of_getElem? (i := 112) rfl)) (by decide +kernel)
set_option maxRecDepth 100000 in
theorem mw_641 : Cond.methodLink RJ0 1059 yJ3_checkIndex_8e157 ∈ GW := gw_of (lwt_3 (List.mem_of_getElem? (i := 114) rfl)) (by decide +kernel)
set_option maxRecDepth 100000 in
theorem mw_642 : Cond.static yJ3_checkIndex_8e157 ∈ GW := gw_of (lwt_3 (List.mem_of_getElem? (i := 115) rfl)) (by decide +kernel)
set_option maxRecDepth 100000 in
theorem mw_643 : Cond.code yJ3_checkIndex_8e157 cJ3_checkIndex_8e157 3 (some .int) ∈ GW := gw_of (lwt_3 (List.mem_of_getElem? (i := 116) rfl)) (by decide +kernel)
set_option maxRecDepth 100000 in
theorem mw_663 : Cond.methodLink RX7 40 yX7_readBlank ∈ GW := gw_of (lwt_3 (List.mem_of_getElem? (i := 136) rfl)) (by decide +kernel)
set_option maxRecDepth 100000 in
theorem mw_665 : Cond.instanceMethod yX7_readBlank ∈ GW := gw_of (lwt_3 (List.mem_of_getElem? (i := 138) rfl)) (by decide +kernel)
set_option maxRecDepth 100000 in
theorem mw_666 : Cond.code yX7_readBlank cX7_readBlank 1 (some .boolean) ∈ GW := gw_of (lwt_3 (List.mem_of_getElem? (i := 139) rfl)) (by decide +kernel)
set_option maxRecDepth 100000 in
theorem mw_667 : Cond.methodLink RX7 54 yX7_readSign ∈ GW := gw_of (lwt_3 (List.mem_of_getElem? (i := 140) rfl)) (by decide +kernel)
set_option maxRecDepth 100000 in
theorem mw_669 : Cond.instanceMethod yX7_readSign ∈ GW := gw_of (lwt_3 (List.mem_of_getElem? (i := 142) rfl)) (by decide +kernel)
set_option maxRecDepth 100000 in
theorem mw_670 : Cond.code yX7_readSign cX7_readSign 4 (some .boolean) ∈ GW := gw_of (lwt_3 (List.mem_of_getElem? (i := 143) rfl)) (by decide +kernel)
set_option maxRecDepth 100000 in
theorem mw_671 : Cond.methodLink RX7 57 yX7_readNumber ∈ GW := gw_of (lwt_3 (List.mem_of_getElem? (i := 144) rfl)) (by decide +kernel)
set_option maxRecDepth 100000 in
theorem mw_673 : Cond.instanceMethod yX7_readNumber ∈ GW := gw_of (lwt_3 (List.mem_of_getElem? (i := 146) rfl)) (by decide +kernel)
set_option maxRecDepth 100000 in
theorem mw_674 : Cond.code yX7_readNumber cX7_readNumber 5 (some .boolean) ∈ GW := gw_of (lwt_3 (List.mem_of_getElem? (i := 147) rfl)) (by decide +kernel)
set_option maxRecDepth 100000 in
theorem mw_676 : Cond.methodLink RX7 37 yX7_readJoint ∈ GW := gw_of (lwt_3 (List.mem_of_getElem? (i := 149) rfl)) (by decide +kernel)
set_option maxRecDepth 100000 in
theorem mw_678 : Cond.instanceMethod yX7_readJoint ∈ GW := gw_of (lwt_3 (List.mem_of_getElem? (i := 151) rfl)) (by decide +kernel)
set_option maxRecDepth 100000 in
theorem mw_679 : Cond.code yX7_readJoint cX7_readJoint 4 (some .boolean) ∈ GW := gw_of (lwt_3 (List.mem_of_getElem? (i := 152) rfl)) (by decide +kernel)
set_option maxRecDepth 100000 in
theorem mw_685 : Cond.methodLink RX9 204 yX9_tallySeated ∈ GW := gw_of (lwt_3 (List.mem_of_getElem? (i := 158) rfl)) (by decide +kernel)
set_option maxRecDepth 100000 in
theorem mw_687 : Cond.instanceMethod yX9_tallySeated ∈ GW := gw_of (lwt_3 (List.mem_of_getElem? (i := 160) rfl)) (by decide +kernel)
set_option maxRecDepth 100000 in
theorem mw_688 : Cond.code yX9_tallySeated cX9_tallySeated 4 none ∈ GW := gw_of (lwt_3 (List.mem_of_getElem? (i := 161) rfl)) (by decide +kernel)
set_option maxRecDepth 100000 in
theorem mw_689 : Cond.methodLink RX9 207 yX5_holds ∈ GW := gw_of (lwt_3 (List.mem_of_getElem? (i := 162) rfl)) (by decide +kernel)
set_option maxRecDepth 100000 in
theorem mw_690 : Cond.instanceMethod yX5_holds ∈ GW := gw_of (lwt_3 (List.mem_of_getElem? (i := 163) rfl)) (by decide +kernel)
set_option maxRecDepth 100000 in
theorem mw_691 : Cond.selects RX5 yX5_holds yX5_holds ∈ GW := gw_of (lwt_3 (List.mem_of_getElem? (i := 164) rfl)) (by decide +kernel)
set_option maxRecDepth 100000 in
theorem mw_692 : Cond.code yX5_holds cX5_holds 5 (some .boolean) ∈ GW := gw_of (lwt_3 (List.mem_of_getElem? (i := 165) rfl)) (by decide +kernel)
set_option maxRecDepth 100000 in
theorem mw_693 : Cond.methodLink RX5 32 yX5_testHolds ∈ GW := gw_of (lwt_3 (List.mem_of_getElem? (i := 166) rfl)) (by decide +kernel)
set_option maxRecDepth 100000 in
theorem mw_695 : Cond.instanceMethod yX5_testHolds ∈ GW := gw_of (lwt_3 (List.mem_of_getElem? (i := 168) rfl)) (by decide +kernel)
set_option maxRecDepth 100000 in
theorem mw_696 : Cond.code yX5_testHolds cX5_testHolds 4 (some .boolean) ∈ GW := gw_of (lwt_3 (List.mem_of_getElem? (i := 169) rfl)) (by decide +kernel)
set_option maxRecDepth 100000 in
theorem mw_705 : Cond.methodLink RX9 211 yX9_isLane ∈ GW := gw_of (lwt_3 (List.mem_of_getElem? (i := 178) rfl)) (by decide +kernel)
set_option maxRecDepth 100000 in
theorem mw_706 : Cond.static yX9_isLane ∈ GW := gw_of (lwt_3 (List.mem_of_getElem? (i := 179) rfl)) (by decide +kernel)
set_option maxRecDepth 100000 in
theorem mw_707 : Cond.code yX9_isLane cX9_isLane 1 (some .boolean) ∈ GW := gw_of (lwt_3 (List.mem_of_getElem? (i := 180) rfl)) (by decide +kernel)
set_option maxRecDepth 100000 in
theorem mw_708 : Cond.methodLink RX9 214 yX9_isMetByOneOf ∈ GW := gw_of (lwt_3 (List.mem_of_getElem? (i := 181) rfl)) (by decide +kernel)
set_option maxRecDepth 100000 in
theorem mw_710 : Cond.instanceMethod yX9_isMetByOneOf ∈ GW := gw_of (lwt_3 (List.mem_of_getElem? (i := 183) rfl)) (by decide +kernel)
set_option maxRecDepth 100000 in
theorem mw_711 : Cond.code yX9_isMetByOneOf cX9_isMetByOneOf 5 (some .boolean) ∈ GW := gw_of (lwt_3 (List.mem_of_getElem? (i := 184) rfl)) (by decide +kernel)
set_option maxRecDepth 100000 in
theorem mw_712 : Cond.methodLink RX9 218 yX9_howManyWait ∈ GW := gw_of (lwt_3 (List.mem_of_getElem? (i := 185) rfl)) (by decide +kernel)
set_option maxRecDepth 100000 in
theorem mw_714 : Cond.instanceMethod yX9_howManyWait ∈ GW := gw_of (lwt_3 (List.mem_of_getElem? (i := 187) rfl)) (by decide +kernel)
set_option maxRecDepth 100000 in
theorem mw_715 : Cond.code yX9_howManyWait cX9_howManyWait 3 (some .int) ∈ GW := gw_of (lwt_3 (List.mem_of_getElem? (i := 188) rfl)) (by decide +kernel)
set_option maxRecDepth 100000 in
theorem mw_720 : Cond.methodLink RX9 221 yX3_set ∈ GW := gw_of (lwt_3 (List.mem_of_getElem? (i := 193) rfl)) (by decide +kernel)
set_option maxRecDepth 100000 in
theorem mw_721 : Cond.instanceMethod yX3_set ∈ GW := gw_of (lwt_3 (List.mem_of_getElem? (i := 194) rfl)) (by decide +kernel)
set_option maxRecDepth 100000 in
theorem mw_722 : Cond.selects RX3 yX3_set yX3_set ∈ GW := gw_of (lwt_3 (List.mem_of_getElem? (i := 195) rfl)) (by decide +kernel)
set_option maxRecDepth 100000 in
theorem mw_723 : Cond.code yX3_set cX3_set 5 none ∈ GW := gw_of (lwt_3 (List.mem_of_getElem? (i := 196) rfl)) (by decide +kernel)
set_option maxRecDepth 100000 in
theorem mw_724 : Cond.methodLink RX9 225 yX9_firstBarring ∈ GW := gw_of (lwt_3 (List.mem_of_getElem? (i := 197) rfl)) (by decide +kernel)
set_option maxRecDepth 100000 in
theorem mw_726 : Cond.instanceMethod yX9_firstBarring ∈ GW := gw_of (lwt_3 (List.mem_of_getElem? (i := 199) rfl)) (by decide +kernel)
set_option maxRecDepth 100000 in
theorem mw_727 : Cond.code yX9_firstBarring cX9_firstBarring 3 (some .int) ∈ GW := gw_of (lwt_3 (List.mem_of_getElem? (i := 200) rfl)) (by decide +kernel)
set_option maxRecDepth 100000 in
theorem mw_728 : Cond.methodLink RX9 272 yX3_minutesTo ∈ GW := gw_of (lwt_3 (List.mem_of_getElem? (i := 201) rfl)) (by decide +kernel)
set_option maxRecDepth 100000 in
theorem mw_729 : Cond.instanceMethod yX3_minutesTo ∈ GW := gw_of (lwt_3 (List.mem_of_getElem? (i := 202) rfl)) (by decide +kernel)
set_option maxRecDepth 100000 in
theorem mw_730 : Cond.selects RX3 yX3_minutesTo yX3_minutesTo ∈ GW := gw_of (lwt_3 (List.mem_of_getElem? (i := 203) rfl)) (by decide +kernel)
set_option maxRecDepth 100000 in
theorem mw_731 : Cond.code yX3_minutesTo cX3_minutesTo 2 (some .int) ∈ GW := gw_of (lwt_3 (List.mem_of_getElem? (i := 204) rfl)) (by decide +kernel)
set_option maxRecDepth 100000 in
theorem mw_732 : Cond.methodLink RX3 36 Lib.Math.abs.name ∈ GW := gw_of (lwt_3 (List.mem_of_getElem? (i := 205) rfl)) (by decide +kernel)
set_option maxRecDepth 100000 in
theorem mw_733 : Cond.methodLink RX9 276 yX9_racesMeet ∈ GW := gw_of (lwt_3 (List.mem_of_getElem? (i := 206) rfl)) (by decide +kernel)
set_option maxRecDepth 100000 in
theorem mw_735 : Cond.instanceMethod yX9_racesMeet ∈ GW := gw_of (lwt_3 (List.mem_of_getElem? (i := 208) rfl)) (by decide +kernel)
set_option maxRecDepth 100000 in
theorem mw_736 : Cond.code yX9_racesMeet cX9_racesMeet 4 (some .boolean) ∈ GW := gw_of (lwt_3 (List.mem_of_getElem? (i := 209) rfl)) (by decide +kernel)
set_option maxRecDepth 100000 in
theorem mw_745 : Cond.methodLink RX9 229 yX9_isRace ∈ GW := gw_of (lwt_3 (List.mem_of_getElem? (i := 218) rfl)) (by decide +kernel)
set_option maxRecDepth 100000 in
theorem mw_747 : Cond.instanceMethod yX9_isRace ∈ GW := gw_of (lwt_3 (List.mem_of_getElem? (i := 220) rfl)) (by decide +kernel)
set_option maxRecDepth 100000 in
theorem mw_748 : Cond.code yX9_isRace cX9_isRace 2 (some .boolean) ∈ GW := gw_of (lwt_3 (List.mem_of_getElem? (i := 221) rfl)) (by decide +kernel)
set_option maxRecDepth 100000 in
theorem mw_749 : Cond.methodLink RX9 241 yX9_goDown ∈ GW := gw_of (lwt_3 (List.mem_of_getElem? (i := 222) rfl)) (by decide +kernel)
set_option maxRecDepth 100000 in
theorem mw_751 : Cond.instanceMethod yX9_goDown ∈ GW := gw_of (lwt_3 (List.mem_of_getElem? (i := 224) rfl)) (by decide +kernel)
set_option maxRecDepth 100000 in
theorem mw_752 : Cond.code yX9_goDown cX9_goDown 6 none ∈ GW := gw_of (lwt_3 (List.mem_of_getElem? (i := 225) rfl)) (by decide +kernel)
set_option maxRecDepth 100000 in
theorem mw_753 : Cond.methodLink RX9 321 Lib.Math.max.name ∈ GW := gw_of (lwt_3 (List.mem_of_getElem? (i := 226) rfl)) (by decide +kernel)
set_option maxRecDepth 100000 in
theorem mw_754 : Cond.methodLink RX9 324 yX0_paddle ∈ GW := gw_of (lwt_3 (List.mem_of_getElem? (i := 227) rfl)) (by decide +kernel)
set_option maxRecDepth 100000 in
theorem mw_755 : Cond.instanceMethod yX0_paddle ∈ GW := gw_of (lwt_3 (List.mem_of_getElem? (i := 228) rfl)) (by decide +kernel)
set_option maxRecDepth 100000 in
theorem mw_756 : Cond.selects RX0 yX0_paddle yX0_paddle ∈ GW := gw_of (lwt_3 (List.mem_of_getElem? (i := 229) rfl)) (by decide +kernel)
set_option maxRecDepth 100000 in
theorem mw_757 : Cond.code yX0_paddle cX0_paddle 10 none ∈ GW := gw_of (lwt_3 (List.mem_of_getElem? (i := 230) rfl)) (by decide +kernel)
set_option maxRecDepth 100000 in
theorem mw_758 : Cond.methodLink RX0 16 yX0_driveOf ∈ GW := gw_of (lwt_3 (List.mem_of_getElem? (i := 231) rfl)) (by decide +kernel)
set_option maxRecDepth 100000 in
theorem mw_759 : Cond.static yX0_driveOf ∈ GW := gw_of (lwt_3 (List.mem_of_getElem? (i := 232) rfl)) (by decide +kernel)
set_option maxRecDepth 100000 in
theorem mw_760 : Cond.code yX0_driveOf cX0_driveOf 5 (some .int) ∈ GW := gw_of (lwt_3 (List.mem_of_getElem? (i := 233) rfl)) (by decide +kernel)
set_option maxRecDepth 100000 in
theorem mw_761 : Cond.methodLink RX0 31 yX1_seatCount ∈ GW := gw_of (lwt_3 (List.mem_of_getElem? (i := 234) rfl)) (by decide +kernel)
set_option maxRecDepth 100000 in
theorem mw_762 : Cond.methodLink RX0 20 Lib.Math.max.name ∈ GW := gw_of (lwt_3 (List.mem_of_getElem? (i := 235) rfl)) (by decide +kernel)
set_option maxRecDepth 100000 in
theorem mw_763 : Cond.methodLink RX9 245 yX3_timeCount ∈ GW := gw_of (lwt_3 (List.mem_of_getElem? (i := 236) rfl)) (by decide +kernel)
set_option maxRecDepth 100000 in
theorem mw_764 : Cond.instanceMethod yX3_timeCount ∈ GW := gw_of (lwt_3 (List.mem_of_getElem? (i := 237) rfl)) (by decide +kernel)
set_option maxRecDepth 100000 in
theorem mw_765 : Cond.selects RX3 yX3_timeCount yX3_timeCount ∈ GW := gw_of (lwt_3 (List.mem_of_getElem? (i := 238) rfl)) (by decide +kernel)
set_option maxRecDepth 100000 in
theorem mw_766 : Cond.code yX3_timeCount cX3_timeCount 3 (some .int) ∈ GW := gw_of (lwt_3 (List.mem_of_getElem? (i := 239) rfl)) (by decide +kernel)
set_option maxRecDepth 100000 in
theorem mw_771 : Cond.constant RX9 248 99999 ∈ GW := gw_of (lwt_4 (List.mem_of_getElem? (i := 4) rfl)) (by decide +kernel)
set_option maxRecDepth 100000 in
theorem mw_776 : Cond.methodLink RX9 252 yX3_placeOf ∈ GW := gw_of (lwt_4 (List.mem_of_getElem? (i := 9) rfl)) (by decide +kernel)
set_option maxRecDepth 100000 in
theorem mw_777 : Cond.instanceMethod yX3_placeOf ∈ GW := gw_of (lwt_4 (List.mem_of_getElem? (i := 10) rfl)) (by decide +kernel)
set_option maxRecDepth 100000 in
theorem mw_778 : Cond.selects RX3 yX3_placeOf yX3_placeOf ∈ GW := gw_of (lwt_4 (List.mem_of_getElem? (i := 11) rfl)) (by decide +kernel)
set_option maxRecDepth 100000 in
theorem mw_779 : Cond.code yX3_placeOf cX3_placeOf 4 (some .int) ∈ GW := gw_of (lwt_4 (List.mem_of_getElem? (i := 12) rfl)) (by decide +kernel)
set_option maxRecDepth 100000 in
theorem mw_784 : Cond.methodLink RX9 258 yX3_forgetTimes ∈ GW := gw_of (lwt_4 (List.mem_of_getElem? (i := 17) rfl)) (by decide +kernel)
set_option maxRecDepth 100000 in
theorem mw_785 : Cond.instanceMethod yX3_forgetTimes ∈ GW := gw_of (lwt_4 (List.mem_of_getElem? (i := 18) rfl)) (by decide +kernel)
set_option maxRecDepth 100000 in
theorem mw_786 : Cond.selects RX3 yX3_forgetTimes yX3_forgetTimes ∈ GW := gw_of (lwt_4 (List.mem_of_getElem? (i := 19) rfl)) (by decide +kernel)
set_option maxRecDepth 100000 in
theorem mw_787 : Cond.code yX3_forgetTimes cX3_forgetTimes 2 none ∈ GW := gw_of (lwt_4 (List.mem_of_getElem? (i := 20) rfl)) (by decide +kernel)
set_option maxRecDepth 100000 in
theorem mw_792 : Cond.methodLink RX9 261 yX3_laneOf ∈ GW := gw_of (lwt_4 (List.mem_of_getElem? (i := 25) rfl)) (by decide +kernel)
set_option maxRecDepth 100000 in
theorem mw_793 : Cond.instanceMethod yX3_laneOf ∈ GW := gw_of (lwt_4 (List.mem_of_getElem? (i := 26) rfl)) (by decide +kernel)
set_option maxRecDepth 100000 in
theorem mw_794 : Cond.selects RX3 yX3_laneOf yX3_laneOf ∈ GW := gw_of (lwt_4 (List.mem_of_getElem? (i := 27) rfl)) (by decide +kernel)
set_option maxRecDepth 100000 in
theorem mw_795 : Cond.code yX3_laneOf cX3_laneOf 3 (some .int) ∈ GW := gw_of (lwt_4 (List.mem_of_getElem? (i := 28) rfl)) (by decide +kernel)
set_option maxRecDepth 100000 in
theorem mw_800 : Cond.methodLink RX9 264 yX2_choose ∈ GW := gw_of (lwt_4 (List.mem_of_getElem? (i := 33) rfl)) (by decide +kernel)
set_option maxRecDepth 100000 in
theorem mw_801 : Cond.instanceMethod yX2_choose ∈ GW := gw_of (lwt_4 (List.mem_of_getElem? (i := 34) rfl)) (by decide +kernel)
set_option maxRecDepth 100000 in
theorem mw_802 : Cond.selects RX2 yX2_choose yX2_choose ∈ GW := gw_of (lwt_4 (List.mem_of_getElem? (i := 35) rfl)) (by decide +kernel)
set_option maxRecDepth 100000 in
theorem mw_803 : Cond.code yX2_choose cX2_choose 6 none ∈ GW := gw_of (lwt_4 (List.mem_of_getElem? (i := 36) rfl)) (by decide +kernel)
set_option maxRecDepth 100000 in
theorem mw_804 : Cond.methodLink RX2 34 yX2_addHeat ∈ GW := gw_of (lwt_4 (List.mem_of_getElem? (i := 37) rfl)) (by decide +kernel)
set_option maxRecDepth 100000 in
theorem mw_806 : Cond.instanceMethod yX2_addHeat ∈ GW := gw_of (lwt_4 (List.mem_of_getElem? (i := 39) rfl)) (by decide +kernel)
set_option maxRecDepth 100000 in
theorem mw_807 : Cond.code yX2_addHeat cX2_addHeat 7 none ∈ GW := gw_of (lwt_4 (List.mem_of_getElem? (i := 40) rfl)) (by decide +kernel)
set_option maxRecDepth 100000 in
theorem mw_809 : Cond.methodLink RX2 55 yX3_placeOf ∈ GW := gw_of (lwt_4 (List.mem_of_getElem? (i := 42) rfl)) (by decide +kernel)
set_option maxRecDepth 100000 in
theorem mw_810 : Cond.methodLink RX2 38 yX2_fasterOthers ∈ GW := gw_of (lwt_4 (List.mem_of_getElem? (i := 43) rfl)) (by decide +kernel)
set_option maxRecDepth 100000 in
theorem mw_812 : Cond.instanceMethod yX2_fasterOthers ∈ GW := gw_of (lwt_4 (List.mem_of_getElem? (i := 45) rfl)) (by decide +kernel)
set_option maxRecDepth 100000 in
theorem mw_813 : Cond.code yX2_fasterOthers cX2_fasterOthers 4 (some .int) ∈ GW := gw_of (lwt_4 (List.mem_of_getElem? (i := 46) rfl)) (by decide +kernel)
set_option maxRecDepth 100000 in
theorem mw_814 : Cond.methodLink RX2 42 yX2_putInOrder ∈ GW := gw_of (lwt_4 (List.mem_of_getElem? (i := 47) rfl)) (by decide +kernel)
set_option maxRecDepth 100000 in
theorem mw_816 : Cond.instanceMethod yX2_putInOrder ∈ GW := gw_of (lwt_4 (List.mem_of_getElem? (i := 49) rfl)) (by decide +kernel)
set_option maxRecDepth 100000 in
theorem mw_817 : Cond.code yX2_putInOrder cX2_putInOrder 2 none ∈ GW := gw_of (lwt_4 (List.mem_of_getElem? (i := 50) rfl)) (by decide +kernel)
set_option maxRecDepth 100000 in
theorem mw_818 : Cond.methodLink RX2 58 yX2_chosenAheadOf ∈ GW := gw_of (lwt_4 (List.mem_of_getElem? (i := 51) rfl)) (by decide +kernel)
set_option maxRecDepth 100000 in
theorem mw_820 : Cond.instanceMethod yX2_chosenAheadOf ∈ GW := gw_of (lwt_4 (List.mem_of_getElem? (i := 53) rfl)) (by decide +kernel)
set_option maxRecDepth 100000 in
theorem mw_821 : Cond.code yX2_chosenAheadOf cX2_chosenAheadOf 5 (some .int) ∈ GW := gw_of (lwt_4 (List.mem_of_getElem? (i := 54) rfl)) (by decide +kernel)
set_option maxRecDepth 100000 in
theorem mw_834 : Cond.constantLong RX9 280 (-9223372036854775808) ∈ GW := gw_of (lwt_4 (List.mem_of_getElem? (i := 67) rfl)) (by decide +kernel)
set_option maxRecDepth 100000 in
theorem mw_835 : Cond.methodLink RX9 282 yX9_leastTimeIn ∈ GW := gw_of (lwt_4 (List.mem_of_getElem? (i := 68) rfl)) (by decide +kernel)
set_option maxRecDepth 100000 in
theorem mw_837 : Cond.instanceMethod yX9_leastTimeIn ∈ GW := gw_of (lwt_4 (List.mem_of_getElem? (i := 70) rfl)) (by decide +kernel)
set_option maxRecDepth 100000 in
theorem mw_838 : Cond.code yX9_leastTimeIn cX9_leastTimeIn 6 (some .int) ∈ GW := gw_of (lwt_4 (List.mem_of_getElem? (i := 71) rfl)) (by decide +kernel)
set_option maxRecDepth 100000 in
theorem mw_839 : Cond.methodLink RX9 286 Lib.MathLoose.abs_long.x ∈ GW := gw_of (lwt_4 (List.mem_of_getElem? (i := 72) rfl)) (by decide +kernel)
set_option maxRecDepth 100000 in
theorem mw_840 : Cond.static Lib.MathLoose.abs_long.x ∈ GW := gw_of (lwt_4 (List.mem_of_getElem? (i := 73) rfl)) (by decide +kernel)
set_option maxRecDepth 100000 in
theorem mw_841 : Cond.code Lib.MathLoose.abs_long.x Lib.MathLoose.abs_long.code 2 (some .long) ∈ GW := gw_of (lwt_4 (List.mem_of_getElem? (i := 74) rfl)) (by decide +kernel)
set_option maxRecDepth 100000 in
theorem mw_842 : Cond.methodLink RX9 292 yX9_commonDivisor ∈ GW := gw_of (lwt_4 (List.mem_of_getElem? (i := 75) rfl)) (by decide +kernel)
set_option maxRecDepth 100000 in
theorem mw_843 : Cond.static yX9_commonDivisor ∈ GW := gw_of (lwt_4 (List.mem_of_getElem? (i := 76) rfl)) (by decide +kernel)
set_option maxRecDepth 100000 in
theorem mw_844 : Cond.code yX9_commonDivisor cX9_commonDivisor 11 (some .long) ∈ GW := gw_of (lwt_4 (List.mem_of_getElem? (i := 77) rfl)) (by decide +kernel)
set_option maxRecDepth 100000 in
theorem mw_849 : Cond.methodLink RX9 296 yX9_pointsOf ∈ GW := gw_of (lwt_4 (List.mem_of_getElem? (i := 82) rfl)) (by decide +kernel)
set_option maxRecDepth 100000 in
theorem mw_851 : Cond.instanceMethod yX9_pointsOf ∈ GW := gw_of (lwt_4 (List.mem_of_getElem? (i := 84) rfl)) (by decide +kernel)
set_option maxRecDepth 100000 in
theorem mw_852 : Cond.code yX9_pointsOf cX9_pointsOf 5 (some .int) ∈ GW := gw_of (lwt_4 (List.mem_of_getElem? (i := 85) rfl)) (by decide +kernel)
set_option maxRecDepth 100000 in
theorem mw_853 : Cond.methodLink RX9 336 yX3_pointsIn ∈ GW := gw_of (lwt_4 (List.mem_of_getElem? (i := 86) rfl)) (by decide +kernel)
set_option maxRecDepth 100000 in
theorem mw_854 : Cond.instanceMethod yX3_pointsIn ∈ GW := gw_of (lwt_4 (List.mem_of_getElem? (i := 87) rfl)) (by decide +kernel)
set_option maxRecDepth 100000 in
theorem mw_855 : Cond.selects RX3 yX3_pointsIn yX3_pointsIn ∈ GW := gw_of (lwt_4 (List.mem_of_getElem? (i := 88) rfl)) (by decide +kernel)
set_option maxRecDepth 100000 in
theorem mw_856 : Cond.code yX3_pointsIn cX3_pointsIn 7 (some .int) ∈ GW := gw_of (lwt_4 (List.mem_of_getElem? (i := 89) rfl)) (by decide +kernel)
set_option maxRecDepth 100000 in
theorem mw_857 : Cond.methodLink RX3 42 yX3_placeOf ∈ GW := gw_of (lwt_4 (List.mem_of_getElem? (i := 90) rfl)) (by decide +kernel)
set_option maxRecDepth 100000 in
theorem mw_864 : Cond.methodLink RX9 299 yX9_crewsAheadOf ∈ GW := gw_of (lwt_4 (List.mem_of_getElem? (i := 97) rfl)) (by decide +kernel)
set_option maxRecDepth 100000 in
theorem mw_866 : Cond.instanceMethod yX9_crewsAheadOf ∈ GW := gw_of (lwt_4 (List.mem_of_getElem? (i := 99) rfl)) (by decide +kernel)
set_option maxRecDepth 100000 in
theorem mw_867 : Cond.code yX9_crewsAheadOf cX9_crewsAheadOf 6 (some .int) ∈ GW := gw_of (lwt_4 (List.mem_of_getElem? (i := 100) rfl)) (by decide +kernel)
set_option maxRecDepth 100000 in
theorem mw_872 : Cond.methodLink RX9 302 yX9_howManyAreSeated ∈ GW := gw_of (lwt_4 (List.mem_of_getElem? (i := 105) rfl)) (by decide +kernel)
set_option maxRecDepth 100000 in
theorem mw_874 : Cond.instanceMethod yX9_howManyAreSeated ∈ GW := gw_of (lwt_4 (List.mem_of_getElem? (i := 107) rfl)) (by decide +kernel)
set_option maxRecDepth 100000 in
theorem mw_875 : Cond.code yX9_howManyAreSeated cX9_howManyAreSeated 3 (some .int) ∈ GW := gw_of (lwt_4 (List.mem_of_getElem? (i := 108) rfl)) (by decide +kernel)
set_option maxRecDepth 100000 in
theorem mw_876 : Cond.methodLink RX9 305 yX9_howManyTimes ∈ GW := gw_of (lwt_4 (List.mem_of_getElem? (i := 109) rfl)) (by decide +kernel)
set_option maxRecDepth 100000 in
theorem mw_878 : Cond.instanceMethod yX9_howManyTimes ∈ GW := gw_of (lwt_4 (List.mem_of_getElem? (i := 111) rfl)) (by decide +kernel)
set_option maxRecDepth 100000 in
theorem mw_879 : Cond.code yX9_howManyTimes cX9_howManyTimes 3 (some .int) ∈ GW := gw_of (lwt_4 (List.mem_of_getElem? (i := 112) rfl)) (by decide +kernel)
set_option maxRecDepth 100000 in
theorem mw_886 : Cond.fieldLink RX10 125 "DrumBoatsModel" "paddlers" "I" ∈ GW := gw_of (lwt_4 (List.mem_of_getElem? (i := 119) rfl)) (by decide +kernel)
set_option maxRecDepth 100000 in
theorem mw_887 : Cond.fieldLink RX10 128 "DrumBoatsModel" "crews" "I" ∈ GW := gw_of (lwt_4 (List.mem_of_getElem? (i := 120) rfl)) (by decide +kernel)
set_option maxRecDepth 100000 in
theorem mw_888 : Cond.fieldLink RX10 200 "DrumBoatsModel" "rules" "I" ∈ GW := gw_of (lwt_4 (List.mem_of_getElem? (i := 121) rfl)) (by decide +kernel)
set_option maxRecDepth 100000 in
theorem mw_889 : Cond.fieldLink RX10 223 "DrumBoatsModel" "races" "I" ∈ GW := gw_of (lwt_4 (List.mem_of_getElem? (i := 122) rfl)) (by decide +kernel)
set_option maxRecDepth 100000 in
theorem mw_890 : Cond.fieldLink RX10 159 "DrumBoatsModel" "tapeN" "I" ∈ GW := gw_of (lwt_4 (List.mem_of_getElem? (i := 123) rfl)) (by decide +kernel)
set_option maxRecDepth 100000 in
theorem mw_891 : Cond.fieldLink RX10 9 "DrumBoatsModel" "rest" "I" ∈ GW := gw_of (lwt_4 (List.mem_of_getElem? (i := 124) rfl)) (by decide +kernel)
set_option maxRecDepth 100000 in
theorem mw_892 : Cond.fieldLink RX10 220 "DrumBoatsModel" "waiting" "I" ∈ GW := gw_of (lwt_4 (List.mem_of_getElem? (i := 125) rfl)) (by decide +kernel)
set_option maxRecDepth 100000 in
theorem mw_893 : Cond.fieldLink RX10 240 "DrumBoatsModel" "finalN" "I" ∈ GW := gw_of (lwt_4 (List.mem_of_getElem? (i := 126) rfl)) (by decide +kernel)
set_option maxRecDepth 100000 in
theorem mw_894 : Cond.fieldLink RX10 15 "DrumBoatsModel" "weight" "[I" ∈ GW := gw_of (lwt_4 (List.mem_of_getElem? (i := 127) rfl)) (by decide +kernel)
set_option maxRecDepth 100000 in
theorem mw_895 : Cond.fieldLink RX10 19 "DrumBoatsModel" "strength" "[I" ∈ GW := gw_of (lwt_4 (List.mem_of_getElem? (i := 128) rfl)) (by decide +kernel)
set_option maxRecDepth 100000 in
theorem mw_896 : Cond.fieldLink RX10 22 "DrumBoatsModel" "arm" "[I" ∈ GW := gw_of (lwt_4 (List.mem_of_getElem? (i := 129) rfl)) (by decide +kernel)
set_option maxRecDepth 100000 in
theorem mw_897 : Cond.fieldLink RX10 25 "DrumBoatsModel" "sex" "[I" ∈ GW := gw_of (lwt_4 (List.mem_of_getElem? (i := 130) rfl)) (by decide +kernel)
set_option maxRecDepth 100000 in
theorem mw_898 : Cond.fieldLink RX10 28 "DrumBoatsModel" "age" "[I" ∈ GW := gw_of (lwt_4 (List.mem_of_getElem? (i := 131) rfl)) (by decide +kernel)
set_option maxRecDepth 100000 in
theorem mw_899 : Cond.fieldLink RX10 31 "DrumBoatsModel" "likes" "[Z" ∈ GW := gw_of (lwt_4 (List.mem_of_getElem? (i := 132) rfl)) (by decide +kernel)
set_option maxRecDepth 100000 in
theorem mw_900 : Cond.fieldLink RX10 35 "DrumBoatsModel" "rows" "[I" ∈ GW := gw_of (lwt_4 (List.mem_of_getElem? (i := 133) rfl)) (by decide +kernel)
set_option maxRecDepth 100000 in
theorem mw_901 : Cond.fieldLink RX10 38 "DrumBoatsModel" "drummer" "[I" ∈ GW := gw_of (lwt_4 (List.mem_of_getElem? (i := 134) rfl)) (by decide +kernel)
set_option maxRecDepth 100000 in
theorem mw_902 : Cond.fieldLink RX10 41 "DrumBoatsModel" "members" "[I" ∈ GW := gw_of (lwt_4 (List.mem_of_getElem? (i := 135) rfl)) (by decide +kernel)
set_option maxRecDepth 100000 in
theorem mw_903 : Cond.fieldLink RX10 44 "DrumBoatsModel" "beat" "[I" ∈ GW := gw_of (lwt_4 (List.mem_of_getElem? (i := 136) rfl)) (by decide +kernel)
set_option maxRecDepth 100000 in
theorem mw_904 : Cond.fieldLink RX10 47 "DrumBoatsModel" "member" "[I" ∈ GW := gw_of (lwt_4 (List.mem_of_getElem? (i := 137) rfl)) (by decide +kernel)
set_option maxRecDepth 100000 in
theorem mw_905 : Cond.fieldLink RX10 50 "DrumBoatsModel" "seated" "[I" ∈ GW := gw_of (lwt_4 (List.mem_of_getElem? (i := 138) rfl)) (by decide +kernel)
set_option maxRecDepth 100000 in
theorem mw_906 : Cond.fieldLink RX10 53 "DrumBoatsModel" "isSeated" "[Z" ∈ GW := gw_of (lwt_4 (List.mem_of_getElem? (i := 139) rfl)) (by decide +kernel)
set_option maxRecDepth 100000 in
theorem mw_907 : Cond.fieldLink RX10 56 "DrumBoatsModel" "tape" "[I" ∈ GW := gw_of (lwt_4 (List.mem_of_getElem? (i := 140) rfl)) (by decide +kernel)
set_option maxRecDepth 100000 in
theorem mw_908 : Cond.fieldLink RX10 59 "DrumBoatsModel" "rTests" "[I" ∈ GW := gw_of (lwt_4 (List.mem_of_getElem? (i := 141) rfl)) (by decide +kernel)
set_option maxRecDepth 100000 in
theorem mw_909 : Cond.fieldLink RX10 62 "DrumBoatsModel" "tField" "[I" ∈ GW := gw_of (lwt_4 (List.mem_of_getElem? (i := 142) rfl)) (by decide +kernel)
set_option maxRecDepth 100000 in
theorem mw_910 : Cond.fieldLink RX10 65 "DrumBoatsModel" "tSign" "[I" ∈ GW := gw_of (lwt_4 (List.mem_of_getElem? (i := 143) rfl)) (by decide +kernel)
set_option maxRecDepth 100000 in
theorem mw_911 : Cond.fieldLink RX10 68 "DrumBoatsModel" "tNumber" "[I" ∈ GW := gw_of (lwt_4 (List.mem_of_getElem? (i := 144) rfl)) (by decide +kernel)
set_option maxRecDepth 100000 in
theorem mw_912 : Cond.fieldLink RX10 71 "DrumBoatsModel" "tNot" "[Z" ∈ GW := gw_of (lwt_4 (List.mem_of_getElem? (i := 145) rfl)) (by decide +kernel)
set_option maxRecDepth 100000 in
theorem mw_913 : Cond.fieldLink RX10 74 "DrumBoatsModel" "tOr" "[Z" ∈ GW := gw_of (lwt_4 (List.mem_of_getElem? (i := 146) rfl)) (by decide +kernel)
set_option maxRecDepth 100000 in
theorem mw_914 : Cond.fieldLink RX10 77 "DrumBoatsModel" "minute" "[I" ∈ GW := gw_of (lwt_4 (List.mem_of_getElem? (i := 147) rfl)) (by decide +kernel)
set_option maxRecDepth 100000 in
theorem mw_915 : Cond.fieldLink RX10 80 "DrumBoatsModel" "round" "[I" ∈ GW := gw_of (lwt_4 (List.mem_of_getElem? (i := 148) rfl)) (by decide +kernel)
set_option maxRecDepth 100000 in
theorem mw_916 : Cond.fieldLink RX10 83 "DrumBoatsModel" "laneCrew" "[I" ∈ GW := gw_of (lwt_4 (List.mem_of_getElem? (i := 149) rfl)) (by decide +kernel)
set_option maxRecDepth 100000 in
theorem mw_917 : Cond.fieldLink RX10 86 "DrumBoatsModel" "laneTime" "[I" ∈ GW := gw_of (lwt_4 (List.mem_of_getElem? (i := 150) rfl)) (by decide +kernel)
set_option maxRecDepth 100000 in
theorem mw_918 : Cond.fieldLink RX10 89 "DrumBoatsModel" "gone" "[I" ∈ GW := gw_of (lwt_4 (List.mem_of_getElem? (i := 151) rfl)) (by decide +kernel)
set_option maxRecDepth 100000 in
theorem mw_919 : Cond.fieldLink RX10 92 "DrumBoatsModel" "struck" "[Z" ∈ GW := gw_of (lwt_4 (List.mem_of_getElem? (i := 152) rfl)) (by decide +kernel)
set_option maxRecDepth 100000 in
theorem mw_920 : Cond.fieldLink RX10 95 "DrumBoatsModel" "wasRun" "[Z" ∈ GW := gw_of (lwt_4 (List.mem_of_getElem? (i := 153) rfl)) (by decide +kernel)
set_option maxRecDepth 100000 in
theorem mw_921 : Cond.fieldLink RX10 98 "DrumBoatsModel" "wait" "[I" ∈ GW := gw_of (lwt_4 (List.mem_of_getElem? (i := 154) rfl)) (by decide +kernel)
set_option maxRecDepth 100000 in
theorem mw_922 : Cond.fieldLink RX10 101 "DrumBoatsModel" "current" "[I" ∈ GW := gw_of (lwt_4 (List.mem_of_getElem? (i := 155) rfl)) (by decide +kernel)
set_option maxRecDepth 100000 in
theorem mw_923 : Cond.fieldLink RX10 104 "DrumBoatsModel" "finals" "[I" ∈ GW := gw_of (lwt_4 (List.mem_of_getElem? (i := 156) rfl)) (by decide +kernel)
set_option maxRecDepth 100000 in
theorem mw_924 : Cond.fieldLink RX10 107 "DrumBoatsModel" "bestTime" "[I" ∈ GW := gw_of (lwt_4 (List.mem_of_getElem? (i := 157) rfl)) (by decide +kernel)
set_option maxRecDepth 100000 in
theorem mw_925 : Cond.fieldLink RX10 110 "DrumBoatsModel" "inFinal" "[Z" ∈ GW := gw_of (lwt_4 (List.mem_of_getElem? (i := 158) rfl)) (by decide +kernel)
set_option maxRecDepth 100000 in
theorem mw_926 : Cond.fieldLink RX10 113 "DrumBoatsModel" "pick" "[I" ∈ GW := gw_of (lwt_4 (List.mem_of_getElem? (i := 159) rfl)) (by decide +kernel)
set_option maxRecDepth 100000 in
theorem mw_927 : Cond.fieldLink RX10 116 "DrumBoatsModel" "found" "[I" ∈ GW := gw_of (lwt_4 (List.mem_of_getElem? (i := 160) rfl)) (by decide +kernel)
set_option maxRecDepth 100000 in
theorem mw_928 : Cond.fieldLink RX10 119 "DrumBoatsModel" "fresh" "[I" ∈ GW := gw_of (lwt_4 (List.mem_of_getElem? (i := 161) rfl)) (by decide +kernel)
set_option maxRecDepth 100000 in
theorem mw_929 : Cond.fieldLink RX10 122 "DrumBoatsModel" "at" "[I" ∈ GW := gw_of (lwt_4 (List.mem_of_getElem? (i := 162) rfl)) (by decide +kernel)
set_option maxRecDepth 100000 in
theorem mw_930 : Cond.fieldLink RX10 245 "DrumBoatsModel" "above" "J" ∈ GW := gw_of (lwt_4 (List.mem_of_getElem? (i := 163) rfl)) (by decide +kernel)
set_option maxRecDepth 100000 in
theorem mw_931 : Cond.fieldLink RX10 249 "DrumBoatsModel" "below" "J" ∈ GW := gw_of (lwt_4 (List.mem_of_getElem? (i := 164) rfl)) (by decide +kernel)
set_option maxRecDepth 100000 in
theorem mw_932 : Cond.fieldLink RX10 164 "DrumBoatsModel" "here" "I" ∈ GW := gw_of (lwt_4 (List.mem_of_getElem? (i := 165) rfl)) (by decide +kernel)
set_option maxRecDepth 100000 in
theorem mw_933 : Cond.fieldLink RX10 173 "DrumBoatsModel" "fault" "I" ∈ GW := gw_of (lwt_4 (List.mem_of_getElem? (i := 166) rfl)) (by decide +kernel)
set_option maxRecDepth 100000 in
theorem mw_1039 : Cond.methodLink RX10 131 yX10_isPaddler ∈ GW := gw_of (lwt_5 (List.mem_of_getElem? (i := 32) rfl)) (by decide +kernel)
set_option maxRecDepth 100000 in
theorem mw_1041 : Cond.instanceMethod yX10_isPaddler ∈ GW := gw_of (lwt_5 (List.mem_of_getElem? (i := 34) rfl)) (by decide +kernel)
set_option maxRecDepth 100000 in
theorem mw_1042 : Cond.code yX10_isPaddler cX10_isPaddler 2 (some .boolean) ∈ GW := gw_of (lwt_5 (List.mem_of_getElem? (i := 35) rfl)) (by decide +kernel)
set_option maxRecDepth 100000 in
theorem mw_1051 : Cond.methodLink RX10 135 yX10_isCrew ∈ GW := gw_of (lwt_5 (List.mem_of_getElem? (i := 44) rfl)) (by decide +kernel)
set_option maxRecDepth 100000 in
theorem mw_1053 : Cond.instanceMethod yX10_isCrew ∈ GW := gw_of (lwt_5 (List.mem_of_getElem? (i := 46) rfl)) (by decide +kernel)
set_option maxRecDepth 100000 in
theorem mw_1054 : Cond.code yX10_isCrew cX10_isCrew 2 (some .boolean) ∈ GW := gw_of (lwt_5 (List.mem_of_getElem? (i := 47) rfl)) (by decide +kernel)
set_option maxRecDepth 100000 in
theorem mw_1055 : Cond.methodLink RX10 138 yX10_isMember ∈ GW := gw_of (lwt_5 (List.mem_of_getElem? (i := 48) rfl)) (by decide +kernel)
set_option maxRecDepth 100000 in
theorem mw_1057 : Cond.instanceMethod yX10_isMember ∈ GW := gw_of (lwt_5 (List.mem_of_getElem? (i := 50) rfl)) (by decide +kernel)
set_option maxRecDepth 100000 in
theorem mw_1058 : Cond.code yX10_isMember cX10_isMember 4 (some .boolean) ∈ GW := gw_of (lwt_5 (List.mem_of_getElem? (i := 51) rfl)) (by decide +kernel)
set_option maxRecDepth 100000 in
theorem mw_1067 : Cond.constant RX10 150 (-100000) ∈ GW := gw_of (lwt_5 (List.mem_of_getElem? (i := 60) rfl)) (by decide +kernel)
set_option maxRecDepth 100000 in
theorem mw_1068 : Cond.methodLink RX10 151 yX10_fits ∈ GW := gw_of (lwt_5 (List.mem_of_getElem? (i := 61) rfl)) (by decide +kernel)
set_option maxRecDepth 100000 in
theorem mw_1070 : Cond.instanceMethod yX10_fits ∈ GW := gw_of (lwt_5 (List.mem_of_getElem? (i := 63) rfl)) (by decide +kernel)
set_option maxRecDepth 100000 in
theorem mw_1071 : Cond.code yX10_fits cX10_fits 3 (some .boolean) ∈ GW := gw_of (lwt_5 (List.mem_of_getElem? (i := 64) rfl)) (by decide +kernel)
set_option maxRecDepth 100000 in
theorem mw_1072 : Cond.methodLink RX10 154 yX10_tilt ∈ GW := gw_of (lwt_5 (List.mem_of_getElem? (i := 65) rfl)) (by decide +kernel)
set_option maxRecDepth 100000 in
theorem mw_1074 : Cond.instanceMethod yX10_tilt ∈ GW := gw_of (lwt_5 (List.mem_of_getElem? (i := 67) rfl)) (by decide +kernel)
set_option maxRecDepth 100000 in
theorem mw_1075 : Cond.code yX10_tilt cX10_tilt 4 (some .int) ∈ GW := gw_of (lwt_5 (List.mem_of_getElem? (i := 68) rfl)) (by decide +kernel)
set_option maxRecDepth 100000 in
theorem mw_1076 : Cond.methodLink RX10 146 yX10_trims ∈ GW := gw_of (lwt_5 (List.mem_of_getElem? (i := 69) rfl)) (by decide +kernel)
set_option maxRecDepth 100000 in
theorem mw_1078 : Cond.instanceMethod yX10_trims ∈ GW := gw_of (lwt_5 (List.mem_of_getElem? (i := 71) rfl)) (by decide +kernel)
set_option maxRecDepth 100000 in
theorem mw_1079 : Cond.code yX10_trims cX10_trims 11 (some .int) ∈ GW := gw_of (lwt_5 (List.mem_of_getElem? (i := 72) rfl)) (by decide +kernel)
set_option maxRecDepth 100000 in
theorem mw_1080 : Cond.methodLink RX10 142 yX10_size ∈ GW := gw_of (lwt_5 (List.mem_of_getElem? (i := 73) rfl)) (by decide +kernel)
set_option maxRecDepth 100000 in
theorem mw_1081 : Cond.static yX10_size ∈ GW := gw_of (lwt_5 (List.mem_of_getElem? (i := 74) rfl)) (by decide +kernel)
set_option maxRecDepth 100000 in
theorem mw_1082 : Cond.code yX10_size cX10_size 1 (some .int) ∈ GW := gw_of (lwt_5 (List.mem_of_getElem? (i := 75) rfl)) (by decide +kernel)
set_option maxRecDepth 100000 in
theorem mw_1083 : Cond.constant RX10 158 (-100001) ∈ GW := gw_of (lwt_5 (List.mem_of_getElem? (i := 76) rfl)) (by decide +kernel)
set_option maxRecDepth 100000 in
theorem mw_1100 : Cond.constantLong RX10 162 255 ∈ GW := gw_of (lwt_5 (List.mem_of_getElem? (i := 93) rfl)) (by decide +kernel)
set_option maxRecDepth 100000 in
theorem mw_1105 : Cond.methodLink RX10 203 yX10_test ∈ GW := gw_of (lwt_5 (List.mem_of_getElem? (i := 98) rfl)) (by decide +kernel)
set_option maxRecDepth 100000 in
theorem mw_1107 : Cond.instanceMethod yX10_test ∈ GW := gw_of (lwt_5 (List.mem_of_getElem? (i := 100) rfl)) (by decide +kernel)
set_option maxRecDepth 100000 in
theorem mw_1108 : Cond.code yX10_test cX10_test 6 none ∈ GW := gw_of (lwt_5 (List.mem_of_getElem? (i := 101) rfl)) (by decide +kernel)
set_option maxRecDepth 100000 in
theorem mw_1109 : Cond.methodLink RX10 176 yX10_now ∈ GW := gw_of (lwt_5 (List.mem_of_getElem? (i := 102) rfl)) (by decide +kernel)
set_option maxRecDepth 100000 in
theorem mw_1111 : Cond.instanceMethod yX10_now ∈ GW := gw_of (lwt_5 (List.mem_of_getElem? (i := 104) rfl)) (by decide +kernel)
set_option maxRecDepth 100000 in
theorem mw_1112 : Cond.code yX10_now cX10_now 1 (some .int) ∈ GW := gw_of (lwt_5 (List.mem_of_getElem? (i := 105) rfl)) (by decide +kernel)
set_option maxRecDepth 100000 in
theorem mw_1114 : Cond.methodLink RX10 185 yX10_expect ∈ GW := gw_of (lwt_5 (List.mem_of_getElem? (i := 107) rfl)) (by decide +kernel)
set_option maxRecDepth 100000 in
theorem mw_1116 : Cond.instanceMethod yX10_expect ∈ GW := gw_of (lwt_5 (List.mem_of_getElem? (i := 109) rfl)) (by decide +kernel)
set_option maxRecDepth 100000 in
theorem mw_1117 : Cond.code yX10_expect cX10_expect 3 none ∈ GW := gw_of (lwt_5 (List.mem_of_getElem? (i := 110) rfl)) (by decide +kernel)
set_option maxRecDepth 100000 in
theorem mw_1118 : Cond.methodLink RX10 167 yJ0_length_8abf5 ∈ GW := gw_of (lwt_5 (List.mem_of_getElem? (i := 111) rfl)) (by decide +kernel)
set_option maxRecDepth 100000 in
theorem mw_1119 : Cond.methodLink RX10 179 yJ0_charAt_5068e ∈ GW := gw_of (lwt_5 (List.mem_of_getElem? (i := 112) rfl)) (by decide +kernel)
set_option maxRecDepth 100000 in
theorem mw_1133 : Cond.methodLink RX10 213 yX10_field ∈ GW := gw_of (lwt_5 (List.mem_of_getElem? (i := 126) rfl)) (by decide +kernel)
set_option maxRecDepth 100000 in
theorem mw_1135 : Cond.instanceMethod yX10_field ∈ GW := gw_of (lwt_5 (List.mem_of_getElem? (i := 128) rfl)) (by decide +kernel)
set_option maxRecDepth 100000 in
theorem mw_1136 : Cond.code yX10_field cX10_field 6 (some .int) ∈ GW := gw_of (lwt_5 (List.mem_of_getElem? (i := 129) rfl)) (by decide +kernel)
set_option maxRecDepth 100000 in
theorem mw_1145 : Cond.methodLink RX10 217 yX10_haveCommon ∈ GW := gw_of (lwt_5 (List.mem_of_getElem? (i := 138) rfl)) (by decide +kernel)
set_option maxRecDepth 100000 in
theorem mw_1147 : Cond.instanceMethod yX10_haveCommon ∈ GW := gw_of (lwt_5 (List.mem_of_getElem? (i := 140) rfl)) (by decide +kernel)
set_option maxRecDepth 100000 in
theorem mw_1148 : Cond.code yX10_haveCommon cX10_haveCommon 4 (some .boolean) ∈ GW := gw_of (lwt_5 (List.mem_of_getElem? (i := 141) rfl)) (by decide +kernel)
set_option maxRecDepth 100000 in
theorem mw_1161 : Cond.methodLink RX10 226 yX10_isRace ∈ GW := gw_of (lwt_5 (List.mem_of_getElem? (i := 154) rfl)) (by decide +kernel)
set_option maxRecDepth 100000 in
theorem mw_1163 : Cond.instanceMethod yX10_isRace ∈ GW := gw_of (lwt_5 (List.mem_of_getElem? (i := 156) rfl)) (by decide +kernel)
set_option maxRecDepth 100000 in
theorem mw_1164 : Cond.code yX10_isRace cX10_isRace 2 (some .boolean) ∈ GW := gw_of (lwt_5 (List.mem_of_getElem? (i := 157) rfl)) (by decide +kernel)
set_option maxRecDepth 100000 in
theorem mw_1165 : Cond.methodLink RX10 229 yX10_goes ∈ GW := gw_of (lwt_5 (List.mem_of_getElem? (i := 158) rfl)) (by decide +kernel)
set_option maxRecDepth 100000 in
theorem mw_1167 : Cond.instanceMethod yX10_goes ∈ GW := gw_of (lwt_5 (List.mem_of_getElem? (i := 160) rfl)) (by decide +kernel)
set_option maxRecDepth 100000 in
theorem mw_1168 : Cond.code yX10_goes cX10_goes 14 (some .boolean) ∈ GW := gw_of (lwt_5 (List.mem_of_getElem? (i := 161) rfl)) (by decide +kernel)
set_option maxRecDepth 100000 in
theorem mw_1173 : Cond.methodLink RX10 233 yX10_isIn ∈ GW := gw_of (lwt_5 (List.mem_of_getElem? (i := 166) rfl)) (by decide +kernel)
set_option maxRecDepth 100000 in
theorem mw_1175 : Cond.instanceMethod yX10_isIn ∈ GW := gw_of (lwt_5 (List.mem_of_getElem? (i := 168) rfl)) (by decide +kernel)
set_option maxRecDepth 100000 in
theorem mw_1176 : Cond.code yX10_isIn cX10_isIn 3 (some .boolean) ∈ GW := gw_of (lwt_5 (List.mem_of_getElem? (i := 169) rfl)) (by decide +kernel)
set_option maxRecDepth 100000 in
theorem mw_1177 : Cond.constant RX10 236 99999 ∈ GW := gw_of (lwt_5 (List.mem_of_getElem? (i := 170) rfl)) (by decide +kernel)
set_option maxRecDepth 100000 in
theorem mw_1182 : Cond.methodLink RX10 237 yX10_place ∈ GW := gw_of (lwt_5 (List.mem_of_getElem? (i := 175) rfl)) (by decide +kernel)
set_option maxRecDepth 100000 in
theorem mw_1184 : Cond.instanceMethod yX10_place ∈ GW := gw_of (lwt_5 (List.mem_of_getElem? (i := 177) rfl)) (by decide +kernel)
set_option maxRecDepth 100000 in
theorem mw_1185 : Cond.code yX10_place cX10_place 6 (some .int) ∈ GW := gw_of (lwt_5 (List.mem_of_getElem? (i := 178) rfl)) (by decide +kernel)
set_option maxRecDepth 100000 in
theorem mw_1210 : Cond.constantLong RX10 243 (-9223372036854775808) ∈ GW := gw_of (lwt_5 (List.mem_of_getElem? (i := 203) rfl)) (by decide +kernel)
set_option maxRecDepth 100000 in
theorem mw_1211 : Cond.methodLink RX10 252 yX10_leastTime ∈ GW := gw_of (lwt_5 (List.mem_of_getElem? (i := 204) rfl)) (by decide +kernel)
set_option maxRecDepth 100000 in
theorem mw_1213 : Cond.instanceMethod yX10_leastTime ∈ GW := gw_of (lwt_5 (List.mem_of_getElem? (i := 206) rfl)) (by decide +kernel)
set_option maxRecDepth 100000 in
theorem mw_1214 : Cond.code yX10_leastTime cX10_leastTime 6 (some .int) ∈ GW := gw_of (lwt_5 (List.mem_of_getElem? (i := 207) rfl)) (by decide +kernel)
set_option maxRecDepth 100000 in
theorem mw_1219 : Cond.methodLink RX10 258 yX10_pointsOf ∈ GW := gw_of (lwt_5 (List.mem_of_getElem? (i := 212) rfl)) (by decide +kernel)
set_option maxRecDepth 100000 in
theorem mw_1221 : Cond.instanceMethod yX10_pointsOf ∈ GW := gw_of (lwt_5 (List.mem_of_getElem? (i := 214) rfl)) (by decide +kernel)
set_option maxRecDepth 100000 in
theorem mw_1222 : Cond.code yX10_pointsOf cX10_pointsOf 9 (some .int) ∈ GW := gw_of (lwt_5 (List.mem_of_getElem? (i := 215) rfl)) (by decide +kernel)
set_option maxRecDepth 100000 in
theorem mw_1223 : Cond.methodLink RX10 255 yX10_worth ∈ GW := gw_of (lwt_5 (List.mem_of_getElem? (i := 216) rfl)) (by decide +kernel)
set_option maxRecDepth 100000 in
theorem mw_1224 : Cond.static yX10_worth ∈ GW := gw_of (lwt_5 (List.mem_of_getElem? (i := 217) rfl)) (by decide +kernel)
set_option maxRecDepth 100000 in
theorem mw_1225 : Cond.code yX10_worth cX10_worth 1 (some .int) ∈ GW := gw_of (lwt_5 (List.mem_of_getElem? (i := 218) rfl)) (by decide +kernel)
set_option maxRecDepth 100000 in
theorem mw_1235 : Cond.fieldLink RJ0 9 "java/lang/String" "value" "[B" ∈ GW := gw_of (lwt_5 (List.mem_of_getElem? (i := 228) rfl)) (by decide +kernel)
set_option maxRecDepth 100000 in
theorem mw_1236 : Cond.fieldLink RJ0 15 "java/lang/String" "coder" "B" ∈ GW := gw_of (lwt_5 (List.mem_of_getElem? (i := 229) rfl)) (by decide +kernel)
