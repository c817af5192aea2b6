set_option maxRecDepth 100000 in
theorem mw_417 : Cond.methodLink RL 13 yX9_paddler ∈ GW := gw_of (lwt_2 (List.mem_of_getElem? (i := 130) rfl)) (by decide +kernel)
set_option maxRecDepth 100000 in
theorem mw_418 : Cond.instanceMethod yX9_paddler ∈ GW := gw_of (lwt_2 (List.mem_of_getElem? (i := 131) rfl)) (by decide +kernel)
set_option maxRecDepth 100000 in
theorem mw_419 : Cond.selects RX9 yX9_paddler yX9_paddler ∈ GW := gw_of (lwt_2 (List.mem_of_getElem? (i := 132) rfl)) (by decide +kernel)
set_option maxRecDepth 100000 in
theorem mw_420 : Cond.code yX9_paddler cX9_paddler 6 (some .int) ∈ GW := gw_of (lwt_2 (List.mem_of_getElem? (i := 133) rfl)) (by decide +kernel)
set_option maxRecDepth 100000 in
theorem mw_428 : Cond.methodLink RL 18 yX9_like ∈ GW := gw_of (lwt_2 (List.mem_of_getElem? (i := 141) rfl)) (by decide +kernel)
set_option maxRecDepth 100000 in
theorem mw_429 : Cond.instanceMethod yX9_like ∈ GW := gw_of (lwt_2 (List.mem_of_getElem? (i := 142) rfl)) (by decide +kernel)
set_option maxRecDepth 100000 in
theorem mw_430 : Cond.selects RX9 yX9_like yX9_like ∈ GW := gw_of (lwt_2 (List.mem_of_getElem? (i := 143) rfl)) (by decide +kernel)
set_option maxRecDepth 100000 in
theorem mw_431 : Cond.code yX9_like cX9_like 5 (some .int) ∈ GW := gw_of (lwt_2 (List.mem_of_getElem? (i := 144) rfl)) (by decide +kernel)
set_option maxRecDepth 100000 in
theorem mw_446 : Cond.methodLink RL 23 yX9_crew ∈ GW := gw_of (lwt_2 (List.mem_of_getElem? (i := 159) rfl)) (by decide +kernel)
set_option maxRecDepth 100000 in
theorem mw_447 : Cond.instanceMethod yX9_crew ∈ GW := gw_of (lwt_2 (List.mem_of_getElem? (i := 160) rfl)) (by decide +kernel)
set_option maxRecDepth 100000 in
theorem mw_448 : Cond.selects RX9 yX9_crew yX9_crew ∈ GW := gw_of (lwt_2 (List.mem_of_getElem? (i := 161) rfl)) (by decide +kernel)
set_option maxRecDepth 100000 in
theorem mw_449 : Cond.code yX9_crew cX9_crew 3 (some .int) ∈ GW := gw_of (lwt_2 (List.mem_of_getElem? (i := 162) rfl)) (by decide +kernel)
set_option maxRecDepth 100000 in
theorem mw_450 : Cond.methodLink RL 28 yX9_join ∈ GW := gw_of (lwt_2 (List.mem_of_getElem? (i := 163) rfl)) (by decide +kernel)
set_option maxRecDepth 100000 in
theorem mw_451 : Cond.instanceMethod yX9_join ∈ GW := gw_of (lwt_2 (List.mem_of_getElem? (i := 164) rfl)) (by decide +kernel)
set_option maxRecDepth 100000 in
theorem mw_452 : Cond.selects RX9 yX9_join yX9_join ∈ GW := gw_of (lwt_2 (List.mem_of_getElem? (i := 165) rfl)) (by decide +kernel)
set_option maxRecDepth 100000 in
theorem mw_453 : Cond.code yX9_join cX9_join 4 (some .int) ∈ GW := gw_of (lwt_2 (List.mem_of_getElem? (i := 166) rfl)) (by decide +kernel)
set_option maxRecDepth 100000 in
theorem mw_466 : Cond.methodLink RL 32 yX9_beat ∈ GW := gw_of (lwt_2 (List.mem_of_getElem? (i := 179) rfl)) (by decide +kernel)
set_option maxRecDepth 100000 in
theorem mw_467 : Cond.instanceMethod yX9_beat ∈ GW := gw_of (lwt_2 (List.mem_of_getElem? (i := 180) rfl)) (by decide +kernel)
set_option maxRecDepth 100000 in
theorem mw_468 : Cond.selects RX9 yX9_beat yX9_beat ∈ GW := gw_of (lwt_2 (List.mem_of_getElem? (i := 181) rfl)) (by decide +kernel)
set_option maxRecDepth 100000 in
theorem mw_469 : Cond.code yX9_beat cX9_beat 4 (some .int) ∈ GW := gw_of (lwt_2 (List.mem_of_getElem? (i := 182) rfl)) (by decide +kernel)
set_option maxRecDepth 100000 in
theorem mw_470 : Cond.methodLink RL 36 yX9_seat ∈ GW := gw_of (lwt_2 (List.mem_of_getElem? (i := 183) rfl)) (by decide +kernel)
set_option maxRecDepth 100000 in
theorem mw_471 : Cond.instanceMethod yX9_seat ∈ GW := gw_of (lwt_2 (List.mem_of_getElem? (i := 184) rfl)) (by decide +kernel)
set_option maxRecDepth 100000 in
theorem mw_472 : Cond.selects RX9 yX9_seat yX9_seat ∈ GW := gw_of (lwt_2 (List.mem_of_getElem? (i := 185) rfl)) (by decide +kernel)
set_option maxRecDepth 100000 in
theorem mw_473 : Cond.code yX9_seat cX9_seat 3 (some .int) ∈ GW := gw_of (lwt_2 (List.mem_of_getElem? (i := 186) rfl)) (by decide +kernel)
set_option maxRecDepth 100000 in
theorem mw_537 : Cond.methodLink RL 41 yX9_sits ∈ GW := gw_of (lwt_3 (List.mem_of_getElem? (i := 10) rfl)) (by decide +kernel)
set_option maxRecDepth 100000 in
theorem mw_538 : Cond.instanceMethod yX9_sits ∈ GW := gw_of (lwt_3 (List.mem_of_getElem? (i := 11) rfl)) (by decide +kernel)
set_option maxRecDepth 100000 in
theorem mw_539 : Cond.selects RX9 yX9_sits yX9_sits ∈ GW := gw_of (lwt_3 (List.mem_of_getElem? (i := 12) rfl)) (by decide +kernel)
set_option maxRecDepth 100000 in
theorem mw_540 : Cond.code yX9_sits cX9_sits 4 (some .int) ∈ GW := gw_of (lwt_3 (List.mem_of_getElem? (i := 13) rfl)) (by decide +kernel)
set_option maxRecDepth 100000 in
theorem mw_541 : Cond.methodLink RL 45 yX9_trim ∈ GW := gw_of (lwt_3 (List.mem_of_getElem? (i := 14) rfl)) (by decide +kernel)
set_option maxRecDepth 100000 in
theorem mw_542 : Cond.instanceMethod yX9_trim ∈ GW := gw_of (lwt_3 (List.mem_of_getElem? (i := 15) rfl)) (by decide +kernel)
set_option maxRecDepth 100000 in
theorem mw_543 : Cond.selects RX9 yX9_trim yX9_trim ∈ GW := gw_of (lwt_3 (List.mem_of_getElem? (i := 16) rfl)) (by decide +kernel)
set_option maxRecDepth 100000 in
theorem mw_544 : Cond.code yX9_trim cX9_trim 3 (some .int) ∈ GW := gw_of (lwt_3 (List.mem_of_getElem? (i := 17) rfl)) (by decide +kernel)
set_option maxRecDepth 100000 in
theorem mw_554 : Cond.methodLink RL 49 yX9_change ∈ GW := gw_of (lwt_3 (List.mem_of_getElem? (i := 27) rfl)) (by decide +kernel)
set_option maxRecDepth 100000 in
theorem mw_555 : Cond.instanceMethod yX9_change ∈ GW := gw_of (lwt_3 (List.mem_of_getElem? (i := 28) rfl)) (by decide +kernel)
set_option maxRecDepth 100000 in
theorem mw_556 : Cond.selects RX9 yX9_change yX9_change ∈ GW := gw_of (lwt_3 (List.mem_of_getElem? (i := 29) rfl)) (by decide +kernel)
set_option maxRecDepth 100000 in
theorem mw_557 : Cond.code yX9_change cX9_change 6 (some .int) ∈ GW := gw_of (lwt_3 (List.mem_of_getElem? (i := 30) rfl)) (by decide +kernel)
set_option maxRecDepth 100000 in
theorem mw_571 : Cond.methodLink RL 55 yX9_feed ∈ GW := gw_of (lwt_3 (List.mem_of_getElem? (i := 44) rfl)) (by decide +kernel)
set_option maxRecDepth 100000 in
theorem mw_572 : Cond.instanceMethod yX9_feed ∈ GW := gw_of (lwt_3 (List.mem_of_getElem? (i := 45) rfl)) (by decide +kernel)
set_option maxRecDepth 100000 in
theorem mw_573 : Cond.selects RX9 yX9_feed yX9_feed ∈ GW := gw_of (lwt_3 (List.mem_of_getElem? (i := 46) rfl)) (by decide +kernel)
set_option maxRecDepth 100000 in
theorem mw_574 : Cond.code yX9_feed cX9_feed 4 (some .int) ∈ GW := gw_of (lwt_3 (List.mem_of_getElem? (i := 47) rfl)) (by decide +kernel)
set_option maxRecDepth 100000 in
theorem mw_580 : Cond.methodLink RL 60 yX9_rule ∈ GW := gw_of (lwt_3 (List.mem_of_getElem? (i := 53) rfl)) (by decide +kernel)
set_option maxRecDepth 100000 in
theorem mw_581 : Cond.instanceMethod yX9_rule ∈ GW := gw_of (lwt_3 (List.mem_of_getElem? (i := 54) rfl)) (by decide +kernel)
set_option maxRecDepth 100000 in
theorem mw_582 : Cond.selects RX9 yX9_rule yX9_rule ∈ GW := gw_of (lwt_3 (List.mem_of_getElem? (i := 55) rfl)) (by decide +kernel)
set_option maxRecDepth 100000 in
theorem mw_583 : Cond.code yX9_rule cX9_rule 2 (some .int) ∈ GW := gw_of (lwt_3 (List.mem_of_getElem? (i := 56) rfl)) (by decide +kernel)
set_option maxRecDepth 100000 in
theorem mw_681 : Cond.methodLink RL 65 yX9_keeps ∈ GW := gw_of (lwt_3 (List.mem_of_getElem? (i := 154) rfl)) (by decide +kernel)
set_option maxRecDepth 100000 in
theorem mw_682 : Cond.instanceMethod yX9_keeps ∈ GW := gw_of (lwt_3 (List.mem_of_getElem? (i := 155) rfl)) (by decide +kernel)
set_option maxRecDepth 100000 in
theorem mw_683 : Cond.selects RX9 yX9_keeps yX9_keeps ∈ GW := gw_of (lwt_3 (List.mem_of_getElem? (i := 156) rfl)) (by decide +kernel)
set_option maxRecDepth 100000 in
theorem mw_684 : Cond.code yX9_keeps cX9_keeps 3 (some .int) ∈ GW := gw_of (lwt_3 (List.mem_of_getElem? (i := 157) rfl)) (by decide +kernel)
set_option maxRecDepth 100000 in
theorem mw_697 : Cond.methodLink RL 69 yX9_rest ∈ GW := gw_of (lwt_3 (List.mem_of_getElem? (i := 170) rfl)) (by decide +kernel)
set_option maxRecDepth 100000 in
theorem mw_698 : Cond.instanceMethod yX9_rest ∈ GW := gw_of (lwt_3 (List.mem_of_getElem? (i := 171) rfl)) (by decide +kernel)
set_option maxRecDepth 100000 in
theorem mw_699 : Cond.selects RX9 yX9_rest yX9_rest ∈ GW := gw_of (lwt_3 (List.mem_of_getElem? (i := 172) rfl)) (by decide +kernel)
set_option maxRecDepth 100000 in
theorem mw_700 : Cond.code yX9_rest cX9_rest 3 (some .int) ∈ GW := gw_of (lwt_3 (List.mem_of_getElem? (i := 173) rfl)) (by decide +kernel)
set_option maxRecDepth 100000 in
theorem mw_701 : Cond.methodLink RL 73 yX9_lane ∈ GW := gw_of (lwt_3 (List.mem_of_getElem? (i := 174) rfl)) (by decide +kernel)
set_option maxRecDepth 100000 in
theorem mw_702 : Cond.instanceMethod yX9_lane ∈ GW := gw_of (lwt_3 (List.mem_of_getElem? (i := 175) rfl)) (by decide +kernel)
set_option maxRecDepth 100000 in
theorem mw_703 : Cond.selects RX9 yX9_lane yX9_lane ∈ GW := gw_of (lwt_3 (List.mem_of_getElem? (i := 176) rfl)) (by decide +kernel)
set_option maxRecDepth 100000 in
theorem mw_704 : Cond.code yX9_lane cX9_lane 3 (some .int) ∈ GW := gw_of (lwt_3 (List.mem_of_getElem? (i := 177) rfl)) (by decide +kernel)
set_option maxRecDepth 100000 in
theorem mw_716 : Cond.methodLink RL 77 yX9_race ∈ GW := gw_of (lwt_3 (List.mem_of_getElem? (i := 189) rfl)) (by decide +kernel)
set_option maxRecDepth 100000 in
theorem mw_717 : Cond.instanceMethod yX9_race ∈ GW := gw_of (lwt_3 (List.mem_of_getElem? (i := 190) rfl)) (by decide +kernel)
set_option maxRecDepth 100000 in
theorem mw_718 : Cond.selects RX9 yX9_race yX9_race ∈ GW := gw_of (lwt_3 (List.mem_of_getElem? (i := 191) rfl)) (by decide +kernel)
set_option maxRecDepth 100000 in
theorem mw_719 : Cond.code yX9_race cX9_race 5 (some .int) ∈ GW := gw_of (lwt_3 (List.mem_of_getElem? (i := 192) rfl)) (by decide +kernel)
set_option maxRecDepth 100000 in
theorem mw_737 : Cond.methodLink RL 81 yX9_current ∈ GW := gw_of (lwt_3 (List.mem_of_getElem? (i := 210) rfl)) (by decide +kernel)
set_option maxRecDepth 100000 in
theorem mw_738 : Cond.instanceMethod yX9_current ∈ GW := gw_of (lwt_3 (List.mem_of_getElem? (i := 211) rfl)) (by decide +kernel)
set_option maxRecDepth 100000 in
theorem mw_739 : Cond.selects RX9 yX9_current yX9_current ∈ GW := gw_of (lwt_3 (List.mem_of_getElem? (i := 212) rfl)) (by decide +kernel)
set_option maxRecDepth 100000 in
theorem mw_740 : Cond.code yX9_current cX9_current 4 (some .int) ∈ GW := gw_of (lwt_3 (List.mem_of_getElem? (i := 213) rfl)) (by decide +kernel)
set_option maxRecDepth 100000 in
theorem mw_741 : Cond.methodLink RL 85 yX9_run ∈ GW := gw_of (lwt_3 (List.mem_of_getElem? (i := 214) rfl)) (by decide +kernel)
set_option maxRecDepth 100000 in
theorem mw_742 : Cond.instanceMethod yX9_run ∈ GW := gw_of (lwt_3 (List.mem_of_getElem? (i := 215) rfl)) (by decide +kernel)
set_option maxRecDepth 100000 in
theorem mw_743 : Cond.selects RX9 yX9_run yX9_run ∈ GW := gw_of (lwt_3 (List.mem_of_getElem? (i := 216) rfl)) (by decide +kernel)
set_option maxRecDepth 100000 in
theorem mw_744 : Cond.code yX9_run cX9_run 5 (some .int) ∈ GW := gw_of (lwt_3 (List.mem_of_getElem? (i := 217) rfl)) (by decide +kernel)
set_option maxRecDepth 100000 in
theorem mw_767 : Cond.methodLink RL 89 yX9_time ∈ GW := gw_of (lwt_4 (List.mem_of_getElem? (i := 0) rfl)) (by decide +kernel)
set_option maxRecDepth 100000 in
theorem mw_768 : Cond.instanceMethod yX9_time ∈ GW := gw_of (lwt_4 (List.mem_of_getElem? (i := 1) rfl)) (by decide +kernel)
set_option maxRecDepth 100000 in
theorem mw_769 : Cond.selects RX9 yX9_time yX9_time ∈ GW := gw_of (lwt_4 (List.mem_of_getElem? (i := 2) rfl)) (by decide +kernel)
set_option maxRecDepth 100000 in
theorem mw_770 : Cond.code yX9_time cX9_time 6 (some .int) ∈ GW := gw_of (lwt_4 (List.mem_of_getElem? (i := 3) rfl)) (by decide +kernel)
set_option maxRecDepth 100000 in
theorem mw_772 : Cond.methodLink RL 93 yX9_told ∈ GW := gw_of (lwt_4 (List.mem_of_getElem? (i := 5) rfl)) (by decide +kernel)
set_option maxRecDepth 100000 in
theorem mw_773 : Cond.instanceMethod yX9_told ∈ GW := gw_of (lwt_4 (List.mem_of_getElem? (i := 6) rfl)) (by decide +kernel)
set_option maxRecDepth 100000 in
theorem mw_774 : Cond.selects RX9 yX9_told yX9_told ∈ GW := gw_of (lwt_4 (List.mem_of_getElem? (i := 7) rfl)) (by decide +kernel)
set_option maxRecDepth 100000 in
theorem mw_775 : Cond.code yX9_told cX9_told 4 (some .int) ∈ GW := gw_of (lwt_4 (List.mem_of_getElem? (i := 8) rfl)) (by decide +kernel)
set_option maxRecDepth 100000 in
theorem mw_780 : Cond.methodLink RL 97 yX9_again ∈ GW := gw_of (lwt_4 (List.mem_of_getElem? (i := 13) rfl)) (by decide +kernel)
set_option maxRecDepth 100000 in
theorem mw_781 : Cond.instanceMethod yX9_again ∈ GW := gw_of (lwt_4 (List.mem_of_getElem? (i := 14) rfl)) (by decide +kernel)
set_option maxRecDepth 100000 in
theorem mw_782 : Cond.selects RX9 yX9_again yX9_again ∈ GW := gw_of (lwt_4 (List.mem_of_getElem? (i := 15) rfl)) (by decide +kernel)
set_option maxRecDepth 100000 in
theorem mw_783 : Cond.code yX9_again cX9_again 3 (some .int) ∈ GW := gw_of (lwt_4 (List.mem_of_getElem? (i := 16) rfl)) (by decide +kernel)
set_option maxRecDepth 100000 in
theorem mw_788 : Cond.methodLink RL 101 yX9_strike ∈ GW := gw_of (lwt_4 (List.mem_of_getElem? (i := 21) rfl)) (by decide +kernel)
set_option maxRecDepth 100000 in
theorem mw_789 : Cond.instanceMethod yX9_strike ∈ GW := gw_of (lwt_4 (List.mem_of_getElem? (i := 22) rfl)) (by decide +kernel)
set_option maxRecDepth 100000 in
theorem mw_790 : Cond.selects RX9 yX9_strike yX9_strike ∈ GW := gw_of (lwt_4 (List.mem_of_getElem? (i := 23) rfl)) (by decide +kernel)
set_option maxRecDepth 100000 in
theorem mw_791 : Cond.code yX9_strike cX9_strike 6 (some .int) ∈ GW := gw_of (lwt_4 (List.mem_of_getElem? (i := 24) rfl)) (by decide +kernel)
set_option maxRecDepth 100000 in
theorem mw_796 : Cond.methodLink RL 105 yX9_finalists ∈ GW := gw_of (lwt_4 (List.mem_of_getElem? (i := 29) rfl)) (by decide +kernel)
set_option maxRecDepth 100000 in
theorem mw_797 : Cond.instanceMethod yX9_finalists ∈ GW := gw_of (lwt_4 (List.mem_of_getElem? (i := 30) rfl)) (by decide +kernel)
set_option maxRecDepth 100000 in
theorem mw_798 : Cond.selects RX9 yX9_finalists yX9_finalists ∈ GW := gw_of (lwt_4 (List.mem_of_getElem? (i := 31) rfl)) (by decide +kernel)
set_option maxRecDepth 100000 in
theorem mw_799 : Cond.code yX9_finalists cX9_finalists 3 (some .int) ∈ GW := gw_of (lwt_4 (List.mem_of_getElem? (i := 32) rfl)) (by decide +kernel)
set_option maxRecDepth 100000 in
theorem mw_822 : Cond.methodLink RL 109 yX9_finalist ∈ GW := gw_of (lwt_4 (List.mem_of_getElem? (i := 55) rfl)) (by decide +kernel)
set_option maxRecDepth 100000 in
theorem mw_823 : Cond.instanceMethod yX9_finalist ∈ GW := gw_of (lwt_4 (List.mem_of_getElem? (i := 56) rfl)) (by decide +kernel)
set_option maxRecDepth 100000 in
theorem mw_824 : Cond.selects RX9 yX9_finalist yX9_finalist ∈ GW := gw_of (lwt_4 (List.mem_of_getElem? (i := 57) rfl)) (by decide +kernel)
set_option maxRecDepth 100000 in
theorem mw_825 : Cond.code yX9_finalist cX9_finalist 2 (some .int) ∈ GW := gw_of (lwt_4 (List.mem_of_getElem? (i := 58) rfl)) (by decide +kernel)
set_option maxRecDepth 100000 in
theorem mw_826 : Cond.methodLink RL 113 yX9_slack ∈ GW := gw_of (lwt_4 (List.mem_of_getElem? (i := 59) rfl)) (by decide +kernel)
set_option maxRecDepth 100000 in
theorem mw_827 : Cond.instanceMethod yX9_slack ∈ GW := gw_of (lwt_4 (List.mem_of_getElem? (i := 60) rfl)) (by decide +kernel)
set_option maxRecDepth 100000 in
theorem mw_828 : Cond.selects RX9 yX9_slack yX9_slack ∈ GW := gw_of (lwt_4 (List.mem_of_getElem? (i := 61) rfl)) (by decide +kernel)
set_option maxRecDepth 100000 in
theorem mw_829 : Cond.code yX9_slack cX9_slack 5 (some .int) ∈ GW := gw_of (lwt_4 (List.mem_of_getElem? (i := 62) rfl)) (by decide +kernel)
set_option maxRecDepth 100000 in
theorem mw_830 : Cond.methodLink RL 117 yX9_level ∈ GW := gw_of (lwt_4 (List.mem_of_getElem? (i := 63) rfl)) (by decide +kernel)
set_option maxRecDepth 100000 in
theorem mw_831 : Cond.instanceMethod yX9_level ∈ GW := gw_of (lwt_4 (List.mem_of_getElem? (i := 64) rfl)) (by decide +kernel)
set_option maxRecDepth 100000 in
theorem mw_832 : Cond.selects RX9 yX9_level yX9_level ∈ GW := gw_of (lwt_4 (List.mem_of_getElem? (i := 65) rfl)) (by decide +kernel)
set_option maxRecDepth 100000 in
theorem mw_833 : Cond.code yX9_level cX9_level 11 (some .long) ∈ GW := gw_of (lwt_4 (List.mem_of_getElem? (i := 66) rfl)) (by decide +kernel)
set_option maxRecDepth 100000 in
theorem mw_845 : Cond.methodLink RL 122 yX9_points ∈ GW := gw_of (lwt_4 (List.mem_of_getElem? (i := 78) rfl)) (by decide +kernel)
set_option maxRecDepth 100000 in
theorem mw_846 : Cond.instanceMethod yX9_points ∈ GW := gw_of (lwt_4 (List.mem_of_getElem? (i := 79) rfl)) (by decide +kernel)
set_option maxRecDepth 100000 in
theorem mw_847 : Cond.selects RX9 yX9_points yX9_points ∈ GW := gw_of (lwt_4 (List.mem_of_getElem? (i := 80) rfl)) (by decide +kernel)
set_option maxRecDepth 100000 in
theorem mw_848 : Cond.code yX9_points cX9_points 2 (some .int) ∈ GW := gw_of (lwt_4 (List.mem_of_getElem? (i := 81) rfl)) (by decide +kernel)
set_option maxRecDepth 100000 in
theorem mw_860 : Cond.methodLink RL 126 yX9_table ∈ GW := gw_of (lwt_4 (List.mem_of_getElem? (i := 93) rfl)) (by decide +kernel)
set_option maxRecDepth 100000 in
theorem mw_861 : Cond.instanceMethod yX9_table ∈ GW := gw_of (lwt_4 (List.mem_of_getElem? (i := 94) rfl)) (by decide +kernel)
set_option maxRecDepth 100000 in
theorem mw_862 : Cond.selects RX9 yX9_table yX9_table ∈ GW := gw_of (lwt_4 (List.mem_of_getElem? (i := 95) rfl)) (by decide +kernel)
set_option maxRecDepth 100000 in
theorem mw_863 : Cond.code yX9_table cX9_table 3 (some .int) ∈ GW := gw_of (lwt_4 (List.mem_of_getElem? (i := 96) rfl)) (by decide +kernel)
set_option maxRecDepth 100000 in
theorem mw_868 : Cond.methodLink RL 130 yX9_count ∈ GW := gw_of (lwt_4 (List.mem_of_getElem? (i := 101) rfl)) (by decide +kernel)
set_option maxRecDepth 100000 in
theorem mw_869 : Cond.instanceMethod yX9_count ∈ GW := gw_of (lwt_4 (List.mem_of_getElem? (i := 102) rfl)) (by decide +kernel)
set_option maxRecDepth 100000 in
theorem mw_870 : Cond.selects RX9 yX9_count yX9_count ∈ GW := gw_of (lwt_4 (List.mem_of_getElem? (i := 103) rfl)) (by decide +kernel)
set_option maxRecDepth 100000 in
theorem mw_871 : Cond.code yX9_count cX9_count 2 (some .int) ∈ GW := gw_of (lwt_4 (List.mem_of_getElem? (i := 104) rfl)) (by decide +kernel)
set_option maxRecDepth 100000 in
theorem mw_1031 : Cond.methodLink RL 17 yX10_paddler ∈ GW := gw_of (lwt_5 (List.mem_of_getElem? (i := 24) rfl)) (by decide +kernel)
set_option maxRecDepth 100000 in
theorem mw_1032 : Cond.instanceMethod yX10_paddler ∈ GW := gw_of (lwt_5 (List.mem_of_getElem? (i := 25) rfl)) (by decide +kernel)
set_option maxRecDepth 100000 in
theorem mw_1033 : Cond.selects RX10 yX10_paddler yX10_paddler ∈ GW := gw_of (lwt_5 (List.mem_of_getElem? (i := 26) rfl)) (by decide +kernel)
set_option maxRecDepth 100000 in
theorem mw_1034 : Cond.code yX10_paddler cX10_paddler 6 (some .int) ∈ GW := gw_of (lwt_5 (List.mem_of_getElem? (i := 27) rfl)) (by decide +kernel)
set_option maxRecDepth 100000 in
theorem mw_1035 : Cond.methodLink RL 22 yX10_like ∈ GW := gw_of (lwt_5 (List.mem_of_getElem? (i := 28) rfl)) (by decide +kernel)
set_option maxRecDepth 100000 in
theorem mw_1036 : Cond.instanceMethod yX10_like ∈ GW := gw_of (lwt_5 (List.mem_of_getElem? (i := 29) rfl)) (by decide +kernel)
set_option maxRecDepth 100000 in
theorem mw_1037 : Cond.selects RX10 yX10_like yX10_like ∈ GW := gw_of (lwt_5 (List.mem_of_getElem? (i := 30) rfl)) (by decide +kernel)
set_option maxRecDepth 100000 in
theorem mw_1038 : Cond.code yX10_like cX10_like 5 (some .int) ∈ GW := gw_of (lwt_5 (List.mem_of_getElem? (i := 31) rfl)) (by decide +kernel)
set_option maxRecDepth 100000 in
theorem mw_1043 : Cond.methodLink RL 27 yX10_crew ∈ GW := gw_of (lwt_5 (List.mem_of_getElem? (i := 36) rfl)) (by decide +kernel)
set_option maxRecDepth 100000 in
theorem mw_1044 : Cond.instanceMethod yX10_crew ∈ GW := gw_of (lwt_5 (List.mem_of_getElem? (i := 37) rfl)) (by decide +kernel)
set_option maxRecDepth 100000 in
theorem mw_1045 : Cond.selects RX10 yX10_crew yX10_crew ∈ GW := gw_of (lwt_5 (List.mem_of_getElem? (i := 38) rfl)) (by decide +kernel)
set_option maxRecDepth 100000 in
theorem mw_1046 : Cond.code yX10_crew cX10_crew 3 (some .int) ∈ GW := gw_of (lwt_5 (List.mem_of_getElem? (i := 39) rfl)) (by decide +kernel)
set_option maxRecDepth 100000 in
theorem mw_1047 : Cond.methodLink RL 31 yX10_join ∈ GW := gw_of (lwt_5 (List.mem_of_getElem? (i := 40) rfl)) (by decide +kernel)
set_option maxRecDepth 100000 in
theorem mw_1048 : Cond.instanceMethod yX10_join ∈ GW := gw_of (lwt_5 (List.mem_of_getElem? (i := 41) rfl)) (by decide +kernel)
set_option maxRecDepth 100000 in
theorem mw_1049 : Cond.selects RX10 yX10_join yX10_join ∈ GW := gw_of (lwt_5 (List.mem_of_getElem? (i := 42) rfl)) (by decide +kernel)
set_option maxRecDepth 100000 in
theorem mw_1050 : Cond.code yX10_join cX10_join 3 (some .int) ∈ GW := gw_of (lwt_5 (List.mem_of_getElem? (i := 43) rfl)) (by decide +kernel)
set_option maxRecDepth 100000 in
theorem mw_1059 : Cond.methodLink RL 35 yX10_beat ∈ GW := gw_of (lwt_5 (List.mem_of_getElem? (i := 52) rfl)) (by decide +kernel)
set_option maxRecDepth 100000 in
theorem mw_1060 : Cond.instanceMethod yX10_beat ∈ GW := gw_of (lwt_5 (List.mem_of_getElem? (i := 53) rfl)) (by decide +kernel)
set_option maxRecDepth 100000 in
theorem mw_1061 : Cond.selects RX10 yX10_beat yX10_beat ∈ GW := gw_of (lwt_5 (List.mem_of_getElem? (i := 54) rfl)) (by decide +kernel)
set_option maxRecDepth 100000 in
theorem mw_1062 : Cond.code yX10_beat cX10_beat 4 (some .int) ∈ GW := gw_of (lwt_5 (List.mem_of_getElem? (i := 55) rfl)) (by decide +kernel)
set_option maxRecDepth 100000 in
theorem mw_1063 : Cond.methodLink RL 40 yX10_seat ∈ GW := gw_of (lwt_5 (List.mem_of_getElem? (i := 56) rfl)) (by decide +kernel)
set_option maxRecDepth 100000 in
theorem mw_1064 : Cond.instanceMethod yX10_seat ∈ GW := gw_of (lwt_5 (List.mem_of_getElem? (i := 57) rfl)) (by decide +kernel)
set_option maxRecDepth 100000 in
theorem mw_1065 : Cond.selects RX10 yX10_seat yX10_seat ∈ GW := gw_of (lwt_5 (List.mem_of_getElem? (i := 58) rfl)) (by decide +kernel)
set_option maxRecDepth 100000 in
theorem mw_1066 : Cond.code yX10_seat cX10_seat 11 (some .int) ∈ GW := gw_of (lwt_5 (List.mem_of_getElem? (i := 59) rfl)) (by decide +kernel)
set_option maxRecDepth 100000 in
theorem mw_1084 : Cond.methodLink RL 44 yX10_sits ∈ GW := gw_of (lwt_5 (List.mem_of_getElem? (i := 77) rfl)) (by decide +kernel)
set_option maxRecDepth 100000 in
theorem mw_1085 : Cond.instanceMethod yX10_sits ∈ GW := gw_of (lwt_5 (List.mem_of_getElem? (i := 78) rfl)) (by decide +kernel)
set_option maxRecDepth 100000 in
theorem mw_1086 : Cond.selects RX10 yX10_sits yX10_sits ∈ GW := gw_of (lwt_5 (List.mem_of_getElem? (i := 79) rfl)) (by decide +kernel)
set_option maxRecDepth 100000 in
theorem mw_1087 : Cond.code yX10_sits cX10_sits 4 (some .int) ∈ GW := gw_of (lwt_5 (List.mem_of_getElem? (i := 80) rfl)) (by decide +kernel)
set_option maxRecDepth 100000 in
theorem mw_1088 : Cond.methodLink RL 48 yX10_trim ∈ GW := gw_of (lwt_5 (List.mem_of_getElem? (i := 81) rfl)) (by decide +kernel)
set_option maxRecDepth 100000 in
theorem mw_1089 : Cond.instanceMethod yX10_trim ∈ GW := gw_of (lwt_5 (List.mem_of_getElem? (i := 82) rfl)) (by decide +kernel)
set_option maxRecDepth 100000 in
theorem mw_1090 : Cond.selects RX10 yX10_trim yX10_trim ∈ GW := gw_of (lwt_5 (List.mem_of_getElem? (i := 83) rfl)) (by decide +kernel)
set_option maxRecDepth 100000 in
theorem mw_1091 : Cond.code yX10_trim cX10_trim 3 (some .int) ∈ GW := gw_of (lwt_5 (List.mem_of_getElem? (i := 84) rfl)) (by decide +kernel)
set_option maxRecDepth 100000 in
theorem mw_1092 : Cond.methodLink RL 52 yX10_change ∈ GW := gw_of (lwt_5 (List.mem_of_getElem? (i := 85) rfl)) (by decide +kernel)
set_option maxRecDepth 100000 in
theorem mw_1093 : Cond.instanceMethod yX10_change ∈ GW := gw_of (lwt_5 (List.mem_of_getElem? (i := 86) rfl)) (by decide +kernel)
set_option maxRecDepth 100000 in
theorem mw_1094 : Cond.selects RX10 yX10_change yX10_change ∈ GW := gw_of (lwt_5 (List.mem_of_getElem? (i := 87) rfl)) (by decide +kernel)
set_option maxRecDepth 100000 in
theorem mw_1095 : Cond.code yX10_change cX10_change 5 (some .int) ∈ GW := gw_of (lwt_5 (List.mem_of_getElem? (i := 88) rfl)) (by decide +kernel)
set_option maxRecDepth 100000 in
theorem mw_1096 : Cond.methodLink RL 59 yX10_feed ∈ GW := gw_of (lwt_5 (List.mem_of_getElem? (i := 89) rfl)) (by decide +kernel)
set_option maxRecDepth 100000 in
theorem mw_1097 : Cond.instanceMethod yX10_feed ∈ GW := gw_of (lwt_5 (List.mem_of_getElem? (i := 90) rfl)) (by decide +kernel)
set_option maxRecDepth 100000 in
theorem mw_1098 : Cond.selects RX10 yX10_feed yX10_feed ∈ GW := gw_of (lwt_5 (List.mem_of_getElem? (i := 91) rfl)) (by decide +kernel)
set_option maxRecDepth 100000 in
theorem mw_1099 : Cond.code yX10_feed cX10_feed 5 (some .int) ∈ GW := gw_of (lwt_5 (List.mem_of_getElem? (i := 92) rfl)) (by decide +kernel)
set_option maxRecDepth 100000 in
theorem mw_1101 : Cond.methodLink RL 64 yX10_rule ∈ GW := gw_of (lwt_5 (List.mem_of_getElem? (i := 94) rfl)) (by decide +kernel)
set_option maxRecDepth 100000 in
theorem mw_1102 : Cond.instanceMethod yX10_rule ∈ GW := gw_of (lwt_5 (List.mem_of_getElem? (i := 95) rfl)) (by decide +kernel)
set_option maxRecDepth 100000 in
theorem mw_1103 : Cond.selects RX10 yX10_rule yX10_rule ∈ GW := gw_of (lwt_5 (List.mem_of_getElem? (i := 96) rfl)) (by decide +kernel)
set_option maxRecDepth 100000 in
theorem mw_1104 : Cond.code yX10_rule cX10_rule 4 (some .int) ∈ GW := gw_of (lwt_5 (List.mem_of_getElem? (i := 97) rfl)) (by decide +kernel)
set_option maxRecDepth 100000 in
theorem mw_1129 : Cond.methodLink RL 68 yX10_keeps ∈ GW := gw_of (lwt_5 (List.mem_of_getElem? (i := 122) rfl)) (by decide +kernel)
set_option maxRecDepth 100000 in
theorem mw_1130 : Cond.instanceMethod yX10_keeps ∈ GW := gw_of (lwt_5 (List.mem_of_getElem? (i := 123) rfl)) (by decide +kernel)
set_option maxRecDepth 100000 in
theorem mw_1131 : Cond.selects RX10 yX10_keeps yX10_keeps ∈ GW := gw_of (lwt_5 (List.mem_of_getElem? (i := 124) rfl)) (by decide +kernel)
set_option maxRecDepth 100000 in
theorem mw_1132 : Cond.code yX10_keeps cX10_keeps 9 (some .int) ∈ GW := gw_of (lwt_5 (List.mem_of_getElem? (i := 125) rfl)) (by decide +kernel)
set_option maxRecDepth 100000 in
theorem mw_1137 : Cond.methodLink RL 72 yX10_rest ∈ GW := gw_of (lwt_5 (List.mem_of_getElem? (i := 130) rfl)) (by decide +kernel)
set_option maxRecDepth 100000 in
theorem mw_1138 : Cond.instanceMethod yX10_rest ∈ GW := gw_of (lwt_5 (List.mem_of_getElem? (i := 131) rfl)) (by decide +kernel)
set_option maxRecDepth 100000 in
theorem mw_1139 : Cond.selects RX10 yX10_rest yX10_rest ∈ GW := gw_of (lwt_5 (List.mem_of_getElem? (i := 132) rfl)) (by decide +kernel)
set_option maxRecDepth 100000 in
theorem mw_1140 : Cond.code yX10_rest cX10_rest 3 (some .int) ∈ GW := gw_of (lwt_5 (List.mem_of_getElem? (i := 133) rfl)) (by decide +kernel)
set_option maxRecDepth 100000 in
theorem mw_1141 : Cond.methodLink RL 76 yX10_lane ∈ GW := gw_of (lwt_5 (List.mem_of_getElem? (i := 134) rfl)) (by decide +kernel)
set_option maxRecDepth 100000 in
theorem mw_1142 : Cond.instanceMethod yX10_lane ∈ GW := gw_of (lwt_5 (List.mem_of_getElem? (i := 135) rfl)) (by decide +kernel)
set_option maxRecDepth 100000 in
theorem mw_1143 : Cond.selects RX10 yX10_lane yX10_lane ∈ GW := gw_of (lwt_5 (List.mem_of_getElem? (i := 136) rfl)) (by decide +kernel)
set_option maxRecDepth 100000 in
theorem mw_1144 : Cond.code yX10_lane cX10_lane 4 (some .int) ∈ GW := gw_of (lwt_5 (List.mem_of_getElem? (i := 137) rfl)) (by decide +kernel)
set_option maxRecDepth 100000 in
theorem mw_1149 : Cond.methodLink RL 80 yX10_race ∈ GW := gw_of (lwt_5 (List.mem_of_getElem? (i := 142) rfl)) (by decide +kernel)
set_option maxRecDepth 100000 in
theorem mw_1150 : Cond.instanceMethod yX10_race ∈ GW := gw_of (lwt_5 (List.mem_of_getElem? (i := 143) rfl)) (by decide +kernel)
set_option maxRecDepth 100000 in
theorem mw_1151 : Cond.selects RX10 yX10_race yX10_race ∈ GW := gw_of (lwt_5 (List.mem_of_getElem? (i := 144) rfl)) (by decide +kernel)
set_option maxRecDepth 100000 in
theorem mw_1152 : Cond.code yX10_race cX10_race 6 (some .int) ∈ GW := gw_of (lwt_5 (List.mem_of_getElem? (i := 145) rfl)) (by decide +kernel)
set_option maxRecDepth 100000 in
theorem mw_1153 : Cond.methodLink RL 84 yX10_current ∈ GW := gw_of (lwt_5 (List.mem_of_getElem? (i := 146) rfl)) (by decide +kernel)
set_option maxRecDepth 100000 in
theorem mw_1154 : Cond.instanceMethod yX10_current ∈ GW := gw_of (lwt_5 (List.mem_of_getElem? (i := 147) rfl)) (by decide +kernel)
set_option maxRecDepth 100000 in
theorem mw_1155 : Cond.selects RX10 yX10_current yX10_current ∈ GW := gw_of (lwt_5 (List.mem_of_getElem? (i := 148) rfl)) (by decide +kernel)
set_option maxRecDepth 100000 in
theorem mw_1156 : Cond.code yX10_current cX10_current 4 (some .int) ∈ GW := gw_of (lwt_5 (List.mem_of_getElem? (i := 149) rfl)) (by decide +kernel)
set_option maxRecDepth 100000 in
theorem mw_1157 : Cond.methodLink RL 88 yX10_run ∈ GW := gw_of (lwt_5 (List.mem_of_getElem? (i := 150) rfl)) (by decide +kernel)
set_option maxRecDepth 100000 in
theorem mw_1158 : Cond.instanceMethod yX10_run ∈ GW := gw_of (lwt_5 (List.mem_of_getElem? (i := 151) rfl)) (by decide +kernel)
set_option maxRecDepth 100000 in
theorem mw_1159 : Cond.selects RX10 yX10_run yX10_run ∈ GW := gw_of (lwt_5 (List.mem_of_getElem? (i := 152) rfl)) (by decide +kernel)
set_option maxRecDepth 100000 in
theorem mw_1160 : Cond.code yX10_run cX10_run 6 (some .int) ∈ GW := gw_of (lwt_5 (List.mem_of_getElem? (i := 153) rfl)) (by decide +kernel)
set_option maxRecDepth 100000 in
theorem mw_1169 : Cond.methodLink RL 92 yX10_time ∈ GW := gw_of (lwt_5 (List.mem_of_getElem? (i := 162) rfl)) (by decide +kernel)
set_option maxRecDepth 100000 in
theorem mw_1170 : Cond.instanceMethod yX10_time ∈ GW := gw_of (lwt_5 (List.mem_of_getElem? (i := 163) rfl)) (by decide +kernel)
set_option maxRecDepth 100000 in
theorem mw_1171 : Cond.selects RX10 yX10_time yX10_time ∈ GW := gw_of (lwt_5 (List.mem_of_getElem? (i := 164) rfl)) (by decide +kernel)
set_option maxRecDepth 100000 in
theorem mw_1172 : Cond.code yX10_time cX10_time 5 (some .int) ∈ GW := gw_of (lwt_5 (List.mem_of_getElem? (i := 165) rfl)) (by decide +kernel)
set_option maxRecDepth 100000 in
theorem mw_1178 : Cond.methodLink RL 96 yX10_told ∈ GW := gw_of (lwt_5 (List.mem_of_getElem? (i := 171) rfl)) (by decide +kernel)
set_option maxRecDepth 100000 in
theorem mw_1179 : Cond.instanceMethod yX10_told ∈ GW := gw_of (lwt_5 (List.mem_of_getElem? (i := 172) rfl)) (by decide +kernel)
set_option maxRecDepth 100000 in
theorem mw_1180 : Cond.selects RX10 yX10_told yX10_told ∈ GW := gw_of (lwt_5 (List.mem_of_getElem? (i := 173) rfl)) (by decide +kernel)
set_option maxRecDepth 100000 in
theorem mw_1181 : Cond.code yX10_told cX10_told 4 (some .int) ∈ GW := gw_of (lwt_5 (List.mem_of_getElem? (i := 174) rfl)) (by decide +kernel)
set_option maxRecDepth 100000 in
theorem mw_1186 : Cond.methodLink RL 100 yX10_again ∈ GW := gw_of (lwt_5 (List.mem_of_getElem? (i := 179) rfl)) (by decide +kernel)
set_option maxRecDepth 100000 in
theorem mw_1187 : Cond.instanceMethod yX10_again ∈ GW := gw_of (lwt_5 (List.mem_of_getElem? (i := 180) rfl)) (by decide +kernel)
set_option maxRecDepth 100000 in
theorem mw_1188 : Cond.selects RX10 yX10_again yX10_again ∈ GW := gw_of (lwt_5 (List.mem_of_getElem? (i := 181) rfl)) (by decide +kernel)
set_option maxRecDepth 100000 in
theorem mw_1189 : Cond.code yX10_again cX10_again 4 (some .int) ∈ GW := gw_of (lwt_5 (List.mem_of_getElem? (i := 182) rfl)) (by decide +kernel)
set_option maxRecDepth 100000 in
theorem mw_1190 : Cond.methodLink RL 104 yX10_strike ∈ GW := gw_of (lwt_5 (List.mem_of_getElem? (i := 183) rfl)) (by decide +kernel)
set_option maxRecDepth 100000 in
theorem mw_1191 : Cond.instanceMethod yX10_strike ∈ GW := gw_of (lwt_5 (List.mem_of_getElem? (i := 184) rfl)) (by decide +kernel)
set_option maxRecDepth 100000 in
theorem mw_1192 : Cond.selects RX10 yX10_strike yX10_strike ∈ GW := gw_of (lwt_5 (List.mem_of_getElem? (i := 185) rfl)) (by decide +kernel)
set_option maxRecDepth 100000 in
theorem mw_1193 : Cond.code yX10_strike cX10_strike 5 (some .int) ∈ GW := gw_of (lwt_5 (List.mem_of_getElem? (i := 186) rfl)) (by decide +kernel)
set_option maxRecDepth 100000 in
theorem mw_1194 : Cond.methodLink RL 108 yX10_finalists ∈ GW := gw_of (lwt_5 (List.mem_of_getElem? (i := 187) rfl)) (by decide +kernel)
set_option maxRecDepth 100000 in
theorem mw_1195 : Cond.instanceMethod yX10_finalists ∈ GW := gw_of (lwt_5 (List.mem_of_getElem? (i := 188) rfl)) (by decide +kernel)
set_option maxRecDepth 100000 in
theorem mw_1196 : Cond.selects RX10 yX10_finalists yX10_finalists ∈ GW := gw_of (lwt_5 (List.mem_of_getElem? (i := 189) rfl)) (by decide +kernel)
set_option maxRecDepth 100000 in
theorem mw_1197 : Cond.code yX10_finalists cX10_finalists 7 (some .int) ∈ GW := gw_of (lwt_5 (List.mem_of_getElem? (i := 190) rfl)) (by decide +kernel)
set_option maxRecDepth 100000 in
theorem mw_1198 : Cond.methodLink RL 112 yX10_finalist ∈ GW := gw_of (lwt_5 (List.mem_of_getElem? (i := 191) rfl)) (by decide +kernel)
set_option maxRecDepth 100000 in
theorem mw_1199 : Cond.instanceMethod yX10_finalist ∈ GW := gw_of (lwt_5 (List.mem_of_getElem? (i := 192) rfl)) (by decide +kernel)
set_option maxRecDepth 100000 in
theorem mw_1200 : Cond.selects RX10 yX10_finalist yX10_finalist ∈ GW := gw_of (lwt_5 (List.mem_of_getElem? (i := 193) rfl)) (by decide +kernel)
set_option maxRecDepth 100000 in
theorem mw_1201 : Cond.code yX10_finalist cX10_finalist 2 (some .int) ∈ GW := gw_of (lwt_5 (List.mem_of_getElem? (i := 194) rfl)) (by decide +kernel)
set_option maxRecDepth 100000 in
theorem mw_1202 : Cond.methodLink RL 116 yX10_slack ∈ GW := gw_of (lwt_5 (List.mem_of_getElem? (i := 195) rfl)) (by decide +kernel)
set_option maxRecDepth 100000 in
theorem mw_1203 : Cond.instanceMethod yX10_slack ∈ GW := gw_of (lwt_5 (List.mem_of_getElem? (i := 196) rfl)) (by decide +kernel)
set_option maxRecDepth 100000 in
theorem mw_1204 : Cond.selects RX10 yX10_slack yX10_slack ∈ GW := gw_of (lwt_5 (List.mem_of_getElem? (i := 197) rfl)) (by decide +kernel)
set_option maxRecDepth 100000 in
theorem mw_1205 : Cond.code yX10_slack cX10_slack 8 (some .int) ∈ GW := gw_of (lwt_5 (List.mem_of_getElem? (i := 198) rfl)) (by decide +kernel)
set_option maxRecDepth 100000 in
theorem mw_1206 : Cond.methodLink RL 121 yX10_level ∈ GW := gw_of (lwt_5 (List.mem_of_getElem? (i := 199) rfl)) (by decide +kernel)
set_option maxRecDepth 100000 in
theorem mw_1207 : Cond.instanceMethod yX10_level ∈ GW := gw_of (lwt_5 (List.mem_of_getElem? (i := 200) rfl)) (by decide +kernel)
set_option maxRecDepth 100000 in
theorem mw_1208 : Cond.selects RX10 yX10_level yX10_level ∈ GW := gw_of (lwt_5 (List.mem_of_getElem? (i := 201) rfl)) (by decide +kernel)
set_option maxRecDepth 100000 in
theorem mw_1209 : Cond.code yX10_level cX10_level 10 (some .long) ∈ GW := gw_of (lwt_5 (List.mem_of_getElem? (i := 202) rfl)) (by decide +kernel)
set_option maxRecDepth 100000 in
theorem mw_1215 : Cond.methodLink RL 125 yX10_points ∈ GW := gw_of (lwt_5 (List.mem_of_getElem? (i := 208) rfl)) (by decide +kernel)
set_option maxRecDepth 100000 in
theorem mw_1216 : Cond.instanceMethod yX10_points ∈ GW := gw_of (lwt_5 (List.mem_of_getElem? (i := 209) rfl)) (by decide +kernel)
set_option maxRecDepth 100000 in
theorem mw_1217 : Cond.selects RX10 yX10_points yX10_points ∈ GW := gw_of (lwt_5 (List.mem_of_getElem? (i := 210) rfl)) (by decide +kernel)
set_option maxRecDepth 100000 in
theorem mw_1218 : Cond.code yX10_points cX10_points 2 (some .int) ∈ GW := gw_of (lwt_5 (List.mem_of_getElem? (i := 211) rfl)) (by decide +kernel)
set_option maxRecDepth 100000 in
theorem mw_1226 : Cond.methodLink RL 129 yX10_table ∈ GW := gw_of (lwt_5 (List.mem_of_getElem? (i := 219) rfl)) (by decide +kernel)
set_option maxRecDepth 100000 in
theorem mw_1227 : Cond.instanceMethod yX10_table ∈ GW := gw_of (lwt_5 (List.mem_of_getElem? (i := 220) rfl)) (by decide +kernel)
set_option maxRecDepth 100000 in
theorem mw_1228 : Cond.selects RX10 yX10_table yX10_table ∈ GW := gw_of (lwt_5 (List.mem_of_getElem? (i := 221) rfl)) (by decide +kernel)
set_option maxRecDepth 100000 in
theorem mw_1229 : Cond.code yX10_table cX10_table 5 (some .int) ∈ GW := gw_of (lwt_5 (List.mem_of_getElem? (i := 222) rfl)) (by decide +kernel)
set_option maxRecDepth 100000 in
theorem mw_1230 : Cond.methodLink RL 133 yX10_count ∈ GW := gw_of (lwt_5 (List.mem_of_getElem? (i := 223) rfl)) (by decide +kernel)
set_option maxRecDepth 100000 in
theorem mw_1231 : Cond.instanceMethod yX10_count ∈ GW := gw_of (lwt_5 (List.mem_of_getElem? (i := 224) rfl)) (by decide +kernel)
set_option maxRecDepth 100000 in
theorem mw_1232 : Cond.selects RX10 yX10_count yX10_count ∈ GW := gw_of (lwt_5 (List.mem_of_getElem? (i := 225) rfl)) (by decide +kernel)
set_option maxRecDepth 100000 in
theorem mw_1233 : Cond.code yX10_count cX10_count 4 (some .int) ∈ GW := gw_of (lwt_5 (List.mem_of_getElem? (i := 226) rfl)) (by decide +kernel)
set_option maxRecDepth 100000 in
theorem mw_1234 : Cond.constantLong RL 53 4294967295 ∈ GW := gw_of (lwt_5 (List.mem_of_getElem? (i := 227) rfl)) (by decide +kernel)
theorem cw_L_13 : CV RL 13 yX9_paddler cX9_paddler 6 (some .int) 5 := ⟨⟨mw_48, mw_420, by decide, by decide, by decide +kernel⟩, mw_417, mw_418, mw_419⟩
theorem cw_L_17 : CV RL 17 yX10_paddler cX10_paddler 6 (some .int) 5 := ⟨⟨mw_58, mw_1034, by decide, by decide, by decide +kernel⟩, mw_1031, mw_1032, mw_1033⟩
theorem cw_L_18 : CV RL 18 yX9_like cX9_like 5 (some .int) 3 := ⟨⟨mw_48, mw_431, by decide, by decide, by decide +kernel⟩, mw_428, mw_429, mw_430⟩
theorem cw_L_22 : CV RL 22 yX10_like cX10_like 5 (some .int) 3 := ⟨⟨mw_58, mw_1038, by decide, by decide, by decide +kernel⟩, mw_1035, mw_1036, mw_1037⟩
theorem cw_L_23 : CV RL 23 yX9_crew cX9_crew 3 (some .int) 2 := ⟨⟨mw_48, mw_449, by decide, by decide, by decide +kernel⟩, mw_446, mw_447, mw_448⟩
theorem cw_L_27 : CV RL 27 yX10_crew cX10_crew 3 (some .int) 2 := ⟨⟨mw_58, mw_1046, by decide, by decide, by decide +kernel⟩, mw_1043, mw_1044, mw_1045⟩
theorem cw_L_28 : CV RL 28 yX9_join cX9_join 4 (some .int) 2 := ⟨⟨mw_48, mw_453, by decide, by decide, by decide +kernel⟩, mw_450, mw_451, mw_452⟩
theorem cw_L_31 : CV RL 31 yX10_join cX10_join 3 (some .int) 2 := ⟨⟨mw_58, mw_1050, by decide, by decide, by decide +kernel⟩, mw_1047, mw_1048, mw_1049⟩
theorem cw_L_32 : CV RL 32 yX9_beat cX9_beat 4 (some .int) 2 := ⟨⟨mw_48, mw_469, by decide, by decide, by decide +kernel⟩, mw_466, mw_467, mw_468⟩
theorem cw_L_35 : CV RL 35 yX10_beat cX10_beat 4 (some .int) 2 := ⟨⟨mw_58, mw_1062, by decide, by decide, by decide +kernel⟩, mw_1059, mw_1060, mw_1061⟩
theorem cw_L_36 : CV RL 36 yX9_seat cX9_seat 3 (some .int) 1 := ⟨⟨mw_48, mw_473, by decide, by decide, by decide +kernel⟩, mw_470, mw_471, mw_472⟩
theorem cw_L_40 : CV RL 40 yX10_seat cX10_seat 11 (some .int) 1 := ⟨⟨mw_58, mw_1066, by decide, by decide, by decide +kernel⟩, mw_1063, mw_1064, mw_1065⟩
theorem cw_L_41 : CV RL 41 yX9_sits cX9_sits 4 (some .int) 3 := ⟨⟨mw_48, mw_540, by decide, by decide, by decide +kernel⟩, mw_537, mw_538, mw_539⟩
theorem cw_L_44 : CV RL 44 yX10_sits cX10_sits 4 (some .int) 3 := ⟨⟨mw_58, mw_1087, by decide, by decide, by decide +kernel⟩, mw_1084, mw_1085, mw_1086⟩
theorem cw_L_45 : CV RL 45 yX9_trim cX9_trim 3 (some .int) 2 := ⟨⟨mw_48, mw_544, by decide, by decide, by decide +kernel⟩, mw_541, mw_542, mw_543⟩
theorem cw_L_48 : CV RL 48 yX10_trim cX10_trim 3 (some .int) 2 := ⟨⟨mw_58, mw_1091, by decide, by decide, by decide +kernel⟩, mw_1088, mw_1089, mw_1090⟩
theorem cw_L_49 : CV RL 49 yX9_change cX9_change 6 (some .int) 3 := ⟨⟨mw_48, mw_557, by decide, by decide, by decide +kernel⟩, mw_554, mw_555, mw_556⟩
theorem cw_L_52 : CV RL 52 yX10_change cX10_change 5 (some .int) 3 := ⟨⟨mw_58, mw_1095, by decide, by decide, by decide +kernel⟩, mw_1092, mw_1093, mw_1094⟩
theorem cw_L_55 : CV RL 55 yX9_feed cX9_feed 4 (some .int) 2 := ⟨⟨mw_48, mw_574, by decide, by decide, by decide +kernel⟩, mw_571, mw_572, mw_573⟩
theorem cw_L_59 : CV RL 59 yX10_feed cX10_feed 5 (some .int) 2 := ⟨⟨mw_58, mw_1099, by decide, by decide, by decide +kernel⟩, mw_1096, mw_1097, mw_1098⟩
theorem cw_L_60 : CV RL 60 yX9_rule cX9_rule 2 (some .int) 0 := ⟨⟨mw_48, mw_583, by decide, by decide, by decide +kernel⟩, mw_580, mw_581, mw_582⟩
theorem cw_L_64 : CV RL 64 yX10_rule cX10_rule 4 (some .int) 0 := ⟨⟨mw_58, mw_1104, by decide, by decide, by decide +kernel⟩, mw_1101, mw_1102, mw_1103⟩
theorem cw_L_65 : CV RL 65 yX9_keeps cX9_keeps 3 (some .int) 2 := ⟨⟨mw_48, mw_684, by decide, by decide, by decide +kernel⟩, mw_681, mw_682, mw_683⟩
theorem cw_L_68 : CV RL 68 yX10_keeps cX10_keeps 9 (some .int) 2 := ⟨⟨mw_58, mw_1132, by decide, by decide, by decide +kernel⟩, mw_1129, mw_1130, mw_1131⟩
theorem cw_L_69 : CV RL 69 yX9_rest cX9_rest 3 (some .int) 1 := ⟨⟨mw_48, mw_700, by decide, by decide, by decide +kernel⟩, mw_697, mw_698, mw_699⟩
theorem cw_L_72 : CV RL 72 yX10_rest cX10_rest 3 (some .int) 1 := ⟨⟨mw_58, mw_1140, by decide, by decide, by decide +kernel⟩, mw_1137, mw_1138, mw_1139⟩
theorem cw_L_73 : CV RL 73 yX9_lane cX9_lane 3 (some .int) 2 := ⟨⟨mw_48, mw_704, by decide, by decide, by decide +kernel⟩, mw_701, mw_702, mw_703⟩
theorem cw_L_76 : CV RL 76 yX10_lane cX10_lane 4 (some .int) 2 := ⟨⟨mw_58, mw_1144, by decide, by decide, by decide +kernel⟩, mw_1141, mw_1142, mw_1143⟩
theorem cw_L_77 : CV RL 77 yX9_race cX9_race 5 (some .int) 2 := ⟨⟨mw_48, mw_719, by decide, by decide, by decide +kernel⟩, mw_716, mw_717, mw_718⟩
theorem cw_L_80 : CV RL 80 yX10_race cX10_race 6 (some .int) 2 := ⟨⟨mw_58, mw_1152, by decide, by decide, by decide +kernel⟩, mw_1149, mw_1150, mw_1151⟩
theorem cw_L_81 : CV RL 81 yX9_current cX9_current 4 (some .int) 2 := ⟨⟨mw_48, mw_740, by decide, by decide, by decide +kernel⟩, mw_737, mw_738, mw_739⟩
theorem cw_L_84 : CV RL 84 yX10_current cX10_current 4 (some .int) 2 := ⟨⟨mw_58, mw_1156, by decide, by decide, by decide +kernel⟩, mw_1153, mw_1154, mw_1155⟩
theorem cw_L_85 : CV RL 85 yX9_run cX9_run 5 (some .int) 2 := ⟨⟨mw_48, mw_744, by decide, by decide, by decide +kernel⟩, mw_741, mw_742, mw_743⟩
theorem cw_L_88 : CV RL 88 yX10_run cX10_run 6 (some .int) 2 := ⟨⟨mw_58, mw_1160, by decide, by decide, by decide +kernel⟩, mw_1157, mw_1158, mw_1159⟩
theorem cw_L_89 : CV RL 89 yX9_time cX9_time 6 (some .int) 3 := ⟨⟨mw_48, mw_770, by decide, by decide, by decide +kernel⟩, mw_767, mw_768, mw_769⟩
theorem cw_L_92 : CV RL 92 yX10_time cX10_time 5 (some .int) 3 := ⟨⟨mw_58, mw_1172, by decide, by decide, by decide +kernel⟩, mw_1169, mw_1170, mw_1171⟩
theorem cw_L_93 : CV RL 93 yX9_told cX9_told 4 (some .int) 3 := ⟨⟨mw_48, mw_775, by decide, by decide, by decide +kernel⟩, mw_772, mw_773, mw_774⟩
theorem cw_L_96 : CV RL 96 yX10_told cX10_told 4 (some .int) 3 := ⟨⟨mw_58, mw_1181, by decide, by decide, by decide +kernel⟩, mw_1178, mw_1179, mw_1180⟩
theorem cw_L_97 : CV RL 97 yX9_again cX9_again 3 (some .int) 1 := ⟨⟨mw_48, mw_783, by decide, by decide, by decide +kernel⟩, mw_780, mw_781, mw_782⟩
theorem cw_L_100 : CV RL 100 yX10_again cX10_again 4 (some .int) 1 := ⟨⟨mw_58, mw_1189, by decide, by decide, by decide +kernel⟩, mw_1186, mw_1187, mw_1188⟩
theorem cw_L_101 : CV RL 101 yX9_strike cX9_strike 6 (some .int) 2 := ⟨⟨mw_48, mw_791, by decide, by decide, by decide +kernel⟩, mw_788, mw_789, mw_790⟩
theorem cw_L_104 : CV RL 104 yX10_strike cX10_strike 5 (some .int) 2 := ⟨⟨mw_58, mw_1193, by decide, by decide, by decide +kernel⟩, mw_1190, mw_1191, mw_1192⟩
theorem cw_L_105 : CV RL 105 yX9_finalists cX9_finalists 3 (some .int) 2 := ⟨⟨mw_48, mw_799, by decide, by decide, by decide +kernel⟩, mw_796, mw_797, mw_798⟩
theorem cw_L_108 : CV RL 108 yX10_finalists cX10_finalists 7 (some .int) 2 := ⟨⟨mw_58, mw_1197, by decide, by decide, by decide +kernel⟩, mw_1194, mw_1195, mw_1196⟩
theorem cw_L_109 : CV RL 109 yX9_finalist cX9_finalist 2 (some .int) 1 := ⟨⟨mw_48, mw_825, by decide, by decide, by decide +kernel⟩, mw_822, mw_823, mw_824⟩
theorem cw_L_112 : CV RL 112 yX10_finalist cX10_finalist 2 (some .int) 1 := ⟨⟨mw_58, mw_1201, by decide, by decide, by decide +kernel⟩, mw_1198, mw_1199, mw_1200⟩
theorem cw_L_113 : CV RL 113 yX9_slack cX9_slack 5 (some .int) 0 := ⟨⟨mw_48, mw_829, by decide, by decide, by decide +kernel⟩, mw_826, mw_827, mw_828⟩
theorem cw_L_116 : CV RL 116 yX10_slack cX10_slack 8 (some .int) 0 := ⟨⟨mw_58, mw_1205, by decide, by decide, by decide +kernel⟩, mw_1202, mw_1203, mw_1204⟩
theorem cw_L_117 : CV RL 117 yX9_level cX9_level 11 (some .long) 3 := ⟨⟨mw_48, mw_833, by decide, by decide, by decide +kernel⟩, mw_830, mw_831, mw_832⟩
theorem cw_L_121 : CV RL 121 yX10_level cX10_level 10 (some .long) 3 := ⟨⟨mw_58, mw_1209, by decide, by decide, by decide +kernel⟩, mw_1206, mw_1207, mw_1208⟩
theorem cw_L_122 : CV RL 122 yX9_points cX9_points 2 (some .int) 1 := ⟨⟨mw_48, mw_848, by decide, by decide, by decide +kernel⟩, mw_845, mw_846, mw_847⟩
theorem cw_L_125 : CV RL 125 yX10_points cX10_points 2 (some .int) 1 := ⟨⟨mw_58, mw_1218, by decide, by decide, by decide +kernel⟩, mw_1215, mw_1216, mw_1217⟩
theorem cw_L_126 : CV RL 126 yX9_table cX9_table 3 (some .int) 1 := ⟨⟨mw_48, mw_863, by decide, by decide, by decide +kernel⟩, mw_860, mw_861, mw_862⟩
theorem cw_L_129 : CV RL 129 yX10_table cX10_table 5 (some .int) 1 := ⟨⟨mw_58, mw_1229, by decide, by decide, by decide +kernel⟩, mw_1226, mw_1227, mw_1228⟩
theorem cw_L_130 : CV RL 130 yX9_count cX9_count 2 (some .int) 1 := ⟨⟨mw_48, mw_871, by decide, by decide, by decide +kernel⟩, mw_868, mw_869, mw_870⟩
theorem cw_L_133 : CV RL 133 yX10_count cX10_count 4 (some .int) 1 := ⟨⟨mw_58, mw_1233, by decide, by decide, by decide +kernel⟩, mw_1230, mw_1231, mw_1232⟩
