set_option maxRecDepth 100000 in
theorem mw_69 : Cond.methodLink RX9 3 objectInit ∈ GW := gw_of (lwt_1 (List.mem_of_getElem? (i := 22) rfl)) (by decide +kernel)
set_option maxRecDepth 100000 in
theorem mw_70 : Cond.instanceMethod objectInit ∈ GW := gw_of (lwt_1 (List.mem_of_getElem? (i := 23) rfl)) (by decide +kernel)
set_option maxRecDepth 100000 in
theorem mw_71 : Cond.code objectInit ⟨#[0xb1]⟩ 1 none ∈ GW := gw_of (lwt_1 (List.mem_of_getElem? (i := 24) rfl)) (by decide +kernel)
set_option maxRecDepth 100000 in
theorem mw_72 : Cond.classLink RX9 9 RX4 ∈ GW := gw_of (lwt_1 (List.mem_of_getElem? (i := 25) rfl)) (by decide +kernel)
set_option maxRecDepth 100000 in
theorem mw_73 : Cond.instantiable RX4 7 ∈ GW := gw_of (lwt_1 (List.mem_of_getElem? (i := 26) rfl)) (by decide +kernel)
set_option maxRecDepth 100000 in
theorem mw_75 : Cond.instanceMethod yX4_init ∈ GW := gw_of (lwt_1 (List.mem_of_getElem? (i := 28) rfl)) (by decide +kernel)
set_option maxRecDepth 100000 in
theorem mw_76 : Cond.code yX4_init cX4_init 1 none ∈ GW := gw_of (lwt_1 (List.mem_of_getElem? (i := 29) rfl)) (by decide +kernel)
set_option maxRecDepth 100000 in
theorem mw_77 : Cond.methodLink RX4 3 objectInit ∈ GW := gw_of (lwt_1 (List.mem_of_getElem? (i := 30) rfl)) (by decide +kernel)
set_option maxRecDepth 100000 in
theorem mw_110 : Cond.arrayClass .int ∈ GW := gw_of (lwt_1 (List.mem_of_getElem? (i := 63) rfl)) (by decide +kernel)
set_option maxRecDepth 100000 in
theorem mw_111 : Cond.arrayClass .long ∈ GW := gw_of (lwt_1 (List.mem_of_getElem? (i := 64) rfl)) (by decide +kernel)
set_option maxRecDepth 100000 in
theorem mw_112 : Cond.classLink RX9 18 RX1 ∈ GW := gw_of (lwt_1 (List.mem_of_getElem? (i := 65) rfl)) (by decide +kernel)
set_option maxRecDepth 100000 in
theorem mw_114 : Cond.classLink RX9 28 RX8 ∈ GW := gw_of (lwt_1 (List.mem_of_getElem? (i := 67) rfl)) (by decide +kernel)
set_option maxRecDepth 100000 in
theorem mw_115 : Cond.instantiable RX8 4 ∈ GW := gw_of (lwt_1 (List.mem_of_getElem? (i := 68) rfl)) (by decide +kernel)
set_option maxRecDepth 100000 in
theorem mw_117 : Cond.instanceMethod yX8_init ∈ GW := gw_of (lwt_1 (List.mem_of_getElem? (i := 70) rfl)) (by decide +kernel)
set_option maxRecDepth 100000 in
theorem mw_118 : Cond.code yX8_init cX8_init 1 none ∈ GW := gw_of (lwt_1 (List.mem_of_getElem? (i := 71) rfl)) (by decide +kernel)
set_option maxRecDepth 100000 in
theorem mw_119 : Cond.methodLink RX8 1 objectInit ∈ GW := gw_of (lwt_1 (List.mem_of_getElem? (i := 72) rfl)) (by decide +kernel)
set_option maxRecDepth 100000 in
theorem mw_137 : Cond.classLink RX9 35 RX6 ∈ GW := gw_of (lwt_1 (List.mem_of_getElem? (i := 90) rfl)) (by decide +kernel)
set_option maxRecDepth 100000 in
theorem mw_138 : Cond.instantiable RX6 17 ∈ GW := gw_of (lwt_1 (List.mem_of_getElem? (i := 91) rfl)) (by decide +kernel)
set_option maxRecDepth 100000 in
theorem mw_140 : Cond.instanceMethod yX6_init ∈ GW := gw_of (lwt_1 (List.mem_of_getElem? (i := 93) rfl)) (by decide +kernel)
set_option maxRecDepth 100000 in
theorem mw_141 : Cond.code yX6_init cX6_init 1 none ∈ GW := gw_of (lwt_1 (List.mem_of_getElem? (i := 94) rfl)) (by decide +kernel)
set_option maxRecDepth 100000 in
theorem mw_142 : Cond.methodLink RX6 3 objectInit ∈ GW := gw_of (lwt_1 (List.mem_of_getElem? (i := 95) rfl)) (by decide +kernel)
set_option maxRecDepth 100000 in
theorem mw_196 : Cond.classLink RX9 42 RX7 ∈ GW := gw_of (lwt_1 (List.mem_of_getElem? (i := 149) rfl)) (by decide +kernel)
set_option maxRecDepth 100000 in
theorem mw_197 : Cond.instantiable RX7 3 ∈ GW := gw_of (lwt_1 (List.mem_of_getElem? (i := 150) rfl)) (by decide +kernel)
set_option maxRecDepth 100000 in
theorem mw_199 : Cond.instanceMethod yX7_init ∈ GW := gw_of (lwt_1 (List.mem_of_getElem? (i := 152) rfl)) (by decide +kernel)
set_option maxRecDepth 100000 in
theorem mw_200 : Cond.code yX7_init cX7_init 1 none ∈ GW := gw_of (lwt_1 (List.mem_of_getElem? (i := 153) rfl)) (by decide +kernel)
set_option maxRecDepth 100000 in
theorem mw_201 : Cond.methodLink RX7 3 objectInit ∈ GW := gw_of (lwt_1 (List.mem_of_getElem? (i := 154) rfl)) (by decide +kernel)
set_option maxRecDepth 100000 in
theorem mw_214 : Cond.classLink RX9 49 RX5 ∈ GW := gw_of (lwt_1 (List.mem_of_getElem? (i := 167) rfl)) (by decide +kernel)
set_option maxRecDepth 100000 in
theorem mw_216 : Cond.classLink RX9 71 RX3 ∈ GW := gw_of (lwt_1 (List.mem_of_getElem? (i := 169) rfl)) (by decide +kernel)
set_option maxRecDepth 100000 in
theorem mw_218 : Cond.classLink RX9 80 RX0 ∈ GW := gw_of (lwt_1 (List.mem_of_getElem? (i := 171) rfl)) (by decide +kernel)
set_option maxRecDepth 100000 in
theorem mw_219 : Cond.instantiable RX0 2 ∈ GW := gw_of (lwt_1 (List.mem_of_getElem? (i := 172) rfl)) (by decide +kernel)
set_option maxRecDepth 100000 in
theorem mw_221 : Cond.instanceMethod yX0_init ∈ GW := gw_of (lwt_1 (List.mem_of_getElem? (i := 174) rfl)) (by decide +kernel)
set_option maxRecDepth 100000 in
theorem mw_222 : Cond.code yX0_init cX0_init 1 none ∈ GW := gw_of (lwt_1 (List.mem_of_getElem? (i := 175) rfl)) (by decide +kernel)
set_option maxRecDepth 100000 in
theorem mw_223 : Cond.methodLink RX0 1 objectInit ∈ GW := gw_of (lwt_1 (List.mem_of_getElem? (i := 176) rfl)) (by decide +kernel)
set_option maxRecDepth 100000 in
theorem mw_233 : Cond.classLink RX9 87 RX2 ∈ GW := gw_of (lwt_1 (List.mem_of_getElem? (i := 186) rfl)) (by decide +kernel)
set_option maxRecDepth 100000 in
theorem mw_234 : Cond.instantiable RX2 5 ∈ GW := gw_of (lwt_1 (List.mem_of_getElem? (i := 187) rfl)) (by decide +kernel)
set_option maxRecDepth 100000 in
theorem mw_236 : Cond.instanceMethod yX2_init ∈ GW := gw_of (lwt_1 (List.mem_of_getElem? (i := 189) rfl)) (by decide +kernel)
set_option maxRecDepth 100000 in
theorem mw_237 : Cond.code yX2_init cX2_init 1 none ∈ GW := gw_of (lwt_1 (List.mem_of_getElem? (i := 190) rfl)) (by decide +kernel)
set_option maxRecDepth 100000 in
theorem mw_238 : Cond.methodLink RX2 3 objectInit ∈ GW := gw_of (lwt_1 (List.mem_of_getElem? (i := 191) rfl)) (by decide +kernel)
set_option maxRecDepth 100000 in
theorem mw_257 : Cond.arrayClass .boolean ∈ GW := gw_of (lwt_1 (List.mem_of_getElem? (i := 210) rfl)) (by decide +kernel)
set_option maxRecDepth 100000 in
theorem mw_258 : Cond.instantiable RX1 8 ∈ GW := gw_of (lwt_1 (List.mem_of_getElem? (i := 211) rfl)) (by decide +kernel)
set_option maxRecDepth 100000 in
theorem mw_260 : Cond.instanceMethod yX1_init ∈ GW := gw_of (lwt_1 (List.mem_of_getElem? (i := 213) rfl)) (by decide +kernel)
set_option maxRecDepth 100000 in
theorem mw_261 : Cond.code yX1_init cX1_init 1 none ∈ GW := gw_of (lwt_1 (List.mem_of_getElem? (i := 214) rfl)) (by decide +kernel)
set_option maxRecDepth 100000 in
theorem mw_262 : Cond.methodLink RX1 3 objectInit ∈ GW := gw_of (lwt_1 (List.mem_of_getElem? (i := 215) rfl)) (by decide +kernel)
set_option maxRecDepth 100000 in
theorem mw_268 : Cond.fieldLink RX1 18 "DrumBoats$Crew" "drumBeat" "I" ∈ GW := gw_of (lwt_1 (List.mem_of_getElem? (i := 221) rfl)) (by decide +kernel)
set_option maxRecDepth 100000 in
theorem mw_302 : Cond.instantiable RX5 6 ∈ GW := gw_of (lwt_2 (List.mem_of_getElem? (i := 15) rfl)) (by decide +kernel)
set_option maxRecDepth 100000 in
theorem mw_304 : Cond.instanceMethod yX5_init ∈ GW := gw_of (lwt_2 (List.mem_of_getElem? (i := 17) rfl)) (by decide +kernel)
set_option maxRecDepth 100000 in
theorem mw_305 : Cond.code yX5_init cX5_init 1 none ∈ GW := gw_of (lwt_2 (List.mem_of_getElem? (i := 18) rfl)) (by decide +kernel)
set_option maxRecDepth 100000 in
theorem mw_306 : Cond.methodLink RX5 3 objectInit ∈ GW := gw_of (lwt_2 (List.mem_of_getElem? (i := 19) rfl)) (by decide +kernel)
set_option maxRecDepth 100000 in
theorem mw_332 : Cond.instantiable RX3 7 ∈ GW := gw_of (lwt_2 (List.mem_of_getElem? (i := 45) rfl)) (by decide +kernel)
set_option maxRecDepth 100000 in
theorem mw_334 : Cond.instanceMethod yX3_init ∈ GW := gw_of (lwt_2 (List.mem_of_getElem? (i := 47) rfl)) (by decide +kernel)
set_option maxRecDepth 100000 in
theorem mw_335 : Cond.code yX3_init cX3_init 1 none ∈ GW := gw_of (lwt_2 (List.mem_of_getElem? (i := 48) rfl)) (by decide +kernel)
set_option maxRecDepth 100000 in
theorem mw_336 : Cond.methodLink RX3 3 objectInit ∈ GW := gw_of (lwt_2 (List.mem_of_getElem? (i := 49) rfl)) (by decide +kernel)
set_option maxRecDepth 100000 in
theorem mw_351 : Cond.fieldLink RX3 32 "DrumBoats$Race" "struck" "[Z" ∈ GW := gw_of (lwt_2 (List.mem_of_getElem? (i := 64) rfl)) (by decide +kernel)
set_option maxRecDepth 100000 in
theorem mw_885 : Cond.methodLink RX10 3 objectInit ∈ GW := gw_of (lwt_4 (List.mem_of_getElem? (i := 118) rfl)) (by decide +kernel)
