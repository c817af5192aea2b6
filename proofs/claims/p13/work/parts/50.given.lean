theorem g_compact : Cond.eq (.static "java/lang/String" "COMPACT_STRINGS" "Z") (.int 1) ∈ flatC (Jvm.Cond.and given_1 narrow_1) := by decide +kernel
theorem g_form : Cond.isRef (.static "jdk/internal/util/Preconditions" "SIOOBE_FORMATTER" "Ljava/util/function/BiFunction;") ∈ flatC (Jvm.Cond.and given_1 narrow_1) := by decide +kernel
theorem g_pa : Cond.arrayOf (.static "DrumBoats" "PLACE_POINTS" "[I") .int ∈ flatC (Jvm.Cond.and given_1 narrow_1) := by decide +kernel
theorem g_pl : Cond.eq (.length (.static "DrumBoats" "PLACE_POINTS" "[I")) (.int 6) ∈ flatC (Jvm.Cond.and given_1 narrow_1) := by decide +kernel
theorem g_p0 : Cond.eq (.elem (.static "DrumBoats" "PLACE_POINTS" "[I") (.int 0)) (.int 10) ∈ flatC (Jvm.Cond.and given_1 narrow_1) := by decide +kernel
theorem g_p1 : Cond.eq (.elem (.static "DrumBoats" "PLACE_POINTS" "[I") (.int 1)) (.int 8) ∈ flatC (Jvm.Cond.and given_1 narrow_1) := by decide +kernel
theorem g_p2 : Cond.eq (.elem (.static "DrumBoats" "PLACE_POINTS" "[I") (.int 2)) (.int 6) ∈ flatC (Jvm.Cond.and given_1 narrow_1) := by decide +kernel
theorem g_p3 : Cond.eq (.elem (.static "DrumBoats" "PLACE_POINTS" "[I") (.int 3)) (.int 5) ∈ flatC (Jvm.Cond.and given_1 narrow_1) := by decide +kernel
theorem g_p4 : Cond.eq (.elem (.static "DrumBoats" "PLACE_POINTS" "[I") (.int 4)) (.int 4) ∈ flatC (Jvm.Cond.and given_1 narrow_1) := by decide +kernel
theorem g_p5 : Cond.eq (.elem (.static "DrumBoats" "PLACE_POINTS" "[I") (.int 5)) (.int 3) ∈ flatC (Jvm.Cond.and given_1 narrow_1) := by decide +kernel
theorem s0_x : Cond.exactly (Term.string "DrumBoats$Tape" 91) "java/lang/String" ∈ flatC (Jvm.Cond.and given_1 narrow_1) := by decide +kernel
theorem s0_c : Cond.eq (.field (Term.string "DrumBoats$Tape" 91) "java/lang/String" "coder" "B") (.int 0) ∈ flatC (Jvm.Cond.and given_1 narrow_1) := by decide +kernel
theorem s0_a : Cond.arrayOf (.field (Term.string "DrumBoats$Tape" 91) "java/lang/String" "value" "[B") .byte ∈ flatC (Jvm.Cond.and given_1 narrow_1) := by decide +kernel
theorem s0_l : Cond.eq (.length (.field (Term.string "DrumBoats$Tape" 91) "java/lang/String" "value" "[B")) (.int 3) ∈ flatC (Jvm.Cond.and given_1 narrow_1) := by decide +kernel
theorem s0_0 : Cond.eq (.elem (.field (Term.string "DrumBoats$Tape" 91) "java/lang/String" "value" "[B") (.int 0)) (.int 109) ∈ flatC (Jvm.Cond.and given_1 narrow_1) := by decide +kernel
theorem s0_1 : Cond.eq (.elem (.field (Term.string "DrumBoats$Tape" 91) "java/lang/String" "value" "[B") (.int 1)) (.int 101) ∈ flatC (Jvm.Cond.and given_1 narrow_1) := by decide +kernel
theorem s0_2 : Cond.eq (.elem (.field (Term.string "DrumBoats$Tape" 91) "java/lang/String" "value" "[B") (.int 2)) (.int 110) ∈ flatC (Jvm.Cond.and given_1 narrow_1) := by decide +kernel
theorem st_0 {args : Array Value} {s : State} {A : Nat → Prop} (hgs : ∀ c ∈ flatC (Jvm.Cond.and given_1 narrow_1), c.before args s = true) (hts0 : ∀ w ∈ lw_tbl, w.before args s = true) (hAn : ∀ a : Nat, a < s.heap.size → ¬ A a) : ∃ q : Nat × Nat, va_O "java/lang/String" q.1 A s s.heap ∧ va_OF "java/lang/String" "coder" "B" (.int 0) q.1 A s s.heap ∧ va_OF "java/lang/String" "value" "[B" (.ref q.2) q.1 A s s.heap ∧ va_T .byte q.2 (sbs 0).length (sb (sbs 0)) A s s.heap ∧ (Cond.stringRef (sown 0) (sidx 0) (stx 0)).before args s = true ∧ (Term.string (sown 0) (sidx 0)).eval args s none [] s = some (.ref q.1) := by
  obtain ⟨aK, aV, hS, hE⟩ := vk_Sof (args := args) (s := s) (N := 1) (tm := fun _ => (Term.string "DrumBoats$Tape" 91)) (len := [3]) (byt := [[109, 101, 110]]) (A := A) (fun i hi => by obtain rfl : i = 0 := (by omega); decide) (fun i hi => hgs _ s0_x) (fun i hi => hgs _ s0_c) (fun i hi => hgs _ s0_a) (fun i hi => by obtain rfl : i = 0 := (by omega); exact hgs _ s0_l) (fun i hi j hj => by
    obtain rfl : i = 0 := (by omega)
    have hj : j < 3 := hj
    rcases (show j = 0 ∨ j = 1 ∨ j = 2 by omega) with rfl | rfl | rfl
    · exact hgs _ s0_0
    · exact hgs _ s0_1
    · exact hgs _ s0_2) (fun i j hi hj h => absurd (show i = j by omega) h) hAn
  obtain ⟨h1, h2, h3, h4⟩ := hS.1 0 (by decide)
  exact ⟨(aK 0, aV 0), h1, h2, h3, h4, hts0 (.stringRef RX7 91 "men") ((lwt_3 (List.mem_of_getElem? (i := 72) (by decide +kernel)))), hE 0 (by decide)⟩
theorem s1_x : Cond.exactly (Term.string "DrumBoats$Tape" 93) "java/lang/String" ∈ flatC (Jvm.Cond.and given_1 narrow_1) := by decide +kernel
theorem s1_c : Cond.eq (.field (Term.string "DrumBoats$Tape" 93) "java/lang/String" "coder" "B") (.int 0) ∈ flatC (Jvm.Cond.and given_1 narrow_1) := by decide +kernel
theorem s1_a : Cond.arrayOf (.field (Term.string "DrumBoats$Tape" 93) "java/lang/String" "value" "[B") .byte ∈ flatC (Jvm.Cond.and given_1 narrow_1) := by decide +kernel
theorem s1_l : Cond.eq (.length (.field (Term.string "DrumBoats$Tape" 93) "java/lang/String" "value" "[B")) (.int 5) ∈ flatC (Jvm.Cond.and given_1 narrow_1) := by decide +kernel
theorem s1_0 : Cond.eq (.elem (.field (Term.string "DrumBoats$Tape" 93) "java/lang/String" "value" "[B") (.int 0)) (.int 119) ∈ flatC (Jvm.Cond.and given_1 narrow_1) := by decide +kernel
theorem s1_1 : Cond.eq (.elem (.field (Term.string "DrumBoats$Tape" 93) "java/lang/String" "value" "[B") (.int 1)) (.int 111) ∈ flatC (Jvm.Cond.and given_1 narrow_1) := by decide +kernel
theorem s1_2 : Cond.eq (.elem (.field (Term.string "DrumBoats$Tape" 93) "java/lang/String" "value" "[B") (.int 2)) (.int 109) ∈ flatC (Jvm.Cond.and given_1 narrow_1) := by decide +kernel
theorem s1_3 : Cond.eq (.elem (.field (Term.string "DrumBoats$Tape" 93) "java/lang/String" "value" "[B") (.int 3)) (.int 101) ∈ flatC (Jvm.Cond.and given_1 narrow_1) := by decide +kernel
theorem s1_4 : Cond.eq (.elem (.field (Term.string "DrumBoats$Tape" 93) "java/lang/String" "value" "[B") (.int 4)) (.int 110) ∈ flatC (Jvm.Cond.and given_1 narrow_1) := by decide +kernel
theorem st_1 {args : Array Value} {s : State} {A : Nat → Prop} (hgs : ∀ c ∈ flatC (Jvm.Cond.and given_1 narrow_1), c.before args s = true) (hts0 : ∀ w ∈ lw_tbl, w.before args s = true) (hAn : ∀ a : Nat, a < s.heap.size → ¬ A a) : ∃ q : Nat × Nat, va_O "java/lang/String" q.1 A s s.heap ∧ va_OF "java/lang/String" "coder" "B" (.int 0) q.1 A s s.heap ∧ va_OF "java/lang/String" "value" "[B" (.ref q.2) q.1 A s s.heap ∧ va_T .byte q.2 (sbs 1).length (sb (sbs 1)) A s s.heap ∧ (Cond.stringRef (sown 1) (sidx 1) (stx 1)).before args s = true ∧ (Term.string (sown 1) (sidx 1)).eval args s none [] s = some (.ref q.1) := by
  obtain ⟨aK, aV, hS, hE⟩ := vk_Sof (args := args) (s := s) (N := 1) (tm := fun _ => (Term.string "DrumBoats$Tape" 93)) (len := [5]) (byt := [[119, 111, 109, 101, 110]]) (A := A) (fun i hi => by obtain rfl : i = 0 := (by omega); decide) (fun i hi => hgs _ s1_x) (fun i hi => hgs _ s1_c) (fun i hi => hgs _ s1_a) (fun i hi => by obtain rfl : i = 0 := (by omega); exact hgs _ s1_l) (fun i hi j hj => by
    obtain rfl : i = 0 := (by omega)
    have hj : j < 5 := hj
    rcases (show j = 0 ∨ j = 1 ∨ j = 2 ∨ j = 3 ∨ j = 4 by omega) with rfl | rfl | rfl | rfl | rfl
    · exact hgs _ s1_0
    · exact hgs _ s1_1
    · exact hgs _ s1_2
    · exact hgs _ s1_3
    · exact hgs _ s1_4) (fun i j hi hj h => absurd (show i = j by omega) h) hAn
  obtain ⟨h1, h2, h3, h4⟩ := hS.1 0 (by decide)
  exact ⟨(aK 0, aV 0), h1, h2, h3, h4, hts0 (.stringRef RX7 93 "women") ((lwt_3 (List.mem_of_getElem? (i := 73) (by decide +kernel)))), hE 0 (by decide)⟩
theorem s2_x : Cond.exactly (Term.string "DrumBoats$Tape" 95) "java/lang/String" ∈ flatC (Jvm.Cond.and given_1 narrow_1) := by decide +kernel
theorem s2_c : Cond.eq (.field (Term.string "DrumBoats$Tape" 95) "java/lang/String" "coder" "B") (.int 0) ∈ flatC (Jvm.Cond.and given_1 narrow_1) := by decide +kernel
theorem s2_a : Cond.arrayOf (.field (Term.string "DrumBoats$Tape" 95) "java/lang/String" "value" "[B") .byte ∈ flatC (Jvm.Cond.and given_1 narrow_1) := by decide +kernel
theorem s2_l : Cond.eq (.length (.field (Term.string "DrumBoats$Tape" 95) "java/lang/String" "value" "[B")) (.int 3) ∈ flatC (Jvm.Cond.and given_1 narrow_1) := by decide +kernel
theorem s2_0 : Cond.eq (.elem (.field (Term.string "DrumBoats$Tape" 95) "java/lang/String" "value" "[B") (.int 0)) (.int 111) ∈ flatC (Jvm.Cond.and given_1 narrow_1) := by decide +kernel
theorem s2_1 : Cond.eq (.elem (.field (Term.string "DrumBoats$Tape" 95) "java/lang/String" "value" "[B") (.int 1)) (.int 108) ∈ flatC (Jvm.Cond.and given_1 narrow_1) := by decide +kernel
theorem s2_2 : Cond.eq (.elem (.field (Term.string "DrumBoats$Tape" 95) "java/lang/String" "value" "[B") (.int 2)) (.int 100) ∈ flatC (Jvm.Cond.and given_1 narrow_1) := by decide +kernel
theorem st_2 {args : Array Value} {s : State} {A : Nat → Prop} (hgs : ∀ c ∈ flatC (Jvm.Cond.and given_1 narrow_1), c.before args s = true) (hts0 : ∀ w ∈ lw_tbl, w.before args s = true) (hAn : ∀ a : Nat, a < s.heap.size → ¬ A a) : ∃ q : Nat × Nat, va_O "java/lang/String" q.1 A s s.heap ∧ va_OF "java/lang/String" "coder" "B" (.int 0) q.1 A s s.heap ∧ va_OF "java/lang/String" "value" "[B" (.ref q.2) q.1 A s s.heap ∧ va_T .byte q.2 (sbs 2).length (sb (sbs 2)) A s s.heap ∧ (Cond.stringRef (sown 2) (sidx 2) (stx 2)).before args s = true ∧ (Term.string (sown 2) (sidx 2)).eval args s none [] s = some (.ref q.1) := by
  obtain ⟨aK, aV, hS, hE⟩ := vk_Sof (args := args) (s := s) (N := 1) (tm := fun _ => (Term.string "DrumBoats$Tape" 95)) (len := [3]) (byt := [[111, 108, 100]]) (A := A) (fun i hi => by obtain rfl : i = 0 := (by omega); decide) (fun i hi => hgs _ s2_x) (fun i hi => hgs _ s2_c) (fun i hi => hgs _ s2_a) (fun i hi => by obtain rfl : i = 0 := (by omega); exact hgs _ s2_l) (fun i hi j hj => by
    obtain rfl : i = 0 := (by omega)
    have hj : j < 3 := hj
    rcases (show j = 0 ∨ j = 1 ∨ j = 2 by omega) with rfl | rfl | rfl
    · exact hgs _ s2_0
    · exact hgs _ s2_1
    · exact hgs _ s2_2) (fun i j hi hj h => absurd (show i = j by omega) h) hAn
  obtain ⟨h1, h2, h3, h4⟩ := hS.1 0 (by decide)
  exact ⟨(aK 0, aV 0), h1, h2, h3, h4, hts0 (.stringRef RX7 95 "old") ((lwt_3 (List.mem_of_getElem? (i := 74) (by decide +kernel)))), hE 0 (by decide)⟩
theorem s3_x : Cond.exactly (Term.string "DrumBoats$Tape" 97) "java/lang/String" ∈ flatC (Jvm.Cond.and given_1 narrow_1) := by decide +kernel
theorem s3_c : Cond.eq (.field (Term.string "DrumBoats$Tape" 97) "java/lang/String" "coder" "B") (.int 0) ∈ flatC (Jvm.Cond.and given_1 narrow_1) := by decide +kernel
theorem s3_a : Cond.arrayOf (.field (Term.string "DrumBoats$Tape" 97) "java/lang/String" "value" "[B") .byte ∈ flatC (Jvm.Cond.and given_1 narrow_1) := by decide +kernel
theorem s3_l : Cond.eq (.length (.field (Term.string "DrumBoats$Tape" 97) "java/lang/String" "value" "[B")) (.int 5) ∈ flatC (Jvm.Cond.and given_1 narrow_1) := by decide +kernel
theorem s3_0 : Cond.eq (.elem (.field (Term.string "DrumBoats$Tape" 97) "java/lang/String" "value" "[B") (.int 0)) (.int 121) ∈ flatC (Jvm.Cond.and given_1 narrow_1) := by decide +kernel
theorem s3_1 : Cond.eq (.elem (.field (Term.string "DrumBoats$Tape" 97) "java/lang/String" "value" "[B") (.int 1)) (.int 111) ∈ flatC (Jvm.Cond.and given_1 narrow_1) := by decide +kernel
theorem s3_2 : Cond.eq (.elem (.field (Term.string "DrumBoats$Tape" 97) "java/lang/String" "value" "[B") (.int 2)) (.int 117) ∈ flatC (Jvm.Cond.and given_1 narrow_1) := by decide +kernel
theorem s3_3 : Cond.eq (.elem (.field (Term.string "DrumBoats$Tape" 97) "java/lang/String" "value" "[B") (.int 3)) (.int 110) ∈ flatC (Jvm.Cond.and given_1 narrow_1) := by decide +kernel
theorem s3_4 : Cond.eq (.elem (.field (Term.string "DrumBoats$Tape" 97) "java/lang/String" "value" "[B") (.int 4)) (.int 103) ∈ flatC (Jvm.Cond.and given_1 narrow_1) := by decide +kernel
theorem st_3 {args : Array Value} {s : State} {A : Nat → Prop} (hgs : ∀ c ∈ flatC (Jvm.Cond.and given_1 narrow_1), c.before args s = true) (hts0 : ∀ w ∈ lw_tbl, w.before args s = true) (hAn : ∀ a : Nat, a < s.heap.size → ¬ A a) : ∃ q : Nat × Nat, va_O "java/lang/String" q.1 A s s.heap ∧ va_OF "java/lang/String" "coder" "B" (.int 0) q.1 A s s.heap ∧ va_OF "java/lang/String" "value" "[B" (.ref q.2) q.1 A s s.heap ∧ va_T .byte q.2 (sbs 3).length (sb (sbs 3)) A s s.heap ∧ (Cond.stringRef (sown 3) (sidx 3) (stx 3)).before args s = true ∧ (Term.string (sown 3) (sidx 3)).eval args s none [] s = some (.ref q.1) := by
  obtain ⟨aK, aV, hS, hE⟩ := vk_Sof (args := args) (s := s) (N := 1) (tm := fun _ => (Term.string "DrumBoats$Tape" 97)) (len := [5]) (byt := [[121, 111, 117, 110, 103]]) (A := A) (fun i hi => by obtain rfl : i = 0 := (by omega); decide) (fun i hi => hgs _ s3_x) (fun i hi => hgs _ s3_c) (fun i hi => hgs _ s3_a) (fun i hi => by obtain rfl : i = 0 := (by omega); exact hgs _ s3_l) (fun i hi j hj => by
    obtain rfl : i = 0 := (by omega)
    have hj : j < 5 := hj
    rcases (show j = 0 ∨ j = 1 ∨ j = 2 ∨ j = 3 ∨ j = 4 by omega) with rfl | rfl | rfl | rfl | rfl
    · exact hgs _ s3_0
    · exact hgs _ s3_1
    · exact hgs _ s3_2
    · exact hgs _ s3_3
    · exact hgs _ s3_4) (fun i j hi hj h => absurd (show i = j by omega) h) hAn
  obtain ⟨h1, h2, h3, h4⟩ := hS.1 0 (by decide)
  exact ⟨(aK 0, aV 0), h1, h2, h3, h4, hts0 (.stringRef RX7 97 "young") ((lwt_3 (List.mem_of_getElem? (i := 75) (by decide +kernel)))), hE 0 (by decide)⟩
theorem s4_x : Cond.exactly (Term.string "DrumBoats$Tape" 99) "java/lang/String" ∈ flatC (Jvm.Cond.and given_1 narrow_1) := by decide +kernel
theorem s4_c : Cond.eq (.field (Term.string "DrumBoats$Tape" 99) "java/lang/String" "coder" "B") (.int 0) ∈ flatC (Jvm.Cond.and given_1 narrow_1) := by decide +kernel
theorem s4_a : Cond.arrayOf (.field (Term.string "DrumBoats$Tape" 99) "java/lang/String" "value" "[B") .byte ∈ flatC (Jvm.Cond.and given_1 narrow_1) := by decide +kernel
theorem s4_l : Cond.eq (.length (.field (Term.string "DrumBoats$Tape" 99) "java/lang/String" "value" "[B")) (.int 6) ∈ flatC (Jvm.Cond.and given_1 narrow_1) := by decide +kernel
theorem s4_0 : Cond.eq (.elem (.field (Term.string "DrumBoats$Tape" 99) "java/lang/String" "value" "[B") (.int 0)) (.int 119) ∈ flatC (Jvm.Cond.and given_1 narrow_1) := by decide +kernel
theorem s4_1 : Cond.eq (.elem (.field (Term.string "DrumBoats$Tape" 99) "java/lang/String" "value" "[B") (.int 1)) (.int 101) ∈ flatC (Jvm.Cond.and given_1 narrow_1) := by decide +kernel
theorem s4_2 : Cond.eq (.elem (.field (Term.string "DrumBoats$Tape" 99) "java/lang/String" "value" "[B") (.int 2)) (.int 105) ∈ flatC (Jvm.Cond.and given_1 narrow_1) := by decide +kernel
theorem s4_3 : Cond.eq (.elem (.field (Term.string "DrumBoats$Tape" 99) "java/lang/String" "value" "[B") (.int 3)) (.int 103) ∈ flatC (Jvm.Cond.and given_1 narrow_1) := by decide +kernel
theorem s4_4 : Cond.eq (.elem (.field (Term.string "DrumBoats$Tape" 99) "java/lang/String" "value" "[B") (.int 4)) (.int 104) ∈ flatC (Jvm.Cond.and given_1 narrow_1) := by decide +kernel
theorem s4_5 : Cond.eq (.elem (.field (Term.string "DrumBoats$Tape" 99) "java/lang/String" "value" "[B") (.int 5)) (.int 116) ∈ flatC (Jvm.Cond.and given_1 narrow_1) := by decide +kernel
theorem st_4 {args : Array Value} {s : State} {A : Nat → Prop} (hgs : ∀ c ∈ flatC (Jvm.Cond.and given_1 narrow_1), c.before args s = true) (hts0 : ∀ w ∈ lw_tbl, w.before args s = true) (hAn : ∀ a : Nat, a < s.heap.size → ¬ A a) : ∃ q : Nat × Nat, va_O "java/lang/String" q.1 A s s.heap ∧ va_OF "java/lang/String" "coder" "B" (.int 0) q.1 A s s.heap ∧ va_OF "java/lang/String" "value" "[B" (.ref q.2) q.1 A s s.heap ∧ va_T .byte q.2 (sbs 4).length (sb (sbs 4)) A s s.heap ∧ (Cond.stringRef (sown 4) (sidx 4) (stx 4)).before args s = true ∧ (Term.string (sown 4) (sidx 4)).eval args s none [] s = some (.ref q.1) := by
  obtain ⟨aK, aV, hS, hE⟩ := vk_Sof (args := args) (s := s) (N := 1) (tm := fun _ => (Term.string "DrumBoats$Tape" 99)) (len := [6]) (byt := [[119, 101, 105, 103, 104, 116]]) (A := A) (fun i hi => by obtain rfl : i = 0 := (by omega); decide) (fun i hi => hgs _ s4_x) (fun i hi => hgs _ s4_c) (fun i hi => hgs _ s4_a) (fun i hi => by obtain rfl : i = 0 := (by omega); exact hgs _ s4_l) (fun i hi j hj => by
    obtain rfl : i = 0 := (by omega)
    have hj : j < 6 := hj
    rcases (show j = 0 ∨ j = 1 ∨ j = 2 ∨ j = 3 ∨ j = 4 ∨ j = 5 by omega) with rfl | rfl | rfl | rfl | rfl | rfl
    · exact hgs _ s4_0
    · exact hgs _ s4_1
    · exact hgs _ s4_2
    · exact hgs _ s4_3
    · exact hgs _ s4_4
    · exact hgs _ s4_5) (fun i j hi hj h => absurd (show i = j by omega) h) hAn
  obtain ⟨h1, h2, h3, h4⟩ := hS.1 0 (by decide)
  exact ⟨(aK 0, aV 0), h1, h2, h3, h4, hts0 (.stringRef RX7 99 "weight") ((lwt_3 (List.mem_of_getElem? (i := 76) (by decide +kernel)))), hE 0 (by decide)⟩
theorem s5_x : Cond.exactly (Term.string "DrumBoats$Tape" 101) "java/lang/String" ∈ flatC (Jvm.Cond.and given_1 narrow_1) := by decide +kernel
theorem s5_c : Cond.eq (.field (Term.string "DrumBoats$Tape" 101) "java/lang/String" "coder" "B") (.int 0) ∈ flatC (Jvm.Cond.and given_1 narrow_1) := by decide +kernel
theorem s5_a : Cond.arrayOf (.field (Term.string "DrumBoats$Tape" 101) "java/lang/String" "value" "[B") .byte ∈ flatC (Jvm.Cond.and given_1 narrow_1) := by decide +kernel
theorem s5_l : Cond.eq (.length (.field (Term.string "DrumBoats$Tape" 101) "java/lang/String" "value" "[B")) (.int 4) ∈ flatC (Jvm.Cond.and given_1 narrow_1) := by decide +kernel
theorem s5_0 : Cond.eq (.elem (.field (Term.string "DrumBoats$Tape" 101) "java/lang/String" "value" "[B") (.int 0)) (.int 99) ∈ flatC (Jvm.Cond.and given_1 narrow_1) := by decide +kernel
theorem s5_1 : Cond.eq (.elem (.field (Term.string "DrumBoats$Tape" 101) "java/lang/String" "value" "[B") (.int 1)) (.int 114) ∈ flatC (Jvm.Cond.and given_1 narrow_1) := by decide +kernel
theorem s5_2 : Cond.eq (.elem (.field (Term.string "DrumBoats$Tape" 101) "java/lang/String" "value" "[B") (.int 2)) (.int 101) ∈ flatC (Jvm.Cond.and given_1 narrow_1) := by decide +kernel
theorem s5_3 : Cond.eq (.elem (.field (Term.string "DrumBoats$Tape" 101) "java/lang/String" "value" "[B") (.int 3)) (.int 119) ∈ flatC (Jvm.Cond.and given_1 narrow_1) := by decide +kernel
theorem st_5 {args : Array Value} {s : State} {A : Nat → Prop} (hgs : ∀ c ∈ flatC (Jvm.Cond.and given_1 narrow_1), c.before args s = true) (hts0 : ∀ w ∈ lw_tbl, w.before args s = true) (hAn : ∀ a : Nat, a < s.heap.size → ¬ A a) : ∃ q : Nat × Nat, va_O "java/lang/String" q.1 A s s.heap ∧ va_OF "java/lang/String" "coder" "B" (.int 0) q.1 A s s.heap ∧ va_OF "java/lang/String" "value" "[B" (.ref q.2) q.1 A s s.heap ∧ va_T .byte q.2 (sbs 5).length (sb (sbs 5)) A s s.heap ∧ (Cond.stringRef (sown 5) (sidx 5) (stx 5)).before args s = true ∧ (Term.string (sown 5) (sidx 5)).eval args s none [] s = some (.ref q.1) := by
  obtain ⟨aK, aV, hS, hE⟩ := vk_Sof (args := args) (s := s) (N := 1) (tm := fun _ => (Term.string "DrumBoats$Tape" 101)) (len := [4]) (byt := [[99, 114, 101, 119]]) (A := A) (fun i hi => by obtain rfl : i = 0 := (by omega); decide) (fun i hi => hgs _ s5_x) (fun i hi => hgs _ s5_c) (fun i hi => hgs _ s5_a) (fun i hi => by obtain rfl : i = 0 := (by omega); exact hgs _ s5_l) (fun i hi j hj => by
    obtain rfl : i = 0 := (by omega)
    have hj : j < 4 := hj
    rcases (show j = 0 ∨ j = 1 ∨ j = 2 ∨ j = 3 by omega) with rfl | rfl | rfl | rfl
    · exact hgs _ s5_0
    · exact hgs _ s5_1
    · exact hgs _ s5_2
    · exact hgs _ s5_3) (fun i j hi hj h => absurd (show i = j by omega) h) hAn
  obtain ⟨h1, h2, h3, h4⟩ := hS.1 0 (by decide)
  exact ⟨(aK 0, aV 0), h1, h2, h3, h4, hts0 (.stringRef RX7 101 "crew") ((lwt_3 (List.mem_of_getElem? (i := 77) (by decide +kernel)))), hE 0 (by decide)⟩
theorem s6_x : Cond.exactly (Term.string "DrumBoats$Tape" 103) "java/lang/String" ∈ flatC (Jvm.Cond.and given_1 narrow_1) := by decide +kernel
theorem s6_c : Cond.eq (.field (Term.string "DrumBoats$Tape" 103) "java/lang/String" "coder" "B") (.int 0) ∈ flatC (Jvm.Cond.and given_1 narrow_1) := by decide +kernel
theorem s6_a : Cond.arrayOf (.field (Term.string "DrumBoats$Tape" 103) "java/lang/String" "value" "[B") .byte ∈ flatC (Jvm.Cond.and given_1 narrow_1) := by decide +kernel
theorem s6_l : Cond.eq (.length (.field (Term.string "DrumBoats$Tape" 103) "java/lang/String" "value" "[B")) (.int 3) ∈ flatC (Jvm.Cond.and given_1 narrow_1) := by decide +kernel
theorem s6_0 : Cond.eq (.elem (.field (Term.string "DrumBoats$Tape" 103) "java/lang/String" "value" "[B") (.int 0)) (.int 110) ∈ flatC (Jvm.Cond.and given_1 narrow_1) := by decide +kernel
theorem s6_1 : Cond.eq (.elem (.field (Term.string "DrumBoats$Tape" 103) "java/lang/String" "value" "[B") (.int 1)) (.int 111) ∈ flatC (Jvm.Cond.and given_1 narrow_1) := by decide +kernel
theorem s6_2 : Cond.eq (.elem (.field (Term.string "DrumBoats$Tape" 103) "java/lang/String" "value" "[B") (.int 2)) (.int 116) ∈ flatC (Jvm.Cond.and given_1 narrow_1) := by decide +kernel
theorem st_6 {args : Array Value} {s : State} {A : Nat → Prop} (hgs : ∀ c ∈ flatC (Jvm.Cond.and given_1 narrow_1), c.before args s = true) (hts0 : ∀ w ∈ lw_tbl, w.before args s = true) (hAn : ∀ a : Nat, a < s.heap.size → ¬ A a) : ∃ q : Nat × Nat, va_O "java/lang/String" q.1 A s s.heap ∧ va_OF "java/lang/String" "coder" "B" (.int 0) q.1 A s s.heap ∧ va_OF "java/lang/String" "value" "[B" (.ref q.2) q.1 A s s.heap ∧ va_T .byte q.2 (sbs 6).length (sb (sbs 6)) A s s.heap ∧ (Cond.stringRef (sown 6) (sidx 6) (stx 6)).before args s = true ∧ (Term.string (sown 6) (sidx 6)).eval args s none [] s = some (.ref q.1) := by
  obtain ⟨aK, aV, hS, hE⟩ := vk_Sof (args := args) (s := s) (N := 1) (tm := fun _ => (Term.string "DrumBoats$Tape" 103)) (len := [3]) (byt := [[110, 111, 116]]) (A := A) (fun i hi => by obtain rfl : i = 0 := (by omega); decide) (fun i hi => hgs _ s6_x) (fun i hi => hgs _ s6_c) (fun i hi => hgs _ s6_a) (fun i hi => by obtain rfl : i = 0 := (by omega); exact hgs _ s6_l) (fun i hi j hj => by
    obtain rfl : i = 0 := (by omega)
    have hj : j < 3 := hj
    rcases (show j = 0 ∨ j = 1 ∨ j = 2 by omega) with rfl | rfl | rfl
    · exact hgs _ s6_0
    · exact hgs _ s6_1
    · exact hgs _ s6_2) (fun i j hi hj h => absurd (show i = j by omega) h) hAn
  obtain ⟨h1, h2, h3, h4⟩ := hS.1 0 (by decide)
  exact ⟨(aK 0, aV 0), h1, h2, h3, h4, hts0 (.stringRef RX7 103 "not") ((lwt_3 (List.mem_of_getElem? (i := 78) (by decide +kernel)))), hE 0 (by decide)⟩
theorem s7_x : Cond.exactly (Term.string "DrumBoats$Tape" 105) "java/lang/String" ∈ flatC (Jvm.Cond.and given_1 narrow_1) := by decide +kernel
theorem s7_c : Cond.eq (.field (Term.string "DrumBoats$Tape" 105) "java/lang/String" "coder" "B") (.int 0) ∈ flatC (Jvm.Cond.and given_1 narrow_1) := by decide +kernel
theorem s7_a : Cond.arrayOf (.field (Term.string "DrumBoats$Tape" 105) "java/lang/String" "value" "[B") .byte ∈ flatC (Jvm.Cond.and given_1 narrow_1) := by decide +kernel
theorem s7_l : Cond.eq (.length (.field (Term.string "DrumBoats$Tape" 105) "java/lang/String" "value" "[B")) (.int 2) ∈ flatC (Jvm.Cond.and given_1 narrow_1) := by decide +kernel
theorem s7_0 : Cond.eq (.elem (.field (Term.string "DrumBoats$Tape" 105) "java/lang/String" "value" "[B") (.int 0)) (.int 111) ∈ flatC (Jvm.Cond.and given_1 narrow_1) := by decide +kernel
theorem s7_1 : Cond.eq (.elem (.field (Term.string "DrumBoats$Tape" 105) "java/lang/String" "value" "[B") (.int 1)) (.int 114) ∈ flatC (Jvm.Cond.and given_1 narrow_1) := by decide +kernel
theorem st_7 {args : Array Value} {s : State} {A : Nat → Prop} (hgs : ∀ c ∈ flatC (Jvm.Cond.and given_1 narrow_1), c.before args s = true) (hts0 : ∀ w ∈ lw_tbl, w.before args s = true) (hAn : ∀ a : Nat, a < s.heap.size → ¬ A a) : ∃ q : Nat × Nat, va_O "java/lang/String" q.1 A s s.heap ∧ va_OF "java/lang/String" "coder" "B" (.int 0) q.1 A s s.heap ∧ va_OF "java/lang/String" "value" "[B" (.ref q.2) q.1 A s s.heap ∧ va_T .byte q.2 (sbs 7).length (sb (sbs 7)) A s s.heap ∧ (Cond.stringRef (sown 7) (sidx 7) (stx 7)).before args s = true ∧ (Term.string (sown 7) (sidx 7)).eval args s none [] s = some (.ref q.1) := by
  obtain ⟨aK, aV, hS, hE⟩ := vk_Sof (args := args) (s := s) (N := 1) (tm := fun _ => (Term.string "DrumBoats$Tape" 105)) (len := [2]) (byt := [[111, 114]]) (A := A) (fun i hi => by obtain rfl : i = 0 := (by omega); decide) (fun i hi => hgs _ s7_x) (fun i hi => hgs _ s7_c) (fun i hi => hgs _ s7_a) (fun i hi => by obtain rfl : i = 0 := (by omega); exact hgs _ s7_l) (fun i hi j hj => by
    obtain rfl : i = 0 := (by omega)
    have hj : j < 2 := hj
    rcases (show j = 0 ∨ j = 1 by omega) with rfl | rfl
    · exact hgs _ s7_0
    · exact hgs _ s7_1) (fun i j hi hj h => absurd (show i = j by omega) h) hAn
  obtain ⟨h1, h2, h3, h4⟩ := hS.1 0 (by decide)
  exact ⟨(aK 0, aV 0), h1, h2, h3, h4, hts0 (.stringRef RX7 105 "or") ((lwt_3 (List.mem_of_getElem? (i := 79) (by decide +kernel)))), hE 0 (by decide)⟩
theorem s8_x : Cond.exactly (Term.string "DrumBoats$Tape" 107) "java/lang/String" ∈ flatC (Jvm.Cond.and given_1 narrow_1) := by decide +kernel
theorem s8_c : Cond.eq (.field (Term.string "DrumBoats$Tape" 107) "java/lang/String" "coder" "B") (.int 0) ∈ flatC (Jvm.Cond.and given_1 narrow_1) := by decide +kernel
theorem s8_a : Cond.arrayOf (.field (Term.string "DrumBoats$Tape" 107) "java/lang/String" "value" "[B") .byte ∈ flatC (Jvm.Cond.and given_1 narrow_1) := by decide +kernel
theorem s8_l : Cond.eq (.length (.field (Term.string "DrumBoats$Tape" 107) "java/lang/String" "value" "[B")) (.int 3) ∈ flatC (Jvm.Cond.and given_1 narrow_1) := by decide +kernel
theorem s8_0 : Cond.eq (.elem (.field (Term.string "DrumBoats$Tape" 107) "java/lang/String" "value" "[B") (.int 0)) (.int 97) ∈ flatC (Jvm.Cond.and given_1 narrow_1) := by decide +kernel
theorem s8_1 : Cond.eq (.elem (.field (Term.string "DrumBoats$Tape" 107) "java/lang/String" "value" "[B") (.int 1)) (.int 110) ∈ flatC (Jvm.Cond.and given_1 narrow_1) := by decide +kernel
theorem s8_2 : Cond.eq (.elem (.field (Term.string "DrumBoats$Tape" 107) "java/lang/String" "value" "[B") (.int 2)) (.int 100) ∈ flatC (Jvm.Cond.and given_1 narrow_1) := by decide +kernel
theorem st_8 {args : Array Value} {s : State} {A : Nat → Prop} (hgs : ∀ c ∈ flatC (Jvm.Cond.and given_1 narrow_1), c.before args s = true) (hts0 : ∀ w ∈ lw_tbl, w.before args s = true) (hAn : ∀ a : Nat, a < s.heap.size → ¬ A a) : ∃ q : Nat × Nat, va_O "java/lang/String" q.1 A s s.heap ∧ va_OF "java/lang/String" "coder" "B" (.int 0) q.1 A s s.heap ∧ va_OF "java/lang/String" "value" "[B" (.ref q.2) q.1 A s s.heap ∧ va_T .byte q.2 (sbs 8).length (sb (sbs 8)) A s s.heap ∧ (Cond.stringRef (sown 8) (sidx 8) (stx 8)).before args s = true ∧ (Term.string (sown 8) (sidx 8)).eval args s none [] s = some (.ref q.1) := by
  obtain ⟨aK, aV, hS, hE⟩ := vk_Sof (args := args) (s := s) (N := 1) (tm := fun _ => (Term.string "DrumBoats$Tape" 107)) (len := [3]) (byt := [[97, 110, 100]]) (A := A) (fun i hi => by obtain rfl : i = 0 := (by omega); decide) (fun i hi => hgs _ s8_x) (fun i hi => hgs _ s8_c) (fun i hi => hgs _ s8_a) (fun i hi => by obtain rfl : i = 0 := (by omega); exact hgs _ s8_l) (fun i hi j hj => by
    obtain rfl : i = 0 := (by omega)
    have hj : j < 3 := hj
    rcases (show j = 0 ∨ j = 1 ∨ j = 2 by omega) with rfl | rfl | rfl
    · exact hgs _ s8_0
    · exact hgs _ s8_1
    · exact hgs _ s8_2) (fun i j hi hj h => absurd (show i = j by omega) h) hAn
  obtain ⟨h1, h2, h3, h4⟩ := hS.1 0 (by decide)
  exact ⟨(aK 0, aV 0), h1, h2, h3, h4, hts0 (.stringRef RX7 107 "and") ((lwt_3 (List.mem_of_getElem? (i := 80) (by decide +kernel)))), hE 0 (by decide)⟩
theorem s9_x : Cond.exactly (Term.string "DrumBoatsModel" 183) "java/lang/String" ∈ flatC (Jvm.Cond.and given_1 narrow_1) := by decide +kernel
theorem s9_c : Cond.eq (.field (Term.string "DrumBoatsModel" 183) "java/lang/String" "coder" "B") (.int 0) ∈ flatC (Jvm.Cond.and given_1 narrow_1) := by decide +kernel
theorem s9_a : Cond.arrayOf (.field (Term.string "DrumBoatsModel" 183) "java/lang/String" "value" "[B") .byte ∈ flatC (Jvm.Cond.and given_1 narrow_1) := by decide +kernel
theorem s9_l : Cond.eq (.length (.field (Term.string "DrumBoatsModel" 183) "java/lang/String" "value" "[B")) (.int 4) ∈ flatC (Jvm.Cond.and given_1 narrow_1) := by decide +kernel
theorem s9_0 : Cond.eq (.elem (.field (Term.string "DrumBoatsModel" 183) "java/lang/String" "value" "[B") (.int 0)) (.int 110) ∈ flatC (Jvm.Cond.and given_1 narrow_1) := by decide +kernel
theorem s9_1 : Cond.eq (.elem (.field (Term.string "DrumBoatsModel" 183) "java/lang/String" "value" "[B") (.int 1)) (.int 111) ∈ flatC (Jvm.Cond.and given_1 narrow_1) := by decide +kernel
theorem s9_2 : Cond.eq (.elem (.field (Term.string "DrumBoatsModel" 183) "java/lang/String" "value" "[B") (.int 2)) (.int 116) ∈ flatC (Jvm.Cond.and given_1 narrow_1) := by decide +kernel
theorem s9_3 : Cond.eq (.elem (.field (Term.string "DrumBoatsModel" 183) "java/lang/String" "value" "[B") (.int 3)) (.int 32) ∈ flatC (Jvm.Cond.and given_1 narrow_1) := by decide +kernel
theorem st_9 {args : Array Value} {s : State} {A : Nat → Prop} (hgs : ∀ c ∈ flatC (Jvm.Cond.and given_1 narrow_1), c.before args s = true) (hts0 : ∀ w ∈ lw_tbl, w.before args s = true) (hAn : ∀ a : Nat, a < s.heap.size → ¬ A a) : ∃ q : Nat × Nat, va_O "java/lang/String" q.1 A s s.heap ∧ va_OF "java/lang/String" "coder" "B" (.int 0) q.1 A s s.heap ∧ va_OF "java/lang/String" "value" "[B" (.ref q.2) q.1 A s s.heap ∧ va_T .byte q.2 (sbs 9).length (sb (sbs 9)) A s s.heap ∧ (Cond.stringRef (sown 9) (sidx 9) (stx 9)).before args s = true ∧ (Term.string (sown 9) (sidx 9)).eval args s none [] s = some (.ref q.1) := by
  obtain ⟨aK, aV, hS, hE⟩ := vk_Sof (args := args) (s := s) (N := 1) (tm := fun _ => (Term.string "DrumBoatsModel" 183)) (len := [4]) (byt := [[110, 111, 116, 32]]) (A := A) (fun i hi => by obtain rfl : i = 0 := (by omega); decide) (fun i hi => hgs _ s9_x) (fun i hi => hgs _ s9_c) (fun i hi => hgs _ s9_a) (fun i hi => by obtain rfl : i = 0 := (by omega); exact hgs _ s9_l) (fun i hi j hj => by
    obtain rfl : i = 0 := (by omega)
    have hj : j < 4 := hj
    rcases (show j = 0 ∨ j = 1 ∨ j = 2 ∨ j = 3 by omega) with rfl | rfl | rfl | rfl
    · exact hgs _ s9_0
    · exact hgs _ s9_1
    · exact hgs _ s9_2
    · exact hgs _ s9_3) (fun i j hi hj h => absurd (show i = j by omega) h) hAn
  obtain ⟨h1, h2, h3, h4⟩ := hS.1 0 (by decide)
  exact ⟨(aK 0, aV 0), h1, h2, h3, h4, hts0 (.stringRef RX10 183 "not ") ((lwt_5 (List.mem_of_getElem? (i := 106) (by decide +kernel)))), hE 0 (by decide)⟩
theorem s10_x : Cond.exactly (Term.string "DrumBoatsModel" 189) "java/lang/String" ∈ flatC (Jvm.Cond.and given_1 narrow_1) := by decide +kernel
theorem s10_c : Cond.eq (.field (Term.string "DrumBoatsModel" 189) "java/lang/String" "coder" "B") (.int 0) ∈ flatC (Jvm.Cond.and given_1 narrow_1) := by decide +kernel
theorem s10_a : Cond.arrayOf (.field (Term.string "DrumBoatsModel" 189) "java/lang/String" "value" "[B") .byte ∈ flatC (Jvm.Cond.and given_1 narrow_1) := by decide +kernel
theorem s10_l : Cond.eq (.length (.field (Term.string "DrumBoatsModel" 189) "java/lang/String" "value" "[B")) (.int 3) ∈ flatC (Jvm.Cond.and given_1 narrow_1) := by decide +kernel
theorem s10_0 : Cond.eq (.elem (.field (Term.string "DrumBoatsModel" 189) "java/lang/String" "value" "[B") (.int 0)) (.int 109) ∈ flatC (Jvm.Cond.and given_1 narrow_1) := by decide +kernel
theorem s10_1 : Cond.eq (.elem (.field (Term.string "DrumBoatsModel" 189) "java/lang/String" "value" "[B") (.int 1)) (.int 101) ∈ flatC (Jvm.Cond.and given_1 narrow_1) := by decide +kernel
theorem s10_2 : Cond.eq (.elem (.field (Term.string "DrumBoatsModel" 189) "java/lang/String" "value" "[B") (.int 2)) (.int 110) ∈ flatC (Jvm.Cond.and given_1 narrow_1) := by decide +kernel
theorem st_10 {args : Array Value} {s : State} {A : Nat → Prop} (hgs : ∀ c ∈ flatC (Jvm.Cond.and given_1 narrow_1), c.before args s = true) (hts0 : ∀ w ∈ lw_tbl, w.before args s = true) (hAn : ∀ a : Nat, a < s.heap.size → ¬ A a) : ∃ q : Nat × Nat, va_O "java/lang/String" q.1 A s s.heap ∧ va_OF "java/lang/String" "coder" "B" (.int 0) q.1 A s s.heap ∧ va_OF "java/lang/String" "value" "[B" (.ref q.2) q.1 A s s.heap ∧ va_T .byte q.2 (sbs 10).length (sb (sbs 10)) A s s.heap ∧ (Cond.stringRef (sown 10) (sidx 10) (stx 10)).before args s = true ∧ (Term.string (sown 10) (sidx 10)).eval args s none [] s = some (.ref q.1) := by
  obtain ⟨aK, aV, hS, hE⟩ := vk_Sof (args := args) (s := s) (N := 1) (tm := fun _ => (Term.string "DrumBoatsModel" 189)) (len := [3]) (byt := [[109, 101, 110]]) (A := A) (fun i hi => by obtain rfl : i = 0 := (by omega); decide) (fun i hi => hgs _ s10_x) (fun i hi => hgs _ s10_c) (fun i hi => hgs _ s10_a) (fun i hi => by obtain rfl : i = 0 := (by omega); exact hgs _ s10_l) (fun i hi j hj => by
    obtain rfl : i = 0 := (by omega)
    have hj : j < 3 := hj
    rcases (show j = 0 ∨ j = 1 ∨ j = 2 by omega) with rfl | rfl | rfl
    · exact hgs _ s10_0
    · exact hgs _ s10_1
    · exact hgs _ s10_2) (fun i j hi hj h => absurd (show i = j by omega) h) hAn
  obtain ⟨h1, h2, h3, h4⟩ := hS.1 0 (by decide)
  exact ⟨(aK 0, aV 0), h1, h2, h3, h4, hts0 (.stringRef RX10 189 "men") ((lwt_5 (List.mem_of_getElem? (i := 113) (by decide +kernel)))), hE 0 (by decide)⟩
theorem s11_x : Cond.exactly (Term.string "DrumBoatsModel" 191) "java/lang/String" ∈ flatC (Jvm.Cond.and given_1 narrow_1) := by decide +kernel
theorem s11_c : Cond.eq (.field (Term.string "DrumBoatsModel" 191) "java/lang/String" "coder" "B") (.int 0) ∈ flatC (Jvm.Cond.and given_1 narrow_1) := by decide +kernel
theorem s11_a : Cond.arrayOf (.field (Term.string "DrumBoatsModel" 191) "java/lang/String" "value" "[B") .byte ∈ flatC (Jvm.Cond.and given_1 narrow_1) := by decide +kernel
theorem s11_l : Cond.eq (.length (.field (Term.string "DrumBoatsModel" 191) "java/lang/String" "value" "[B")) (.int 5) ∈ flatC (Jvm.Cond.and given_1 narrow_1) := by decide +kernel
theorem s11_0 : Cond.eq (.elem (.field (Term.string "DrumBoatsModel" 191) "java/lang/String" "value" "[B") (.int 0)) (.int 119) ∈ flatC (Jvm.Cond.and given_1 narrow_1) := by decide +kernel
theorem s11_1 : Cond.eq (.elem (.field (Term.string "DrumBoatsModel" 191) "java/lang/String" "value" "[B") (.int 1)) (.int 111) ∈ flatC (Jvm.Cond.and given_1 narrow_1) := by decide +kernel
theorem s11_2 : Cond.eq (.elem (.field (Term.string "DrumBoatsModel" 191) "java/lang/String" "value" "[B") (.int 2)) (.int 109) ∈ flatC (Jvm.Cond.and given_1 narrow_1) := by decide +kernel
theorem s11_3 : Cond.eq (.elem (.field (Term.string "DrumBoatsModel" 191) "java/lang/String" "value" "[B") (.int 3)) (.int 101) ∈ flatC (Jvm.Cond.and given_1 narrow_1) := by decide +kernel
theorem s11_4 : Cond.eq (.elem (.field (Term.string "DrumBoatsModel" 191) "java/lang/String" "value" "[B") (.int 4)) (.int 110) ∈ flatC (Jvm.Cond.and given_1 narrow_1) := by decide +kernel
theorem st_11 {args : Array Value} {s : State} {A : Nat → Prop} (hgs : ∀ c ∈ flatC (Jvm.Cond.and given_1 narrow_1), c.before args s = true) (hts0 : ∀ w ∈ lw_tbl, w.before args s = true) (hAn : ∀ a : Nat, a < s.heap.size → ¬ A a) : ∃ q : Nat × Nat, va_O "java/lang/String" q.1 A s s.heap ∧ va_OF "java/lang/String" "coder" "B" (.int 0) q.1 A s s.heap ∧ va_OF "java/lang/String" "value" "[B" (.ref q.2) q.1 A s s.heap ∧ va_T .byte q.2 (sbs 11).length (sb (sbs 11)) A s s.heap ∧ (Cond.stringRef (sown 11) (sidx 11) (stx 11)).before args s = true ∧ (Term.string (sown 11) (sidx 11)).eval args s none [] s = some (.ref q.1) := by
  obtain ⟨aK, aV, hS, hE⟩ := vk_Sof (args := args) (s := s) (N := 1) (tm := fun _ => (Term.string "DrumBoatsModel" 191)) (len := [5]) (byt := [[119, 111, 109, 101, 110]]) (A := A) (fun i hi => by obtain rfl : i = 0 := (by omega); decide) (fun i hi => hgs _ s11_x) (fun i hi => hgs _ s11_c) (fun i hi => hgs _ s11_a) (fun i hi => by obtain rfl : i = 0 := (by omega); exact hgs _ s11_l) (fun i hi j hj => by
    obtain rfl : i = 0 := (by omega)
    have hj : j < 5 := hj
    rcases (show j = 0 ∨ j = 1 ∨ j = 2 ∨ j = 3 ∨ j = 4 by omega) with rfl | rfl | rfl | rfl | rfl
    · exact hgs _ s11_0
    · exact hgs _ s11_1
    · exact hgs _ s11_2
    · exact hgs _ s11_3
    · exact hgs _ s11_4) (fun i j hi hj h => absurd (show i = j by omega) h) hAn
  obtain ⟨h1, h2, h3, h4⟩ := hS.1 0 (by decide)
  exact ⟨(aK 0, aV 0), h1, h2, h3, h4, hts0 (.stringRef RX10 191 "women") ((lwt_5 (List.mem_of_getElem? (i := 114) (by decide +kernel)))), hE 0 (by decide)⟩
theorem s12_x : Cond.exactly (Term.string "DrumBoatsModel" 193) "java/lang/String" ∈ flatC (Jvm.Cond.and given_1 narrow_1) := by decide +kernel
theorem s12_c : Cond.eq (.field (Term.string "DrumBoatsModel" 193) "java/lang/String" "coder" "B") (.int 0) ∈ flatC (Jvm.Cond.and given_1 narrow_1) := by decide +kernel
theorem s12_a : Cond.arrayOf (.field (Term.string "DrumBoatsModel" 193) "java/lang/String" "value" "[B") .byte ∈ flatC (Jvm.Cond.and given_1 narrow_1) := by decide +kernel
theorem s12_l : Cond.eq (.length (.field (Term.string "DrumBoatsModel" 193) "java/lang/String" "value" "[B")) (.int 3) ∈ flatC (Jvm.Cond.and given_1 narrow_1) := by decide +kernel
theorem s12_0 : Cond.eq (.elem (.field (Term.string "DrumBoatsModel" 193) "java/lang/String" "value" "[B") (.int 0)) (.int 111) ∈ flatC (Jvm.Cond.and given_1 narrow_1) := by decide +kernel
theorem s12_1 : Cond.eq (.elem (.field (Term.string "DrumBoatsModel" 193) "java/lang/String" "value" "[B") (.int 1)) (.int 108) ∈ flatC (Jvm.Cond.and given_1 narrow_1) := by decide +kernel
theorem s12_2 : Cond.eq (.elem (.field (Term.string "DrumBoatsModel" 193) "java/lang/String" "value" "[B") (.int 2)) (.int 100) ∈ flatC (Jvm.Cond.and given_1 narrow_1) := by decide +kernel
theorem st_12 {args : Array Value} {s : State} {A : Nat → Prop} (hgs : ∀ c ∈ flatC (Jvm.Cond.and given_1 narrow_1), c.before args s = true) (hts0 : ∀ w ∈ lw_tbl, w.before args s = true) (hAn : ∀ a : Nat, a < s.heap.size → ¬ A a) : ∃ q : Nat × Nat, va_O "java/lang/String" q.1 A s s.heap ∧ va_OF "java/lang/String" "coder" "B" (.int 0) q.1 A s s.heap ∧ va_OF "java/lang/String" "value" "[B" (.ref q.2) q.1 A s s.heap ∧ va_T .byte q.2 (sbs 12).length (sb (sbs 12)) A s s.heap ∧ (Cond.stringRef (sown 12) (sidx 12) (stx 12)).before args s = true ∧ (Term.string (sown 12) (sidx 12)).eval args s none [] s = some (.ref q.1) := by
  obtain ⟨aK, aV, hS, hE⟩ := vk_Sof (args := args) (s := s) (N := 1) (tm := fun _ => (Term.string "DrumBoatsModel" 193)) (len := [3]) (byt := [[111, 108, 100]]) (A := A) (fun i hi => by obtain rfl : i = 0 := (by omega); decide) (fun i hi => hgs _ s12_x) (fun i hi => hgs _ s12_c) (fun i hi => hgs _ s12_a) (fun i hi => by obtain rfl : i = 0 := (by omega); exact hgs _ s12_l) (fun i hi j hj => by
    obtain rfl : i = 0 := (by omega)
    have hj : j < 3 := hj
    rcases (show j = 0 ∨ j = 1 ∨ j = 2 by omega) with rfl | rfl | rfl
    · exact hgs _ s12_0
    · exact hgs _ s12_1
    · exact hgs _ s12_2) (fun i j hi hj h => absurd (show i = j by omega) h) hAn
  obtain ⟨h1, h2, h3, h4⟩ := hS.1 0 (by decide)
  exact ⟨(aK 0, aV 0), h1, h2, h3, h4, hts0 (.stringRef RX10 193 "old") ((lwt_5 (List.mem_of_getElem? (i := 115) (by decide +kernel)))), hE 0 (by decide)⟩
theorem s13_x : Cond.exactly (Term.string "DrumBoatsModel" 195) "java/lang/String" ∈ flatC (Jvm.Cond.and given_1 narrow_1) := by decide +kernel
theorem s13_c : Cond.eq (.field (Term.string "DrumBoatsModel" 195) "java/lang/String" "coder" "B") (.int 0) ∈ flatC (Jvm.Cond.and given_1 narrow_1) := by decide +kernel
theorem s13_a : Cond.arrayOf (.field (Term.string "DrumBoatsModel" 195) "java/lang/String" "value" "[B") .byte ∈ flatC (Jvm.Cond.and given_1 narrow_1) := by decide +kernel
theorem s13_l : Cond.eq (.length (.field (Term.string "DrumBoatsModel" 195) "java/lang/String" "value" "[B")) (.int 5) ∈ flatC (Jvm.Cond.and given_1 narrow_1) := by decide +kernel
theorem s13_0 : Cond.eq (.elem (.field (Term.string "DrumBoatsModel" 195) "java/lang/String" "value" "[B") (.int 0)) (.int 121) ∈ flatC (Jvm.Cond.and given_1 narrow_1) := by decide +kernel
theorem s13_1 : Cond.eq (.elem (.field (Term.string "DrumBoatsModel" 195) "java/lang/String" "value" "[B") (.int 1)) (.int 111) ∈ flatC (Jvm.Cond.and given_1 narrow_1) := by decide +kernel
theorem s13_2 : Cond.eq (.elem (.field (Term.string "DrumBoatsModel" 195) "java/lang/String" "value" "[B") (.int 2)) (.int 117) ∈ flatC (Jvm.Cond.and given_1 narrow_1) := by decide +kernel
theorem s13_3 : Cond.eq (.elem (.field (Term.string "DrumBoatsModel" 195) "java/lang/String" "value" "[B") (.int 3)) (.int 110) ∈ flatC (Jvm.Cond.and given_1 narrow_1) := by decide +kernel
theorem s13_4 : Cond.eq (.elem (.field (Term.string "DrumBoatsModel" 195) "java/lang/String" "value" "[B") (.int 4)) (.int 103) ∈ flatC (Jvm.Cond.and given_1 narrow_1) := by decide +kernel
theorem st_13 {args : Array Value} {s : State} {A : Nat → Prop} (hgs : ∀ c ∈ flatC (Jvm.Cond.and given_1 narrow_1), c.before args s = true) (hts0 : ∀ w ∈ lw_tbl, w.before args s = true) (hAn : ∀ a : Nat, a < s.heap.size → ¬ A a) : ∃ q : Nat × Nat, va_O "java/lang/String" q.1 A s s.heap ∧ va_OF "java/lang/String" "coder" "B" (.int 0) q.1 A s s.heap ∧ va_OF "java/lang/String" "value" "[B" (.ref q.2) q.1 A s s.heap ∧ va_T .byte q.2 (sbs 13).length (sb (sbs 13)) A s s.heap ∧ (Cond.stringRef (sown 13) (sidx 13) (stx 13)).before args s = true ∧ (Term.string (sown 13) (sidx 13)).eval args s none [] s = some (.ref q.1) := by
  obtain ⟨aK, aV, hS, hE⟩ := vk_Sof (args := args) (s := s) (N := 1) (tm := fun _ => (Term.string "DrumBoatsModel" 195)) (len := [5]) (byt := [[121, 111, 117, 110, 103]]) (A := A) (fun i hi => by obtain rfl : i = 0 := (by omega); decide) (fun i hi => hgs _ s13_x) (fun i hi => hgs _ s13_c) (fun i hi => hgs _ s13_a) (fun i hi => by obtain rfl : i = 0 := (by omega); exact hgs _ s13_l) (fun i hi j hj => by
    obtain rfl : i = 0 := (by omega)
    have hj : j < 5 := hj
    rcases (show j = 0 ∨ j = 1 ∨ j = 2 ∨ j = 3 ∨ j = 4 by omega) with rfl | rfl | rfl | rfl | rfl
    · exact hgs _ s13_0
    · exact hgs _ s13_1
    · exact hgs _ s13_2
    · exact hgs _ s13_3
    · exact hgs _ s13_4) (fun i j hi hj h => absurd (show i = j by omega) h) hAn
  obtain ⟨h1, h2, h3, h4⟩ := hS.1 0 (by decide)
  exact ⟨(aK 0, aV 0), h1, h2, h3, h4, hts0 (.stringRef RX10 195 "young") ((lwt_5 (List.mem_of_getElem? (i := 116) (by decide +kernel)))), hE 0 (by decide)⟩
theorem s14_x : Cond.exactly (Term.string "DrumBoatsModel" 197) "java/lang/String" ∈ flatC (Jvm.Cond.and given_1 narrow_1) := by decide +kernel
theorem s14_c : Cond.eq (.field (Term.string "DrumBoatsModel" 197) "java/lang/String" "coder" "B") (.int 0) ∈ flatC (Jvm.Cond.and given_1 narrow_1) := by decide +kernel
theorem s14_a : Cond.arrayOf (.field (Term.string "DrumBoatsModel" 197) "java/lang/String" "value" "[B") .byte ∈ flatC (Jvm.Cond.and given_1 narrow_1) := by decide +kernel
theorem s14_l : Cond.eq (.length (.field (Term.string "DrumBoatsModel" 197) "java/lang/String" "value" "[B")) (.int 6) ∈ flatC (Jvm.Cond.and given_1 narrow_1) := by decide +kernel
theorem s14_0 : Cond.eq (.elem (.field (Term.string "DrumBoatsModel" 197) "java/lang/String" "value" "[B") (.int 0)) (.int 119) ∈ flatC (Jvm.Cond.and given_1 narrow_1) := by decide +kernel
theorem s14_1 : Cond.eq (.elem (.field (Term.string "DrumBoatsModel" 197) "java/lang/String" "value" "[B") (.int 1)) (.int 101) ∈ flatC (Jvm.Cond.and given_1 narrow_1) := by decide +kernel
theorem s14_2 : Cond.eq (.elem (.field (Term.string "DrumBoatsModel" 197) "java/lang/String" "value" "[B") (.int 2)) (.int 105) ∈ flatC (Jvm.Cond.and given_1 narrow_1) := by decide +kernel
theorem s14_3 : Cond.eq (.elem (.field (Term.string "DrumBoatsModel" 197) "java/lang/String" "value" "[B") (.int 3)) (.int 103) ∈ flatC (Jvm.Cond.and given_1 narrow_1) := by decide +kernel
theorem s14_4 : Cond.eq (.elem (.field (Term.string "DrumBoatsModel" 197) "java/lang/String" "value" "[B") (.int 4)) (.int 104) ∈ flatC (Jvm.Cond.and given_1 narrow_1) := by decide +kernel
theorem s14_5 : Cond.eq (.elem (.field (Term.string "DrumBoatsModel" 197) "java/lang/String" "value" "[B") (.int 5)) (.int 116) ∈ flatC (Jvm.Cond.and given_1 narrow_1) := by decide +kernel
theorem st_14 {args : Array Value} {s : State} {A : Nat → Prop} (hgs : ∀ c ∈ flatC (Jvm.Cond.and given_1 narrow_1), c.before args s = true) (hts0 : ∀ w ∈ lw_tbl, w.before args s = true) (hAn : ∀ a : Nat, a < s.heap.size → ¬ A a) : ∃ q : Nat × Nat, va_O "java/lang/String" q.1 A s s.heap ∧ va_OF "java/lang/String" "coder" "B" (.int 0) q.1 A s s.heap ∧ va_OF "java/lang/String" "value" "[B" (.ref q.2) q.1 A s s.heap ∧ va_T .byte q.2 (sbs 14).length (sb (sbs 14)) A s s.heap ∧ (Cond.stringRef (sown 14) (sidx 14) (stx 14)).before args s = true ∧ (Term.string (sown 14) (sidx 14)).eval args s none [] s = some (.ref q.1) := by
  obtain ⟨aK, aV, hS, hE⟩ := vk_Sof (args := args) (s := s) (N := 1) (tm := fun _ => (Term.string "DrumBoatsModel" 197)) (len := [6]) (byt := [[119, 101, 105, 103, 104, 116]]) (A := A) (fun i hi => by obtain rfl : i = 0 := (by omega); decide) (fun i hi => hgs _ s14_x) (fun i hi => hgs _ s14_c) (fun i hi => hgs _ s14_a) (fun i hi => by obtain rfl : i = 0 := (by omega); exact hgs _ s14_l) (fun i hi j hj => by
    obtain rfl : i = 0 := (by omega)
    have hj : j < 6 := hj
    rcases (show j = 0 ∨ j = 1 ∨ j = 2 ∨ j = 3 ∨ j = 4 ∨ j = 5 by omega) with rfl | rfl | rfl | rfl | rfl | rfl
    · exact hgs _ s14_0
    · exact hgs _ s14_1
    · exact hgs _ s14_2
    · exact hgs _ s14_3
    · exact hgs _ s14_4
    · exact hgs _ s14_5) (fun i j hi hj h => absurd (show i = j by omega) h) hAn
  obtain ⟨h1, h2, h3, h4⟩ := hS.1 0 (by decide)
  exact ⟨(aK 0, aV 0), h1, h2, h3, h4, hts0 (.stringRef RX10 197 "weight") ((lwt_5 (List.mem_of_getElem? (i := 117) (by decide +kernel)))), hE 0 (by decide)⟩
theorem s15_x : Cond.exactly (Term.string "DrumBoatsModel" 198) "java/lang/String" ∈ flatC (Jvm.Cond.and given_1 narrow_1) := by decide +kernel
theorem s15_c : Cond.eq (.field (Term.string "DrumBoatsModel" 198) "java/lang/String" "coder" "B") (.int 0) ∈ flatC (Jvm.Cond.and given_1 narrow_1) := by decide +kernel
theorem s15_a : Cond.arrayOf (.field (Term.string "DrumBoatsModel" 198) "java/lang/String" "value" "[B") .byte ∈ flatC (Jvm.Cond.and given_1 narrow_1) := by decide +kernel
theorem s15_l : Cond.eq (.length (.field (Term.string "DrumBoatsModel" 198) "java/lang/String" "value" "[B")) (.int 4) ∈ flatC (Jvm.Cond.and given_1 narrow_1) := by decide +kernel
theorem s15_0 : Cond.eq (.elem (.field (Term.string "DrumBoatsModel" 198) "java/lang/String" "value" "[B") (.int 0)) (.int 99) ∈ flatC (Jvm.Cond.and given_1 narrow_1) := by decide +kernel
theorem s15_1 : Cond.eq (.elem (.field (Term.string "DrumBoatsModel" 198) "java/lang/String" "value" "[B") (.int 1)) (.int 114) ∈ flatC (Jvm.Cond.and given_1 narrow_1) := by decide +kernel
theorem s15_2 : Cond.eq (.elem (.field (Term.string "DrumBoatsModel" 198) "java/lang/String" "value" "[B") (.int 2)) (.int 101) ∈ flatC (Jvm.Cond.and given_1 narrow_1) := by decide +kernel
theorem s15_3 : Cond.eq (.elem (.field (Term.string "DrumBoatsModel" 198) "java/lang/String" "value" "[B") (.int 3)) (.int 119) ∈ flatC (Jvm.Cond.and given_1 narrow_1) := by decide +kernel
theorem st_15 {args : Array Value} {s : State} {A : Nat → Prop} (hgs : ∀ c ∈ flatC (Jvm.Cond.and given_1 narrow_1), c.before args s = true) (hts0 : ∀ w ∈ lw_tbl, w.before args s = true) (hAn : ∀ a : Nat, a < s.heap.size → ¬ A a) : ∃ q : Nat × Nat, va_O "java/lang/String" q.1 A s s.heap ∧ va_OF "java/lang/String" "coder" "B" (.int 0) q.1 A s s.heap ∧ va_OF "java/lang/String" "value" "[B" (.ref q.2) q.1 A s s.heap ∧ va_T .byte q.2 (sbs 15).length (sb (sbs 15)) A s s.heap ∧ (Cond.stringRef (sown 15) (sidx 15) (stx 15)).before args s = true ∧ (Term.string (sown 15) (sidx 15)).eval args s none [] s = some (.ref q.1) := by
  obtain ⟨aK, aV, hS, hE⟩ := vk_Sof (args := args) (s := s) (N := 1) (tm := fun _ => (Term.string "DrumBoatsModel" 198)) (len := [4]) (byt := [[99, 114, 101, 119]]) (A := A) (fun i hi => by obtain rfl : i = 0 := (by omega); decide) (fun i hi => hgs _ s15_x) (fun i hi => hgs _ s15_c) (fun i hi => hgs _ s15_a) (fun i hi => by obtain rfl : i = 0 := (by omega); exact hgs _ s15_l) (fun i hi j hj => by
    obtain rfl : i = 0 := (by omega)
    have hj : j < 4 := hj
    rcases (show j = 0 ∨ j = 1 ∨ j = 2 ∨ j = 3 by omega) with rfl | rfl | rfl | rfl
    · exact hgs _ s15_0
    · exact hgs _ s15_1
    · exact hgs _ s15_2
    · exact hgs _ s15_3) (fun i j hi hj h => absurd (show i = j by omega) h) hAn
  obtain ⟨h1, h2, h3, h4⟩ := hS.1 0 (by decide)
  exact ⟨(aK 0, aV 0), h1, h2, h3, h4, hts0 (.stringRef RX10 198 "crew") ((lwt_5 (List.mem_of_getElem? (i := 118) (by decide +kernel)))), hE 0 (by decide)⟩
theorem s16_x : Cond.exactly (Term.string "DrumBoatsModel" 207) "java/lang/String" ∈ flatC (Jvm.Cond.and given_1 narrow_1) := by decide +kernel
theorem s16_c : Cond.eq (.field (Term.string "DrumBoatsModel" 207) "java/lang/String" "coder" "B") (.int 0) ∈ flatC (Jvm.Cond.and given_1 narrow_1) := by decide +kernel
theorem s16_a : Cond.arrayOf (.field (Term.string "DrumBoatsModel" 207) "java/lang/String" "value" "[B") .byte ∈ flatC (Jvm.Cond.and given_1 narrow_1) := by decide +kernel
theorem s16_l : Cond.eq (.length (.field (Term.string "DrumBoatsModel" 207) "java/lang/String" "value" "[B")) (.int 1) ∈ flatC (Jvm.Cond.and given_1 narrow_1) := by decide +kernel
theorem s16_0 : Cond.eq (.elem (.field (Term.string "DrumBoatsModel" 207) "java/lang/String" "value" "[B") (.int 0)) (.int 32) ∈ flatC (Jvm.Cond.and given_1 narrow_1) := by decide +kernel
theorem st_16 {args : Array Value} {s : State} {A : Nat → Prop} (hgs : ∀ c ∈ flatC (Jvm.Cond.and given_1 narrow_1), c.before args s = true) (hts0 : ∀ w ∈ lw_tbl, w.before args s = true) (hAn : ∀ a : Nat, a < s.heap.size → ¬ A a) : ∃ q : Nat × Nat, va_O "java/lang/String" q.1 A s s.heap ∧ va_OF "java/lang/String" "coder" "B" (.int 0) q.1 A s s.heap ∧ va_OF "java/lang/String" "value" "[B" (.ref q.2) q.1 A s s.heap ∧ va_T .byte q.2 (sbs 16).length (sb (sbs 16)) A s s.heap ∧ (Cond.stringRef (sown 16) (sidx 16) (stx 16)).before args s = true ∧ (Term.string (sown 16) (sidx 16)).eval args s none [] s = some (.ref q.1) := by
  obtain ⟨aK, aV, hS, hE⟩ := vk_Sof (args := args) (s := s) (N := 1) (tm := fun _ => (Term.string "DrumBoatsModel" 207)) (len := [1]) (byt := [[32]]) (A := A) (fun i hi => by obtain rfl : i = 0 := (by omega); decide) (fun i hi => hgs _ s16_x) (fun i hi => hgs _ s16_c) (fun i hi => hgs _ s16_a) (fun i hi => by obtain rfl : i = 0 := (by omega); exact hgs _ s16_l) (fun i hi j hj => by
    obtain rfl : i = 0 := (by omega)
    have hj : j < 1 := hj
    obtain rfl : j = 0 := by omega
    exact hgs _ s16_0) (fun i j hi hj h => absurd (show i = j by omega) h) hAn
  obtain ⟨h1, h2, h3, h4⟩ := hS.1 0 (by decide)
  exact ⟨(aK 0, aV 0), h1, h2, h3, h4, hts0 (.stringRef RX10 207 " ") ((lwt_5 (List.mem_of_getElem? (i := 119) (by decide +kernel)))), hE 0 (by decide)⟩
theorem s17_x : Cond.exactly (Term.string "DrumBoatsModel" 209) "java/lang/String" ∈ flatC (Jvm.Cond.and given_1 narrow_1) := by decide +kernel
theorem s17_c : Cond.eq (.field (Term.string "DrumBoatsModel" 209) "java/lang/String" "coder" "B") (.int 0) ∈ flatC (Jvm.Cond.and given_1 narrow_1) := by decide +kernel
theorem s17_a : Cond.arrayOf (.field (Term.string "DrumBoatsModel" 209) "java/lang/String" "value" "[B") .byte ∈ flatC (Jvm.Cond.and given_1 narrow_1) := by decide +kernel
theorem s17_l : Cond.eq (.length (.field (Term.string "DrumBoatsModel" 209) "java/lang/String" "value" "[B")) (.int 3) ∈ flatC (Jvm.Cond.and given_1 narrow_1) := by decide +kernel
theorem s17_0 : Cond.eq (.elem (.field (Term.string "DrumBoatsModel" 209) "java/lang/String" "value" "[B") (.int 0)) (.int 111) ∈ flatC (Jvm.Cond.and given_1 narrow_1) := by decide +kernel
theorem s17_1 : Cond.eq (.elem (.field (Term.string "DrumBoatsModel" 209) "java/lang/String" "value" "[B") (.int 1)) (.int 114) ∈ flatC (Jvm.Cond.and given_1 narrow_1) := by decide +kernel
theorem s17_2 : Cond.eq (.elem (.field (Term.string "DrumBoatsModel" 209) "java/lang/String" "value" "[B") (.int 2)) (.int 32) ∈ flatC (Jvm.Cond.and given_1 narrow_1) := by decide +kernel
theorem st_17 {args : Array Value} {s : State} {A : Nat → Prop} (hgs : ∀ c ∈ flatC (Jvm.Cond.and given_1 narrow_1), c.before args s = true) (hts0 : ∀ w ∈ lw_tbl, w.before args s = true) (hAn : ∀ a : Nat, a < s.heap.size → ¬ A a) : ∃ q : Nat × Nat, va_O "java/lang/String" q.1 A s s.heap ∧ va_OF "java/lang/String" "coder" "B" (.int 0) q.1 A s s.heap ∧ va_OF "java/lang/String" "value" "[B" (.ref q.2) q.1 A s s.heap ∧ va_T .byte q.2 (sbs 17).length (sb (sbs 17)) A s s.heap ∧ (Cond.stringRef (sown 17) (sidx 17) (stx 17)).before args s = true ∧ (Term.string (sown 17) (sidx 17)).eval args s none [] s = some (.ref q.1) := by
  obtain ⟨aK, aV, hS, hE⟩ := vk_Sof (args := args) (s := s) (N := 1) (tm := fun _ => (Term.string "DrumBoatsModel" 209)) (len := [3]) (byt := [[111, 114, 32]]) (A := A) (fun i hi => by obtain rfl : i = 0 := (by omega); decide) (fun i hi => hgs _ s17_x) (fun i hi => hgs _ s17_c) (fun i hi => hgs _ s17_a) (fun i hi => by obtain rfl : i = 0 := (by omega); exact hgs _ s17_l) (fun i hi j hj => by
    obtain rfl : i = 0 := (by omega)
    have hj : j < 3 := hj
    rcases (show j = 0 ∨ j = 1 ∨ j = 2 by omega) with rfl | rfl | rfl
    · exact hgs _ s17_0
    · exact hgs _ s17_1
    · exact hgs _ s17_2) (fun i j hi hj h => absurd (show i = j by omega) h) hAn
  obtain ⟨h1, h2, h3, h4⟩ := hS.1 0 (by decide)
  exact ⟨(aK 0, aV 0), h1, h2, h3, h4, hts0 (.stringRef RX10 209 "or ") ((lwt_5 (List.mem_of_getElem? (i := 120) (by decide +kernel)))), hE 0 (by decide)⟩
theorem s18_x : Cond.exactly (Term.string "DrumBoatsModel" 211) "java/lang/String" ∈ flatC (Jvm.Cond.and given_1 narrow_1) := by decide +kernel
theorem s18_c : Cond.eq (.field (Term.string "DrumBoatsModel" 211) "java/lang/String" "coder" "B") (.int 0) ∈ flatC (Jvm.Cond.and given_1 narrow_1) := by decide +kernel
theorem s18_a : Cond.arrayOf (.field (Term.string "DrumBoatsModel" 211) "java/lang/String" "value" "[B") .byte ∈ flatC (Jvm.Cond.and given_1 narrow_1) := by decide +kernel
theorem s18_l : Cond.eq (.length (.field (Term.string "DrumBoatsModel" 211) "java/lang/String" "value" "[B")) (.int 4) ∈ flatC (Jvm.Cond.and given_1 narrow_1) := by decide +kernel
theorem s18_0 : Cond.eq (.elem (.field (Term.string "DrumBoatsModel" 211) "java/lang/String" "value" "[B") (.int 0)) (.int 97) ∈ flatC (Jvm.Cond.and given_1 narrow_1) := by decide +kernel
theorem s18_1 : Cond.eq (.elem (.field (Term.string "DrumBoatsModel" 211) "java/lang/String" "value" "[B") (.int 1)) (.int 110) ∈ flatC (Jvm.Cond.and given_1 narrow_1) := by decide +kernel
theorem s18_2 : Cond.eq (.elem (.field (Term.string "DrumBoatsModel" 211) "java/lang/String" "value" "[B") (.int 2)) (.int 100) ∈ flatC (Jvm.Cond.and given_1 narrow_1) := by decide +kernel
theorem s18_3 : Cond.eq (.elem (.field (Term.string "DrumBoatsModel" 211) "java/lang/String" "value" "[B") (.int 3)) (.int 32) ∈ flatC (Jvm.Cond.and given_1 narrow_1) := by decide +kernel
theorem st_18 {args : Array Value} {s : State} {A : Nat → Prop} (hgs : ∀ c ∈ flatC (Jvm.Cond.and given_1 narrow_1), c.before args s = true) (hts0 : ∀ w ∈ lw_tbl, w.before args s = true) (hAn : ∀ a : Nat, a < s.heap.size → ¬ A a) : ∃ q : Nat × Nat, va_O "java/lang/String" q.1 A s s.heap ∧ va_OF "java/lang/String" "coder" "B" (.int 0) q.1 A s s.heap ∧ va_OF "java/lang/String" "value" "[B" (.ref q.2) q.1 A s s.heap ∧ va_T .byte q.2 (sbs 18).length (sb (sbs 18)) A s s.heap ∧ (Cond.stringRef (sown 18) (sidx 18) (stx 18)).before args s = true ∧ (Term.string (sown 18) (sidx 18)).eval args s none [] s = some (.ref q.1) := by
  obtain ⟨aK, aV, hS, hE⟩ := vk_Sof (args := args) (s := s) (N := 1) (tm := fun _ => (Term.string "DrumBoatsModel" 211)) (len := [4]) (byt := [[97, 110, 100, 32]]) (A := A) (fun i hi => by obtain rfl : i = 0 := (by omega); decide) (fun i hi => hgs _ s18_x) (fun i hi => hgs _ s18_c) (fun i hi => hgs _ s18_a) (fun i hi => by obtain rfl : i = 0 := (by omega); exact hgs _ s18_l) (fun i hi j hj => by
    obtain rfl : i = 0 := (by omega)
    have hj : j < 4 := hj
    rcases (show j = 0 ∨ j = 1 ∨ j = 2 ∨ j = 3 by omega) with rfl | rfl | rfl | rfl
    · exact hgs _ s18_0
    · exact hgs _ s18_1
    · exact hgs _ s18_2
    · exact hgs _ s18_3) (fun i j hi hj h => absurd (show i = j by omega) h) hAn
  obtain ⟨h1, h2, h3, h4⟩ := hS.1 0 (by decide)
  exact ⟨(aK 0, aV 0), h1, h2, h3, h4, hts0 (.stringRef RX10 211 "and ") ((lwt_5 (List.mem_of_getElem? (i := 121) (by decide +kernel)))), hE 0 (by decide)⟩
theorem tl_c : Cond.laysStatic "java/lang/String" "COMPACT_STRINGS" "Z" ∈ lw_tbl := (lwt_3 (List.mem_of_getElem? (i := 97) (by decide +kernel)))
theorem tl_f : Cond.laysStatic "jdk/internal/util/Preconditions" "SIOOBE_FORMATTER" "Ljava/util/function/BiFunction;" ∈ lw_tbl := (lwt_3 (List.mem_of_getElem? (i := 113) (by decide +kernel)))
theorem tl_p : Cond.laysStatic "DrumBoats" "PLACE_POINTS" "[I" ∈ lw_tbl := (lwt_4 (List.mem_of_getElem? (i := 92) (by decide +kernel)))
theorem ti_s : Cond.initialized "java/lang/String" ∈ lw_tbl := (lwt_1 (List.mem_of_getElem? (i := 13) (by decide +kernel)))
theorem ti_f : Cond.initialized "jdk/internal/util/Preconditions" ∈ lw_tbl := (lwt_1 (List.mem_of_getElem? (i := 15) (by decide +kernel)))
theorem ti_d : Cond.initialized "DrumBoats" ∈ lw_tbl := (lwt_1 (List.mem_of_getElem? (i := 1) (by decide +kernel)))
theorem tn_0 : Cond.methodLinkNest RX4 35 yX9_within RX9 ∈ lw_tbl := (lwt_2 (List.mem_of_getElem? (i := 149) (by decide +kernel)))
theorem tn_1 : Cond.methodLinkNest RX7 67 yX9_within RX9 ∈ lw_tbl := (lwt_3 (List.mem_of_getElem? (i := 148) (by decide +kernel)))
theorem tn_2 : Cond.methodLinkNest RX2 51 yX9_within RX9 ∈ lw_tbl := (lwt_4 (List.mem_of_getElem? (i := 41) (by decide +kernel)))
theorem tn_3 : Cond.fieldLinkNest RX3 45 "DrumBoats" "PLACE_POINTS" "[I" RX9 ∈ lw_tbl := (lwt_4 (List.mem_of_getElem? (i := 91) (by decide +kernel)))
theorem ev_start {args : Array Value} {s : State} {A : Nat → Prop} (hgv : (Jvm.Cond.and given_1 narrow_1).before args s = true) (hts0 : ∀ w ∈ lw_tbl, w.before args s = true) (hAn : ∀ a : Nat, a < s.heap.size → ¬ A a) : ∃ (sa sv : Nat → Nat) (vf : Value), EV sa sv vf A s s.heap := by
  have hgs := flat_of_before _ hgv
  have h0 : ∀ w : Nat, ∃ q : Nat × Nat, w < 19 → va_O "java/lang/String" q.1 A s s.heap ∧ va_OF "java/lang/String" "coder" "B" (.int 0) q.1 A s s.heap ∧ va_OF "java/lang/String" "value" "[B" (.ref q.2) q.1 A s s.heap ∧ va_T .byte q.2 (sbs w).length (sb (sbs w)) A s s.heap ∧ vk_R (sown w) (sidx w) (stx w) q.1 s := by
    intro w
    match w with
    | 0 => obtain ⟨q, h1, h2, h3, h4, h5, h6⟩ := st_0 hgs hts0 hAn; exact ⟨q, fun _ => ⟨h1, h2, h3, h4, vk_R.of h5 h6⟩⟩
    | 1 => obtain ⟨q, h1, h2, h3, h4, h5, h6⟩ := st_1 hgs hts0 hAn; exact ⟨q, fun _ => ⟨h1, h2, h3, h4, vk_R.of h5 h6⟩⟩
    | 2 => obtain ⟨q, h1, h2, h3, h4, h5, h6⟩ := st_2 hgs hts0 hAn; exact ⟨q, fun _ => ⟨h1, h2, h3, h4, vk_R.of h5 h6⟩⟩
    | 3 => obtain ⟨q, h1, h2, h3, h4, h5, h6⟩ := st_3 hgs hts0 hAn; exact ⟨q, fun _ => ⟨h1, h2, h3, h4, vk_R.of h5 h6⟩⟩
    | 4 => obtain ⟨q, h1, h2, h3, h4, h5, h6⟩ := st_4 hgs hts0 hAn; exact ⟨q, fun _ => ⟨h1, h2, h3, h4, vk_R.of h5 h6⟩⟩
    | 5 => obtain ⟨q, h1, h2, h3, h4, h5, h6⟩ := st_5 hgs hts0 hAn; exact ⟨q, fun _ => ⟨h1, h2, h3, h4, vk_R.of h5 h6⟩⟩
    | 6 => obtain ⟨q, h1, h2, h3, h4, h5, h6⟩ := st_6 hgs hts0 hAn; exact ⟨q, fun _ => ⟨h1, h2, h3, h4, vk_R.of h5 h6⟩⟩
    | 7 => obtain ⟨q, h1, h2, h3, h4, h5, h6⟩ := st_7 hgs hts0 hAn; exact ⟨q, fun _ => ⟨h1, h2, h3, h4, vk_R.of h5 h6⟩⟩
    | 8 => obtain ⟨q, h1, h2, h3, h4, h5, h6⟩ := st_8 hgs hts0 hAn; exact ⟨q, fun _ => ⟨h1, h2, h3, h4, vk_R.of h5 h6⟩⟩
    | 9 => obtain ⟨q, h1, h2, h3, h4, h5, h6⟩ := st_9 hgs hts0 hAn; exact ⟨q, fun _ => ⟨h1, h2, h3, h4, vk_R.of h5 h6⟩⟩
    | 10 => obtain ⟨q, h1, h2, h3, h4, h5, h6⟩ := st_10 hgs hts0 hAn; exact ⟨q, fun _ => ⟨h1, h2, h3, h4, vk_R.of h5 h6⟩⟩
    | 11 => obtain ⟨q, h1, h2, h3, h4, h5, h6⟩ := st_11 hgs hts0 hAn; exact ⟨q, fun _ => ⟨h1, h2, h3, h4, vk_R.of h5 h6⟩⟩
    | 12 => obtain ⟨q, h1, h2, h3, h4, h5, h6⟩ := st_12 hgs hts0 hAn; exact ⟨q, fun _ => ⟨h1, h2, h3, h4, vk_R.of h5 h6⟩⟩
    | 13 => obtain ⟨q, h1, h2, h3, h4, h5, h6⟩ := st_13 hgs hts0 hAn; exact ⟨q, fun _ => ⟨h1, h2, h3, h4, vk_R.of h5 h6⟩⟩
    | 14 => obtain ⟨q, h1, h2, h3, h4, h5, h6⟩ := st_14 hgs hts0 hAn; exact ⟨q, fun _ => ⟨h1, h2, h3, h4, vk_R.of h5 h6⟩⟩
    | 15 => obtain ⟨q, h1, h2, h3, h4, h5, h6⟩ := st_15 hgs hts0 hAn; exact ⟨q, fun _ => ⟨h1, h2, h3, h4, vk_R.of h5 h6⟩⟩
    | 16 => obtain ⟨q, h1, h2, h3, h4, h5, h6⟩ := st_16 hgs hts0 hAn; exact ⟨q, fun _ => ⟨h1, h2, h3, h4, vk_R.of h5 h6⟩⟩
    | 17 => obtain ⟨q, h1, h2, h3, h4, h5, h6⟩ := st_17 hgs hts0 hAn; exact ⟨q, fun _ => ⟨h1, h2, h3, h4, vk_R.of h5 h6⟩⟩
    | 18 => obtain ⟨q, h1, h2, h3, h4, h5, h6⟩ := st_18 hgs hts0 hAn; exact ⟨q, fun _ => ⟨h1, h2, h3, h4, vk_R.of h5 h6⟩⟩
    | n + 19 => exact ⟨(0, 0), fun h => absurd h (by omega)⟩
  obtain ⟨f, hf⟩ := Classical.axiomOfChoice h0
  obtain ⟨pp, hpe, hpT⟩ := va_Tof (tm := (.static "DrumBoats" "PLACE_POINTS" "[I")) (N := 6) (f := sb [10, 8, 6, 5, 4, 3]) (A := A) (by decide) (hgs _ g_pa) (va_eqt (hgs _ g_pl)) (fun j hj => by
    rcases (show j = 0 ∨ j = 1 ∨ j = 2 ∨ j = 3 ∨ j = 4 ∨ j = 5 by omega) with rfl | rfl | rfl | rfl | rfl | rfl
    · exact va_eqt (hgs _ g_p0)
    · exact va_eqt (hgs _ g_p1)
    · exact va_eqt (hgs _ g_p2)
    · exact va_eqt (hgs _ g_p3)
    · exact va_eqt (hgs _ g_p4)
    · exact va_eqt (hgs _ g_p5)) hAn
  have hq := va_Zqof (hts0 _ tl_f) (hts0 _ ti_f) (hgs _ g_form) hAn
  obtain ⟨vf, hvf, hvc⟩ : ∃ vf : Value, va_Z "jdk/internal/util/Preconditions" "SIOOBE_FORMATTER" "Ljava/util/function/BiFunction;" vf A s s.heap ∧ vf.category = 1 := by
    rcases hq with h | ⟨sf, h⟩
    · exact ⟨_, h, rfl⟩
    · exact ⟨_, h, rfl⟩
  refine ⟨fun w => if w < 19 then (f w).1 else pp, fun w => (f w).2, vf, fun w hw => ?_, fun w hw => ?_, ⟨va_Nw.of rfl (hts0 _ tn_0), va_Nw.of rfl (hts0 _ tn_1), va_Nw.of rfl (hts0 _ tn_2), va_Nw.of rfl (hts0 _ tn_3)⟩, va_Zof (hts0 _ tl_c) (hts0 _ ti_s) (va_eqi (hgs _ g_compact)) hAn, hvf, va_Zof (hts0 _ tl_p) (hts0 _ ti_d) hpe hAn, hpT, hvc⟩
  · obtain ⟨h1, h2, h3, h4, -⟩ := hf w hw
    simp only [if_pos hw]
    exact ⟨h1, h2, h3, h4⟩
  · obtain ⟨-, -, -, -, h5⟩ := hf w hw
    simp only [if_pos hw]
    exact h5
