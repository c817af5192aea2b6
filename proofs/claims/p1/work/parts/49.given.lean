def gl_1 : List Cond := flatC (Jvm.Cond.and given_1 narrow_1)
theorem g_compact : Cond.eq (.static "java/lang/String" "COMPACT_STRINGS" "Z") (.int 1) ∈ flatC (Jvm.Cond.and given_1 narrow_1) := by decide +kernel
theorem g_form : Cond.isRef (.static "jdk/internal/util/Preconditions" "SIOOBE_FORMATTER" "Ljava/util/function/BiFunction;") ∈ flatC (Jvm.Cond.and given_1 narrow_1) := by decide +kernel
theorem s_X7_91_x : Cond.exactly (Term.string "DrumBoats$Tape" 91) "java/lang/String" ∈ flatC (Jvm.Cond.and given_1 narrow_1) := by decide +kernel
theorem s_X7_91_c : Cond.eq (.field (Term.string "DrumBoats$Tape" 91) "java/lang/String" "coder" "B") (.int 0) ∈ flatC (Jvm.Cond.and given_1 narrow_1) := by decide +kernel
theorem s_X7_91_a : Cond.arrayOf (.field (Term.string "DrumBoats$Tape" 91) "java/lang/String" "value" "[B") .byte ∈ flatC (Jvm.Cond.and given_1 narrow_1) := by decide +kernel
theorem s_X7_91_l : Cond.eq (.length (.field (Term.string "DrumBoats$Tape" 91) "java/lang/String" "value" "[B")) (.int 3) ∈ flatC (Jvm.Cond.and given_1 narrow_1) := by decide +kernel
theorem s_X7_91_0 : Cond.eq (.elem (.field (Term.string "DrumBoats$Tape" 91) "java/lang/String" "value" "[B") (.int 0)) (.int 109) ∈ flatC (Jvm.Cond.and given_1 narrow_1) := by decide +kernel
theorem s_X7_91_1 : Cond.eq (.elem (.field (Term.string "DrumBoats$Tape" 91) "java/lang/String" "value" "[B") (.int 1)) (.int 101) ∈ flatC (Jvm.Cond.and given_1 narrow_1) := by decide +kernel
theorem s_X7_91_2 : Cond.eq (.elem (.field (Term.string "DrumBoats$Tape" 91) "java/lang/String" "value" "[B") (.int 2)) (.int 110) ∈ flatC (Jvm.Cond.and given_1 narrow_1) := by decide +kernel
theorem s_X7_91_of {args : Array Value} {s : State} {A : Nat → Prop} (hgs : ∀ c ∈ flatC (Jvm.Cond.and given_1 narrow_1), c.before args s = true) (hAn : ∀ a : Nat, a < s.heap.size → ¬ A a) : ∃ a v : Nat, (Term.string "DrumBoats$Tape" 91).eval args s none [] s = some (.ref a) ∧ va_O "java/lang/String" a A s s.heap ∧ va_OF "java/lang/String" "coder" "B" (.int 0) a A s s.heap ∧ va_OF "java/lang/String" "value" "[B" (.ref v) a A s s.heap ∧ va_T .byte v 3 (sb [109, 101, 110]) A s s.heap := by
  obtain ⟨aK, aV, hS, hE⟩ := vk_Sof (args := args) (s := s) (N := 1) (tm := fun _ => (Term.string "DrumBoats$Tape" 91)) (len := [3]) (byt := [[109, 101, 110]]) (A := A) (fun i hi => by obtain rfl : i = 0 := (by omega); decide) (fun i hi => hgs _ s_X7_91_x) (fun i hi => hgs _ s_X7_91_c) (fun i hi => hgs _ s_X7_91_a) (fun i hi => by obtain rfl : i = 0 := (by omega); exact hgs _ s_X7_91_l) (fun i hi j hj => by
    obtain rfl : i = 0 := (by omega)
    have hj : j < 3 := hj
    rcases (show j = 0 ∨ j = 1 ∨ j = 2 by omega) with rfl | rfl | rfl
    · exact hgs _ s_X7_91_0
    · exact hgs _ s_X7_91_1
    · exact hgs _ s_X7_91_2) (fun i j hi hj h => absurd (show i = j by omega) h) hAn
  obtain ⟨h1, h2, h3, h4⟩ := hS.1 0 (by decide)
  exact ⟨aK 0, aV 0, hE 0 (by decide), h1, h2, h3, h4⟩
theorem s_X7_93_x : Cond.exactly (Term.string "DrumBoats$Tape" 93) "java/lang/String" ∈ flatC (Jvm.Cond.and given_1 narrow_1) := by decide +kernel
theorem s_X7_93_c : Cond.eq (.field (Term.string "DrumBoats$Tape" 93) "java/lang/String" "coder" "B") (.int 0) ∈ flatC (Jvm.Cond.and given_1 narrow_1) := by decide +kernel
theorem s_X7_93_a : Cond.arrayOf (.field (Term.string "DrumBoats$Tape" 93) "java/lang/String" "value" "[B") .byte ∈ flatC (Jvm.Cond.and given_1 narrow_1) := by decide +kernel
theorem s_X7_93_l : Cond.eq (.length (.field (Term.string "DrumBoats$Tape" 93) "java/lang/String" "value" "[B")) (.int 5) ∈ flatC (Jvm.Cond.and given_1 narrow_1) := by decide +kernel
theorem s_X7_93_0 : Cond.eq (.elem (.field (Term.string "DrumBoats$Tape" 93) "java/lang/String" "value" "[B") (.int 0)) (.int 119) ∈ flatC (Jvm.Cond.and given_1 narrow_1) := by decide +kernel
theorem s_X7_93_1 : Cond.eq (.elem (.field (Term.string "DrumBoats$Tape" 93) "java/lang/String" "value" "[B") (.int 1)) (.int 111) ∈ flatC (Jvm.Cond.and given_1 narrow_1) := by decide +kernel
theorem s_X7_93_2 : Cond.eq (.elem (.field (Term.string "DrumBoats$Tape" 93) "java/lang/String" "value" "[B") (.int 2)) (.int 109) ∈ flatC (Jvm.Cond.and given_1 narrow_1) := by decide +kernel
theorem s_X7_93_3 : Cond.eq (.elem (.field (Term.string "DrumBoats$Tape" 93) "java/lang/String" "value" "[B") (.int 3)) (.int 101) ∈ flatC (Jvm.Cond.and given_1 narrow_1) := by decide +kernel
theorem s_X7_93_4 : Cond.eq (.elem (.field (Term.string "DrumBoats$Tape" 93) "java/lang/String" "value" "[B") (.int 4)) (.int 110) ∈ flatC (Jvm.Cond.and given_1 narrow_1) := by decide +kernel
theorem s_X7_93_of {args : Array Value} {s : State} {A : Nat → Prop} (hgs : ∀ c ∈ flatC (Jvm.Cond.and given_1 narrow_1), c.before args s = true) (hAn : ∀ a : Nat, a < s.heap.size → ¬ A a) : ∃ a v : Nat, (Term.string "DrumBoats$Tape" 93).eval args s none [] s = some (.ref a) ∧ va_O "java/lang/String" a A s s.heap ∧ va_OF "java/lang/String" "coder" "B" (.int 0) a A s s.heap ∧ va_OF "java/lang/String" "value" "[B" (.ref v) a A s s.heap ∧ va_T .byte v 5 (sb [119, 111, 109, 101, 110]) A s s.heap := by
  obtain ⟨aK, aV, hS, hE⟩ := vk_Sof (args := args) (s := s) (N := 1) (tm := fun _ => (Term.string "DrumBoats$Tape" 93)) (len := [5]) (byt := [[119, 111, 109, 101, 110]]) (A := A) (fun i hi => by obtain rfl : i = 0 := (by omega); decide) (fun i hi => hgs _ s_X7_93_x) (fun i hi => hgs _ s_X7_93_c) (fun i hi => hgs _ s_X7_93_a) (fun i hi => by obtain rfl : i = 0 := (by omega); exact hgs _ s_X7_93_l) (fun i hi j hj => by
    obtain rfl : i = 0 := (by omega)
    have hj : j < 5 := hj
    rcases (show j = 0 ∨ j = 1 ∨ j = 2 ∨ j = 3 ∨ j = 4 by omega) with rfl | rfl | rfl | rfl | rfl
    · exact hgs _ s_X7_93_0
    · exact hgs _ s_X7_93_1
    · exact hgs _ s_X7_93_2
    · exact hgs _ s_X7_93_3
    · exact hgs _ s_X7_93_4) (fun i j hi hj h => absurd (show i = j by omega) h) hAn
  obtain ⟨h1, h2, h3, h4⟩ := hS.1 0 (by decide)
  exact ⟨aK 0, aV 0, hE 0 (by decide), h1, h2, h3, h4⟩
theorem s_X7_95_x : Cond.exactly (Term.string "DrumBoats$Tape" 95) "java/lang/String" ∈ flatC (Jvm.Cond.and given_1 narrow_1) := by decide +kernel
theorem s_X7_95_c : Cond.eq (.field (Term.string "DrumBoats$Tape" 95) "java/lang/String" "coder" "B") (.int 0) ∈ flatC (Jvm.Cond.and given_1 narrow_1) := by decide +kernel
theorem s_X7_95_a : Cond.arrayOf (.field (Term.string "DrumBoats$Tape" 95) "java/lang/String" "value" "[B") .byte ∈ flatC (Jvm.Cond.and given_1 narrow_1) := by decide +kernel
theorem s_X7_95_l : Cond.eq (.length (.field (Term.string "DrumBoats$Tape" 95) "java/lang/String" "value" "[B")) (.int 3) ∈ flatC (Jvm.Cond.and given_1 narrow_1) := by decide +kernel
theorem s_X7_95_0 : Cond.eq (.elem (.field (Term.string "DrumBoats$Tape" 95) "java/lang/String" "value" "[B") (.int 0)) (.int 111) ∈ flatC (Jvm.Cond.and given_1 narrow_1) := by decide +kernel
theorem s_X7_95_1 : Cond.eq (.elem (.field (Term.string "DrumBoats$Tape" 95) "java/lang/String" "value" "[B") (.int 1)) (.int 108) ∈ flatC (Jvm.Cond.and given_1 narrow_1) := by decide +kernel
theorem s_X7_95_2 : Cond.eq (.elem (.field (Term.string "DrumBoats$Tape" 95) "java/lang/String" "value" "[B") (.int 2)) (.int 100) ∈ flatC (Jvm.Cond.and given_1 narrow_1) := by decide +kernel
theorem s_X7_95_of {args : Array Value} {s : State} {A : Nat → Prop} (hgs : ∀ c ∈ flatC (Jvm.Cond.and given_1 narrow_1), c.before args s = true) (hAn : ∀ a : Nat, a < s.heap.size → ¬ A a) : ∃ a v : Nat, (Term.string "DrumBoats$Tape" 95).eval args s none [] s = some (.ref a) ∧ va_O "java/lang/String" a A s s.heap ∧ va_OF "java/lang/String" "coder" "B" (.int 0) a A s s.heap ∧ va_OF "java/lang/String" "value" "[B" (.ref v) a A s s.heap ∧ va_T .byte v 3 (sb [111, 108, 100]) A s s.heap := by
  obtain ⟨aK, aV, hS, hE⟩ := vk_Sof (args := args) (s := s) (N := 1) (tm := fun _ => (Term.string "DrumBoats$Tape" 95)) (len := [3]) (byt := [[111, 108, 100]]) (A := A) (fun i hi => by obtain rfl : i = 0 := (by omega); decide) (fun i hi => hgs _ s_X7_95_x) (fun i hi => hgs _ s_X7_95_c) (fun i hi => hgs _ s_X7_95_a) (fun i hi => by obtain rfl : i = 0 := (by omega); exact hgs _ s_X7_95_l) (fun i hi j hj => by
    obtain rfl : i = 0 := (by omega)
    have hj : j < 3 := hj
    rcases (show j = 0 ∨ j = 1 ∨ j = 2 by omega) with rfl | rfl | rfl
    · exact hgs _ s_X7_95_0
    · exact hgs _ s_X7_95_1
    · exact hgs _ s_X7_95_2) (fun i j hi hj h => absurd (show i = j by omega) h) hAn
  obtain ⟨h1, h2, h3, h4⟩ := hS.1 0 (by decide)
  exact ⟨aK 0, aV 0, hE 0 (by decide), h1, h2, h3, h4⟩
theorem s_X7_97_x : Cond.exactly (Term.string "DrumBoats$Tape" 97) "java/lang/String" ∈ flatC (Jvm.Cond.and given_1 narrow_1) := by decide +kernel
theorem s_X7_97_c : Cond.eq (.field (Term.string "DrumBoats$Tape" 97) "java/lang/String" "coder" "B") (.int 0) ∈ flatC (Jvm.Cond.and given_1 narrow_1) := by decide +kernel
theorem s_X7_97_a : Cond.arrayOf (.field (Term.string "DrumBoats$Tape" 97) "java/lang/String" "value" "[B") .byte ∈ flatC (Jvm.Cond.and given_1 narrow_1) := by decide +kernel
theorem s_X7_97_l : Cond.eq (.length (.field (Term.string "DrumBoats$Tape" 97) "java/lang/String" "value" "[B")) (.int 5) ∈ flatC (Jvm.Cond.and given_1 narrow_1) := by decide +kernel
theorem s_X7_97_0 : Cond.eq (.elem (.field (Term.string "DrumBoats$Tape" 97) "java/lang/String" "value" "[B") (.int 0)) (.int 121) ∈ flatC (Jvm.Cond.and given_1 narrow_1) := by decide +kernel
theorem s_X7_97_1 : Cond.eq (.elem (.field (Term.string "DrumBoats$Tape" 97) "java/lang/String" "value" "[B") (.int 1)) (.int 111) ∈ flatC (Jvm.Cond.and given_1 narrow_1) := by decide +kernel
theorem s_X7_97_2 : Cond.eq (.elem (.field (Term.string "DrumBoats$Tape" 97) "java/lang/String" "value" "[B") (.int 2)) (.int 117) ∈ flatC (Jvm.Cond.and given_1 narrow_1) := by decide +kernel
theorem s_X7_97_3 : Cond.eq (.elem (.field (Term.string "DrumBoats$Tape" 97) "java/lang/String" "value" "[B") (.int 3)) (.int 110) ∈ flatC (Jvm.Cond.and given_1 narrow_1) := by decide +kernel
theorem s_X7_97_4 : Cond.eq (.elem (.field (Term.string "DrumBoats$Tape" 97) "java/lang/String" "value" "[B") (.int 4)) (.int 103) ∈ flatC (Jvm.Cond.and given_1 narrow_1) := by decide +kernel
theorem s_X7_97_of {args : Array Value} {s : State} {A : Nat → Prop} (hgs : ∀ c ∈ flatC (Jvm.Cond.and given_1 narrow_1), c.before args s = true) (hAn : ∀ a : Nat, a < s.heap.size → ¬ A a) : ∃ a v : Nat, (Term.string "DrumBoats$Tape" 97).eval args s none [] s = some (.ref a) ∧ va_O "java/lang/String" a A s s.heap ∧ va_OF "java/lang/String" "coder" "B" (.int 0) a A s s.heap ∧ va_OF "java/lang/String" "value" "[B" (.ref v) a A s s.heap ∧ va_T .byte v 5 (sb [121, 111, 117, 110, 103]) A s s.heap := by
  obtain ⟨aK, aV, hS, hE⟩ := vk_Sof (args := args) (s := s) (N := 1) (tm := fun _ => (Term.string "DrumBoats$Tape" 97)) (len := [5]) (byt := [[121, 111, 117, 110, 103]]) (A := A) (fun i hi => by obtain rfl : i = 0 := (by omega); decide) (fun i hi => hgs _ s_X7_97_x) (fun i hi => hgs _ s_X7_97_c) (fun i hi => hgs _ s_X7_97_a) (fun i hi => by obtain rfl : i = 0 := (by omega); exact hgs _ s_X7_97_l) (fun i hi j hj => by
    obtain rfl : i = 0 := (by omega)
    have hj : j < 5 := hj
    rcases (show j = 0 ∨ j = 1 ∨ j = 2 ∨ j = 3 ∨ j = 4 by omega) with rfl | rfl | rfl | rfl | rfl
    · exact hgs _ s_X7_97_0
    · exact hgs _ s_X7_97_1
    · exact hgs _ s_X7_97_2
    · exact hgs _ s_X7_97_3
    · exact hgs _ s_X7_97_4) (fun i j hi hj h => absurd (show i = j by omega) h) hAn
  obtain ⟨h1, h2, h3, h4⟩ := hS.1 0 (by decide)
  exact ⟨aK 0, aV 0, hE 0 (by decide), h1, h2, h3, h4⟩
theorem s_X7_99_x : Cond.exactly (Term.string "DrumBoats$Tape" 99) "java/lang/String" ∈ flatC (Jvm.Cond.and given_1 narrow_1) := by decide +kernel
theorem s_X7_99_c : Cond.eq (.field (Term.string "DrumBoats$Tape" 99) "java/lang/String" "coder" "B") (.int 0) ∈ flatC (Jvm.Cond.and given_1 narrow_1) := by decide +kernel
theorem s_X7_99_a : Cond.arrayOf (.field (Term.string "DrumBoats$Tape" 99) "java/lang/String" "value" "[B") .byte ∈ flatC (Jvm.Cond.and given_1 narrow_1) := by decide +kernel
theorem s_X7_99_l : Cond.eq (.length (.field (Term.string "DrumBoats$Tape" 99) "java/lang/String" "value" "[B")) (.int 6) ∈ flatC (Jvm.Cond.and given_1 narrow_1) := by decide +kernel
theorem s_X7_99_0 : Cond.eq (.elem (.field (Term.string "DrumBoats$Tape" 99) "java/lang/String" "value" "[B") (.int 0)) (.int 119) ∈ flatC (Jvm.Cond.and given_1 narrow_1) := by decide +kernel
theorem s_X7_99_1 : Cond.eq (.elem (.field (Term.string "DrumBoats$Tape" 99) "java/lang/String" "value" "[B") (.int 1)) (.int 101) ∈ flatC (Jvm.Cond.and given_1 narrow_1) := by decide +kernel
theorem s_X7_99_2 : Cond.eq (.elem (.field (Term.string "DrumBoats$Tape" 99) "java/lang/String" "value" "[B") (.int 2)) (.int 105) ∈ flatC (Jvm.Cond.and given_1 narrow_1) := by decide +kernel
theorem s_X7_99_3 : Cond.eq (.elem (.field (Term.string "DrumBoats$Tape" 99) "java/lang/String" "value" "[B") (.int 3)) (.int 103) ∈ flatC (Jvm.Cond.and given_1 narrow_1) := by decide +kernel
theorem s_X7_99_4 : Cond.eq (.elem (.field (Term.string "DrumBoats$Tape" 99) "java/lang/String" "value" "[B") (.int 4)) (.int 104) ∈ flatC (Jvm.Cond.and given_1 narrow_1) := by decide +kernel
theorem s_X7_99_5 : Cond.eq (.elem (.field (Term.string "DrumBoats$Tape" 99) "java/lang/String" "value" "[B") (.int 5)) (.int 116) ∈ flatC (Jvm.Cond.and given_1 narrow_1) := by decide +kernel
theorem s_X7_99_of {args : Array Value} {s : State} {A : Nat → Prop} (hgs : ∀ c ∈ flatC (Jvm.Cond.and given_1 narrow_1), c.before args s = true) (hAn : ∀ a : Nat, a < s.heap.size → ¬ A a) : ∃ a v : Nat, (Term.string "DrumBoats$Tape" 99).eval args s none [] s = some (.ref a) ∧ va_O "java/lang/String" a A s s.heap ∧ va_OF "java/lang/String" "coder" "B" (.int 0) a A s s.heap ∧ va_OF "java/lang/String" "value" "[B" (.ref v) a A s s.heap ∧ va_T .byte v 6 (sb [119, 101, 105, 103, 104, 116]) A s s.heap := by
  obtain ⟨aK, aV, hS, hE⟩ := vk_Sof (args := args) (s := s) (N := 1) (tm := fun _ => (Term.string "DrumBoats$Tape" 99)) (len := [6]) (byt := [[119, 101, 105, 103, 104, 116]]) (A := A) (fun i hi => by obtain rfl : i = 0 := (by omega); decide) (fun i hi => hgs _ s_X7_99_x) (fun i hi => hgs _ s_X7_99_c) (fun i hi => hgs _ s_X7_99_a) (fun i hi => by obtain rfl : i = 0 := (by omega); exact hgs _ s_X7_99_l) (fun i hi j hj => by
    obtain rfl : i = 0 := (by omega)
    have hj : j < 6 := hj
    rcases (show j = 0 ∨ j = 1 ∨ j = 2 ∨ j = 3 ∨ j = 4 ∨ j = 5 by omega) with rfl | rfl | rfl | rfl | rfl | rfl
    · exact hgs _ s_X7_99_0
    · exact hgs _ s_X7_99_1
    · exact hgs _ s_X7_99_2
    · exact hgs _ s_X7_99_3
    · exact hgs _ s_X7_99_4
    · exact hgs _ s_X7_99_5) (fun i j hi hj h => absurd (show i = j by omega) h) hAn
  obtain ⟨h1, h2, h3, h4⟩ := hS.1 0 (by decide)
  exact ⟨aK 0, aV 0, hE 0 (by decide), h1, h2, h3, h4⟩
theorem s_X7_101_x : Cond.exactly (Term.string "DrumBoats$Tape" 101) "java/lang/String" ∈ flatC (Jvm.Cond.and given_1 narrow_1) := by decide +kernel
theorem s_X7_101_c : Cond.eq (.field (Term.string "DrumBoats$Tape" 101) "java/lang/String" "coder" "B") (.int 0) ∈ flatC (Jvm.Cond.and given_1 narrow_1) := by decide +kernel
theorem s_X7_101_a : Cond.arrayOf (.field (Term.string "DrumBoats$Tape" 101) "java/lang/String" "value" "[B") .byte ∈ flatC (Jvm.Cond.and given_1 narrow_1) := by decide +kernel
theorem s_X7_101_l : Cond.eq (.length (.field (Term.string "DrumBoats$Tape" 101) "java/lang/String" "value" "[B")) (.int 4) ∈ flatC (Jvm.Cond.and given_1 narrow_1) := by decide +kernel
theorem s_X7_101_0 : Cond.eq (.elem (.field (Term.string "DrumBoats$Tape" 101) "java/lang/String" "value" "[B") (.int 0)) (.int 99) ∈ flatC (Jvm.Cond.and given_1 narrow_1) := by decide +kernel
theorem s_X7_101_1 : Cond.eq (.elem (.field (Term.string "DrumBoats$Tape" 101) "java/lang/String" "value" "[B") (.int 1)) (.int 114) ∈ flatC (Jvm.Cond.and given_1 narrow_1) := by decide +kernel
theorem s_X7_101_2 : Cond.eq (.elem (.field (Term.string "DrumBoats$Tape" 101) "java/lang/String" "value" "[B") (.int 2)) (.int 101) ∈ flatC (Jvm.Cond.and given_1 narrow_1) := by decide +kernel
theorem s_X7_101_3 : Cond.eq (.elem (.field (Term.string "DrumBoats$Tape" 101) "java/lang/String" "value" "[B") (.int 3)) (.int 119) ∈ flatC (Jvm.Cond.and given_1 narrow_1) := by decide +kernel
theorem s_X7_101_of {args : Array Value} {s : State} {A : Nat → Prop} (hgs : ∀ c ∈ flatC (Jvm.Cond.and given_1 narrow_1), c.before args s = true) (hAn : ∀ a : Nat, a < s.heap.size → ¬ A a) : ∃ a v : Nat, (Term.string "DrumBoats$Tape" 101).eval args s none [] s = some (.ref a) ∧ va_O "java/lang/String" a A s s.heap ∧ va_OF "java/lang/String" "coder" "B" (.int 0) a A s s.heap ∧ va_OF "java/lang/String" "value" "[B" (.ref v) a A s s.heap ∧ va_T .byte v 4 (sb [99, 114, 101, 119]) A s s.heap := by
  obtain ⟨aK, aV, hS, hE⟩ := vk_Sof (args := args) (s := s) (N := 1) (tm := fun _ => (Term.string "DrumBoats$Tape" 101)) (len := [4]) (byt := [[99, 114, 101, 119]]) (A := A) (fun i hi => by obtain rfl : i = 0 := (by omega); decide) (fun i hi => hgs _ s_X7_101_x) (fun i hi => hgs _ s_X7_101_c) (fun i hi => hgs _ s_X7_101_a) (fun i hi => by obtain rfl : i = 0 := (by omega); exact hgs _ s_X7_101_l) (fun i hi j hj => by
    obtain rfl : i = 0 := (by omega)
    have hj : j < 4 := hj
    rcases (show j = 0 ∨ j = 1 ∨ j = 2 ∨ j = 3 by omega) with rfl | rfl | rfl | rfl
    · exact hgs _ s_X7_101_0
    · exact hgs _ s_X7_101_1
    · exact hgs _ s_X7_101_2
    · exact hgs _ s_X7_101_3) (fun i j hi hj h => absurd (show i = j by omega) h) hAn
  obtain ⟨h1, h2, h3, h4⟩ := hS.1 0 (by decide)
  exact ⟨aK 0, aV 0, hE 0 (by decide), h1, h2, h3, h4⟩
theorem s_X7_103_x : Cond.exactly (Term.string "DrumBoats$Tape" 103) "java/lang/String" ∈ flatC (Jvm.Cond.and given_1 narrow_1) := by decide +kernel
theorem s_X7_103_c : Cond.eq (.field (Term.string "DrumBoats$Tape" 103) "java/lang/String" "coder" "B") (.int 0) ∈ flatC (Jvm.Cond.and given_1 narrow_1) := by decide +kernel
theorem s_X7_103_a : Cond.arrayOf (.field (Term.string "DrumBoats$Tape" 103) "java/lang/String" "value" "[B") .byte ∈ flatC (Jvm.Cond.and given_1 narrow_1) := by decide +kernel
theorem s_X7_103_l : Cond.eq (.length (.field (Term.string "DrumBoats$Tape" 103) "java/lang/String" "value" "[B")) (.int 3) ∈ flatC (Jvm.Cond.and given_1 narrow_1) := by decide +kernel
theorem s_X7_103_0 : Cond.eq (.elem (.field (Term.string "DrumBoats$Tape" 103) "java/lang/String" "value" "[B") (.int 0)) (.int 110) ∈ flatC (Jvm.Cond.and given_1 narrow_1) := by decide +kernel
theorem s_X7_103_1 : Cond.eq (.elem (.field (Term.string "DrumBoats$Tape" 103) "java/lang/String" "value" "[B") (.int 1)) (.int 111) ∈ flatC (Jvm.Cond.and given_1 narrow_1) := by decide +kernel
theorem s_X7_103_2 : Cond.eq (.elem (.field (Term.string "DrumBoats$Tape" 103) "java/lang/String" "value" "[B") (.int 2)) (.int 116) ∈ flatC (Jvm.Cond.and given_1 narrow_1) := by decide +kernel
theorem s_X7_103_of {args : Array Value} {s : State} {A : Nat → Prop} (hgs : ∀ c ∈ flatC (Jvm.Cond.and given_1 narrow_1), c.before args s = true) (hAn : ∀ a : Nat, a < s.heap.size → ¬ A a) : ∃ a v : Nat, (Term.string "DrumBoats$Tape" 103).eval args s none [] s = some (.ref a) ∧ va_O "java/lang/String" a A s s.heap ∧ va_OF "java/lang/String" "coder" "B" (.int 0) a A s s.heap ∧ va_OF "java/lang/String" "value" "[B" (.ref v) a A s s.heap ∧ va_T .byte v 3 (sb [110, 111, 116]) A s s.heap := by
  obtain ⟨aK, aV, hS, hE⟩ := vk_Sof (args := args) (s := s) (N := 1) (tm := fun _ => (Term.string "DrumBoats$Tape" 103)) (len := [3]) (byt := [[110, 111, 116]]) (A := A) (fun i hi => by obtain rfl : i = 0 := (by omega); decide) (fun i hi => hgs _ s_X7_103_x) (fun i hi => hgs _ s_X7_103_c) (fun i hi => hgs _ s_X7_103_a) (fun i hi => by obtain rfl : i = 0 := (by omega); exact hgs _ s_X7_103_l) (fun i hi j hj => by
    obtain rfl : i = 0 := (by omega)
    have hj : j < 3 := hj
    rcases (show j = 0 ∨ j = 1 ∨ j = 2 by omega) with rfl | rfl | rfl
    · exact hgs _ s_X7_103_0
    · exact hgs _ s_X7_103_1
    · exact hgs _ s_X7_103_2) (fun i j hi hj h => absurd (show i = j by omega) h) hAn
  obtain ⟨h1, h2, h3, h4⟩ := hS.1 0 (by decide)
  exact ⟨aK 0, aV 0, hE 0 (by decide), h1, h2, h3, h4⟩
theorem s_X10_198_x : Cond.exactly (Term.string "DrumBoatsModel" 198) "java/lang/String" ∈ flatC (Jvm.Cond.and given_1 narrow_1) := by decide +kernel
theorem s_X10_198_c : Cond.eq (.field (Term.string "DrumBoatsModel" 198) "java/lang/String" "coder" "B") (.int 0) ∈ flatC (Jvm.Cond.and given_1 narrow_1) := by decide +kernel
theorem s_X10_198_a : Cond.arrayOf (.field (Term.string "DrumBoatsModel" 198) "java/lang/String" "value" "[B") .byte ∈ flatC (Jvm.Cond.and given_1 narrow_1) := by decide +kernel
theorem s_X10_198_l : Cond.eq (.length (.field (Term.string "DrumBoatsModel" 198) "java/lang/String" "value" "[B")) (.int 4) ∈ flatC (Jvm.Cond.and given_1 narrow_1) := by decide +kernel
theorem s_X10_198_0 : Cond.eq (.elem (.field (Term.string "DrumBoatsModel" 198) "java/lang/String" "value" "[B") (.int 0)) (.int 99) ∈ flatC (Jvm.Cond.and given_1 narrow_1) := by decide +kernel
theorem s_X10_198_1 : Cond.eq (.elem (.field (Term.string "DrumBoatsModel" 198) "java/lang/String" "value" "[B") (.int 1)) (.int 114) ∈ flatC (Jvm.Cond.and given_1 narrow_1) := by decide +kernel
theorem s_X10_198_2 : Cond.eq (.elem (.field (Term.string "DrumBoatsModel" 198) "java/lang/String" "value" "[B") (.int 2)) (.int 101) ∈ flatC (Jvm.Cond.and given_1 narrow_1) := by decide +kernel
theorem s_X10_198_3 : Cond.eq (.elem (.field (Term.string "DrumBoatsModel" 198) "java/lang/String" "value" "[B") (.int 3)) (.int 119) ∈ flatC (Jvm.Cond.and given_1 narrow_1) := by decide +kernel
theorem s_X10_198_of {args : Array Value} {s : State} {A : Nat → Prop} (hgs : ∀ c ∈ flatC (Jvm.Cond.and given_1 narrow_1), c.before args s = true) (hAn : ∀ a : Nat, a < s.heap.size → ¬ A a) : ∃ a v : Nat, (Term.string "DrumBoatsModel" 198).eval args s none [] s = some (.ref a) ∧ va_O "java/lang/String" a A s s.heap ∧ va_OF "java/lang/String" "coder" "B" (.int 0) a A s s.heap ∧ va_OF "java/lang/String" "value" "[B" (.ref v) a A s s.heap ∧ va_T .byte v 4 (sb [99, 114, 101, 119]) A s s.heap := by
  obtain ⟨aK, aV, hS, hE⟩ := vk_Sof (args := args) (s := s) (N := 1) (tm := fun _ => (Term.string "DrumBoatsModel" 198)) (len := [4]) (byt := [[99, 114, 101, 119]]) (A := A) (fun i hi => by obtain rfl : i = 0 := (by omega); decide) (fun i hi => hgs _ s_X10_198_x) (fun i hi => hgs _ s_X10_198_c) (fun i hi => hgs _ s_X10_198_a) (fun i hi => by obtain rfl : i = 0 := (by omega); exact hgs _ s_X10_198_l) (fun i hi j hj => by
    obtain rfl : i = 0 := (by omega)
    have hj : j < 4 := hj
    rcases (show j = 0 ∨ j = 1 ∨ j = 2 ∨ j = 3 by omega) with rfl | rfl | rfl | rfl
    · exact hgs _ s_X10_198_0
    · exact hgs _ s_X10_198_1
    · exact hgs _ s_X10_198_2
    · exact hgs _ s_X10_198_3) (fun i j hi hj h => absurd (show i = j by omega) h) hAn
  obtain ⟨h1, h2, h3, h4⟩ := hS.1 0 (by decide)
  exact ⟨aK 0, aV 0, hE 0 (by decide), h1, h2, h3, h4⟩
