set_option maxHeartbeats 4000000 in
set_option maxRecDepth 100000 in
theorem k_X10_isPaddler (l : Launch) (dC : Nat → ClassId) (dI : Nat → Nat → Nat) (sz : Nat) (h0 : Nat) (p0 : Int32) (m_weight : Nat) (m_strength : Nat) (m_arm : Nat) (m_sex : Nat) (m_age : Nat) (m_likes : Nat) (m_rows : Nat) (m_drummer : Nat) (m_members : Nat) (m_beat : Nat) (m_member : Nat) (m_seated : Nat) (m_isSeated : Nat) (m_tape : Nat) (m_rTests : Nat) (m_tField : Nat) (m_tSign : Nat) (m_tNumber : Nat) (m_tNot : Nat) (m_tOr : Nat) (m_minute : Nat) (m_round : Nat) (m_laneCrew : Nat) (m_laneTime : Nat) (m_gone : Nat) (m_struck : Nat) (m_wasRun : Nat) (m_wait : Nat) (m_current : Nat) (m_finals : Nat) (m_bestTime : Nat) (m_inFinal : Nat) (m_pick : Nat) (m_found : Nat) (m_fresh : Nat) (m_at : Nat) : Met l yX10_isPaddler wsX10_isPaddler ({ frames := 0, cells := 0, slots := 0, locals := 0 }) (va_Pc [.ref h0, .int p0] (fun U => U.heap.size = sz ∧ va_P (dC, dI) vwCl [(h0, .inr (10, [.int 0, .int 0, .int 0, .int 0, .int 0, .int 10, .int 0, .int 0, .ref m_weight, .ref m_strength, .ref m_arm, .ref m_sex, .ref m_age, .ref m_likes, .ref m_rows, .ref m_drummer, .ref m_members, .ref m_beat, .ref m_member, .ref m_seated, .ref m_isSeated, .ref m_tape, .ref m_rTests, .ref m_tField, .ref m_tSign, .ref m_tNumber, .ref m_tNot, .ref m_tOr, .ref m_minute, .ref m_round, .ref m_laneCrew, .ref m_laneTime, .ref m_gone, .ref m_struck, .ref m_wasRun, .ref m_wait, .ref m_current, .ref m_finals, .ref m_bestTime, .ref m_inFinal, .ref m_pick, .ref m_found, .ref m_fresh, .ref m_at, .long 0, .long 0, .int 0, .int 0]))] U.heap ∧ va_K (dC, dI) vwCl [] U)) (va_Qi (fun (r : Int32) (_ : Unit) => r = 0) (fun _ _ => True) (va_A ([] : va_W) sz)) 0 0 (va_A ([] : va_W) sz) := by
  refine Met.ofW (cc := cX10_isPaddler) (maxL := 2) (ret := (some .boolean)) (by decide) rfl ?_
  intro p e s m args below meth c s₁ B hml hv
  obtain ⟨rfl, hsz, hP, hK⟩ := hv
  have hx := B.exec
  have hb := B.bytes
  have hr := B.returns
  have hts := atoms_spec (ws := wsX10_isPaddler) B.pre
  have hown : s.vm.findClass RX10 = some m.cls := findClass_of_methodNamed B.named
  have hlocks := B.notSynchronized
  subst hsz
  generalize hAe : va_A ([] : va_W) s.heap.size = A
  have hA : ∀ q : Nat, s.heap.size ≤ q → A q := fun q h => by rw [← hAe]; exact Or.inr h
  have hS : va_S A s.heap s.heap [] := va_S.rf
  have hl := lv_entry ([.ref h0, .int p0]) (n := 2) (Nat.le_of_ble_eq_true rfl)
  rw [lg_entry_eq]
  generalize (lg_sl ([.ref h0, .int p0]) ++ List.replicate (2 - (lg_sl ([.ref h0, .int p0])).length) Slot.unset).toArray = ls at hl ⊢
  have hl : lv_has ls 2 [(0, .ref h0), (1, .int p0)] := hl
  refine lv_iload_n hx hb dX10_isPaddler_0 rfl (lv_at hl 1 rfl) ?_
  refine lv_if_lt (tgt := 16) hx hb dX10_isPaddler_1 (by decide) (fun c_1 => ?_) (fun c_1 => ?_)
  · have c_1 : p0.toInt < 0 := Int32.lt_iff_toInt_lt.mp c_1
    refine lv_iconst (v := 0) hx hb dX10_isPaddler_16 (by decide +kernel) ?_
    refine W.widen (k := 0) (n := 0) (Nat.le_of_ble_eq_true rfl) (Nat.le_of_ble_eq_true rfl) ?_
    exact W.zret (v := 0) hx hb hr (by decide) (fun t ht hW => ⟨⟨0, (), rfl, (by first | rfl | (exfalso; omega)), trivial⟩, hS.F ht⟩) hS.2.2 dX10_isPaddler_17
  · have c_1 : ¬ (p0.toInt < 0) := fun h => c_1 (Int32.lt_iff_toInt_lt.mpr h)
    refine lv_iload_n hx hb dX10_isPaddler_4 rfl (lv_at hl 1 rfl) ?_
    refine lv_aload_n hx hb dX10_isPaddler_5 rfl (lv_at hl 0 rfl) ?_
    refine va_get (D := (dC, dI)) (ci := 10) (v := .int 0) (C := RX10) (T := TX10) (N := 48) hx hb hts (fun _ h => List.mem_cons_of_mem _ (List.mem_append_right _ h)) hown hK hP 0 rfl rfl 0 (by decide) (hts (.fieldLink RX10 125 "DrumBoatsModel" "paddlers" "I") (List.mem_of_getElem? (i := 1) rfl)) (fun _ h9 => h9) rfl dX10_isPaddler_6 ?_
    refine lv_icmp_ge (tgt := 16) hx hb dX10_isPaddler_9 (by decide) (fun c_2 => ?_) (fun c_2 => ?_)
    · have c_2 : 0 ≤ p0.toInt := Int32.le_iff_toInt_le.mp c_2
      refine lv_iconst (v := 0) hx hb dX10_isPaddler_16 (by decide +kernel) ?_
      refine W.widen (k := 0) (n := 0) (Nat.le_of_ble_eq_true rfl) (Nat.le_of_ble_eq_true rfl) ?_
      exact W.zret (v := 0) hx hb hr (by decide) (fun t ht hW => ⟨⟨0, (), rfl, (by first | rfl | (exfalso; omega)), trivial⟩, hS.F ht⟩) hS.2.2 dX10_isPaddler_17
    · have c_2 : ¬ (0 ≤ p0.toInt) := fun h => c_2 (Int32.le_iff_toInt_le.mpr h)
      exfalso; omega

set_option maxHeartbeats 4000000 in
set_option maxRecDepth 100000 in
theorem k_X10_isCrew (l : Launch) (dC : Nat → ClassId) (dI : Nat → Nat → Nat) (sz : Nat) (h0 : Nat) (p0 : Int32) (m_weight : Nat) (m_strength : Nat) (m_arm : Nat) (m_sex : Nat) (m_age : Nat) (m_likes : Nat) (m_rows : Nat) (m_drummer : Nat) (m_members : Nat) (m_beat : Nat) (m_member : Nat) (m_seated : Nat) (m_isSeated : Nat) (m_tape : Nat) (m_rTests : Nat) (m_tField : Nat) (m_tSign : Nat) (m_tNumber : Nat) (m_tNot : Nat) (m_tOr : Nat) (m_minute : Nat) (m_round : Nat) (m_laneCrew : Nat) (m_laneTime : Nat) (m_gone : Nat) (m_struck : Nat) (m_wasRun : Nat) (m_wait : Nat) (m_current : Nat) (m_finals : Nat) (m_bestTime : Nat) (m_inFinal : Nat) (m_pick : Nat) (m_found : Nat) (m_fresh : Nat) (m_at : Nat) : Met l yX10_isCrew wsX10_isCrew ({ frames := 0, cells := 0, slots := 0, locals := 0 }) (va_Pc [.ref h0, .int p0] (fun U => U.heap.size = sz ∧ va_P (dC, dI) vwCl [(h0, .inr (10, [.int 0, .int 0, .int 0, .int 0, .int 0, .int 10, .int 0, .int 0, .ref m_weight, .ref m_strength, .ref m_arm, .ref m_sex, .ref m_age, .ref m_likes, .ref m_rows, .ref m_drummer, .ref m_members, .ref m_beat, .ref m_member, .ref m_seated, .ref m_isSeated, .ref m_tape, .ref m_rTests, .ref m_tField, .ref m_tSign, .ref m_tNumber, .ref m_tNot, .ref m_tOr, .ref m_minute, .ref m_round, .ref m_laneCrew, .ref m_laneTime, .ref m_gone, .ref m_struck, .ref m_wasRun, .ref m_wait, .ref m_current, .ref m_finals, .ref m_bestTime, .ref m_inFinal, .ref m_pick, .ref m_found, .ref m_fresh, .ref m_at, .long 0, .long 0, .int 0, .int 0]))] U.heap ∧ va_K (dC, dI) vwCl [] U)) (va_Qi (fun (r : Int32) (_ : Unit) => r = 0) (fun _ _ => True) (va_A ([] : va_W) sz)) 0 0 (va_A ([] : va_W) sz) := by
  refine Met.ofW (cc := cX10_isCrew) (maxL := 2) (ret := (some .boolean)) (by decide) rfl ?_
  intro p e s m args below meth c s₁ B hml hv
  obtain ⟨rfl, hsz, hP, hK⟩ := hv
  have hx := B.exec
  have hb := B.bytes
  have hr := B.returns
  have hts := atoms_spec (ws := wsX10_isCrew) B.pre
  have hown : s.vm.findClass RX10 = some m.cls := findClass_of_methodNamed B.named
  have hlocks := B.notSynchronized
  subst hsz
  generalize hAe : va_A ([] : va_W) s.heap.size = A
  have hA : ∀ q : Nat, s.heap.size ≤ q → A q := fun q h => by rw [← hAe]; exact Or.inr h
  have hS : va_S A s.heap s.heap [] := va_S.rf
  have hl := lv_entry ([.ref h0, .int p0]) (n := 2) (Nat.le_of_ble_eq_true rfl)
  rw [lg_entry_eq]
  generalize (lg_sl ([.ref h0, .int p0]) ++ List.replicate (2 - (lg_sl ([.ref h0, .int p0])).length) Slot.unset).toArray = ls at hl ⊢
  have hl : lv_has ls 2 [(0, .ref h0), (1, .int p0)] := hl
  refine lv_iload_n hx hb dX10_isCrew_0 rfl (lv_at hl 1 rfl) ?_
  refine lv_if_lt (tgt := 16) hx hb dX10_isCrew_1 (by decide) (fun c_1 => ?_) (fun c_1 => ?_)
  · have c_1 : p0.toInt < 0 := Int32.lt_iff_toInt_lt.mp c_1
    refine lv_iconst (v := 0) hx hb dX10_isCrew_16 (by decide +kernel) ?_
    refine W.widen (k := 0) (n := 0) (Nat.le_of_ble_eq_true rfl) (Nat.le_of_ble_eq_true rfl) ?_
    exact W.zret (v := 0) hx hb hr (by decide) (fun t ht hW => ⟨⟨0, (), rfl, (by first | rfl | (exfalso; omega)), trivial⟩, hS.F ht⟩) hS.2.2 dX10_isCrew_17
  · have c_1 : ¬ (p0.toInt < 0) := fun h => c_1 (Int32.lt_iff_toInt_lt.mpr h)
    refine lv_iload_n hx hb dX10_isCrew_4 rfl (lv_at hl 1 rfl) ?_
    refine lv_aload_n hx hb dX10_isCrew_5 rfl (lv_at hl 0 rfl) ?_
    refine va_get (D := (dC, dI)) (ci := 10) (v := .int 0) (C := RX10) (T := TX10) (N := 48) hx hb hts (fun _ h => List.mem_cons_of_mem _ (List.mem_append_right _ h)) hown hK hP 0 rfl rfl 1 (by decide) (hts (.fieldLink RX10 128 "DrumBoatsModel" "crews" "I") (List.mem_of_getElem? (i := 1) rfl)) (fun _ h9 => h9) rfl dX10_isCrew_6 ?_
    refine lv_icmp_ge (tgt := 16) hx hb dX10_isCrew_9 (by decide) (fun c_2 => ?_) (fun c_2 => ?_)
    · have c_2 : 0 ≤ p0.toInt := Int32.le_iff_toInt_le.mp c_2
      refine lv_iconst (v := 0) hx hb dX10_isCrew_16 (by decide +kernel) ?_
      refine W.widen (k := 0) (n := 0) (Nat.le_of_ble_eq_true rfl) (Nat.le_of_ble_eq_true rfl) ?_
      exact W.zret (v := 0) hx hb hr (by decide) (fun t ht hW => ⟨⟨0, (), rfl, (by first | rfl | (exfalso; omega)), trivial⟩, hS.F ht⟩) hS.2.2 dX10_isCrew_17
    · have c_2 : ¬ (0 ≤ p0.toInt) := fun h => c_2 (Int32.le_iff_toInt_le.mpr h)
      exfalso; omega

set_option maxHeartbeats 4000000 in
set_option maxRecDepth 100000 in
theorem k_X10_isRace (l : Launch) (dC : Nat → ClassId) (dI : Nat → Nat → Nat) (sz : Nat) (h0 : Nat) (p0 : Int32) (m_weight : Nat) (m_strength : Nat) (m_arm : Nat) (m_sex : Nat) (m_age : Nat) (m_likes : Nat) (m_rows : Nat) (m_drummer : Nat) (m_members : Nat) (m_beat : Nat) (m_member : Nat) (m_seated : Nat) (m_isSeated : Nat) (m_tape : Nat) (m_rTests : Nat) (m_tField : Nat) (m_tSign : Nat) (m_tNumber : Nat) (m_tNot : Nat) (m_tOr : Nat) (m_minute : Nat) (m_round : Nat) (m_laneCrew : Nat) (m_laneTime : Nat) (m_gone : Nat) (m_struck : Nat) (m_wasRun : Nat) (m_wait : Nat) (m_current : Nat) (m_finals : Nat) (m_bestTime : Nat) (m_inFinal : Nat) (m_pick : Nat) (m_found : Nat) (m_fresh : Nat) (m_at : Nat) : Met l yX10_isRace wsX10_isRace ({ frames := 0, cells := 0, slots := 0, locals := 0 }) (va_Pc [.ref h0, .int p0] (fun U => U.heap.size = sz ∧ va_P (dC, dI) vwCl [(h0, .inr (10, [.int 0, .int 0, .int 0, .int 0, .int 0, .int 10, .int 0, .int 0, .ref m_weight, .ref m_strength, .ref m_arm, .ref m_sex, .ref m_age, .ref m_likes, .ref m_rows, .ref m_drummer, .ref m_members, .ref m_beat, .ref m_member, .ref m_seated, .ref m_isSeated, .ref m_tape, .ref m_rTests, .ref m_tField, .ref m_tSign, .ref m_tNumber, .ref m_tNot, .ref m_tOr, .ref m_minute, .ref m_round, .ref m_laneCrew, .ref m_laneTime, .ref m_gone, .ref m_struck, .ref m_wasRun, .ref m_wait, .ref m_current, .ref m_finals, .ref m_bestTime, .ref m_inFinal, .ref m_pick, .ref m_found, .ref m_fresh, .ref m_at, .long 0, .long 0, .int 0, .int 0]))] U.heap ∧ va_K (dC, dI) vwCl [] U)) (va_Qi (fun (r : Int32) (_ : Unit) => r = 0) (fun _ _ => True) (va_A ([] : va_W) sz)) 0 0 (va_A ([] : va_W) sz) := by
  refine Met.ofW (cc := cX10_isRace) (maxL := 2) (ret := (some .boolean)) (by decide) rfl ?_
  intro p e s m args below meth c s₁ B hml hv
  obtain ⟨rfl, hsz, hP, hK⟩ := hv
  have hx := B.exec
  have hb := B.bytes
  have hr := B.returns
  have hts := atoms_spec (ws := wsX10_isRace) B.pre
  have hown : s.vm.findClass RX10 = some m.cls := findClass_of_methodNamed B.named
  have hlocks := B.notSynchronized
  subst hsz
  generalize hAe : va_A ([] : va_W) s.heap.size = A
  have hA : ∀ q : Nat, s.heap.size ≤ q → A q := fun q h => by rw [← hAe]; exact Or.inr h
  have hS : va_S A s.heap s.heap [] := va_S.rf
  have hl := lv_entry ([.ref h0, .int p0]) (n := 2) (Nat.le_of_ble_eq_true rfl)
  rw [lg_entry_eq]
  generalize (lg_sl ([.ref h0, .int p0]) ++ List.replicate (2 - (lg_sl ([.ref h0, .int p0])).length) Slot.unset).toArray = ls at hl ⊢
  have hl : lv_has ls 2 [(0, .ref h0), (1, .int p0)] := hl
  refine lv_iload_n hx hb dX10_isRace_0 rfl (lv_at hl 1 rfl) ?_
  refine lv_if_lt (tgt := 16) hx hb dX10_isRace_1 (by decide) (fun c_1 => ?_) (fun c_1 => ?_)
  · have c_1 : p0.toInt < 0 := Int32.lt_iff_toInt_lt.mp c_1
    refine lv_iconst (v := 0) hx hb dX10_isRace_16 (by decide +kernel) ?_
    refine W.widen (k := 0) (n := 0) (Nat.le_of_ble_eq_true rfl) (Nat.le_of_ble_eq_true rfl) ?_
    exact W.zret (v := 0) hx hb hr (by decide) (fun t ht hW => ⟨⟨0, (), rfl, (by first | rfl | (exfalso; omega)), trivial⟩, hS.F ht⟩) hS.2.2 dX10_isRace_17
  · have c_1 : ¬ (p0.toInt < 0) := fun h => c_1 (Int32.lt_iff_toInt_lt.mpr h)
    refine lv_iload_n hx hb dX10_isRace_4 rfl (lv_at hl 1 rfl) ?_
    refine lv_aload_n hx hb dX10_isRace_5 rfl (lv_at hl 0 rfl) ?_
    refine va_get (D := (dC, dI)) (ci := 10) (v := .int 0) (C := RX10) (T := TX10) (N := 48) hx hb hts (fun _ h => List.mem_cons_of_mem _ (List.mem_append_right _ h)) hown hK hP 0 rfl rfl 3 (by decide) (hts (.fieldLink RX10 223 "DrumBoatsModel" "races" "I") (List.mem_of_getElem? (i := 1) rfl)) (fun _ h9 => h9) rfl dX10_isRace_6 ?_
    refine lv_icmp_ge (tgt := 16) hx hb dX10_isRace_9 (by decide) (fun c_2 => ?_) (fun c_2 => ?_)
    · have c_2 : 0 ≤ p0.toInt := Int32.le_iff_toInt_le.mp c_2
      refine lv_iconst (v := 0) hx hb dX10_isRace_16 (by decide +kernel) ?_
      refine W.widen (k := 0) (n := 0) (Nat.le_of_ble_eq_true rfl) (Nat.le_of_ble_eq_true rfl) ?_
      exact W.zret (v := 0) hx hb hr (by decide) (fun t ht hW => ⟨⟨0, (), rfl, (by first | rfl | (exfalso; omega)), trivial⟩, hS.F ht⟩) hS.2.2 dX10_isRace_17
    · have c_2 : ¬ (0 ≤ p0.toInt) := fun h => c_2 (Int32.le_iff_toInt_le.mpr h)
      exfalso; omega

set_option maxHeartbeats 4000000 in
set_option maxRecDepth 100000 in
theorem k_X10_isIn (l : Launch) (dC : Nat → ClassId) (dI : Nat → Nat → Nat) (sz : Nat) (h0 : Nat) (p0 : Int32) (p1 : Int32) (m_weight : Nat) (m_strength : Nat) (m_arm : Nat) (m_sex : Nat) (m_age : Nat) (m_likes : Nat) (m_rows : Nat) (m_drummer : Nat) (m_members : Nat) (m_beat : Nat) (m_member : Nat) (m_seated : Nat) (m_isSeated : Nat) (m_tape : Nat) (m_rTests : Nat) (m_tField : Nat) (m_tSign : Nat) (m_tNumber : Nat) (m_tNot : Nat) (m_tOr : Nat) (m_minute : Nat) (m_round : Nat) (m_laneCrew : Nat) (m_laneTime : Nat) (m_gone : Nat) (m_struck : Nat) (m_wasRun : Nat) (m_wait : Nat) (m_current : Nat) (m_finals : Nat) (m_bestTime : Nat) (m_inFinal : Nat) (m_pick : Nat) (m_found : Nat) (m_fresh : Nat) (m_at : Nat) : Met l yX10_isIn wsX10_isIn ({ frames := 1, cells := 0, slots := 0, locals := 21 }) (va_Pc [.ref h0, .int p0, .int p1] (fun U => U.heap.size = sz ∧ va_P (dC, dI) vwCl [(h0, .inr (10, [.int 0, .int 0, .int 0, .int 0, .int 0, .int 10, .int 0, .int 0, .ref m_weight, .ref m_strength, .ref m_arm, .ref m_sex, .ref m_age, .ref m_likes, .ref m_rows, .ref m_drummer, .ref m_members, .ref m_beat, .ref m_member, .ref m_seated, .ref m_isSeated, .ref m_tape, .ref m_rTests, .ref m_tField, .ref m_tSign, .ref m_tNumber, .ref m_tNot, .ref m_tOr, .ref m_minute, .ref m_round, .ref m_laneCrew, .ref m_laneTime, .ref m_gone, .ref m_struck, .ref m_wasRun, .ref m_wait, .ref m_current, .ref m_finals, .ref m_bestTime, .ref m_inFinal, .ref m_pick, .ref m_found, .ref m_fresh, .ref m_at, .long 0, .long 0, .int 0, .int 0]))] U.heap ∧ va_K (dC, dI) vwCl [] U)) (va_Qi (fun (r : Int32) (_ : Unit) => r = 0) (fun _ _ => True) (va_A ([] : va_W) sz)) 0 0 (va_A ([] : va_W) sz) := by
  refine Met.ofW (cc := cX10_isIn) (maxL := 3) (ret := (some .boolean)) (by decide) rfl ?_
  intro p e s m args below meth c s₁ B hml hv
  obtain ⟨rfl, hsz, hP, hK⟩ := hv
  have hx := B.exec
  have hb := B.bytes
  have hr := B.returns
  have hts := atoms_spec (ws := wsX10_isIn) B.pre
  have hown : s.vm.findClass RX10 = some m.cls := findClass_of_methodNamed B.named
  have hlocks := B.notSynchronized
  subst hsz
  generalize hAe : va_A ([] : va_W) s.heap.size = A
  have hA : ∀ q : Nat, s.heap.size ≤ q → A q := fun q h => by rw [← hAe]; exact Or.inr h
  have hS : va_S A s.heap s.heap [] := va_S.rf
  have hl := lv_entry ([.ref h0, .int p0, .int p1]) (n := 3) (Nat.le_of_ble_eq_true rfl)
  rw [lg_entry_eq]
  generalize (lg_sl ([.ref h0, .int p0, .int p1]) ++ List.replicate (3 - (lg_sl ([.ref h0, .int p0, .int p1])).length) Slot.unset).toArray = ls at hl ⊢
  have hl : lv_has ls 3 [(0, .ref h0), (1, .int p0), (2, .int p1)] := hl
  refine lv_aload_n hx hb dX10_isIn_0 rfl (lv_at hl 0 rfl) ?_
  refine lv_iload_n hx hb dX10_isIn_1 rfl (lv_at hl 1 rfl) ?_
  have hPc := hP.sub (ws' := [(h0, .inr (10, [.int 0, .int 0, .int 0, .int 0, .int 0, .int 10, .int 0, .int 0, .ref m_weight, .ref m_strength, .ref m_arm, .ref m_sex, .ref m_age, .ref m_likes, .ref m_rows, .ref m_drummer, .ref m_members, .ref m_beat, .ref m_member, .ref m_seated, .ref m_isSeated, .ref m_tape, .ref m_rTests, .ref m_tField, .ref m_tSign, .ref m_tNumber, .ref m_tNot, .ref m_tOr, .ref m_minute, .ref m_round, .ref m_laneCrew, .ref m_laneTime, .ref m_gone, .ref m_struck, .ref m_wasRun, .ref m_wait, .ref m_current, .ref m_finals, .ref m_bestTime, .ref m_inFinal, .ref m_pick, .ref m_found, .ref m_fresh, .ref m_at, .long 0, .long 0, .int 0, .int 0]))]) [0] rfl
  have hKc := hK.sub (tys' := []) [] rfl
  have hFc := ro_free hS hA
  refine va_calli (va_runV (As := [.int p0]) (rest := []) ⟨hx, hb, hml, hown, hts⟩ (k_X10_isRace l dC dI s.heap.size h0 p0 m_weight m_strength m_arm m_sex m_age m_likes m_rows m_drummer m_members m_beat m_member m_seated m_isSeated m_tape m_rTests m_tField m_tSign m_tNumber m_tNot m_tOr m_minute m_round m_laneCrew m_laneTime m_gone m_struck m_wasRun m_wait m_current m_finals m_bestTime m_inFinal m_pick m_found m_fresh m_at) (cwV 1 hts gX10_isIn_X10_isRace rfl rfl rfl (by decide +kernel) ⟨(Nat.le_of_ble_eq_true rfl), (Nat.le_of_ble_eq_true rfl)⟩) ⟨fun a U g mk q => by obtain ⟨q0, q1, qP, qK⟩ := q; exact ⟨q0, q1, qP, va_K.moved (u := U) (U := U.calling g mk a) (Vm.Alike.refl U.vm) qK⟩, va_recv hKc hPc (ci := 10) (q0 := 0) rfl rfl, fun U hU hW => ⟨rfl, by rw [hU], by rw [hU]; exact hPc, va_K.moved hW.alike hKc⟩⟩ rfl rfl hl.1 rfl (lv_room (Nat.le_of_ble_eq_true rfl)) dX10_isIn_2 ⟨(Nat.le_of_ble_eq_true rfl), (Nat.le_of_ble_eq_true rfl)⟩) hS (fun q _ h => hFc q h) hFc (fun r u t H1 locs ht hvm hw hB hz1 hk1 hS => ?_)
  refine W.widen (k := 0) (n := 0) (Nat.le_of_ble_eq_true rfl) (Nat.le_of_ble_eq_true rfl) ?_
  have hP := P_ro hP hk1
  generalize H1 = H at hP hS ⊢
  subst hw
  refine lv_if_eq (tgt := 35) hx hb dX10_isIn_5 (by decide) (fun _ => ?_) (fun c9 => absurd c9 (by decide +kernel))
  refine lv_iconst (v := 0) hx hb dX10_isIn_35 (by decide +kernel) ?_
  refine W.widen (k := 0) (n := 0) (Nat.le_of_ble_eq_true rfl) (Nat.le_of_ble_eq_true rfl) ?_
  exact W.zret (v := 0) hx hb hr (by decide) (fun t ht hW => ⟨⟨0, (), rfl, (by first | rfl | (exfalso; omega)), trivial⟩, hS.F ht⟩) hS.2.2 dX10_isIn_36

set_option maxHeartbeats 4000000 in
set_option maxRecDepth 100000 in
theorem k_X10_paddler (l : Launch) (dC : Nat → ClassId) (dI : Nat → Nat → Nat) (sz : Nat) (h0 : Nat) (p0 : Int32) (p1 : Int32) (p2 : Int32) (p3 : Int32) (p4 : Int32) (m_weight : Nat) (m_strength : Nat) (m_arm : Nat) (m_sex : Nat) (m_age : Nat) (m_likes : Nat) (m_rows : Nat) (m_drummer : Nat) (m_members : Nat) (m_beat : Nat) (m_member : Nat) (m_seated : Nat) (m_isSeated : Nat) (m_tape : Nat) (m_rTests : Nat) (m_tField : Nat) (m_tSign : Nat) (m_tNumber : Nat) (m_tNot : Nat) (m_tOr : Nat) (m_minute : Nat) (m_round : Nat) (m_laneCrew : Nat) (m_laneTime : Nat) (m_gone : Nat) (m_struck : Nat) (m_wasRun : Nat) (m_wait : Nat) (m_current : Nat) (m_finals : Nat) (m_bestTime : Nat) (m_inFinal : Nat) (m_pick : Nat) (m_found : Nat) (m_fresh : Nat) (m_at : Nat) (cm_weight : ClassId) (cm_strength : ClassId) (cm_arm : ClassId) (cm_sex : ClassId) (cm_age : ClassId) : Met l yX10_paddler wsX10_paddler ({ frames := 0, cells := 0, slots := 0, locals := 0 }) (va_Pc [.ref h0, .int p0, .int p1, .int p2, .int p3, .int p4] (fun U => U.heap.size = sz ∧ va_P (dC, dI) vwCl [(h0, .inr (10, [.int 0, .int 0, .int 0, .int 0, .int 0, .int 10, .int 0, .int 0, .ref m_weight, .ref m_strength, .ref m_arm, .ref m_sex, .ref m_age, .ref m_likes, .ref m_rows, .ref m_drummer, .ref m_members, .ref m_beat, .ref m_member, .ref m_seated, .ref m_isSeated, .ref m_tape, .ref m_rTests, .ref m_tField, .ref m_tSign, .ref m_tNumber, .ref m_tNot, .ref m_tOr, .ref m_minute, .ref m_round, .ref m_laneCrew, .ref m_laneTime, .ref m_gone, .ref m_struck, .ref m_wasRun, .ref m_wait, .ref m_current, .ref m_finals, .ref m_bestTime, .ref m_inFinal, .ref m_pick, .ref m_found, .ref m_fresh, .ref m_at, .long 0, .long 0, .int 0, .int 0])), (m_weight, .inl (cm_weight, 40, .inl (fun _ => 0))), (m_strength, .inl (cm_strength, 40, .inl (fun _ => 0))), (m_arm, .inl (cm_arm, 40, .inl (fun _ => 0))), (m_sex, .inl (cm_sex, 40, .inl (fun _ => 0))), (m_age, .inl (cm_age, 40, .inl (fun _ => 0)))] U.heap ∧ va_K (dC, dI) vwCl [(cm_weight, .int), (cm_strength, .int), (cm_arm, .int), (cm_sex, .int), (cm_age, .int)] U ∧ va_D (fun _ => True) [(h0, .inr (10, [.int 0, .int 0, .int 0, .int 0, .int 0, .int 10, .int 0, .int 0, .ref m_weight, .ref m_strength, .ref m_arm, .ref m_sex, .ref m_age, .ref m_likes, .ref m_rows, .ref m_drummer, .ref m_members, .ref m_beat, .ref m_member, .ref m_seated, .ref m_isSeated, .ref m_tape, .ref m_rTests, .ref m_tField, .ref m_tSign, .ref m_tNumber, .ref m_tNot, .ref m_tOr, .ref m_minute, .ref m_round, .ref m_laneCrew, .ref m_laneTime, .ref m_gone, .ref m_struck, .ref m_wasRun, .ref m_wait, .ref m_current, .ref m_finals, .ref m_bestTime, .ref m_inFinal, .ref m_pick, .ref m_found, .ref m_fresh, .ref m_at, .long 0, .long 0, .int 0, .int 0])), (m_weight, .inl (cm_weight, 40, .inl (fun _ => 0))), (m_strength, .inl (cm_strength, 40, .inl (fun _ => 0))), (m_arm, .inl (cm_arm, 40, .inl (fun _ => 0))), (m_sex, .inl (cm_sex, 40, .inl (fun _ => 0))), (m_age, .inl (cm_age, 40, .inl (fun _ => 0)))])) (va_Qi (fun (r : Int32) (_ : Unit) => r = f_paddler p0 p1 p2 p3 p4) (fun _ _ => True) (va_A [(h0, .inr (10, [.int 0, .int 0, .int 0, .int 0, .int 0, .int 10, .int 0, .int 0, .ref m_weight, .ref m_strength, .ref m_arm, .ref m_sex, .ref m_age, .ref m_likes, .ref m_rows, .ref m_drummer, .ref m_members, .ref m_beat, .ref m_member, .ref m_seated, .ref m_isSeated, .ref m_tape, .ref m_rTests, .ref m_tField, .ref m_tSign, .ref m_tNumber, .ref m_tNot, .ref m_tOr, .ref m_minute, .ref m_round, .ref m_laneCrew, .ref m_laneTime, .ref m_gone, .ref m_struck, .ref m_wasRun, .ref m_wait, .ref m_current, .ref m_finals, .ref m_bestTime, .ref m_inFinal, .ref m_pick, .ref m_found, .ref m_fresh, .ref m_at, .long 0, .long 0, .int 0, .int 0])), (m_weight, .inl (cm_weight, 40, .inl (fun _ => 0))), (m_strength, .inl (cm_strength, 40, .inl (fun _ => 0))), (m_arm, .inl (cm_arm, 40, .inl (fun _ => 0))), (m_sex, .inl (cm_sex, 40, .inl (fun _ => 0))), (m_age, .inl (cm_age, 40, .inl (fun _ => 0)))] sz)) 0 0 (va_A [(h0, .inr (10, [.int 0, .int 0, .int 0, .int 0, .int 0, .int 10, .int 0, .int 0, .ref m_weight, .ref m_strength, .ref m_arm, .ref m_sex, .ref m_age, .ref m_likes, .ref m_rows, .ref m_drummer, .ref m_members, .ref m_beat, .ref m_member, .ref m_seated, .ref m_isSeated, .ref m_tape, .ref m_rTests, .ref m_tField, .ref m_tSign, .ref m_tNumber, .ref m_tNot, .ref m_tOr, .ref m_minute, .ref m_round, .ref m_laneCrew, .ref m_laneTime, .ref m_gone, .ref m_struck, .ref m_wasRun, .ref m_wait, .ref m_current, .ref m_finals, .ref m_bestTime, .ref m_inFinal, .ref m_pick, .ref m_found, .ref m_fresh, .ref m_at, .long 0, .long 0, .int 0, .int 0])), (m_weight, .inl (cm_weight, 40, .inl (fun _ => 0))), (m_strength, .inl (cm_strength, 40, .inl (fun _ => 0))), (m_arm, .inl (cm_arm, 40, .inl (fun _ => 0))), (m_sex, .inl (cm_sex, 40, .inl (fun _ => 0))), (m_age, .inl (cm_age, 40, .inl (fun _ => 0)))] sz) := by
  refine Met.ofW (cc := cX10_paddler) (maxL := 6) (ret := (some .int)) (by decide) rfl ?_
  intro p e s m args below meth c s₁ B hml hv
  obtain ⟨rfl, hsz, hP, hK, hD0⟩ := hv
  have hx := B.exec
  have hb := B.bytes
  have hr := B.returns
  have hts := atoms_spec (ws := wsX10_paddler) B.pre
  have hown : s.vm.findClass RX10 = some m.cls := findClass_of_methodNamed B.named
  have hlocks := B.notSynchronized
  subst hsz
  have hD := hD0.self (sz := s.heap.size)
  generalize hAe : va_A [(h0, .inr (10, [.int 0, .int 0, .int 0, .int 0, .int 0, .int 10, .int 0, .int 0, .ref m_weight, .ref m_strength, .ref m_arm, .ref m_sex, .ref m_age, .ref m_likes, .ref m_rows, .ref m_drummer, .ref m_members, .ref m_beat, .ref m_member, .ref m_seated, .ref m_isSeated, .ref m_tape, .ref m_rTests, .ref m_tField, .ref m_tSign, .ref m_tNumber, .ref m_tNot, .ref m_tOr, .ref m_minute, .ref m_round, .ref m_laneCrew, .ref m_laneTime, .ref m_gone, .ref m_struck, .ref m_wasRun, .ref m_wait, .ref m_current, .ref m_finals, .ref m_bestTime, .ref m_inFinal, .ref m_pick, .ref m_found, .ref m_fresh, .ref m_at, .long 0, .long 0, .int 0, .int 0])), (m_weight, .inl (cm_weight, 40, .inl (fun _ => 0))), (m_strength, .inl (cm_strength, 40, .inl (fun _ => 0))), (m_arm, .inl (cm_arm, 40, .inl (fun _ => 0))), (m_sex, .inl (cm_sex, 40, .inl (fun _ => 0))), (m_age, .inl (cm_age, 40, .inl (fun _ => 0)))] s.heap.size = A at hD ⊢
  have hA : ∀ q : Nat, s.heap.size ≤ q → A q := fun q h => by rw [← hAe]; exact Or.inr h
  have hS : va_S A s.heap s.heap [] := va_S.rf
  have hl := lv_entry ([.ref h0, .int p0, .int p1, .int p2, .int p3, .int p4]) (n := 6) (Nat.le_of_ble_eq_true rfl)
  rw [lg_entry_eq]
  generalize (lg_sl ([.ref h0, .int p0, .int p1, .int p2, .int p3, .int p4]) ++ List.replicate (6 - (lg_sl ([.ref h0, .int p0, .int p1, .int p2, .int p3, .int p4])).length) Slot.unset).toArray = ls at hl ⊢
  have hl : lv_has ls 6 [(0, .ref h0), (1, .int p0), (2, .int p1), (3, .int p2), (4, .int p3), (5, .int p4)] := hl
  refine lv_iload_n hx hb dX10_paddler_0 rfl (lv_at hl 1 rfl) ?_
  refine lv_bipush (v := 30) hx hb dX10_paddler_1 (by decide +kernel) ?_
  refine lv_icmp_lt (tgt := 58) hx hb dX10_paddler_3 (by decide) (fun c_1 => ?_) (fun c_1 => ?_)
  · have c_1 : p0.toInt < 30 := Int32.lt_iff_toInt_lt.mp c_1
    refine lv_bipush (v := (-2)) hx hb dX10_paddler_58 (by decide +kernel) ?_
    refine W.widen (k := 0) (n := 0) (Nat.le_of_ble_eq_true rfl) (Nat.le_of_ble_eq_true rfl) ?_
    exact W.iret (v := (-2)) hx hb hr (fun t ht hW => ⟨⟨(-2), (), rfl, (by first | rfl | decide | (unfold f_paddler; (repeat' split) <;> first | rfl | omega)), trivial⟩, hS.F ht⟩) hS.2.2 dX10_paddler_60
  · have c_1 : ¬ (p0.toInt < 30) := fun h => c_1 (Int32.lt_iff_toInt_lt.mpr h)
    refine lv_iload_n hx hb dX10_paddler_6 rfl (lv_at hl 1 rfl) ?_
    refine lv_sipush (v := 150) hx hb dX10_paddler_7 (by decide +kernel) ?_
    refine lv_icmp_gt (tgt := 58) hx hb dX10_paddler_10 (by decide) (fun c_2 => ?_) (fun c_2 => ?_)
    · have c_2 : 150 < p0.toInt := Int32.lt_iff_toInt_lt.mp c_2
      refine lv_bipush (v := (-2)) hx hb dX10_paddler_58 (by decide +kernel) ?_
      refine W.widen (k := 0) (n := 0) (Nat.le_of_ble_eq_true rfl) (Nat.le_of_ble_eq_true rfl) ?_
      exact W.iret (v := (-2)) hx hb hr (fun t ht hW => ⟨⟨(-2), (), rfl, (by first | rfl | decide | (unfold f_paddler; (repeat' split) <;> first | rfl | omega)), trivial⟩, hS.F ht⟩) hS.2.2 dX10_paddler_60
    · have c_2 : ¬ (150 < p0.toInt) := fun h => c_2 (Int32.lt_iff_toInt_lt.mpr h)
      refine lv_iload_n hx hb dX10_paddler_13 rfl (lv_at hl 2 rfl) ?_
      refine lv_iconst (v := 1) hx hb dX10_paddler_14 (by decide +kernel) ?_
      refine lv_icmp_lt (tgt := 58) hx hb dX10_paddler_15 (by decide) (fun c_3 => ?_) (fun c_3 => ?_)
      · have c_3 : p1.toInt < 1 := Int32.lt_iff_toInt_lt.mp c_3
        refine lv_bipush (v := (-2)) hx hb dX10_paddler_58 (by decide +kernel) ?_
        refine W.widen (k := 0) (n := 0) (Nat.le_of_ble_eq_true rfl) (Nat.le_of_ble_eq_true rfl) ?_
        exact W.iret (v := (-2)) hx hb hr (fun t ht hW => ⟨⟨(-2), (), rfl, (by first | rfl | decide | (unfold f_paddler; (repeat' split) <;> first | rfl | omega)), trivial⟩, hS.F ht⟩) hS.2.2 dX10_paddler_60
      · have c_3 : ¬ (p1.toInt < 1) := fun h => c_3 (Int32.lt_iff_toInt_lt.mpr h)
        refine lv_iload_n hx hb dX10_paddler_18 rfl (lv_at hl 2 rfl) ?_
        refine lv_bipush (v := 99) hx hb dX10_paddler_19 (by decide +kernel) ?_
        refine lv_icmp_gt (tgt := 58) hx hb dX10_paddler_21 (by decide) (fun c_4 => ?_) (fun c_4 => ?_)
        · have c_4 : 99 < p1.toInt := Int32.lt_iff_toInt_lt.mp c_4
          refine lv_bipush (v := (-2)) hx hb dX10_paddler_58 (by decide +kernel) ?_
          refine W.widen (k := 0) (n := 0) (Nat.le_of_ble_eq_true rfl) (Nat.le_of_ble_eq_true rfl) ?_
          exact W.iret (v := (-2)) hx hb hr (fun t ht hW => ⟨⟨(-2), (), rfl, (by first | rfl | decide | (unfold f_paddler; (repeat' split) <;> first | rfl | omega)), trivial⟩, hS.F ht⟩) hS.2.2 dX10_paddler_60
        · have c_4 : ¬ (99 < p1.toInt) := fun h => c_4 (Int32.lt_iff_toInt_lt.mpr h)
          refine lv_iload_n hx hb dX10_paddler_24 rfl (lv_at hl 3 rfl) ?_
          refine lv_if_lt (tgt := 58) hx hb dX10_paddler_25 (by decide) (fun c_5 => ?_) (fun c_5 => ?_)
          · have c_5 : p2.toInt < 0 := Int32.lt_iff_toInt_lt.mp c_5
            refine lv_bipush (v := (-2)) hx hb dX10_paddler_58 (by decide +kernel) ?_
            refine W.widen (k := 0) (n := 0) (Nat.le_of_ble_eq_true rfl) (Nat.le_of_ble_eq_true rfl) ?_
            exact W.iret (v := (-2)) hx hb hr (fun t ht hW => ⟨⟨(-2), (), rfl, (by first | rfl | decide | (unfold f_paddler; (repeat' split) <;> first | rfl | omega)), trivial⟩, hS.F ht⟩) hS.2.2 dX10_paddler_60
          · have c_5 : ¬ (p2.toInt < 0) := fun h => c_5 (Int32.lt_iff_toInt_lt.mpr h)
            refine lv_iload_n hx hb dX10_paddler_28 rfl (lv_at hl 3 rfl) ?_
            refine lv_iconst (v := 2) hx hb dX10_paddler_29 (by decide +kernel) ?_
            refine lv_icmp_gt (tgt := 58) hx hb dX10_paddler_30 (by decide) (fun c_6 => ?_) (fun c_6 => ?_)
            · have c_6 : 2 < p2.toInt := Int32.lt_iff_toInt_lt.mp c_6
              refine lv_bipush (v := (-2)) hx hb dX10_paddler_58 (by decide +kernel) ?_
              refine W.widen (k := 0) (n := 0) (Nat.le_of_ble_eq_true rfl) (Nat.le_of_ble_eq_true rfl) ?_
              exact W.iret (v := (-2)) hx hb hr (fun t ht hW => ⟨⟨(-2), (), rfl, (by first | rfl | decide | (unfold f_paddler; (repeat' split) <;> first | rfl | omega)), trivial⟩, hS.F ht⟩) hS.2.2 dX10_paddler_60
            · have c_6 : ¬ (2 < p2.toInt) := fun h => c_6 (Int32.lt_iff_toInt_lt.mpr h)
              refine lv_iload hx hb dX10_paddler_33 (lv_at hl 4 rfl) ?_
              refine lv_if_lt (tgt := 58) hx hb dX10_paddler_35 (by decide) (fun c_7 => ?_) (fun c_7 => ?_)
              · have c_7 : p3.toInt < 0 := Int32.lt_iff_toInt_lt.mp c_7
                refine lv_bipush (v := (-2)) hx hb dX10_paddler_58 (by decide +kernel) ?_
                refine W.widen (k := 0) (n := 0) (Nat.le_of_ble_eq_true rfl) (Nat.le_of_ble_eq_true rfl) ?_
                exact W.iret (v := (-2)) hx hb hr (fun t ht hW => ⟨⟨(-2), (), rfl, (by first | rfl | decide | (unfold f_paddler; (repeat' split) <;> first | rfl | omega)), trivial⟩, hS.F ht⟩) hS.2.2 dX10_paddler_60
              · have c_7 : ¬ (p3.toInt < 0) := fun h => c_7 (Int32.lt_iff_toInt_lt.mpr h)
                refine lv_iload hx hb dX10_paddler_38 (lv_at hl 4 rfl) ?_
                refine lv_iconst (v := 1) hx hb dX10_paddler_40 (by decide +kernel) ?_
                refine lv_icmp_gt (tgt := 58) hx hb dX10_paddler_41 (by decide) (fun c_8 => ?_) (fun c_8 => ?_)
                · have c_8 : 1 < p3.toInt := Int32.lt_iff_toInt_lt.mp c_8
                  refine lv_bipush (v := (-2)) hx hb dX10_paddler_58 (by decide +kernel) ?_
                  refine W.widen (k := 0) (n := 0) (Nat.le_of_ble_eq_true rfl) (Nat.le_of_ble_eq_true rfl) ?_
                  exact W.iret (v := (-2)) hx hb hr (fun t ht hW => ⟨⟨(-2), (), rfl, (by first | rfl | decide | (unfold f_paddler; (repeat' split) <;> first | rfl | omega)), trivial⟩, hS.F ht⟩) hS.2.2 dX10_paddler_60
                · have c_8 : ¬ (1 < p3.toInt) := fun h => c_8 (Int32.lt_iff_toInt_lt.mpr h)
                  refine lv_iload hx hb dX10_paddler_44 (lv_at hl 5 rfl) ?_
                  refine lv_bipush (v := 10) hx hb dX10_paddler_46 (by decide +kernel) ?_
                  refine lv_icmp_lt (tgt := 58) hx hb dX10_paddler_48 (by decide) (fun c_9 => ?_) (fun c_9 => ?_)
                  · have c_9 : p4.toInt < 10 := Int32.lt_iff_toInt_lt.mp c_9
                    refine lv_bipush (v := (-2)) hx hb dX10_paddler_58 (by decide +kernel) ?_
                    refine W.widen (k := 0) (n := 0) (Nat.le_of_ble_eq_true rfl) (Nat.le_of_ble_eq_true rfl) ?_
                    exact W.iret (v := (-2)) hx hb hr (fun t ht hW => ⟨⟨(-2), (), rfl, (by first | rfl | decide | (unfold f_paddler; (repeat' split) <;> first | rfl | omega)), trivial⟩, hS.F ht⟩) hS.2.2 dX10_paddler_60
                  · have c_9 : ¬ (p4.toInt < 10) := fun h => c_9 (Int32.lt_iff_toInt_lt.mpr h)
                    refine lv_iload hx hb dX10_paddler_51 (lv_at hl 5 rfl) ?_
                    refine lv_bipush (v := 90) hx hb dX10_paddler_53 (by decide +kernel) ?_
                    refine lv_icmp_le (tgt := 61) hx hb dX10_paddler_55 (by decide) (fun c_10 => ?_) (fun c_10 => ?_)
                    · have c_10 : p4.toInt ≤ 90 := Int32.le_iff_toInt_le.mp c_10
                      refine lv_aload_n hx hb dX10_paddler_61 rfl (lv_at hl 0 rfl) ?_
                      refine va_get (D := (dC, dI)) (ci := 10) (v := .int 0) (C := RX10) (T := TX10) (N := 48) hx hb hts (fun _ h => List.mem_cons_of_mem _ (List.mem_append_right _ h)) hown hK hP 0 rfl rfl 0 (by decide) (hts (.fieldLink RX10 125 "DrumBoatsModel" "paddlers" "I") (List.mem_of_getElem? (i := 1) rfl)) (fun _ h9 => h9) rfl dX10_paddler_62 ?_
                      refine lv_bipush (v := 40) hx hb dX10_paddler_65 (by decide +kernel) ?_
                      refine lv_icmp_ne (tgt := 73) hx hb dX10_paddler_67 (by decide) (fun _ => ?_) (fun c9 => absurd c9 (by decide +kernel))
                      refine lv_aload_n hx hb dX10_paddler_73 rfl (lv_at hl 0 rfl) ?_
                      refine va_get (D := (dC, dI)) (ci := 10) (v := .ref m_weight) (C := RX10) (T := TX10) (N := 48) hx hb hts (fun _ h => List.mem_cons_of_mem _ (List.mem_append_right _ h)) hown hK hP 0 rfl rfl 8 (by decide) (hts (.fieldLink RX10 15 "DrumBoatsModel" "weight" "[I") (List.mem_of_getElem? (i := 2) rfl)) (fun _ h9 => h9) rfl dX10_paddler_74 ?_
                      refine lv_aload_n hx hb dX10_paddler_77 rfl (lv_at hl 0 rfl) ?_
                      refine va_get (D := (dC, dI)) (ci := 10) (v := .int 0) (C := RX10) (T := TX10) (N := 48) hx hb hts (fun _ h => List.mem_cons_of_mem _ (List.mem_append_right _ h)) hown hK hP 0 rfl rfl 0 (by decide) (hts (.fieldLink RX10 125 "DrumBoatsModel" "paddlers" "I") (List.mem_of_getElem? (i := 1) rfl)) (fun _ h9 => h9) rfl dX10_paddler_78 ?_
                      refine lv_iload_n hx hb dX10_paddler_81 rfl (lv_at hl 1 rfl) ?_
                      refine va_iast hx hb hK hP hD hS 1 0 rfl rfl (by unfold vp_in; decide +kernel) dX10_paddler_82 (fun H locs hP hD hS => ?_)
                      have hP : va_P (dC, dI) vwCl [(h0, .inr (10, [.int 0, .int 0, .int 0, .int 0, .int 0, .int 10, .int 0, .int 0, .ref m_weight, .ref m_strength, .ref m_arm, .ref m_sex, .ref m_age, .ref m_likes, .ref m_rows, .ref m_drummer, .ref m_members, .ref m_beat, .ref m_member, .ref m_seated, .ref m_isSeated, .ref m_tape, .ref m_rTests, .ref m_tField, .ref m_tSign, .ref m_tNumber, .ref m_tNot, .ref m_tOr, .ref m_minute, .ref m_round, .ref m_laneCrew, .ref m_laneTime, .ref m_gone, .ref m_struck, .ref m_wasRun, .ref m_wait, .ref m_current, .ref m_finals, .ref m_bestTime, .ref m_inFinal, .ref m_pick, .ref m_found, .ref m_fresh, .ref m_at, .long 0, .long 0, .int 0, .int 0])), (m_weight, .inl (cm_weight, 40, .inl (upd (fun _ => 0) (0 : Int32).toNatClampNeg p0))), (m_strength, .inl (cm_strength, 40, .inl (fun _ => 0))), (m_arm, .inl (cm_arm, 40, .inl (fun _ => 0))), (m_sex, .inl (cm_sex, 40, .inl (fun _ => 0))), (m_age, .inl (cm_age, 40, .inl (fun _ => 0)))] H := hP
                      have hD : va_D A [(h0, .inr (10, [.int 0, .int 0, .int 0, .int 0, .int 0, .int 10, .int 0, .int 0, .ref m_weight, .ref m_strength, .ref m_arm, .ref m_sex, .ref m_age, .ref m_likes, .ref m_rows, .ref m_drummer, .ref m_members, .ref m_beat, .ref m_member, .ref m_seated, .ref m_isSeated, .ref m_tape, .ref m_rTests, .ref m_tField, .ref m_tSign, .ref m_tNumber, .ref m_tNot, .ref m_tOr, .ref m_minute, .ref m_round, .ref m_laneCrew, .ref m_laneTime, .ref m_gone, .ref m_struck, .ref m_wasRun, .ref m_wait, .ref m_current, .ref m_finals, .ref m_bestTime, .ref m_inFinal, .ref m_pick, .ref m_found, .ref m_fresh, .ref m_at, .long 0, .long 0, .int 0, .int 0])), (m_weight, .inl (cm_weight, 40, .inl (upd (fun _ => 0) (0 : Int32).toNatClampNeg p0))), (m_strength, .inl (cm_strength, 40, .inl (fun _ => 0))), (m_arm, .inl (cm_arm, 40, .inl (fun _ => 0))), (m_sex, .inl (cm_sex, 40, .inl (fun _ => 0))), (m_age, .inl (cm_age, 40, .inl (fun _ => 0)))] := hD
                      refine lv_aload_n hx hb dX10_paddler_83 rfl (lv_at hl 0 rfl) ?_
                      refine va_get (D := (dC, dI)) (ci := 10) (v := .ref m_strength) (C := RX10) (T := TX10) (N := 48) hx hb hts (fun _ h => List.mem_cons_of_mem _ (List.mem_append_right _ h)) hown hK hP 0 rfl rfl 9 (by decide) (hts (.fieldLink RX10 19 "DrumBoatsModel" "strength" "[I") (List.mem_of_getElem? (i := 3) rfl)) (fun _ h9 => h9) rfl dX10_paddler_84 ?_
                      refine lv_aload_n hx hb dX10_paddler_87 rfl (lv_at hl 0 rfl) ?_
                      refine va_get (D := (dC, dI)) (ci := 10) (v := .int 0) (C := RX10) (T := TX10) (N := 48) hx hb hts (fun _ h => List.mem_cons_of_mem _ (List.mem_append_right _ h)) hown hK hP 0 rfl rfl 0 (by decide) (hts (.fieldLink RX10 125 "DrumBoatsModel" "paddlers" "I") (List.mem_of_getElem? (i := 1) rfl)) (fun _ h9 => h9) rfl dX10_paddler_88 ?_
                      refine lv_iload_n hx hb dX10_paddler_91 rfl (lv_at hl 2 rfl) ?_
                      refine va_iast hx hb hK hP hD hS 2 1 rfl rfl (by unfold vp_in; decide +kernel) dX10_paddler_92 (fun H locs hP hD hS => ?_)
                      have hP : va_P (dC, dI) vwCl [(h0, .inr (10, [.int 0, .int 0, .int 0, .int 0, .int 0, .int 10, .int 0, .int 0, .ref m_weight, .ref m_strength, .ref m_arm, .ref m_sex, .ref m_age, .ref m_likes, .ref m_rows, .ref m_drummer, .ref m_members, .ref m_beat, .ref m_member, .ref m_seated, .ref m_isSeated, .ref m_tape, .ref m_rTests, .ref m_tField, .ref m_tSign, .ref m_tNumber, .ref m_tNot, .ref m_tOr, .ref m_minute, .ref m_round, .ref m_laneCrew, .ref m_laneTime, .ref m_gone, .ref m_struck, .ref m_wasRun, .ref m_wait, .ref m_current, .ref m_finals, .ref m_bestTime, .ref m_inFinal, .ref m_pick, .ref m_found, .ref m_fresh, .ref m_at, .long 0, .long 0, .int 0, .int 0])), (m_weight, .inl (cm_weight, 40, .inl (upd (fun _ => 0) (0 : Int32).toNatClampNeg p0))), (m_strength, .inl (cm_strength, 40, .inl (upd (fun _ => 0) (0 : Int32).toNatClampNeg p1))), (m_arm, .inl (cm_arm, 40, .inl (fun _ => 0))), (m_sex, .inl (cm_sex, 40, .inl (fun _ => 0))), (m_age, .inl (cm_age, 40, .inl (fun _ => 0)))] H := hP
                      have hD : va_D A [(h0, .inr (10, [.int 0, .int 0, .int 0, .int 0, .int 0, .int 10, .int 0, .int 0, .ref m_weight, .ref m_strength, .ref m_arm, .ref m_sex, .ref m_age, .ref m_likes, .ref m_rows, .ref m_drummer, .ref m_members, .ref m_beat, .ref m_member, .ref m_seated, .ref m_isSeated, .ref m_tape, .ref m_rTests, .ref m_tField, .ref m_tSign, .ref m_tNumber, .ref m_tNot, .ref m_tOr, .ref m_minute, .ref m_round, .ref m_laneCrew, .ref m_laneTime, .ref m_gone, .ref m_struck, .ref m_wasRun, .ref m_wait, .ref m_current, .ref m_finals, .ref m_bestTime, .ref m_inFinal, .ref m_pick, .ref m_found, .ref m_fresh, .ref m_at, .long 0, .long 0, .int 0, .int 0])), (m_weight, .inl (cm_weight, 40, .inl (upd (fun _ => 0) (0 : Int32).toNatClampNeg p0))), (m_strength, .inl (cm_strength, 40, .inl (upd (fun _ => 0) (0 : Int32).toNatClampNeg p1))), (m_arm, .inl (cm_arm, 40, .inl (fun _ => 0))), (m_sex, .inl (cm_sex, 40, .inl (fun _ => 0))), (m_age, .inl (cm_age, 40, .inl (fun _ => 0)))] := hD
                      refine lv_aload_n hx hb dX10_paddler_93 rfl (lv_at hl 0 rfl) ?_
                      refine va_get (D := (dC, dI)) (ci := 10) (v := .ref m_arm) (C := RX10) (T := TX10) (N := 48) hx hb hts (fun _ h => List.mem_cons_of_mem _ (List.mem_append_right _ h)) hown hK hP 0 rfl rfl 10 (by decide) (hts (.fieldLink RX10 22 "DrumBoatsModel" "arm" "[I") (List.mem_of_getElem? (i := 4) rfl)) (fun _ h9 => h9) rfl dX10_paddler_94 ?_
                      refine lv_aload_n hx hb dX10_paddler_97 rfl (lv_at hl 0 rfl) ?_
                      refine va_get (D := (dC, dI)) (ci := 10) (v := .int 0) (C := RX10) (T := TX10) (N := 48) hx hb hts (fun _ h => List.mem_cons_of_mem _ (List.mem_append_right _ h)) hown hK hP 0 rfl rfl 0 (by decide) (hts (.fieldLink RX10 125 "DrumBoatsModel" "paddlers" "I") (List.mem_of_getElem? (i := 1) rfl)) (fun _ h9 => h9) rfl dX10_paddler_98 ?_
                      refine lv_iload_n hx hb dX10_paddler_101 rfl (lv_at hl 3 rfl) ?_
                      refine va_iast hx hb hK hP hD hS 3 2 rfl rfl (by unfold vp_in; decide +kernel) dX10_paddler_102 (fun H locs hP hD hS => ?_)
                      have hP : va_P (dC, dI) vwCl [(h0, .inr (10, [.int 0, .int 0, .int 0, .int 0, .int 0, .int 10, .int 0, .int 0, .ref m_weight, .ref m_strength, .ref m_arm, .ref m_sex, .ref m_age, .ref m_likes, .ref m_rows, .ref m_drummer, .ref m_members, .ref m_beat, .ref m_member, .ref m_seated, .ref m_isSeated, .ref m_tape, .ref m_rTests, .ref m_tField, .ref m_tSign, .ref m_tNumber, .ref m_tNot, .ref m_tOr, .ref m_minute, .ref m_round, .ref m_laneCrew, .ref m_laneTime, .ref m_gone, .ref m_struck, .ref m_wasRun, .ref m_wait, .ref m_current, .ref m_finals, .ref m_bestTime, .ref m_inFinal, .ref m_pick, .ref m_found, .ref m_fresh, .ref m_at, .long 0, .long 0, .int 0, .int 0])), (m_weight, .inl (cm_weight, 40, .inl (upd (fun _ => 0) (0 : Int32).toNatClampNeg p0))), (m_strength, .inl (cm_strength, 40, .inl (upd (fun _ => 0) (0 : Int32).toNatClampNeg p1))), (m_arm, .inl (cm_arm, 40, .inl (upd (fun _ => 0) (0 : Int32).toNatClampNeg p2))), (m_sex, .inl (cm_sex, 40, .inl (fun _ => 0))), (m_age, .inl (cm_age, 40, .inl (fun _ => 0)))] H := hP
                      have hD : va_D A [(h0, .inr (10, [.int 0, .int 0, .int 0, .int 0, .int 0, .int 10, .int 0, .int 0, .ref m_weight, .ref m_strength, .ref m_arm, .ref m_sex, .ref m_age, .ref m_likes, .ref m_rows, .ref m_drummer, .ref m_members, .ref m_beat, .ref m_member, .ref m_seated, .ref m_isSeated, .ref m_tape, .ref m_rTests, .ref m_tField, .ref m_tSign, .ref m_tNumber, .ref m_tNot, .ref m_tOr, .ref m_minute, .ref m_round, .ref m_laneCrew, .ref m_laneTime, .ref m_gone, .ref m_struck, .ref m_wasRun, .ref m_wait, .ref m_current, .ref m_finals, .ref m_bestTime, .ref m_inFinal, .ref m_pick, .ref m_found, .ref m_fresh, .ref m_at, .long 0, .long 0, .int 0, .int 0])), (m_weight, .inl (cm_weight, 40, .inl (upd (fun _ => 0) (0 : Int32).toNatClampNeg p0))), (m_strength, .inl (cm_strength, 40, .inl (upd (fun _ => 0) (0 : Int32).toNatClampNeg p1))), (m_arm, .inl (cm_arm, 40, .inl (upd (fun _ => 0) (0 : Int32).toNatClampNeg p2))), (m_sex, .inl (cm_sex, 40, .inl (fun _ => 0))), (m_age, .inl (cm_age, 40, .inl (fun _ => 0)))] := hD
                      refine lv_aload_n hx hb dX10_paddler_103 rfl (lv_at hl 0 rfl) ?_
                      refine va_get (D := (dC, dI)) (ci := 10) (v := .ref m_sex) (C := RX10) (T := TX10) (N := 48) hx hb hts (fun _ h => List.mem_cons_of_mem _ (List.mem_append_right _ h)) hown hK hP 0 rfl rfl 11 (by decide) (hts (.fieldLink RX10 25 "DrumBoatsModel" "sex" "[I") (List.mem_of_getElem? (i := 5) rfl)) (fun _ h9 => h9) rfl dX10_paddler_104 ?_
                      refine lv_aload_n hx hb dX10_paddler_107 rfl (lv_at hl 0 rfl) ?_
                      refine va_get (D := (dC, dI)) (ci := 10) (v := .int 0) (C := RX10) (T := TX10) (N := 48) hx hb hts (fun _ h => List.mem_cons_of_mem _ (List.mem_append_right _ h)) hown hK hP 0 rfl rfl 0 (by decide) (hts (.fieldLink RX10 125 "DrumBoatsModel" "paddlers" "I") (List.mem_of_getElem? (i := 1) rfl)) (fun _ h9 => h9) rfl dX10_paddler_108 ?_
                      refine lv_iload hx hb dX10_paddler_111 (lv_at hl 4 rfl) ?_
                      refine va_iast hx hb hK hP hD hS 4 3 rfl rfl (by unfold vp_in; decide +kernel) dX10_paddler_113 (fun H locs hP hD hS => ?_)
                      have hP : va_P (dC, dI) vwCl [(h0, .inr (10, [.int 0, .int 0, .int 0, .int 0, .int 0, .int 10, .int 0, .int 0, .ref m_weight, .ref m_strength, .ref m_arm, .ref m_sex, .ref m_age, .ref m_likes, .ref m_rows, .ref m_drummer, .ref m_members, .ref m_beat, .ref m_member, .ref m_seated, .ref m_isSeated, .ref m_tape, .ref m_rTests, .ref m_tField, .ref m_tSign, .ref m_tNumber, .ref m_tNot, .ref m_tOr, .ref m_minute, .ref m_round, .ref m_laneCrew, .ref m_laneTime, .ref m_gone, .ref m_struck, .ref m_wasRun, .ref m_wait, .ref m_current, .ref m_finals, .ref m_bestTime, .ref m_inFinal, .ref m_pick, .ref m_found, .ref m_fresh, .ref m_at, .long 0, .long 0, .int 0, .int 0])), (m_weight, .inl (cm_weight, 40, .inl (upd (fun _ => 0) (0 : Int32).toNatClampNeg p0))), (m_strength, .inl (cm_strength, 40, .inl (upd (fun _ => 0) (0 : Int32).toNatClampNeg p1))), (m_arm, .inl (cm_arm, 40, .inl (upd (fun _ => 0) (0 : Int32).toNatClampNeg p2))), (m_sex, .inl (cm_sex, 40, .inl (upd (fun _ => 0) (0 : Int32).toNatClampNeg p3))), (m_age, .inl (cm_age, 40, .inl (fun _ => 0)))] H := hP
                      have hD : va_D A [(h0, .inr (10, [.int 0, .int 0, .int 0, .int 0, .int 0, .int 10, .int 0, .int 0, .ref m_weight, .ref m_strength, .ref m_arm, .ref m_sex, .ref m_age, .ref m_likes, .ref m_rows, .ref m_drummer, .ref m_members, .ref m_beat, .ref m_member, .ref m_seated, .ref m_isSeated, .ref m_tape, .ref m_rTests, .ref m_tField, .ref m_tSign, .ref m_tNumber, .ref m_tNot, .ref m_tOr, .ref m_minute, .ref m_round, .ref m_laneCrew, .ref m_laneTime, .ref m_gone, .ref m_struck, .ref m_wasRun, .ref m_wait, .ref m_current, .ref m_finals, .ref m_bestTime, .ref m_inFinal, .ref m_pick, .ref m_found, .ref m_fresh, .ref m_at, .long 0, .long 0, .int 0, .int 0])), (m_weight, .inl (cm_weight, 40, .inl (upd (fun _ => 0) (0 : Int32).toNatClampNeg p0))), (m_strength, .inl (cm_strength, 40, .inl (upd (fun _ => 0) (0 : Int32).toNatClampNeg p1))), (m_arm, .inl (cm_arm, 40, .inl (upd (fun _ => 0) (0 : Int32).toNatClampNeg p2))), (m_sex, .inl (cm_sex, 40, .inl (upd (fun _ => 0) (0 : Int32).toNatClampNeg p3))), (m_age, .inl (cm_age, 40, .inl (fun _ => 0)))] := hD
                      refine lv_aload_n hx hb dX10_paddler_114 rfl (lv_at hl 0 rfl) ?_
                      refine va_get (D := (dC, dI)) (ci := 10) (v := .ref m_age) (C := RX10) (T := TX10) (N := 48) hx hb hts (fun _ h => List.mem_cons_of_mem _ (List.mem_append_right _ h)) hown hK hP 0 rfl rfl 12 (by decide) (hts (.fieldLink RX10 28 "DrumBoatsModel" "age" "[I") (List.mem_of_getElem? (i := 6) rfl)) (fun _ h9 => h9) rfl dX10_paddler_115 ?_
                      refine lv_aload_n hx hb dX10_paddler_118 rfl (lv_at hl 0 rfl) ?_
                      refine va_get (D := (dC, dI)) (ci := 10) (v := .int 0) (C := RX10) (T := TX10) (N := 48) hx hb hts (fun _ h => List.mem_cons_of_mem _ (List.mem_append_right _ h)) hown hK hP 0 rfl rfl 0 (by decide) (hts (.fieldLink RX10 125 "DrumBoatsModel" "paddlers" "I") (List.mem_of_getElem? (i := 1) rfl)) (fun _ h9 => h9) rfl dX10_paddler_119 ?_
                      refine lv_iload hx hb dX10_paddler_122 (lv_at hl 5 rfl) ?_
                      refine va_iast hx hb hK hP hD hS 5 4 rfl rfl (by unfold vp_in; decide +kernel) dX10_paddler_124 (fun H locs hP hD hS => ?_)
                      have hP : va_P (dC, dI) vwCl [(h0, .inr (10, [.int 0, .int 0, .int 0, .int 0, .int 0, .int 10, .int 0, .int 0, .ref m_weight, .ref m_strength, .ref m_arm, .ref m_sex, .ref m_age, .ref m_likes, .ref m_rows, .ref m_drummer, .ref m_members, .ref m_beat, .ref m_member, .ref m_seated, .ref m_isSeated, .ref m_tape, .ref m_rTests, .ref m_tField, .ref m_tSign, .ref m_tNumber, .ref m_tNot, .ref m_tOr, .ref m_minute, .ref m_round, .ref m_laneCrew, .ref m_laneTime, .ref m_gone, .ref m_struck, .ref m_wasRun, .ref m_wait, .ref m_current, .ref m_finals, .ref m_bestTime, .ref m_inFinal, .ref m_pick, .ref m_found, .ref m_fresh, .ref m_at, .long 0, .long 0, .int 0, .int 0])), (m_weight, .inl (cm_weight, 40, .inl (upd (fun _ => 0) (0 : Int32).toNatClampNeg p0))), (m_strength, .inl (cm_strength, 40, .inl (upd (fun _ => 0) (0 : Int32).toNatClampNeg p1))), (m_arm, .inl (cm_arm, 40, .inl (upd (fun _ => 0) (0 : Int32).toNatClampNeg p2))), (m_sex, .inl (cm_sex, 40, .inl (upd (fun _ => 0) (0 : Int32).toNatClampNeg p3))), (m_age, .inl (cm_age, 40, .inl (upd (fun _ => 0) (0 : Int32).toNatClampNeg p4)))] H := hP
                      have hD : va_D A [(h0, .inr (10, [.int 0, .int 0, .int 0, .int 0, .int 0, .int 10, .int 0, .int 0, .ref m_weight, .ref m_strength, .ref m_arm, .ref m_sex, .ref m_age, .ref m_likes, .ref m_rows, .ref m_drummer, .ref m_members, .ref m_beat, .ref m_member, .ref m_seated, .ref m_isSeated, .ref m_tape, .ref m_rTests, .ref m_tField, .ref m_tSign, .ref m_tNumber, .ref m_tNot, .ref m_tOr, .ref m_minute, .ref m_round, .ref m_laneCrew, .ref m_laneTime, .ref m_gone, .ref m_struck, .ref m_wasRun, .ref m_wait, .ref m_current, .ref m_finals, .ref m_bestTime, .ref m_inFinal, .ref m_pick, .ref m_found, .ref m_fresh, .ref m_at, .long 0, .long 0, .int 0, .int 0])), (m_weight, .inl (cm_weight, 40, .inl (upd (fun _ => 0) (0 : Int32).toNatClampNeg p0))), (m_strength, .inl (cm_strength, 40, .inl (upd (fun _ => 0) (0 : Int32).toNatClampNeg p1))), (m_arm, .inl (cm_arm, 40, .inl (upd (fun _ => 0) (0 : Int32).toNatClampNeg p2))), (m_sex, .inl (cm_sex, 40, .inl (upd (fun _ => 0) (0 : Int32).toNatClampNeg p3))), (m_age, .inl (cm_age, 40, .inl (upd (fun _ => 0) (0 : Int32).toNatClampNeg p4)))] := hD
                      refine lv_aload_n hx hb dX10_paddler_125 rfl (lv_at hl 0 rfl) ?_
                      refine lv_dup hx hb dX10_paddler_126 rfl ?_
                      refine va_get (D := (dC, dI)) (ci := 10) (v := .int 0) (C := RX10) (T := TX10) (N := 48) hx hb hts (fun _ h => List.mem_cons_of_mem _ (List.mem_append_right _ h)) hown hK hP 0 rfl rfl 0 (by decide) (hts (.fieldLink RX10 125 "DrumBoatsModel" "paddlers" "I") (List.mem_of_getElem? (i := 1) rfl)) (fun _ h9 => h9) rfl dX10_paddler_127 ?_
                      refine lv_dup_x1 hx hb dX10_paddler_130 rfl rfl ?_
                      refine lv_iconst (v := 1) hx hb dX10_paddler_131 (by decide +kernel) ?_
                      refine lv_iadd hx hb dX10_paddler_132 ?_
                      refine ti_eq (y := 1) (by decide +kernel) ?_
                      refine va_put (D := (dC, dI)) (ci := 10) (v := .int 1) (ty := .int) (C := RX10) (T := TX10) (N := 48) hx hb hts (fun _ h => List.mem_cons_of_mem _ (List.mem_append_right _ h)) tyX10 tyX10_ok nmX10 hown hK hP hD hS 0 rfl rfl 0 (by decide) (hts (.fieldLink RX10 125 "DrumBoatsModel" "paddlers" "I") (List.mem_of_getElem? (i := 1) rfl)) (fun _ h9 => h9) rfl (by decide +kernel) rfl rfl (Nat.le_of_ble_eq_true rfl) dX10_paddler_133 (fun H locs hP hD hS => ?_)
                      have hP : va_P (dC, dI) vwCl [(h0, .inr (10, [.int 1, .int 0, .int 0, .int 0, .int 0, .int 10, .int 0, .int 0, .ref m_weight, .ref m_strength, .ref m_arm, .ref m_sex, .ref m_age, .ref m_likes, .ref m_rows, .ref m_drummer, .ref m_members, .ref m_beat, .ref m_member, .ref m_seated, .ref m_isSeated, .ref m_tape, .ref m_rTests, .ref m_tField, .ref m_tSign, .ref m_tNumber, .ref m_tNot, .ref m_tOr, .ref m_minute, .ref m_round, .ref m_laneCrew, .ref m_laneTime, .ref m_gone, .ref m_struck, .ref m_wasRun, .ref m_wait, .ref m_current, .ref m_finals, .ref m_bestTime, .ref m_inFinal, .ref m_pick, .ref m_found, .ref m_fresh, .ref m_at, .long 0, .long 0, .int 0, .int 0])), (m_weight, .inl (cm_weight, 40, .inl (upd (fun _ => 0) (0 : Int32).toNatClampNeg p0))), (m_strength, .inl (cm_strength, 40, .inl (upd (fun _ => 0) (0 : Int32).toNatClampNeg p1))), (m_arm, .inl (cm_arm, 40, .inl (upd (fun _ => 0) (0 : Int32).toNatClampNeg p2))), (m_sex, .inl (cm_sex, 40, .inl (upd (fun _ => 0) (0 : Int32).toNatClampNeg p3))), (m_age, .inl (cm_age, 40, .inl (upd (fun _ => 0) (0 : Int32).toNatClampNeg p4)))] H := hP
                      have hD : va_D A [(h0, .inr (10, [.int 1, .int 0, .int 0, .int 0, .int 0, .int 10, .int 0, .int 0, .ref m_weight, .ref m_strength, .ref m_arm, .ref m_sex, .ref m_age, .ref m_likes, .ref m_rows, .ref m_drummer, .ref m_members, .ref m_beat, .ref m_member, .ref m_seated, .ref m_isSeated, .ref m_tape, .ref m_rTests, .ref m_tField, .ref m_tSign, .ref m_tNumber, .ref m_tNot, .ref m_tOr, .ref m_minute, .ref m_round, .ref m_laneCrew, .ref m_laneTime, .ref m_gone, .ref m_struck, .ref m_wasRun, .ref m_wait, .ref m_current, .ref m_finals, .ref m_bestTime, .ref m_inFinal, .ref m_pick, .ref m_found, .ref m_fresh, .ref m_at, .long 0, .long 0, .int 0, .int 0])), (m_weight, .inl (cm_weight, 40, .inl (upd (fun _ => 0) (0 : Int32).toNatClampNeg p0))), (m_strength, .inl (cm_strength, 40, .inl (upd (fun _ => 0) (0 : Int32).toNatClampNeg p1))), (m_arm, .inl (cm_arm, 40, .inl (upd (fun _ => 0) (0 : Int32).toNatClampNeg p2))), (m_sex, .inl (cm_sex, 40, .inl (upd (fun _ => 0) (0 : Int32).toNatClampNeg p3))), (m_age, .inl (cm_age, 40, .inl (upd (fun _ => 0) (0 : Int32).toNatClampNeg p4)))] := hD
                      refine W.widen (k := 0) (n := 0) (Nat.le_of_ble_eq_true rfl) (Nat.le_of_ble_eq_true rfl) ?_
                      exact W.iret (v := 0) hx hb hr (fun t ht hW => ⟨⟨0, (), rfl, (by first | rfl | decide | (unfold f_paddler; (repeat' split) <;> first | rfl | omega)), trivial⟩, hS.F ht⟩) hS.2.2 dX10_paddler_136
                    · have c_10 : ¬ (p4.toInt ≤ 90) := fun h => c_10 (Int32.le_iff_toInt_le.mpr h)
                      refine lv_bipush (v := (-2)) hx hb dX10_paddler_58 (by decide +kernel) ?_
                      refine W.widen (k := 0) (n := 0) (Nat.le_of_ble_eq_true rfl) (Nat.le_of_ble_eq_true rfl) ?_
                      exact W.iret (v := (-2)) hx hb hr (fun t ht hW => ⟨⟨(-2), (), rfl, (by first | rfl | decide | (unfold f_paddler; (repeat' split) <;> first | rfl | omega)), trivial⟩, hS.F ht⟩) hS.2.2 dX10_paddler_60

set_option maxHeartbeats 4000000 in
set_option maxRecDepth 100000 in
theorem k_X10_like (l : Launch) (dC : Nat → ClassId) (dI : Nat → Nat → Nat) (sz : Nat) (h0 : Nat) (p0 : Int32) (p1 : Int32) (p2 : Int32) (m_weight : Nat) (m_strength : Nat) (m_arm : Nat) (m_sex : Nat) (m_age : Nat) (m_likes : Nat) (m_rows : Nat) (m_drummer : Nat) (m_members : Nat) (m_beat : Nat) (m_member : Nat) (m_seated : Nat) (m_isSeated : Nat) (m_tape : Nat) (m_rTests : Nat) (m_tField : Nat) (m_tSign : Nat) (m_tNumber : Nat) (m_tNot : Nat) (m_tOr : Nat) (m_minute : Nat) (m_round : Nat) (m_laneCrew : Nat) (m_laneTime : Nat) (m_gone : Nat) (m_struck : Nat) (m_wasRun : Nat) (m_wait : Nat) (m_current : Nat) (m_finals : Nat) (m_bestTime : Nat) (m_inFinal : Nat) (m_pick : Nat) (m_found : Nat) (m_fresh : Nat) (m_at : Nat) : Met l yX10_like wsX10_like ({ frames := 1, cells := 0, slots := 0, locals := 21 }) (va_Pc [.ref h0, .int p0, .int p1, .int p2] (fun U => U.heap.size = sz ∧ va_P (dC, dI) vwCl [(h0, .inr (10, [.int 0, .int 0, .int 0, .int 0, .int 0, .int 10, .int 0, .int 0, .ref m_weight, .ref m_strength, .ref m_arm, .ref m_sex, .ref m_age, .ref m_likes, .ref m_rows, .ref m_drummer, .ref m_members, .ref m_beat, .ref m_member, .ref m_seated, .ref m_isSeated, .ref m_tape, .ref m_rTests, .ref m_tField, .ref m_tSign, .ref m_tNumber, .ref m_tNot, .ref m_tOr, .ref m_minute, .ref m_round, .ref m_laneCrew, .ref m_laneTime, .ref m_gone, .ref m_struck, .ref m_wasRun, .ref m_wait, .ref m_current, .ref m_finals, .ref m_bestTime, .ref m_inFinal, .ref m_pick, .ref m_found, .ref m_fresh, .ref m_at, .long 0, .long 0, .int 0, .int 0]))] U.heap ∧ va_K (dC, dI) vwCl [] U)) (va_Qi (fun (r : Int32) (_ : Unit) => r = (-1)) (fun _ _ => True) (va_A ([] : va_W) sz)) 0 0 (va_A ([] : va_W) sz) := by
  refine Met.ofW (cc := cX10_like) (maxL := 5) (ret := (some .int)) (by decide) rfl ?_
  intro p e s m args below meth c s₁ B hml hv
  obtain ⟨rfl, hsz, hP, hK⟩ := hv
  have hx := B.exec
  have hb := B.bytes
  have hr := B.returns
  have hts := atoms_spec (ws := wsX10_like) B.pre
  have hown : s.vm.findClass RX10 = some m.cls := findClass_of_methodNamed B.named
  have hlocks := B.notSynchronized
  subst hsz
  generalize hAe : va_A ([] : va_W) s.heap.size = A
  have hA : ∀ q : Nat, s.heap.size ≤ q → A q := fun q h => by rw [← hAe]; exact Or.inr h
  have hS : va_S A s.heap s.heap [] := va_S.rf
  have hl := lv_entry ([.ref h0, .int p0, .int p1, .int p2]) (n := 5) (Nat.le_of_ble_eq_true rfl)
  rw [lg_entry_eq]
  generalize (lg_sl ([.ref h0, .int p0, .int p1, .int p2]) ++ List.replicate (5 - (lg_sl ([.ref h0, .int p0, .int p1, .int p2])).length) Slot.unset).toArray = ls at hl ⊢
  have hl : lv_has ls 5 [(0, .ref h0), (1, .int p0), (2, .int p1), (3, .int p2)] := hl
  refine lv_aload_n hx hb dX10_like_0 rfl (lv_at hl 0 rfl) ?_
  refine lv_iload_n hx hb dX10_like_1 rfl (lv_at hl 1 rfl) ?_
  have hPc := hP.sub (ws' := [(h0, .inr (10, [.int 0, .int 0, .int 0, .int 0, .int 0, .int 10, .int 0, .int 0, .ref m_weight, .ref m_strength, .ref m_arm, .ref m_sex, .ref m_age, .ref m_likes, .ref m_rows, .ref m_drummer, .ref m_members, .ref m_beat, .ref m_member, .ref m_seated, .ref m_isSeated, .ref m_tape, .ref m_rTests, .ref m_tField, .ref m_tSign, .ref m_tNumber, .ref m_tNot, .ref m_tOr, .ref m_minute, .ref m_round, .ref m_laneCrew, .ref m_laneTime, .ref m_gone, .ref m_struck, .ref m_wasRun, .ref m_wait, .ref m_current, .ref m_finals, .ref m_bestTime, .ref m_inFinal, .ref m_pick, .ref m_found, .ref m_fresh, .ref m_at, .long 0, .long 0, .int 0, .int 0]))]) [0] rfl
  have hKc := hK.sub (tys' := []) [] rfl
  have hFc := ro_free hS hA
  refine va_calli (va_runV (As := [.int p0]) (rest := []) ⟨hx, hb, hml, hown, hts⟩ (k_X10_isPaddler l dC dI s.heap.size h0 p0 m_weight m_strength m_arm m_sex m_age m_likes m_rows m_drummer m_members m_beat m_member m_seated m_isSeated m_tape m_rTests m_tField m_tSign m_tNumber m_tNot m_tOr m_minute m_round m_laneCrew m_laneTime m_gone m_struck m_wasRun m_wait m_current m_finals m_bestTime m_inFinal m_pick m_found m_fresh m_at) (cwV 1 hts gX10_like_X10_isPaddler rfl rfl rfl (by decide +kernel) ⟨(Nat.le_of_ble_eq_true rfl), (Nat.le_of_ble_eq_true rfl)⟩) ⟨fun a U g mk q => by obtain ⟨q0, q1, qP, qK⟩ := q; exact ⟨q0, q1, qP, va_K.moved (u := U) (U := U.calling g mk a) (Vm.Alike.refl U.vm) qK⟩, va_recv hKc hPc (ci := 10) (q0 := 0) rfl rfl, fun U hU hW => ⟨rfl, by rw [hU], by rw [hU]; exact hPc, va_K.moved hW.alike hKc⟩⟩ rfl rfl hl.1 rfl (lv_room (Nat.le_of_ble_eq_true rfl)) dX10_like_2 ⟨(Nat.le_of_ble_eq_true rfl), (Nat.le_of_ble_eq_true rfl)⟩) hS (fun q _ h => hFc q h) hFc (fun r u t H1 locs ht hvm hw hB hz1 hk1 hS => ?_)
  refine W.widen (k := 0) (n := 0) (Nat.le_of_ble_eq_true rfl) (Nat.le_of_ble_eq_true rfl) ?_
  have hP := P_ro hP hk1
  generalize H1 = H at hP hS ⊢
  subst hw
  refine lv_if_eq (tgt := 16) hx hb dX10_like_5 (by decide) (fun _ => ?_) (fun c9 => absurd c9 (by decide +kernel))
  refine lv_iconst (v := (-1)) hx hb dX10_like_16 (by decide +kernel) ?_
  refine W.widen (k := 0) (n := 0) (Nat.le_of_ble_eq_true rfl) (Nat.le_of_ble_eq_true rfl) ?_
  exact W.iret (v := (-1)) hx hb hr (fun t ht hW => ⟨⟨(-1), (), rfl, (by first | rfl | (exfalso; omega)), trivial⟩, hS.F ht⟩) hS.2.2 dX10_like_17

set_option maxHeartbeats 4000000 in
set_option maxRecDepth 100000 in
theorem k_X10_crew (l : Launch) (dC : Nat → ClassId) (dI : Nat → Nat → Nat) (sz : Nat) (h0 : Nat) (p0 : Int32) (p1 : Int32) (m_weight : Nat) (m_strength : Nat) (m_arm : Nat) (m_sex : Nat) (m_age : Nat) (m_likes : Nat) (m_rows : Nat) (m_drummer : Nat) (m_members : Nat) (m_beat : Nat) (m_member : Nat) (m_seated : Nat) (m_isSeated : Nat) (m_tape : Nat) (m_rTests : Nat) (m_tField : Nat) (m_tSign : Nat) (m_tNumber : Nat) (m_tNot : Nat) (m_tOr : Nat) (m_minute : Nat) (m_round : Nat) (m_laneCrew : Nat) (m_laneTime : Nat) (m_gone : Nat) (m_struck : Nat) (m_wasRun : Nat) (m_wait : Nat) (m_current : Nat) (m_finals : Nat) (m_bestTime : Nat) (m_inFinal : Nat) (m_pick : Nat) (m_found : Nat) (m_fresh : Nat) (m_at : Nat) (cm_rows : ClassId) (cm_drummer : ClassId) (cm_beat : ClassId) : Met l yX10_crew wsX10_crew ({ frames := 0, cells := 0, slots := 0, locals := 0 }) (va_Pc [.ref h0, .int p0, .int p1] (fun U => U.heap.size = sz ∧ va_P (dC, dI) vwCl [(h0, .inr (10, [.int 0, .int 0, .int 0, .int 0, .int 0, .int 10, .int 0, .int 0, .ref m_weight, .ref m_strength, .ref m_arm, .ref m_sex, .ref m_age, .ref m_likes, .ref m_rows, .ref m_drummer, .ref m_members, .ref m_beat, .ref m_member, .ref m_seated, .ref m_isSeated, .ref m_tape, .ref m_rTests, .ref m_tField, .ref m_tSign, .ref m_tNumber, .ref m_tNot, .ref m_tOr, .ref m_minute, .ref m_round, .ref m_laneCrew, .ref m_laneTime, .ref m_gone, .ref m_struck, .ref m_wasRun, .ref m_wait, .ref m_current, .ref m_finals, .ref m_bestTime, .ref m_inFinal, .ref m_pick, .ref m_found, .ref m_fresh, .ref m_at, .long 0, .long 0, .int 0, .int 0])), (m_rows, .inl (cm_rows, 6, .inl (fun _ => 0))), (m_drummer, .inl (cm_drummer, 6, .inl (fun _ => 0))), (m_beat, .inl (cm_beat, 6, .inl (fun _ => 0)))] U.heap ∧ va_K (dC, dI) vwCl [(cm_rows, .int), (cm_drummer, .int), (cm_beat, .int)] U ∧ va_D (fun _ => True) [(h0, .inr (10, [.int 0, .int 0, .int 0, .int 0, .int 0, .int 10, .int 0, .int 0, .ref m_weight, .ref m_strength, .ref m_arm, .ref m_sex, .ref m_age, .ref m_likes, .ref m_rows, .ref m_drummer, .ref m_members, .ref m_beat, .ref m_member, .ref m_seated, .ref m_isSeated, .ref m_tape, .ref m_rTests, .ref m_tField, .ref m_tSign, .ref m_tNumber, .ref m_tNot, .ref m_tOr, .ref m_minute, .ref m_round, .ref m_laneCrew, .ref m_laneTime, .ref m_gone, .ref m_struck, .ref m_wasRun, .ref m_wait, .ref m_current, .ref m_finals, .ref m_bestTime, .ref m_inFinal, .ref m_pick, .ref m_found, .ref m_fresh, .ref m_at, .long 0, .long 0, .int 0, .int 0])), (m_rows, .inl (cm_rows, 6, .inl (fun _ => 0))), (m_drummer, .inl (cm_drummer, 6, .inl (fun _ => 0))), (m_beat, .inl (cm_beat, 6, .inl (fun _ => 0)))])) (va_Qi (fun (r : Int32) (_ : Unit) => r = f_crew p0 p1) (fun _ _ => True) (va_A [(h0, .inr (10, [.int 0, .int 0, .int 0, .int 0, .int 0, .int 10, .int 0, .int 0, .ref m_weight, .ref m_strength, .ref m_arm, .ref m_sex, .ref m_age, .ref m_likes, .ref m_rows, .ref m_drummer, .ref m_members, .ref m_beat, .ref m_member, .ref m_seated, .ref m_isSeated, .ref m_tape, .ref m_rTests, .ref m_tField, .ref m_tSign, .ref m_tNumber, .ref m_tNot, .ref m_tOr, .ref m_minute, .ref m_round, .ref m_laneCrew, .ref m_laneTime, .ref m_gone, .ref m_struck, .ref m_wasRun, .ref m_wait, .ref m_current, .ref m_finals, .ref m_bestTime, .ref m_inFinal, .ref m_pick, .ref m_found, .ref m_fresh, .ref m_at, .long 0, .long 0, .int 0, .int 0])), (m_rows, .inl (cm_rows, 6, .inl (fun _ => 0))), (m_drummer, .inl (cm_drummer, 6, .inl (fun _ => 0))), (m_beat, .inl (cm_beat, 6, .inl (fun _ => 0)))] sz)) 0 0 (va_A [(h0, .inr (10, [.int 0, .int 0, .int 0, .int 0, .int 0, .int 10, .int 0, .int 0, .ref m_weight, .ref m_strength, .ref m_arm, .ref m_sex, .ref m_age, .ref m_likes, .ref m_rows, .ref m_drummer, .ref m_members, .ref m_beat, .ref m_member, .ref m_seated, .ref m_isSeated, .ref m_tape, .ref m_rTests, .ref m_tField, .ref m_tSign, .ref m_tNumber, .ref m_tNot, .ref m_tOr, .ref m_minute, .ref m_round, .ref m_laneCrew, .ref m_laneTime, .ref m_gone, .ref m_struck, .ref m_wasRun, .ref m_wait, .ref m_current, .ref m_finals, .ref m_bestTime, .ref m_inFinal, .ref m_pick, .ref m_found, .ref m_fresh, .ref m_at, .long 0, .long 0, .int 0, .int 0])), (m_rows, .inl (cm_rows, 6, .inl (fun _ => 0))), (m_drummer, .inl (cm_drummer, 6, .inl (fun _ => 0))), (m_beat, .inl (cm_beat, 6, .inl (fun _ => 0)))] sz) := by
  refine Met.ofW (cc := cX10_crew) (maxL := 3) (ret := (some .int)) (by decide) rfl ?_
  intro p e s m args below meth c s₁ B hml hv
  obtain ⟨rfl, hsz, hP, hK, hD0⟩ := hv
  have hx := B.exec
  have hb := B.bytes
  have hr := B.returns
  have hts := atoms_spec (ws := wsX10_crew) B.pre
  have hown : s.vm.findClass RX10 = some m.cls := findClass_of_methodNamed B.named
  have hlocks := B.notSynchronized
  subst hsz
  have hD := hD0.self (sz := s.heap.size)
  generalize hAe : va_A [(h0, .inr (10, [.int 0, .int 0, .int 0, .int 0, .int 0, .int 10, .int 0, .int 0, .ref m_weight, .ref m_strength, .ref m_arm, .ref m_sex, .ref m_age, .ref m_likes, .ref m_rows, .ref m_drummer, .ref m_members, .ref m_beat, .ref m_member, .ref m_seated, .ref m_isSeated, .ref m_tape, .ref m_rTests, .ref m_tField, .ref m_tSign, .ref m_tNumber, .ref m_tNot, .ref m_tOr, .ref m_minute, .ref m_round, .ref m_laneCrew, .ref m_laneTime, .ref m_gone, .ref m_struck, .ref m_wasRun, .ref m_wait, .ref m_current, .ref m_finals, .ref m_bestTime, .ref m_inFinal, .ref m_pick, .ref m_found, .ref m_fresh, .ref m_at, .long 0, .long 0, .int 0, .int 0])), (m_rows, .inl (cm_rows, 6, .inl (fun _ => 0))), (m_drummer, .inl (cm_drummer, 6, .inl (fun _ => 0))), (m_beat, .inl (cm_beat, 6, .inl (fun _ => 0)))] s.heap.size = A at hD ⊢
  have hA : ∀ q : Nat, s.heap.size ≤ q → A q := fun q h => by rw [← hAe]; exact Or.inr h
  have hS : va_S A s.heap s.heap [] := va_S.rf
  have hl := lv_entry ([.ref h0, .int p0, .int p1]) (n := 3) (Nat.le_of_ble_eq_true rfl)
  rw [lg_entry_eq]
  generalize (lg_sl ([.ref h0, .int p0, .int p1]) ++ List.replicate (3 - (lg_sl ([.ref h0, .int p0, .int p1])).length) Slot.unset).toArray = ls at hl ⊢
  have hl : lv_has ls 3 [(0, .ref h0), (1, .int p0), (2, .int p1)] := hl
  refine lv_iload_n hx hb dX10_crew_0 rfl (lv_at hl 1 rfl) ?_
  refine lv_iconst (v := 2) hx hb dX10_crew_1 (by decide +kernel) ?_
  refine lv_icmp_lt (tgt := 21) hx hb dX10_crew_2 (by decide) (fun c_1 => ?_) (fun c_1 => ?_)
  · have c_1 : p0.toInt < 2 := Int32.lt_iff_toInt_lt.mp c_1
    refine lv_bipush (v := (-2)) hx hb dX10_crew_21 (by decide +kernel) ?_
    refine W.widen (k := 0) (n := 0) (Nat.le_of_ble_eq_true rfl) (Nat.le_of_ble_eq_true rfl) ?_
    exact W.iret (v := (-2)) hx hb hr (fun t ht hW => ⟨⟨(-2), (), rfl, (by first | rfl | decide | (unfold f_crew; (repeat' split) <;> first | rfl | omega)), trivial⟩, hS.F ht⟩) hS.2.2 dX10_crew_23
  · have c_1 : ¬ (p0.toInt < 2) := fun h => c_1 (Int32.lt_iff_toInt_lt.mpr h)
    refine lv_iload_n hx hb dX10_crew_5 rfl (lv_at hl 1 rfl) ?_
    refine lv_iconst (v := 4) hx hb dX10_crew_6 (by decide +kernel) ?_
    refine lv_icmp_gt (tgt := 21) hx hb dX10_crew_7 (by decide) (fun c_2 => ?_) (fun c_2 => ?_)
    · have c_2 : 4 < p0.toInt := Int32.lt_iff_toInt_lt.mp c_2
      refine lv_bipush (v := (-2)) hx hb dX10_crew_21 (by decide +kernel) ?_
      refine W.widen (k := 0) (n := 0) (Nat.le_of_ble_eq_true rfl) (Nat.le_of_ble_eq_true rfl) ?_
      exact W.iret (v := (-2)) hx hb hr (fun t ht hW => ⟨⟨(-2), (), rfl, (by first | rfl | decide | (unfold f_crew; (repeat' split) <;> first | rfl | omega)), trivial⟩, hS.F ht⟩) hS.2.2 dX10_crew_23
    · have c_2 : ¬ (4 < p0.toInt) := fun h => c_2 (Int32.lt_iff_toInt_lt.mpr h)
      refine lv_iload_n hx hb dX10_crew_10 rfl (lv_at hl 2 rfl) ?_
      refine lv_if_lt (tgt := 21) hx hb dX10_crew_11 (by decide) (fun c_3 => ?_) (fun c_3 => ?_)
      · have c_3 : p1.toInt < 0 := Int32.lt_iff_toInt_lt.mp c_3
        refine lv_bipush (v := (-2)) hx hb dX10_crew_21 (by decide +kernel) ?_
        refine W.widen (k := 0) (n := 0) (Nat.le_of_ble_eq_true rfl) (Nat.le_of_ble_eq_true rfl) ?_
        exact W.iret (v := (-2)) hx hb hr (fun t ht hW => ⟨⟨(-2), (), rfl, (by first | rfl | decide | (unfold f_crew; (repeat' split) <;> first | rfl | omega)), trivial⟩, hS.F ht⟩) hS.2.2 dX10_crew_23
      · have c_3 : ¬ (p1.toInt < 0) := fun h => c_3 (Int32.lt_iff_toInt_lt.mpr h)
        refine lv_iload_n hx hb dX10_crew_14 rfl (lv_at hl 2 rfl) ?_
        refine lv_sipush (v := 150) hx hb dX10_crew_15 (by decide +kernel) ?_
        refine lv_icmp_le (tgt := 24) hx hb dX10_crew_18 (by decide) (fun c_4 => ?_) (fun c_4 => ?_)
        · have c_4 : p1.toInt ≤ 150 := Int32.le_iff_toInt_le.mp c_4
          refine lv_aload_n hx hb dX10_crew_24 rfl (lv_at hl 0 rfl) ?_
          refine va_get (D := (dC, dI)) (ci := 10) (v := .int 0) (C := RX10) (T := TX10) (N := 48) hx hb hts (fun _ h => List.mem_cons_of_mem _ (List.mem_append_right _ h)) hown hK hP 0 rfl rfl 1 (by decide) (hts (.fieldLink RX10 128 "DrumBoatsModel" "crews" "I") (List.mem_of_getElem? (i := 1) rfl)) (fun _ h9 => h9) rfl dX10_crew_25 ?_
          refine lv_bipush (v := 6) hx hb dX10_crew_28 (by decide +kernel) ?_
          refine lv_icmp_ne (tgt := 36) hx hb dX10_crew_30 (by decide) (fun _ => ?_) (fun c9 => absurd c9 (by decide +kernel))
          refine lv_aload_n hx hb dX10_crew_36 rfl (lv_at hl 0 rfl) ?_
          refine va_get (D := (dC, dI)) (ci := 10) (v := .ref m_rows) (C := RX10) (T := TX10) (N := 48) hx hb hts (fun _ h => List.mem_cons_of_mem _ (List.mem_append_right _ h)) hown hK hP 0 rfl rfl 14 (by decide) (hts (.fieldLink RX10 35 "DrumBoatsModel" "rows" "[I") (List.mem_of_getElem? (i := 2) rfl)) (fun _ h9 => h9) rfl dX10_crew_37 ?_
          refine lv_aload_n hx hb dX10_crew_40 rfl (lv_at hl 0 rfl) ?_
          refine va_get (D := (dC, dI)) (ci := 10) (v := .int 0) (C := RX10) (T := TX10) (N := 48) hx hb hts (fun _ h => List.mem_cons_of_mem _ (List.mem_append_right _ h)) hown hK hP 0 rfl rfl 1 (by decide) (hts (.fieldLink RX10 128 "DrumBoatsModel" "crews" "I") (List.mem_of_getElem? (i := 1) rfl)) (fun _ h9 => h9) rfl dX10_crew_41 ?_
          refine lv_iload_n hx hb dX10_crew_44 rfl (lv_at hl 1 rfl) ?_
          refine va_iast hx hb hK hP hD hS 1 0 rfl rfl (by unfold vp_in; decide +kernel) dX10_crew_45 (fun H locs hP hD hS => ?_)
          have hP : va_P (dC, dI) vwCl [(h0, .inr (10, [.int 0, .int 0, .int 0, .int 0, .int 0, .int 10, .int 0, .int 0, .ref m_weight, .ref m_strength, .ref m_arm, .ref m_sex, .ref m_age, .ref m_likes, .ref m_rows, .ref m_drummer, .ref m_members, .ref m_beat, .ref m_member, .ref m_seated, .ref m_isSeated, .ref m_tape, .ref m_rTests, .ref m_tField, .ref m_tSign, .ref m_tNumber, .ref m_tNot, .ref m_tOr, .ref m_minute, .ref m_round, .ref m_laneCrew, .ref m_laneTime, .ref m_gone, .ref m_struck, .ref m_wasRun, .ref m_wait, .ref m_current, .ref m_finals, .ref m_bestTime, .ref m_inFinal, .ref m_pick, .ref m_found, .ref m_fresh, .ref m_at, .long 0, .long 0, .int 0, .int 0])), (m_rows, .inl (cm_rows, 6, .inl (upd (fun _ => 0) (0 : Int32).toNatClampNeg p0))), (m_drummer, .inl (cm_drummer, 6, .inl (fun _ => 0))), (m_beat, .inl (cm_beat, 6, .inl (fun _ => 0)))] H := hP
          have hD : va_D A [(h0, .inr (10, [.int 0, .int 0, .int 0, .int 0, .int 0, .int 10, .int 0, .int 0, .ref m_weight, .ref m_strength, .ref m_arm, .ref m_sex, .ref m_age, .ref m_likes, .ref m_rows, .ref m_drummer, .ref m_members, .ref m_beat, .ref m_member, .ref m_seated, .ref m_isSeated, .ref m_tape, .ref m_rTests, .ref m_tField, .ref m_tSign, .ref m_tNumber, .ref m_tNot, .ref m_tOr, .ref m_minute, .ref m_round, .ref m_laneCrew, .ref m_laneTime, .ref m_gone, .ref m_struck, .ref m_wasRun, .ref m_wait, .ref m_current, .ref m_finals, .ref m_bestTime, .ref m_inFinal, .ref m_pick, .ref m_found, .ref m_fresh, .ref m_at, .long 0, .long 0, .int 0, .int 0])), (m_rows, .inl (cm_rows, 6, .inl (upd (fun _ => 0) (0 : Int32).toNatClampNeg p0))), (m_drummer, .inl (cm_drummer, 6, .inl (fun _ => 0))), (m_beat, .inl (cm_beat, 6, .inl (fun _ => 0)))] := hD
          refine lv_aload_n hx hb dX10_crew_46 rfl (lv_at hl 0 rfl) ?_
          refine va_get (D := (dC, dI)) (ci := 10) (v := .ref m_drummer) (C := RX10) (T := TX10) (N := 48) hx hb hts (fun _ h => List.mem_cons_of_mem _ (List.mem_append_right _ h)) hown hK hP 0 rfl rfl 15 (by decide) (hts (.fieldLink RX10 38 "DrumBoatsModel" "drummer" "[I") (List.mem_of_getElem? (i := 3) rfl)) (fun _ h9 => h9) rfl dX10_crew_47 ?_
          refine lv_aload_n hx hb dX10_crew_50 rfl (lv_at hl 0 rfl) ?_
          refine va_get (D := (dC, dI)) (ci := 10) (v := .int 0) (C := RX10) (T := TX10) (N := 48) hx hb hts (fun _ h => List.mem_cons_of_mem _ (List.mem_append_right _ h)) hown hK hP 0 rfl rfl 1 (by decide) (hts (.fieldLink RX10 128 "DrumBoatsModel" "crews" "I") (List.mem_of_getElem? (i := 1) rfl)) (fun _ h9 => h9) rfl dX10_crew_51 ?_
          refine lv_iload_n hx hb dX10_crew_54 rfl (lv_at hl 2 rfl) ?_
          refine va_iast hx hb hK hP hD hS 2 1 rfl rfl (by unfold vp_in; decide +kernel) dX10_crew_55 (fun H locs hP hD hS => ?_)
          have hP : va_P (dC, dI) vwCl [(h0, .inr (10, [.int 0, .int 0, .int 0, .int 0, .int 0, .int 10, .int 0, .int 0, .ref m_weight, .ref m_strength, .ref m_arm, .ref m_sex, .ref m_age, .ref m_likes, .ref m_rows, .ref m_drummer, .ref m_members, .ref m_beat, .ref m_member, .ref m_seated, .ref m_isSeated, .ref m_tape, .ref m_rTests, .ref m_tField, .ref m_tSign, .ref m_tNumber, .ref m_tNot, .ref m_tOr, .ref m_minute, .ref m_round, .ref m_laneCrew, .ref m_laneTime, .ref m_gone, .ref m_struck, .ref m_wasRun, .ref m_wait, .ref m_current, .ref m_finals, .ref m_bestTime, .ref m_inFinal, .ref m_pick, .ref m_found, .ref m_fresh, .ref m_at, .long 0, .long 0, .int 0, .int 0])), (m_rows, .inl (cm_rows, 6, .inl (upd (fun _ => 0) (0 : Int32).toNatClampNeg p0))), (m_drummer, .inl (cm_drummer, 6, .inl (upd (fun _ => 0) (0 : Int32).toNatClampNeg p1))), (m_beat, .inl (cm_beat, 6, .inl (fun _ => 0)))] H := hP
          have hD : va_D A [(h0, .inr (10, [.int 0, .int 0, .int 0, .int 0, .int 0, .int 10, .int 0, .int 0, .ref m_weight, .ref m_strength, .ref m_arm, .ref m_sex, .ref m_age, .ref m_likes, .ref m_rows, .ref m_drummer, .ref m_members, .ref m_beat, .ref m_member, .ref m_seated, .ref m_isSeated, .ref m_tape, .ref m_rTests, .ref m_tField, .ref m_tSign, .ref m_tNumber, .ref m_tNot, .ref m_tOr, .ref m_minute, .ref m_round, .ref m_laneCrew, .ref m_laneTime, .ref m_gone, .ref m_struck, .ref m_wasRun, .ref m_wait, .ref m_current, .ref m_finals, .ref m_bestTime, .ref m_inFinal, .ref m_pick, .ref m_found, .ref m_fresh, .ref m_at, .long 0, .long 0, .int 0, .int 0])), (m_rows, .inl (cm_rows, 6, .inl (upd (fun _ => 0) (0 : Int32).toNatClampNeg p0))), (m_drummer, .inl (cm_drummer, 6, .inl (upd (fun _ => 0) (0 : Int32).toNatClampNeg p1))), (m_beat, .inl (cm_beat, 6, .inl (fun _ => 0)))] := hD
          refine lv_aload_n hx hb dX10_crew_56 rfl (lv_at hl 0 rfl) ?_
          refine va_get (D := (dC, dI)) (ci := 10) (v := .ref m_beat) (C := RX10) (T := TX10) (N := 48) hx hb hts (fun _ h => List.mem_cons_of_mem _ (List.mem_append_right _ h)) hown hK hP 0 rfl rfl 17 (by decide) (hts (.fieldLink RX10 44 "DrumBoatsModel" "beat" "[I") (List.mem_of_getElem? (i := 4) rfl)) (fun _ h9 => h9) rfl dX10_crew_57 ?_
          refine lv_aload_n hx hb dX10_crew_60 rfl (lv_at hl 0 rfl) ?_
          refine va_get (D := (dC, dI)) (ci := 10) (v := .int 0) (C := RX10) (T := TX10) (N := 48) hx hb hts (fun _ h => List.mem_cons_of_mem _ (List.mem_append_right _ h)) hown hK hP 0 rfl rfl 1 (by decide) (hts (.fieldLink RX10 128 "DrumBoatsModel" "crews" "I") (List.mem_of_getElem? (i := 1) rfl)) (fun _ h9 => h9) rfl dX10_crew_61 ?_
          refine lv_iconst (v := 4) hx hb dX10_crew_64 (by decide +kernel) ?_
          refine va_iast hx hb hK hP hD hS 3 2 rfl rfl (by unfold vp_in; decide +kernel) dX10_crew_65 (fun H locs hP hD hS => ?_)
          have hP : va_P (dC, dI) vwCl [(h0, .inr (10, [.int 0, .int 0, .int 0, .int 0, .int 0, .int 10, .int 0, .int 0, .ref m_weight, .ref m_strength, .ref m_arm, .ref m_sex, .ref m_age, .ref m_likes, .ref m_rows, .ref m_drummer, .ref m_members, .ref m_beat, .ref m_member, .ref m_seated, .ref m_isSeated, .ref m_tape, .ref m_rTests, .ref m_tField, .ref m_tSign, .ref m_tNumber, .ref m_tNot, .ref m_tOr, .ref m_minute, .ref m_round, .ref m_laneCrew, .ref m_laneTime, .ref m_gone, .ref m_struck, .ref m_wasRun, .ref m_wait, .ref m_current, .ref m_finals, .ref m_bestTime, .ref m_inFinal, .ref m_pick, .ref m_found, .ref m_fresh, .ref m_at, .long 0, .long 0, .int 0, .int 0])), (m_rows, .inl (cm_rows, 6, .inl (upd (fun _ => 0) (0 : Int32).toNatClampNeg p0))), (m_drummer, .inl (cm_drummer, 6, .inl (upd (fun _ => 0) (0 : Int32).toNatClampNeg p1))), (m_beat, .inl (cm_beat, 6, .inl (upd (fun _ => 0) (0 : Int32).toNatClampNeg 4)))] H := hP
          have hD : va_D A [(h0, .inr (10, [.int 0, .int 0, .int 0, .int 0, .int 0, .int 10, .int 0, .int 0, .ref m_weight, .ref m_strength, .ref m_arm, .ref m_sex, .ref m_age, .ref m_likes, .ref m_rows, .ref m_drummer, .ref m_members, .ref m_beat, .ref m_member, .ref m_seated, .ref m_isSeated, .ref m_tape, .ref m_rTests, .ref m_tField, .ref m_tSign, .ref m_tNumber, .ref m_tNot, .ref m_tOr, .ref m_minute, .ref m_round, .ref m_laneCrew, .ref m_laneTime, .ref m_gone, .ref m_struck, .ref m_wasRun, .ref m_wait, .ref m_current, .ref m_finals, .ref m_bestTime, .ref m_inFinal, .ref m_pick, .ref m_found, .ref m_fresh, .ref m_at, .long 0, .long 0, .int 0, .int 0])), (m_rows, .inl (cm_rows, 6, .inl (upd (fun _ => 0) (0 : Int32).toNatClampNeg p0))), (m_drummer, .inl (cm_drummer, 6, .inl (upd (fun _ => 0) (0 : Int32).toNatClampNeg p1))), (m_beat, .inl (cm_beat, 6, .inl (upd (fun _ => 0) (0 : Int32).toNatClampNeg 4)))] := hD
          refine lv_aload_n hx hb dX10_crew_66 rfl (lv_at hl 0 rfl) ?_
          refine lv_dup hx hb dX10_crew_67 rfl ?_
          refine va_get (D := (dC, dI)) (ci := 10) (v := .int 0) (C := RX10) (T := TX10) (N := 48) hx hb hts (fun _ h => List.mem_cons_of_mem _ (List.mem_append_right _ h)) hown hK hP 0 rfl rfl 1 (by decide) (hts (.fieldLink RX10 128 "DrumBoatsModel" "crews" "I") (List.mem_of_getElem? (i := 1) rfl)) (fun _ h9 => h9) rfl dX10_crew_68 ?_
          refine lv_dup_x1 hx hb dX10_crew_71 rfl rfl ?_
          refine lv_iconst (v := 1) hx hb dX10_crew_72 (by decide +kernel) ?_
          refine lv_iadd hx hb dX10_crew_73 ?_
          refine ti_eq (y := 1) (by decide +kernel) ?_
          refine va_put (D := (dC, dI)) (ci := 10) (v := .int 1) (ty := .int) (C := RX10) (T := TX10) (N := 48) hx hb hts (fun _ h => List.mem_cons_of_mem _ (List.mem_append_right _ h)) tyX10 tyX10_ok nmX10 hown hK hP hD hS 0 rfl rfl 1 (by decide) (hts (.fieldLink RX10 128 "DrumBoatsModel" "crews" "I") (List.mem_of_getElem? (i := 1) rfl)) (fun _ h9 => h9) rfl (by decide +kernel) rfl rfl (Nat.le_of_ble_eq_true rfl) dX10_crew_74 (fun H locs hP hD hS => ?_)
          have hP : va_P (dC, dI) vwCl [(h0, .inr (10, [.int 0, .int 1, .int 0, .int 0, .int 0, .int 10, .int 0, .int 0, .ref m_weight, .ref m_strength, .ref m_arm, .ref m_sex, .ref m_age, .ref m_likes, .ref m_rows, .ref m_drummer, .ref m_members, .ref m_beat, .ref m_member, .ref m_seated, .ref m_isSeated, .ref m_tape, .ref m_rTests, .ref m_tField, .ref m_tSign, .ref m_tNumber, .ref m_tNot, .ref m_tOr, .ref m_minute, .ref m_round, .ref m_laneCrew, .ref m_laneTime, .ref m_gone, .ref m_struck, .ref m_wasRun, .ref m_wait, .ref m_current, .ref m_finals, .ref m_bestTime, .ref m_inFinal, .ref m_pick, .ref m_found, .ref m_fresh, .ref m_at, .long 0, .long 0, .int 0, .int 0])), (m_rows, .inl (cm_rows, 6, .inl (upd (fun _ => 0) (0 : Int32).toNatClampNeg p0))), (m_drummer, .inl (cm_drummer, 6, .inl (upd (fun _ => 0) (0 : Int32).toNatClampNeg p1))), (m_beat, .inl (cm_beat, 6, .inl (upd (fun _ => 0) (0 : Int32).toNatClampNeg 4)))] H := hP
          have hD : va_D A [(h0, .inr (10, [.int 0, .int 1, .int 0, .int 0, .int 0, .int 10, .int 0, .int 0, .ref m_weight, .ref m_strength, .ref m_arm, .ref m_sex, .ref m_age, .ref m_likes, .ref m_rows, .ref m_drummer, .ref m_members, .ref m_beat, .ref m_member, .ref m_seated, .ref m_isSeated, .ref m_tape, .ref m_rTests, .ref m_tField, .ref m_tSign, .ref m_tNumber, .ref m_tNot, .ref m_tOr, .ref m_minute, .ref m_round, .ref m_laneCrew, .ref m_laneTime, .ref m_gone, .ref m_struck, .ref m_wasRun, .ref m_wait, .ref m_current, .ref m_finals, .ref m_bestTime, .ref m_inFinal, .ref m_pick, .ref m_found, .ref m_fresh, .ref m_at, .long 0, .long 0, .int 0, .int 0])), (m_rows, .inl (cm_rows, 6, .inl (upd (fun _ => 0) (0 : Int32).toNatClampNeg p0))), (m_drummer, .inl (cm_drummer, 6, .inl (upd (fun _ => 0) (0 : Int32).toNatClampNeg p1))), (m_beat, .inl (cm_beat, 6, .inl (upd (fun _ => 0) (0 : Int32).toNatClampNeg 4)))] := hD
          refine W.widen (k := 0) (n := 0) (Nat.le_of_ble_eq_true rfl) (Nat.le_of_ble_eq_true rfl) ?_
          exact W.iret (v := 0) hx hb hr (fun t ht hW => ⟨⟨0, (), rfl, (by first | rfl | decide | (unfold f_crew; (repeat' split) <;> first | rfl | omega)), trivial⟩, hS.F ht⟩) hS.2.2 dX10_crew_77
        · have c_4 : ¬ (p1.toInt ≤ 150) := fun h => c_4 (Int32.le_iff_toInt_le.mpr h)
          refine lv_bipush (v := (-2)) hx hb dX10_crew_21 (by decide +kernel) ?_
          refine W.widen (k := 0) (n := 0) (Nat.le_of_ble_eq_true rfl) (Nat.le_of_ble_eq_true rfl) ?_
          exact W.iret (v := (-2)) hx hb hr (fun t ht hW => ⟨⟨(-2), (), rfl, (by first | rfl | decide | (unfold f_crew; (repeat' split) <;> first | rfl | omega)), trivial⟩, hS.F ht⟩) hS.2.2 dX10_crew_23

set_option maxHeartbeats 4000000 in
set_option maxRecDepth 100000 in
theorem k_X10_join (l : Launch) (dC : Nat → ClassId) (dI : Nat → Nat → Nat) (sz : Nat) (h0 : Nat) (p0 : Int32) (p1 : Int32) (m_weight : Nat) (m_strength : Nat) (m_arm : Nat) (m_sex : Nat) (m_age : Nat) (m_likes : Nat) (m_rows : Nat) (m_drummer : Nat) (m_members : Nat) (m_beat : Nat) (m_member : Nat) (m_seated : Nat) (m_isSeated : Nat) (m_tape : Nat) (m_rTests : Nat) (m_tField : Nat) (m_tSign : Nat) (m_tNumber : Nat) (m_tNot : Nat) (m_tOr : Nat) (m_minute : Nat) (m_round : Nat) (m_laneCrew : Nat) (m_laneTime : Nat) (m_gone : Nat) (m_struck : Nat) (m_wasRun : Nat) (m_wait : Nat) (m_current : Nat) (m_finals : Nat) (m_bestTime : Nat) (m_inFinal : Nat) (m_pick : Nat) (m_found : Nat) (m_fresh : Nat) (m_at : Nat) : Met l yX10_join wsX10_join ({ frames := 1, cells := 0, slots := 0, locals := 21 }) (va_Pc [.ref h0, .int p0, .int p1] (fun U => U.heap.size = sz ∧ va_P (dC, dI) vwCl [(h0, .inr (10, [.int 0, .int 0, .int 0, .int 0, .int 0, .int 10, .int 0, .int 0, .ref m_weight, .ref m_strength, .ref m_arm, .ref m_sex, .ref m_age, .ref m_likes, .ref m_rows, .ref m_drummer, .ref m_members, .ref m_beat, .ref m_member, .ref m_seated, .ref m_isSeated, .ref m_tape, .ref m_rTests, .ref m_tField, .ref m_tSign, .ref m_tNumber, .ref m_tNot, .ref m_tOr, .ref m_minute, .ref m_round, .ref m_laneCrew, .ref m_laneTime, .ref m_gone, .ref m_struck, .ref m_wasRun, .ref m_wait, .ref m_current, .ref m_finals, .ref m_bestTime, .ref m_inFinal, .ref m_pick, .ref m_found, .ref m_fresh, .ref m_at, .long 0, .long 0, .int 0, .int 0]))] U.heap ∧ va_K (dC, dI) vwCl [] U)) (va_Qi (fun (r : Int32) (_ : Unit) => r = (-1)) (fun _ _ => True) (va_A ([] : va_W) sz)) 0 0 (va_A ([] : va_W) sz) := by
  refine Met.ofW (cc := cX10_join) (maxL := 3) (ret := (some .int)) (by decide) rfl ?_
  intro p e s m args below meth c s₁ B hml hv
  obtain ⟨rfl, hsz, hP, hK⟩ := hv
  have hx := B.exec
  have hb := B.bytes
  have hr := B.returns
  have hts := atoms_spec (ws := wsX10_join) B.pre
  have hown : s.vm.findClass RX10 = some m.cls := findClass_of_methodNamed B.named
  have hlocks := B.notSynchronized
  subst hsz
  generalize hAe : va_A ([] : va_W) s.heap.size = A
  have hA : ∀ q : Nat, s.heap.size ≤ q → A q := fun q h => by rw [← hAe]; exact Or.inr h
  have hS : va_S A s.heap s.heap [] := va_S.rf
  have hl := lv_entry ([.ref h0, .int p0, .int p1]) (n := 3) (Nat.le_of_ble_eq_true rfl)
  rw [lg_entry_eq]
  generalize (lg_sl ([.ref h0, .int p0, .int p1]) ++ List.replicate (3 - (lg_sl ([.ref h0, .int p0, .int p1])).length) Slot.unset).toArray = ls at hl ⊢
  have hl : lv_has ls 3 [(0, .ref h0), (1, .int p0), (2, .int p1)] := hl
  refine lv_aload_n hx hb dX10_join_0 rfl (lv_at hl 0 rfl) ?_
  refine lv_iload_n hx hb dX10_join_1 rfl (lv_at hl 1 rfl) ?_
  have hPc := hP.sub (ws' := [(h0, .inr (10, [.int 0, .int 0, .int 0, .int 0, .int 0, .int 10, .int 0, .int 0, .ref m_weight, .ref m_strength, .ref m_arm, .ref m_sex, .ref m_age, .ref m_likes, .ref m_rows, .ref m_drummer, .ref m_members, .ref m_beat, .ref m_member, .ref m_seated, .ref m_isSeated, .ref m_tape, .ref m_rTests, .ref m_tField, .ref m_tSign, .ref m_tNumber, .ref m_tNot, .ref m_tOr, .ref m_minute, .ref m_round, .ref m_laneCrew, .ref m_laneTime, .ref m_gone, .ref m_struck, .ref m_wasRun, .ref m_wait, .ref m_current, .ref m_finals, .ref m_bestTime, .ref m_inFinal, .ref m_pick, .ref m_found, .ref m_fresh, .ref m_at, .long 0, .long 0, .int 0, .int 0]))]) [0] rfl
  have hKc := hK.sub (tys' := []) [] rfl
  have hFc := ro_free hS hA
  refine va_calli (va_runV (As := [.int p0]) (rest := []) ⟨hx, hb, hml, hown, hts⟩ (k_X10_isCrew l dC dI s.heap.size h0 p0 m_weight m_strength m_arm m_sex m_age m_likes m_rows m_drummer m_members m_beat m_member m_seated m_isSeated m_tape m_rTests m_tField m_tSign m_tNumber m_tNot m_tOr m_minute m_round m_laneCrew m_laneTime m_gone m_struck m_wasRun m_wait m_current m_finals m_bestTime m_inFinal m_pick m_found m_fresh m_at) (cwV 1 hts gX10_join_X10_isCrew rfl rfl rfl (by decide +kernel) ⟨(Nat.le_of_ble_eq_true rfl), (Nat.le_of_ble_eq_true rfl)⟩) ⟨fun a U g mk q => by obtain ⟨q0, q1, qP, qK⟩ := q; exact ⟨q0, q1, qP, va_K.moved (u := U) (U := U.calling g mk a) (Vm.Alike.refl U.vm) qK⟩, va_recv hKc hPc (ci := 10) (q0 := 0) rfl rfl, fun U hU hW => ⟨rfl, by rw [hU], by rw [hU]; exact hPc, va_K.moved hW.alike hKc⟩⟩ rfl rfl hl.1 rfl (lv_room (Nat.le_of_ble_eq_true rfl)) dX10_join_2 ⟨(Nat.le_of_ble_eq_true rfl), (Nat.le_of_ble_eq_true rfl)⟩) hS (fun q _ h => hFc q h) hFc (fun r u t H1 locs ht hvm hw hB hz1 hk1 hS => ?_)
  refine W.widen (k := 0) (n := 0) (Nat.le_of_ble_eq_true rfl) (Nat.le_of_ble_eq_true rfl) ?_
  have hP := P_ro hP hk1
  generalize H1 = H at hP hS ⊢
  subst hw
  refine lv_if_eq (tgt := 16) hx hb dX10_join_5 (by decide) (fun _ => ?_) (fun c9 => absurd c9 (by decide +kernel))
  refine lv_iconst (v := (-1)) hx hb dX10_join_16 (by decide +kernel) ?_
  refine W.widen (k := 0) (n := 0) (Nat.le_of_ble_eq_true rfl) (Nat.le_of_ble_eq_true rfl) ?_
  exact W.iret (v := (-1)) hx hb hr (fun t ht hW => ⟨⟨(-1), (), rfl, (by first | rfl | (exfalso; omega)), trivial⟩, hS.F ht⟩) hS.2.2 dX10_join_17

set_option maxHeartbeats 4000000 in
set_option maxRecDepth 100000 in
theorem k_X10_beat (l : Launch) (dC : Nat → ClassId) (dI : Nat → Nat → Nat) (sz : Nat) (h0 : Nat) (p0 : Int32) (p1 : Int32) (m_weight : Nat) (m_strength : Nat) (m_arm : Nat) (m_sex : Nat) (m_age : Nat) (m_likes : Nat) (m_rows : Nat) (m_drummer : Nat) (m_members : Nat) (m_beat : Nat) (m_member : Nat) (m_seated : Nat) (m_isSeated : Nat) (m_tape : Nat) (m_rTests : Nat) (m_tField : Nat) (m_tSign : Nat) (m_tNumber : Nat) (m_tNot : Nat) (m_tOr : Nat) (m_minute : Nat) (m_round : Nat) (m_laneCrew : Nat) (m_laneTime : Nat) (m_gone : Nat) (m_struck : Nat) (m_wasRun : Nat) (m_wait : Nat) (m_current : Nat) (m_finals : Nat) (m_bestTime : Nat) (m_inFinal : Nat) (m_pick : Nat) (m_found : Nat) (m_fresh : Nat) (m_at : Nat) : Met l yX10_beat wsX10_beat ({ frames := 1, cells := 0, slots := 0, locals := 21 }) (va_Pc [.ref h0, .int p0, .int p1] (fun U => U.heap.size = sz ∧ va_P (dC, dI) vwCl [(h0, .inr (10, [.int 0, .int 0, .int 0, .int 0, .int 0, .int 10, .int 0, .int 0, .ref m_weight, .ref m_strength, .ref m_arm, .ref m_sex, .ref m_age, .ref m_likes, .ref m_rows, .ref m_drummer, .ref m_members, .ref m_beat, .ref m_member, .ref m_seated, .ref m_isSeated, .ref m_tape, .ref m_rTests, .ref m_tField, .ref m_tSign, .ref m_tNumber, .ref m_tNot, .ref m_tOr, .ref m_minute, .ref m_round, .ref m_laneCrew, .ref m_laneTime, .ref m_gone, .ref m_struck, .ref m_wasRun, .ref m_wait, .ref m_current, .ref m_finals, .ref m_bestTime, .ref m_inFinal, .ref m_pick, .ref m_found, .ref m_fresh, .ref m_at, .long 0, .long 0, .int 0, .int 0]))] U.heap ∧ va_K (dC, dI) vwCl [] U)) (va_Qi (fun (r : Int32) (_ : Unit) => r = (-1)) (fun _ _ => True) (va_A ([] : va_W) sz)) 0 0 (va_A ([] : va_W) sz) := by
  refine Met.ofW (cc := cX10_beat) (maxL := 4) (ret := (some .int)) (by decide) rfl ?_
  intro p e s m args below meth c s₁ B hml hv
  obtain ⟨rfl, hsz, hP, hK⟩ := hv
  have hx := B.exec
  have hb := B.bytes
  have hr := B.returns
  have hts := atoms_spec (ws := wsX10_beat) B.pre
  have hown : s.vm.findClass RX10 = some m.cls := findClass_of_methodNamed B.named
  have hlocks := B.notSynchronized
  subst hsz
  generalize hAe : va_A ([] : va_W) s.heap.size = A
  have hA : ∀ q : Nat, s.heap.size ≤ q → A q := fun q h => by rw [← hAe]; exact Or.inr h
  have hS : va_S A s.heap s.heap [] := va_S.rf
  have hl := lv_entry ([.ref h0, .int p0, .int p1]) (n := 4) (Nat.le_of_ble_eq_true rfl)
  rw [lg_entry_eq]
  generalize (lg_sl ([.ref h0, .int p0, .int p1]) ++ List.replicate (4 - (lg_sl ([.ref h0, .int p0, .int p1])).length) Slot.unset).toArray = ls at hl ⊢
  have hl : lv_has ls 4 [(0, .ref h0), (1, .int p0), (2, .int p1)] := hl
  refine lv_aload_n hx hb dX10_beat_0 rfl (lv_at hl 0 rfl) ?_
  refine lv_iload_n hx hb dX10_beat_1 rfl (lv_at hl 1 rfl) ?_
  have hPc := hP.sub (ws' := [(h0, .inr (10, [.int 0, .int 0, .int 0, .int 0, .int 0, .int 10, .int 0, .int 0, .ref m_weight, .ref m_strength, .ref m_arm, .ref m_sex, .ref m_age, .ref m_likes, .ref m_rows, .ref m_drummer, .ref m_members, .ref m_beat, .ref m_member, .ref m_seated, .ref m_isSeated, .ref m_tape, .ref m_rTests, .ref m_tField, .ref m_tSign, .ref m_tNumber, .ref m_tNot, .ref m_tOr, .ref m_minute, .ref m_round, .ref m_laneCrew, .ref m_laneTime, .ref m_gone, .ref m_struck, .ref m_wasRun, .ref m_wait, .ref m_current, .ref m_finals, .ref m_bestTime, .ref m_inFinal, .ref m_pick, .ref m_found, .ref m_fresh, .ref m_at, .long 0, .long 0, .int 0, .int 0]))]) [0] rfl
  have hKc := hK.sub (tys' := []) [] rfl
  have hFc := ro_free hS hA
  refine va_calli (va_runV (As := [.int p0]) (rest := []) ⟨hx, hb, hml, hown, hts⟩ (k_X10_isCrew l dC dI s.heap.size h0 p0 m_weight m_strength m_arm m_sex m_age m_likes m_rows m_drummer m_members m_beat m_member m_seated m_isSeated m_tape m_rTests m_tField m_tSign m_tNumber m_tNot m_tOr m_minute m_round m_laneCrew m_laneTime m_gone m_struck m_wasRun m_wait m_current m_finals m_bestTime m_inFinal m_pick m_found m_fresh m_at) (cwV 1 hts gX10_beat_X10_isCrew rfl rfl rfl (by decide +kernel) ⟨(Nat.le_of_ble_eq_true rfl), (Nat.le_of_ble_eq_true rfl)⟩) ⟨fun a U g mk q => by obtain ⟨q0, q1, qP, qK⟩ := q; exact ⟨q0, q1, qP, va_K.moved (u := U) (U := U.calling g mk a) (Vm.Alike.refl U.vm) qK⟩, va_recv hKc hPc (ci := 10) (q0 := 0) rfl rfl, fun U hU hW => ⟨rfl, by rw [hU], by rw [hU]; exact hPc, va_K.moved hW.alike hKc⟩⟩ rfl rfl hl.1 rfl (lv_room (Nat.le_of_ble_eq_true rfl)) dX10_beat_2 ⟨(Nat.le_of_ble_eq_true rfl), (Nat.le_of_ble_eq_true rfl)⟩) hS (fun q _ h => hFc q h) hFc (fun r u t H1 locs ht hvm hw hB hz1 hk1 hS => ?_)
  refine W.widen (k := 0) (n := 0) (Nat.le_of_ble_eq_true rfl) (Nat.le_of_ble_eq_true rfl) ?_
  have hP := P_ro hP hk1
  generalize H1 = H at hP hS ⊢
  subst hw
  refine lv_if_ne (tgt := 10) hx hb dX10_beat_5 (by decide) (fun c9 => absurd c9 (by decide +kernel)) (fun _ => ?_)
  refine lv_iconst (v := (-1)) hx hb dX10_beat_8 (by decide +kernel) ?_
  refine W.widen (k := 0) (n := 0) (Nat.le_of_ble_eq_true rfl) (Nat.le_of_ble_eq_true rfl) ?_
  exact W.iret (v := (-1)) hx hb hr (fun t ht hW => ⟨⟨(-1), (), rfl, (by first | rfl | (exfalso; omega)), trivial⟩, hS.F ht⟩) hS.2.2 dX10_beat_9

set_option maxHeartbeats 4000000 in
set_option maxRecDepth 100000 in
theorem k_X10_seat (l : Launch) (dC : Nat → ClassId) (dI : Nat → Nat → Nat) (sz : Nat) (h0 : Nat) (p0 : Int32) (m_weight : Nat) (m_strength : Nat) (m_arm : Nat) (m_sex : Nat) (m_age : Nat) (m_likes : Nat) (m_rows : Nat) (m_drummer : Nat) (m_members : Nat) (m_beat : Nat) (m_member : Nat) (m_seated : Nat) (m_isSeated : Nat) (m_tape : Nat) (m_rTests : Nat) (m_tField : Nat) (m_tSign : Nat) (m_tNumber : Nat) (m_tNot : Nat) (m_tOr : Nat) (m_minute : Nat) (m_round : Nat) (m_laneCrew : Nat) (m_laneTime : Nat) (m_gone : Nat) (m_struck : Nat) (m_wasRun : Nat) (m_wait : Nat) (m_current : Nat) (m_finals : Nat) (m_bestTime : Nat) (m_inFinal : Nat) (m_pick : Nat) (m_found : Nat) (m_fresh : Nat) (m_at : Nat) : Met l yX10_seat wsX10_seat ({ frames := 1, cells := 0, slots := 0, locals := 21 }) (va_Pc [.ref h0, .int p0] (fun U => U.heap.size = sz ∧ va_P (dC, dI) vwCl [(h0, .inr (10, [.int 0, .int 0, .int 0, .int 0, .int 0, .int 10, .int 0, .int 0, .ref m_weight, .ref m_strength, .ref m_arm, .ref m_sex, .ref m_age, .ref m_likes, .ref m_rows, .ref m_drummer, .ref m_members, .ref m_beat, .ref m_member, .ref m_seated, .ref m_isSeated, .ref m_tape, .ref m_rTests, .ref m_tField, .ref m_tSign, .ref m_tNumber, .ref m_tNot, .ref m_tOr, .ref m_minute, .ref m_round, .ref m_laneCrew, .ref m_laneTime, .ref m_gone, .ref m_struck, .ref m_wasRun, .ref m_wait, .ref m_current, .ref m_finals, .ref m_bestTime, .ref m_inFinal, .ref m_pick, .ref m_found, .ref m_fresh, .ref m_at, .long 0, .long 0, .int 0, .int 0]))] U.heap ∧ va_K (dC, dI) vwCl [] U)) (va_Qi (fun (r : Int32) (_ : Unit) => r = (-100000)) (fun _ _ => True) (va_A ([] : va_W) sz)) 0 0 (va_A ([] : va_W) sz) := by
  refine Met.ofW (cc := cX10_seat) (maxL := 11) (ret := (some .int)) (by decide) rfl ?_
  intro p e s m args below meth c s₁ B hml hv
  obtain ⟨rfl, hsz, hP, hK⟩ := hv
  have hx := B.exec
  have hb := B.bytes
  have hr := B.returns
  have hts := atoms_spec (ws := wsX10_seat) B.pre
  have hown : s.vm.findClass RX10 = some m.cls := findClass_of_methodNamed B.named
  have hlocks := B.notSynchronized
  subst hsz
  generalize hAe : va_A ([] : va_W) s.heap.size = A
  have hA : ∀ q : Nat, s.heap.size ≤ q → A q := fun q h => by rw [← hAe]; exact Or.inr h
  have hS : va_S A s.heap s.heap [] := va_S.rf
  have hl := lv_entry ([.ref h0, .int p0]) (n := 11) (Nat.le_of_ble_eq_true rfl)
  rw [lg_entry_eq]
  generalize (lg_sl ([.ref h0, .int p0]) ++ List.replicate (11 - (lg_sl ([.ref h0, .int p0])).length) Slot.unset).toArray = ls at hl ⊢
  have hl : lv_has ls 11 [(0, .ref h0), (1, .int p0)] := hl
  refine lv_aload_n hx hb dX10_seat_0 rfl (lv_at hl 0 rfl) ?_
  refine lv_iload_n hx hb dX10_seat_1 rfl (lv_at hl 1 rfl) ?_
  have hPc := hP.sub (ws' := [(h0, .inr (10, [.int 0, .int 0, .int 0, .int 0, .int 0, .int 10, .int 0, .int 0, .ref m_weight, .ref m_strength, .ref m_arm, .ref m_sex, .ref m_age, .ref m_likes, .ref m_rows, .ref m_drummer, .ref m_members, .ref m_beat, .ref m_member, .ref m_seated, .ref m_isSeated, .ref m_tape, .ref m_rTests, .ref m_tField, .ref m_tSign, .ref m_tNumber, .ref m_tNot, .ref m_tOr, .ref m_minute, .ref m_round, .ref m_laneCrew, .ref m_laneTime, .ref m_gone, .ref m_struck, .ref m_wasRun, .ref m_wait, .ref m_current, .ref m_finals, .ref m_bestTime, .ref m_inFinal, .ref m_pick, .ref m_found, .ref m_fresh, .ref m_at, .long 0, .long 0, .int 0, .int 0]))]) [0] rfl
  have hKc := hK.sub (tys' := []) [] rfl
  have hFc := ro_free hS hA
  refine va_calli (va_runV (As := [.int p0]) (rest := []) ⟨hx, hb, hml, hown, hts⟩ (k_X10_isCrew l dC dI s.heap.size h0 p0 m_weight m_strength m_arm m_sex m_age m_likes m_rows m_drummer m_members m_beat m_member m_seated m_isSeated m_tape m_rTests m_tField m_tSign m_tNumber m_tNot m_tOr m_minute m_round m_laneCrew m_laneTime m_gone m_struck m_wasRun m_wait m_current m_finals m_bestTime m_inFinal m_pick m_found m_fresh m_at) (cwV 1 hts gX10_seat_X10_isCrew rfl rfl rfl (by decide +kernel) ⟨(Nat.le_of_ble_eq_true rfl), (Nat.le_of_ble_eq_true rfl)⟩) ⟨fun a U g mk q => by obtain ⟨q0, q1, qP, qK⟩ := q; exact ⟨q0, q1, qP, va_K.moved (u := U) (U := U.calling g mk a) (Vm.Alike.refl U.vm) qK⟩, va_recv hKc hPc (ci := 10) (q0 := 0) rfl rfl, fun U hU hW => ⟨rfl, by rw [hU], by rw [hU]; exact hPc, va_K.moved hW.alike hKc⟩⟩ rfl rfl hl.1 rfl (lv_room (Nat.le_of_ble_eq_true rfl)) dX10_seat_2 ⟨(Nat.le_of_ble_eq_true rfl), (Nat.le_of_ble_eq_true rfl)⟩) hS (fun q _ h => hFc q h) hFc (fun r u t H1 locs ht hvm hw hB hz1 hk1 hS => ?_)
  refine W.widen (k := 0) (n := 0) (Nat.le_of_ble_eq_true rfl) (Nat.le_of_ble_eq_true rfl) ?_
  have hP := P_ro hP hk1
  generalize H1 = H at hP hS ⊢
  subst hw
  refine lv_if_ne (tgt := 11) hx hb dX10_seat_5 (by decide) (fun c9 => absurd c9 (by decide +kernel)) (fun _ => ?_)
  refine lv_ldc (v := (-100000)) hx hb hown (hts (.constant RX10 150 (-100000)) (List.mem_of_getElem? (i := 1) rfl)) dX10_seat_8 ?_
  refine W.widen (k := 0) (n := 0) (Nat.le_of_ble_eq_true rfl) (Nat.le_of_ble_eq_true rfl) ?_
  exact W.iret (v := (-100000)) hx hb hr (fun t ht hW => ⟨⟨(-100000), (), rfl, (by first | rfl | (exfalso; omega)), trivial⟩, hS.F ht⟩) hS.2.2 dX10_seat_10

set_option maxHeartbeats 4000000 in
set_option maxRecDepth 100000 in
theorem k_X10_sits (l : Launch) (dC : Nat → ClassId) (dI : Nat → Nat → Nat) (sz : Nat) (h0 : Nat) (p0 : Int32) (p1 : Int32) (p2 : Int32) (m_weight : Nat) (m_strength : Nat) (m_arm : Nat) (m_sex : Nat) (m_age : Nat) (m_likes : Nat) (m_rows : Nat) (m_drummer : Nat) (m_members : Nat) (m_beat : Nat) (m_member : Nat) (m_seated : Nat) (m_isSeated : Nat) (m_tape : Nat) (m_rTests : Nat) (m_tField : Nat) (m_tSign : Nat) (m_tNumber : Nat) (m_tNot : Nat) (m_tOr : Nat) (m_minute : Nat) (m_round : Nat) (m_laneCrew : Nat) (m_laneTime : Nat) (m_gone : Nat) (m_struck : Nat) (m_wasRun : Nat) (m_wait : Nat) (m_current : Nat) (m_finals : Nat) (m_bestTime : Nat) (m_inFinal : Nat) (m_pick : Nat) (m_found : Nat) (m_fresh : Nat) (m_at : Nat) : Met l yX10_sits wsX10_sits ({ frames := 1, cells := 0, slots := 0, locals := 21 }) (va_Pc [.ref h0, .int p0, .int p1, .int p2] (fun U => U.heap.size = sz ∧ va_P (dC, dI) vwCl [(h0, .inr (10, [.int 0, .int 0, .int 0, .int 0, .int 0, .int 10, .int 0, .int 0, .ref m_weight, .ref m_strength, .ref m_arm, .ref m_sex, .ref m_age, .ref m_likes, .ref m_rows, .ref m_drummer, .ref m_members, .ref m_beat, .ref m_member, .ref m_seated, .ref m_isSeated, .ref m_tape, .ref m_rTests, .ref m_tField, .ref m_tSign, .ref m_tNumber, .ref m_tNot, .ref m_tOr, .ref m_minute, .ref m_round, .ref m_laneCrew, .ref m_laneTime, .ref m_gone, .ref m_struck, .ref m_wasRun, .ref m_wait, .ref m_current, .ref m_finals, .ref m_bestTime, .ref m_inFinal, .ref m_pick, .ref m_found, .ref m_fresh, .ref m_at, .long 0, .long 0, .int 0, .int 0]))] U.heap ∧ va_K (dC, dI) vwCl [] U)) (va_Qi (fun (r : Int32) (_ : Unit) => r = (-1)) (fun _ _ => True) (va_A ([] : va_W) sz)) 0 0 (va_A ([] : va_W) sz) := by
  refine Met.ofW (cc := cX10_sits) (maxL := 4) (ret := (some .int)) (by decide) rfl ?_
  intro p e s m args below meth c s₁ B hml hv
  obtain ⟨rfl, hsz, hP, hK⟩ := hv
  have hx := B.exec
  have hb := B.bytes
  have hr := B.returns
  have hts := atoms_spec (ws := wsX10_sits) B.pre
  have hown : s.vm.findClass RX10 = some m.cls := findClass_of_methodNamed B.named
  have hlocks := B.notSynchronized
  subst hsz
  generalize hAe : va_A ([] : va_W) s.heap.size = A
  have hA : ∀ q : Nat, s.heap.size ≤ q → A q := fun q h => by rw [← hAe]; exact Or.inr h
  have hS : va_S A s.heap s.heap [] := va_S.rf
  have hl := lv_entry ([.ref h0, .int p0, .int p1, .int p2]) (n := 4) (Nat.le_of_ble_eq_true rfl)
  rw [lg_entry_eq]
  generalize (lg_sl ([.ref h0, .int p0, .int p1, .int p2]) ++ List.replicate (4 - (lg_sl ([.ref h0, .int p0, .int p1, .int p2])).length) Slot.unset).toArray = ls at hl ⊢
  have hl : lv_has ls 4 [(0, .ref h0), (1, .int p0), (2, .int p1), (3, .int p2)] := hl
  refine lv_aload_n hx hb dX10_sits_0 rfl (lv_at hl 0 rfl) ?_
  refine lv_iload_n hx hb dX10_sits_1 rfl (lv_at hl 1 rfl) ?_
  have hPc := hP.sub (ws' := [(h0, .inr (10, [.int 0, .int 0, .int 0, .int 0, .int 0, .int 10, .int 0, .int 0, .ref m_weight, .ref m_strength, .ref m_arm, .ref m_sex, .ref m_age, .ref m_likes, .ref m_rows, .ref m_drummer, .ref m_members, .ref m_beat, .ref m_member, .ref m_seated, .ref m_isSeated, .ref m_tape, .ref m_rTests, .ref m_tField, .ref m_tSign, .ref m_tNumber, .ref m_tNot, .ref m_tOr, .ref m_minute, .ref m_round, .ref m_laneCrew, .ref m_laneTime, .ref m_gone, .ref m_struck, .ref m_wasRun, .ref m_wait, .ref m_current, .ref m_finals, .ref m_bestTime, .ref m_inFinal, .ref m_pick, .ref m_found, .ref m_fresh, .ref m_at, .long 0, .long 0, .int 0, .int 0]))]) [0] rfl
  have hKc := hK.sub (tys' := []) [] rfl
  have hFc := ro_free hS hA
  refine va_calli (va_runV (As := [.int p0]) (rest := []) ⟨hx, hb, hml, hown, hts⟩ (k_X10_isCrew l dC dI s.heap.size h0 p0 m_weight m_strength m_arm m_sex m_age m_likes m_rows m_drummer m_members m_beat m_member m_seated m_isSeated m_tape m_rTests m_tField m_tSign m_tNumber m_tNot m_tOr m_minute m_round m_laneCrew m_laneTime m_gone m_struck m_wasRun m_wait m_current m_finals m_bestTime m_inFinal m_pick m_found m_fresh m_at) (cwV 1 hts gX10_sits_X10_isCrew rfl rfl rfl (by decide +kernel) ⟨(Nat.le_of_ble_eq_true rfl), (Nat.le_of_ble_eq_true rfl)⟩) ⟨fun a U g mk q => by obtain ⟨q0, q1, qP, qK⟩ := q; exact ⟨q0, q1, qP, va_K.moved (u := U) (U := U.calling g mk a) (Vm.Alike.refl U.vm) qK⟩, va_recv hKc hPc (ci := 10) (q0 := 0) rfl rfl, fun U hU hW => ⟨rfl, by rw [hU], by rw [hU]; exact hPc, va_K.moved hW.alike hKc⟩⟩ rfl rfl hl.1 rfl (lv_room (Nat.le_of_ble_eq_true rfl)) dX10_sits_2 ⟨(Nat.le_of_ble_eq_true rfl), (Nat.le_of_ble_eq_true rfl)⟩) hS (fun q _ h => hFc q h) hFc (fun r u t H1 locs ht hvm hw hB hz1 hk1 hS => ?_)
  refine W.widen (k := 0) (n := 0) (Nat.le_of_ble_eq_true rfl) (Nat.le_of_ble_eq_true rfl) ?_
  have hP := P_ro hP hk1
  generalize H1 = H at hP hS ⊢
  subst hw
  refine lv_if_eq (tgt := 40) hx hb dX10_sits_5 (by decide) (fun _ => ?_) (fun c9 => absurd c9 (by decide +kernel))
  refine lv_iconst (v := (-1)) hx hb dX10_sits_40 (by decide +kernel) ?_
  refine W.widen (k := 0) (n := 0) (Nat.le_of_ble_eq_true rfl) (Nat.le_of_ble_eq_true rfl) ?_
  exact W.iret (v := (-1)) hx hb hr (fun t ht hW => ⟨⟨(-1), (), rfl, (by first | rfl | (exfalso; omega)), trivial⟩, hS.F ht⟩) hS.2.2 dX10_sits_41

set_option maxHeartbeats 4000000 in
set_option maxRecDepth 100000 in
theorem k_X10_trim (l : Launch) (dC : Nat → ClassId) (dI : Nat → Nat → Nat) (sz : Nat) (h0 : Nat) (p0 : Int32) (p1 : Int32) (m_weight : Nat) (m_strength : Nat) (m_arm : Nat) (m_sex : Nat) (m_age : Nat) (m_likes : Nat) (m_rows : Nat) (m_drummer : Nat) (m_members : Nat) (m_beat : Nat) (m_member : Nat) (m_seated : Nat) (m_isSeated : Nat) (m_tape : Nat) (m_rTests : Nat) (m_tField : Nat) (m_tSign : Nat) (m_tNumber : Nat) (m_tNot : Nat) (m_tOr : Nat) (m_minute : Nat) (m_round : Nat) (m_laneCrew : Nat) (m_laneTime : Nat) (m_gone : Nat) (m_struck : Nat) (m_wasRun : Nat) (m_wait : Nat) (m_current : Nat) (m_finals : Nat) (m_bestTime : Nat) (m_inFinal : Nat) (m_pick : Nat) (m_found : Nat) (m_fresh : Nat) (m_at : Nat) : Met l yX10_trim wsX10_trim ({ frames := 1, cells := 0, slots := 0, locals := 21 }) (va_Pc [.ref h0, .int p0, .int p1] (fun U => U.heap.size = sz ∧ va_P (dC, dI) vwCl [(h0, .inr (10, [.int 0, .int 0, .int 0, .int 0, .int 0, .int 10, .int 0, .int 0, .ref m_weight, .ref m_strength, .ref m_arm, .ref m_sex, .ref m_age, .ref m_likes, .ref m_rows, .ref m_drummer, .ref m_members, .ref m_beat, .ref m_member, .ref m_seated, .ref m_isSeated, .ref m_tape, .ref m_rTests, .ref m_tField, .ref m_tSign, .ref m_tNumber, .ref m_tNot, .ref m_tOr, .ref m_minute, .ref m_round, .ref m_laneCrew, .ref m_laneTime, .ref m_gone, .ref m_struck, .ref m_wasRun, .ref m_wait, .ref m_current, .ref m_finals, .ref m_bestTime, .ref m_inFinal, .ref m_pick, .ref m_found, .ref m_fresh, .ref m_at, .long 0, .long 0, .int 0, .int 0]))] U.heap ∧ va_K (dC, dI) vwCl [] U)) (va_Qi (fun (r : Int32) (_ : Unit) => r = (-1)) (fun _ _ => True) (va_A ([] : va_W) sz)) 0 0 (va_A ([] : va_W) sz) := by
  refine Met.ofW (cc := cX10_trim) (maxL := 3) (ret := (some .int)) (by decide) rfl ?_
  intro p e s m args below meth c s₁ B hml hv
  obtain ⟨rfl, hsz, hP, hK⟩ := hv
  have hx := B.exec
  have hb := B.bytes
  have hr := B.returns
  have hts := atoms_spec (ws := wsX10_trim) B.pre
  have hown : s.vm.findClass RX10 = some m.cls := findClass_of_methodNamed B.named
  have hlocks := B.notSynchronized
  subst hsz
  generalize hAe : va_A ([] : va_W) s.heap.size = A
  have hA : ∀ q : Nat, s.heap.size ≤ q → A q := fun q h => by rw [← hAe]; exact Or.inr h
  have hS : va_S A s.heap s.heap [] := va_S.rf
  have hl := lv_entry ([.ref h0, .int p0, .int p1]) (n := 3) (Nat.le_of_ble_eq_true rfl)
  rw [lg_entry_eq]
  generalize (lg_sl ([.ref h0, .int p0, .int p1]) ++ List.replicate (3 - (lg_sl ([.ref h0, .int p0, .int p1])).length) Slot.unset).toArray = ls at hl ⊢
  have hl : lv_has ls 3 [(0, .ref h0), (1, .int p0), (2, .int p1)] := hl
  refine lv_aload_n hx hb dX10_trim_0 rfl (lv_at hl 0 rfl) ?_
  refine lv_iload_n hx hb dX10_trim_1 rfl (lv_at hl 1 rfl) ?_
  have hPc := hP.sub (ws' := [(h0, .inr (10, [.int 0, .int 0, .int 0, .int 0, .int 0, .int 10, .int 0, .int 0, .ref m_weight, .ref m_strength, .ref m_arm, .ref m_sex, .ref m_age, .ref m_likes, .ref m_rows, .ref m_drummer, .ref m_members, .ref m_beat, .ref m_member, .ref m_seated, .ref m_isSeated, .ref m_tape, .ref m_rTests, .ref m_tField, .ref m_tSign, .ref m_tNumber, .ref m_tNot, .ref m_tOr, .ref m_minute, .ref m_round, .ref m_laneCrew, .ref m_laneTime, .ref m_gone, .ref m_struck, .ref m_wasRun, .ref m_wait, .ref m_current, .ref m_finals, .ref m_bestTime, .ref m_inFinal, .ref m_pick, .ref m_found, .ref m_fresh, .ref m_at, .long 0, .long 0, .int 0, .int 0]))]) [0] rfl
  have hKc := hK.sub (tys' := []) [] rfl
  have hFc := ro_free hS hA
  refine va_calli (va_runV (As := [.int p0]) (rest := []) ⟨hx, hb, hml, hown, hts⟩ (k_X10_isCrew l dC dI s.heap.size h0 p0 m_weight m_strength m_arm m_sex m_age m_likes m_rows m_drummer m_members m_beat m_member m_seated m_isSeated m_tape m_rTests m_tField m_tSign m_tNumber m_tNot m_tOr m_minute m_round m_laneCrew m_laneTime m_gone m_struck m_wasRun m_wait m_current m_finals m_bestTime m_inFinal m_pick m_found m_fresh m_at) (cwV 1 hts gX10_trim_X10_isCrew rfl rfl rfl (by decide +kernel) ⟨(Nat.le_of_ble_eq_true rfl), (Nat.le_of_ble_eq_true rfl)⟩) ⟨fun a U g mk q => by obtain ⟨q0, q1, qP, qK⟩ := q; exact ⟨q0, q1, qP, va_K.moved (u := U) (U := U.calling g mk a) (Vm.Alike.refl U.vm) qK⟩, va_recv hKc hPc (ci := 10) (q0 := 0) rfl rfl, fun U hU hW => ⟨rfl, by rw [hU], by rw [hU]; exact hPc, va_K.moved hW.alike hKc⟩⟩ rfl rfl hl.1 rfl (lv_room (Nat.le_of_ble_eq_true rfl)) dX10_trim_2 ⟨(Nat.le_of_ble_eq_true rfl), (Nat.le_of_ble_eq_true rfl)⟩) hS (fun q _ h => hFc q h) hFc (fun r u t H1 locs ht hvm hw hB hz1 hk1 hS => ?_)
  refine W.widen (k := 0) (n := 0) (Nat.le_of_ble_eq_true rfl) (Nat.le_of_ble_eq_true rfl) ?_
  have hP := P_ro hP hk1
  generalize H1 = H at hP hS ⊢
  subst hw
  refine lv_if_eq (tgt := 17) hx hb dX10_trim_5 (by decide) (fun _ => ?_) (fun c9 => absurd c9 (by decide +kernel))
  refine lv_iconst (v := (-1)) hx hb dX10_trim_17 (by decide +kernel) ?_
  refine W.widen (k := 0) (n := 0) (Nat.le_of_ble_eq_true rfl) (Nat.le_of_ble_eq_true rfl) ?_
  exact W.iret (v := (-1)) hx hb hr (fun t ht hW => ⟨⟨(-1), (), rfl, (by first | rfl | (exfalso; omega)), trivial⟩, hS.F ht⟩) hS.2.2 dX10_trim_18

set_option maxHeartbeats 4000000 in
set_option maxRecDepth 100000 in
theorem k_X10_change (l : Launch) (dC : Nat → ClassId) (dI : Nat → Nat → Nat) (sz : Nat) (h0 : Nat) (p0 : Int32) (p1 : Int32) (p2 : Int32) (m_weight : Nat) (m_strength : Nat) (m_arm : Nat) (m_sex : Nat) (m_age : Nat) (m_likes : Nat) (m_rows : Nat) (m_drummer : Nat) (m_members : Nat) (m_beat : Nat) (m_member : Nat) (m_seated : Nat) (m_isSeated : Nat) (m_tape : Nat) (m_rTests : Nat) (m_tField : Nat) (m_tSign : Nat) (m_tNumber : Nat) (m_tNot : Nat) (m_tOr : Nat) (m_minute : Nat) (m_round : Nat) (m_laneCrew : Nat) (m_laneTime : Nat) (m_gone : Nat) (m_struck : Nat) (m_wasRun : Nat) (m_wait : Nat) (m_current : Nat) (m_finals : Nat) (m_bestTime : Nat) (m_inFinal : Nat) (m_pick : Nat) (m_found : Nat) (m_fresh : Nat) (m_at : Nat) : Met l yX10_change wsX10_change ({ frames := 1, cells := 0, slots := 0, locals := 21 }) (va_Pc [.ref h0, .int p0, .int p1, .int p2] (fun U => U.heap.size = sz ∧ va_P (dC, dI) vwCl [(h0, .inr (10, [.int 0, .int 0, .int 0, .int 0, .int 0, .int 10, .int 0, .int 0, .ref m_weight, .ref m_strength, .ref m_arm, .ref m_sex, .ref m_age, .ref m_likes, .ref m_rows, .ref m_drummer, .ref m_members, .ref m_beat, .ref m_member, .ref m_seated, .ref m_isSeated, .ref m_tape, .ref m_rTests, .ref m_tField, .ref m_tSign, .ref m_tNumber, .ref m_tNot, .ref m_tOr, .ref m_minute, .ref m_round, .ref m_laneCrew, .ref m_laneTime, .ref m_gone, .ref m_struck, .ref m_wasRun, .ref m_wait, .ref m_current, .ref m_finals, .ref m_bestTime, .ref m_inFinal, .ref m_pick, .ref m_found, .ref m_fresh, .ref m_at, .long 0, .long 0, .int 0, .int 0]))] U.heap ∧ va_K (dC, dI) vwCl [] U)) (va_Qi (fun (r : Int32) (_ : Unit) => r = (-100000)) (fun _ _ => True) (va_A ([] : va_W) sz)) 0 0 (va_A ([] : va_W) sz) := by
  refine Met.ofW (cc := cX10_change) (maxL := 5) (ret := (some .int)) (by decide) rfl ?_
  intro p e s m args below meth c s₁ B hml hv
  obtain ⟨rfl, hsz, hP, hK⟩ := hv
  have hx := B.exec
  have hb := B.bytes
  have hr := B.returns
  have hts := atoms_spec (ws := wsX10_change) B.pre
  have hown : s.vm.findClass RX10 = some m.cls := findClass_of_methodNamed B.named
  have hlocks := B.notSynchronized
  subst hsz
  generalize hAe : va_A ([] : va_W) s.heap.size = A
  have hA : ∀ q : Nat, s.heap.size ≤ q → A q := fun q h => by rw [← hAe]; exact Or.inr h
  have hS : va_S A s.heap s.heap [] := va_S.rf
  have hl := lv_entry ([.ref h0, .int p0, .int p1, .int p2]) (n := 5) (Nat.le_of_ble_eq_true rfl)
  rw [lg_entry_eq]
  generalize (lg_sl ([.ref h0, .int p0, .int p1, .int p2]) ++ List.replicate (5 - (lg_sl ([.ref h0, .int p0, .int p1, .int p2])).length) Slot.unset).toArray = ls at hl ⊢
  have hl : lv_has ls 5 [(0, .ref h0), (1, .int p0), (2, .int p1), (3, .int p2)] := hl
  refine lv_aload_n hx hb dX10_change_0 rfl (lv_at hl 0 rfl) ?_
  refine lv_iload_n hx hb dX10_change_1 rfl (lv_at hl 1 rfl) ?_
  have hPc := hP.sub (ws' := [(h0, .inr (10, [.int 0, .int 0, .int 0, .int 0, .int 0, .int 10, .int 0, .int 0, .ref m_weight, .ref m_strength, .ref m_arm, .ref m_sex, .ref m_age, .ref m_likes, .ref m_rows, .ref m_drummer, .ref m_members, .ref m_beat, .ref m_member, .ref m_seated, .ref m_isSeated, .ref m_tape, .ref m_rTests, .ref m_tField, .ref m_tSign, .ref m_tNumber, .ref m_tNot, .ref m_tOr, .ref m_minute, .ref m_round, .ref m_laneCrew, .ref m_laneTime, .ref m_gone, .ref m_struck, .ref m_wasRun, .ref m_wait, .ref m_current, .ref m_finals, .ref m_bestTime, .ref m_inFinal, .ref m_pick, .ref m_found, .ref m_fresh, .ref m_at, .long 0, .long 0, .int 0, .int 0]))]) [0] rfl
  have hKc := hK.sub (tys' := []) [] rfl
  have hFc := ro_free hS hA
  refine va_calli (va_runV (As := [.int p0]) (rest := []) ⟨hx, hb, hml, hown, hts⟩ (k_X10_isCrew l dC dI s.heap.size h0 p0 m_weight m_strength m_arm m_sex m_age m_likes m_rows m_drummer m_members m_beat m_member m_seated m_isSeated m_tape m_rTests m_tField m_tSign m_tNumber m_tNot m_tOr m_minute m_round m_laneCrew m_laneTime m_gone m_struck m_wasRun m_wait m_current m_finals m_bestTime m_inFinal m_pick m_found m_fresh m_at) (cwV 1 hts gX10_change_X10_isCrew rfl rfl rfl (by decide +kernel) ⟨(Nat.le_of_ble_eq_true rfl), (Nat.le_of_ble_eq_true rfl)⟩) ⟨fun a U g mk q => by obtain ⟨q0, q1, qP, qK⟩ := q; exact ⟨q0, q1, qP, va_K.moved (u := U) (U := U.calling g mk a) (Vm.Alike.refl U.vm) qK⟩, va_recv hKc hPc (ci := 10) (q0 := 0) rfl rfl, fun U hU hW => ⟨rfl, by rw [hU], by rw [hU]; exact hPc, va_K.moved hW.alike hKc⟩⟩ rfl rfl hl.1 rfl (lv_room (Nat.le_of_ble_eq_true rfl)) dX10_change_2 ⟨(Nat.le_of_ble_eq_true rfl), (Nat.le_of_ble_eq_true rfl)⟩) hS (fun q _ h => hFc q h) hFc (fun r u t H1 locs ht hvm hw hB hz1 hk1 hS => ?_)
  refine W.widen (k := 0) (n := 0) (Nat.le_of_ble_eq_true rfl) (Nat.le_of_ble_eq_true rfl) ?_
  have hP := P_ro hP hk1
  generalize H1 = H at hP hS ⊢
  subst hw
  refine lv_if_eq (tgt := 40) hx hb dX10_change_5 (by decide) (fun _ => ?_) (fun c9 => absurd c9 (by decide +kernel))
  refine lv_ldc (v := (-100000)) hx hb hown (hts (.constant RX10 150 (-100000)) (List.mem_of_getElem? (i := 2) rfl)) dX10_change_40 ?_
  refine W.widen (k := 0) (n := 0) (Nat.le_of_ble_eq_true rfl) (Nat.le_of_ble_eq_true rfl) ?_
  exact W.iret (v := (-100000)) hx hb hr (fun t ht hW => ⟨⟨(-100000), (), rfl, (by first | rfl | (exfalso; omega)), trivial⟩, hS.F ht⟩) hS.2.2 dX10_change_42

set_option maxHeartbeats 4000000 in
set_option maxRecDepth 100000 in
theorem k_X10_keeps (l : Launch) (dC : Nat → ClassId) (dI : Nat → Nat → Nat) (sz : Nat) (h0 : Nat) (p0 : Int32) (p1 : Int32) (m_weight : Nat) (m_strength : Nat) (m_arm : Nat) (m_sex : Nat) (m_age : Nat) (m_likes : Nat) (m_rows : Nat) (m_drummer : Nat) (m_members : Nat) (m_beat : Nat) (m_member : Nat) (m_seated : Nat) (m_isSeated : Nat) (m_tape : Nat) (m_rTests : Nat) (m_tField : Nat) (m_tSign : Nat) (m_tNumber : Nat) (m_tNot : Nat) (m_tOr : Nat) (m_minute : Nat) (m_round : Nat) (m_laneCrew : Nat) (m_laneTime : Nat) (m_gone : Nat) (m_struck : Nat) (m_wasRun : Nat) (m_wait : Nat) (m_current : Nat) (m_finals : Nat) (m_bestTime : Nat) (m_inFinal : Nat) (m_pick : Nat) (m_found : Nat) (m_fresh : Nat) (m_at : Nat) : Met l yX10_keeps wsX10_keeps ({ frames := 1, cells := 0, slots := 0, locals := 21 }) (va_Pc [.ref h0, .int p0, .int p1] (fun U => U.heap.size = sz ∧ va_P (dC, dI) vwCl [(h0, .inr (10, [.int 0, .int 0, .int 0, .int 0, .int 0, .int 10, .int 0, .int 0, .ref m_weight, .ref m_strength, .ref m_arm, .ref m_sex, .ref m_age, .ref m_likes, .ref m_rows, .ref m_drummer, .ref m_members, .ref m_beat, .ref m_member, .ref m_seated, .ref m_isSeated, .ref m_tape, .ref m_rTests, .ref m_tField, .ref m_tSign, .ref m_tNumber, .ref m_tNot, .ref m_tOr, .ref m_minute, .ref m_round, .ref m_laneCrew, .ref m_laneTime, .ref m_gone, .ref m_struck, .ref m_wasRun, .ref m_wait, .ref m_current, .ref m_finals, .ref m_bestTime, .ref m_inFinal, .ref m_pick, .ref m_found, .ref m_fresh, .ref m_at, .long 0, .long 0, .int 0, .int 0]))] U.heap ∧ va_K (dC, dI) vwCl [] U)) (va_Qi (fun (r : Int32) (_ : Unit) => r = (-1)) (fun _ _ => True) (va_A ([] : va_W) sz)) 0 0 (va_A ([] : va_W) sz) := by
  refine Met.ofW (cc := cX10_keeps) (maxL := 9) (ret := (some .int)) (by decide) rfl ?_
  intro p e s m args below meth c s₁ B hml hv
  obtain ⟨rfl, hsz, hP, hK⟩ := hv
  have hx := B.exec
  have hb := B.bytes
  have hr := B.returns
  have hts := atoms_spec (ws := wsX10_keeps) B.pre
  have hown : s.vm.findClass RX10 = some m.cls := findClass_of_methodNamed B.named
  have hlocks := B.notSynchronized
  subst hsz
  generalize hAe : va_A ([] : va_W) s.heap.size = A
  have hA : ∀ q : Nat, s.heap.size ≤ q → A q := fun q h => by rw [← hAe]; exact Or.inr h
  have hS : va_S A s.heap s.heap [] := va_S.rf
  have hl := lv_entry ([.ref h0, .int p0, .int p1]) (n := 9) (Nat.le_of_ble_eq_true rfl)
  rw [lg_entry_eq]
  generalize (lg_sl ([.ref h0, .int p0, .int p1]) ++ List.replicate (9 - (lg_sl ([.ref h0, .int p0, .int p1])).length) Slot.unset).toArray = ls at hl ⊢
  have hl : lv_has ls 9 [(0, .ref h0), (1, .int p0), (2, .int p1)] := hl
  refine lv_aload_n hx hb dX10_keeps_0 rfl (lv_at hl 0 rfl) ?_
  refine lv_iload_n hx hb dX10_keeps_1 rfl (lv_at hl 1 rfl) ?_
  have hPc := hP.sub (ws' := [(h0, .inr (10, [.int 0, .int 0, .int 0, .int 0, .int 0, .int 10, .int 0, .int 0, .ref m_weight, .ref m_strength, .ref m_arm, .ref m_sex, .ref m_age, .ref m_likes, .ref m_rows, .ref m_drummer, .ref m_members, .ref m_beat, .ref m_member, .ref m_seated, .ref m_isSeated, .ref m_tape, .ref m_rTests, .ref m_tField, .ref m_tSign, .ref m_tNumber, .ref m_tNot, .ref m_tOr, .ref m_minute, .ref m_round, .ref m_laneCrew, .ref m_laneTime, .ref m_gone, .ref m_struck, .ref m_wasRun, .ref m_wait, .ref m_current, .ref m_finals, .ref m_bestTime, .ref m_inFinal, .ref m_pick, .ref m_found, .ref m_fresh, .ref m_at, .long 0, .long 0, .int 0, .int 0]))]) [0] rfl
  have hKc := hK.sub (tys' := []) [] rfl
  have hFc := ro_free hS hA
  refine va_calli (va_runV (As := [.int p0]) (rest := []) ⟨hx, hb, hml, hown, hts⟩ (k_X10_isCrew l dC dI s.heap.size h0 p0 m_weight m_strength m_arm m_sex m_age m_likes m_rows m_drummer m_members m_beat m_member m_seated m_isSeated m_tape m_rTests m_tField m_tSign m_tNumber m_tNot m_tOr m_minute m_round m_laneCrew m_laneTime m_gone m_struck m_wasRun m_wait m_current m_finals m_bestTime m_inFinal m_pick m_found m_fresh m_at) (cwV 1 hts gX10_keeps_X10_isCrew rfl rfl rfl (by decide +kernel) ⟨(Nat.le_of_ble_eq_true rfl), (Nat.le_of_ble_eq_true rfl)⟩) ⟨fun a U g mk q => by obtain ⟨q0, q1, qP, qK⟩ := q; exact ⟨q0, q1, qP, va_K.moved (u := U) (U := U.calling g mk a) (Vm.Alike.refl U.vm) qK⟩, va_recv hKc hPc (ci := 10) (q0 := 0) rfl rfl, fun U hU hW => ⟨rfl, by rw [hU], by rw [hU]; exact hPc, va_K.moved hW.alike hKc⟩⟩ rfl rfl hl.1 rfl (lv_room (Nat.le_of_ble_eq_true rfl)) dX10_keeps_2 ⟨(Nat.le_of_ble_eq_true rfl), (Nat.le_of_ble_eq_true rfl)⟩) hS (fun q _ h => hFc q h) hFc (fun r u t H1 locs ht hvm hw hB hz1 hk1 hS => ?_)
  refine W.widen (k := 0) (n := 0) (Nat.le_of_ble_eq_true rfl) (Nat.le_of_ble_eq_true rfl) ?_
  have hP := P_ro hP hk1
  generalize H1 = H at hP hS ⊢
  subst hw
  refine lv_if_eq (tgt := 20) hx hb dX10_keeps_5 (by decide) (fun _ => ?_) (fun c9 => absurd c9 (by decide +kernel))
  refine lv_iconst (v := (-1)) hx hb dX10_keeps_20 (by decide +kernel) ?_
  refine W.widen (k := 0) (n := 0) (Nat.le_of_ble_eq_true rfl) (Nat.le_of_ble_eq_true rfl) ?_
  exact W.iret (v := (-1)) hx hb hr (fun t ht hW => ⟨⟨(-1), (), rfl, (by first | rfl | (exfalso; omega)), trivial⟩, hS.F ht⟩) hS.2.2 dX10_keeps_21

set_option maxHeartbeats 4000000 in
set_option maxRecDepth 100000 in
theorem k_X10_lane (l : Launch) (dC : Nat → ClassId) (dI : Nat → Nat → Nat) (sz : Nat) (h0 : Nat) (p0 : Int32) (p1 : Int32) (m_weight : Nat) (m_strength : Nat) (m_arm : Nat) (m_sex : Nat) (m_age : Nat) (m_likes : Nat) (m_rows : Nat) (m_drummer : Nat) (m_members : Nat) (m_beat : Nat) (m_member : Nat) (m_seated : Nat) (m_isSeated : Nat) (m_tape : Nat) (m_rTests : Nat) (m_tField : Nat) (m_tSign : Nat) (m_tNumber : Nat) (m_tNot : Nat) (m_tOr : Nat) (m_minute : Nat) (m_round : Nat) (m_laneCrew : Nat) (m_laneTime : Nat) (m_gone : Nat) (m_struck : Nat) (m_wasRun : Nat) (m_wait : Nat) (m_current : Nat) (m_finals : Nat) (m_bestTime : Nat) (m_inFinal : Nat) (m_pick : Nat) (m_found : Nat) (m_fresh : Nat) (m_at : Nat) : Met l yX10_lane wsX10_lane ({ frames := 1, cells := 0, slots := 0, locals := 21 }) (va_Pc [.ref h0, .int p0, .int p1] (fun U => U.heap.size = sz ∧ va_P (dC, dI) vwCl [(h0, .inr (10, [.int 0, .int 0, .int 0, .int 0, .int 0, .int 10, .int 0, .int 0, .ref m_weight, .ref m_strength, .ref m_arm, .ref m_sex, .ref m_age, .ref m_likes, .ref m_rows, .ref m_drummer, .ref m_members, .ref m_beat, .ref m_member, .ref m_seated, .ref m_isSeated, .ref m_tape, .ref m_rTests, .ref m_tField, .ref m_tSign, .ref m_tNumber, .ref m_tNot, .ref m_tOr, .ref m_minute, .ref m_round, .ref m_laneCrew, .ref m_laneTime, .ref m_gone, .ref m_struck, .ref m_wasRun, .ref m_wait, .ref m_current, .ref m_finals, .ref m_bestTime, .ref m_inFinal, .ref m_pick, .ref m_found, .ref m_fresh, .ref m_at, .long 0, .long 0, .int 0, .int 0]))] U.heap ∧ va_K (dC, dI) vwCl [] U)) (va_Qi (fun (r : Int32) (_ : Unit) => r = (-1)) (fun _ _ => True) (va_A ([] : va_W) sz)) 0 0 (va_A ([] : va_W) sz) := by
  refine Met.ofW (cc := cX10_lane) (maxL := 4) (ret := (some .int)) (by decide) rfl ?_
  intro p e s m args below meth c s₁ B hml hv
  obtain ⟨rfl, hsz, hP, hK⟩ := hv
  have hx := B.exec
  have hb := B.bytes
  have hr := B.returns
  have hts := atoms_spec (ws := wsX10_lane) B.pre
  have hown : s.vm.findClass RX10 = some m.cls := findClass_of_methodNamed B.named
  have hlocks := B.notSynchronized
  subst hsz
  generalize hAe : va_A ([] : va_W) s.heap.size = A
  have hA : ∀ q : Nat, s.heap.size ≤ q → A q := fun q h => by rw [← hAe]; exact Or.inr h
  have hS : va_S A s.heap s.heap [] := va_S.rf
  have hl := lv_entry ([.ref h0, .int p0, .int p1]) (n := 4) (Nat.le_of_ble_eq_true rfl)
  rw [lg_entry_eq]
  generalize (lg_sl ([.ref h0, .int p0, .int p1]) ++ List.replicate (4 - (lg_sl ([.ref h0, .int p0, .int p1])).length) Slot.unset).toArray = ls at hl ⊢
  have hl : lv_has ls 4 [(0, .ref h0), (1, .int p0), (2, .int p1)] := hl
  refine lv_aload_n hx hb dX10_lane_0 rfl (lv_at hl 0 rfl) ?_
  refine lv_iload_n hx hb dX10_lane_1 rfl (lv_at hl 1 rfl) ?_
  have hPc := hP.sub (ws' := [(h0, .inr (10, [.int 0, .int 0, .int 0, .int 0, .int 0, .int 10, .int 0, .int 0, .ref m_weight, .ref m_strength, .ref m_arm, .ref m_sex, .ref m_age, .ref m_likes, .ref m_rows, .ref m_drummer, .ref m_members, .ref m_beat, .ref m_member, .ref m_seated, .ref m_isSeated, .ref m_tape, .ref m_rTests, .ref m_tField, .ref m_tSign, .ref m_tNumber, .ref m_tNot, .ref m_tOr, .ref m_minute, .ref m_round, .ref m_laneCrew, .ref m_laneTime, .ref m_gone, .ref m_struck, .ref m_wasRun, .ref m_wait, .ref m_current, .ref m_finals, .ref m_bestTime, .ref m_inFinal, .ref m_pick, .ref m_found, .ref m_fresh, .ref m_at, .long 0, .long 0, .int 0, .int 0]))]) [0] rfl
  have hKc := hK.sub (tys' := []) [] rfl
  have hFc := ro_free hS hA
  refine va_calli (va_runV (As := [.int p0]) (rest := []) ⟨hx, hb, hml, hown, hts⟩ (k_X10_isCrew l dC dI s.heap.size h0 p0 m_weight m_strength m_arm m_sex m_age m_likes m_rows m_drummer m_members m_beat m_member m_seated m_isSeated m_tape m_rTests m_tField m_tSign m_tNumber m_tNot m_tOr m_minute m_round m_laneCrew m_laneTime m_gone m_struck m_wasRun m_wait m_current m_finals m_bestTime m_inFinal m_pick m_found m_fresh m_at) (cwV 1 hts gX10_lane_X10_isCrew rfl rfl rfl (by decide +kernel) ⟨(Nat.le_of_ble_eq_true rfl), (Nat.le_of_ble_eq_true rfl)⟩) ⟨fun a U g mk q => by obtain ⟨q0, q1, qP, qK⟩ := q; exact ⟨q0, q1, qP, va_K.moved (u := U) (U := U.calling g mk a) (Vm.Alike.refl U.vm) qK⟩, va_recv hKc hPc (ci := 10) (q0 := 0) rfl rfl, fun U hU hW => ⟨rfl, by rw [hU], by rw [hU]; exact hPc, va_K.moved hW.alike hKc⟩⟩ rfl rfl hl.1 rfl (lv_room (Nat.le_of_ble_eq_true rfl)) dX10_lane_2 ⟨(Nat.le_of_ble_eq_true rfl), (Nat.le_of_ble_eq_true rfl)⟩) hS (fun q _ h => hFc q h) hFc (fun r u t H1 locs ht hvm hw hB hz1 hk1 hS => ?_)
  refine W.widen (k := 0) (n := 0) (Nat.le_of_ble_eq_true rfl) (Nat.le_of_ble_eq_true rfl) ?_
  have hP := P_ro hP hk1
  generalize H1 = H at hP hS ⊢
  subst hw
  refine lv_if_eq (tgt := 17) hx hb dX10_lane_5 (by decide) (fun _ => ?_) (fun c9 => absurd c9 (by decide +kernel))
  refine lv_iconst (v := (-1)) hx hb dX10_lane_17 (by decide +kernel) ?_
  refine W.widen (k := 0) (n := 0) (Nat.le_of_ble_eq_true rfl) (Nat.le_of_ble_eq_true rfl) ?_
  exact W.iret (v := (-1)) hx hb hr (fun t ht hW => ⟨⟨(-1), (), rfl, (by first | rfl | (exfalso; omega)), trivial⟩, hS.F ht⟩) hS.2.2 dX10_lane_18

set_option maxHeartbeats 4000000 in
set_option maxRecDepth 100000 in
theorem k_X10_run (l : Launch) (dC : Nat → ClassId) (dI : Nat → Nat → Nat) (sz : Nat) (h0 : Nat) (p0 : Int32) (p1 : Int32) (m_weight : Nat) (m_strength : Nat) (m_arm : Nat) (m_sex : Nat) (m_age : Nat) (m_likes : Nat) (m_rows : Nat) (m_drummer : Nat) (m_members : Nat) (m_beat : Nat) (m_member : Nat) (m_seated : Nat) (m_isSeated : Nat) (m_tape : Nat) (m_rTests : Nat) (m_tField : Nat) (m_tSign : Nat) (m_tNumber : Nat) (m_tNot : Nat) (m_tOr : Nat) (m_minute : Nat) (m_round : Nat) (m_laneCrew : Nat) (m_laneTime : Nat) (m_gone : Nat) (m_struck : Nat) (m_wasRun : Nat) (m_wait : Nat) (m_current : Nat) (m_finals : Nat) (m_bestTime : Nat) (m_inFinal : Nat) (m_pick : Nat) (m_found : Nat) (m_fresh : Nat) (m_at : Nat) : Met l yX10_run wsX10_run ({ frames := 1, cells := 0, slots := 0, locals := 21 }) (va_Pc [.ref h0, .int p0, .int p1] (fun U => U.heap.size = sz ∧ va_P (dC, dI) vwCl [(h0, .inr (10, [.int 0, .int 0, .int 0, .int 0, .int 0, .int 10, .int 0, .int 0, .ref m_weight, .ref m_strength, .ref m_arm, .ref m_sex, .ref m_age, .ref m_likes, .ref m_rows, .ref m_drummer, .ref m_members, .ref m_beat, .ref m_member, .ref m_seated, .ref m_isSeated, .ref m_tape, .ref m_rTests, .ref m_tField, .ref m_tSign, .ref m_tNumber, .ref m_tNot, .ref m_tOr, .ref m_minute, .ref m_round, .ref m_laneCrew, .ref m_laneTime, .ref m_gone, .ref m_struck, .ref m_wasRun, .ref m_wait, .ref m_current, .ref m_finals, .ref m_bestTime, .ref m_inFinal, .ref m_pick, .ref m_found, .ref m_fresh, .ref m_at, .long 0, .long 0, .int 0, .int 0]))] U.heap ∧ va_K (dC, dI) vwCl [] U)) (va_Qi (fun (r : Int32) (_ : Unit) => r = (-1)) (fun _ _ => True) (va_A ([] : va_W) sz)) 0 0 (va_A ([] : va_W) sz) := by
  refine Met.ofW (cc := cX10_run) (maxL := 6) (ret := (some .int)) (by decide) rfl ?_
  intro p e s m args below meth c s₁ B hml hv
  obtain ⟨rfl, hsz, hP, hK⟩ := hv
  have hx := B.exec
  have hb := B.bytes
  have hr := B.returns
  have hts := atoms_spec (ws := wsX10_run) B.pre
  have hown : s.vm.findClass RX10 = some m.cls := findClass_of_methodNamed B.named
  have hlocks := B.notSynchronized
  subst hsz
  generalize hAe : va_A ([] : va_W) s.heap.size = A
  have hA : ∀ q : Nat, s.heap.size ≤ q → A q := fun q h => by rw [← hAe]; exact Or.inr h
  have hS : va_S A s.heap s.heap [] := va_S.rf
  have hl := lv_entry ([.ref h0, .int p0, .int p1]) (n := 6) (Nat.le_of_ble_eq_true rfl)
  rw [lg_entry_eq]
  generalize (lg_sl ([.ref h0, .int p0, .int p1]) ++ List.replicate (6 - (lg_sl ([.ref h0, .int p0, .int p1])).length) Slot.unset).toArray = ls at hl ⊢
  have hl : lv_has ls 6 [(0, .ref h0), (1, .int p0), (2, .int p1)] := hl
  refine lv_aload_n hx hb dX10_run_0 rfl (lv_at hl 0 rfl) ?_
  refine lv_iload_n hx hb dX10_run_1 rfl (lv_at hl 1 rfl) ?_
  have hPc := hP.sub (ws' := [(h0, .inr (10, [.int 0, .int 0, .int 0, .int 0, .int 0, .int 10, .int 0, .int 0, .ref m_weight, .ref m_strength, .ref m_arm, .ref m_sex, .ref m_age, .ref m_likes, .ref m_rows, .ref m_drummer, .ref m_members, .ref m_beat, .ref m_member, .ref m_seated, .ref m_isSeated, .ref m_tape, .ref m_rTests, .ref m_tField, .ref m_tSign, .ref m_tNumber, .ref m_tNot, .ref m_tOr, .ref m_minute, .ref m_round, .ref m_laneCrew, .ref m_laneTime, .ref m_gone, .ref m_struck, .ref m_wasRun, .ref m_wait, .ref m_current, .ref m_finals, .ref m_bestTime, .ref m_inFinal, .ref m_pick, .ref m_found, .ref m_fresh, .ref m_at, .long 0, .long 0, .int 0, .int 0]))]) [0] rfl
  have hKc := hK.sub (tys' := []) [] rfl
  have hFc := ro_free hS hA
  refine va_calli (va_runV (As := [.int p0]) (rest := []) ⟨hx, hb, hml, hown, hts⟩ (k_X10_isRace l dC dI s.heap.size h0 p0 m_weight m_strength m_arm m_sex m_age m_likes m_rows m_drummer m_members m_beat m_member m_seated m_isSeated m_tape m_rTests m_tField m_tSign m_tNumber m_tNot m_tOr m_minute m_round m_laneCrew m_laneTime m_gone m_struck m_wasRun m_wait m_current m_finals m_bestTime m_inFinal m_pick m_found m_fresh m_at) (cwV 1 hts gX10_run_X10_isRace rfl rfl rfl (by decide +kernel) ⟨(Nat.le_of_ble_eq_true rfl), (Nat.le_of_ble_eq_true rfl)⟩) ⟨fun a U g mk q => by obtain ⟨q0, q1, qP, qK⟩ := q; exact ⟨q0, q1, qP, va_K.moved (u := U) (U := U.calling g mk a) (Vm.Alike.refl U.vm) qK⟩, va_recv hKc hPc (ci := 10) (q0 := 0) rfl rfl, fun U hU hW => ⟨rfl, by rw [hU], by rw [hU]; exact hPc, va_K.moved hW.alike hKc⟩⟩ rfl rfl hl.1 rfl (lv_room (Nat.le_of_ble_eq_true rfl)) dX10_run_2 ⟨(Nat.le_of_ble_eq_true rfl), (Nat.le_of_ble_eq_true rfl)⟩) hS (fun q _ h => hFc q h) hFc (fun r u t H1 locs ht hvm hw hB hz1 hk1 hS => ?_)
  refine W.widen (k := 0) (n := 0) (Nat.le_of_ble_eq_true rfl) (Nat.le_of_ble_eq_true rfl) ?_
  have hP := P_ro hP hk1
  generalize H1 = H at hP hS ⊢
  subst hw
  refine lv_if_ne (tgt := 10) hx hb dX10_run_5 (by decide) (fun c9 => absurd c9 (by decide +kernel)) (fun _ => ?_)
  refine lv_iconst (v := (-1)) hx hb dX10_run_8 (by decide +kernel) ?_
  refine W.widen (k := 0) (n := 0) (Nat.le_of_ble_eq_true rfl) (Nat.le_of_ble_eq_true rfl) ?_
  exact W.iret (v := (-1)) hx hb hr (fun t ht hW => ⟨⟨(-1), (), rfl, (by first | rfl | (exfalso; omega)), trivial⟩, hS.F ht⟩) hS.2.2 dX10_run_9

set_option maxHeartbeats 4000000 in
set_option maxRecDepth 100000 in
theorem k_X10_time (l : Launch) (dC : Nat → ClassId) (dI : Nat → Nat → Nat) (sz : Nat) (h0 : Nat) (p0 : Int32) (p1 : Int32) (p2 : Int32) (m_weight : Nat) (m_strength : Nat) (m_arm : Nat) (m_sex : Nat) (m_age : Nat) (m_likes : Nat) (m_rows : Nat) (m_drummer : Nat) (m_members : Nat) (m_beat : Nat) (m_member : Nat) (m_seated : Nat) (m_isSeated : Nat) (m_tape : Nat) (m_rTests : Nat) (m_tField : Nat) (m_tSign : Nat) (m_tNumber : Nat) (m_tNot : Nat) (m_tOr : Nat) (m_minute : Nat) (m_round : Nat) (m_laneCrew : Nat) (m_laneTime : Nat) (m_gone : Nat) (m_struck : Nat) (m_wasRun : Nat) (m_wait : Nat) (m_current : Nat) (m_finals : Nat) (m_bestTime : Nat) (m_inFinal : Nat) (m_pick : Nat) (m_found : Nat) (m_fresh : Nat) (m_at : Nat) : Met l yX10_time wsX10_time ({ frames := 2, cells := 0, slots := 0, locals := 43 }) (va_Pc [.ref h0, .int p0, .int p1, .int p2] (fun U => U.heap.size = sz ∧ va_P (dC, dI) vwCl [(h0, .inr (10, [.int 0, .int 0, .int 0, .int 0, .int 0, .int 10, .int 0, .int 0, .ref m_weight, .ref m_strength, .ref m_arm, .ref m_sex, .ref m_age, .ref m_likes, .ref m_rows, .ref m_drummer, .ref m_members, .ref m_beat, .ref m_member, .ref m_seated, .ref m_isSeated, .ref m_tape, .ref m_rTests, .ref m_tField, .ref m_tSign, .ref m_tNumber, .ref m_tNot, .ref m_tOr, .ref m_minute, .ref m_round, .ref m_laneCrew, .ref m_laneTime, .ref m_gone, .ref m_struck, .ref m_wasRun, .ref m_wait, .ref m_current, .ref m_finals, .ref m_bestTime, .ref m_inFinal, .ref m_pick, .ref m_found, .ref m_fresh, .ref m_at, .long 0, .long 0, .int 0, .int 0]))] U.heap ∧ va_K (dC, dI) vwCl [] U)) (va_Qi (fun (r : Int32) (_ : Unit) => r = (-1)) (fun _ _ => True) (va_A ([] : va_W) sz)) 0 0 (va_A ([] : va_W) sz) := by
  refine Met.ofW (cc := cX10_time) (maxL := 5) (ret := (some .int)) (by decide) rfl ?_
  intro p e s m args below meth c s₁ B hml hv
  obtain ⟨rfl, hsz, hP, hK⟩ := hv
  have hx := B.exec
  have hb := B.bytes
  have hr := B.returns
  have hts := atoms_spec (ws := wsX10_time) B.pre
  have hown : s.vm.findClass RX10 = some m.cls := findClass_of_methodNamed B.named
  have hlocks := B.notSynchronized
  subst hsz
  generalize hAe : va_A ([] : va_W) s.heap.size = A
  have hA : ∀ q : Nat, s.heap.size ≤ q → A q := fun q h => by rw [← hAe]; exact Or.inr h
  have hS : va_S A s.heap s.heap [] := va_S.rf
  have hl := lv_entry ([.ref h0, .int p0, .int p1, .int p2]) (n := 5) (Nat.le_of_ble_eq_true rfl)
  rw [lg_entry_eq]
  generalize (lg_sl ([.ref h0, .int p0, .int p1, .int p2]) ++ List.replicate (5 - (lg_sl ([.ref h0, .int p0, .int p1, .int p2])).length) Slot.unset).toArray = ls at hl ⊢
  have hl : lv_has ls 5 [(0, .ref h0), (1, .int p0), (2, .int p1), (3, .int p2)] := hl
  refine lv_aload_n hx hb dX10_time_0 rfl (lv_at hl 0 rfl) ?_
  refine lv_iload_n hx hb dX10_time_1 rfl (lv_at hl 1 rfl) ?_
  refine lv_iload_n hx hb dX10_time_2 rfl (lv_at hl 2 rfl) ?_
  have hPc := hP.sub (ws' := [(h0, .inr (10, [.int 0, .int 0, .int 0, .int 0, .int 0, .int 10, .int 0, .int 0, .ref m_weight, .ref m_strength, .ref m_arm, .ref m_sex, .ref m_age, .ref m_likes, .ref m_rows, .ref m_drummer, .ref m_members, .ref m_beat, .ref m_member, .ref m_seated, .ref m_isSeated, .ref m_tape, .ref m_rTests, .ref m_tField, .ref m_tSign, .ref m_tNumber, .ref m_tNot, .ref m_tOr, .ref m_minute, .ref m_round, .ref m_laneCrew, .ref m_laneTime, .ref m_gone, .ref m_struck, .ref m_wasRun, .ref m_wait, .ref m_current, .ref m_finals, .ref m_bestTime, .ref m_inFinal, .ref m_pick, .ref m_found, .ref m_fresh, .ref m_at, .long 0, .long 0, .int 0, .int 0]))]) [0] rfl
  have hKc := hK.sub (tys' := []) [] rfl
  have hFc := ro_free hS hA
  refine va_calli (va_runV (As := [.int p0, .int p1]) (rest := []) ⟨hx, hb, hml, hown, hts⟩ (k_X10_isIn l dC dI s.heap.size h0 p0 p1 m_weight m_strength m_arm m_sex m_age m_likes m_rows m_drummer m_members m_beat m_member m_seated m_isSeated m_tape m_rTests m_tField m_tSign m_tNumber m_tNot m_tOr m_minute m_round m_laneCrew m_laneTime m_gone m_struck m_wasRun m_wait m_current m_finals m_bestTime m_inFinal m_pick m_found m_fresh m_at) (cwV 2 hts gX10_time_X10_isIn rfl rfl rfl (by decide +kernel) ⟨(Nat.le_of_ble_eq_true rfl), (Nat.le_of_ble_eq_true rfl)⟩) ⟨fun a U g mk q => by obtain ⟨q0, q1, qP, qK⟩ := q; exact ⟨q0, q1, qP, va_K.moved (u := U) (U := U.calling g mk a) (Vm.Alike.refl U.vm) qK⟩, va_recv hKc hPc (ci := 10) (q0 := 0) rfl rfl, fun U hU hW => ⟨rfl, by rw [hU], by rw [hU]; exact hPc, va_K.moved hW.alike hKc⟩⟩ rfl rfl hl.1 rfl (lv_room (Nat.le_of_ble_eq_true rfl)) dX10_time_3 ⟨(Nat.le_of_ble_eq_true rfl), (Nat.le_of_ble_eq_true rfl)⟩) hS (fun q _ h => hFc q h) hFc (fun r u t H1 locs ht hvm hw hB hz1 hk1 hS => ?_)
  refine W.widen (k := 0) (n := 0) (Nat.le_of_ble_eq_true rfl) (Nat.le_of_ble_eq_true rfl) ?_
  have hP := P_ro hP hk1
  generalize H1 = H at hP hS ⊢
  subst hw
  refine lv_if_ne (tgt := 11) hx hb dX10_time_6 (by decide) (fun c9 => absurd c9 (by decide +kernel)) (fun _ => ?_)
  refine lv_iconst (v := (-1)) hx hb dX10_time_9 (by decide +kernel) ?_
  refine W.widen (k := 0) (n := 0) (Nat.le_of_ble_eq_true rfl) (Nat.le_of_ble_eq_true rfl) ?_
  exact W.iret (v := (-1)) hx hb hr (fun t ht hW => ⟨⟨(-1), (), rfl, (by first | rfl | (exfalso; omega)), trivial⟩, hS.F ht⟩) hS.2.2 dX10_time_10

set_option maxHeartbeats 4000000 in
set_option maxRecDepth 100000 in
theorem k_X10_told (l : Launch) (dC : Nat → ClassId) (dI : Nat → Nat → Nat) (sz : Nat) (h0 : Nat) (p0 : Int32) (p1 : Int32) (p2 : Int32) (m_weight : Nat) (m_strength : Nat) (m_arm : Nat) (m_sex : Nat) (m_age : Nat) (m_likes : Nat) (m_rows : Nat) (m_drummer : Nat) (m_members : Nat) (m_beat : Nat) (m_member : Nat) (m_seated : Nat) (m_isSeated : Nat) (m_tape : Nat) (m_rTests : Nat) (m_tField : Nat) (m_tSign : Nat) (m_tNumber : Nat) (m_tNot : Nat) (m_tOr : Nat) (m_minute : Nat) (m_round : Nat) (m_laneCrew : Nat) (m_laneTime : Nat) (m_gone : Nat) (m_struck : Nat) (m_wasRun : Nat) (m_wait : Nat) (m_current : Nat) (m_finals : Nat) (m_bestTime : Nat) (m_inFinal : Nat) (m_pick : Nat) (m_found : Nat) (m_fresh : Nat) (m_at : Nat) : Met l yX10_told wsX10_told ({ frames := 2, cells := 0, slots := 0, locals := 43 }) (va_Pc [.ref h0, .int p0, .int p1, .int p2] (fun U => U.heap.size = sz ∧ va_P (dC, dI) vwCl [(h0, .inr (10, [.int 0, .int 0, .int 0, .int 0, .int 0, .int 10, .int 0, .int 0, .ref m_weight, .ref m_strength, .ref m_arm, .ref m_sex, .ref m_age, .ref m_likes, .ref m_rows, .ref m_drummer, .ref m_members, .ref m_beat, .ref m_member, .ref m_seated, .ref m_isSeated, .ref m_tape, .ref m_rTests, .ref m_tField, .ref m_tSign, .ref m_tNumber, .ref m_tNot, .ref m_tOr, .ref m_minute, .ref m_round, .ref m_laneCrew, .ref m_laneTime, .ref m_gone, .ref m_struck, .ref m_wasRun, .ref m_wait, .ref m_current, .ref m_finals, .ref m_bestTime, .ref m_inFinal, .ref m_pick, .ref m_found, .ref m_fresh, .ref m_at, .long 0, .long 0, .int 0, .int 0]))] U.heap ∧ va_K (dC, dI) vwCl [] U)) (va_Qi (fun (r : Int32) (_ : Unit) => r = (-1)) (fun _ _ => True) (va_A ([] : va_W) sz)) 0 0 (va_A ([] : va_W) sz) := by
  refine Met.ofW (cc := cX10_told) (maxL := 4) (ret := (some .int)) (by decide) rfl ?_
  intro p e s m args below meth c s₁ B hml hv
  obtain ⟨rfl, hsz, hP, hK⟩ := hv
  have hx := B.exec
  have hb := B.bytes
  have hr := B.returns
  have hts := atoms_spec (ws := wsX10_told) B.pre
  have hown : s.vm.findClass RX10 = some m.cls := findClass_of_methodNamed B.named
  have hlocks := B.notSynchronized
  subst hsz
  generalize hAe : va_A ([] : va_W) s.heap.size = A
  have hA : ∀ q : Nat, s.heap.size ≤ q → A q := fun q h => by rw [← hAe]; exact Or.inr h
  have hS : va_S A s.heap s.heap [] := va_S.rf
  have hl := lv_entry ([.ref h0, .int p0, .int p1, .int p2]) (n := 4) (Nat.le_of_ble_eq_true rfl)
  rw [lg_entry_eq]
  generalize (lg_sl ([.ref h0, .int p0, .int p1, .int p2]) ++ List.replicate (4 - (lg_sl ([.ref h0, .int p0, .int p1, .int p2])).length) Slot.unset).toArray = ls at hl ⊢
  have hl : lv_has ls 4 [(0, .ref h0), (1, .int p0), (2, .int p1), (3, .int p2)] := hl
  refine lv_aload_n hx hb dX10_told_0 rfl (lv_at hl 0 rfl) ?_
  refine lv_iload_n hx hb dX10_told_1 rfl (lv_at hl 1 rfl) ?_
  refine lv_iload_n hx hb dX10_told_2 rfl (lv_at hl 2 rfl) ?_
  have hPc := hP.sub (ws' := [(h0, .inr (10, [.int 0, .int 0, .int 0, .int 0, .int 0, .int 10, .int 0, .int 0, .ref m_weight, .ref m_strength, .ref m_arm, .ref m_sex, .ref m_age, .ref m_likes, .ref m_rows, .ref m_drummer, .ref m_members, .ref m_beat, .ref m_member, .ref m_seated, .ref m_isSeated, .ref m_tape, .ref m_rTests, .ref m_tField, .ref m_tSign, .ref m_tNumber, .ref m_tNot, .ref m_tOr, .ref m_minute, .ref m_round, .ref m_laneCrew, .ref m_laneTime, .ref m_gone, .ref m_struck, .ref m_wasRun, .ref m_wait, .ref m_current, .ref m_finals, .ref m_bestTime, .ref m_inFinal, .ref m_pick, .ref m_found, .ref m_fresh, .ref m_at, .long 0, .long 0, .int 0, .int 0]))]) [0] rfl
  have hKc := hK.sub (tys' := []) [] rfl
  have hFc := ro_free hS hA
  refine va_calli (va_runV (As := [.int p0, .int p1]) (rest := []) ⟨hx, hb, hml, hown, hts⟩ (k_X10_isIn l dC dI s.heap.size h0 p0 p1 m_weight m_strength m_arm m_sex m_age m_likes m_rows m_drummer m_members m_beat m_member m_seated m_isSeated m_tape m_rTests m_tField m_tSign m_tNumber m_tNot m_tOr m_minute m_round m_laneCrew m_laneTime m_gone m_struck m_wasRun m_wait m_current m_finals m_bestTime m_inFinal m_pick m_found m_fresh m_at) (cwV 2 hts gX10_told_X10_isIn rfl rfl rfl (by decide +kernel) ⟨(Nat.le_of_ble_eq_true rfl), (Nat.le_of_ble_eq_true rfl)⟩) ⟨fun a U g mk q => by obtain ⟨q0, q1, qP, qK⟩ := q; exact ⟨q0, q1, qP, va_K.moved (u := U) (U := U.calling g mk a) (Vm.Alike.refl U.vm) qK⟩, va_recv hKc hPc (ci := 10) (q0 := 0) rfl rfl, fun U hU hW => ⟨rfl, by rw [hU], by rw [hU]; exact hPc, va_K.moved hW.alike hKc⟩⟩ rfl rfl hl.1 rfl (lv_room (Nat.le_of_ble_eq_true rfl)) dX10_told_3 ⟨(Nat.le_of_ble_eq_true rfl), (Nat.le_of_ble_eq_true rfl)⟩) hS (fun q _ h => hFc q h) hFc (fun r u t H1 locs ht hvm hw hB hz1 hk1 hS => ?_)
  refine W.widen (k := 0) (n := 0) (Nat.le_of_ble_eq_true rfl) (Nat.le_of_ble_eq_true rfl) ?_
  have hP := P_ro hP hk1
  generalize H1 = H at hP hS ⊢
  subst hw
  refine lv_if_ne (tgt := 11) hx hb dX10_told_6 (by decide) (fun c9 => absurd c9 (by decide +kernel)) (fun _ => ?_)
  refine lv_iconst (v := (-1)) hx hb dX10_told_9 (by decide +kernel) ?_
  refine W.widen (k := 0) (n := 0) (Nat.le_of_ble_eq_true rfl) (Nat.le_of_ble_eq_true rfl) ?_
  exact W.iret (v := (-1)) hx hb hr (fun t ht hW => ⟨⟨(-1), (), rfl, (by first | rfl | (exfalso; omega)), trivial⟩, hS.F ht⟩) hS.2.2 dX10_told_10

set_option maxHeartbeats 4000000 in
set_option maxRecDepth 100000 in
theorem k_X10_again (l : Launch) (dC : Nat → ClassId) (dI : Nat → Nat → Nat) (sz : Nat) (h0 : Nat) (p0 : Int32) (m_weight : Nat) (m_strength : Nat) (m_arm : Nat) (m_sex : Nat) (m_age : Nat) (m_likes : Nat) (m_rows : Nat) (m_drummer : Nat) (m_members : Nat) (m_beat : Nat) (m_member : Nat) (m_seated : Nat) (m_isSeated : Nat) (m_tape : Nat) (m_rTests : Nat) (m_tField : Nat) (m_tSign : Nat) (m_tNumber : Nat) (m_tNot : Nat) (m_tOr : Nat) (m_minute : Nat) (m_round : Nat) (m_laneCrew : Nat) (m_laneTime : Nat) (m_gone : Nat) (m_struck : Nat) (m_wasRun : Nat) (m_wait : Nat) (m_current : Nat) (m_finals : Nat) (m_bestTime : Nat) (m_inFinal : Nat) (m_pick : Nat) (m_found : Nat) (m_fresh : Nat) (m_at : Nat) : Met l yX10_again wsX10_again ({ frames := 1, cells := 0, slots := 0, locals := 21 }) (va_Pc [.ref h0, .int p0] (fun U => U.heap.size = sz ∧ va_P (dC, dI) vwCl [(h0, .inr (10, [.int 0, .int 0, .int 0, .int 0, .int 0, .int 10, .int 0, .int 0, .ref m_weight, .ref m_strength, .ref m_arm, .ref m_sex, .ref m_age, .ref m_likes, .ref m_rows, .ref m_drummer, .ref m_members, .ref m_beat, .ref m_member, .ref m_seated, .ref m_isSeated, .ref m_tape, .ref m_rTests, .ref m_tField, .ref m_tSign, .ref m_tNumber, .ref m_tNot, .ref m_tOr, .ref m_minute, .ref m_round, .ref m_laneCrew, .ref m_laneTime, .ref m_gone, .ref m_struck, .ref m_wasRun, .ref m_wait, .ref m_current, .ref m_finals, .ref m_bestTime, .ref m_inFinal, .ref m_pick, .ref m_found, .ref m_fresh, .ref m_at, .long 0, .long 0, .int 0, .int 0]))] U.heap ∧ va_K (dC, dI) vwCl [] U)) (va_Qi (fun (r : Int32) (_ : Unit) => r = (-1)) (fun _ _ => True) (va_A ([] : va_W) sz)) 0 0 (va_A ([] : va_W) sz) := by
  refine Met.ofW (cc := cX10_again) (maxL := 4) (ret := (some .int)) (by decide) rfl ?_
  intro p e s m args below meth c s₁ B hml hv
  obtain ⟨rfl, hsz, hP, hK⟩ := hv
  have hx := B.exec
  have hb := B.bytes
  have hr := B.returns
  have hts := atoms_spec (ws := wsX10_again) B.pre
  have hown : s.vm.findClass RX10 = some m.cls := findClass_of_methodNamed B.named
  have hlocks := B.notSynchronized
  subst hsz
  generalize hAe : va_A ([] : va_W) s.heap.size = A
  have hA : ∀ q : Nat, s.heap.size ≤ q → A q := fun q h => by rw [← hAe]; exact Or.inr h
  have hS : va_S A s.heap s.heap [] := va_S.rf
  have hl := lv_entry ([.ref h0, .int p0]) (n := 4) (Nat.le_of_ble_eq_true rfl)
  rw [lg_entry_eq]
  generalize (lg_sl ([.ref h0, .int p0]) ++ List.replicate (4 - (lg_sl ([.ref h0, .int p0])).length) Slot.unset).toArray = ls at hl ⊢
  have hl : lv_has ls 4 [(0, .ref h0), (1, .int p0)] := hl
  refine lv_aload_n hx hb dX10_again_0 rfl (lv_at hl 0 rfl) ?_
  refine lv_iload_n hx hb dX10_again_1 rfl (lv_at hl 1 rfl) ?_
  have hPc := hP.sub (ws' := [(h0, .inr (10, [.int 0, .int 0, .int 0, .int 0, .int 0, .int 10, .int 0, .int 0, .ref m_weight, .ref m_strength, .ref m_arm, .ref m_sex, .ref m_age, .ref m_likes, .ref m_rows, .ref m_drummer, .ref m_members, .ref m_beat, .ref m_member, .ref m_seated, .ref m_isSeated, .ref m_tape, .ref m_rTests, .ref m_tField, .ref m_tSign, .ref m_tNumber, .ref m_tNot, .ref m_tOr, .ref m_minute, .ref m_round, .ref m_laneCrew, .ref m_laneTime, .ref m_gone, .ref m_struck, .ref m_wasRun, .ref m_wait, .ref m_current, .ref m_finals, .ref m_bestTime, .ref m_inFinal, .ref m_pick, .ref m_found, .ref m_fresh, .ref m_at, .long 0, .long 0, .int 0, .int 0]))]) [0] rfl
  have hKc := hK.sub (tys' := []) [] rfl
  have hFc := ro_free hS hA
  refine va_calli (va_runV (As := [.int p0]) (rest := []) ⟨hx, hb, hml, hown, hts⟩ (k_X10_isRace l dC dI s.heap.size h0 p0 m_weight m_strength m_arm m_sex m_age m_likes m_rows m_drummer m_members m_beat m_member m_seated m_isSeated m_tape m_rTests m_tField m_tSign m_tNumber m_tNot m_tOr m_minute m_round m_laneCrew m_laneTime m_gone m_struck m_wasRun m_wait m_current m_finals m_bestTime m_inFinal m_pick m_found m_fresh m_at) (cwV 1 hts gX10_again_X10_isRace rfl rfl rfl (by decide +kernel) ⟨(Nat.le_of_ble_eq_true rfl), (Nat.le_of_ble_eq_true rfl)⟩) ⟨fun a U g mk q => by obtain ⟨q0, q1, qP, qK⟩ := q; exact ⟨q0, q1, qP, va_K.moved (u := U) (U := U.calling g mk a) (Vm.Alike.refl U.vm) qK⟩, va_recv hKc hPc (ci := 10) (q0 := 0) rfl rfl, fun U hU hW => ⟨rfl, by rw [hU], by rw [hU]; exact hPc, va_K.moved hW.alike hKc⟩⟩ rfl rfl hl.1 rfl (lv_room (Nat.le_of_ble_eq_true rfl)) dX10_again_2 ⟨(Nat.le_of_ble_eq_true rfl), (Nat.le_of_ble_eq_true rfl)⟩) hS (fun q _ h => hFc q h) hFc (fun r u t H1 locs ht hvm hw hB hz1 hk1 hS => ?_)
  refine W.widen (k := 0) (n := 0) (Nat.le_of_ble_eq_true rfl) (Nat.le_of_ble_eq_true rfl) ?_
  have hP := P_ro hP hk1
  generalize H1 = H at hP hS ⊢
  subst hw
  refine lv_if_ne (tgt := 10) hx hb dX10_again_5 (by decide) (fun c9 => absurd c9 (by decide +kernel)) (fun _ => ?_)
  refine lv_iconst (v := (-1)) hx hb dX10_again_8 (by decide +kernel) ?_
  refine W.widen (k := 0) (n := 0) (Nat.le_of_ble_eq_true rfl) (Nat.le_of_ble_eq_true rfl) ?_
  exact W.iret (v := (-1)) hx hb hr (fun t ht hW => ⟨⟨(-1), (), rfl, (by first | rfl | (exfalso; omega)), trivial⟩, hS.F ht⟩) hS.2.2 dX10_again_9

set_option maxHeartbeats 4000000 in
set_option maxRecDepth 100000 in
theorem k_X10_strike (l : Launch) (dC : Nat → ClassId) (dI : Nat → Nat → Nat) (sz : Nat) (h0 : Nat) (p0 : Int32) (p1 : Int32) (m_weight : Nat) (m_strength : Nat) (m_arm : Nat) (m_sex : Nat) (m_age : Nat) (m_likes : Nat) (m_rows : Nat) (m_drummer : Nat) (m_members : Nat) (m_beat : Nat) (m_member : Nat) (m_seated : Nat) (m_isSeated : Nat) (m_tape : Nat) (m_rTests : Nat) (m_tField : Nat) (m_tSign : Nat) (m_tNumber : Nat) (m_tNot : Nat) (m_tOr : Nat) (m_minute : Nat) (m_round : Nat) (m_laneCrew : Nat) (m_laneTime : Nat) (m_gone : Nat) (m_struck : Nat) (m_wasRun : Nat) (m_wait : Nat) (m_current : Nat) (m_finals : Nat) (m_bestTime : Nat) (m_inFinal : Nat) (m_pick : Nat) (m_found : Nat) (m_fresh : Nat) (m_at : Nat) : Met l yX10_strike wsX10_strike ({ frames := 1, cells := 0, slots := 0, locals := 21 }) (va_Pc [.ref h0, .int p0, .int p1] (fun U => U.heap.size = sz ∧ va_P (dC, dI) vwCl [(h0, .inr (10, [.int 0, .int 0, .int 0, .int 0, .int 0, .int 10, .int 0, .int 0, .ref m_weight, .ref m_strength, .ref m_arm, .ref m_sex, .ref m_age, .ref m_likes, .ref m_rows, .ref m_drummer, .ref m_members, .ref m_beat, .ref m_member, .ref m_seated, .ref m_isSeated, .ref m_tape, .ref m_rTests, .ref m_tField, .ref m_tSign, .ref m_tNumber, .ref m_tNot, .ref m_tOr, .ref m_minute, .ref m_round, .ref m_laneCrew, .ref m_laneTime, .ref m_gone, .ref m_struck, .ref m_wasRun, .ref m_wait, .ref m_current, .ref m_finals, .ref m_bestTime, .ref m_inFinal, .ref m_pick, .ref m_found, .ref m_fresh, .ref m_at, .long 0, .long 0, .int 0, .int 0]))] U.heap ∧ va_K (dC, dI) vwCl [] U)) (va_Qi (fun (r : Int32) (_ : Unit) => r = (-1)) (fun _ _ => True) (va_A ([] : va_W) sz)) 0 0 (va_A ([] : va_W) sz) := by
  refine Met.ofW (cc := cX10_strike) (maxL := 5) (ret := (some .int)) (by decide) rfl ?_
  intro p e s m args below meth c s₁ B hml hv
  obtain ⟨rfl, hsz, hP, hK⟩ := hv
  have hx := B.exec
  have hb := B.bytes
  have hr := B.returns
  have hts := atoms_spec (ws := wsX10_strike) B.pre
  have hown : s.vm.findClass RX10 = some m.cls := findClass_of_methodNamed B.named
  have hlocks := B.notSynchronized
  subst hsz
  generalize hAe : va_A ([] : va_W) s.heap.size = A
  have hA : ∀ q : Nat, s.heap.size ≤ q → A q := fun q h => by rw [← hAe]; exact Or.inr h
  have hS : va_S A s.heap s.heap [] := va_S.rf
  have hl := lv_entry ([.ref h0, .int p0, .int p1]) (n := 5) (Nat.le_of_ble_eq_true rfl)
  rw [lg_entry_eq]
  generalize (lg_sl ([.ref h0, .int p0, .int p1]) ++ List.replicate (5 - (lg_sl ([.ref h0, .int p0, .int p1])).length) Slot.unset).toArray = ls at hl ⊢
  have hl : lv_has ls 5 [(0, .ref h0), (1, .int p0), (2, .int p1)] := hl
  refine lv_aload_n hx hb dX10_strike_0 rfl (lv_at hl 0 rfl) ?_
  refine lv_iload_n hx hb dX10_strike_1 rfl (lv_at hl 1 rfl) ?_
  have hPc := hP.sub (ws' := [(h0, .inr (10, [.int 0, .int 0, .int 0, .int 0, .int 0, .int 10, .int 0, .int 0, .ref m_weight, .ref m_strength, .ref m_arm, .ref m_sex, .ref m_age, .ref m_likes, .ref m_rows, .ref m_drummer, .ref m_members, .ref m_beat, .ref m_member, .ref m_seated, .ref m_isSeated, .ref m_tape, .ref m_rTests, .ref m_tField, .ref m_tSign, .ref m_tNumber, .ref m_tNot, .ref m_tOr, .ref m_minute, .ref m_round, .ref m_laneCrew, .ref m_laneTime, .ref m_gone, .ref m_struck, .ref m_wasRun, .ref m_wait, .ref m_current, .ref m_finals, .ref m_bestTime, .ref m_inFinal, .ref m_pick, .ref m_found, .ref m_fresh, .ref m_at, .long 0, .long 0, .int 0, .int 0]))]) [0] rfl
  have hKc := hK.sub (tys' := []) [] rfl
  have hFc := ro_free hS hA
  refine va_calli (va_runV (As := [.int p0]) (rest := []) ⟨hx, hb, hml, hown, hts⟩ (k_X10_isRace l dC dI s.heap.size h0 p0 m_weight m_strength m_arm m_sex m_age m_likes m_rows m_drummer m_members m_beat m_member m_seated m_isSeated m_tape m_rTests m_tField m_tSign m_tNumber m_tNot m_tOr m_minute m_round m_laneCrew m_laneTime m_gone m_struck m_wasRun m_wait m_current m_finals m_bestTime m_inFinal m_pick m_found m_fresh m_at) (cwV 1 hts gX10_strike_X10_isRace rfl rfl rfl (by decide +kernel) ⟨(Nat.le_of_ble_eq_true rfl), (Nat.le_of_ble_eq_true rfl)⟩) ⟨fun a U g mk q => by obtain ⟨q0, q1, qP, qK⟩ := q; exact ⟨q0, q1, qP, va_K.moved (u := U) (U := U.calling g mk a) (Vm.Alike.refl U.vm) qK⟩, va_recv hKc hPc (ci := 10) (q0 := 0) rfl rfl, fun U hU hW => ⟨rfl, by rw [hU], by rw [hU]; exact hPc, va_K.moved hW.alike hKc⟩⟩ rfl rfl hl.1 rfl (lv_room (Nat.le_of_ble_eq_true rfl)) dX10_strike_2 ⟨(Nat.le_of_ble_eq_true rfl), (Nat.le_of_ble_eq_true rfl)⟩) hS (fun q _ h => hFc q h) hFc (fun r u t H1 locs ht hvm hw hB hz1 hk1 hS => ?_)
  refine W.widen (k := 0) (n := 0) (Nat.le_of_ble_eq_true rfl) (Nat.le_of_ble_eq_true rfl) ?_
  have hP := P_ro hP hk1
  generalize H1 = H at hP hS ⊢
  subst hw
  refine lv_if_ne (tgt := 10) hx hb dX10_strike_5 (by decide) (fun c9 => absurd c9 (by decide +kernel)) (fun _ => ?_)
  refine lv_iconst (v := (-1)) hx hb dX10_strike_8 (by decide +kernel) ?_
  refine W.widen (k := 0) (n := 0) (Nat.le_of_ble_eq_true rfl) (Nat.le_of_ble_eq_true rfl) ?_
  exact W.iret (v := (-1)) hx hb hr (fun t ht hW => ⟨⟨(-1), (), rfl, (by first | rfl | (exfalso; omega)), trivial⟩, hS.F ht⟩) hS.2.2 dX10_strike_9

set_option maxHeartbeats 4000000 in
set_option maxRecDepth 100000 in
theorem k_X10_points (l : Launch) (dC : Nat → ClassId) (dI : Nat → Nat → Nat) (sz : Nat) (h0 : Nat) (p0 : Int32) (m_weight : Nat) (m_strength : Nat) (m_arm : Nat) (m_sex : Nat) (m_age : Nat) (m_likes : Nat) (m_rows : Nat) (m_drummer : Nat) (m_members : Nat) (m_beat : Nat) (m_member : Nat) (m_seated : Nat) (m_isSeated : Nat) (m_tape : Nat) (m_rTests : Nat) (m_tField : Nat) (m_tSign : Nat) (m_tNumber : Nat) (m_tNot : Nat) (m_tOr : Nat) (m_minute : Nat) (m_round : Nat) (m_laneCrew : Nat) (m_laneTime : Nat) (m_gone : Nat) (m_struck : Nat) (m_wasRun : Nat) (m_wait : Nat) (m_current : Nat) (m_finals : Nat) (m_bestTime : Nat) (m_inFinal : Nat) (m_pick : Nat) (m_found : Nat) (m_fresh : Nat) (m_at : Nat) : Met l yX10_points wsX10_points ({ frames := 1, cells := 0, slots := 0, locals := 21 }) (va_Pc [.ref h0, .int p0] (fun U => U.heap.size = sz ∧ va_P (dC, dI) vwCl [(h0, .inr (10, [.int 0, .int 0, .int 0, .int 0, .int 0, .int 10, .int 0, .int 0, .ref m_weight, .ref m_strength, .ref m_arm, .ref m_sex, .ref m_age, .ref m_likes, .ref m_rows, .ref m_drummer, .ref m_members, .ref m_beat, .ref m_member, .ref m_seated, .ref m_isSeated, .ref m_tape, .ref m_rTests, .ref m_tField, .ref m_tSign, .ref m_tNumber, .ref m_tNot, .ref m_tOr, .ref m_minute, .ref m_round, .ref m_laneCrew, .ref m_laneTime, .ref m_gone, .ref m_struck, .ref m_wasRun, .ref m_wait, .ref m_current, .ref m_finals, .ref m_bestTime, .ref m_inFinal, .ref m_pick, .ref m_found, .ref m_fresh, .ref m_at, .long 0, .long 0, .int 0, .int 0]))] U.heap ∧ va_K (dC, dI) vwCl [] U)) (va_Qi (fun (r : Int32) (_ : Unit) => r = (-1)) (fun _ _ => True) (va_A ([] : va_W) sz)) 0 0 (va_A ([] : va_W) sz) := by
  refine Met.ofW (cc := cX10_points) (maxL := 2) (ret := (some .int)) (by decide) rfl ?_
  intro p e s m args below meth c s₁ B hml hv
  obtain ⟨rfl, hsz, hP, hK⟩ := hv
  have hx := B.exec
  have hb := B.bytes
  have hr := B.returns
  have hts := atoms_spec (ws := wsX10_points) B.pre
  have hown : s.vm.findClass RX10 = some m.cls := findClass_of_methodNamed B.named
  have hlocks := B.notSynchronized
  subst hsz
  generalize hAe : va_A ([] : va_W) s.heap.size = A
  have hA : ∀ q : Nat, s.heap.size ≤ q → A q := fun q h => by rw [← hAe]; exact Or.inr h
  have hS : va_S A s.heap s.heap [] := va_S.rf
  have hl := lv_entry ([.ref h0, .int p0]) (n := 2) (Nat.le_of_ble_eq_true rfl)
  rw [lg_entry_eq]
  generalize (lg_sl ([.ref h0, .int p0]) ++ List.replicate (2 - (lg_sl ([.ref h0, .int p0])).length) Slot.unset).toArray = ls at hl ⊢
  have hl : lv_has ls 2 [(0, .ref h0), (1, .int p0)] := hl
  refine lv_aload_n hx hb dX10_points_0 rfl (lv_at hl 0 rfl) ?_
  refine lv_iload_n hx hb dX10_points_1 rfl (lv_at hl 1 rfl) ?_
  have hPc := hP.sub (ws' := [(h0, .inr (10, [.int 0, .int 0, .int 0, .int 0, .int 0, .int 10, .int 0, .int 0, .ref m_weight, .ref m_strength, .ref m_arm, .ref m_sex, .ref m_age, .ref m_likes, .ref m_rows, .ref m_drummer, .ref m_members, .ref m_beat, .ref m_member, .ref m_seated, .ref m_isSeated, .ref m_tape, .ref m_rTests, .ref m_tField, .ref m_tSign, .ref m_tNumber, .ref m_tNot, .ref m_tOr, .ref m_minute, .ref m_round, .ref m_laneCrew, .ref m_laneTime, .ref m_gone, .ref m_struck, .ref m_wasRun, .ref m_wait, .ref m_current, .ref m_finals, .ref m_bestTime, .ref m_inFinal, .ref m_pick, .ref m_found, .ref m_fresh, .ref m_at, .long 0, .long 0, .int 0, .int 0]))]) [0] rfl
  have hKc := hK.sub (tys' := []) [] rfl
  have hFc := ro_free hS hA
  refine va_calli (va_runV (As := [.int p0]) (rest := []) ⟨hx, hb, hml, hown, hts⟩ (k_X10_isCrew l dC dI s.heap.size h0 p0 m_weight m_strength m_arm m_sex m_age m_likes m_rows m_drummer m_members m_beat m_member m_seated m_isSeated m_tape m_rTests m_tField m_tSign m_tNumber m_tNot m_tOr m_minute m_round m_laneCrew m_laneTime m_gone m_struck m_wasRun m_wait m_current m_finals m_bestTime m_inFinal m_pick m_found m_fresh m_at) (cwV 1 hts gX10_points_X10_isCrew rfl rfl rfl (by decide +kernel) ⟨(Nat.le_of_ble_eq_true rfl), (Nat.le_of_ble_eq_true rfl)⟩) ⟨fun a U g mk q => by obtain ⟨q0, q1, qP, qK⟩ := q; exact ⟨q0, q1, qP, va_K.moved (u := U) (U := U.calling g mk a) (Vm.Alike.refl U.vm) qK⟩, va_recv hKc hPc (ci := 10) (q0 := 0) rfl rfl, fun U hU hW => ⟨rfl, by rw [hU], by rw [hU]; exact hPc, va_K.moved hW.alike hKc⟩⟩ rfl rfl hl.1 rfl (lv_room (Nat.le_of_ble_eq_true rfl)) dX10_points_2 ⟨(Nat.le_of_ble_eq_true rfl), (Nat.le_of_ble_eq_true rfl)⟩) hS (fun q _ h => hFc q h) hFc (fun r u t H1 locs ht hvm hw hB hz1 hk1 hS => ?_)
  refine W.widen (k := 0) (n := 0) (Nat.le_of_ble_eq_true rfl) (Nat.le_of_ble_eq_true rfl) ?_
  have hP := P_ro hP hk1
  generalize H1 = H at hP hS ⊢
  subst hw
  refine lv_if_eq (tgt := 16) hx hb dX10_points_5 (by decide) (fun _ => ?_) (fun c9 => absurd c9 (by decide +kernel))
  refine lv_iconst (v := (-1)) hx hb dX10_points_16 (by decide +kernel) ?_
  refine W.widen (k := 0) (n := 0) (Nat.le_of_ble_eq_true rfl) (Nat.le_of_ble_eq_true rfl) ?_
  exact W.iret (v := (-1)) hx hb hr (fun t ht hW => ⟨⟨(-1), (), rfl, (by first | rfl | (exfalso; omega)), trivial⟩, hS.F ht⟩) hS.2.2 dX10_points_17

set_option maxHeartbeats 4000000 in
set_option maxRecDepth 100000 in
theorem k_X10_table (l : Launch) (dC : Nat → ClassId) (dI : Nat → Nat → Nat) (sz : Nat) (h0 : Nat) (p0 : Int32) (m_weight : Nat) (m_strength : Nat) (m_arm : Nat) (m_sex : Nat) (m_age : Nat) (m_likes : Nat) (m_rows : Nat) (m_drummer : Nat) (m_members : Nat) (m_beat : Nat) (m_member : Nat) (m_seated : Nat) (m_isSeated : Nat) (m_tape : Nat) (m_rTests : Nat) (m_tField : Nat) (m_tSign : Nat) (m_tNumber : Nat) (m_tNot : Nat) (m_tOr : Nat) (m_minute : Nat) (m_round : Nat) (m_laneCrew : Nat) (m_laneTime : Nat) (m_gone : Nat) (m_struck : Nat) (m_wasRun : Nat) (m_wait : Nat) (m_current : Nat) (m_finals : Nat) (m_bestTime : Nat) (m_inFinal : Nat) (m_pick : Nat) (m_found : Nat) (m_fresh : Nat) (m_at : Nat) : Met l yX10_table wsX10_table ({ frames := 0, cells := 0, slots := 0, locals := 0 }) (va_Pc [.ref h0, .int p0] (fun U => U.heap.size = sz ∧ va_P (dC, dI) vwCl [(h0, .inr (10, [.int 0, .int 0, .int 0, .int 0, .int 0, .int 10, .int 0, .int 0, .ref m_weight, .ref m_strength, .ref m_arm, .ref m_sex, .ref m_age, .ref m_likes, .ref m_rows, .ref m_drummer, .ref m_members, .ref m_beat, .ref m_member, .ref m_seated, .ref m_isSeated, .ref m_tape, .ref m_rTests, .ref m_tField, .ref m_tSign, .ref m_tNumber, .ref m_tNot, .ref m_tOr, .ref m_minute, .ref m_round, .ref m_laneCrew, .ref m_laneTime, .ref m_gone, .ref m_struck, .ref m_wasRun, .ref m_wait, .ref m_current, .ref m_finals, .ref m_bestTime, .ref m_inFinal, .ref m_pick, .ref m_found, .ref m_fresh, .ref m_at, .long 0, .long 0, .int 0, .int 0]))] U.heap ∧ va_K (dC, dI) vwCl [] U)) (va_Qi (fun (r : Int32) (_ : Unit) => r = (-1)) (fun _ _ => True) (va_A ([] : va_W) sz)) 0 0 (va_A ([] : va_W) sz) := by
  refine Met.ofW (cc := cX10_table) (maxL := 5) (ret := (some .int)) (by decide) rfl ?_
  intro p e s m args below meth c s₁ B hml hv
  obtain ⟨rfl, hsz, hP, hK⟩ := hv
  have hx := B.exec
  have hb := B.bytes
  have hr := B.returns
  have hts := atoms_spec (ws := wsX10_table) B.pre
  have hown : s.vm.findClass RX10 = some m.cls := findClass_of_methodNamed B.named
  have hlocks := B.notSynchronized
  subst hsz
  generalize hAe : va_A ([] : va_W) s.heap.size = A
  have hA : ∀ q : Nat, s.heap.size ≤ q → A q := fun q h => by rw [← hAe]; exact Or.inr h
  have hS : va_S A s.heap s.heap [] := va_S.rf
  have hl := lv_entry ([.ref h0, .int p0]) (n := 5) (Nat.le_of_ble_eq_true rfl)
  rw [lg_entry_eq]
  generalize (lg_sl ([.ref h0, .int p0]) ++ List.replicate (5 - (lg_sl ([.ref h0, .int p0])).length) Slot.unset).toArray = ls at hl ⊢
  have hl : lv_has ls 5 [(0, .ref h0), (1, .int p0)] := hl
  refine lv_iload_n hx hb dX10_table_0 rfl (lv_at hl 1 rfl) ?_
  refine lv_if_lt (tgt := 12) hx hb dX10_table_1 (by decide) (fun c_1 => ?_) (fun c_1 => ?_)
  · have c_1 : p0.toInt < 0 := Int32.lt_iff_toInt_lt.mp c_1
    refine lv_iconst (v := (-1)) hx hb dX10_table_12 (by decide +kernel) ?_
    refine W.widen (k := 0) (n := 0) (Nat.le_of_ble_eq_true rfl) (Nat.le_of_ble_eq_true rfl) ?_
    exact W.iret (v := (-1)) hx hb hr (fun t ht hW => ⟨⟨(-1), (), rfl, (by first | rfl | (exfalso; omega)), trivial⟩, hS.F ht⟩) hS.2.2 dX10_table_13
  · have c_1 : ¬ (p0.toInt < 0) := fun h => c_1 (Int32.lt_iff_toInt_lt.mpr h)
    refine lv_iload_n hx hb dX10_table_4 rfl (lv_at hl 1 rfl) ?_
    refine lv_aload_n hx hb dX10_table_5 rfl (lv_at hl 0 rfl) ?_
    refine va_get (D := (dC, dI)) (ci := 10) (v := .int 0) (C := RX10) (T := TX10) (N := 48) hx hb hts (fun _ h => List.mem_cons_of_mem _ (List.mem_append_right _ h)) hown hK hP 0 rfl rfl 1 (by decide) (hts (.fieldLink RX10 128 "DrumBoatsModel" "crews" "I") (List.mem_of_getElem? (i := 1) rfl)) (fun _ h9 => h9) rfl dX10_table_6 ?_
    refine lv_icmp_lt (tgt := 14) hx hb dX10_table_9 (by decide) (fun c_2 => ?_) (fun c_2 => ?_)
    · have c_2 : p0.toInt < 0 := Int32.lt_iff_toInt_lt.mp c_2
      exfalso; omega
    · have c_2 : ¬ (p0.toInt < 0) := fun h => c_2 (Int32.lt_iff_toInt_lt.mpr h)
      refine lv_iconst (v := (-1)) hx hb dX10_table_12 (by decide +kernel) ?_
      refine W.widen (k := 0) (n := 0) (Nat.le_of_ble_eq_true rfl) (Nat.le_of_ble_eq_true rfl) ?_
      exact W.iret (v := (-1)) hx hb hr (fun t ht hW => ⟨⟨(-1), (), rfl, (by first | rfl | (exfalso; omega)), trivial⟩, hS.F ht⟩) hS.2.2 dX10_table_13

set_option maxHeartbeats 4000000 in
set_option maxRecDepth 100000 in
theorem k_X10_slack (l : Launch) (dC : Nat → ClassId) (dI : Nat → Nat → Nat) (sz : Nat) (h0 : Nat) (m_weight : Nat) (m_strength : Nat) (m_arm : Nat) (m_sex : Nat) (m_age : Nat) (m_likes : Nat) (m_rows : Nat) (m_drummer : Nat) (m_members : Nat) (m_beat : Nat) (m_member : Nat) (m_seated : Nat) (m_isSeated : Nat) (m_tape : Nat) (m_rTests : Nat) (m_tField : Nat) (m_tSign : Nat) (m_tNumber : Nat) (m_tNot : Nat) (m_tOr : Nat) (m_minute : Nat) (m_round : Nat) (m_laneCrew : Nat) (m_laneTime : Nat) (m_gone : Nat) (m_struck : Nat) (m_wasRun : Nat) (m_wait : Nat) (m_current : Nat) (m_finals : Nat) (m_bestTime : Nat) (m_inFinal : Nat) (m_pick : Nat) (m_found : Nat) (m_fresh : Nat) (m_at : Nat) : Met l yX10_slack wsX10_slack ({ frames := 0, cells := 0, slots := 0, locals := 0 }) (va_Pc [.ref h0] (fun U => U.heap.size = sz ∧ va_P (dC, dI) vwCl [(h0, .inr (10, [.int 0, .int 0, .int 0, .int 0, .int 0, .int 10, .int 0, .int 0, .ref m_weight, .ref m_strength, .ref m_arm, .ref m_sex, .ref m_age, .ref m_likes, .ref m_rows, .ref m_drummer, .ref m_members, .ref m_beat, .ref m_member, .ref m_seated, .ref m_isSeated, .ref m_tape, .ref m_rTests, .ref m_tField, .ref m_tSign, .ref m_tNumber, .ref m_tNot, .ref m_tOr, .ref m_minute, .ref m_round, .ref m_laneCrew, .ref m_laneTime, .ref m_gone, .ref m_struck, .ref m_wasRun, .ref m_wait, .ref m_current, .ref m_finals, .ref m_bestTime, .ref m_inFinal, .ref m_pick, .ref m_found, .ref m_fresh, .ref m_at, .long 0, .long 0, .int 0, .int 0]))] U.heap ∧ va_K (dC, dI) vwCl [] U)) (va_Qi (fun (r : Int32) (_ : Unit) => r = (-1)) (fun _ _ => True) (va_A ([] : va_W) sz)) 0 0 (va_A ([] : va_W) sz) := by
  refine Met.ofW (cc := cX10_slack) (maxL := 8) (ret := (some .int)) (by decide) rfl ?_
  intro p e s m args below meth c s₁ B hml hv
  obtain ⟨rfl, hsz, hP, hK⟩ := hv
  have hx := B.exec
  have hb := B.bytes
  have hr := B.returns
  have hts := atoms_spec (ws := wsX10_slack) B.pre
  have hown : s.vm.findClass RX10 = some m.cls := findClass_of_methodNamed B.named
  have hlocks := B.notSynchronized
  subst hsz
  generalize hAe : va_A ([] : va_W) s.heap.size = A
  have hA : ∀ q : Nat, s.heap.size ≤ q → A q := fun q h => by rw [← hAe]; exact Or.inr h
  have hS : va_S A s.heap s.heap [] := va_S.rf
  have hl := lv_entry ([.ref h0]) (n := 8) (Nat.le_of_ble_eq_true rfl)
  rw [lg_entry_eq]
  generalize (lg_sl ([.ref h0]) ++ List.replicate (8 - (lg_sl ([.ref h0])).length) Slot.unset).toArray = ls at hl ⊢
  have hl : lv_has ls 8 [(0, .ref h0)] := hl
  refine lv_iconst (v := (-1)) hx hb dX10_slack_0 (by decide +kernel) ?_
  refine lv_istore_n (lv' := [(1, .int (-1)), (0, .ref h0)]) hx hb dX10_slack_1 rfl hl (by decide) rfl (fun ls hl => ?_)
  refine lv_iconst (v := 0) hx hb dX10_slack_2 (by decide +kernel) ?_
  refine lv_istore_n (lv' := [(2, .int 0), (1, .int (-1)), (0, .ref h0)]) hx hb dX10_slack_3 rfl hl (by decide) rfl (fun ls hl => ?_)
  refine lv_iload_n hx hb dX10_slack_4 rfl (lv_at hl 0 rfl) ?_
  refine lv_aload_n hx hb dX10_slack_5 rfl (lv_at hl 2 rfl) ?_
  refine va_get (D := (dC, dI)) (ci := 10) (v := .int 0) (C := RX10) (T := TX10) (N := 48) hx hb hts (fun _ h => List.mem_cons_of_mem _ (List.mem_append_right _ h)) hown hK hP 0 rfl rfl 3 (by decide) (hts (.fieldLink RX10 223 "DrumBoatsModel" "races" "I") (List.mem_of_getElem? (i := 1) rfl)) (fun _ h9 => h9) rfl dX10_slack_6 ?_
  refine lv_icmp_ge (tgt := 143) hx hb dX10_slack_9 (by decide) (fun _ => ?_) (fun c9 => absurd c9 (by decide +kernel))
  refine lv_iload_n hx hb dX10_slack_143 rfl (lv_at hl 1 rfl) ?_
  refine W.widen (k := 0) (n := 0) (Nat.le_of_ble_eq_true rfl) (Nat.le_of_ble_eq_true rfl) ?_
  exact W.iret (v := (-1)) hx hb hr (fun t ht hW => ⟨⟨(-1), (), rfl, (by first | rfl | (exfalso; omega)), trivial⟩, hS.F ht⟩) hS.2.2 dX10_slack_144

set_option maxHeartbeats 4000000 in
set_option maxRecDepth 100000 in
theorem k_X10_finalist (l : Launch) (dC : Nat → ClassId) (dI : Nat → Nat → Nat) (sz : Nat) (h0 : Nat) (p0 : Int32) (m_weight : Nat) (m_strength : Nat) (m_arm : Nat) (m_sex : Nat) (m_age : Nat) (m_likes : Nat) (m_rows : Nat) (m_drummer : Nat) (m_members : Nat) (m_beat : Nat) (m_member : Nat) (m_seated : Nat) (m_isSeated : Nat) (m_tape : Nat) (m_rTests : Nat) (m_tField : Nat) (m_tSign : Nat) (m_tNumber : Nat) (m_tNot : Nat) (m_tOr : Nat) (m_minute : Nat) (m_round : Nat) (m_laneCrew : Nat) (m_laneTime : Nat) (m_gone : Nat) (m_struck : Nat) (m_wasRun : Nat) (m_wait : Nat) (m_current : Nat) (m_finals : Nat) (m_bestTime : Nat) (m_inFinal : Nat) (m_pick : Nat) (m_found : Nat) (m_fresh : Nat) (m_at : Nat) : Met l yX10_finalist wsX10_finalist ({ frames := 0, cells := 0, slots := 0, locals := 0 }) (va_Pc [.ref h0, .int p0] (fun U => U.heap.size = sz ∧ va_P (dC, dI) vwCl [(h0, .inr (10, [.int 0, .int 0, .int 0, .int 0, .int 0, .int 10, .int 0, .int 0, .ref m_weight, .ref m_strength, .ref m_arm, .ref m_sex, .ref m_age, .ref m_likes, .ref m_rows, .ref m_drummer, .ref m_members, .ref m_beat, .ref m_member, .ref m_seated, .ref m_isSeated, .ref m_tape, .ref m_rTests, .ref m_tField, .ref m_tSign, .ref m_tNumber, .ref m_tNot, .ref m_tOr, .ref m_minute, .ref m_round, .ref m_laneCrew, .ref m_laneTime, .ref m_gone, .ref m_struck, .ref m_wasRun, .ref m_wait, .ref m_current, .ref m_finals, .ref m_bestTime, .ref m_inFinal, .ref m_pick, .ref m_found, .ref m_fresh, .ref m_at, .long 0, .long 0, .int 0, .int 0]))] U.heap ∧ va_K (dC, dI) vwCl [] U)) (va_Qi (fun (r : Int32) (_ : Unit) => r = (-1)) (fun _ _ => True) (va_A ([] : va_W) sz)) 0 0 (va_A ([] : va_W) sz) := by
  refine Met.ofW (cc := cX10_finalist) (maxL := 2) (ret := (some .int)) (by decide) rfl ?_
  intro p e s m args below meth c s₁ B hml hv
  obtain ⟨rfl, hsz, hP, hK⟩ := hv
  have hx := B.exec
  have hb := B.bytes
  have hr := B.returns
  have hts := atoms_spec (ws := wsX10_finalist) B.pre
  have hown : s.vm.findClass RX10 = some m.cls := findClass_of_methodNamed B.named
  have hlocks := B.notSynchronized
  subst hsz
  generalize hAe : va_A ([] : va_W) s.heap.size = A
  have hA : ∀ q : Nat, s.heap.size ≤ q → A q := fun q h => by rw [← hAe]; exact Or.inr h
  have hS : va_S A s.heap s.heap [] := va_S.rf
  have hl := lv_entry ([.ref h0, .int p0]) (n := 2) (Nat.le_of_ble_eq_true rfl)
  rw [lg_entry_eq]
  generalize (lg_sl ([.ref h0, .int p0]) ++ List.replicate (2 - (lg_sl ([.ref h0, .int p0])).length) Slot.unset).toArray = ls at hl ⊢
  have hl : lv_has ls 2 [(0, .ref h0), (1, .int p0)] := hl
  refine lv_iload_n hx hb dX10_finalist_0 rfl (lv_at hl 1 rfl) ?_
  refine lv_if_lt (tgt := 21) hx hb dX10_finalist_1 (by decide) (fun c_1 => ?_) (fun c_1 => ?_)
  · have c_1 : p0.toInt < 0 := Int32.lt_iff_toInt_lt.mp c_1
    refine lv_iconst (v := (-1)) hx hb dX10_finalist_21 (by decide +kernel) ?_
    refine W.widen (k := 0) (n := 0) (Nat.le_of_ble_eq_true rfl) (Nat.le_of_ble_eq_true rfl) ?_
    exact W.iret (v := (-1)) hx hb hr (fun t ht hW => ⟨⟨(-1), (), rfl, (by first | rfl | (exfalso; omega)), trivial⟩, hS.F ht⟩) hS.2.2 dX10_finalist_22
  · have c_1 : ¬ (p0.toInt < 0) := fun h => c_1 (Int32.lt_iff_toInt_lt.mpr h)
    refine lv_iload_n hx hb dX10_finalist_4 rfl (lv_at hl 1 rfl) ?_
    refine lv_aload_n hx hb dX10_finalist_5 rfl (lv_at hl 0 rfl) ?_
    refine va_get (D := (dC, dI)) (ci := 10) (v := .int 0) (C := RX10) (T := TX10) (N := 48) hx hb hts (fun _ h => List.mem_cons_of_mem _ (List.mem_append_right _ h)) hown hK hP 0 rfl rfl 7 (by decide) (hts (.fieldLink RX10 240 "DrumBoatsModel" "finalN" "I") (List.mem_of_getElem? (i := 1) rfl)) (fun _ h9 => h9) rfl dX10_finalist_6 ?_
    refine lv_icmp_ge (tgt := 21) hx hb dX10_finalist_9 (by decide) (fun c_2 => ?_) (fun c_2 => ?_)
    · have c_2 : 0 ≤ p0.toInt := Int32.le_iff_toInt_le.mp c_2
      refine lv_iconst (v := (-1)) hx hb dX10_finalist_21 (by decide +kernel) ?_
      refine W.widen (k := 0) (n := 0) (Nat.le_of_ble_eq_true rfl) (Nat.le_of_ble_eq_true rfl) ?_
      exact W.iret (v := (-1)) hx hb hr (fun t ht hW => ⟨⟨(-1), (), rfl, (by first | rfl | (exfalso; omega)), trivial⟩, hS.F ht⟩) hS.2.2 dX10_finalist_22
    · have c_2 : ¬ (0 ≤ p0.toInt) := fun h => c_2 (Int32.le_iff_toInt_le.mpr h)
      exfalso; omega

set_option maxHeartbeats 4000000 in
set_option maxRecDepth 100000 in
theorem k_X10_rest (l : Launch) (dC : Nat → ClassId) (dI : Nat → Nat → Nat) (sz : Nat) (h0 : Nat) (p0 : Int32) (m_weight : Nat) (m_strength : Nat) (m_arm : Nat) (m_sex : Nat) (m_age : Nat) (m_likes : Nat) (m_rows : Nat) (m_drummer : Nat) (m_members : Nat) (m_beat : Nat) (m_member : Nat) (m_seated : Nat) (m_isSeated : Nat) (m_tape : Nat) (m_rTests : Nat) (m_tField : Nat) (m_tSign : Nat) (m_tNumber : Nat) (m_tNot : Nat) (m_tOr : Nat) (m_minute : Nat) (m_round : Nat) (m_laneCrew : Nat) (m_laneTime : Nat) (m_gone : Nat) (m_struck : Nat) (m_wasRun : Nat) (m_wait : Nat) (m_current : Nat) (m_finals : Nat) (m_bestTime : Nat) (m_inFinal : Nat) (m_pick : Nat) (m_found : Nat) (m_fresh : Nat) (m_at : Nat) : Met l yX10_rest wsX10_rest ({ frames := 0, cells := 0, slots := 0, locals := 0 }) (va_Pc [.ref h0, .int p0] (fun U => U.heap.size = sz ∧ va_P (dC, dI) vwCl [(h0, .inr (10, [.int 0, .int 0, .int 0, .int 0, .int 0, .int 10, .int 0, .int 0, .ref m_weight, .ref m_strength, .ref m_arm, .ref m_sex, .ref m_age, .ref m_likes, .ref m_rows, .ref m_drummer, .ref m_members, .ref m_beat, .ref m_member, .ref m_seated, .ref m_isSeated, .ref m_tape, .ref m_rTests, .ref m_tField, .ref m_tSign, .ref m_tNumber, .ref m_tNot, .ref m_tOr, .ref m_minute, .ref m_round, .ref m_laneCrew, .ref m_laneTime, .ref m_gone, .ref m_struck, .ref m_wasRun, .ref m_wait, .ref m_current, .ref m_finals, .ref m_bestTime, .ref m_inFinal, .ref m_pick, .ref m_found, .ref m_fresh, .ref m_at, .long 0, .long 0, .int 0, .int 0]))] U.heap ∧ va_K (dC, dI) vwCl [] U ∧ va_D (fun _ => True) [(h0, .inr (10, [.int 0, .int 0, .int 0, .int 0, .int 0, .int 10, .int 0, .int 0, .ref m_weight, .ref m_strength, .ref m_arm, .ref m_sex, .ref m_age, .ref m_likes, .ref m_rows, .ref m_drummer, .ref m_members, .ref m_beat, .ref m_member, .ref m_seated, .ref m_isSeated, .ref m_tape, .ref m_rTests, .ref m_tField, .ref m_tSign, .ref m_tNumber, .ref m_tNot, .ref m_tOr, .ref m_minute, .ref m_round, .ref m_laneCrew, .ref m_laneTime, .ref m_gone, .ref m_struck, .ref m_wasRun, .ref m_wait, .ref m_current, .ref m_finals, .ref m_bestTime, .ref m_inFinal, .ref m_pick, .ref m_found, .ref m_fresh, .ref m_at, .long 0, .long 0, .int 0, .int 0]))])) (va_Qi (fun (r : Int32) (_ : Unit) => r = f_rest p0) (fun _ _ => True) (va_A [(h0, .inr (10, [.int 0, .int 0, .int 0, .int 0, .int 0, .int 10, .int 0, .int 0, .ref m_weight, .ref m_strength, .ref m_arm, .ref m_sex, .ref m_age, .ref m_likes, .ref m_rows, .ref m_drummer, .ref m_members, .ref m_beat, .ref m_member, .ref m_seated, .ref m_isSeated, .ref m_tape, .ref m_rTests, .ref m_tField, .ref m_tSign, .ref m_tNumber, .ref m_tNot, .ref m_tOr, .ref m_minute, .ref m_round, .ref m_laneCrew, .ref m_laneTime, .ref m_gone, .ref m_struck, .ref m_wasRun, .ref m_wait, .ref m_current, .ref m_finals, .ref m_bestTime, .ref m_inFinal, .ref m_pick, .ref m_found, .ref m_fresh, .ref m_at, .long 0, .long 0, .int 0, .int 0]))] sz)) 0 0 (va_A [(h0, .inr (10, [.int 0, .int 0, .int 0, .int 0, .int 0, .int 10, .int 0, .int 0, .ref m_weight, .ref m_strength, .ref m_arm, .ref m_sex, .ref m_age, .ref m_likes, .ref m_rows, .ref m_drummer, .ref m_members, .ref m_beat, .ref m_member, .ref m_seated, .ref m_isSeated, .ref m_tape, .ref m_rTests, .ref m_tField, .ref m_tSign, .ref m_tNumber, .ref m_tNot, .ref m_tOr, .ref m_minute, .ref m_round, .ref m_laneCrew, .ref m_laneTime, .ref m_gone, .ref m_struck, .ref m_wasRun, .ref m_wait, .ref m_current, .ref m_finals, .ref m_bestTime, .ref m_inFinal, .ref m_pick, .ref m_found, .ref m_fresh, .ref m_at, .long 0, .long 0, .int 0, .int 0]))] sz) := by
  refine Met.ofW (cc := cX10_rest) (maxL := 3) (ret := (some .int)) (by decide) rfl ?_
  intro p e s m args below meth c s₁ B hml hv
  obtain ⟨rfl, hsz, hP, hK, hD0⟩ := hv
  have hx := B.exec
  have hb := B.bytes
  have hr := B.returns
  have hts := atoms_spec (ws := wsX10_rest) B.pre
  have hown : s.vm.findClass RX10 = some m.cls := findClass_of_methodNamed B.named
  have hlocks := B.notSynchronized
  subst hsz
  have hD := hD0.self (sz := s.heap.size)
  generalize hAe : va_A [(h0, .inr (10, [.int 0, .int 0, .int 0, .int 0, .int 0, .int 10, .int 0, .int 0, .ref m_weight, .ref m_strength, .ref m_arm, .ref m_sex, .ref m_age, .ref m_likes, .ref m_rows, .ref m_drummer, .ref m_members, .ref m_beat, .ref m_member, .ref m_seated, .ref m_isSeated, .ref m_tape, .ref m_rTests, .ref m_tField, .ref m_tSign, .ref m_tNumber, .ref m_tNot, .ref m_tOr, .ref m_minute, .ref m_round, .ref m_laneCrew, .ref m_laneTime, .ref m_gone, .ref m_struck, .ref m_wasRun, .ref m_wait, .ref m_current, .ref m_finals, .ref m_bestTime, .ref m_inFinal, .ref m_pick, .ref m_found, .ref m_fresh, .ref m_at, .long 0, .long 0, .int 0, .int 0]))] s.heap.size = A at hD ⊢
  have hA : ∀ q : Nat, s.heap.size ≤ q → A q := fun q h => by rw [← hAe]; exact Or.inr h
  have hS : va_S A s.heap s.heap [] := va_S.rf
  have hl := lv_entry ([.ref h0, .int p0]) (n := 3) (Nat.le_of_ble_eq_true rfl)
  rw [lg_entry_eq]
  generalize (lg_sl ([.ref h0, .int p0]) ++ List.replicate (3 - (lg_sl ([.ref h0, .int p0])).length) Slot.unset).toArray = ls at hl ⊢
  have hl : lv_has ls 3 [(0, .ref h0), (1, .int p0)] := hl
  refine lv_iload_n hx hb dX10_rest_0 rfl (lv_at hl 1 rfl) ?_
  refine lv_if_lt (tgt := 10) hx hb dX10_rest_1 (by decide) (fun c_1 => ?_) (fun c_1 => ?_)
  · have c_1 : p0.toInt < 0 := Int32.lt_iff_toInt_lt.mp c_1
    refine lv_bipush (v := (-2)) hx hb dX10_rest_10 (by decide +kernel) ?_
    refine W.widen (k := 0) (n := 0) (Nat.le_of_ble_eq_true rfl) (Nat.le_of_ble_eq_true rfl) ?_
    exact W.iret (v := (-2)) hx hb hr (fun t ht hW => ⟨⟨(-2), (), rfl, (by first | rfl | decide | (unfold f_rest; (repeat' split) <;> first | rfl | omega)), trivial⟩, hS.F ht⟩) hS.2.2 dX10_rest_12
  · have c_1 : ¬ (p0.toInt < 0) := fun h => c_1 (Int32.lt_iff_toInt_lt.mpr h)
    refine lv_iload_n hx hb dX10_rest_4 rfl (lv_at hl 1 rfl) ?_
    refine lv_bipush (v := 99) hx hb dX10_rest_5 (by decide +kernel) ?_
    refine lv_icmp_le (tgt := 13) hx hb dX10_rest_7 (by decide) (fun c_2 => ?_) (fun c_2 => ?_)
    · have c_2 : p0.toInt ≤ 99 := Int32.le_iff_toInt_le.mp c_2
      refine lv_aload_n hx hb dX10_rest_13 rfl (lv_at hl 0 rfl) ?_
      refine va_get (D := (dC, dI)) (ci := 10) (v := .int 10) (C := RX10) (T := TX10) (N := 48) hx hb hts (fun _ h => List.mem_cons_of_mem _ (List.mem_append_right _ h)) hown hK hP 0 rfl rfl 5 (by decide) (hts (.fieldLink RX10 9 "DrumBoatsModel" "rest" "I") (List.mem_of_getElem? (i := 1) rfl)) (fun _ h9 => h9) rfl dX10_rest_14 ?_
      refine lv_istore_n (lv' := [(2, .int 10), (0, .ref h0), (1, .int p0)]) hx hb dX10_rest_17 rfl hl (by decide) rfl (fun ls hl => ?_)
      refine lv_aload_n hx hb dX10_rest_18 rfl (lv_at hl 1 rfl) ?_
      refine lv_iload_n hx hb dX10_rest_19 rfl (lv_at hl 2 rfl) ?_
      refine va_put (D := (dC, dI)) (ci := 10) (v := .int p0) (ty := .int) (C := RX10) (T := TX10) (N := 48) hx hb hts (fun _ h => List.mem_cons_of_mem _ (List.mem_append_right _ h)) tyX10 tyX10_ok nmX10 hown hK hP hD hS 0 rfl rfl 5 (by decide) (hts (.fieldLink RX10 9 "DrumBoatsModel" "rest" "I") (List.mem_of_getElem? (i := 1) rfl)) (fun _ h9 => h9) rfl (by decide +kernel) rfl rfl (Nat.le_of_ble_eq_true rfl) dX10_rest_20 (fun H locs hP hD hS => ?_)
      have hP : va_P (dC, dI) vwCl [(h0, .inr (10, [.int 0, .int 0, .int 0, .int 0, .int 0, .int p0, .int 0, .int 0, .ref m_weight, .ref m_strength, .ref m_arm, .ref m_sex, .ref m_age, .ref m_likes, .ref m_rows, .ref m_drummer, .ref m_members, .ref m_beat, .ref m_member, .ref m_seated, .ref m_isSeated, .ref m_tape, .ref m_rTests, .ref m_tField, .ref m_tSign, .ref m_tNumber, .ref m_tNot, .ref m_tOr, .ref m_minute, .ref m_round, .ref m_laneCrew, .ref m_laneTime, .ref m_gone, .ref m_struck, .ref m_wasRun, .ref m_wait, .ref m_current, .ref m_finals, .ref m_bestTime, .ref m_inFinal, .ref m_pick, .ref m_found, .ref m_fresh, .ref m_at, .long 0, .long 0, .int 0, .int 0]))] H := hP
      have hD : va_D A [(h0, .inr (10, [.int 0, .int 0, .int 0, .int 0, .int 0, .int p0, .int 0, .int 0, .ref m_weight, .ref m_strength, .ref m_arm, .ref m_sex, .ref m_age, .ref m_likes, .ref m_rows, .ref m_drummer, .ref m_members, .ref m_beat, .ref m_member, .ref m_seated, .ref m_isSeated, .ref m_tape, .ref m_rTests, .ref m_tField, .ref m_tSign, .ref m_tNumber, .ref m_tNot, .ref m_tOr, .ref m_minute, .ref m_round, .ref m_laneCrew, .ref m_laneTime, .ref m_gone, .ref m_struck, .ref m_wasRun, .ref m_wait, .ref m_current, .ref m_finals, .ref m_bestTime, .ref m_inFinal, .ref m_pick, .ref m_found, .ref m_fresh, .ref m_at, .long 0, .long 0, .int 0, .int 0]))] := hD
      refine lv_iload_n hx hb dX10_rest_23 rfl (lv_at hl 0 rfl) ?_
      refine W.widen (k := 0) (n := 0) (Nat.le_of_ble_eq_true rfl) (Nat.le_of_ble_eq_true rfl) ?_
      exact W.iret (v := 10) hx hb hr (fun t ht hW => ⟨⟨10, (), rfl, (by first | rfl | decide | (unfold f_rest; (repeat' split) <;> first | rfl | omega)), trivial⟩, hS.F ht⟩) hS.2.2 dX10_rest_24
    · have c_2 : ¬ (p0.toInt ≤ 99) := fun h => c_2 (Int32.le_iff_toInt_le.mpr h)
      refine lv_bipush (v := (-2)) hx hb dX10_rest_10 (by decide +kernel) ?_
      refine W.widen (k := 0) (n := 0) (Nat.le_of_ble_eq_true rfl) (Nat.le_of_ble_eq_true rfl) ?_
      exact W.iret (v := (-2)) hx hb hr (fun t ht hW => ⟨⟨(-2), (), rfl, (by first | rfl | decide | (unfold f_rest; (repeat' split) <;> first | rfl | omega)), trivial⟩, hS.F ht⟩) hS.2.2 dX10_rest_12

set_option maxHeartbeats 4000000 in
set_option maxRecDepth 100000 in
theorem k_X10_race (l : Launch) (dC : Nat → ClassId) (dI : Nat → Nat → Nat) (sz : Nat) (h0 : Nat) (p0 : Int32) (p1 : Int32) (m_weight : Nat) (m_strength : Nat) (m_arm : Nat) (m_sex : Nat) (m_age : Nat) (m_likes : Nat) (m_rows : Nat) (m_drummer : Nat) (m_members : Nat) (m_beat : Nat) (m_member : Nat) (m_seated : Nat) (m_isSeated : Nat) (m_tape : Nat) (m_rTests : Nat) (m_tField : Nat) (m_tSign : Nat) (m_tNumber : Nat) (m_tNot : Nat) (m_tOr : Nat) (m_minute : Nat) (m_round : Nat) (m_laneCrew : Nat) (m_laneTime : Nat) (m_gone : Nat) (m_struck : Nat) (m_wasRun : Nat) (m_wait : Nat) (m_current : Nat) (m_finals : Nat) (m_bestTime : Nat) (m_inFinal : Nat) (m_pick : Nat) (m_found : Nat) (m_fresh : Nat) (m_at : Nat) : Met l yX10_race wsX10_race ({ frames := 0, cells := 0, slots := 0, locals := 0 }) (va_Pc [.ref h0, .int p0, .int p1] (fun U => U.heap.size = sz ∧ va_P (dC, dI) vwCl [(h0, .inr (10, [.int 0, .int 0, .int 0, .int 0, .int 0, .int 10, .int 0, .int 0, .ref m_weight, .ref m_strength, .ref m_arm, .ref m_sex, .ref m_age, .ref m_likes, .ref m_rows, .ref m_drummer, .ref m_members, .ref m_beat, .ref m_member, .ref m_seated, .ref m_isSeated, .ref m_tape, .ref m_rTests, .ref m_tField, .ref m_tSign, .ref m_tNumber, .ref m_tNot, .ref m_tOr, .ref m_minute, .ref m_round, .ref m_laneCrew, .ref m_laneTime, .ref m_gone, .ref m_struck, .ref m_wasRun, .ref m_wait, .ref m_current, .ref m_finals, .ref m_bestTime, .ref m_inFinal, .ref m_pick, .ref m_found, .ref m_fresh, .ref m_at, .long 0, .long 0, .int 0, .int 0]))] U.heap ∧ va_K (dC, dI) vwCl [] U)) (va_Qi (fun (r : Int32) (_ : Unit) => r = f_race p0 p1) (fun _ _ => True) (va_A ([] : va_W) sz)) 0 0 (va_A ([] : va_W) sz) := by
  refine Met.ofW (cc := cX10_race) (maxL := 6) (ret := (some .int)) (by decide) rfl ?_
  intro p e s m args below meth c s₁ B hml hv
  obtain ⟨rfl, hsz, hP, hK⟩ := hv
  have hx := B.exec
  have hb := B.bytes
  have hr := B.returns
  have hts := atoms_spec (ws := wsX10_race) B.pre
  have hown : s.vm.findClass RX10 = some m.cls := findClass_of_methodNamed B.named
  have hlocks := B.notSynchronized
  subst hsz
  generalize hAe : va_A ([] : va_W) s.heap.size = A
  have hA : ∀ q : Nat, s.heap.size ≤ q → A q := fun q h => by rw [← hAe]; exact Or.inr h
  have hS : va_S A s.heap s.heap [] := va_S.rf
  have hl := lv_entry ([.ref h0, .int p0, .int p1]) (n := 6) (Nat.le_of_ble_eq_true rfl)
  rw [lg_entry_eq]
  generalize (lg_sl ([.ref h0, .int p0, .int p1]) ++ List.replicate (6 - (lg_sl ([.ref h0, .int p0, .int p1])).length) Slot.unset).toArray = ls at hl ⊢
  have hl : lv_has ls 6 [(0, .ref h0), (1, .int p0), (2, .int p1)] := hl
  refine lv_iload_n hx hb dX10_race_0 rfl (lv_at hl 1 rfl) ?_
  refine lv_if_lt (tgt := 20) hx hb dX10_race_1 (by decide) (fun c_1 => ?_) (fun c_1 => ?_)
  · have c_1 : p0.toInt < 0 := Int32.lt_iff_toInt_lt.mp c_1
    refine lv_bipush (v := (-2)) hx hb dX10_race_20 (by decide +kernel) ?_
    refine W.widen (k := 0) (n := 0) (Nat.le_of_ble_eq_true rfl) (Nat.le_of_ble_eq_true rfl) ?_
    exact W.iret (v := (-2)) hx hb hr (fun t ht hW => ⟨⟨(-2), (), rfl, (by first | rfl | decide | (unfold f_race; (repeat' split) <;> first | rfl | omega)), trivial⟩, hS.F ht⟩) hS.2.2 dX10_race_22
  · have c_1 : ¬ (p0.toInt < 0) := fun h => c_1 (Int32.lt_iff_toInt_lt.mpr h)
    refine lv_iload_n hx hb dX10_race_4 rfl (lv_at hl 1 rfl) ?_
    refine lv_sipush (v := 999) hx hb dX10_race_5 (by decide +kernel) ?_
    refine lv_icmp_gt (tgt := 20) hx hb dX10_race_8 (by decide) (fun c_2 => ?_) (fun c_2 => ?_)
    · have c_2 : 999 < p0.toInt := Int32.lt_iff_toInt_lt.mp c_2
      refine lv_bipush (v := (-2)) hx hb dX10_race_20 (by decide +kernel) ?_
      refine W.widen (k := 0) (n := 0) (Nat.le_of_ble_eq_true rfl) (Nat.le_of_ble_eq_true rfl) ?_
      exact W.iret (v := (-2)) hx hb hr (fun t ht hW => ⟨⟨(-2), (), rfl, (by first | rfl | decide | (unfold f_race; (repeat' split) <;> first | rfl | omega)), trivial⟩, hS.F ht⟩) hS.2.2 dX10_race_22
    · have c_2 : ¬ (999 < p0.toInt) := fun h => c_2 (Int32.lt_iff_toInt_lt.mpr h)
      refine lv_iload_n hx hb dX10_race_11 rfl (lv_at hl 2 rfl) ?_
      refine lv_if_lt (tgt := 20) hx hb dX10_race_12 (by decide) (fun c_3 => ?_) (fun c_3 => ?_)
      · have c_3 : p1.toInt < 0 := Int32.lt_iff_toInt_lt.mp c_3
        refine lv_bipush (v := (-2)) hx hb dX10_race_20 (by decide +kernel) ?_
        refine W.widen (k := 0) (n := 0) (Nat.le_of_ble_eq_true rfl) (Nat.le_of_ble_eq_true rfl) ?_
        exact W.iret (v := (-2)) hx hb hr (fun t ht hW => ⟨⟨(-2), (), rfl, (by first | rfl | decide | (unfold f_race; (repeat' split) <;> first | rfl | omega)), trivial⟩, hS.F ht⟩) hS.2.2 dX10_race_22
      · have c_3 : ¬ (p1.toInt < 0) := fun h => c_3 (Int32.lt_iff_toInt_lt.mpr h)
        refine lv_iload_n hx hb dX10_race_15 rfl (lv_at hl 2 rfl) ?_
        refine lv_iconst (v := 1) hx hb dX10_race_16 (by decide +kernel) ?_
        refine lv_icmp_le (tgt := 23) hx hb dX10_race_17 (by decide) (fun c_4 => ?_) (fun c_4 => ?_)
        · have c_4 : p1.toInt ≤ 1 := Int32.le_iff_toInt_le.mp c_4
          refine lv_aload_n hx hb dX10_race_23 rfl (lv_at hl 0 rfl) ?_
          refine va_get (D := (dC, dI)) (ci := 10) (v := .int 0) (C := RX10) (T := TX10) (N := 48) hx hb hts (fun _ h => List.mem_cons_of_mem _ (List.mem_append_right _ h)) hown hK hP 0 rfl rfl 6 (by decide) (hts (.fieldLink RX10 220 "DrumBoatsModel" "waiting" "I") (List.mem_of_getElem? (i := 1) rfl)) (fun _ h9 => h9) rfl dX10_race_24 ?_
          refine lv_iconst (v := 2) hx hb dX10_race_27 (by decide +kernel) ?_
          refine lv_icmp_ge (tgt := 34) hx hb dX10_race_28 (by decide) (fun c9 => absurd c9 (by decide +kernel)) (fun _ => ?_)
          refine lv_bipush (v := (-3)) hx hb dX10_race_31 (by decide +kernel) ?_
          refine W.widen (k := 0) (n := 0) (Nat.le_of_ble_eq_true rfl) (Nat.le_of_ble_eq_true rfl) ?_
          exact W.iret (v := (-3)) hx hb hr (fun t ht hW => ⟨⟨(-3), (), rfl, (by first | rfl | decide | (unfold f_race; (repeat' split) <;> first | rfl | omega)), trivial⟩, hS.F ht⟩) hS.2.2 dX10_race_33
        · have c_4 : ¬ (p1.toInt ≤ 1) := fun h => c_4 (Int32.le_iff_toInt_le.mpr h)
          refine lv_bipush (v := (-2)) hx hb dX10_race_20 (by decide +kernel) ?_
          refine W.widen (k := 0) (n := 0) (Nat.le_of_ble_eq_true rfl) (Nat.le_of_ble_eq_true rfl) ?_
          exact W.iret (v := (-2)) hx hb hr (fun t ht hW => ⟨⟨(-2), (), rfl, (by first | rfl | decide | (unfold f_race; (repeat' split) <;> first | rfl | omega)), trivial⟩, hS.F ht⟩) hS.2.2 dX10_race_22

set_option maxHeartbeats 4000000 in
set_option maxRecDepth 100000 in
theorem k_X10_current (l : Launch) (dC : Nat → ClassId) (dI : Nat → Nat → Nat) (sz : Nat) (h0 : Nat) (p0 : Int32) (p1 : Int32) (m_weight : Nat) (m_strength : Nat) (m_arm : Nat) (m_sex : Nat) (m_age : Nat) (m_likes : Nat) (m_rows : Nat) (m_drummer : Nat) (m_members : Nat) (m_beat : Nat) (m_member : Nat) (m_seated : Nat) (m_isSeated : Nat) (m_tape : Nat) (m_rTests : Nat) (m_tField : Nat) (m_tSign : Nat) (m_tNumber : Nat) (m_tNot : Nat) (m_tOr : Nat) (m_minute : Nat) (m_round : Nat) (m_laneCrew : Nat) (m_laneTime : Nat) (m_gone : Nat) (m_struck : Nat) (m_wasRun : Nat) (m_wait : Nat) (m_current : Nat) (m_finals : Nat) (m_bestTime : Nat) (m_inFinal : Nat) (m_pick : Nat) (m_found : Nat) (m_fresh : Nat) (m_at : Nat) (cm_current : ClassId) : Met l yX10_current wsX10_current ({ frames := 0, cells := 0, slots := 0, locals := 0 }) (va_Pc [.ref h0, .int p0, .int p1] (fun U => U.heap.size = sz ∧ va_P (dC, dI) vwCl [(h0, .inr (10, [.int 0, .int 0, .int 0, .int 0, .int 0, .int 10, .int 0, .int 0, .ref m_weight, .ref m_strength, .ref m_arm, .ref m_sex, .ref m_age, .ref m_likes, .ref m_rows, .ref m_drummer, .ref m_members, .ref m_beat, .ref m_member, .ref m_seated, .ref m_isSeated, .ref m_tape, .ref m_rTests, .ref m_tField, .ref m_tSign, .ref m_tNumber, .ref m_tNot, .ref m_tOr, .ref m_minute, .ref m_round, .ref m_laneCrew, .ref m_laneTime, .ref m_gone, .ref m_struck, .ref m_wasRun, .ref m_wait, .ref m_current, .ref m_finals, .ref m_bestTime, .ref m_inFinal, .ref m_pick, .ref m_found, .ref m_fresh, .ref m_at, .long 0, .long 0, .int 0, .int 0])), (m_current, .inl (cm_current, 4, .inl (fun _ => 0)))] U.heap ∧ va_K (dC, dI) vwCl [(cm_current, .int)] U ∧ va_D (fun _ => True) [(h0, .inr (10, [.int 0, .int 0, .int 0, .int 0, .int 0, .int 10, .int 0, .int 0, .ref m_weight, .ref m_strength, .ref m_arm, .ref m_sex, .ref m_age, .ref m_likes, .ref m_rows, .ref m_drummer, .ref m_members, .ref m_beat, .ref m_member, .ref m_seated, .ref m_isSeated, .ref m_tape, .ref m_rTests, .ref m_tField, .ref m_tSign, .ref m_tNumber, .ref m_tNot, .ref m_tOr, .ref m_minute, .ref m_round, .ref m_laneCrew, .ref m_laneTime, .ref m_gone, .ref m_struck, .ref m_wasRun, .ref m_wait, .ref m_current, .ref m_finals, .ref m_bestTime, .ref m_inFinal, .ref m_pick, .ref m_found, .ref m_fresh, .ref m_at, .long 0, .long 0, .int 0, .int 0])), (m_current, .inl (cm_current, 4, .inl (fun _ => 0)))])) (va_Qi (fun (r : Int32) (_ : Unit) => r = f_current p0 p1) (fun _ _ => True) (va_A [(h0, .inr (10, [.int 0, .int 0, .int 0, .int 0, .int 0, .int 10, .int 0, .int 0, .ref m_weight, .ref m_strength, .ref m_arm, .ref m_sex, .ref m_age, .ref m_likes, .ref m_rows, .ref m_drummer, .ref m_members, .ref m_beat, .ref m_member, .ref m_seated, .ref m_isSeated, .ref m_tape, .ref m_rTests, .ref m_tField, .ref m_tSign, .ref m_tNumber, .ref m_tNot, .ref m_tOr, .ref m_minute, .ref m_round, .ref m_laneCrew, .ref m_laneTime, .ref m_gone, .ref m_struck, .ref m_wasRun, .ref m_wait, .ref m_current, .ref m_finals, .ref m_bestTime, .ref m_inFinal, .ref m_pick, .ref m_found, .ref m_fresh, .ref m_at, .long 0, .long 0, .int 0, .int 0])), (m_current, .inl (cm_current, 4, .inl (fun _ => 0)))] sz)) 0 0 (va_A [(h0, .inr (10, [.int 0, .int 0, .int 0, .int 0, .int 0, .int 10, .int 0, .int 0, .ref m_weight, .ref m_strength, .ref m_arm, .ref m_sex, .ref m_age, .ref m_likes, .ref m_rows, .ref m_drummer, .ref m_members, .ref m_beat, .ref m_member, .ref m_seated, .ref m_isSeated, .ref m_tape, .ref m_rTests, .ref m_tField, .ref m_tSign, .ref m_tNumber, .ref m_tNot, .ref m_tOr, .ref m_minute, .ref m_round, .ref m_laneCrew, .ref m_laneTime, .ref m_gone, .ref m_struck, .ref m_wasRun, .ref m_wait, .ref m_current, .ref m_finals, .ref m_bestTime, .ref m_inFinal, .ref m_pick, .ref m_found, .ref m_fresh, .ref m_at, .long 0, .long 0, .int 0, .int 0])), (m_current, .inl (cm_current, 4, .inl (fun _ => 0)))] sz) := by
  refine Met.ofW (cc := cX10_current) (maxL := 4) (ret := (some .int)) (by decide) rfl ?_
  intro p e s m args below meth c s₁ B hml hv
  obtain ⟨rfl, hsz, hP, hK, hD0⟩ := hv
  have hx := B.exec
  have hb := B.bytes
  have hr := B.returns
  have hts := atoms_spec (ws := wsX10_current) B.pre
  have hown : s.vm.findClass RX10 = some m.cls := findClass_of_methodNamed B.named
  have hlocks := B.notSynchronized
  subst hsz
  have hD := hD0.self (sz := s.heap.size)
  generalize hAe : va_A [(h0, .inr (10, [.int 0, .int 0, .int 0, .int 0, .int 0, .int 10, .int 0, .int 0, .ref m_weight, .ref m_strength, .ref m_arm, .ref m_sex, .ref m_age, .ref m_likes, .ref m_rows, .ref m_drummer, .ref m_members, .ref m_beat, .ref m_member, .ref m_seated, .ref m_isSeated, .ref m_tape, .ref m_rTests, .ref m_tField, .ref m_tSign, .ref m_tNumber, .ref m_tNot, .ref m_tOr, .ref m_minute, .ref m_round, .ref m_laneCrew, .ref m_laneTime, .ref m_gone, .ref m_struck, .ref m_wasRun, .ref m_wait, .ref m_current, .ref m_finals, .ref m_bestTime, .ref m_inFinal, .ref m_pick, .ref m_found, .ref m_fresh, .ref m_at, .long 0, .long 0, .int 0, .int 0])), (m_current, .inl (cm_current, 4, .inl (fun _ => 0)))] s.heap.size = A at hD ⊢
  have hA : ∀ q : Nat, s.heap.size ≤ q → A q := fun q h => by rw [← hAe]; exact Or.inr h
  have hS : va_S A s.heap s.heap [] := va_S.rf
  have hl := lv_entry ([.ref h0, .int p0, .int p1]) (n := 4) (Nat.le_of_ble_eq_true rfl)
  rw [lg_entry_eq]
  generalize (lg_sl ([.ref h0, .int p0, .int p1]) ++ List.replicate (4 - (lg_sl ([.ref h0, .int p0, .int p1])).length) Slot.unset).toArray = ls at hl ⊢
  have hl : lv_has ls 4 [(0, .ref h0), (1, .int p0), (2, .int p1)] := hl
  refine lv_iload_n hx hb dX10_current_0 rfl (lv_at hl 1 rfl) ?_
  refine lv_if_lt (tgt := 9) hx hb dX10_current_1 (by decide) (fun c_1 => ?_) (fun c_1 => ?_)
  · have c_1 : p0.toInt < 0 := Int32.lt_iff_toInt_lt.mp c_1
    refine lv_bipush (v := (-100)) hx hb dX10_current_9 (by decide +kernel) ?_
    refine W.widen (k := 0) (n := 0) (Nat.le_of_ble_eq_true rfl) (Nat.le_of_ble_eq_true rfl) ?_
    exact W.iret (v := (-100)) hx hb hr (fun t ht hW => ⟨⟨(-100), (), rfl, (by first | rfl | decide | (unfold f_current; (repeat' split) <;> first | rfl | omega)), trivial⟩, hS.F ht⟩) hS.2.2 dX10_current_11
  · have c_1 : ¬ (p0.toInt < 0) := fun h => c_1 (Int32.lt_iff_toInt_lt.mpr h)
    refine lv_iload_n hx hb dX10_current_4 rfl (lv_at hl 1 rfl) ?_
    refine lv_iconst (v := 3) hx hb dX10_current_5 (by decide +kernel) ?_
    refine lv_icmp_le (tgt := 12) hx hb dX10_current_6 (by decide) (fun c_2 => ?_) (fun c_2 => ?_)
    · have c_2 : p0.toInt ≤ 3 := Int32.le_iff_toInt_le.mp c_2
      refine lv_iload_n hx hb dX10_current_12 rfl (lv_at hl 2 rfl) ?_
      refine lv_bipush (v := (-9)) hx hb dX10_current_13 (by decide +kernel) ?_
      refine lv_icmp_lt (tgt := 24) hx hb dX10_current_15 (by decide) (fun c_3 => ?_) (fun c_3 => ?_)
      · have c_3 : p1.toInt < (-9) := Int32.lt_iff_toInt_lt.mp c_3
        refine lv_bipush (v := (-101)) hx hb dX10_current_24 (by decide +kernel) ?_
        refine W.widen (k := 0) (n := 0) (Nat.le_of_ble_eq_true rfl) (Nat.le_of_ble_eq_true rfl) ?_
        exact W.iret (v := (-101)) hx hb hr (fun t ht hW => ⟨⟨(-101), (), rfl, (by first | rfl | decide | (unfold f_current; (repeat' split) <;> first | rfl | omega)), trivial⟩, hS.F ht⟩) hS.2.2 dX10_current_26
      · have c_3 : ¬ (p1.toInt < (-9)) := fun h => c_3 (Int32.lt_iff_toInt_lt.mpr h)
        refine lv_iload_n hx hb dX10_current_18 rfl (lv_at hl 2 rfl) ?_
        refine lv_bipush (v := 9) hx hb dX10_current_19 (by decide +kernel) ?_
        refine lv_icmp_le (tgt := 27) hx hb dX10_current_21 (by decide) (fun c_4 => ?_) (fun c_4 => ?_)
        · have c_4 : p1.toInt ≤ 9 := Int32.le_iff_toInt_le.mp c_4
          refine lv_aload_n hx hb dX10_current_27 rfl (lv_at hl 0 rfl) ?_
          refine va_get (D := (dC, dI)) (ci := 10) (v := .ref m_current) (C := RX10) (T := TX10) (N := 48) hx hb hts (fun _ h => List.mem_cons_of_mem _ (List.mem_append_right _ h)) hown hK hP 0 rfl rfl 36 (by decide) (hts (.fieldLink RX10 101 "DrumBoatsModel" "current" "[I") (List.mem_of_getElem? (i := 1) rfl)) (fun _ h9 => h9) rfl dX10_current_28 ?_
          refine lv_iload_n hx hb dX10_current_31 rfl (lv_at hl 1 rfl) ?_
          refine va_iald hx hb hK hP 1 0 rfl rfl (vp_in_iff.mpr (by omega)) dX10_current_32 ?_
          refine ti_eq (y := 0) rfl ?_
          refine lv_istore_n (lv' := [(3, .int 0), (0, .ref h0), (1, .int p0), (2, .int p1)]) hx hb dX10_current_33 rfl hl (by decide) rfl (fun ls hl => ?_)
          refine lv_aload_n hx hb dX10_current_34 rfl (lv_at hl 1 rfl) ?_
          refine va_get (D := (dC, dI)) (ci := 10) (v := .ref m_current) (C := RX10) (T := TX10) (N := 48) hx hb hts (fun _ h => List.mem_cons_of_mem _ (List.mem_append_right _ h)) hown hK hP 0 rfl rfl 36 (by decide) (hts (.fieldLink RX10 101 "DrumBoatsModel" "current" "[I") (List.mem_of_getElem? (i := 1) rfl)) (fun _ h9 => h9) rfl dX10_current_35 ?_
          refine lv_iload_n hx hb dX10_current_38 rfl (lv_at hl 2 rfl) ?_
          refine lv_iload_n hx hb dX10_current_39 rfl (lv_at hl 3 rfl) ?_
          refine va_iast hx hb hK hP hD hS 1 0 rfl rfl (vp_in_iff.mpr (by omega)) dX10_current_40 (fun H locs hP hD hS => ?_)
          have hP : va_P (dC, dI) vwCl [(h0, .inr (10, [.int 0, .int 0, .int 0, .int 0, .int 0, .int 10, .int 0, .int 0, .ref m_weight, .ref m_strength, .ref m_arm, .ref m_sex, .ref m_age, .ref m_likes, .ref m_rows, .ref m_drummer, .ref m_members, .ref m_beat, .ref m_member, .ref m_seated, .ref m_isSeated, .ref m_tape, .ref m_rTests, .ref m_tField, .ref m_tSign, .ref m_tNumber, .ref m_tNot, .ref m_tOr, .ref m_minute, .ref m_round, .ref m_laneCrew, .ref m_laneTime, .ref m_gone, .ref m_struck, .ref m_wasRun, .ref m_wait, .ref m_current, .ref m_finals, .ref m_bestTime, .ref m_inFinal, .ref m_pick, .ref m_found, .ref m_fresh, .ref m_at, .long 0, .long 0, .int 0, .int 0])), (m_current, .inl (cm_current, 4, .inl (upd (fun _ => 0) (p0 : Int32).toNatClampNeg p1)))] H := hP
          have hD : va_D A [(h0, .inr (10, [.int 0, .int 0, .int 0, .int 0, .int 0, .int 10, .int 0, .int 0, .ref m_weight, .ref m_strength, .ref m_arm, .ref m_sex, .ref m_age, .ref m_likes, .ref m_rows, .ref m_drummer, .ref m_members, .ref m_beat, .ref m_member, .ref m_seated, .ref m_isSeated, .ref m_tape, .ref m_rTests, .ref m_tField, .ref m_tSign, .ref m_tNumber, .ref m_tNot, .ref m_tOr, .ref m_minute, .ref m_round, .ref m_laneCrew, .ref m_laneTime, .ref m_gone, .ref m_struck, .ref m_wasRun, .ref m_wait, .ref m_current, .ref m_finals, .ref m_bestTime, .ref m_inFinal, .ref m_pick, .ref m_found, .ref m_fresh, .ref m_at, .long 0, .long 0, .int 0, .int 0])), (m_current, .inl (cm_current, 4, .inl (upd (fun _ => 0) (p0 : Int32).toNatClampNeg p1)))] := hD
          refine lv_iload_n hx hb dX10_current_41 rfl (lv_at hl 0 rfl) ?_
          refine W.widen (k := 0) (n := 0) (Nat.le_of_ble_eq_true rfl) (Nat.le_of_ble_eq_true rfl) ?_
          exact W.iret (v := 0) hx hb hr (fun t ht hW => ⟨⟨0, (), rfl, (by first | rfl | decide | (unfold f_current; (repeat' split) <;> first | rfl | omega)), trivial⟩, hS.F ht⟩) hS.2.2 dX10_current_42
        · have c_4 : ¬ (p1.toInt ≤ 9) := fun h => c_4 (Int32.le_iff_toInt_le.mpr h)
          refine lv_bipush (v := (-101)) hx hb dX10_current_24 (by decide +kernel) ?_
          refine W.widen (k := 0) (n := 0) (Nat.le_of_ble_eq_true rfl) (Nat.le_of_ble_eq_true rfl) ?_
          exact W.iret (v := (-101)) hx hb hr (fun t ht hW => ⟨⟨(-101), (), rfl, (by first | rfl | decide | (unfold f_current; (repeat' split) <;> first | rfl | omega)), trivial⟩, hS.F ht⟩) hS.2.2 dX10_current_26
    · have c_2 : ¬ (p0.toInt ≤ 3) := fun h => c_2 (Int32.le_iff_toInt_le.mpr h)
      refine lv_bipush (v := (-100)) hx hb dX10_current_9 (by decide +kernel) ?_
      refine W.widen (k := 0) (n := 0) (Nat.le_of_ble_eq_true rfl) (Nat.le_of_ble_eq_true rfl) ?_
      exact W.iret (v := (-100)) hx hb hr (fun t ht hW => ⟨⟨(-100), (), rfl, (by first | rfl | decide | (unfold f_current; (repeat' split) <;> first | rfl | omega)), trivial⟩, hS.F ht⟩) hS.2.2 dX10_current_11

set_option maxHeartbeats 4000000 in
set_option maxRecDepth 100000 in
theorem k_X10_finalists (l : Launch) (dC : Nat → ClassId) (dI : Nat → Nat → Nat) (sz : Nat) (h0 : Nat) (p0 : Int32) (p1 : Int32) (m_weight : Nat) (m_strength : Nat) (m_arm : Nat) (m_sex : Nat) (m_age : Nat) (m_likes : Nat) (m_rows : Nat) (m_drummer : Nat) (m_members : Nat) (m_beat : Nat) (m_member : Nat) (m_seated : Nat) (m_isSeated : Nat) (m_tape : Nat) (m_rTests : Nat) (m_tField : Nat) (m_tSign : Nat) (m_tNumber : Nat) (m_tNot : Nat) (m_tOr : Nat) (m_minute : Nat) (m_round : Nat) (m_laneCrew : Nat) (m_laneTime : Nat) (m_gone : Nat) (m_struck : Nat) (m_wasRun : Nat) (m_wait : Nat) (m_current : Nat) (m_finals : Nat) (m_bestTime : Nat) (m_inFinal : Nat) (m_pick : Nat) (m_found : Nat) (m_fresh : Nat) (m_at : Nat) : Met l yX10_finalists wsX10_finalists ({ frames := 0, cells := 0, slots := 0, locals := 0 }) (va_Pc [.ref h0, .int p0, .int p1] (fun U => U.heap.size = sz ∧ va_P (dC, dI) vwCl [(h0, .inr (10, [.int 0, .int 0, .int 0, .int 0, .int 0, .int 10, .int 0, .int 0, .ref m_weight, .ref m_strength, .ref m_arm, .ref m_sex, .ref m_age, .ref m_likes, .ref m_rows, .ref m_drummer, .ref m_members, .ref m_beat, .ref m_member, .ref m_seated, .ref m_isSeated, .ref m_tape, .ref m_rTests, .ref m_tField, .ref m_tSign, .ref m_tNumber, .ref m_tNot, .ref m_tOr, .ref m_minute, .ref m_round, .ref m_laneCrew, .ref m_laneTime, .ref m_gone, .ref m_struck, .ref m_wasRun, .ref m_wait, .ref m_current, .ref m_finals, .ref m_bestTime, .ref m_inFinal, .ref m_pick, .ref m_found, .ref m_fresh, .ref m_at, .long 0, .long 0, .int 0, .int 0]))] U.heap ∧ va_K (dC, dI) vwCl [] U ∧ va_D (fun _ => True) [(h0, .inr (10, [.int 0, .int 0, .int 0, .int 0, .int 0, .int 10, .int 0, .int 0, .ref m_weight, .ref m_strength, .ref m_arm, .ref m_sex, .ref m_age, .ref m_likes, .ref m_rows, .ref m_drummer, .ref m_members, .ref m_beat, .ref m_member, .ref m_seated, .ref m_isSeated, .ref m_tape, .ref m_rTests, .ref m_tField, .ref m_tSign, .ref m_tNumber, .ref m_tNot, .ref m_tOr, .ref m_minute, .ref m_round, .ref m_laneCrew, .ref m_laneTime, .ref m_gone, .ref m_struck, .ref m_wasRun, .ref m_wait, .ref m_current, .ref m_finals, .ref m_bestTime, .ref m_inFinal, .ref m_pick, .ref m_found, .ref m_fresh, .ref m_at, .long 0, .long 0, .int 0, .int 0]))])) (va_Qi (fun (r : Int32) (_ : Unit) => r = f_finalists p0 p1) (fun _ _ => True) (va_A [(h0, .inr (10, [.int 0, .int 0, .int 0, .int 0, .int 0, .int 10, .int 0, .int 0, .ref m_weight, .ref m_strength, .ref m_arm, .ref m_sex, .ref m_age, .ref m_likes, .ref m_rows, .ref m_drummer, .ref m_members, .ref m_beat, .ref m_member, .ref m_seated, .ref m_isSeated, .ref m_tape, .ref m_rTests, .ref m_tField, .ref m_tSign, .ref m_tNumber, .ref m_tNot, .ref m_tOr, .ref m_minute, .ref m_round, .ref m_laneCrew, .ref m_laneTime, .ref m_gone, .ref m_struck, .ref m_wasRun, .ref m_wait, .ref m_current, .ref m_finals, .ref m_bestTime, .ref m_inFinal, .ref m_pick, .ref m_found, .ref m_fresh, .ref m_at, .long 0, .long 0, .int 0, .int 0]))] sz)) 0 0 (va_A [(h0, .inr (10, [.int 0, .int 0, .int 0, .int 0, .int 0, .int 10, .int 0, .int 0, .ref m_weight, .ref m_strength, .ref m_arm, .ref m_sex, .ref m_age, .ref m_likes, .ref m_rows, .ref m_drummer, .ref m_members, .ref m_beat, .ref m_member, .ref m_seated, .ref m_isSeated, .ref m_tape, .ref m_rTests, .ref m_tField, .ref m_tSign, .ref m_tNumber, .ref m_tNot, .ref m_tOr, .ref m_minute, .ref m_round, .ref m_laneCrew, .ref m_laneTime, .ref m_gone, .ref m_struck, .ref m_wasRun, .ref m_wait, .ref m_current, .ref m_finals, .ref m_bestTime, .ref m_inFinal, .ref m_pick, .ref m_found, .ref m_fresh, .ref m_at, .long 0, .long 0, .int 0, .int 0]))] sz) := by
  refine Met.ofW (cc := cX10_finalists) (maxL := 7) (ret := (some .int)) (by decide) rfl ?_
  intro p e s m args below meth c s₁ B hml hv
  obtain ⟨rfl, hsz, hP, hK, hD0⟩ := hv
  have hx := B.exec
  have hb := B.bytes
  have hr := B.returns
  have hts := atoms_spec (ws := wsX10_finalists) B.pre
  have hown : s.vm.findClass RX10 = some m.cls := findClass_of_methodNamed B.named
  have hlocks := B.notSynchronized
  subst hsz
  have hD := hD0.self (sz := s.heap.size)
  generalize hAe : va_A [(h0, .inr (10, [.int 0, .int 0, .int 0, .int 0, .int 0, .int 10, .int 0, .int 0, .ref m_weight, .ref m_strength, .ref m_arm, .ref m_sex, .ref m_age, .ref m_likes, .ref m_rows, .ref m_drummer, .ref m_members, .ref m_beat, .ref m_member, .ref m_seated, .ref m_isSeated, .ref m_tape, .ref m_rTests, .ref m_tField, .ref m_tSign, .ref m_tNumber, .ref m_tNot, .ref m_tOr, .ref m_minute, .ref m_round, .ref m_laneCrew, .ref m_laneTime, .ref m_gone, .ref m_struck, .ref m_wasRun, .ref m_wait, .ref m_current, .ref m_finals, .ref m_bestTime, .ref m_inFinal, .ref m_pick, .ref m_found, .ref m_fresh, .ref m_at, .long 0, .long 0, .int 0, .int 0]))] s.heap.size = A at hD ⊢
  have hA : ∀ q : Nat, s.heap.size ≤ q → A q := fun q h => by rw [← hAe]; exact Or.inr h
  have hS : va_S A s.heap s.heap [] := va_S.rf
  have hl := lv_entry ([.ref h0, .int p0, .int p1]) (n := 7) (Nat.le_of_ble_eq_true rfl)
  rw [lg_entry_eq]
  generalize (lg_sl ([.ref h0, .int p0, .int p1]) ++ List.replicate (7 - (lg_sl ([.ref h0, .int p0, .int p1])).length) Slot.unset).toArray = ls at hl ⊢
  have hl : lv_has ls 7 [(0, .ref h0), (1, .int p0), (2, .int p1)] := hl
  refine lv_iload_n hx hb dX10_finalists_0 rfl (lv_at hl 1 rfl) ?_
  refine lv_if_lt (tgt := 20) hx hb dX10_finalists_1 (by decide) (fun c_1 => ?_) (fun c_1 => ?_)
  · have c_1 : p0.toInt < 0 := Int32.lt_iff_toInt_lt.mp c_1
    refine lv_bipush (v := (-2)) hx hb dX10_finalists_20 (by decide +kernel) ?_
    refine W.widen (k := 0) (n := 0) (Nat.le_of_ble_eq_true rfl) (Nat.le_of_ble_eq_true rfl) ?_
    exact W.iret (v := (-2)) hx hb hr (fun t ht hW => ⟨⟨(-2), (), rfl, (by first | rfl | decide | (unfold f_finalists; (repeat' split) <;> first | rfl | omega)), trivial⟩, hS.F ht⟩) hS.2.2 dX10_finalists_22
  · have c_1 : ¬ (p0.toInt < 0) := fun h => c_1 (Int32.lt_iff_toInt_lt.mpr h)
    refine lv_iload_n hx hb dX10_finalists_4 rfl (lv_at hl 1 rfl) ?_
    refine lv_bipush (v := 9) hx hb dX10_finalists_5 (by decide +kernel) ?_
    refine lv_icmp_gt (tgt := 20) hx hb dX10_finalists_7 (by decide) (fun c_2 => ?_) (fun c_2 => ?_)
    · have c_2 : 9 < p0.toInt := Int32.lt_iff_toInt_lt.mp c_2
      refine lv_bipush (v := (-2)) hx hb dX10_finalists_20 (by decide +kernel) ?_
      refine W.widen (k := 0) (n := 0) (Nat.le_of_ble_eq_true rfl) (Nat.le_of_ble_eq_true rfl) ?_
      exact W.iret (v := (-2)) hx hb hr (fun t ht hW => ⟨⟨(-2), (), rfl, (by first | rfl | decide | (unfold f_finalists; (repeat' split) <;> first | rfl | omega)), trivial⟩, hS.F ht⟩) hS.2.2 dX10_finalists_22
    · have c_2 : ¬ (9 < p0.toInt) := fun h => c_2 (Int32.lt_iff_toInt_lt.mpr h)
      refine lv_iload_n hx hb dX10_finalists_10 rfl (lv_at hl 2 rfl) ?_
      refine lv_if_lt (tgt := 20) hx hb dX10_finalists_11 (by decide) (fun c_3 => ?_) (fun c_3 => ?_)
      · have c_3 : p1.toInt < 0 := Int32.lt_iff_toInt_lt.mp c_3
        refine lv_bipush (v := (-2)) hx hb dX10_finalists_20 (by decide +kernel) ?_
        refine W.widen (k := 0) (n := 0) (Nat.le_of_ble_eq_true rfl) (Nat.le_of_ble_eq_true rfl) ?_
        exact W.iret (v := (-2)) hx hb hr (fun t ht hW => ⟨⟨(-2), (), rfl, (by first | rfl | decide | (unfold f_finalists; (repeat' split) <;> first | rfl | omega)), trivial⟩, hS.F ht⟩) hS.2.2 dX10_finalists_22
      · have c_3 : ¬ (p1.toInt < 0) := fun h => c_3 (Int32.lt_iff_toInt_lt.mpr h)
        refine lv_iload_n hx hb dX10_finalists_14 rfl (lv_at hl 2 rfl) ?_
        refine lv_bipush (v := 9) hx hb dX10_finalists_15 (by decide +kernel) ?_
        refine lv_icmp_le (tgt := 23) hx hb dX10_finalists_17 (by decide) (fun c_4 => ?_) (fun c_4 => ?_)
        · have c_4 : p1.toInt ≤ 9 := Int32.le_iff_toInt_le.mp c_4
          refine lv_iconst (v := 0) hx hb dX10_finalists_23 (by decide +kernel) ?_
          refine lv_istore_n (lv' := [(3, .int 0), (0, .ref h0), (1, .int p0), (2, .int p1)]) hx hb dX10_finalists_24 rfl hl (by decide) rfl (fun ls hl => ?_)
          refine lv_iload_n hx hb dX10_finalists_25 rfl (lv_at hl 0 rfl) ?_
          refine lv_aload_n hx hb dX10_finalists_26 rfl (lv_at hl 1 rfl) ?_
          refine va_get (D := (dC, dI)) (ci := 10) (v := .int 0) (C := RX10) (T := TX10) (N := 48) hx hb hts (fun _ h => List.mem_cons_of_mem _ (List.mem_append_right _ h)) hown hK hP 0 rfl rfl 1 (by decide) (hts (.fieldLink RX10 128 "DrumBoatsModel" "crews" "I") (List.mem_of_getElem? (i := 1) rfl)) (fun _ h9 => h9) rfl dX10_finalists_27 ?_
          refine lv_icmp_ge (tgt := 53) hx hb dX10_finalists_30 (by decide) (fun _ => ?_) (fun c9 => absurd c9 (by decide +kernel))
          refine lv_iconst (v := 0) hx hb dX10_finalists_53 (by decide +kernel) ?_
          refine lv_istore_n (lv' := [(3, .int 0), (0, .ref h0), (1, .int p0), (2, .int p1)]) hx hb dX10_finalists_54 rfl hl (by decide) rfl (fun ls hl => ?_)
          refine lv_iload_n hx hb dX10_finalists_55 rfl (lv_at hl 0 rfl) ?_
          refine lv_aload_n hx hb dX10_finalists_56 rfl (lv_at hl 1 rfl) ?_
          refine va_get (D := (dC, dI)) (ci := 10) (v := .int 0) (C := RX10) (T := TX10) (N := 48) hx hb hts (fun _ h => List.mem_cons_of_mem _ (List.mem_append_right _ h)) hown hK hP 0 rfl rfl 3 (by decide) (hts (.fieldLink RX10 223 "DrumBoatsModel" "races" "I") (List.mem_of_getElem? (i := 4) rfl)) (fun _ h9 => h9) rfl dX10_finalists_57 ?_
          refine lv_icmp_ge (tgt := 177) hx hb dX10_finalists_60 (by decide) (fun _ => ?_) (fun c9 => absurd c9 (by decide +kernel))
          refine lv_aload_n hx hb dX10_finalists_177 rfl (lv_at hl 1 rfl) ?_
          refine lv_iconst (v := 0) hx hb dX10_finalists_178 (by decide +kernel) ?_
          refine va_put (D := (dC, dI)) (ci := 10) (v := .int 0) (ty := .int) (C := RX10) (T := TX10) (N := 48) hx hb hts (fun _ h => List.mem_cons_of_mem _ (List.mem_append_right _ h)) tyX10 tyX10_ok nmX10 hown hK hP hD hS 0 rfl rfl 7 (by decide) (hts (.fieldLink RX10 240 "DrumBoatsModel" "finalN" "I") (List.mem_of_getElem? (i := 8) rfl)) (fun _ h9 => h9) rfl (by decide +kernel) rfl rfl (Nat.le_of_ble_eq_true rfl) dX10_finalists_179 (fun H locs hP hD hS => ?_)
          have hP : va_P (dC, dI) vwCl [(h0, .inr (10, [.int 0, .int 0, .int 0, .int 0, .int 0, .int 10, .int 0, .int 0, .ref m_weight, .ref m_strength, .ref m_arm, .ref m_sex, .ref m_age, .ref m_likes, .ref m_rows, .ref m_drummer, .ref m_members, .ref m_beat, .ref m_member, .ref m_seated, .ref m_isSeated, .ref m_tape, .ref m_rTests, .ref m_tField, .ref m_tSign, .ref m_tNumber, .ref m_tNot, .ref m_tOr, .ref m_minute, .ref m_round, .ref m_laneCrew, .ref m_laneTime, .ref m_gone, .ref m_struck, .ref m_wasRun, .ref m_wait, .ref m_current, .ref m_finals, .ref m_bestTime, .ref m_inFinal, .ref m_pick, .ref m_found, .ref m_fresh, .ref m_at, .long 0, .long 0, .int 0, .int 0]))] H := hP
          have hD : va_D A [(h0, .inr (10, [.int 0, .int 0, .int 0, .int 0, .int 0, .int 10, .int 0, .int 0, .ref m_weight, .ref m_strength, .ref m_arm, .ref m_sex, .ref m_age, .ref m_likes, .ref m_rows, .ref m_drummer, .ref m_members, .ref m_beat, .ref m_member, .ref m_seated, .ref m_isSeated, .ref m_tape, .ref m_rTests, .ref m_tField, .ref m_tSign, .ref m_tNumber, .ref m_tNot, .ref m_tOr, .ref m_minute, .ref m_round, .ref m_laneCrew, .ref m_laneTime, .ref m_gone, .ref m_struck, .ref m_wasRun, .ref m_wait, .ref m_current, .ref m_finals, .ref m_bestTime, .ref m_inFinal, .ref m_pick, .ref m_found, .ref m_fresh, .ref m_at, .long 0, .long 0, .int 0, .int 0]))] := hD
          refine lv_iconst (v := 0) hx hb dX10_finalists_182 (by decide +kernel) ?_
          refine lv_istore_n (lv' := [(3, .int 0), (0, .ref h0), (1, .int p0), (2, .int p1)]) hx hb dX10_finalists_183 rfl hl (by decide) rfl (fun ls hl => ?_)
          refine lv_iload_n hx hb dX10_finalists_184 rfl (lv_at hl 0 rfl) ?_
          refine lv_aload_n hx hb dX10_finalists_185 rfl (lv_at hl 1 rfl) ?_
          refine va_get (D := (dC, dI)) (ci := 10) (v := .int 0) (C := RX10) (T := TX10) (N := 48) hx hb hts (fun _ h => List.mem_cons_of_mem _ (List.mem_append_right _ h)) hown hK hP 0 rfl rfl 1 (by decide) (hts (.fieldLink RX10 128 "DrumBoatsModel" "crews" "I") (List.mem_of_getElem? (i := 1) rfl)) (fun _ h9 => h9) rfl dX10_finalists_186 ?_
          refine lv_icmp_ge (tgt := 372) hx hb dX10_finalists_189 (by decide) (fun _ => ?_) (fun c9 => absurd c9 (by decide +kernel))
          refine lv_aload_n hx hb dX10_finalists_372 rfl (lv_at hl 1 rfl) ?_
          refine va_get (D := (dC, dI)) (ci := 10) (v := .int 0) (C := RX10) (T := TX10) (N := 48) hx hb hts (fun _ h => List.mem_cons_of_mem _ (List.mem_append_right _ h)) hown hK hP 0 rfl rfl 7 (by decide) (hts (.fieldLink RX10 240 "DrumBoatsModel" "finalN" "I") (List.mem_of_getElem? (i := 8) rfl)) (fun _ h9 => h9) rfl dX10_finalists_373 ?_
          refine W.widen (k := 0) (n := 0) (Nat.le_of_ble_eq_true rfl) (Nat.le_of_ble_eq_true rfl) ?_
          exact W.iret (v := 0) hx hb hr (fun t ht hW => ⟨⟨0, (), rfl, (by first | rfl | decide | (unfold f_finalists; (repeat' split) <;> first | rfl | omega)), trivial⟩, hS.F ht⟩) hS.2.2 dX10_finalists_376
        · have c_4 : ¬ (p1.toInt ≤ 9) := fun h => c_4 (Int32.le_iff_toInt_le.mpr h)
          refine lv_bipush (v := (-2)) hx hb dX10_finalists_20 (by decide +kernel) ?_
          refine W.widen (k := 0) (n := 0) (Nat.le_of_ble_eq_true rfl) (Nat.le_of_ble_eq_true rfl) ?_
          exact W.iret (v := (-2)) hx hb hr (fun t ht hW => ⟨⟨(-2), (), rfl, (by first | rfl | decide | (unfold f_finalists; (repeat' split) <;> first | rfl | omega)), trivial⟩, hS.F ht⟩) hS.2.2 dX10_finalists_22

set_option maxHeartbeats 4000000 in
set_option maxRecDepth 100000 in
theorem k_X10_level (l : Launch) (dC : Nat → ClassId) (dI : Nat → Nat → Nat) (sz : Nat) (h0 : Nat) (p0 : Int32) (p1 : Int32) (p2 : Int32) (m_weight : Nat) (m_strength : Nat) (m_arm : Nat) (m_sex : Nat) (m_age : Nat) (m_likes : Nat) (m_rows : Nat) (m_drummer : Nat) (m_members : Nat) (m_beat : Nat) (m_member : Nat) (m_seated : Nat) (m_isSeated : Nat) (m_tape : Nat) (m_rTests : Nat) (m_tField : Nat) (m_tSign : Nat) (m_tNumber : Nat) (m_tNot : Nat) (m_tOr : Nat) (m_minute : Nat) (m_round : Nat) (m_laneCrew : Nat) (m_laneTime : Nat) (m_gone : Nat) (m_struck : Nat) (m_wasRun : Nat) (m_wait : Nat) (m_current : Nat) (m_finals : Nat) (m_bestTime : Nat) (m_inFinal : Nat) (m_pick : Nat) (m_found : Nat) (m_fresh : Nat) (m_at : Nat) : Met l yX10_level wsX10_level ({ frames := 0, cells := 0, slots := 0, locals := 0 }) (va_Pc [.ref h0, .int p0, .int p1, .int p2] (fun U => U.heap.size = sz ∧ va_P (dC, dI) vwCl [(h0, .inr (10, [.int 0, .int 0, .int 0, .int 0, .int 0, .int 10, .int 0, .int 0, .ref m_weight, .ref m_strength, .ref m_arm, .ref m_sex, .ref m_age, .ref m_likes, .ref m_rows, .ref m_drummer, .ref m_members, .ref m_beat, .ref m_member, .ref m_seated, .ref m_isSeated, .ref m_tape, .ref m_rTests, .ref m_tField, .ref m_tSign, .ref m_tNumber, .ref m_tNot, .ref m_tOr, .ref m_minute, .ref m_round, .ref m_laneCrew, .ref m_laneTime, .ref m_gone, .ref m_struck, .ref m_wasRun, .ref m_wait, .ref m_current, .ref m_finals, .ref m_bestTime, .ref m_inFinal, .ref m_pick, .ref m_found, .ref m_fresh, .ref m_at, .long 0, .long 0, .int 0, .int 0]))] U.heap ∧ va_K (dC, dI) vwCl [] U ∧ va_D (fun _ => True) [(h0, .inr (10, [.int 0, .int 0, .int 0, .int 0, .int 0, .int 10, .int 0, .int 0, .ref m_weight, .ref m_strength, .ref m_arm, .ref m_sex, .ref m_age, .ref m_likes, .ref m_rows, .ref m_drummer, .ref m_members, .ref m_beat, .ref m_member, .ref m_seated, .ref m_isSeated, .ref m_tape, .ref m_rTests, .ref m_tField, .ref m_tSign, .ref m_tNumber, .ref m_tNot, .ref m_tOr, .ref m_minute, .ref m_round, .ref m_laneCrew, .ref m_laneTime, .ref m_gone, .ref m_struck, .ref m_wasRun, .ref m_wait, .ref m_current, .ref m_finals, .ref m_bestTime, .ref m_inFinal, .ref m_pick, .ref m_found, .ref m_fresh, .ref m_at, .long 0, .long 0, .int 0, .int 0]))])) (va_Ql (fun (r : Int64) (_ : Unit) => r = (-9223372036854775808)) (fun _ _ => True) (va_A [(h0, .inr (10, [.int 0, .int 0, .int 0, .int 0, .int 0, .int 10, .int 0, .int 0, .ref m_weight, .ref m_strength, .ref m_arm, .ref m_sex, .ref m_age, .ref m_likes, .ref m_rows, .ref m_drummer, .ref m_members, .ref m_beat, .ref m_member, .ref m_seated, .ref m_isSeated, .ref m_tape, .ref m_rTests, .ref m_tField, .ref m_tSign, .ref m_tNumber, .ref m_tNot, .ref m_tOr, .ref m_minute, .ref m_round, .ref m_laneCrew, .ref m_laneTime, .ref m_gone, .ref m_struck, .ref m_wasRun, .ref m_wait, .ref m_current, .ref m_finals, .ref m_bestTime, .ref m_inFinal, .ref m_pick, .ref m_found, .ref m_fresh, .ref m_at, .long 0, .long 0, .int 0, .int 0]))] sz)) 0 0 (va_A [(h0, .inr (10, [.int 0, .int 0, .int 0, .int 0, .int 0, .int 10, .int 0, .int 0, .ref m_weight, .ref m_strength, .ref m_arm, .ref m_sex, .ref m_age, .ref m_likes, .ref m_rows, .ref m_drummer, .ref m_members, .ref m_beat, .ref m_member, .ref m_seated, .ref m_isSeated, .ref m_tape, .ref m_rTests, .ref m_tField, .ref m_tSign, .ref m_tNumber, .ref m_tNot, .ref m_tOr, .ref m_minute, .ref m_round, .ref m_laneCrew, .ref m_laneTime, .ref m_gone, .ref m_struck, .ref m_wasRun, .ref m_wait, .ref m_current, .ref m_finals, .ref m_bestTime, .ref m_inFinal, .ref m_pick, .ref m_found, .ref m_fresh, .ref m_at, .long 0, .long 0, .int 0, .int 0]))] sz) := by
  refine Met.ofW (cc := cX10_level) (maxL := 10) (ret := (some .long)) (by decide) rfl ?_
  intro p e s m args below meth c s₁ B hml hv
  obtain ⟨rfl, hsz, hP, hK, hD0⟩ := hv
  have hx := B.exec
  have hb := B.bytes
  have hr := B.returns
  have hts := atoms_spec (ws := wsX10_level) B.pre
  have hown : s.vm.findClass RX10 = some m.cls := findClass_of_methodNamed B.named
  have hlocks := B.notSynchronized
  subst hsz
  have hD := hD0.self (sz := s.heap.size)
  generalize hAe : va_A [(h0, .inr (10, [.int 0, .int 0, .int 0, .int 0, .int 0, .int 10, .int 0, .int 0, .ref m_weight, .ref m_strength, .ref m_arm, .ref m_sex, .ref m_age, .ref m_likes, .ref m_rows, .ref m_drummer, .ref m_members, .ref m_beat, .ref m_member, .ref m_seated, .ref m_isSeated, .ref m_tape, .ref m_rTests, .ref m_tField, .ref m_tSign, .ref m_tNumber, .ref m_tNot, .ref m_tOr, .ref m_minute, .ref m_round, .ref m_laneCrew, .ref m_laneTime, .ref m_gone, .ref m_struck, .ref m_wasRun, .ref m_wait, .ref m_current, .ref m_finals, .ref m_bestTime, .ref m_inFinal, .ref m_pick, .ref m_found, .ref m_fresh, .ref m_at, .long 0, .long 0, .int 0, .int 0]))] s.heap.size = A at hD ⊢
  have hA : ∀ q : Nat, s.heap.size ≤ q → A q := fun q h => by rw [← hAe]; exact Or.inr h
  have hS : va_S A s.heap s.heap [] := va_S.rf
  have hl := lv_entry ([.ref h0, .int p0, .int p1, .int p2]) (n := 10) (Nat.le_of_ble_eq_true rfl)
  rw [lg_entry_eq]
  generalize (lg_sl ([.ref h0, .int p0, .int p1, .int p2]) ++ List.replicate (10 - (lg_sl ([.ref h0, .int p0, .int p1, .int p2])).length) Slot.unset).toArray = ls at hl ⊢
  have hl : lv_has ls 10 [(0, .ref h0), (1, .int p0), (2, .int p1), (3, .int p2)] := hl
  refine lv_iload_n hx hb dX10_level_0 rfl (lv_at hl 1 rfl) ?_
  refine lv_if_lt (tgt := 32) hx hb dX10_level_1 (by decide) (fun c_1 => ?_) (fun c_1 => ?_)
  · have c_1 : p0.toInt < 0 := Int32.lt_iff_toInt_lt.mp c_1
    refine lv_ldc2 (v := (-9223372036854775808)) hx hb hown (hts (.constantLong RX10 243 (-9223372036854775808)) (List.mem_of_getElem? (i := 1) rfl)) dX10_level_32 ?_
    refine W.widen (k := 0) (n := 0) (Nat.le_of_ble_eq_true rfl) (Nat.le_of_ble_eq_true rfl) ?_
    exact W.lret (v := (-9223372036854775808)) hx hb hr (fun t ht hW => ⟨⟨(-9223372036854775808), (), rfl, (by first | rfl | (exfalso; omega)), trivial⟩, hS.F ht⟩) hS.2.2 dX10_level_35
  · have c_1 : ¬ (p0.toInt < 0) := fun h => c_1 (Int32.lt_iff_toInt_lt.mpr h)
    refine lv_iload_n hx hb dX10_level_4 rfl (lv_at hl 1 rfl) ?_
    refine lv_iconst (v := 3) hx hb dX10_level_5 (by decide +kernel) ?_
    refine lv_icmp_gt (tgt := 32) hx hb dX10_level_6 (by decide) (fun c_2 => ?_) (fun c_2 => ?_)
    · have c_2 : 3 < p0.toInt := Int32.lt_iff_toInt_lt.mp c_2
      refine lv_ldc2 (v := (-9223372036854775808)) hx hb hown (hts (.constantLong RX10 243 (-9223372036854775808)) (List.mem_of_getElem? (i := 1) rfl)) dX10_level_32 ?_
      refine W.widen (k := 0) (n := 0) (Nat.le_of_ble_eq_true rfl) (Nat.le_of_ble_eq_true rfl) ?_
      exact W.lret (v := (-9223372036854775808)) hx hb hr (fun t ht hW => ⟨⟨(-9223372036854775808), (), rfl, (by first | rfl | (exfalso; omega)), trivial⟩, hS.F ht⟩) hS.2.2 dX10_level_35
    · have c_2 : ¬ (3 < p0.toInt) := fun h => c_2 (Int32.lt_iff_toInt_lt.mpr h)
      refine lv_iload_n hx hb dX10_level_9 rfl (lv_at hl 2 rfl) ?_
      refine lv_if_lt (tgt := 32) hx hb dX10_level_10 (by decide) (fun c_3 => ?_) (fun c_3 => ?_)
      · have c_3 : p1.toInt < 0 := Int32.lt_iff_toInt_lt.mp c_3
        refine lv_ldc2 (v := (-9223372036854775808)) hx hb hown (hts (.constantLong RX10 243 (-9223372036854775808)) (List.mem_of_getElem? (i := 1) rfl)) dX10_level_32 ?_
        refine W.widen (k := 0) (n := 0) (Nat.le_of_ble_eq_true rfl) (Nat.le_of_ble_eq_true rfl) ?_
        exact W.lret (v := (-9223372036854775808)) hx hb hr (fun t ht hW => ⟨⟨(-9223372036854775808), (), rfl, (by first | rfl | (exfalso; omega)), trivial⟩, hS.F ht⟩) hS.2.2 dX10_level_35
      · have c_3 : ¬ (p1.toInt < 0) := fun h => c_3 (Int32.lt_iff_toInt_lt.mpr h)
        refine lv_iload_n hx hb dX10_level_13 rfl (lv_at hl 2 rfl) ?_
        refine lv_iconst (v := 3) hx hb dX10_level_14 (by decide +kernel) ?_
        refine lv_icmp_gt (tgt := 32) hx hb dX10_level_15 (by decide) (fun c_4 => ?_) (fun c_4 => ?_)
        · have c_4 : 3 < p1.toInt := Int32.lt_iff_toInt_lt.mp c_4
          refine lv_ldc2 (v := (-9223372036854775808)) hx hb hown (hts (.constantLong RX10 243 (-9223372036854775808)) (List.mem_of_getElem? (i := 1) rfl)) dX10_level_32 ?_
          refine W.widen (k := 0) (n := 0) (Nat.le_of_ble_eq_true rfl) (Nat.le_of_ble_eq_true rfl) ?_
          exact W.lret (v := (-9223372036854775808)) hx hb hr (fun t ht hW => ⟨⟨(-9223372036854775808), (), rfl, (by first | rfl | (exfalso; omega)), trivial⟩, hS.F ht⟩) hS.2.2 dX10_level_35
        · have c_4 : ¬ (3 < p1.toInt) := fun h => c_4 (Int32.lt_iff_toInt_lt.mpr h)
          refine lv_iload_n hx hb dX10_level_18 rfl (lv_at hl 1 rfl) ?_
          refine lv_iload_n hx hb dX10_level_19 rfl (lv_at hl 2 rfl) ?_
          refine lv_icmp_eq (tgt := 32) hx hb dX10_level_20 (by decide) (fun c_5 => ?_) (fun c_5 => ?_)
          · have c_5 : p0.toInt = p1.toInt := congrArg Int32.toInt c_5
            refine lv_ldc2 (v := (-9223372036854775808)) hx hb hown (hts (.constantLong RX10 243 (-9223372036854775808)) (List.mem_of_getElem? (i := 1) rfl)) dX10_level_32 ?_
            refine W.widen (k := 0) (n := 0) (Nat.le_of_ble_eq_true rfl) (Nat.le_of_ble_eq_true rfl) ?_
            exact W.lret (v := (-9223372036854775808)) hx hb hr (fun t ht hW => ⟨⟨(-9223372036854775808), (), rfl, (by first | rfl | (exfalso; omega)), trivial⟩, hS.F ht⟩) hS.2.2 dX10_level_35
          · have c_5 : ¬ (p0.toInt = p1.toInt) := fun h => c_5 (Int32.toInt_inj.mp h)
            refine lv_iload_n hx hb dX10_level_23 rfl (lv_at hl 3 rfl) ?_
            refine lv_if_lt (tgt := 32) hx hb dX10_level_24 (by decide) (fun c_6 => ?_) (fun c_6 => ?_)
            · have c_6 : p2.toInt < 0 := Int32.lt_iff_toInt_lt.mp c_6
              refine lv_ldc2 (v := (-9223372036854775808)) hx hb hown (hts (.constantLong RX10 243 (-9223372036854775808)) (List.mem_of_getElem? (i := 1) rfl)) dX10_level_32 ?_
              refine W.widen (k := 0) (n := 0) (Nat.le_of_ble_eq_true rfl) (Nat.le_of_ble_eq_true rfl) ?_
              exact W.lret (v := (-9223372036854775808)) hx hb hr (fun t ht hW => ⟨⟨(-9223372036854775808), (), rfl, (by first | rfl | (exfalso; omega)), trivial⟩, hS.F ht⟩) hS.2.2 dX10_level_35
            · have c_6 : ¬ (p2.toInt < 0) := fun h => c_6 (Int32.lt_iff_toInt_lt.mpr h)
              refine lv_iload_n hx hb dX10_level_27 rfl (lv_at hl 3 rfl) ?_
              refine lv_iconst (v := 1) hx hb dX10_level_28 (by decide +kernel) ?_
              refine lv_icmp_le (tgt := 36) hx hb dX10_level_29 (by decide) (fun c_7 => ?_) (fun c_7 => ?_)
              · have c_7 : p2.toInt ≤ 1 := Int32.le_iff_toInt_le.mp c_7
                refine lv_aload_n hx hb dX10_level_36 rfl (lv_at hl 0 rfl) ?_
                refine lv_lconst (v := 0) hx hb dX10_level_37 (by decide +kernel) ?_
                refine va_put (D := (dC, dI)) (ci := 10) (v := .long 0) (ty := .long) (C := RX10) (T := TX10) (N := 48) hx hb hts (fun _ h => List.mem_cons_of_mem _ (List.mem_append_right _ h)) tyX10 tyX10_ok nmX10 hown hK hP hD hS 0 rfl rfl 44 (by decide) (hts (.fieldLink RX10 245 "DrumBoatsModel" "above" "J") (List.mem_of_getElem? (i := 2) rfl)) (fun _ h9 => h9) rfl (by decide +kernel) rfl rfl (Nat.le_of_ble_eq_true rfl) dX10_level_38 (fun H locs hP hD hS => ?_)
                have hP : va_P (dC, dI) vwCl [(h0, .inr (10, [.int 0, .int 0, .int 0, .int 0, .int 0, .int 10, .int 0, .int 0, .ref m_weight, .ref m_strength, .ref m_arm, .ref m_sex, .ref m_age, .ref m_likes, .ref m_rows, .ref m_drummer, .ref m_members, .ref m_beat, .ref m_member, .ref m_seated, .ref m_isSeated, .ref m_tape, .ref m_rTests, .ref m_tField, .ref m_tSign, .ref m_tNumber, .ref m_tNot, .ref m_tOr, .ref m_minute, .ref m_round, .ref m_laneCrew, .ref m_laneTime, .ref m_gone, .ref m_struck, .ref m_wasRun, .ref m_wait, .ref m_current, .ref m_finals, .ref m_bestTime, .ref m_inFinal, .ref m_pick, .ref m_found, .ref m_fresh, .ref m_at, .long 0, .long 0, .int 0, .int 0]))] H := hP
                have hD : va_D A [(h0, .inr (10, [.int 0, .int 0, .int 0, .int 0, .int 0, .int 10, .int 0, .int 0, .ref m_weight, .ref m_strength, .ref m_arm, .ref m_sex, .ref m_age, .ref m_likes, .ref m_rows, .ref m_drummer, .ref m_members, .ref m_beat, .ref m_member, .ref m_seated, .ref m_isSeated, .ref m_tape, .ref m_rTests, .ref m_tField, .ref m_tSign, .ref m_tNumber, .ref m_tNot, .ref m_tOr, .ref m_minute, .ref m_round, .ref m_laneCrew, .ref m_laneTime, .ref m_gone, .ref m_struck, .ref m_wasRun, .ref m_wait, .ref m_current, .ref m_finals, .ref m_bestTime, .ref m_inFinal, .ref m_pick, .ref m_found, .ref m_fresh, .ref m_at, .long 0, .long 0, .int 0, .int 0]))] := hD
                refine lv_aload_n hx hb dX10_level_41 rfl (lv_at hl 0 rfl) ?_
                refine lv_lconst (v := 0) hx hb dX10_level_42 (by decide +kernel) ?_
                refine va_put (D := (dC, dI)) (ci := 10) (v := .long 0) (ty := .long) (C := RX10) (T := TX10) (N := 48) hx hb hts (fun _ h => List.mem_cons_of_mem _ (List.mem_append_right _ h)) tyX10 tyX10_ok nmX10 hown hK hP hD hS 0 rfl rfl 45 (by decide) (hts (.fieldLink RX10 249 "DrumBoatsModel" "below" "J") (List.mem_of_getElem? (i := 3) rfl)) (fun _ h9 => h9) rfl (by decide +kernel) rfl rfl (Nat.le_of_ble_eq_true rfl) dX10_level_43 (fun H locs hP hD hS => ?_)
                have hP : va_P (dC, dI) vwCl [(h0, .inr (10, [.int 0, .int 0, .int 0, .int 0, .int 0, .int 10, .int 0, .int 0, .ref m_weight, .ref m_strength, .ref m_arm, .ref m_sex, .ref m_age, .ref m_likes, .ref m_rows, .ref m_drummer, .ref m_members, .ref m_beat, .ref m_member, .ref m_seated, .ref m_isSeated, .ref m_tape, .ref m_rTests, .ref m_tField, .ref m_tSign, .ref m_tNumber, .ref m_tNot, .ref m_tOr, .ref m_minute, .ref m_round, .ref m_laneCrew, .ref m_laneTime, .ref m_gone, .ref m_struck, .ref m_wasRun, .ref m_wait, .ref m_current, .ref m_finals, .ref m_bestTime, .ref m_inFinal, .ref m_pick, .ref m_found, .ref m_fresh, .ref m_at, .long 0, .long 0, .int 0, .int 0]))] H := hP
                have hD : va_D A [(h0, .inr (10, [.int 0, .int 0, .int 0, .int 0, .int 0, .int 10, .int 0, .int 0, .ref m_weight, .ref m_strength, .ref m_arm, .ref m_sex, .ref m_age, .ref m_likes, .ref m_rows, .ref m_drummer, .ref m_members, .ref m_beat, .ref m_member, .ref m_seated, .ref m_isSeated, .ref m_tape, .ref m_rTests, .ref m_tField, .ref m_tSign, .ref m_tNumber, .ref m_tNot, .ref m_tOr, .ref m_minute, .ref m_round, .ref m_laneCrew, .ref m_laneTime, .ref m_gone, .ref m_struck, .ref m_wasRun, .ref m_wait, .ref m_current, .ref m_finals, .ref m_bestTime, .ref m_inFinal, .ref m_pick, .ref m_found, .ref m_fresh, .ref m_at, .long 0, .long 0, .int 0, .int 0]))] := hD
                refine lv_iconst (v := 0) hx hb dX10_level_46 (by decide +kernel) ?_
                refine lv_istore (lv' := [(4, .int 0), (0, .ref h0), (1, .int p0), (2, .int p1), (3, .int p2)]) hx hb dX10_level_47 hl (by decide) rfl (fun ls hl => ?_)
                refine lv_iload hx hb dX10_level_49 (lv_at hl 0 rfl) ?_
                refine lv_aload_n hx hb dX10_level_51 rfl (lv_at hl 1 rfl) ?_
                refine va_get (D := (dC, dI)) (ci := 10) (v := .int 0) (C := RX10) (T := TX10) (N := 48) hx hb hts (fun _ h => List.mem_cons_of_mem _ (List.mem_append_right _ h)) hown hK hP 0 rfl rfl 1 (by decide) (hts (.fieldLink RX10 128 "DrumBoatsModel" "crews" "I") (List.mem_of_getElem? (i := 4) rfl)) (fun _ h9 => h9) rfl dX10_level_52 ?_
                refine lv_icmp_ge (tgt := 120) hx hb dX10_level_55 (by decide) (fun _ => ?_) (fun c9 => absurd c9 (by decide +kernel))
                refine lv_aload_n hx hb dX10_level_120 rfl (lv_at hl 1 rfl) ?_
                refine va_get (D := (dC, dI)) (ci := 10) (v := .long 0) (C := RX10) (T := TX10) (N := 48) hx hb hts (fun _ h => List.mem_cons_of_mem _ (List.mem_append_right _ h)) hown hK hP 0 rfl rfl 45 (by decide) (hts (.fieldLink RX10 249 "DrumBoatsModel" "below" "J") (List.mem_of_getElem? (i := 3) rfl)) (fun _ h9 => h9) rfl dX10_level_121 ?_
                refine lv_lconst (v := 0) hx hb dX10_level_124 (by decide +kernel) ?_
                refine W.lcmp hx hb dX10_level_125 ?_
                refine ti_eq (y := 0) (by decide +kernel) ?_
                refine lv_if_ne (tgt := 133) hx hb dX10_level_126 (by decide) (fun c9 => absurd c9 (by decide +kernel)) (fun _ => ?_)
                refine lv_ldc2 (v := (-9223372036854775808)) hx hb hown (hts (.constantLong RX10 243 (-9223372036854775808)) (List.mem_of_getElem? (i := 1) rfl)) dX10_level_129 ?_
                refine W.widen (k := 0) (n := 0) (Nat.le_of_ble_eq_true rfl) (Nat.le_of_ble_eq_true rfl) ?_
                exact W.lret (v := (-9223372036854775808)) hx hb hr (fun t ht hW => ⟨⟨(-9223372036854775808), (), rfl, (by first | rfl | (exfalso; omega)), trivial⟩, hS.F ht⟩) hS.2.2 dX10_level_132
              · have c_7 : ¬ (p2.toInt ≤ 1) := fun h => c_7 (Int32.le_iff_toInt_le.mpr h)
                refine lv_ldc2 (v := (-9223372036854775808)) hx hb hown (hts (.constantLong RX10 243 (-9223372036854775808)) (List.mem_of_getElem? (i := 1) rfl)) dX10_level_32 ?_
                refine W.widen (k := 0) (n := 0) (Nat.le_of_ble_eq_true rfl) (Nat.le_of_ble_eq_true rfl) ?_
                exact W.lret (v := (-9223372036854775808)) hx hb hr (fun t ht hW => ⟨⟨(-9223372036854775808), (), rfl, (by first | rfl | (exfalso; omega)), trivial⟩, hS.F ht⟩) hS.2.2 dX10_level_35

set_option maxHeartbeats 4000000 in
set_option maxRecDepth 100000 in
theorem k_X10_count (l : Launch) (dC : Nat → ClassId) (dI : Nat → Nat → Nat) (sz : Nat) (h0 : Nat) (p0 : Int32) (m_weight : Nat) (m_strength : Nat) (m_arm : Nat) (m_sex : Nat) (m_age : Nat) (m_likes : Nat) (m_rows : Nat) (m_drummer : Nat) (m_members : Nat) (m_beat : Nat) (m_member : Nat) (m_seated : Nat) (m_isSeated : Nat) (m_tape : Nat) (m_rTests : Nat) (m_tField : Nat) (m_tSign : Nat) (m_tNumber : Nat) (m_tNot : Nat) (m_tOr : Nat) (m_minute : Nat) (m_round : Nat) (m_laneCrew : Nat) (m_laneTime : Nat) (m_gone : Nat) (m_struck : Nat) (m_wasRun : Nat) (m_wait : Nat) (m_current : Nat) (m_finals : Nat) (m_bestTime : Nat) (m_inFinal : Nat) (m_pick : Nat) (m_found : Nat) (m_fresh : Nat) (m_at : Nat) : Met l yX10_count wsX10_count ({ frames := 0, cells := 0, slots := 0, locals := 0 }) (va_Pc [.ref h0, .int p0] (fun U => U.heap.size = sz ∧ va_P (dC, dI) vwCl [(h0, .inr (10, [.int 0, .int 0, .int 0, .int 0, .int 0, .int 10, .int 0, .int 0, .ref m_weight, .ref m_strength, .ref m_arm, .ref m_sex, .ref m_age, .ref m_likes, .ref m_rows, .ref m_drummer, .ref m_members, .ref m_beat, .ref m_member, .ref m_seated, .ref m_isSeated, .ref m_tape, .ref m_rTests, .ref m_tField, .ref m_tSign, .ref m_tNumber, .ref m_tNot, .ref m_tOr, .ref m_minute, .ref m_round, .ref m_laneCrew, .ref m_laneTime, .ref m_gone, .ref m_struck, .ref m_wasRun, .ref m_wait, .ref m_current, .ref m_finals, .ref m_bestTime, .ref m_inFinal, .ref m_pick, .ref m_found, .ref m_fresh, .ref m_at, .long 0, .long 0, .int 0, .int 0]))] U.heap ∧ va_K (dC, dI) vwCl [] U)) (va_Qi (fun (r : Int32) (_ : Unit) => r = f_count p0) (fun _ _ => True) (va_A ([] : va_W) sz)) 0 0 (va_A ([] : va_W) sz) := by
  refine Met.ofW (cc := cX10_count) (maxL := 4) (ret := (some .int)) (by decide) rfl ?_
  intro p e s m args below meth c s₁ B hml hv
  obtain ⟨rfl, hsz, hP, hK⟩ := hv
  have hx := B.exec
  have hb := B.bytes
  have hr := B.returns
  have hts := atoms_spec (ws := wsX10_count) B.pre
  have hown : s.vm.findClass RX10 = some m.cls := findClass_of_methodNamed B.named
  have hlocks := B.notSynchronized
  subst hsz
  generalize hAe : va_A ([] : va_W) s.heap.size = A
  have hA : ∀ q : Nat, s.heap.size ≤ q → A q := fun q h => by rw [← hAe]; exact Or.inr h
  have hS : va_S A s.heap s.heap [] := va_S.rf
  have hl := lv_entry ([.ref h0, .int p0]) (n := 4) (Nat.le_of_ble_eq_true rfl)
  rw [lg_entry_eq]
  generalize (lg_sl ([.ref h0, .int p0]) ++ List.replicate (4 - (lg_sl ([.ref h0, .int p0])).length) Slot.unset).toArray = ls at hl ⊢
  have hl : lv_has ls 4 [(0, .ref h0), (1, .int p0)] := hl
  refine lv_iconst (v := 0) hx hb dX10_count_0 (by decide +kernel) ?_
  refine lv_istore_n (lv' := [(2, .int 0), (0, .ref h0), (1, .int p0)]) hx hb dX10_count_1 rfl hl (by decide) rfl (fun ls hl => ?_)
  refine lv_iload_n hx hb dX10_count_2 rfl (lv_at hl 2 rfl) ?_
  rcases sw8 p0 with h | rfl | rfl | rfl | rfl | rfl | rfl | rfl | rfl | rfl
  · refine lv_tableOut (tgt := 149) hx hb dX10_count_3 h (by decide) ?_
    refine lv_iconst (v := (-1)) hx hb dX10_count_149 (by decide +kernel) ?_
    refine W.widen (k := 0) (n := 0) (Nat.le_of_ble_eq_true rfl) (Nat.le_of_ble_eq_true rfl) ?_
    exact W.iret (v := (-1)) hx hb hr (fun t ht hW => ⟨⟨(-1), (), rfl, (by first | rfl | decide | (unfold f_count; (repeat' split) <;> first | rfl | omega)), trivial⟩, hS.F ht⟩) hS.2.2 dX10_count_150
  · refine lv_tableIn (tgt := 52) hx hb dX10_count_3 (by decide +kernel) (by decide +kernel) rfl (by decide) ?_
    refine lv_aload_n hx hb dX10_count_52 rfl (lv_at hl 1 rfl) ?_
    refine va_get (D := (dC, dI)) (ci := 10) (v := .int 0) (C := RX10) (T := TX10) (N := 48) hx hb hts (fun _ h => List.mem_cons_of_mem _ (List.mem_append_right _ h)) hown hK hP 0 rfl rfl 0 (by decide) (hts (.fieldLink RX10 125 "DrumBoatsModel" "paddlers" "I") (List.mem_of_getElem? (i := 1) rfl)) (fun _ h9 => h9) rfl dX10_count_53 ?_
    refine W.widen (k := 0) (n := 0) (Nat.le_of_ble_eq_true rfl) (Nat.le_of_ble_eq_true rfl) ?_
    exact W.iret (v := 0) hx hb hr (fun t ht hW => ⟨⟨0, (), rfl, (by first | rfl | decide | (unfold f_count; (repeat' split) <;> first | rfl | omega)), trivial⟩, hS.F ht⟩) hS.2.2 dX10_count_56
  · refine lv_tableIn (tgt := 57) hx hb dX10_count_3 (by decide +kernel) (by decide +kernel) rfl (by decide) ?_
    refine lv_aload_n hx hb dX10_count_57 rfl (lv_at hl 1 rfl) ?_
    refine va_get (D := (dC, dI)) (ci := 10) (v := .int 0) (C := RX10) (T := TX10) (N := 48) hx hb hts (fun _ h => List.mem_cons_of_mem _ (List.mem_append_right _ h)) hown hK hP 0 rfl rfl 1 (by decide) (hts (.fieldLink RX10 128 "DrumBoatsModel" "crews" "I") (List.mem_of_getElem? (i := 2) rfl)) (fun _ h9 => h9) rfl dX10_count_58 ?_
    refine W.widen (k := 0) (n := 0) (Nat.le_of_ble_eq_true rfl) (Nat.le_of_ble_eq_true rfl) ?_
    exact W.iret (v := 0) hx hb hr (fun t ht hW => ⟨⟨0, (), rfl, (by first | rfl | decide | (unfold f_count; (repeat' split) <;> first | rfl | omega)), trivial⟩, hS.F ht⟩) hS.2.2 dX10_count_61
  · refine lv_tableIn (tgt := 62) hx hb dX10_count_3 (by decide +kernel) (by decide +kernel) rfl (by decide) ?_
    refine lv_aload_n hx hb dX10_count_62 rfl (lv_at hl 1 rfl) ?_
    refine va_get (D := (dC, dI)) (ci := 10) (v := .int 0) (C := RX10) (T := TX10) (N := 48) hx hb hts (fun _ h => List.mem_cons_of_mem _ (List.mem_append_right _ h)) hown hK hP 0 rfl rfl 2 (by decide) (hts (.fieldLink RX10 200 "DrumBoatsModel" "rules" "I") (List.mem_of_getElem? (i := 3) rfl)) (fun _ h9 => h9) rfl dX10_count_63 ?_
    refine W.widen (k := 0) (n := 0) (Nat.le_of_ble_eq_true rfl) (Nat.le_of_ble_eq_true rfl) ?_
    exact W.iret (v := 0) hx hb hr (fun t ht hW => ⟨⟨0, (), rfl, (by first | rfl | decide | (unfold f_count; (repeat' split) <;> first | rfl | omega)), trivial⟩, hS.F ht⟩) hS.2.2 dX10_count_66
  · refine lv_tableIn (tgt := 67) hx hb dX10_count_3 (by decide +kernel) (by decide +kernel) rfl (by decide) ?_
    refine lv_aload_n hx hb dX10_count_67 rfl (lv_at hl 1 rfl) ?_
    refine va_get (D := (dC, dI)) (ci := 10) (v := .int 0) (C := RX10) (T := TX10) (N := 48) hx hb hts (fun _ h => List.mem_cons_of_mem _ (List.mem_append_right _ h)) hown hK hP 0 rfl rfl 3 (by decide) (hts (.fieldLink RX10 223 "DrumBoatsModel" "races" "I") (List.mem_of_getElem? (i := 4) rfl)) (fun _ h9 => h9) rfl dX10_count_68 ?_
    refine W.widen (k := 0) (n := 0) (Nat.le_of_ble_eq_true rfl) (Nat.le_of_ble_eq_true rfl) ?_
    exact W.iret (v := 0) hx hb hr (fun t ht hW => ⟨⟨0, (), rfl, (by first | rfl | decide | (unfold f_count; (repeat' split) <;> first | rfl | omega)), trivial⟩, hS.F ht⟩) hS.2.2 dX10_count_71
  · refine lv_tableIn (tgt := 72) hx hb dX10_count_3 (by decide +kernel) (by decide +kernel) rfl (by decide) ?_
    refine lv_aload_n hx hb dX10_count_72 rfl (lv_at hl 1 rfl) ?_
    refine va_get (D := (dC, dI)) (ci := 10) (v := .int 0) (C := RX10) (T := TX10) (N := 48) hx hb hts (fun _ h => List.mem_cons_of_mem _ (List.mem_append_right _ h)) hown hK hP 0 rfl rfl 6 (by decide) (hts (.fieldLink RX10 220 "DrumBoatsModel" "waiting" "I") (List.mem_of_getElem? (i := 5) rfl)) (fun _ h9 => h9) rfl dX10_count_73 ?_
    refine W.widen (k := 0) (n := 0) (Nat.le_of_ble_eq_true rfl) (Nat.le_of_ble_eq_true rfl) ?_
    exact W.iret (v := 0) hx hb hr (fun t ht hW => ⟨⟨0, (), rfl, (by first | rfl | decide | (unfold f_count; (repeat' split) <;> first | rfl | omega)), trivial⟩, hS.F ht⟩) hS.2.2 dX10_count_76
  · refine lv_tableIn (tgt := 77) hx hb dX10_count_3 (by decide +kernel) (by decide +kernel) rfl (by decide) ?_
    refine lv_aload_n hx hb dX10_count_77 rfl (lv_at hl 1 rfl) ?_
    refine va_get (D := (dC, dI)) (ci := 10) (v := .int 0) (C := RX10) (T := TX10) (N := 48) hx hb hts (fun _ h => List.mem_cons_of_mem _ (List.mem_append_right _ h)) hown hK hP 0 rfl rfl 4 (by decide) (hts (.fieldLink RX10 159 "DrumBoatsModel" "tapeN" "I") (List.mem_of_getElem? (i := 6) rfl)) (fun _ h9 => h9) rfl dX10_count_78 ?_
    refine W.widen (k := 0) (n := 0) (Nat.le_of_ble_eq_true rfl) (Nat.le_of_ble_eq_true rfl) ?_
    exact W.iret (v := 0) hx hb hr (fun t ht hW => ⟨⟨0, (), rfl, (by first | rfl | decide | (unfold f_count; (repeat' split) <;> first | rfl | omega)), trivial⟩, hS.F ht⟩) hS.2.2 dX10_count_81
  · refine lv_tableIn (tgt := 82) hx hb dX10_count_3 (by decide +kernel) (by decide +kernel) rfl (by decide) ?_
    refine lv_aload_n hx hb dX10_count_82 rfl (lv_at hl 1 rfl) ?_
    refine va_get (D := (dC, dI)) (ci := 10) (v := .int 10) (C := RX10) (T := TX10) (N := 48) hx hb hts (fun _ h => List.mem_cons_of_mem _ (List.mem_append_right _ h)) hown hK hP 0 rfl rfl 5 (by decide) (hts (.fieldLink RX10 9 "DrumBoatsModel" "rest" "I") (List.mem_of_getElem? (i := 7) rfl)) (fun _ h9 => h9) rfl dX10_count_83 ?_
    refine W.widen (k := 0) (n := 0) (Nat.le_of_ble_eq_true rfl) (Nat.le_of_ble_eq_true rfl) ?_
    exact W.iret (v := 10) hx hb hr (fun t ht hW => ⟨⟨10, (), rfl, (by first | rfl | decide | (unfold f_count; (repeat' split) <;> first | rfl | omega)), trivial⟩, hS.F ht⟩) hS.2.2 dX10_count_86
  · refine lv_tableIn (tgt := 87) hx hb dX10_count_3 (by decide +kernel) (by decide +kernel) rfl (by decide) ?_
    refine lv_iconst (v := 0) hx hb dX10_count_87 (by decide +kernel) ?_
    refine lv_istore_n (lv' := [(3, .int 0), (2, .int 0), (0, .ref h0), (1, .int 7)]) hx hb dX10_count_88 rfl hl (by decide) rfl (fun ls hl => ?_)
    refine lv_iload_n hx hb dX10_count_89 rfl (lv_at hl 0 rfl) ?_
    refine lv_aload_n hx hb dX10_count_90 rfl (lv_at hl 2 rfl) ?_
    refine va_get (D := (dC, dI)) (ci := 10) (v := .int 0) (C := RX10) (T := TX10) (N := 48) hx hb hts (fun _ h => List.mem_cons_of_mem _ (List.mem_append_right _ h)) hown hK hP 0 rfl rfl 1 (by decide) (hts (.fieldLink RX10 128 "DrumBoatsModel" "crews" "I") (List.mem_of_getElem? (i := 2) rfl)) (fun _ h9 => h9) rfl dX10_count_91 ?_
    refine lv_icmp_ge (tgt := 115) hx hb dX10_count_94 (by decide) (fun _ => ?_) (fun c9 => absurd c9 (by decide +kernel))
    refine lv_iload_n hx hb dX10_count_115 rfl (lv_at hl 1 rfl) ?_
    refine W.widen (k := 0) (n := 0) (Nat.le_of_ble_eq_true rfl) (Nat.le_of_ble_eq_true rfl) ?_
    exact W.iret (v := 0) hx hb hr (fun t ht hW => ⟨⟨0, (), rfl, (by first | rfl | decide | (unfold f_count; (repeat' split) <;> first | rfl | omega)), trivial⟩, hS.F ht⟩) hS.2.2 dX10_count_116
  · refine lv_tableIn (tgt := 117) hx hb dX10_count_3 (by decide +kernel) (by decide +kernel) rfl (by decide) ?_
    refine lv_iconst (v := 0) hx hb dX10_count_117 (by decide +kernel) ?_
    refine lv_istore_n (lv' := [(3, .int 0), (2, .int 0), (0, .ref h0), (1, .int 8)]) hx hb dX10_count_118 rfl hl (by decide) rfl (fun ls hl => ?_)
    refine lv_iload_n hx hb dX10_count_119 rfl (lv_at hl 0 rfl) ?_
    refine lv_iconst (v := 4) hx hb dX10_count_120 (by decide +kernel) ?_
    refine lv_aload_n hx hb dX10_count_121 rfl (lv_at hl 2 rfl) ?_
    refine va_get (D := (dC, dI)) (ci := 10) (v := .int 0) (C := RX10) (T := TX10) (N := 48) hx hb hts (fun _ h => List.mem_cons_of_mem _ (List.mem_append_right _ h)) hown hK hP 0 rfl rfl 3 (by decide) (hts (.fieldLink RX10 223 "DrumBoatsModel" "races" "I") (List.mem_of_getElem? (i := 4) rfl)) (fun _ h9 => h9) rfl dX10_count_122 ?_
    refine lv_imul hx hb dX10_count_125 ?_
    refine ti_eq (y := 0) (by decide +kernel) ?_
    refine lv_icmp_ge (tgt := 147) hx hb dX10_count_126 (by decide) (fun _ => ?_) (fun c9 => absurd c9 (by decide +kernel))
    refine lv_iload_n hx hb dX10_count_147 rfl (lv_at hl 1 rfl) ?_
    refine W.widen (k := 0) (n := 0) (Nat.le_of_ble_eq_true rfl) (Nat.le_of_ble_eq_true rfl) ?_
    exact W.iret (v := 0) hx hb hr (fun t ht hW => ⟨⟨0, (), rfl, (by first | rfl | decide | (unfold f_count; (repeat' split) <;> first | rfl | omega)), trivial⟩, hS.F ht⟩) hS.2.2 dX10_count_148
