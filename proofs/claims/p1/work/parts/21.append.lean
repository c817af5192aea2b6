set_option maxHeartbeats 4000000 in
set_option maxRecDepth 100000 in
theorem k_X7_append_1 (l : Launch) (dC : Nat → ClassId) (dI : Nat → Nat → Nat) (sz : Nat) (h0 : Nat) (w : Int64) (aBy : Nat) (caBy : ClassId) : Met l yX7_append wsX7_append ({ frames := 0, cells := 0, slots := 0, locals := 0 }) (va_Pc [.ref h0, .long w, .int 1] (fun U => U.heap.size = sz ∧ va_P (dC, dI) vwCl [(h0, .inr (7, [.int 0, .int 0, .ref aBy])), (aBy, .inl (caBy, 120, .inl (fun _ => 0)))] U.heap ∧ va_K (dC, dI) vwCl [(caBy, .int)] U ∧ va_D (fun _ => True) [(h0, .inr (7, [.int 0, .int 0, .ref aBy])), (aBy, .inl (caBy, 120, .inl (fun _ => 0)))])) (va_Qv (fun _ : Unit => True) (fun _ t => va_P (dC, dI) vwCl [(h0, .inr (7, [.int 1, .int 0, .ref aBy]))] t.heap ∧ va_K (dC, dI) vwCl [] t ∧ va_D (va_A [(h0, .inr (7, [.int 0, .int 0, .ref aBy])), (aBy, .inl (caBy, 120, .inl (fun _ => 0)))] sz) [(h0, .inr (7, [.int 1, .int 0, .ref aBy]))]) (va_A [(h0, .inr (7, [.int 0, .int 0, .ref aBy])), (aBy, .inl (caBy, 120, .inl (fun _ => 0)))] sz)) 0 0 (va_A [(h0, .inr (7, [.int 0, .int 0, .ref aBy])), (aBy, .inl (caBy, 120, .inl (fun _ => 0)))] sz) := by
  refine Met.ofW (cc := cX7_append) (maxL := 5) (ret := none) (by decide) rfl ?_
  intro p e s m args below meth c s₁ B hml hv
  obtain ⟨rfl, hsz, hP, hK, hD0⟩ := hv
  have hx := B.exec
  have hb := B.bytes
  have hr := B.returns
  have hts := atoms_spec (ws := wsX7_append) B.pre
  have hown : s.vm.findClass RX7 = some m.cls := findClass_of_methodNamed B.named
  have hlocks := B.notSynchronized
  subst hsz
  have hD := hD0.self (sz := s.heap.size)
  generalize hAe : va_A [(h0, .inr (7, [.int 0, .int 0, .ref aBy])), (aBy, .inl (caBy, 120, .inl (fun _ => 0)))] s.heap.size = A at hD ⊢
  have hA : ∀ q : Nat, s.heap.size ≤ q → A q := fun q h => by rw [← hAe]; exact Or.inr h
  have hS : va_S A s.heap s.heap [] := va_S.rf
  have hl := lv_entry ([.ref h0, .long w, .int 1]) (n := 5) (Nat.le_of_ble_eq_true rfl)
  rw [lg_entry_eq]
  generalize (lg_sl ([.ref h0, .long w, .int 1]) ++ List.replicate (5 - (lg_sl ([.ref h0, .long w, .int 1])).length) Slot.unset).toArray = ls at hl ⊢
  have hl : lv_has ls 5 [(0, .ref h0), (1, .long w), (3, .int 1)] := hl
  refine lv_iload_n hx hb dX7_append_0 rfl (lv_at hl 2 rfl) ?_
  refine lv_iconst (v := 1) hx hb dX7_append_1 (by decide +kernel) ?_
  refine lv_isub hx hb dX7_append_2 ?_
  refine ti_eq (y := 0) (by decide +kernel) ?_
  refine lv_istore (lv' := [(4, .int 0), (0, .ref h0), (1, .long w), (3, .int 1)]) hx hb dX7_append_3 hl (by decide) rfl (fun ls hl => ?_)
  refine lv_iload hx hb dX7_append_5 (lv_at hl 0 rfl) ?_
  refine lv_if_lt (tgt := 56) hx hb dX7_append_7 (by decide) (fun c9 => absurd c9 (by decide +kernel)) (fun _ => ?_)
  refine lv_aload_n hx hb dX7_append_10 rfl (lv_at hl 1 rfl) ?_
  refine va_get (D := (dC, dI)) (ci := 7) (v := .int 0) (C := RX7) (T := TX7) (N := 3) hx hb hts (fun _ h => List.mem_cons_of_mem _ (List.mem_append_right _ h)) hown hK hP 0 rfl rfl 0 (by decide) (hts (.fieldLink RX7 9 "DrumBoats$Tape" "size" "I") (List.mem_of_getElem? (i := 1) rfl)) (fun _ h9 => h9) rfl dX7_append_11 ?_
  refine lv_bipush (v := 120) hx hb dX7_append_14 (by decide +kernel) ?_
  refine lv_icmp_ge (tgt := 56) hx hb dX7_append_16 (by decide) (fun c9 => absurd c9 (by decide +kernel)) (fun _ => ?_)
  refine lv_aload_n hx hb dX7_append_19 rfl (lv_at hl 1 rfl) ?_
  refine va_get (D := (dC, dI)) (ci := 7) (v := .ref aBy) (C := RX7) (T := TX7) (N := 3) hx hb hts (fun _ h => List.mem_cons_of_mem _ (List.mem_append_right _ h)) hown hK hP 0 rfl rfl 2 (by decide) (hts (.fieldLink RX7 18 "DrumBoats$Tape" "bytes" "[I") (List.mem_of_getElem? (i := 2) rfl)) (fun _ h9 => h9) rfl dX7_append_20 ?_
  refine lv_aload_n hx hb dX7_append_23 rfl (lv_at hl 1 rfl) ?_
  refine va_get (D := (dC, dI)) (ci := 7) (v := .int 0) (C := RX7) (T := TX7) (N := 3) hx hb hts (fun _ h => List.mem_cons_of_mem _ (List.mem_append_right _ h)) hown hK hP 0 rfl rfl 0 (by decide) (hts (.fieldLink RX7 9 "DrumBoats$Tape" "size" "I") (List.mem_of_getElem? (i := 1) rfl)) (fun _ h9 => h9) rfl dX7_append_24 ?_
  refine lv_lload_n hx hb dX7_append_27 rfl (lv_at hl 2 rfl) ?_
  refine lv_bipush (v := 8) hx hb dX7_append_28 (by decide +kernel) ?_
  refine lv_iload hx hb dX7_append_30 (lv_at hl 0 rfl) ?_
  refine lv_imul hx hb dX7_append_32 ?_
  refine ti_eq (y := 0) (by decide +kernel) ?_
  refine lv_lushr hx hb dX7_append_33 rfl ?_
  refine lv_topl (fun z1 _ => ?_)
  refine lv_ldc2 (v := 255) hx hb hown (hts (.constantLong RX7 22 (255)) (List.mem_of_getElem? (i := 3) rfl)) dX7_append_34 ?_
  refine lv_land hx hb dX7_append_37 ?_
  refine lv_topl (fun z2 _ => ?_)
  refine lv_l2i hx hb dX7_append_38 rfl ?_
  refine lv_topi (fun z3 _ => ?_)
  refine va_iast hx hb hK hP hD hS 1 0 rfl rfl (by unfold vp_in; decide +kernel) dX7_append_39 (fun H locs hP hD hS => ?_)
  have hP : va_P (dC, dI) vwCl [(h0, .inr (7, [.int 0, .int 0, .ref aBy])), (aBy, .inl (caBy, 120, .inl (upd (fun _ => 0) (0 : Int32).toNatClampNeg z3)))] H := hP
  have hD : va_D A [(h0, .inr (7, [.int 0, .int 0, .ref aBy])), (aBy, .inl (caBy, 120, .inl (upd (fun _ => 0) (0 : Int32).toNatClampNeg z3)))] := hD
  refine lv_aload_n hx hb dX7_append_40 rfl (lv_at hl 1 rfl) ?_
  refine lv_dup hx hb dX7_append_41 rfl ?_
  refine va_get (D := (dC, dI)) (ci := 7) (v := .int 0) (C := RX7) (T := TX7) (N := 3) hx hb hts (fun _ h => List.mem_cons_of_mem _ (List.mem_append_right _ h)) hown hK hP 0 rfl rfl 0 (by decide) (hts (.fieldLink RX7 9 "DrumBoats$Tape" "size" "I") (List.mem_of_getElem? (i := 1) rfl)) (fun _ h9 => h9) rfl dX7_append_42 ?_
  refine lv_iconst (v := 1) hx hb dX7_append_45 (by decide +kernel) ?_
  refine lv_iadd hx hb dX7_append_46 ?_
  refine ti_eq (y := 1) (by decide +kernel) ?_
  refine va_put (D := (dC, dI)) (ci := 7) (v := .int 1) (ty := .int) (C := RX7) (T := TX7) (N := 3) hx hb hts (fun _ h => List.mem_cons_of_mem _ (List.mem_append_right _ h)) tyX7 tyX7_ok nmX7 hown hK hP hD hS 0 rfl rfl 0 (by decide) (hts (.fieldLink RX7 9 "DrumBoats$Tape" "size" "I") (List.mem_of_getElem? (i := 1) rfl)) (fun _ h9 => h9) rfl (by decide +kernel) rfl rfl (Nat.le_of_ble_eq_true rfl) dX7_append_47 (fun H locs hP hD hS => ?_)
  have hP : va_P (dC, dI) vwCl [(h0, .inr (7, [.int 1, .int 0, .ref aBy])), (aBy, .inl (caBy, 120, .inl (upd (fun _ => 0) (0 : Int32).toNatClampNeg z3)))] H := hP
  have hD : va_D A [(h0, .inr (7, [.int 1, .int 0, .ref aBy])), (aBy, .inl (caBy, 120, .inl (upd (fun _ => 0) (0 : Int32).toNatClampNeg z3)))] := hD
  refine lv_iinc (v := (-1)) (lv' := [(4, .int (-1)), (0, .ref h0), (1, .long w), (3, .int 1)]) hx hb dX7_append_50 hl (k := 0) rfl (by decide +kernel) (by decide) rfl (fun ls hl => ?_)
  refine lv_goto (tgt := 5) hx hb dX7_append_53 (by decide) ?_
  refine lv_iload hx hb dX7_append_5 (lv_at hl 0 rfl) ?_
  refine lv_if_lt (tgt := 56) hx hb dX7_append_7 (by decide) (fun _ => ?_) (fun c9 => absurd c9 (by decide +kernel))
  have hP9 := hP.sub (ws' := [(h0, .inr (7, [.int 1, .int 0, .ref aBy]))]) [0] rfl
  have hD9 := hD.sub (ws' := [(h0, .inr (7, [.int 1, .int 0, .ref aBy]))]) [0] (by decide) rfl
  have hK9 := hK.sub (tys' := []) [] rfl
  refine W.widen (k := 0) (n := 0) (Nat.le_of_ble_eq_true rfl) (Nat.le_of_ble_eq_true rfl) ?_
  exact W.vret hx hb hr (fun t ht hW => ⟨⟨(), rfl, trivial, by rw [ht]; exact hP9, va_K.moved hW.alike hK9, hD9⟩, hS.F ht⟩) hS.2.2 dX7_append_56

set_option maxHeartbeats 4000000 in
set_option maxRecDepth 100000 in
theorem k_X7_append_2 (l : Launch) (dC : Nat → ClassId) (dI : Nat → Nat → Nat) (sz : Nat) (h0 : Nat) (w : Int64) (aBy : Nat) (caBy : ClassId) : Met l yX7_append wsX7_append ({ frames := 0, cells := 0, slots := 0, locals := 0 }) (va_Pc [.ref h0, .long w, .int 2] (fun U => U.heap.size = sz ∧ va_P (dC, dI) vwCl [(h0, .inr (7, [.int 0, .int 0, .ref aBy])), (aBy, .inl (caBy, 120, .inl (fun _ => 0)))] U.heap ∧ va_K (dC, dI) vwCl [(caBy, .int)] U ∧ va_D (fun _ => True) [(h0, .inr (7, [.int 0, .int 0, .ref aBy])), (aBy, .inl (caBy, 120, .inl (fun _ => 0)))])) (va_Qv (fun _ : Unit => True) (fun _ t => va_P (dC, dI) vwCl [(h0, .inr (7, [.int 2, .int 0, .ref aBy]))] t.heap ∧ va_K (dC, dI) vwCl [] t ∧ va_D (va_A [(h0, .inr (7, [.int 0, .int 0, .ref aBy])), (aBy, .inl (caBy, 120, .inl (fun _ => 0)))] sz) [(h0, .inr (7, [.int 2, .int 0, .ref aBy]))]) (va_A [(h0, .inr (7, [.int 0, .int 0, .ref aBy])), (aBy, .inl (caBy, 120, .inl (fun _ => 0)))] sz)) 0 0 (va_A [(h0, .inr (7, [.int 0, .int 0, .ref aBy])), (aBy, .inl (caBy, 120, .inl (fun _ => 0)))] sz) := by
  refine Met.ofW (cc := cX7_append) (maxL := 5) (ret := none) (by decide) rfl ?_
  intro p e s m args below meth c s₁ B hml hv
  obtain ⟨rfl, hsz, hP, hK, hD0⟩ := hv
  have hx := B.exec
  have hb := B.bytes
  have hr := B.returns
  have hts := atoms_spec (ws := wsX7_append) B.pre
  have hown : s.vm.findClass RX7 = some m.cls := findClass_of_methodNamed B.named
  have hlocks := B.notSynchronized
  subst hsz
  have hD := hD0.self (sz := s.heap.size)
  generalize hAe : va_A [(h0, .inr (7, [.int 0, .int 0, .ref aBy])), (aBy, .inl (caBy, 120, .inl (fun _ => 0)))] s.heap.size = A at hD ⊢
  have hA : ∀ q : Nat, s.heap.size ≤ q → A q := fun q h => by rw [← hAe]; exact Or.inr h
  have hS : va_S A s.heap s.heap [] := va_S.rf
  have hl := lv_entry ([.ref h0, .long w, .int 2]) (n := 5) (Nat.le_of_ble_eq_true rfl)
  rw [lg_entry_eq]
  generalize (lg_sl ([.ref h0, .long w, .int 2]) ++ List.replicate (5 - (lg_sl ([.ref h0, .long w, .int 2])).length) Slot.unset).toArray = ls at hl ⊢
  have hl : lv_has ls 5 [(0, .ref h0), (1, .long w), (3, .int 2)] := hl
  refine lv_iload_n hx hb dX7_append_0 rfl (lv_at hl 2 rfl) ?_
  refine lv_iconst (v := 1) hx hb dX7_append_1 (by decide +kernel) ?_
  refine lv_isub hx hb dX7_append_2 ?_
  refine ti_eq (y := 1) (by decide +kernel) ?_
  refine lv_istore (lv' := [(4, .int 1), (0, .ref h0), (1, .long w), (3, .int 2)]) hx hb dX7_append_3 hl (by decide) rfl (fun ls hl => ?_)
  refine lv_iload hx hb dX7_append_5 (lv_at hl 0 rfl) ?_
  refine lv_if_lt (tgt := 56) hx hb dX7_append_7 (by decide) (fun c9 => absurd c9 (by decide +kernel)) (fun _ => ?_)
  refine lv_aload_n hx hb dX7_append_10 rfl (lv_at hl 1 rfl) ?_
  refine va_get (D := (dC, dI)) (ci := 7) (v := .int 0) (C := RX7) (T := TX7) (N := 3) hx hb hts (fun _ h => List.mem_cons_of_mem _ (List.mem_append_right _ h)) hown hK hP 0 rfl rfl 0 (by decide) (hts (.fieldLink RX7 9 "DrumBoats$Tape" "size" "I") (List.mem_of_getElem? (i := 1) rfl)) (fun _ h9 => h9) rfl dX7_append_11 ?_
  refine lv_bipush (v := 120) hx hb dX7_append_14 (by decide +kernel) ?_
  refine lv_icmp_ge (tgt := 56) hx hb dX7_append_16 (by decide) (fun c9 => absurd c9 (by decide +kernel)) (fun _ => ?_)
  refine lv_aload_n hx hb dX7_append_19 rfl (lv_at hl 1 rfl) ?_
  refine va_get (D := (dC, dI)) (ci := 7) (v := .ref aBy) (C := RX7) (T := TX7) (N := 3) hx hb hts (fun _ h => List.mem_cons_of_mem _ (List.mem_append_right _ h)) hown hK hP 0 rfl rfl 2 (by decide) (hts (.fieldLink RX7 18 "DrumBoats$Tape" "bytes" "[I") (List.mem_of_getElem? (i := 2) rfl)) (fun _ h9 => h9) rfl dX7_append_20 ?_
  refine lv_aload_n hx hb dX7_append_23 rfl (lv_at hl 1 rfl) ?_
  refine va_get (D := (dC, dI)) (ci := 7) (v := .int 0) (C := RX7) (T := TX7) (N := 3) hx hb hts (fun _ h => List.mem_cons_of_mem _ (List.mem_append_right _ h)) hown hK hP 0 rfl rfl 0 (by decide) (hts (.fieldLink RX7 9 "DrumBoats$Tape" "size" "I") (List.mem_of_getElem? (i := 1) rfl)) (fun _ h9 => h9) rfl dX7_append_24 ?_
  refine lv_lload_n hx hb dX7_append_27 rfl (lv_at hl 2 rfl) ?_
  refine lv_bipush (v := 8) hx hb dX7_append_28 (by decide +kernel) ?_
  refine lv_iload hx hb dX7_append_30 (lv_at hl 0 rfl) ?_
  refine lv_imul hx hb dX7_append_32 ?_
  refine ti_eq (y := 8) (by decide +kernel) ?_
  refine lv_lushr hx hb dX7_append_33 rfl ?_
  refine lv_topl (fun z1 _ => ?_)
  refine lv_ldc2 (v := 255) hx hb hown (hts (.constantLong RX7 22 (255)) (List.mem_of_getElem? (i := 3) rfl)) dX7_append_34 ?_
  refine lv_land hx hb dX7_append_37 ?_
  refine lv_topl (fun z2 _ => ?_)
  refine lv_l2i hx hb dX7_append_38 rfl ?_
  refine lv_topi (fun z3 _ => ?_)
  refine va_iast hx hb hK hP hD hS 1 0 rfl rfl (by unfold vp_in; decide +kernel) dX7_append_39 (fun H locs hP hD hS => ?_)
  have hP : va_P (dC, dI) vwCl [(h0, .inr (7, [.int 0, .int 0, .ref aBy])), (aBy, .inl (caBy, 120, .inl (upd (fun _ => 0) (0 : Int32).toNatClampNeg z3)))] H := hP
  have hD : va_D A [(h0, .inr (7, [.int 0, .int 0, .ref aBy])), (aBy, .inl (caBy, 120, .inl (upd (fun _ => 0) (0 : Int32).toNatClampNeg z3)))] := hD
  refine lv_aload_n hx hb dX7_append_40 rfl (lv_at hl 1 rfl) ?_
  refine lv_dup hx hb dX7_append_41 rfl ?_
  refine va_get (D := (dC, dI)) (ci := 7) (v := .int 0) (C := RX7) (T := TX7) (N := 3) hx hb hts (fun _ h => List.mem_cons_of_mem _ (List.mem_append_right _ h)) hown hK hP 0 rfl rfl 0 (by decide) (hts (.fieldLink RX7 9 "DrumBoats$Tape" "size" "I") (List.mem_of_getElem? (i := 1) rfl)) (fun _ h9 => h9) rfl dX7_append_42 ?_
  refine lv_iconst (v := 1) hx hb dX7_append_45 (by decide +kernel) ?_
  refine lv_iadd hx hb dX7_append_46 ?_
  refine ti_eq (y := 1) (by decide +kernel) ?_
  refine va_put (D := (dC, dI)) (ci := 7) (v := .int 1) (ty := .int) (C := RX7) (T := TX7) (N := 3) hx hb hts (fun _ h => List.mem_cons_of_mem _ (List.mem_append_right _ h)) tyX7 tyX7_ok nmX7 hown hK hP hD hS 0 rfl rfl 0 (by decide) (hts (.fieldLink RX7 9 "DrumBoats$Tape" "size" "I") (List.mem_of_getElem? (i := 1) rfl)) (fun _ h9 => h9) rfl (by decide +kernel) rfl rfl (Nat.le_of_ble_eq_true rfl) dX7_append_47 (fun H locs hP hD hS => ?_)
  have hP : va_P (dC, dI) vwCl [(h0, .inr (7, [.int 1, .int 0, .ref aBy])), (aBy, .inl (caBy, 120, .inl (upd (fun _ => 0) (0 : Int32).toNatClampNeg z3)))] H := hP
  have hD : va_D A [(h0, .inr (7, [.int 1, .int 0, .ref aBy])), (aBy, .inl (caBy, 120, .inl (upd (fun _ => 0) (0 : Int32).toNatClampNeg z3)))] := hD
  refine lv_iinc (v := 0) (lv' := [(4, .int 0), (0, .ref h0), (1, .long w), (3, .int 2)]) hx hb dX7_append_50 hl (k := 0) rfl (by decide +kernel) (by decide) rfl (fun ls hl => ?_)
  refine lv_goto (tgt := 5) hx hb dX7_append_53 (by decide) ?_
  refine lv_iload hx hb dX7_append_5 (lv_at hl 0 rfl) ?_
  refine lv_if_lt (tgt := 56) hx hb dX7_append_7 (by decide) (fun c9 => absurd c9 (by decide +kernel)) (fun _ => ?_)
  refine lv_aload_n hx hb dX7_append_10 rfl (lv_at hl 1 rfl) ?_
  refine va_get (D := (dC, dI)) (ci := 7) (v := .int 1) (C := RX7) (T := TX7) (N := 3) hx hb hts (fun _ h => List.mem_cons_of_mem _ (List.mem_append_right _ h)) hown hK hP 0 rfl rfl 0 (by decide) (hts (.fieldLink RX7 9 "DrumBoats$Tape" "size" "I") (List.mem_of_getElem? (i := 1) rfl)) (fun _ h9 => h9) rfl dX7_append_11 ?_
  refine lv_bipush (v := 120) hx hb dX7_append_14 (by decide +kernel) ?_
  refine lv_icmp_ge (tgt := 56) hx hb dX7_append_16 (by decide) (fun c9 => absurd c9 (by decide +kernel)) (fun _ => ?_)
  refine lv_aload_n hx hb dX7_append_19 rfl (lv_at hl 1 rfl) ?_
  refine va_get (D := (dC, dI)) (ci := 7) (v := .ref aBy) (C := RX7) (T := TX7) (N := 3) hx hb hts (fun _ h => List.mem_cons_of_mem _ (List.mem_append_right _ h)) hown hK hP 0 rfl rfl 2 (by decide) (hts (.fieldLink RX7 18 "DrumBoats$Tape" "bytes" "[I") (List.mem_of_getElem? (i := 2) rfl)) (fun _ h9 => h9) rfl dX7_append_20 ?_
  refine lv_aload_n hx hb dX7_append_23 rfl (lv_at hl 1 rfl) ?_
  refine va_get (D := (dC, dI)) (ci := 7) (v := .int 1) (C := RX7) (T := TX7) (N := 3) hx hb hts (fun _ h => List.mem_cons_of_mem _ (List.mem_append_right _ h)) hown hK hP 0 rfl rfl 0 (by decide) (hts (.fieldLink RX7 9 "DrumBoats$Tape" "size" "I") (List.mem_of_getElem? (i := 1) rfl)) (fun _ h9 => h9) rfl dX7_append_24 ?_
  refine lv_lload_n hx hb dX7_append_27 rfl (lv_at hl 2 rfl) ?_
  refine lv_bipush (v := 8) hx hb dX7_append_28 (by decide +kernel) ?_
  refine lv_iload hx hb dX7_append_30 (lv_at hl 0 rfl) ?_
  refine lv_imul hx hb dX7_append_32 ?_
  refine ti_eq (y := 0) (by decide +kernel) ?_
  refine lv_lushr hx hb dX7_append_33 rfl ?_
  refine lv_topl (fun z4 _ => ?_)
  refine lv_ldc2 (v := 255) hx hb hown (hts (.constantLong RX7 22 (255)) (List.mem_of_getElem? (i := 3) rfl)) dX7_append_34 ?_
  refine lv_land hx hb dX7_append_37 ?_
  refine lv_topl (fun z5 _ => ?_)
  refine lv_l2i hx hb dX7_append_38 rfl ?_
  refine lv_topi (fun z6 _ => ?_)
  refine va_iast hx hb hK hP hD hS 1 0 rfl rfl (by unfold vp_in; decide +kernel) dX7_append_39 (fun H locs hP hD hS => ?_)
  have hP : va_P (dC, dI) vwCl [(h0, .inr (7, [.int 1, .int 0, .ref aBy])), (aBy, .inl (caBy, 120, .inl (upd (upd (fun _ => 0) (0 : Int32).toNatClampNeg z3) (1 : Int32).toNatClampNeg z6)))] H := hP
  have hD : va_D A [(h0, .inr (7, [.int 1, .int 0, .ref aBy])), (aBy, .inl (caBy, 120, .inl (upd (upd (fun _ => 0) (0 : Int32).toNatClampNeg z3) (1 : Int32).toNatClampNeg z6)))] := hD
  refine lv_aload_n hx hb dX7_append_40 rfl (lv_at hl 1 rfl) ?_
  refine lv_dup hx hb dX7_append_41 rfl ?_
  refine va_get (D := (dC, dI)) (ci := 7) (v := .int 1) (C := RX7) (T := TX7) (N := 3) hx hb hts (fun _ h => List.mem_cons_of_mem _ (List.mem_append_right _ h)) hown hK hP 0 rfl rfl 0 (by decide) (hts (.fieldLink RX7 9 "DrumBoats$Tape" "size" "I") (List.mem_of_getElem? (i := 1) rfl)) (fun _ h9 => h9) rfl dX7_append_42 ?_
  refine lv_iconst (v := 1) hx hb dX7_append_45 (by decide +kernel) ?_
  refine lv_iadd hx hb dX7_append_46 ?_
  refine ti_eq (y := 2) (by decide +kernel) ?_
  refine va_put (D := (dC, dI)) (ci := 7) (v := .int 2) (ty := .int) (C := RX7) (T := TX7) (N := 3) hx hb hts (fun _ h => List.mem_cons_of_mem _ (List.mem_append_right _ h)) tyX7 tyX7_ok nmX7 hown hK hP hD hS 0 rfl rfl 0 (by decide) (hts (.fieldLink RX7 9 "DrumBoats$Tape" "size" "I") (List.mem_of_getElem? (i := 1) rfl)) (fun _ h9 => h9) rfl (by decide +kernel) rfl rfl (Nat.le_of_ble_eq_true rfl) dX7_append_47 (fun H locs hP hD hS => ?_)
  have hP : va_P (dC, dI) vwCl [(h0, .inr (7, [.int 2, .int 0, .ref aBy])), (aBy, .inl (caBy, 120, .inl (upd (upd (fun _ => 0) (0 : Int32).toNatClampNeg z3) (1 : Int32).toNatClampNeg z6)))] H := hP
  have hD : va_D A [(h0, .inr (7, [.int 2, .int 0, .ref aBy])), (aBy, .inl (caBy, 120, .inl (upd (upd (fun _ => 0) (0 : Int32).toNatClampNeg z3) (1 : Int32).toNatClampNeg z6)))] := hD
  refine lv_iinc (v := (-1)) (lv' := [(4, .int (-1)), (0, .ref h0), (1, .long w), (3, .int 2)]) hx hb dX7_append_50 hl (k := 0) rfl (by decide +kernel) (by decide) rfl (fun ls hl => ?_)
  refine lv_goto (tgt := 5) hx hb dX7_append_53 (by decide) ?_
  refine lv_iload hx hb dX7_append_5 (lv_at hl 0 rfl) ?_
  refine lv_if_lt (tgt := 56) hx hb dX7_append_7 (by decide) (fun _ => ?_) (fun c9 => absurd c9 (by decide +kernel))
  have hP9 := hP.sub (ws' := [(h0, .inr (7, [.int 2, .int 0, .ref aBy]))]) [0] rfl
  have hD9 := hD.sub (ws' := [(h0, .inr (7, [.int 2, .int 0, .ref aBy]))]) [0] (by decide) rfl
  have hK9 := hK.sub (tys' := []) [] rfl
  refine W.widen (k := 0) (n := 0) (Nat.le_of_ble_eq_true rfl) (Nat.le_of_ble_eq_true rfl) ?_
  exact W.vret hx hb hr (fun t ht hW => ⟨⟨(), rfl, trivial, by rw [ht]; exact hP9, va_K.moved hW.alike hK9, hD9⟩, hS.F ht⟩) hS.2.2 dX7_append_56

set_option maxHeartbeats 4000000 in
set_option maxRecDepth 100000 in
theorem k_X7_append_3 (l : Launch) (dC : Nat → ClassId) (dI : Nat → Nat → Nat) (sz : Nat) (h0 : Nat) (w : Int64) (aBy : Nat) (caBy : ClassId) : Met l yX7_append wsX7_append ({ frames := 0, cells := 0, slots := 0, locals := 0 }) (va_Pc [.ref h0, .long w, .int 3] (fun U => U.heap.size = sz ∧ va_P (dC, dI) vwCl [(h0, .inr (7, [.int 0, .int 0, .ref aBy])), (aBy, .inl (caBy, 120, .inl (fun _ => 0)))] U.heap ∧ va_K (dC, dI) vwCl [(caBy, .int)] U ∧ va_D (fun _ => True) [(h0, .inr (7, [.int 0, .int 0, .ref aBy])), (aBy, .inl (caBy, 120, .inl (fun _ => 0)))])) (va_Qv (fun _ : Unit => True) (fun _ t => va_P (dC, dI) vwCl [(h0, .inr (7, [.int 3, .int 0, .ref aBy]))] t.heap ∧ va_K (dC, dI) vwCl [] t ∧ va_D (va_A [(h0, .inr (7, [.int 0, .int 0, .ref aBy])), (aBy, .inl (caBy, 120, .inl (fun _ => 0)))] sz) [(h0, .inr (7, [.int 3, .int 0, .ref aBy]))]) (va_A [(h0, .inr (7, [.int 0, .int 0, .ref aBy])), (aBy, .inl (caBy, 120, .inl (fun _ => 0)))] sz)) 0 0 (va_A [(h0, .inr (7, [.int 0, .int 0, .ref aBy])), (aBy, .inl (caBy, 120, .inl (fun _ => 0)))] sz) := by
  refine Met.ofW (cc := cX7_append) (maxL := 5) (ret := none) (by decide) rfl ?_
  intro p e s m args below meth c s₁ B hml hv
  obtain ⟨rfl, hsz, hP, hK, hD0⟩ := hv
  have hx := B.exec
  have hb := B.bytes
  have hr := B.returns
  have hts := atoms_spec (ws := wsX7_append) B.pre
  have hown : s.vm.findClass RX7 = some m.cls := findClass_of_methodNamed B.named
  have hlocks := B.notSynchronized
  subst hsz
  have hD := hD0.self (sz := s.heap.size)
  generalize hAe : va_A [(h0, .inr (7, [.int 0, .int 0, .ref aBy])), (aBy, .inl (caBy, 120, .inl (fun _ => 0)))] s.heap.size = A at hD ⊢
  have hA : ∀ q : Nat, s.heap.size ≤ q → A q := fun q h => by rw [← hAe]; exact Or.inr h
  have hS : va_S A s.heap s.heap [] := va_S.rf
  have hl := lv_entry ([.ref h0, .long w, .int 3]) (n := 5) (Nat.le_of_ble_eq_true rfl)
  rw [lg_entry_eq]
  generalize (lg_sl ([.ref h0, .long w, .int 3]) ++ List.replicate (5 - (lg_sl ([.ref h0, .long w, .int 3])).length) Slot.unset).toArray = ls at hl ⊢
  have hl : lv_has ls 5 [(0, .ref h0), (1, .long w), (3, .int 3)] := hl
  refine lv_iload_n hx hb dX7_append_0 rfl (lv_at hl 2 rfl) ?_
  refine lv_iconst (v := 1) hx hb dX7_append_1 (by decide +kernel) ?_
  refine lv_isub hx hb dX7_append_2 ?_
  refine ti_eq (y := 2) (by decide +kernel) ?_
  refine lv_istore (lv' := [(4, .int 2), (0, .ref h0), (1, .long w), (3, .int 3)]) hx hb dX7_append_3 hl (by decide) rfl (fun ls hl => ?_)
  refine lv_iload hx hb dX7_append_5 (lv_at hl 0 rfl) ?_
  refine lv_if_lt (tgt := 56) hx hb dX7_append_7 (by decide) (fun c9 => absurd c9 (by decide +kernel)) (fun _ => ?_)
  refine lv_aload_n hx hb dX7_append_10 rfl (lv_at hl 1 rfl) ?_
  refine va_get (D := (dC, dI)) (ci := 7) (v := .int 0) (C := RX7) (T := TX7) (N := 3) hx hb hts (fun _ h => List.mem_cons_of_mem _ (List.mem_append_right _ h)) hown hK hP 0 rfl rfl 0 (by decide) (hts (.fieldLink RX7 9 "DrumBoats$Tape" "size" "I") (List.mem_of_getElem? (i := 1) rfl)) (fun _ h9 => h9) rfl dX7_append_11 ?_
  refine lv_bipush (v := 120) hx hb dX7_append_14 (by decide +kernel) ?_
  refine lv_icmp_ge (tgt := 56) hx hb dX7_append_16 (by decide) (fun c9 => absurd c9 (by decide +kernel)) (fun _ => ?_)
  refine lv_aload_n hx hb dX7_append_19 rfl (lv_at hl 1 rfl) ?_
  refine va_get (D := (dC, dI)) (ci := 7) (v := .ref aBy) (C := RX7) (T := TX7) (N := 3) hx hb hts (fun _ h => List.mem_cons_of_mem _ (List.mem_append_right _ h)) hown hK hP 0 rfl rfl 2 (by decide) (hts (.fieldLink RX7 18 "DrumBoats$Tape" "bytes" "[I") (List.mem_of_getElem? (i := 2) rfl)) (fun _ h9 => h9) rfl dX7_append_20 ?_
  refine lv_aload_n hx hb dX7_append_23 rfl (lv_at hl 1 rfl) ?_
  refine va_get (D := (dC, dI)) (ci := 7) (v := .int 0) (C := RX7) (T := TX7) (N := 3) hx hb hts (fun _ h => List.mem_cons_of_mem _ (List.mem_append_right _ h)) hown hK hP 0 rfl rfl 0 (by decide) (hts (.fieldLink RX7 9 "DrumBoats$Tape" "size" "I") (List.mem_of_getElem? (i := 1) rfl)) (fun _ h9 => h9) rfl dX7_append_24 ?_
  refine lv_lload_n hx hb dX7_append_27 rfl (lv_at hl 2 rfl) ?_
  refine lv_bipush (v := 8) hx hb dX7_append_28 (by decide +kernel) ?_
  refine lv_iload hx hb dX7_append_30 (lv_at hl 0 rfl) ?_
  refine lv_imul hx hb dX7_append_32 ?_
  refine ti_eq (y := 16) (by decide +kernel) ?_
  refine lv_lushr hx hb dX7_append_33 rfl ?_
  refine lv_topl (fun z1 _ => ?_)
  refine lv_ldc2 (v := 255) hx hb hown (hts (.constantLong RX7 22 (255)) (List.mem_of_getElem? (i := 3) rfl)) dX7_append_34 ?_
  refine lv_land hx hb dX7_append_37 ?_
  refine lv_topl (fun z2 _ => ?_)
  refine lv_l2i hx hb dX7_append_38 rfl ?_
  refine lv_topi (fun z3 _ => ?_)
  refine va_iast hx hb hK hP hD hS 1 0 rfl rfl (by unfold vp_in; decide +kernel) dX7_append_39 (fun H locs hP hD hS => ?_)
  have hP : va_P (dC, dI) vwCl [(h0, .inr (7, [.int 0, .int 0, .ref aBy])), (aBy, .inl (caBy, 120, .inl (upd (fun _ => 0) (0 : Int32).toNatClampNeg z3)))] H := hP
  have hD : va_D A [(h0, .inr (7, [.int 0, .int 0, .ref aBy])), (aBy, .inl (caBy, 120, .inl (upd (fun _ => 0) (0 : Int32).toNatClampNeg z3)))] := hD
  refine lv_aload_n hx hb dX7_append_40 rfl (lv_at hl 1 rfl) ?_
  refine lv_dup hx hb dX7_append_41 rfl ?_
  refine va_get (D := (dC, dI)) (ci := 7) (v := .int 0) (C := RX7) (T := TX7) (N := 3) hx hb hts (fun _ h => List.mem_cons_of_mem _ (List.mem_append_right _ h)) hown hK hP 0 rfl rfl 0 (by decide) (hts (.fieldLink RX7 9 "DrumBoats$Tape" "size" "I") (List.mem_of_getElem? (i := 1) rfl)) (fun _ h9 => h9) rfl dX7_append_42 ?_
  refine lv_iconst (v := 1) hx hb dX7_append_45 (by decide +kernel) ?_
  refine lv_iadd hx hb dX7_append_46 ?_
  refine ti_eq (y := 1) (by decide +kernel) ?_
  refine va_put (D := (dC, dI)) (ci := 7) (v := .int 1) (ty := .int) (C := RX7) (T := TX7) (N := 3) hx hb hts (fun _ h => List.mem_cons_of_mem _ (List.mem_append_right _ h)) tyX7 tyX7_ok nmX7 hown hK hP hD hS 0 rfl rfl 0 (by decide) (hts (.fieldLink RX7 9 "DrumBoats$Tape" "size" "I") (List.mem_of_getElem? (i := 1) rfl)) (fun _ h9 => h9) rfl (by decide +kernel) rfl rfl (Nat.le_of_ble_eq_true rfl) dX7_append_47 (fun H locs hP hD hS => ?_)
  have hP : va_P (dC, dI) vwCl [(h0, .inr (7, [.int 1, .int 0, .ref aBy])), (aBy, .inl (caBy, 120, .inl (upd (fun _ => 0) (0 : Int32).toNatClampNeg z3)))] H := hP
  have hD : va_D A [(h0, .inr (7, [.int 1, .int 0, .ref aBy])), (aBy, .inl (caBy, 120, .inl (upd (fun _ => 0) (0 : Int32).toNatClampNeg z3)))] := hD
  refine lv_iinc (v := 1) (lv' := [(4, .int 1), (0, .ref h0), (1, .long w), (3, .int 3)]) hx hb dX7_append_50 hl (k := 0) rfl (by decide +kernel) (by decide) rfl (fun ls hl => ?_)
  refine lv_goto (tgt := 5) hx hb dX7_append_53 (by decide) ?_
  refine lv_iload hx hb dX7_append_5 (lv_at hl 0 rfl) ?_
  refine lv_if_lt (tgt := 56) hx hb dX7_append_7 (by decide) (fun c9 => absurd c9 (by decide +kernel)) (fun _ => ?_)
  refine lv_aload_n hx hb dX7_append_10 rfl (lv_at hl 1 rfl) ?_
  refine va_get (D := (dC, dI)) (ci := 7) (v := .int 1) (C := RX7) (T := TX7) (N := 3) hx hb hts (fun _ h => List.mem_cons_of_mem _ (List.mem_append_right _ h)) hown hK hP 0 rfl rfl 0 (by decide) (hts (.fieldLink RX7 9 "DrumBoats$Tape" "size" "I") (List.mem_of_getElem? (i := 1) rfl)) (fun _ h9 => h9) rfl dX7_append_11 ?_
  refine lv_bipush (v := 120) hx hb dX7_append_14 (by decide +kernel) ?_
  refine lv_icmp_ge (tgt := 56) hx hb dX7_append_16 (by decide) (fun c9 => absurd c9 (by decide +kernel)) (fun _ => ?_)
  refine lv_aload_n hx hb dX7_append_19 rfl (lv_at hl 1 rfl) ?_
  refine va_get (D := (dC, dI)) (ci := 7) (v := .ref aBy) (C := RX7) (T := TX7) (N := 3) hx hb hts (fun _ h => List.mem_cons_of_mem _ (List.mem_append_right _ h)) hown hK hP 0 rfl rfl 2 (by decide) (hts (.fieldLink RX7 18 "DrumBoats$Tape" "bytes" "[I") (List.mem_of_getElem? (i := 2) rfl)) (fun _ h9 => h9) rfl dX7_append_20 ?_
  refine lv_aload_n hx hb dX7_append_23 rfl (lv_at hl 1 rfl) ?_
  refine va_get (D := (dC, dI)) (ci := 7) (v := .int 1) (C := RX7) (T := TX7) (N := 3) hx hb hts (fun _ h => List.mem_cons_of_mem _ (List.mem_append_right _ h)) hown hK hP 0 rfl rfl 0 (by decide) (hts (.fieldLink RX7 9 "DrumBoats$Tape" "size" "I") (List.mem_of_getElem? (i := 1) rfl)) (fun _ h9 => h9) rfl dX7_append_24 ?_
  refine lv_lload_n hx hb dX7_append_27 rfl (lv_at hl 2 rfl) ?_
  refine lv_bipush (v := 8) hx hb dX7_append_28 (by decide +kernel) ?_
  refine lv_iload hx hb dX7_append_30 (lv_at hl 0 rfl) ?_
  refine lv_imul hx hb dX7_append_32 ?_
  refine ti_eq (y := 8) (by decide +kernel) ?_
  refine lv_lushr hx hb dX7_append_33 rfl ?_
  refine lv_topl (fun z4 _ => ?_)
  refine lv_ldc2 (v := 255) hx hb hown (hts (.constantLong RX7 22 (255)) (List.mem_of_getElem? (i := 3) rfl)) dX7_append_34 ?_
  refine lv_land hx hb dX7_append_37 ?_
  refine lv_topl (fun z5 _ => ?_)
  refine lv_l2i hx hb dX7_append_38 rfl ?_
  refine lv_topi (fun z6 _ => ?_)
  refine va_iast hx hb hK hP hD hS 1 0 rfl rfl (by unfold vp_in; decide +kernel) dX7_append_39 (fun H locs hP hD hS => ?_)
  have hP : va_P (dC, dI) vwCl [(h0, .inr (7, [.int 1, .int 0, .ref aBy])), (aBy, .inl (caBy, 120, .inl (upd (upd (fun _ => 0) (0 : Int32).toNatClampNeg z3) (1 : Int32).toNatClampNeg z6)))] H := hP
  have hD : va_D A [(h0, .inr (7, [.int 1, .int 0, .ref aBy])), (aBy, .inl (caBy, 120, .inl (upd (upd (fun _ => 0) (0 : Int32).toNatClampNeg z3) (1 : Int32).toNatClampNeg z6)))] := hD
  refine lv_aload_n hx hb dX7_append_40 rfl (lv_at hl 1 rfl) ?_
  refine lv_dup hx hb dX7_append_41 rfl ?_
  refine va_get (D := (dC, dI)) (ci := 7) (v := .int 1) (C := RX7) (T := TX7) (N := 3) hx hb hts (fun _ h => List.mem_cons_of_mem _ (List.mem_append_right _ h)) hown hK hP 0 rfl rfl 0 (by decide) (hts (.fieldLink RX7 9 "DrumBoats$Tape" "size" "I") (List.mem_of_getElem? (i := 1) rfl)) (fun _ h9 => h9) rfl dX7_append_42 ?_
  refine lv_iconst (v := 1) hx hb dX7_append_45 (by decide +kernel) ?_
  refine lv_iadd hx hb dX7_append_46 ?_
  refine ti_eq (y := 2) (by decide +kernel) ?_
  refine va_put (D := (dC, dI)) (ci := 7) (v := .int 2) (ty := .int) (C := RX7) (T := TX7) (N := 3) hx hb hts (fun _ h => List.mem_cons_of_mem _ (List.mem_append_right _ h)) tyX7 tyX7_ok nmX7 hown hK hP hD hS 0 rfl rfl 0 (by decide) (hts (.fieldLink RX7 9 "DrumBoats$Tape" "size" "I") (List.mem_of_getElem? (i := 1) rfl)) (fun _ h9 => h9) rfl (by decide +kernel) rfl rfl (Nat.le_of_ble_eq_true rfl) dX7_append_47 (fun H locs hP hD hS => ?_)
  have hP : va_P (dC, dI) vwCl [(h0, .inr (7, [.int 2, .int 0, .ref aBy])), (aBy, .inl (caBy, 120, .inl (upd (upd (fun _ => 0) (0 : Int32).toNatClampNeg z3) (1 : Int32).toNatClampNeg z6)))] H := hP
  have hD : va_D A [(h0, .inr (7, [.int 2, .int 0, .ref aBy])), (aBy, .inl (caBy, 120, .inl (upd (upd (fun _ => 0) (0 : Int32).toNatClampNeg z3) (1 : Int32).toNatClampNeg z6)))] := hD
  refine lv_iinc (v := 0) (lv' := [(4, .int 0), (0, .ref h0), (1, .long w), (3, .int 3)]) hx hb dX7_append_50 hl (k := 0) rfl (by decide +kernel) (by decide) rfl (fun ls hl => ?_)
  refine lv_goto (tgt := 5) hx hb dX7_append_53 (by decide) ?_
  refine lv_iload hx hb dX7_append_5 (lv_at hl 0 rfl) ?_
  refine lv_if_lt (tgt := 56) hx hb dX7_append_7 (by decide) (fun c9 => absurd c9 (by decide +kernel)) (fun _ => ?_)
  refine lv_aload_n hx hb dX7_append_10 rfl (lv_at hl 1 rfl) ?_
  refine va_get (D := (dC, dI)) (ci := 7) (v := .int 2) (C := RX7) (T := TX7) (N := 3) hx hb hts (fun _ h => List.mem_cons_of_mem _ (List.mem_append_right _ h)) hown hK hP 0 rfl rfl 0 (by decide) (hts (.fieldLink RX7 9 "DrumBoats$Tape" "size" "I") (List.mem_of_getElem? (i := 1) rfl)) (fun _ h9 => h9) rfl dX7_append_11 ?_
  refine lv_bipush (v := 120) hx hb dX7_append_14 (by decide +kernel) ?_
  refine lv_icmp_ge (tgt := 56) hx hb dX7_append_16 (by decide) (fun c9 => absurd c9 (by decide +kernel)) (fun _ => ?_)
  refine lv_aload_n hx hb dX7_append_19 rfl (lv_at hl 1 rfl) ?_
  refine va_get (D := (dC, dI)) (ci := 7) (v := .ref aBy) (C := RX7) (T := TX7) (N := 3) hx hb hts (fun _ h => List.mem_cons_of_mem _ (List.mem_append_right _ h)) hown hK hP 0 rfl rfl 2 (by decide) (hts (.fieldLink RX7 18 "DrumBoats$Tape" "bytes" "[I") (List.mem_of_getElem? (i := 2) rfl)) (fun _ h9 => h9) rfl dX7_append_20 ?_
  refine lv_aload_n hx hb dX7_append_23 rfl (lv_at hl 1 rfl) ?_
  refine va_get (D := (dC, dI)) (ci := 7) (v := .int 2) (C := RX7) (T := TX7) (N := 3) hx hb hts (fun _ h => List.mem_cons_of_mem _ (List.mem_append_right _ h)) hown hK hP 0 rfl rfl 0 (by decide) (hts (.fieldLink RX7 9 "DrumBoats$Tape" "size" "I") (List.mem_of_getElem? (i := 1) rfl)) (fun _ h9 => h9) rfl dX7_append_24 ?_
  refine lv_lload_n hx hb dX7_append_27 rfl (lv_at hl 2 rfl) ?_
  refine lv_bipush (v := 8) hx hb dX7_append_28 (by decide +kernel) ?_
  refine lv_iload hx hb dX7_append_30 (lv_at hl 0 rfl) ?_
  refine lv_imul hx hb dX7_append_32 ?_
  refine ti_eq (y := 0) (by decide +kernel) ?_
  refine lv_lushr hx hb dX7_append_33 rfl ?_
  refine lv_topl (fun z7 _ => ?_)
  refine lv_ldc2 (v := 255) hx hb hown (hts (.constantLong RX7 22 (255)) (List.mem_of_getElem? (i := 3) rfl)) dX7_append_34 ?_
  refine lv_land hx hb dX7_append_37 ?_
  refine lv_topl (fun z8 _ => ?_)
  refine lv_l2i hx hb dX7_append_38 rfl ?_
  refine lv_topi (fun z9 _ => ?_)
  refine va_iast hx hb hK hP hD hS 1 0 rfl rfl (by unfold vp_in; decide +kernel) dX7_append_39 (fun H locs hP hD hS => ?_)
  have hP : va_P (dC, dI) vwCl [(h0, .inr (7, [.int 2, .int 0, .ref aBy])), (aBy, .inl (caBy, 120, .inl (upd (upd (upd (fun _ => 0) (0 : Int32).toNatClampNeg z3) (1 : Int32).toNatClampNeg z6) (2 : Int32).toNatClampNeg z9)))] H := hP
  have hD : va_D A [(h0, .inr (7, [.int 2, .int 0, .ref aBy])), (aBy, .inl (caBy, 120, .inl (upd (upd (upd (fun _ => 0) (0 : Int32).toNatClampNeg z3) (1 : Int32).toNatClampNeg z6) (2 : Int32).toNatClampNeg z9)))] := hD
  refine lv_aload_n hx hb dX7_append_40 rfl (lv_at hl 1 rfl) ?_
  refine lv_dup hx hb dX7_append_41 rfl ?_
  refine va_get (D := (dC, dI)) (ci := 7) (v := .int 2) (C := RX7) (T := TX7) (N := 3) hx hb hts (fun _ h => List.mem_cons_of_mem _ (List.mem_append_right _ h)) hown hK hP 0 rfl rfl 0 (by decide) (hts (.fieldLink RX7 9 "DrumBoats$Tape" "size" "I") (List.mem_of_getElem? (i := 1) rfl)) (fun _ h9 => h9) rfl dX7_append_42 ?_
  refine lv_iconst (v := 1) hx hb dX7_append_45 (by decide +kernel) ?_
  refine lv_iadd hx hb dX7_append_46 ?_
  refine ti_eq (y := 3) (by decide +kernel) ?_
  refine va_put (D := (dC, dI)) (ci := 7) (v := .int 3) (ty := .int) (C := RX7) (T := TX7) (N := 3) hx hb hts (fun _ h => List.mem_cons_of_mem _ (List.mem_append_right _ h)) tyX7 tyX7_ok nmX7 hown hK hP hD hS 0 rfl rfl 0 (by decide) (hts (.fieldLink RX7 9 "DrumBoats$Tape" "size" "I") (List.mem_of_getElem? (i := 1) rfl)) (fun _ h9 => h9) rfl (by decide +kernel) rfl rfl (Nat.le_of_ble_eq_true rfl) dX7_append_47 (fun H locs hP hD hS => ?_)
  have hP : va_P (dC, dI) vwCl [(h0, .inr (7, [.int 3, .int 0, .ref aBy])), (aBy, .inl (caBy, 120, .inl (upd (upd (upd (fun _ => 0) (0 : Int32).toNatClampNeg z3) (1 : Int32).toNatClampNeg z6) (2 : Int32).toNatClampNeg z9)))] H := hP
  have hD : va_D A [(h0, .inr (7, [.int 3, .int 0, .ref aBy])), (aBy, .inl (caBy, 120, .inl (upd (upd (upd (fun _ => 0) (0 : Int32).toNatClampNeg z3) (1 : Int32).toNatClampNeg z6) (2 : Int32).toNatClampNeg z9)))] := hD
  refine lv_iinc (v := (-1)) (lv' := [(4, .int (-1)), (0, .ref h0), (1, .long w), (3, .int 3)]) hx hb dX7_append_50 hl (k := 0) rfl (by decide +kernel) (by decide) rfl (fun ls hl => ?_)
  refine lv_goto (tgt := 5) hx hb dX7_append_53 (by decide) ?_
  refine lv_iload hx hb dX7_append_5 (lv_at hl 0 rfl) ?_
  refine lv_if_lt (tgt := 56) hx hb dX7_append_7 (by decide) (fun _ => ?_) (fun c9 => absurd c9 (by decide +kernel))
  have hP9 := hP.sub (ws' := [(h0, .inr (7, [.int 3, .int 0, .ref aBy]))]) [0] rfl
  have hD9 := hD.sub (ws' := [(h0, .inr (7, [.int 3, .int 0, .ref aBy]))]) [0] (by decide) rfl
  have hK9 := hK.sub (tys' := []) [] rfl
  refine W.widen (k := 0) (n := 0) (Nat.le_of_ble_eq_true rfl) (Nat.le_of_ble_eq_true rfl) ?_
  exact W.vret hx hb hr (fun t ht hW => ⟨⟨(), rfl, trivial, by rw [ht]; exact hP9, va_K.moved hW.alike hK9, hD9⟩, hS.F ht⟩) hS.2.2 dX7_append_56

set_option maxHeartbeats 4000000 in
set_option maxRecDepth 100000 in
theorem k_X7_append_4 (l : Launch) (dC : Nat → ClassId) (dI : Nat → Nat → Nat) (sz : Nat) (h0 : Nat) (w : Int64) (aBy : Nat) (caBy : ClassId) : Met l yX7_append wsX7_append ({ frames := 0, cells := 0, slots := 0, locals := 0 }) (va_Pc [.ref h0, .long w, .int 4] (fun U => U.heap.size = sz ∧ va_P (dC, dI) vwCl [(h0, .inr (7, [.int 0, .int 0, .ref aBy])), (aBy, .inl (caBy, 120, .inl (fun _ => 0)))] U.heap ∧ va_K (dC, dI) vwCl [(caBy, .int)] U ∧ va_D (fun _ => True) [(h0, .inr (7, [.int 0, .int 0, .ref aBy])), (aBy, .inl (caBy, 120, .inl (fun _ => 0)))])) (va_Qv (fun _ : Unit => True) (fun _ t => va_P (dC, dI) vwCl [(h0, .inr (7, [.int 4, .int 0, .ref aBy]))] t.heap ∧ va_K (dC, dI) vwCl [] t ∧ va_D (va_A [(h0, .inr (7, [.int 0, .int 0, .ref aBy])), (aBy, .inl (caBy, 120, .inl (fun _ => 0)))] sz) [(h0, .inr (7, [.int 4, .int 0, .ref aBy]))]) (va_A [(h0, .inr (7, [.int 0, .int 0, .ref aBy])), (aBy, .inl (caBy, 120, .inl (fun _ => 0)))] sz)) 0 0 (va_A [(h0, .inr (7, [.int 0, .int 0, .ref aBy])), (aBy, .inl (caBy, 120, .inl (fun _ => 0)))] sz) := by
  refine Met.ofW (cc := cX7_append) (maxL := 5) (ret := none) (by decide) rfl ?_
  intro p e s m args below meth c s₁ B hml hv
  obtain ⟨rfl, hsz, hP, hK, hD0⟩ := hv
  have hx := B.exec
  have hb := B.bytes
  have hr := B.returns
  have hts := atoms_spec (ws := wsX7_append) B.pre
  have hown : s.vm.findClass RX7 = some m.cls := findClass_of_methodNamed B.named
  have hlocks := B.notSynchronized
  subst hsz
  have hD := hD0.self (sz := s.heap.size)
  generalize hAe : va_A [(h0, .inr (7, [.int 0, .int 0, .ref aBy])), (aBy, .inl (caBy, 120, .inl (fun _ => 0)))] s.heap.size = A at hD ⊢
  have hA : ∀ q : Nat, s.heap.size ≤ q → A q := fun q h => by rw [← hAe]; exact Or.inr h
  have hS : va_S A s.heap s.heap [] := va_S.rf
  have hl := lv_entry ([.ref h0, .long w, .int 4]) (n := 5) (Nat.le_of_ble_eq_true rfl)
  rw [lg_entry_eq]
  generalize (lg_sl ([.ref h0, .long w, .int 4]) ++ List.replicate (5 - (lg_sl ([.ref h0, .long w, .int 4])).length) Slot.unset).toArray = ls at hl ⊢
  have hl : lv_has ls 5 [(0, .ref h0), (1, .long w), (3, .int 4)] := hl
  refine lv_iload_n hx hb dX7_append_0 rfl (lv_at hl 2 rfl) ?_
  refine lv_iconst (v := 1) hx hb dX7_append_1 (by decide +kernel) ?_
  refine lv_isub hx hb dX7_append_2 ?_
  refine ti_eq (y := 3) (by decide +kernel) ?_
  refine lv_istore (lv' := [(4, .int 3), (0, .ref h0), (1, .long w), (3, .int 4)]) hx hb dX7_append_3 hl (by decide) rfl (fun ls hl => ?_)
  refine lv_iload hx hb dX7_append_5 (lv_at hl 0 rfl) ?_
  refine lv_if_lt (tgt := 56) hx hb dX7_append_7 (by decide) (fun c9 => absurd c9 (by decide +kernel)) (fun _ => ?_)
  refine lv_aload_n hx hb dX7_append_10 rfl (lv_at hl 1 rfl) ?_
  refine va_get (D := (dC, dI)) (ci := 7) (v := .int 0) (C := RX7) (T := TX7) (N := 3) hx hb hts (fun _ h => List.mem_cons_of_mem _ (List.mem_append_right _ h)) hown hK hP 0 rfl rfl 0 (by decide) (hts (.fieldLink RX7 9 "DrumBoats$Tape" "size" "I") (List.mem_of_getElem? (i := 1) rfl)) (fun _ h9 => h9) rfl dX7_append_11 ?_
  refine lv_bipush (v := 120) hx hb dX7_append_14 (by decide +kernel) ?_
  refine lv_icmp_ge (tgt := 56) hx hb dX7_append_16 (by decide) (fun c9 => absurd c9 (by decide +kernel)) (fun _ => ?_)
  refine lv_aload_n hx hb dX7_append_19 rfl (lv_at hl 1 rfl) ?_
  refine va_get (D := (dC, dI)) (ci := 7) (v := .ref aBy) (C := RX7) (T := TX7) (N := 3) hx hb hts (fun _ h => List.mem_cons_of_mem _ (List.mem_append_right _ h)) hown hK hP 0 rfl rfl 2 (by decide) (hts (.fieldLink RX7 18 "DrumBoats$Tape" "bytes" "[I") (List.mem_of_getElem? (i := 2) rfl)) (fun _ h9 => h9) rfl dX7_append_20 ?_
  refine lv_aload_n hx hb dX7_append_23 rfl (lv_at hl 1 rfl) ?_
  refine va_get (D := (dC, dI)) (ci := 7) (v := .int 0) (C := RX7) (T := TX7) (N := 3) hx hb hts (fun _ h => List.mem_cons_of_mem _ (List.mem_append_right _ h)) hown hK hP 0 rfl rfl 0 (by decide) (hts (.fieldLink RX7 9 "DrumBoats$Tape" "size" "I") (List.mem_of_getElem? (i := 1) rfl)) (fun _ h9 => h9) rfl dX7_append_24 ?_
  refine lv_lload_n hx hb dX7_append_27 rfl (lv_at hl 2 rfl) ?_
  refine lv_bipush (v := 8) hx hb dX7_append_28 (by decide +kernel) ?_
  refine lv_iload hx hb dX7_append_30 (lv_at hl 0 rfl) ?_
  refine lv_imul hx hb dX7_append_32 ?_
  refine ti_eq (y := 24) (by decide +kernel) ?_
  refine lv_lushr hx hb dX7_append_33 rfl ?_
  refine lv_topl (fun z1 _ => ?_)
  refine lv_ldc2 (v := 255) hx hb hown (hts (.constantLong RX7 22 (255)) (List.mem_of_getElem? (i := 3) rfl)) dX7_append_34 ?_
  refine lv_land hx hb dX7_append_37 ?_
  refine lv_topl (fun z2 _ => ?_)
  refine lv_l2i hx hb dX7_append_38 rfl ?_
  refine lv_topi (fun z3 _ => ?_)
  refine va_iast hx hb hK hP hD hS 1 0 rfl rfl (by unfold vp_in; decide +kernel) dX7_append_39 (fun H locs hP hD hS => ?_)
  have hP : va_P (dC, dI) vwCl [(h0, .inr (7, [.int 0, .int 0, .ref aBy])), (aBy, .inl (caBy, 120, .inl (upd (fun _ => 0) (0 : Int32).toNatClampNeg z3)))] H := hP
  have hD : va_D A [(h0, .inr (7, [.int 0, .int 0, .ref aBy])), (aBy, .inl (caBy, 120, .inl (upd (fun _ => 0) (0 : Int32).toNatClampNeg z3)))] := hD
  refine lv_aload_n hx hb dX7_append_40 rfl (lv_at hl 1 rfl) ?_
  refine lv_dup hx hb dX7_append_41 rfl ?_
  refine va_get (D := (dC, dI)) (ci := 7) (v := .int 0) (C := RX7) (T := TX7) (N := 3) hx hb hts (fun _ h => List.mem_cons_of_mem _ (List.mem_append_right _ h)) hown hK hP 0 rfl rfl 0 (by decide) (hts (.fieldLink RX7 9 "DrumBoats$Tape" "size" "I") (List.mem_of_getElem? (i := 1) rfl)) (fun _ h9 => h9) rfl dX7_append_42 ?_
  refine lv_iconst (v := 1) hx hb dX7_append_45 (by decide +kernel) ?_
  refine lv_iadd hx hb dX7_append_46 ?_
  refine ti_eq (y := 1) (by decide +kernel) ?_
  refine va_put (D := (dC, dI)) (ci := 7) (v := .int 1) (ty := .int) (C := RX7) (T := TX7) (N := 3) hx hb hts (fun _ h => List.mem_cons_of_mem _ (List.mem_append_right _ h)) tyX7 tyX7_ok nmX7 hown hK hP hD hS 0 rfl rfl 0 (by decide) (hts (.fieldLink RX7 9 "DrumBoats$Tape" "size" "I") (List.mem_of_getElem? (i := 1) rfl)) (fun _ h9 => h9) rfl (by decide +kernel) rfl rfl (Nat.le_of_ble_eq_true rfl) dX7_append_47 (fun H locs hP hD hS => ?_)
  have hP : va_P (dC, dI) vwCl [(h0, .inr (7, [.int 1, .int 0, .ref aBy])), (aBy, .inl (caBy, 120, .inl (upd (fun _ => 0) (0 : Int32).toNatClampNeg z3)))] H := hP
  have hD : va_D A [(h0, .inr (7, [.int 1, .int 0, .ref aBy])), (aBy, .inl (caBy, 120, .inl (upd (fun _ => 0) (0 : Int32).toNatClampNeg z3)))] := hD
  refine lv_iinc (v := 2) (lv' := [(4, .int 2), (0, .ref h0), (1, .long w), (3, .int 4)]) hx hb dX7_append_50 hl (k := 0) rfl (by decide +kernel) (by decide) rfl (fun ls hl => ?_)
  refine lv_goto (tgt := 5) hx hb dX7_append_53 (by decide) ?_
  refine lv_iload hx hb dX7_append_5 (lv_at hl 0 rfl) ?_
  refine lv_if_lt (tgt := 56) hx hb dX7_append_7 (by decide) (fun c9 => absurd c9 (by decide +kernel)) (fun _ => ?_)
  refine lv_aload_n hx hb dX7_append_10 rfl (lv_at hl 1 rfl) ?_
  refine va_get (D := (dC, dI)) (ci := 7) (v := .int 1) (C := RX7) (T := TX7) (N := 3) hx hb hts (fun _ h => List.mem_cons_of_mem _ (List.mem_append_right _ h)) hown hK hP 0 rfl rfl 0 (by decide) (hts (.fieldLink RX7 9 "DrumBoats$Tape" "size" "I") (List.mem_of_getElem? (i := 1) rfl)) (fun _ h9 => h9) rfl dX7_append_11 ?_
  refine lv_bipush (v := 120) hx hb dX7_append_14 (by decide +kernel) ?_
  refine lv_icmp_ge (tgt := 56) hx hb dX7_append_16 (by decide) (fun c9 => absurd c9 (by decide +kernel)) (fun _ => ?_)
  refine lv_aload_n hx hb dX7_append_19 rfl (lv_at hl 1 rfl) ?_
  refine va_get (D := (dC, dI)) (ci := 7) (v := .ref aBy) (C := RX7) (T := TX7) (N := 3) hx hb hts (fun _ h => List.mem_cons_of_mem _ (List.mem_append_right _ h)) hown hK hP 0 rfl rfl 2 (by decide) (hts (.fieldLink RX7 18 "DrumBoats$Tape" "bytes" "[I") (List.mem_of_getElem? (i := 2) rfl)) (fun _ h9 => h9) rfl dX7_append_20 ?_
  refine lv_aload_n hx hb dX7_append_23 rfl (lv_at hl 1 rfl) ?_
  refine va_get (D := (dC, dI)) (ci := 7) (v := .int 1) (C := RX7) (T := TX7) (N := 3) hx hb hts (fun _ h => List.mem_cons_of_mem _ (List.mem_append_right _ h)) hown hK hP 0 rfl rfl 0 (by decide) (hts (.fieldLink RX7 9 "DrumBoats$Tape" "size" "I") (List.mem_of_getElem? (i := 1) rfl)) (fun _ h9 => h9) rfl dX7_append_24 ?_
  refine lv_lload_n hx hb dX7_append_27 rfl (lv_at hl 2 rfl) ?_
  refine lv_bipush (v := 8) hx hb dX7_append_28 (by decide +kernel) ?_
  refine lv_iload hx hb dX7_append_30 (lv_at hl 0 rfl) ?_
  refine lv_imul hx hb dX7_append_32 ?_
  refine ti_eq (y := 16) (by decide +kernel) ?_
  refine lv_lushr hx hb dX7_append_33 rfl ?_
  refine lv_topl (fun z4 _ => ?_)
  refine lv_ldc2 (v := 255) hx hb hown (hts (.constantLong RX7 22 (255)) (List.mem_of_getElem? (i := 3) rfl)) dX7_append_34 ?_
  refine lv_land hx hb dX7_append_37 ?_
  refine lv_topl (fun z5 _ => ?_)
  refine lv_l2i hx hb dX7_append_38 rfl ?_
  refine lv_topi (fun z6 _ => ?_)
  refine va_iast hx hb hK hP hD hS 1 0 rfl rfl (by unfold vp_in; decide +kernel) dX7_append_39 (fun H locs hP hD hS => ?_)
  have hP : va_P (dC, dI) vwCl [(h0, .inr (7, [.int 1, .int 0, .ref aBy])), (aBy, .inl (caBy, 120, .inl (upd (upd (fun _ => 0) (0 : Int32).toNatClampNeg z3) (1 : Int32).toNatClampNeg z6)))] H := hP
  have hD : va_D A [(h0, .inr (7, [.int 1, .int 0, .ref aBy])), (aBy, .inl (caBy, 120, .inl (upd (upd (fun _ => 0) (0 : Int32).toNatClampNeg z3) (1 : Int32).toNatClampNeg z6)))] := hD
  refine lv_aload_n hx hb dX7_append_40 rfl (lv_at hl 1 rfl) ?_
  refine lv_dup hx hb dX7_append_41 rfl ?_
  refine va_get (D := (dC, dI)) (ci := 7) (v := .int 1) (C := RX7) (T := TX7) (N := 3) hx hb hts (fun _ h => List.mem_cons_of_mem _ (List.mem_append_right _ h)) hown hK hP 0 rfl rfl 0 (by decide) (hts (.fieldLink RX7 9 "DrumBoats$Tape" "size" "I") (List.mem_of_getElem? (i := 1) rfl)) (fun _ h9 => h9) rfl dX7_append_42 ?_
  refine lv_iconst (v := 1) hx hb dX7_append_45 (by decide +kernel) ?_
  refine lv_iadd hx hb dX7_append_46 ?_
  refine ti_eq (y := 2) (by decide +kernel) ?_
  refine va_put (D := (dC, dI)) (ci := 7) (v := .int 2) (ty := .int) (C := RX7) (T := TX7) (N := 3) hx hb hts (fun _ h => List.mem_cons_of_mem _ (List.mem_append_right _ h)) tyX7 tyX7_ok nmX7 hown hK hP hD hS 0 rfl rfl 0 (by decide) (hts (.fieldLink RX7 9 "DrumBoats$Tape" "size" "I") (List.mem_of_getElem? (i := 1) rfl)) (fun _ h9 => h9) rfl (by decide +kernel) rfl rfl (Nat.le_of_ble_eq_true rfl) dX7_append_47 (fun H locs hP hD hS => ?_)
  have hP : va_P (dC, dI) vwCl [(h0, .inr (7, [.int 2, .int 0, .ref aBy])), (aBy, .inl (caBy, 120, .inl (upd (upd (fun _ => 0) (0 : Int32).toNatClampNeg z3) (1 : Int32).toNatClampNeg z6)))] H := hP
  have hD : va_D A [(h0, .inr (7, [.int 2, .int 0, .ref aBy])), (aBy, .inl (caBy, 120, .inl (upd (upd (fun _ => 0) (0 : Int32).toNatClampNeg z3) (1 : Int32).toNatClampNeg z6)))] := hD
  refine lv_iinc (v := 1) (lv' := [(4, .int 1), (0, .ref h0), (1, .long w), (3, .int 4)]) hx hb dX7_append_50 hl (k := 0) rfl (by decide +kernel) (by decide) rfl (fun ls hl => ?_)
  refine lv_goto (tgt := 5) hx hb dX7_append_53 (by decide) ?_
  refine lv_iload hx hb dX7_append_5 (lv_at hl 0 rfl) ?_
  refine lv_if_lt (tgt := 56) hx hb dX7_append_7 (by decide) (fun c9 => absurd c9 (by decide +kernel)) (fun _ => ?_)
  refine lv_aload_n hx hb dX7_append_10 rfl (lv_at hl 1 rfl) ?_
  refine va_get (D := (dC, dI)) (ci := 7) (v := .int 2) (C := RX7) (T := TX7) (N := 3) hx hb hts (fun _ h => List.mem_cons_of_mem _ (List.mem_append_right _ h)) hown hK hP 0 rfl rfl 0 (by decide) (hts (.fieldLink RX7 9 "DrumBoats$Tape" "size" "I") (List.mem_of_getElem? (i := 1) rfl)) (fun _ h9 => h9) rfl dX7_append_11 ?_
  refine lv_bipush (v := 120) hx hb dX7_append_14 (by decide +kernel) ?_
  refine lv_icmp_ge (tgt := 56) hx hb dX7_append_16 (by decide) (fun c9 => absurd c9 (by decide +kernel)) (fun _ => ?_)
  refine lv_aload_n hx hb dX7_append_19 rfl (lv_at hl 1 rfl) ?_
  refine va_get (D := (dC, dI)) (ci := 7) (v := .ref aBy) (C := RX7) (T := TX7) (N := 3) hx hb hts (fun _ h => List.mem_cons_of_mem _ (List.mem_append_right _ h)) hown hK hP 0 rfl rfl 2 (by decide) (hts (.fieldLink RX7 18 "DrumBoats$Tape" "bytes" "[I") (List.mem_of_getElem? (i := 2) rfl)) (fun _ h9 => h9) rfl dX7_append_20 ?_
  refine lv_aload_n hx hb dX7_append_23 rfl (lv_at hl 1 rfl) ?_
  refine va_get (D := (dC, dI)) (ci := 7) (v := .int 2) (C := RX7) (T := TX7) (N := 3) hx hb hts (fun _ h => List.mem_cons_of_mem _ (List.mem_append_right _ h)) hown hK hP 0 rfl rfl 0 (by decide) (hts (.fieldLink RX7 9 "DrumBoats$Tape" "size" "I") (List.mem_of_getElem? (i := 1) rfl)) (fun _ h9 => h9) rfl dX7_append_24 ?_
  refine lv_lload_n hx hb dX7_append_27 rfl (lv_at hl 2 rfl) ?_
  refine lv_bipush (v := 8) hx hb dX7_append_28 (by decide +kernel) ?_
  refine lv_iload hx hb dX7_append_30 (lv_at hl 0 rfl) ?_
  refine lv_imul hx hb dX7_append_32 ?_
  refine ti_eq (y := 8) (by decide +kernel) ?_
  refine lv_lushr hx hb dX7_append_33 rfl ?_
  refine lv_topl (fun z7 _ => ?_)
  refine lv_ldc2 (v := 255) hx hb hown (hts (.constantLong RX7 22 (255)) (List.mem_of_getElem? (i := 3) rfl)) dX7_append_34 ?_
  refine lv_land hx hb dX7_append_37 ?_
  refine lv_topl (fun z8 _ => ?_)
  refine lv_l2i hx hb dX7_append_38 rfl ?_
  refine lv_topi (fun z9 _ => ?_)
  refine va_iast hx hb hK hP hD hS 1 0 rfl rfl (by unfold vp_in; decide +kernel) dX7_append_39 (fun H locs hP hD hS => ?_)
  have hP : va_P (dC, dI) vwCl [(h0, .inr (7, [.int 2, .int 0, .ref aBy])), (aBy, .inl (caBy, 120, .inl (upd (upd (upd (fun _ => 0) (0 : Int32).toNatClampNeg z3) (1 : Int32).toNatClampNeg z6) (2 : Int32).toNatClampNeg z9)))] H := hP
  have hD : va_D A [(h0, .inr (7, [.int 2, .int 0, .ref aBy])), (aBy, .inl (caBy, 120, .inl (upd (upd (upd (fun _ => 0) (0 : Int32).toNatClampNeg z3) (1 : Int32).toNatClampNeg z6) (2 : Int32).toNatClampNeg z9)))] := hD
  refine lv_aload_n hx hb dX7_append_40 rfl (lv_at hl 1 rfl) ?_
  refine lv_dup hx hb dX7_append_41 rfl ?_
  refine va_get (D := (dC, dI)) (ci := 7) (v := .int 2) (C := RX7) (T := TX7) (N := 3) hx hb hts (fun _ h => List.mem_cons_of_mem _ (List.mem_append_right _ h)) hown hK hP 0 rfl rfl 0 (by decide) (hts (.fieldLink RX7 9 "DrumBoats$Tape" "size" "I") (List.mem_of_getElem? (i := 1) rfl)) (fun _ h9 => h9) rfl dX7_append_42 ?_
  refine lv_iconst (v := 1) hx hb dX7_append_45 (by decide +kernel) ?_
  refine lv_iadd hx hb dX7_append_46 ?_
  refine ti_eq (y := 3) (by decide +kernel) ?_
  refine va_put (D := (dC, dI)) (ci := 7) (v := .int 3) (ty := .int) (C := RX7) (T := TX7) (N := 3) hx hb hts (fun _ h => List.mem_cons_of_mem _ (List.mem_append_right _ h)) tyX7 tyX7_ok nmX7 hown hK hP hD hS 0 rfl rfl 0 (by decide) (hts (.fieldLink RX7 9 "DrumBoats$Tape" "size" "I") (List.mem_of_getElem? (i := 1) rfl)) (fun _ h9 => h9) rfl (by decide +kernel) rfl rfl (Nat.le_of_ble_eq_true rfl) dX7_append_47 (fun H locs hP hD hS => ?_)
  have hP : va_P (dC, dI) vwCl [(h0, .inr (7, [.int 3, .int 0, .ref aBy])), (aBy, .inl (caBy, 120, .inl (upd (upd (upd (fun _ => 0) (0 : Int32).toNatClampNeg z3) (1 : Int32).toNatClampNeg z6) (2 : Int32).toNatClampNeg z9)))] H := hP
  have hD : va_D A [(h0, .inr (7, [.int 3, .int 0, .ref aBy])), (aBy, .inl (caBy, 120, .inl (upd (upd (upd (fun _ => 0) (0 : Int32).toNatClampNeg z3) (1 : Int32).toNatClampNeg z6) (2 : Int32).toNatClampNeg z9)))] := hD
  refine lv_iinc (v := 0) (lv' := [(4, .int 0), (0, .ref h0), (1, .long w), (3, .int 4)]) hx hb dX7_append_50 hl (k := 0) rfl (by decide +kernel) (by decide) rfl (fun ls hl => ?_)
  refine lv_goto (tgt := 5) hx hb dX7_append_53 (by decide) ?_
  refine lv_iload hx hb dX7_append_5 (lv_at hl 0 rfl) ?_
  refine lv_if_lt (tgt := 56) hx hb dX7_append_7 (by decide) (fun c9 => absurd c9 (by decide +kernel)) (fun _ => ?_)
  refine lv_aload_n hx hb dX7_append_10 rfl (lv_at hl 1 rfl) ?_
  refine va_get (D := (dC, dI)) (ci := 7) (v := .int 3) (C := RX7) (T := TX7) (N := 3) hx hb hts (fun _ h => List.mem_cons_of_mem _ (List.mem_append_right _ h)) hown hK hP 0 rfl rfl 0 (by decide) (hts (.fieldLink RX7 9 "DrumBoats$Tape" "size" "I") (List.mem_of_getElem? (i := 1) rfl)) (fun _ h9 => h9) rfl dX7_append_11 ?_
  refine lv_bipush (v := 120) hx hb dX7_append_14 (by decide +kernel) ?_
  refine lv_icmp_ge (tgt := 56) hx hb dX7_append_16 (by decide) (fun c9 => absurd c9 (by decide +kernel)) (fun _ => ?_)
  refine lv_aload_n hx hb dX7_append_19 rfl (lv_at hl 1 rfl) ?_
  refine va_get (D := (dC, dI)) (ci := 7) (v := .ref aBy) (C := RX7) (T := TX7) (N := 3) hx hb hts (fun _ h => List.mem_cons_of_mem _ (List.mem_append_right _ h)) hown hK hP 0 rfl rfl 2 (by decide) (hts (.fieldLink RX7 18 "DrumBoats$Tape" "bytes" "[I") (List.mem_of_getElem? (i := 2) rfl)) (fun _ h9 => h9) rfl dX7_append_20 ?_
  refine lv_aload_n hx hb dX7_append_23 rfl (lv_at hl 1 rfl) ?_
  refine va_get (D := (dC, dI)) (ci := 7) (v := .int 3) (C := RX7) (T := TX7) (N := 3) hx hb hts (fun _ h => List.mem_cons_of_mem _ (List.mem_append_right _ h)) hown hK hP 0 rfl rfl 0 (by decide) (hts (.fieldLink RX7 9 "DrumBoats$Tape" "size" "I") (List.mem_of_getElem? (i := 1) rfl)) (fun _ h9 => h9) rfl dX7_append_24 ?_
  refine lv_lload_n hx hb dX7_append_27 rfl (lv_at hl 2 rfl) ?_
  refine lv_bipush (v := 8) hx hb dX7_append_28 (by decide +kernel) ?_
  refine lv_iload hx hb dX7_append_30 (lv_at hl 0 rfl) ?_
  refine lv_imul hx hb dX7_append_32 ?_
  refine ti_eq (y := 0) (by decide +kernel) ?_
  refine lv_lushr hx hb dX7_append_33 rfl ?_
  refine lv_topl (fun z10 _ => ?_)
  refine lv_ldc2 (v := 255) hx hb hown (hts (.constantLong RX7 22 (255)) (List.mem_of_getElem? (i := 3) rfl)) dX7_append_34 ?_
  refine lv_land hx hb dX7_append_37 ?_
  refine lv_topl (fun z11 _ => ?_)
  refine lv_l2i hx hb dX7_append_38 rfl ?_
  refine lv_topi (fun z12 _ => ?_)
  refine va_iast hx hb hK hP hD hS 1 0 rfl rfl (by unfold vp_in; decide +kernel) dX7_append_39 (fun H locs hP hD hS => ?_)
  have hP : va_P (dC, dI) vwCl [(h0, .inr (7, [.int 3, .int 0, .ref aBy])), (aBy, .inl (caBy, 120, .inl (upd (upd (upd (upd (fun _ => 0) (0 : Int32).toNatClampNeg z3) (1 : Int32).toNatClampNeg z6) (2 : Int32).toNatClampNeg z9) (3 : Int32).toNatClampNeg z12)))] H := hP
  have hD : va_D A [(h0, .inr (7, [.int 3, .int 0, .ref aBy])), (aBy, .inl (caBy, 120, .inl (upd (upd (upd (upd (fun _ => 0) (0 : Int32).toNatClampNeg z3) (1 : Int32).toNatClampNeg z6) (2 : Int32).toNatClampNeg z9) (3 : Int32).toNatClampNeg z12)))] := hD
  refine lv_aload_n hx hb dX7_append_40 rfl (lv_at hl 1 rfl) ?_
  refine lv_dup hx hb dX7_append_41 rfl ?_
  refine va_get (D := (dC, dI)) (ci := 7) (v := .int 3) (C := RX7) (T := TX7) (N := 3) hx hb hts (fun _ h => List.mem_cons_of_mem _ (List.mem_append_right _ h)) hown hK hP 0 rfl rfl 0 (by decide) (hts (.fieldLink RX7 9 "DrumBoats$Tape" "size" "I") (List.mem_of_getElem? (i := 1) rfl)) (fun _ h9 => h9) rfl dX7_append_42 ?_
  refine lv_iconst (v := 1) hx hb dX7_append_45 (by decide +kernel) ?_
  refine lv_iadd hx hb dX7_append_46 ?_
  refine ti_eq (y := 4) (by decide +kernel) ?_
  refine va_put (D := (dC, dI)) (ci := 7) (v := .int 4) (ty := .int) (C := RX7) (T := TX7) (N := 3) hx hb hts (fun _ h => List.mem_cons_of_mem _ (List.mem_append_right _ h)) tyX7 tyX7_ok nmX7 hown hK hP hD hS 0 rfl rfl 0 (by decide) (hts (.fieldLink RX7 9 "DrumBoats$Tape" "size" "I") (List.mem_of_getElem? (i := 1) rfl)) (fun _ h9 => h9) rfl (by decide +kernel) rfl rfl (Nat.le_of_ble_eq_true rfl) dX7_append_47 (fun H locs hP hD hS => ?_)
  have hP : va_P (dC, dI) vwCl [(h0, .inr (7, [.int 4, .int 0, .ref aBy])), (aBy, .inl (caBy, 120, .inl (upd (upd (upd (upd (fun _ => 0) (0 : Int32).toNatClampNeg z3) (1 : Int32).toNatClampNeg z6) (2 : Int32).toNatClampNeg z9) (3 : Int32).toNatClampNeg z12)))] H := hP
  have hD : va_D A [(h0, .inr (7, [.int 4, .int 0, .ref aBy])), (aBy, .inl (caBy, 120, .inl (upd (upd (upd (upd (fun _ => 0) (0 : Int32).toNatClampNeg z3) (1 : Int32).toNatClampNeg z6) (2 : Int32).toNatClampNeg z9) (3 : Int32).toNatClampNeg z12)))] := hD
  refine lv_iinc (v := (-1)) (lv' := [(4, .int (-1)), (0, .ref h0), (1, .long w), (3, .int 4)]) hx hb dX7_append_50 hl (k := 0) rfl (by decide +kernel) (by decide) rfl (fun ls hl => ?_)
  refine lv_goto (tgt := 5) hx hb dX7_append_53 (by decide) ?_
  refine lv_iload hx hb dX7_append_5 (lv_at hl 0 rfl) ?_
  refine lv_if_lt (tgt := 56) hx hb dX7_append_7 (by decide) (fun _ => ?_) (fun c9 => absurd c9 (by decide +kernel))
  have hP9 := hP.sub (ws' := [(h0, .inr (7, [.int 4, .int 0, .ref aBy]))]) [0] rfl
  have hD9 := hD.sub (ws' := [(h0, .inr (7, [.int 4, .int 0, .ref aBy]))]) [0] (by decide) rfl
  have hK9 := hK.sub (tys' := []) [] rfl
  refine W.widen (k := 0) (n := 0) (Nat.le_of_ble_eq_true rfl) (Nat.le_of_ble_eq_true rfl) ?_
  exact W.vret hx hb hr (fun t ht hW => ⟨⟨(), rfl, trivial, by rw [ht]; exact hP9, va_K.moved hW.alike hK9, hD9⟩, hS.F ht⟩) hS.2.2 dX7_append_56

set_option maxHeartbeats 4000000 in
set_option maxRecDepth 100000 in
theorem k_X7_append_5 (l : Launch) (dC : Nat → ClassId) (dI : Nat → Nat → Nat) (sz : Nat) (h0 : Nat) (w : Int64) (aBy : Nat) (caBy : ClassId) : Met l yX7_append wsX7_append ({ frames := 0, cells := 0, slots := 0, locals := 0 }) (va_Pc [.ref h0, .long w, .int 5] (fun U => U.heap.size = sz ∧ va_P (dC, dI) vwCl [(h0, .inr (7, [.int 0, .int 0, .ref aBy])), (aBy, .inl (caBy, 120, .inl (fun _ => 0)))] U.heap ∧ va_K (dC, dI) vwCl [(caBy, .int)] U ∧ va_D (fun _ => True) [(h0, .inr (7, [.int 0, .int 0, .ref aBy])), (aBy, .inl (caBy, 120, .inl (fun _ => 0)))])) (va_Qv (fun _ : Unit => True) (fun _ t => va_P (dC, dI) vwCl [(h0, .inr (7, [.int 5, .int 0, .ref aBy]))] t.heap ∧ va_K (dC, dI) vwCl [] t ∧ va_D (va_A [(h0, .inr (7, [.int 0, .int 0, .ref aBy])), (aBy, .inl (caBy, 120, .inl (fun _ => 0)))] sz) [(h0, .inr (7, [.int 5, .int 0, .ref aBy]))]) (va_A [(h0, .inr (7, [.int 0, .int 0, .ref aBy])), (aBy, .inl (caBy, 120, .inl (fun _ => 0)))] sz)) 0 0 (va_A [(h0, .inr (7, [.int 0, .int 0, .ref aBy])), (aBy, .inl (caBy, 120, .inl (fun _ => 0)))] sz) := by
  refine Met.ofW (cc := cX7_append) (maxL := 5) (ret := none) (by decide) rfl ?_
  intro p e s m args below meth c s₁ B hml hv
  obtain ⟨rfl, hsz, hP, hK, hD0⟩ := hv
  have hx := B.exec
  have hb := B.bytes
  have hr := B.returns
  have hts := atoms_spec (ws := wsX7_append) B.pre
  have hown : s.vm.findClass RX7 = some m.cls := findClass_of_methodNamed B.named
  have hlocks := B.notSynchronized
  subst hsz
  have hD := hD0.self (sz := s.heap.size)
  generalize hAe : va_A [(h0, .inr (7, [.int 0, .int 0, .ref aBy])), (aBy, .inl (caBy, 120, .inl (fun _ => 0)))] s.heap.size = A at hD ⊢
  have hA : ∀ q : Nat, s.heap.size ≤ q → A q := fun q h => by rw [← hAe]; exact Or.inr h
  have hS : va_S A s.heap s.heap [] := va_S.rf
  have hl := lv_entry ([.ref h0, .long w, .int 5]) (n := 5) (Nat.le_of_ble_eq_true rfl)
  rw [lg_entry_eq]
  generalize (lg_sl ([.ref h0, .long w, .int 5]) ++ List.replicate (5 - (lg_sl ([.ref h0, .long w, .int 5])).length) Slot.unset).toArray = ls at hl ⊢
  have hl : lv_has ls 5 [(0, .ref h0), (1, .long w), (3, .int 5)] := hl
  refine lv_iload_n hx hb dX7_append_0 rfl (lv_at hl 2 rfl) ?_
  refine lv_iconst (v := 1) hx hb dX7_append_1 (by decide +kernel) ?_
  refine lv_isub hx hb dX7_append_2 ?_
  refine ti_eq (y := 4) (by decide +kernel) ?_
  refine lv_istore (lv' := [(4, .int 4), (0, .ref h0), (1, .long w), (3, .int 5)]) hx hb dX7_append_3 hl (by decide) rfl (fun ls hl => ?_)
  refine lv_iload hx hb dX7_append_5 (lv_at hl 0 rfl) ?_
  refine lv_if_lt (tgt := 56) hx hb dX7_append_7 (by decide) (fun c9 => absurd c9 (by decide +kernel)) (fun _ => ?_)
  refine lv_aload_n hx hb dX7_append_10 rfl (lv_at hl 1 rfl) ?_
  refine va_get (D := (dC, dI)) (ci := 7) (v := .int 0) (C := RX7) (T := TX7) (N := 3) hx hb hts (fun _ h => List.mem_cons_of_mem _ (List.mem_append_right _ h)) hown hK hP 0 rfl rfl 0 (by decide) (hts (.fieldLink RX7 9 "DrumBoats$Tape" "size" "I") (List.mem_of_getElem? (i := 1) rfl)) (fun _ h9 => h9) rfl dX7_append_11 ?_
  refine lv_bipush (v := 120) hx hb dX7_append_14 (by decide +kernel) ?_
  refine lv_icmp_ge (tgt := 56) hx hb dX7_append_16 (by decide) (fun c9 => absurd c9 (by decide +kernel)) (fun _ => ?_)
  refine lv_aload_n hx hb dX7_append_19 rfl (lv_at hl 1 rfl) ?_
  refine va_get (D := (dC, dI)) (ci := 7) (v := .ref aBy) (C := RX7) (T := TX7) (N := 3) hx hb hts (fun _ h => List.mem_cons_of_mem _ (List.mem_append_right _ h)) hown hK hP 0 rfl rfl 2 (by decide) (hts (.fieldLink RX7 18 "DrumBoats$Tape" "bytes" "[I") (List.mem_of_getElem? (i := 2) rfl)) (fun _ h9 => h9) rfl dX7_append_20 ?_
  refine lv_aload_n hx hb dX7_append_23 rfl (lv_at hl 1 rfl) ?_
  refine va_get (D := (dC, dI)) (ci := 7) (v := .int 0) (C := RX7) (T := TX7) (N := 3) hx hb hts (fun _ h => List.mem_cons_of_mem _ (List.mem_append_right _ h)) hown hK hP 0 rfl rfl 0 (by decide) (hts (.fieldLink RX7 9 "DrumBoats$Tape" "size" "I") (List.mem_of_getElem? (i := 1) rfl)) (fun _ h9 => h9) rfl dX7_append_24 ?_
  refine lv_lload_n hx hb dX7_append_27 rfl (lv_at hl 2 rfl) ?_
  refine lv_bipush (v := 8) hx hb dX7_append_28 (by decide +kernel) ?_
  refine lv_iload hx hb dX7_append_30 (lv_at hl 0 rfl) ?_
  refine lv_imul hx hb dX7_append_32 ?_
  refine ti_eq (y := 32) (by decide +kernel) ?_
  refine lv_lushr hx hb dX7_append_33 rfl ?_
  refine lv_topl (fun z1 _ => ?_)
  refine lv_ldc2 (v := 255) hx hb hown (hts (.constantLong RX7 22 (255)) (List.mem_of_getElem? (i := 3) rfl)) dX7_append_34 ?_
  refine lv_land hx hb dX7_append_37 ?_
  refine lv_topl (fun z2 _ => ?_)
  refine lv_l2i hx hb dX7_append_38 rfl ?_
  refine lv_topi (fun z3 _ => ?_)
  refine va_iast hx hb hK hP hD hS 1 0 rfl rfl (by unfold vp_in; decide +kernel) dX7_append_39 (fun H locs hP hD hS => ?_)
  have hP : va_P (dC, dI) vwCl [(h0, .inr (7, [.int 0, .int 0, .ref aBy])), (aBy, .inl (caBy, 120, .inl (upd (fun _ => 0) (0 : Int32).toNatClampNeg z3)))] H := hP
  have hD : va_D A [(h0, .inr (7, [.int 0, .int 0, .ref aBy])), (aBy, .inl (caBy, 120, .inl (upd (fun _ => 0) (0 : Int32).toNatClampNeg z3)))] := hD
  refine lv_aload_n hx hb dX7_append_40 rfl (lv_at hl 1 rfl) ?_
  refine lv_dup hx hb dX7_append_41 rfl ?_
  refine va_get (D := (dC, dI)) (ci := 7) (v := .int 0) (C := RX7) (T := TX7) (N := 3) hx hb hts (fun _ h => List.mem_cons_of_mem _ (List.mem_append_right _ h)) hown hK hP 0 rfl rfl 0 (by decide) (hts (.fieldLink RX7 9 "DrumBoats$Tape" "size" "I") (List.mem_of_getElem? (i := 1) rfl)) (fun _ h9 => h9) rfl dX7_append_42 ?_
  refine lv_iconst (v := 1) hx hb dX7_append_45 (by decide +kernel) ?_
  refine lv_iadd hx hb dX7_append_46 ?_
  refine ti_eq (y := 1) (by decide +kernel) ?_
  refine va_put (D := (dC, dI)) (ci := 7) (v := .int 1) (ty := .int) (C := RX7) (T := TX7) (N := 3) hx hb hts (fun _ h => List.mem_cons_of_mem _ (List.mem_append_right _ h)) tyX7 tyX7_ok nmX7 hown hK hP hD hS 0 rfl rfl 0 (by decide) (hts (.fieldLink RX7 9 "DrumBoats$Tape" "size" "I") (List.mem_of_getElem? (i := 1) rfl)) (fun _ h9 => h9) rfl (by decide +kernel) rfl rfl (Nat.le_of_ble_eq_true rfl) dX7_append_47 (fun H locs hP hD hS => ?_)
  have hP : va_P (dC, dI) vwCl [(h0, .inr (7, [.int 1, .int 0, .ref aBy])), (aBy, .inl (caBy, 120, .inl (upd (fun _ => 0) (0 : Int32).toNatClampNeg z3)))] H := hP
  have hD : va_D A [(h0, .inr (7, [.int 1, .int 0, .ref aBy])), (aBy, .inl (caBy, 120, .inl (upd (fun _ => 0) (0 : Int32).toNatClampNeg z3)))] := hD
  refine lv_iinc (v := 3) (lv' := [(4, .int 3), (0, .ref h0), (1, .long w), (3, .int 5)]) hx hb dX7_append_50 hl (k := 0) rfl (by decide +kernel) (by decide) rfl (fun ls hl => ?_)
  refine lv_goto (tgt := 5) hx hb dX7_append_53 (by decide) ?_
  refine lv_iload hx hb dX7_append_5 (lv_at hl 0 rfl) ?_
  refine lv_if_lt (tgt := 56) hx hb dX7_append_7 (by decide) (fun c9 => absurd c9 (by decide +kernel)) (fun _ => ?_)
  refine lv_aload_n hx hb dX7_append_10 rfl (lv_at hl 1 rfl) ?_
  refine va_get (D := (dC, dI)) (ci := 7) (v := .int 1) (C := RX7) (T := TX7) (N := 3) hx hb hts (fun _ h => List.mem_cons_of_mem _ (List.mem_append_right _ h)) hown hK hP 0 rfl rfl 0 (by decide) (hts (.fieldLink RX7 9 "DrumBoats$Tape" "size" "I") (List.mem_of_getElem? (i := 1) rfl)) (fun _ h9 => h9) rfl dX7_append_11 ?_
  refine lv_bipush (v := 120) hx hb dX7_append_14 (by decide +kernel) ?_
  refine lv_icmp_ge (tgt := 56) hx hb dX7_append_16 (by decide) (fun c9 => absurd c9 (by decide +kernel)) (fun _ => ?_)
  refine lv_aload_n hx hb dX7_append_19 rfl (lv_at hl 1 rfl) ?_
  refine va_get (D := (dC, dI)) (ci := 7) (v := .ref aBy) (C := RX7) (T := TX7) (N := 3) hx hb hts (fun _ h => List.mem_cons_of_mem _ (List.mem_append_right _ h)) hown hK hP 0 rfl rfl 2 (by decide) (hts (.fieldLink RX7 18 "DrumBoats$Tape" "bytes" "[I") (List.mem_of_getElem? (i := 2) rfl)) (fun _ h9 => h9) rfl dX7_append_20 ?_
  refine lv_aload_n hx hb dX7_append_23 rfl (lv_at hl 1 rfl) ?_
  refine va_get (D := (dC, dI)) (ci := 7) (v := .int 1) (C := RX7) (T := TX7) (N := 3) hx hb hts (fun _ h => List.mem_cons_of_mem _ (List.mem_append_right _ h)) hown hK hP 0 rfl rfl 0 (by decide) (hts (.fieldLink RX7 9 "DrumBoats$Tape" "size" "I") (List.mem_of_getElem? (i := 1) rfl)) (fun _ h9 => h9) rfl dX7_append_24 ?_
  refine lv_lload_n hx hb dX7_append_27 rfl (lv_at hl 2 rfl) ?_
  refine lv_bipush (v := 8) hx hb dX7_append_28 (by decide +kernel) ?_
  refine lv_iload hx hb dX7_append_30 (lv_at hl 0 rfl) ?_
  refine lv_imul hx hb dX7_append_32 ?_
  refine ti_eq (y := 24) (by decide +kernel) ?_
  refine lv_lushr hx hb dX7_append_33 rfl ?_
  refine lv_topl (fun z4 _ => ?_)
  refine lv_ldc2 (v := 255) hx hb hown (hts (.constantLong RX7 22 (255)) (List.mem_of_getElem? (i := 3) rfl)) dX7_append_34 ?_
  refine lv_land hx hb dX7_append_37 ?_
  refine lv_topl (fun z5 _ => ?_)
  refine lv_l2i hx hb dX7_append_38 rfl ?_
  refine lv_topi (fun z6 _ => ?_)
  refine va_iast hx hb hK hP hD hS 1 0 rfl rfl (by unfold vp_in; decide +kernel) dX7_append_39 (fun H locs hP hD hS => ?_)
  have hP : va_P (dC, dI) vwCl [(h0, .inr (7, [.int 1, .int 0, .ref aBy])), (aBy, .inl (caBy, 120, .inl (upd (upd (fun _ => 0) (0 : Int32).toNatClampNeg z3) (1 : Int32).toNatClampNeg z6)))] H := hP
  have hD : va_D A [(h0, .inr (7, [.int 1, .int 0, .ref aBy])), (aBy, .inl (caBy, 120, .inl (upd (upd (fun _ => 0) (0 : Int32).toNatClampNeg z3) (1 : Int32).toNatClampNeg z6)))] := hD
  refine lv_aload_n hx hb dX7_append_40 rfl (lv_at hl 1 rfl) ?_
  refine lv_dup hx hb dX7_append_41 rfl ?_
  refine va_get (D := (dC, dI)) (ci := 7) (v := .int 1) (C := RX7) (T := TX7) (N := 3) hx hb hts (fun _ h => List.mem_cons_of_mem _ (List.mem_append_right _ h)) hown hK hP 0 rfl rfl 0 (by decide) (hts (.fieldLink RX7 9 "DrumBoats$Tape" "size" "I") (List.mem_of_getElem? (i := 1) rfl)) (fun _ h9 => h9) rfl dX7_append_42 ?_
  refine lv_iconst (v := 1) hx hb dX7_append_45 (by decide +kernel) ?_
  refine lv_iadd hx hb dX7_append_46 ?_
  refine ti_eq (y := 2) (by decide +kernel) ?_
  refine va_put (D := (dC, dI)) (ci := 7) (v := .int 2) (ty := .int) (C := RX7) (T := TX7) (N := 3) hx hb hts (fun _ h => List.mem_cons_of_mem _ (List.mem_append_right _ h)) tyX7 tyX7_ok nmX7 hown hK hP hD hS 0 rfl rfl 0 (by decide) (hts (.fieldLink RX7 9 "DrumBoats$Tape" "size" "I") (List.mem_of_getElem? (i := 1) rfl)) (fun _ h9 => h9) rfl (by decide +kernel) rfl rfl (Nat.le_of_ble_eq_true rfl) dX7_append_47 (fun H locs hP hD hS => ?_)
  have hP : va_P (dC, dI) vwCl [(h0, .inr (7, [.int 2, .int 0, .ref aBy])), (aBy, .inl (caBy, 120, .inl (upd (upd (fun _ => 0) (0 : Int32).toNatClampNeg z3) (1 : Int32).toNatClampNeg z6)))] H := hP
  have hD : va_D A [(h0, .inr (7, [.int 2, .int 0, .ref aBy])), (aBy, .inl (caBy, 120, .inl (upd (upd (fun _ => 0) (0 : Int32).toNatClampNeg z3) (1 : Int32).toNatClampNeg z6)))] := hD
  refine lv_iinc (v := 2) (lv' := [(4, .int 2), (0, .ref h0), (1, .long w), (3, .int 5)]) hx hb dX7_append_50 hl (k := 0) rfl (by decide +kernel) (by decide) rfl (fun ls hl => ?_)
  refine lv_goto (tgt := 5) hx hb dX7_append_53 (by decide) ?_
  refine lv_iload hx hb dX7_append_5 (lv_at hl 0 rfl) ?_
  refine lv_if_lt (tgt := 56) hx hb dX7_append_7 (by decide) (fun c9 => absurd c9 (by decide +kernel)) (fun _ => ?_)
  refine lv_aload_n hx hb dX7_append_10 rfl (lv_at hl 1 rfl) ?_
  refine va_get (D := (dC, dI)) (ci := 7) (v := .int 2) (C := RX7) (T := TX7) (N := 3) hx hb hts (fun _ h => List.mem_cons_of_mem _ (List.mem_append_right _ h)) hown hK hP 0 rfl rfl 0 (by decide) (hts (.fieldLink RX7 9 "DrumBoats$Tape" "size" "I") (List.mem_of_getElem? (i := 1) rfl)) (fun _ h9 => h9) rfl dX7_append_11 ?_
  refine lv_bipush (v := 120) hx hb dX7_append_14 (by decide +kernel) ?_
  refine lv_icmp_ge (tgt := 56) hx hb dX7_append_16 (by decide) (fun c9 => absurd c9 (by decide +kernel)) (fun _ => ?_)
  refine lv_aload_n hx hb dX7_append_19 rfl (lv_at hl 1 rfl) ?_
  refine va_get (D := (dC, dI)) (ci := 7) (v := .ref aBy) (C := RX7) (T := TX7) (N := 3) hx hb hts (fun _ h => List.mem_cons_of_mem _ (List.mem_append_right _ h)) hown hK hP 0 rfl rfl 2 (by decide) (hts (.fieldLink RX7 18 "DrumBoats$Tape" "bytes" "[I") (List.mem_of_getElem? (i := 2) rfl)) (fun _ h9 => h9) rfl dX7_append_20 ?_
  refine lv_aload_n hx hb dX7_append_23 rfl (lv_at hl 1 rfl) ?_
  refine va_get (D := (dC, dI)) (ci := 7) (v := .int 2) (C := RX7) (T := TX7) (N := 3) hx hb hts (fun _ h => List.mem_cons_of_mem _ (List.mem_append_right _ h)) hown hK hP 0 rfl rfl 0 (by decide) (hts (.fieldLink RX7 9 "DrumBoats$Tape" "size" "I") (List.mem_of_getElem? (i := 1) rfl)) (fun _ h9 => h9) rfl dX7_append_24 ?_
  refine lv_lload_n hx hb dX7_append_27 rfl (lv_at hl 2 rfl) ?_
  refine lv_bipush (v := 8) hx hb dX7_append_28 (by decide +kernel) ?_
  refine lv_iload hx hb dX7_append_30 (lv_at hl 0 rfl) ?_
  refine lv_imul hx hb dX7_append_32 ?_
  refine ti_eq (y := 16) (by decide +kernel) ?_
  refine lv_lushr hx hb dX7_append_33 rfl ?_
  refine lv_topl (fun z7 _ => ?_)
  refine lv_ldc2 (v := 255) hx hb hown (hts (.constantLong RX7 22 (255)) (List.mem_of_getElem? (i := 3) rfl)) dX7_append_34 ?_
  refine lv_land hx hb dX7_append_37 ?_
  refine lv_topl (fun z8 _ => ?_)
  refine lv_l2i hx hb dX7_append_38 rfl ?_
  refine lv_topi (fun z9 _ => ?_)
  refine va_iast hx hb hK hP hD hS 1 0 rfl rfl (by unfold vp_in; decide +kernel) dX7_append_39 (fun H locs hP hD hS => ?_)
  have hP : va_P (dC, dI) vwCl [(h0, .inr (7, [.int 2, .int 0, .ref aBy])), (aBy, .inl (caBy, 120, .inl (upd (upd (upd (fun _ => 0) (0 : Int32).toNatClampNeg z3) (1 : Int32).toNatClampNeg z6) (2 : Int32).toNatClampNeg z9)))] H := hP
  have hD : va_D A [(h0, .inr (7, [.int 2, .int 0, .ref aBy])), (aBy, .inl (caBy, 120, .inl (upd (upd (upd (fun _ => 0) (0 : Int32).toNatClampNeg z3) (1 : Int32).toNatClampNeg z6) (2 : Int32).toNatClampNeg z9)))] := hD
  refine lv_aload_n hx hb dX7_append_40 rfl (lv_at hl 1 rfl) ?_
  refine lv_dup hx hb dX7_append_41 rfl ?_
  refine va_get (D := (dC, dI)) (ci := 7) (v := .int 2) (C := RX7) (T := TX7) (N := 3) hx hb hts (fun _ h => List.mem_cons_of_mem _ (List.mem_append_right _ h)) hown hK hP 0 rfl rfl 0 (by decide) (hts (.fieldLink RX7 9 "DrumBoats$Tape" "size" "I") (List.mem_of_getElem? (i := 1) rfl)) (fun _ h9 => h9) rfl dX7_append_42 ?_
  refine lv_iconst (v := 1) hx hb dX7_append_45 (by decide +kernel) ?_
  refine lv_iadd hx hb dX7_append_46 ?_
  refine ti_eq (y := 3) (by decide +kernel) ?_
  refine va_put (D := (dC, dI)) (ci := 7) (v := .int 3) (ty := .int) (C := RX7) (T := TX7) (N := 3) hx hb hts (fun _ h => List.mem_cons_of_mem _ (List.mem_append_right _ h)) tyX7 tyX7_ok nmX7 hown hK hP hD hS 0 rfl rfl 0 (by decide) (hts (.fieldLink RX7 9 "DrumBoats$Tape" "size" "I") (List.mem_of_getElem? (i := 1) rfl)) (fun _ h9 => h9) rfl (by decide +kernel) rfl rfl (Nat.le_of_ble_eq_true rfl) dX7_append_47 (fun H locs hP hD hS => ?_)
  have hP : va_P (dC, dI) vwCl [(h0, .inr (7, [.int 3, .int 0, .ref aBy])), (aBy, .inl (caBy, 120, .inl (upd (upd (upd (fun _ => 0) (0 : Int32).toNatClampNeg z3) (1 : Int32).toNatClampNeg z6) (2 : Int32).toNatClampNeg z9)))] H := hP
  have hD : va_D A [(h0, .inr (7, [.int 3, .int 0, .ref aBy])), (aBy, .inl (caBy, 120, .inl (upd (upd (upd (fun _ => 0) (0 : Int32).toNatClampNeg z3) (1 : Int32).toNatClampNeg z6) (2 : Int32).toNatClampNeg z9)))] := hD
  refine lv_iinc (v := 1) (lv' := [(4, .int 1), (0, .ref h0), (1, .long w), (3, .int 5)]) hx hb dX7_append_50 hl (k := 0) rfl (by decide +kernel) (by decide) rfl (fun ls hl => ?_)
  refine lv_goto (tgt := 5) hx hb dX7_append_53 (by decide) ?_
  refine lv_iload hx hb dX7_append_5 (lv_at hl 0 rfl) ?_
  refine lv_if_lt (tgt := 56) hx hb dX7_append_7 (by decide) (fun c9 => absurd c9 (by decide +kernel)) (fun _ => ?_)
  refine lv_aload_n hx hb dX7_append_10 rfl (lv_at hl 1 rfl) ?_
  refine va_get (D := (dC, dI)) (ci := 7) (v := .int 3) (C := RX7) (T := TX7) (N := 3) hx hb hts (fun _ h => List.mem_cons_of_mem _ (List.mem_append_right _ h)) hown hK hP 0 rfl rfl 0 (by decide) (hts (.fieldLink RX7 9 "DrumBoats$Tape" "size" "I") (List.mem_of_getElem? (i := 1) rfl)) (fun _ h9 => h9) rfl dX7_append_11 ?_
  refine lv_bipush (v := 120) hx hb dX7_append_14 (by decide +kernel) ?_
  refine lv_icmp_ge (tgt := 56) hx hb dX7_append_16 (by decide) (fun c9 => absurd c9 (by decide +kernel)) (fun _ => ?_)
  refine lv_aload_n hx hb dX7_append_19 rfl (lv_at hl 1 rfl) ?_
  refine va_get (D := (dC, dI)) (ci := 7) (v := .ref aBy) (C := RX7) (T := TX7) (N := 3) hx hb hts (fun _ h => List.mem_cons_of_mem _ (List.mem_append_right _ h)) hown hK hP 0 rfl rfl 2 (by decide) (hts (.fieldLink RX7 18 "DrumBoats$Tape" "bytes" "[I") (List.mem_of_getElem? (i := 2) rfl)) (fun _ h9 => h9) rfl dX7_append_20 ?_
  refine lv_aload_n hx hb dX7_append_23 rfl (lv_at hl 1 rfl) ?_
  refine va_get (D := (dC, dI)) (ci := 7) (v := .int 3) (C := RX7) (T := TX7) (N := 3) hx hb hts (fun _ h => List.mem_cons_of_mem _ (List.mem_append_right _ h)) hown hK hP 0 rfl rfl 0 (by decide) (hts (.fieldLink RX7 9 "DrumBoats$Tape" "size" "I") (List.mem_of_getElem? (i := 1) rfl)) (fun _ h9 => h9) rfl dX7_append_24 ?_
  refine lv_lload_n hx hb dX7_append_27 rfl (lv_at hl 2 rfl) ?_
  refine lv_bipush (v := 8) hx hb dX7_append_28 (by decide +kernel) ?_
  refine lv_iload hx hb dX7_append_30 (lv_at hl 0 rfl) ?_
  refine lv_imul hx hb dX7_append_32 ?_
  refine ti_eq (y := 8) (by decide +kernel) ?_
  refine lv_lushr hx hb dX7_append_33 rfl ?_
  refine lv_topl (fun z10 _ => ?_)
  refine lv_ldc2 (v := 255) hx hb hown (hts (.constantLong RX7 22 (255)) (List.mem_of_getElem? (i := 3) rfl)) dX7_append_34 ?_
  refine lv_land hx hb dX7_append_37 ?_
  refine lv_topl (fun z11 _ => ?_)
  refine lv_l2i hx hb dX7_append_38 rfl ?_
  refine lv_topi (fun z12 _ => ?_)
  refine va_iast hx hb hK hP hD hS 1 0 rfl rfl (by unfold vp_in; decide +kernel) dX7_append_39 (fun H locs hP hD hS => ?_)
  have hP : va_P (dC, dI) vwCl [(h0, .inr (7, [.int 3, .int 0, .ref aBy])), (aBy, .inl (caBy, 120, .inl (upd (upd (upd (upd (fun _ => 0) (0 : Int32).toNatClampNeg z3) (1 : Int32).toNatClampNeg z6) (2 : Int32).toNatClampNeg z9) (3 : Int32).toNatClampNeg z12)))] H := hP
  have hD : va_D A [(h0, .inr (7, [.int 3, .int 0, .ref aBy])), (aBy, .inl (caBy, 120, .inl (upd (upd (upd (upd (fun _ => 0) (0 : Int32).toNatClampNeg z3) (1 : Int32).toNatClampNeg z6) (2 : Int32).toNatClampNeg z9) (3 : Int32).toNatClampNeg z12)))] := hD
  refine lv_aload_n hx hb dX7_append_40 rfl (lv_at hl 1 rfl) ?_
  refine lv_dup hx hb dX7_append_41 rfl ?_
  refine va_get (D := (dC, dI)) (ci := 7) (v := .int 3) (C := RX7) (T := TX7) (N := 3) hx hb hts (fun _ h => List.mem_cons_of_mem _ (List.mem_append_right _ h)) hown hK hP 0 rfl rfl 0 (by decide) (hts (.fieldLink RX7 9 "DrumBoats$Tape" "size" "I") (List.mem_of_getElem? (i := 1) rfl)) (fun _ h9 => h9) rfl dX7_append_42 ?_
  refine lv_iconst (v := 1) hx hb dX7_append_45 (by decide +kernel) ?_
  refine lv_iadd hx hb dX7_append_46 ?_
  refine ti_eq (y := 4) (by decide +kernel) ?_
  refine va_put (D := (dC, dI)) (ci := 7) (v := .int 4) (ty := .int) (C := RX7) (T := TX7) (N := 3) hx hb hts (fun _ h => List.mem_cons_of_mem _ (List.mem_append_right _ h)) tyX7 tyX7_ok nmX7 hown hK hP hD hS 0 rfl rfl 0 (by decide) (hts (.fieldLink RX7 9 "DrumBoats$Tape" "size" "I") (List.mem_of_getElem? (i := 1) rfl)) (fun _ h9 => h9) rfl (by decide +kernel) rfl rfl (Nat.le_of_ble_eq_true rfl) dX7_append_47 (fun H locs hP hD hS => ?_)
  have hP : va_P (dC, dI) vwCl [(h0, .inr (7, [.int 4, .int 0, .ref aBy])), (aBy, .inl (caBy, 120, .inl (upd (upd (upd (upd (fun _ => 0) (0 : Int32).toNatClampNeg z3) (1 : Int32).toNatClampNeg z6) (2 : Int32).toNatClampNeg z9) (3 : Int32).toNatClampNeg z12)))] H := hP
  have hD : va_D A [(h0, .inr (7, [.int 4, .int 0, .ref aBy])), (aBy, .inl (caBy, 120, .inl (upd (upd (upd (upd (fun _ => 0) (0 : Int32).toNatClampNeg z3) (1 : Int32).toNatClampNeg z6) (2 : Int32).toNatClampNeg z9) (3 : Int32).toNatClampNeg z12)))] := hD
  refine lv_iinc (v := 0) (lv' := [(4, .int 0), (0, .ref h0), (1, .long w), (3, .int 5)]) hx hb dX7_append_50 hl (k := 0) rfl (by decide +kernel) (by decide) rfl (fun ls hl => ?_)
  refine lv_goto (tgt := 5) hx hb dX7_append_53 (by decide) ?_
  refine lv_iload hx hb dX7_append_5 (lv_at hl 0 rfl) ?_
  refine lv_if_lt (tgt := 56) hx hb dX7_append_7 (by decide) (fun c9 => absurd c9 (by decide +kernel)) (fun _ => ?_)
  refine lv_aload_n hx hb dX7_append_10 rfl (lv_at hl 1 rfl) ?_
  refine va_get (D := (dC, dI)) (ci := 7) (v := .int 4) (C := RX7) (T := TX7) (N := 3) hx hb hts (fun _ h => List.mem_cons_of_mem _ (List.mem_append_right _ h)) hown hK hP 0 rfl rfl 0 (by decide) (hts (.fieldLink RX7 9 "DrumBoats$Tape" "size" "I") (List.mem_of_getElem? (i := 1) rfl)) (fun _ h9 => h9) rfl dX7_append_11 ?_
  refine lv_bipush (v := 120) hx hb dX7_append_14 (by decide +kernel) ?_
  refine lv_icmp_ge (tgt := 56) hx hb dX7_append_16 (by decide) (fun c9 => absurd c9 (by decide +kernel)) (fun _ => ?_)
  refine lv_aload_n hx hb dX7_append_19 rfl (lv_at hl 1 rfl) ?_
  refine va_get (D := (dC, dI)) (ci := 7) (v := .ref aBy) (C := RX7) (T := TX7) (N := 3) hx hb hts (fun _ h => List.mem_cons_of_mem _ (List.mem_append_right _ h)) hown hK hP 0 rfl rfl 2 (by decide) (hts (.fieldLink RX7 18 "DrumBoats$Tape" "bytes" "[I") (List.mem_of_getElem? (i := 2) rfl)) (fun _ h9 => h9) rfl dX7_append_20 ?_
  refine lv_aload_n hx hb dX7_append_23 rfl (lv_at hl 1 rfl) ?_
  refine va_get (D := (dC, dI)) (ci := 7) (v := .int 4) (C := RX7) (T := TX7) (N := 3) hx hb hts (fun _ h => List.mem_cons_of_mem _ (List.mem_append_right _ h)) hown hK hP 0 rfl rfl 0 (by decide) (hts (.fieldLink RX7 9 "DrumBoats$Tape" "size" "I") (List.mem_of_getElem? (i := 1) rfl)) (fun _ h9 => h9) rfl dX7_append_24 ?_
  refine lv_lload_n hx hb dX7_append_27 rfl (lv_at hl 2 rfl) ?_
  refine lv_bipush (v := 8) hx hb dX7_append_28 (by decide +kernel) ?_
  refine lv_iload hx hb dX7_append_30 (lv_at hl 0 rfl) ?_
  refine lv_imul hx hb dX7_append_32 ?_
  refine ti_eq (y := 0) (by decide +kernel) ?_
  refine lv_lushr hx hb dX7_append_33 rfl ?_
  refine lv_topl (fun z13 _ => ?_)
  refine lv_ldc2 (v := 255) hx hb hown (hts (.constantLong RX7 22 (255)) (List.mem_of_getElem? (i := 3) rfl)) dX7_append_34 ?_
  refine lv_land hx hb dX7_append_37 ?_
  refine lv_topl (fun z14 _ => ?_)
  refine lv_l2i hx hb dX7_append_38 rfl ?_
  refine lv_topi (fun z15 _ => ?_)
  refine va_iast hx hb hK hP hD hS 1 0 rfl rfl (by unfold vp_in; decide +kernel) dX7_append_39 (fun H locs hP hD hS => ?_)
  have hP : va_P (dC, dI) vwCl [(h0, .inr (7, [.int 4, .int 0, .ref aBy])), (aBy, .inl (caBy, 120, .inl (upd (upd (upd (upd (upd (fun _ => 0) (0 : Int32).toNatClampNeg z3) (1 : Int32).toNatClampNeg z6) (2 : Int32).toNatClampNeg z9) (3 : Int32).toNatClampNeg z12) (4 : Int32).toNatClampNeg z15)))] H := hP
  have hD : va_D A [(h0, .inr (7, [.int 4, .int 0, .ref aBy])), (aBy, .inl (caBy, 120, .inl (upd (upd (upd (upd (upd (fun _ => 0) (0 : Int32).toNatClampNeg z3) (1 : Int32).toNatClampNeg z6) (2 : Int32).toNatClampNeg z9) (3 : Int32).toNatClampNeg z12) (4 : Int32).toNatClampNeg z15)))] := hD
  refine lv_aload_n hx hb dX7_append_40 rfl (lv_at hl 1 rfl) ?_
  refine lv_dup hx hb dX7_append_41 rfl ?_
  refine va_get (D := (dC, dI)) (ci := 7) (v := .int 4) (C := RX7) (T := TX7) (N := 3) hx hb hts (fun _ h => List.mem_cons_of_mem _ (List.mem_append_right _ h)) hown hK hP 0 rfl rfl 0 (by decide) (hts (.fieldLink RX7 9 "DrumBoats$Tape" "size" "I") (List.mem_of_getElem? (i := 1) rfl)) (fun _ h9 => h9) rfl dX7_append_42 ?_
  refine lv_iconst (v := 1) hx hb dX7_append_45 (by decide +kernel) ?_
  refine lv_iadd hx hb dX7_append_46 ?_
  refine ti_eq (y := 5) (by decide +kernel) ?_
  refine va_put (D := (dC, dI)) (ci := 7) (v := .int 5) (ty := .int) (C := RX7) (T := TX7) (N := 3) hx hb hts (fun _ h => List.mem_cons_of_mem _ (List.mem_append_right _ h)) tyX7 tyX7_ok nmX7 hown hK hP hD hS 0 rfl rfl 0 (by decide) (hts (.fieldLink RX7 9 "DrumBoats$Tape" "size" "I") (List.mem_of_getElem? (i := 1) rfl)) (fun _ h9 => h9) rfl (by decide +kernel) rfl rfl (Nat.le_of_ble_eq_true rfl) dX7_append_47 (fun H locs hP hD hS => ?_)
  have hP : va_P (dC, dI) vwCl [(h0, .inr (7, [.int 5, .int 0, .ref aBy])), (aBy, .inl (caBy, 120, .inl (upd (upd (upd (upd (upd (fun _ => 0) (0 : Int32).toNatClampNeg z3) (1 : Int32).toNatClampNeg z6) (2 : Int32).toNatClampNeg z9) (3 : Int32).toNatClampNeg z12) (4 : Int32).toNatClampNeg z15)))] H := hP
  have hD : va_D A [(h0, .inr (7, [.int 5, .int 0, .ref aBy])), (aBy, .inl (caBy, 120, .inl (upd (upd (upd (upd (upd (fun _ => 0) (0 : Int32).toNatClampNeg z3) (1 : Int32).toNatClampNeg z6) (2 : Int32).toNatClampNeg z9) (3 : Int32).toNatClampNeg z12) (4 : Int32).toNatClampNeg z15)))] := hD
  refine lv_iinc (v := (-1)) (lv' := [(4, .int (-1)), (0, .ref h0), (1, .long w), (3, .int 5)]) hx hb dX7_append_50 hl (k := 0) rfl (by decide +kernel) (by decide) rfl (fun ls hl => ?_)
  refine lv_goto (tgt := 5) hx hb dX7_append_53 (by decide) ?_
  refine lv_iload hx hb dX7_append_5 (lv_at hl 0 rfl) ?_
  refine lv_if_lt (tgt := 56) hx hb dX7_append_7 (by decide) (fun _ => ?_) (fun c9 => absurd c9 (by decide +kernel))
  have hP9 := hP.sub (ws' := [(h0, .inr (7, [.int 5, .int 0, .ref aBy]))]) [0] rfl
  have hD9 := hD.sub (ws' := [(h0, .inr (7, [.int 5, .int 0, .ref aBy]))]) [0] (by decide) rfl
  have hK9 := hK.sub (tys' := []) [] rfl
  refine W.widen (k := 0) (n := 0) (Nat.le_of_ble_eq_true rfl) (Nat.le_of_ble_eq_true rfl) ?_
  exact W.vret hx hb hr (fun t ht hW => ⟨⟨(), rfl, trivial, by rw [ht]; exact hP9, va_K.moved hW.alike hK9, hD9⟩, hS.F ht⟩) hS.2.2 dX7_append_56

set_option maxHeartbeats 4000000 in
set_option maxRecDepth 100000 in
theorem k_X7_append_6 (l : Launch) (dC : Nat → ClassId) (dI : Nat → Nat → Nat) (sz : Nat) (h0 : Nat) (w : Int64) (aBy : Nat) (caBy : ClassId) : Met l yX7_append wsX7_append ({ frames := 0, cells := 0, slots := 0, locals := 0 }) (va_Pc [.ref h0, .long w, .int 6] (fun U => U.heap.size = sz ∧ va_P (dC, dI) vwCl [(h0, .inr (7, [.int 0, .int 0, .ref aBy])), (aBy, .inl (caBy, 120, .inl (fun _ => 0)))] U.heap ∧ va_K (dC, dI) vwCl [(caBy, .int)] U ∧ va_D (fun _ => True) [(h0, .inr (7, [.int 0, .int 0, .ref aBy])), (aBy, .inl (caBy, 120, .inl (fun _ => 0)))])) (va_Qv (fun _ : Unit => True) (fun _ t => va_P (dC, dI) vwCl [(h0, .inr (7, [.int 6, .int 0, .ref aBy]))] t.heap ∧ va_K (dC, dI) vwCl [] t ∧ va_D (va_A [(h0, .inr (7, [.int 0, .int 0, .ref aBy])), (aBy, .inl (caBy, 120, .inl (fun _ => 0)))] sz) [(h0, .inr (7, [.int 6, .int 0, .ref aBy]))]) (va_A [(h0, .inr (7, [.int 0, .int 0, .ref aBy])), (aBy, .inl (caBy, 120, .inl (fun _ => 0)))] sz)) 0 0 (va_A [(h0, .inr (7, [.int 0, .int 0, .ref aBy])), (aBy, .inl (caBy, 120, .inl (fun _ => 0)))] sz) := by
  refine Met.ofW (cc := cX7_append) (maxL := 5) (ret := none) (by decide) rfl ?_
  intro p e s m args below meth c s₁ B hml hv
  obtain ⟨rfl, hsz, hP, hK, hD0⟩ := hv
  have hx := B.exec
  have hb := B.bytes
  have hr := B.returns
  have hts := atoms_spec (ws := wsX7_append) B.pre
  have hown : s.vm.findClass RX7 = some m.cls := findClass_of_methodNamed B.named
  have hlocks := B.notSynchronized
  subst hsz
  have hD := hD0.self (sz := s.heap.size)
  generalize hAe : va_A [(h0, .inr (7, [.int 0, .int 0, .ref aBy])), (aBy, .inl (caBy, 120, .inl (fun _ => 0)))] s.heap.size = A at hD ⊢
  have hA : ∀ q : Nat, s.heap.size ≤ q → A q := fun q h => by rw [← hAe]; exact Or.inr h
  have hS : va_S A s.heap s.heap [] := va_S.rf
  have hl := lv_entry ([.ref h0, .long w, .int 6]) (n := 5) (Nat.le_of_ble_eq_true rfl)
  rw [lg_entry_eq]
  generalize (lg_sl ([.ref h0, .long w, .int 6]) ++ List.replicate (5 - (lg_sl ([.ref h0, .long w, .int 6])).length) Slot.unset).toArray = ls at hl ⊢
  have hl : lv_has ls 5 [(0, .ref h0), (1, .long w), (3, .int 6)] := hl
  refine lv_iload_n hx hb dX7_append_0 rfl (lv_at hl 2 rfl) ?_
  refine lv_iconst (v := 1) hx hb dX7_append_1 (by decide +kernel) ?_
  refine lv_isub hx hb dX7_append_2 ?_
  refine ti_eq (y := 5) (by decide +kernel) ?_
  refine lv_istore (lv' := [(4, .int 5), (0, .ref h0), (1, .long w), (3, .int 6)]) hx hb dX7_append_3 hl (by decide) rfl (fun ls hl => ?_)
  refine lv_iload hx hb dX7_append_5 (lv_at hl 0 rfl) ?_
  refine lv_if_lt (tgt := 56) hx hb dX7_append_7 (by decide) (fun c9 => absurd c9 (by decide +kernel)) (fun _ => ?_)
  refine lv_aload_n hx hb dX7_append_10 rfl (lv_at hl 1 rfl) ?_
  refine va_get (D := (dC, dI)) (ci := 7) (v := .int 0) (C := RX7) (T := TX7) (N := 3) hx hb hts (fun _ h => List.mem_cons_of_mem _ (List.mem_append_right _ h)) hown hK hP 0 rfl rfl 0 (by decide) (hts (.fieldLink RX7 9 "DrumBoats$Tape" "size" "I") (List.mem_of_getElem? (i := 1) rfl)) (fun _ h9 => h9) rfl dX7_append_11 ?_
  refine lv_bipush (v := 120) hx hb dX7_append_14 (by decide +kernel) ?_
  refine lv_icmp_ge (tgt := 56) hx hb dX7_append_16 (by decide) (fun c9 => absurd c9 (by decide +kernel)) (fun _ => ?_)
  refine lv_aload_n hx hb dX7_append_19 rfl (lv_at hl 1 rfl) ?_
  refine va_get (D := (dC, dI)) (ci := 7) (v := .ref aBy) (C := RX7) (T := TX7) (N := 3) hx hb hts (fun _ h => List.mem_cons_of_mem _ (List.mem_append_right _ h)) hown hK hP 0 rfl rfl 2 (by decide) (hts (.fieldLink RX7 18 "DrumBoats$Tape" "bytes" "[I") (List.mem_of_getElem? (i := 2) rfl)) (fun _ h9 => h9) rfl dX7_append_20 ?_
  refine lv_aload_n hx hb dX7_append_23 rfl (lv_at hl 1 rfl) ?_
  refine va_get (D := (dC, dI)) (ci := 7) (v := .int 0) (C := RX7) (T := TX7) (N := 3) hx hb hts (fun _ h => List.mem_cons_of_mem _ (List.mem_append_right _ h)) hown hK hP 0 rfl rfl 0 (by decide) (hts (.fieldLink RX7 9 "DrumBoats$Tape" "size" "I") (List.mem_of_getElem? (i := 1) rfl)) (fun _ h9 => h9) rfl dX7_append_24 ?_
  refine lv_lload_n hx hb dX7_append_27 rfl (lv_at hl 2 rfl) ?_
  refine lv_bipush (v := 8) hx hb dX7_append_28 (by decide +kernel) ?_
  refine lv_iload hx hb dX7_append_30 (lv_at hl 0 rfl) ?_
  refine lv_imul hx hb dX7_append_32 ?_
  refine ti_eq (y := 40) (by decide +kernel) ?_
  refine lv_lushr hx hb dX7_append_33 rfl ?_
  refine lv_topl (fun z1 _ => ?_)
  refine lv_ldc2 (v := 255) hx hb hown (hts (.constantLong RX7 22 (255)) (List.mem_of_getElem? (i := 3) rfl)) dX7_append_34 ?_
  refine lv_land hx hb dX7_append_37 ?_
  refine lv_topl (fun z2 _ => ?_)
  refine lv_l2i hx hb dX7_append_38 rfl ?_
  refine lv_topi (fun z3 _ => ?_)
  refine va_iast hx hb hK hP hD hS 1 0 rfl rfl (by unfold vp_in; decide +kernel) dX7_append_39 (fun H locs hP hD hS => ?_)
  have hP : va_P (dC, dI) vwCl [(h0, .inr (7, [.int 0, .int 0, .ref aBy])), (aBy, .inl (caBy, 120, .inl (upd (fun _ => 0) (0 : Int32).toNatClampNeg z3)))] H := hP
  have hD : va_D A [(h0, .inr (7, [.int 0, .int 0, .ref aBy])), (aBy, .inl (caBy, 120, .inl (upd (fun _ => 0) (0 : Int32).toNatClampNeg z3)))] := hD
  refine lv_aload_n hx hb dX7_append_40 rfl (lv_at hl 1 rfl) ?_
  refine lv_dup hx hb dX7_append_41 rfl ?_
  refine va_get (D := (dC, dI)) (ci := 7) (v := .int 0) (C := RX7) (T := TX7) (N := 3) hx hb hts (fun _ h => List.mem_cons_of_mem _ (List.mem_append_right _ h)) hown hK hP 0 rfl rfl 0 (by decide) (hts (.fieldLink RX7 9 "DrumBoats$Tape" "size" "I") (List.mem_of_getElem? (i := 1) rfl)) (fun _ h9 => h9) rfl dX7_append_42 ?_
  refine lv_iconst (v := 1) hx hb dX7_append_45 (by decide +kernel) ?_
  refine lv_iadd hx hb dX7_append_46 ?_
  refine ti_eq (y := 1) (by decide +kernel) ?_
  refine va_put (D := (dC, dI)) (ci := 7) (v := .int 1) (ty := .int) (C := RX7) (T := TX7) (N := 3) hx hb hts (fun _ h => List.mem_cons_of_mem _ (List.mem_append_right _ h)) tyX7 tyX7_ok nmX7 hown hK hP hD hS 0 rfl rfl 0 (by decide) (hts (.fieldLink RX7 9 "DrumBoats$Tape" "size" "I") (List.mem_of_getElem? (i := 1) rfl)) (fun _ h9 => h9) rfl (by decide +kernel) rfl rfl (Nat.le_of_ble_eq_true rfl) dX7_append_47 (fun H locs hP hD hS => ?_)
  have hP : va_P (dC, dI) vwCl [(h0, .inr (7, [.int 1, .int 0, .ref aBy])), (aBy, .inl (caBy, 120, .inl (upd (fun _ => 0) (0 : Int32).toNatClampNeg z3)))] H := hP
  have hD : va_D A [(h0, .inr (7, [.int 1, .int 0, .ref aBy])), (aBy, .inl (caBy, 120, .inl (upd (fun _ => 0) (0 : Int32).toNatClampNeg z3)))] := hD
  refine lv_iinc (v := 4) (lv' := [(4, .int 4), (0, .ref h0), (1, .long w), (3, .int 6)]) hx hb dX7_append_50 hl (k := 0) rfl (by decide +kernel) (by decide) rfl (fun ls hl => ?_)
  refine lv_goto (tgt := 5) hx hb dX7_append_53 (by decide) ?_
  refine lv_iload hx hb dX7_append_5 (lv_at hl 0 rfl) ?_
  refine lv_if_lt (tgt := 56) hx hb dX7_append_7 (by decide) (fun c9 => absurd c9 (by decide +kernel)) (fun _ => ?_)
  refine lv_aload_n hx hb dX7_append_10 rfl (lv_at hl 1 rfl) ?_
  refine va_get (D := (dC, dI)) (ci := 7) (v := .int 1) (C := RX7) (T := TX7) (N := 3) hx hb hts (fun _ h => List.mem_cons_of_mem _ (List.mem_append_right _ h)) hown hK hP 0 rfl rfl 0 (by decide) (hts (.fieldLink RX7 9 "DrumBoats$Tape" "size" "I") (List.mem_of_getElem? (i := 1) rfl)) (fun _ h9 => h9) rfl dX7_append_11 ?_
  refine lv_bipush (v := 120) hx hb dX7_append_14 (by decide +kernel) ?_
  refine lv_icmp_ge (tgt := 56) hx hb dX7_append_16 (by decide) (fun c9 => absurd c9 (by decide +kernel)) (fun _ => ?_)
  refine lv_aload_n hx hb dX7_append_19 rfl (lv_at hl 1 rfl) ?_
  refine va_get (D := (dC, dI)) (ci := 7) (v := .ref aBy) (C := RX7) (T := TX7) (N := 3) hx hb hts (fun _ h => List.mem_cons_of_mem _ (List.mem_append_right _ h)) hown hK hP 0 rfl rfl 2 (by decide) (hts (.fieldLink RX7 18 "DrumBoats$Tape" "bytes" "[I") (List.mem_of_getElem? (i := 2) rfl)) (fun _ h9 => h9) rfl dX7_append_20 ?_
  refine lv_aload_n hx hb dX7_append_23 rfl (lv_at hl 1 rfl) ?_
  refine va_get (D := (dC, dI)) (ci := 7) (v := .int 1) (C := RX7) (T := TX7) (N := 3) hx hb hts (fun _ h => List.mem_cons_of_mem _ (List.mem_append_right _ h)) hown hK hP 0 rfl rfl 0 (by decide) (hts (.fieldLink RX7 9 "DrumBoats$Tape" "size" "I") (List.mem_of_getElem? (i := 1) rfl)) (fun _ h9 => h9) rfl dX7_append_24 ?_
  refine lv_lload_n hx hb dX7_append_27 rfl (lv_at hl 2 rfl) ?_
  refine lv_bipush (v := 8) hx hb dX7_append_28 (by decide +kernel) ?_
  refine lv_iload hx hb dX7_append_30 (lv_at hl 0 rfl) ?_
  refine lv_imul hx hb dX7_append_32 ?_
  refine ti_eq (y := 32) (by decide +kernel) ?_
  refine lv_lushr hx hb dX7_append_33 rfl ?_
  refine lv_topl (fun z4 _ => ?_)
  refine lv_ldc2 (v := 255) hx hb hown (hts (.constantLong RX7 22 (255)) (List.mem_of_getElem? (i := 3) rfl)) dX7_append_34 ?_
  refine lv_land hx hb dX7_append_37 ?_
  refine lv_topl (fun z5 _ => ?_)
  refine lv_l2i hx hb dX7_append_38 rfl ?_
  refine lv_topi (fun z6 _ => ?_)
  refine va_iast hx hb hK hP hD hS 1 0 rfl rfl (by unfold vp_in; decide +kernel) dX7_append_39 (fun H locs hP hD hS => ?_)
  have hP : va_P (dC, dI) vwCl [(h0, .inr (7, [.int 1, .int 0, .ref aBy])), (aBy, .inl (caBy, 120, .inl (upd (upd (fun _ => 0) (0 : Int32).toNatClampNeg z3) (1 : Int32).toNatClampNeg z6)))] H := hP
  have hD : va_D A [(h0, .inr (7, [.int 1, .int 0, .ref aBy])), (aBy, .inl (caBy, 120, .inl (upd (upd (fun _ => 0) (0 : Int32).toNatClampNeg z3) (1 : Int32).toNatClampNeg z6)))] := hD
  refine lv_aload_n hx hb dX7_append_40 rfl (lv_at hl 1 rfl) ?_
  refine lv_dup hx hb dX7_append_41 rfl ?_
  refine va_get (D := (dC, dI)) (ci := 7) (v := .int 1) (C := RX7) (T := TX7) (N := 3) hx hb hts (fun _ h => List.mem_cons_of_mem _ (List.mem_append_right _ h)) hown hK hP 0 rfl rfl 0 (by decide) (hts (.fieldLink RX7 9 "DrumBoats$Tape" "size" "I") (List.mem_of_getElem? (i := 1) rfl)) (fun _ h9 => h9) rfl dX7_append_42 ?_
  refine lv_iconst (v := 1) hx hb dX7_append_45 (by decide +kernel) ?_
  refine lv_iadd hx hb dX7_append_46 ?_
  refine ti_eq (y := 2) (by decide +kernel) ?_
  refine va_put (D := (dC, dI)) (ci := 7) (v := .int 2) (ty := .int) (C := RX7) (T := TX7) (N := 3) hx hb hts (fun _ h => List.mem_cons_of_mem _ (List.mem_append_right _ h)) tyX7 tyX7_ok nmX7 hown hK hP hD hS 0 rfl rfl 0 (by decide) (hts (.fieldLink RX7 9 "DrumBoats$Tape" "size" "I") (List.mem_of_getElem? (i := 1) rfl)) (fun _ h9 => h9) rfl (by decide +kernel) rfl rfl (Nat.le_of_ble_eq_true rfl) dX7_append_47 (fun H locs hP hD hS => ?_)
  have hP : va_P (dC, dI) vwCl [(h0, .inr (7, [.int 2, .int 0, .ref aBy])), (aBy, .inl (caBy, 120, .inl (upd (upd (fun _ => 0) (0 : Int32).toNatClampNeg z3) (1 : Int32).toNatClampNeg z6)))] H := hP
  have hD : va_D A [(h0, .inr (7, [.int 2, .int 0, .ref aBy])), (aBy, .inl (caBy, 120, .inl (upd (upd (fun _ => 0) (0 : Int32).toNatClampNeg z3) (1 : Int32).toNatClampNeg z6)))] := hD
  refine lv_iinc (v := 3) (lv' := [(4, .int 3), (0, .ref h0), (1, .long w), (3, .int 6)]) hx hb dX7_append_50 hl (k := 0) rfl (by decide +kernel) (by decide) rfl (fun ls hl => ?_)
  refine lv_goto (tgt := 5) hx hb dX7_append_53 (by decide) ?_
  refine lv_iload hx hb dX7_append_5 (lv_at hl 0 rfl) ?_
  refine lv_if_lt (tgt := 56) hx hb dX7_append_7 (by decide) (fun c9 => absurd c9 (by decide +kernel)) (fun _ => ?_)
  refine lv_aload_n hx hb dX7_append_10 rfl (lv_at hl 1 rfl) ?_
  refine va_get (D := (dC, dI)) (ci := 7) (v := .int 2) (C := RX7) (T := TX7) (N := 3) hx hb hts (fun _ h => List.mem_cons_of_mem _ (List.mem_append_right _ h)) hown hK hP 0 rfl rfl 0 (by decide) (hts (.fieldLink RX7 9 "DrumBoats$Tape" "size" "I") (List.mem_of_getElem? (i := 1) rfl)) (fun _ h9 => h9) rfl dX7_append_11 ?_
  refine lv_bipush (v := 120) hx hb dX7_append_14 (by decide +kernel) ?_
  refine lv_icmp_ge (tgt := 56) hx hb dX7_append_16 (by decide) (fun c9 => absurd c9 (by decide +kernel)) (fun _ => ?_)
  refine lv_aload_n hx hb dX7_append_19 rfl (lv_at hl 1 rfl) ?_
  refine va_get (D := (dC, dI)) (ci := 7) (v := .ref aBy) (C := RX7) (T := TX7) (N := 3) hx hb hts (fun _ h => List.mem_cons_of_mem _ (List.mem_append_right _ h)) hown hK hP 0 rfl rfl 2 (by decide) (hts (.fieldLink RX7 18 "DrumBoats$Tape" "bytes" "[I") (List.mem_of_getElem? (i := 2) rfl)) (fun _ h9 => h9) rfl dX7_append_20 ?_
  refine lv_aload_n hx hb dX7_append_23 rfl (lv_at hl 1 rfl) ?_
  refine va_get (D := (dC, dI)) (ci := 7) (v := .int 2) (C := RX7) (T := TX7) (N := 3) hx hb hts (fun _ h => List.mem_cons_of_mem _ (List.mem_append_right _ h)) hown hK hP 0 rfl rfl 0 (by decide) (hts (.fieldLink RX7 9 "DrumBoats$Tape" "size" "I") (List.mem_of_getElem? (i := 1) rfl)) (fun _ h9 => h9) rfl dX7_append_24 ?_
  refine lv_lload_n hx hb dX7_append_27 rfl (lv_at hl 2 rfl) ?_
  refine lv_bipush (v := 8) hx hb dX7_append_28 (by decide +kernel) ?_
  refine lv_iload hx hb dX7_append_30 (lv_at hl 0 rfl) ?_
  refine lv_imul hx hb dX7_append_32 ?_
  refine ti_eq (y := 24) (by decide +kernel) ?_
  refine lv_lushr hx hb dX7_append_33 rfl ?_
  refine lv_topl (fun z7 _ => ?_)
  refine lv_ldc2 (v := 255) hx hb hown (hts (.constantLong RX7 22 (255)) (List.mem_of_getElem? (i := 3) rfl)) dX7_append_34 ?_
  refine lv_land hx hb dX7_append_37 ?_
  refine lv_topl (fun z8 _ => ?_)
  refine lv_l2i hx hb dX7_append_38 rfl ?_
  refine lv_topi (fun z9 _ => ?_)
  refine va_iast hx hb hK hP hD hS 1 0 rfl rfl (by unfold vp_in; decide +kernel) dX7_append_39 (fun H locs hP hD hS => ?_)
  have hP : va_P (dC, dI) vwCl [(h0, .inr (7, [.int 2, .int 0, .ref aBy])), (aBy, .inl (caBy, 120, .inl (upd (upd (upd (fun _ => 0) (0 : Int32).toNatClampNeg z3) (1 : Int32).toNatClampNeg z6) (2 : Int32).toNatClampNeg z9)))] H := hP
  have hD : va_D A [(h0, .inr (7, [.int 2, .int 0, .ref aBy])), (aBy, .inl (caBy, 120, .inl (upd (upd (upd (fun _ => 0) (0 : Int32).toNatClampNeg z3) (1 : Int32).toNatClampNeg z6) (2 : Int32).toNatClampNeg z9)))] := hD
  refine lv_aload_n hx hb dX7_append_40 rfl (lv_at hl 1 rfl) ?_
  refine lv_dup hx hb dX7_append_41 rfl ?_
  refine va_get (D := (dC, dI)) (ci := 7) (v := .int 2) (C := RX7) (T := TX7) (N := 3) hx hb hts (fun _ h => List.mem_cons_of_mem _ (List.mem_append_right _ h)) hown hK hP 0 rfl rfl 0 (by decide) (hts (.fieldLink RX7 9 "DrumBoats$Tape" "size" "I") (List.mem_of_getElem? (i := 1) rfl)) (fun _ h9 => h9) rfl dX7_append_42 ?_
  refine lv_iconst (v := 1) hx hb dX7_append_45 (by decide +kernel) ?_
  refine lv_iadd hx hb dX7_append_46 ?_
  refine ti_eq (y := 3) (by decide +kernel) ?_
  refine va_put (D := (dC, dI)) (ci := 7) (v := .int 3) (ty := .int) (C := RX7) (T := TX7) (N := 3) hx hb hts (fun _ h => List.mem_cons_of_mem _ (List.mem_append_right _ h)) tyX7 tyX7_ok nmX7 hown hK hP hD hS 0 rfl rfl 0 (by decide) (hts (.fieldLink RX7 9 "DrumBoats$Tape" "size" "I") (List.mem_of_getElem? (i := 1) rfl)) (fun _ h9 => h9) rfl (by decide +kernel) rfl rfl (Nat.le_of_ble_eq_true rfl) dX7_append_47 (fun H locs hP hD hS => ?_)
  have hP : va_P (dC, dI) vwCl [(h0, .inr (7, [.int 3, .int 0, .ref aBy])), (aBy, .inl (caBy, 120, .inl (upd (upd (upd (fun _ => 0) (0 : Int32).toNatClampNeg z3) (1 : Int32).toNatClampNeg z6) (2 : Int32).toNatClampNeg z9)))] H := hP
  have hD : va_D A [(h0, .inr (7, [.int 3, .int 0, .ref aBy])), (aBy, .inl (caBy, 120, .inl (upd (upd (upd (fun _ => 0) (0 : Int32).toNatClampNeg z3) (1 : Int32).toNatClampNeg z6) (2 : Int32).toNatClampNeg z9)))] := hD
  refine lv_iinc (v := 2) (lv' := [(4, .int 2), (0, .ref h0), (1, .long w), (3, .int 6)]) hx hb dX7_append_50 hl (k := 0) rfl (by decide +kernel) (by decide) rfl (fun ls hl => ?_)
  refine lv_goto (tgt := 5) hx hb dX7_append_53 (by decide) ?_
  refine lv_iload hx hb dX7_append_5 (lv_at hl 0 rfl) ?_
  refine lv_if_lt (tgt := 56) hx hb dX7_append_7 (by decide) (fun c9 => absurd c9 (by decide +kernel)) (fun _ => ?_)
  refine lv_aload_n hx hb dX7_append_10 rfl (lv_at hl 1 rfl) ?_
  refine va_get (D := (dC, dI)) (ci := 7) (v := .int 3) (C := RX7) (T := TX7) (N := 3) hx hb hts (fun _ h => List.mem_cons_of_mem _ (List.mem_append_right _ h)) hown hK hP 0 rfl rfl 0 (by decide) (hts (.fieldLink RX7 9 "DrumBoats$Tape" "size" "I") (List.mem_of_getElem? (i := 1) rfl)) (fun _ h9 => h9) rfl dX7_append_11 ?_
  refine lv_bipush (v := 120) hx hb dX7_append_14 (by decide +kernel) ?_
  refine lv_icmp_ge (tgt := 56) hx hb dX7_append_16 (by decide) (fun c9 => absurd c9 (by decide +kernel)) (fun _ => ?_)
  refine lv_aload_n hx hb dX7_append_19 rfl (lv_at hl 1 rfl) ?_
  refine va_get (D := (dC, dI)) (ci := 7) (v := .ref aBy) (C := RX7) (T := TX7) (N := 3) hx hb hts (fun _ h => List.mem_cons_of_mem _ (List.mem_append_right _ h)) hown hK hP 0 rfl rfl 2 (by decide) (hts (.fieldLink RX7 18 "DrumBoats$Tape" "bytes" "[I") (List.mem_of_getElem? (i := 2) rfl)) (fun _ h9 => h9) rfl dX7_append_20 ?_
  refine lv_aload_n hx hb dX7_append_23 rfl (lv_at hl 1 rfl) ?_
  refine va_get (D := (dC, dI)) (ci := 7) (v := .int 3) (C := RX7) (T := TX7) (N := 3) hx hb hts (fun _ h => List.mem_cons_of_mem _ (List.mem_append_right _ h)) hown hK hP 0 rfl rfl 0 (by decide) (hts (.fieldLink RX7 9 "DrumBoats$Tape" "size" "I") (List.mem_of_getElem? (i := 1) rfl)) (fun _ h9 => h9) rfl dX7_append_24 ?_
  refine lv_lload_n hx hb dX7_append_27 rfl (lv_at hl 2 rfl) ?_
  refine lv_bipush (v := 8) hx hb dX7_append_28 (by decide +kernel) ?_
  refine lv_iload hx hb dX7_append_30 (lv_at hl 0 rfl) ?_
  refine lv_imul hx hb dX7_append_32 ?_
  refine ti_eq (y := 16) (by decide +kernel) ?_
  refine lv_lushr hx hb dX7_append_33 rfl ?_
  refine lv_topl (fun z10 _ => ?_)
  refine lv_ldc2 (v := 255) hx hb hown (hts (.constantLong RX7 22 (255)) (List.mem_of_getElem? (i := 3) rfl)) dX7_append_34 ?_
  refine lv_land hx hb dX7_append_37 ?_
  refine lv_topl (fun z11 _ => ?_)
  refine lv_l2i hx hb dX7_append_38 rfl ?_
  refine lv_topi (fun z12 _ => ?_)
  refine va_iast hx hb hK hP hD hS 1 0 rfl rfl (by unfold vp_in; decide +kernel) dX7_append_39 (fun H locs hP hD hS => ?_)
  have hP : va_P (dC, dI) vwCl [(h0, .inr (7, [.int 3, .int 0, .ref aBy])), (aBy, .inl (caBy, 120, .inl (upd (upd (upd (upd (fun _ => 0) (0 : Int32).toNatClampNeg z3) (1 : Int32).toNatClampNeg z6) (2 : Int32).toNatClampNeg z9) (3 : Int32).toNatClampNeg z12)))] H := hP
  have hD : va_D A [(h0, .inr (7, [.int 3, .int 0, .ref aBy])), (aBy, .inl (caBy, 120, .inl (upd (upd (upd (upd (fun _ => 0) (0 : Int32).toNatClampNeg z3) (1 : Int32).toNatClampNeg z6) (2 : Int32).toNatClampNeg z9) (3 : Int32).toNatClampNeg z12)))] := hD
  refine lv_aload_n hx hb dX7_append_40 rfl (lv_at hl 1 rfl) ?_
  refine lv_dup hx hb dX7_append_41 rfl ?_
  refine va_get (D := (dC, dI)) (ci := 7) (v := .int 3) (C := RX7) (T := TX7) (N := 3) hx hb hts (fun _ h => List.mem_cons_of_mem _ (List.mem_append_right _ h)) hown hK hP 0 rfl rfl 0 (by decide) (hts (.fieldLink RX7 9 "DrumBoats$Tape" "size" "I") (List.mem_of_getElem? (i := 1) rfl)) (fun _ h9 => h9) rfl dX7_append_42 ?_
  refine lv_iconst (v := 1) hx hb dX7_append_45 (by decide +kernel) ?_
  refine lv_iadd hx hb dX7_append_46 ?_
  refine ti_eq (y := 4) (by decide +kernel) ?_
  refine va_put (D := (dC, dI)) (ci := 7) (v := .int 4) (ty := .int) (C := RX7) (T := TX7) (N := 3) hx hb hts (fun _ h => List.mem_cons_of_mem _ (List.mem_append_right _ h)) tyX7 tyX7_ok nmX7 hown hK hP hD hS 0 rfl rfl 0 (by decide) (hts (.fieldLink RX7 9 "DrumBoats$Tape" "size" "I") (List.mem_of_getElem? (i := 1) rfl)) (fun _ h9 => h9) rfl (by decide +kernel) rfl rfl (Nat.le_of_ble_eq_true rfl) dX7_append_47 (fun H locs hP hD hS => ?_)
  have hP : va_P (dC, dI) vwCl [(h0, .inr (7, [.int 4, .int 0, .ref aBy])), (aBy, .inl (caBy, 120, .inl (upd (upd (upd (upd (fun _ => 0) (0 : Int32).toNatClampNeg z3) (1 : Int32).toNatClampNeg z6) (2 : Int32).toNatClampNeg z9) (3 : Int32).toNatClampNeg z12)))] H := hP
  have hD : va_D A [(h0, .inr (7, [.int 4, .int 0, .ref aBy])), (aBy, .inl (caBy, 120, .inl (upd (upd (upd (upd (fun _ => 0) (0 : Int32).toNatClampNeg z3) (1 : Int32).toNatClampNeg z6) (2 : Int32).toNatClampNeg z9) (3 : Int32).toNatClampNeg z12)))] := hD
  refine lv_iinc (v := 1) (lv' := [(4, .int 1), (0, .ref h0), (1, .long w), (3, .int 6)]) hx hb dX7_append_50 hl (k := 0) rfl (by decide +kernel) (by decide) rfl (fun ls hl => ?_)
  refine lv_goto (tgt := 5) hx hb dX7_append_53 (by decide) ?_
  refine lv_iload hx hb dX7_append_5 (lv_at hl 0 rfl) ?_
  refine lv_if_lt (tgt := 56) hx hb dX7_append_7 (by decide) (fun c9 => absurd c9 (by decide +kernel)) (fun _ => ?_)
  refine lv_aload_n hx hb dX7_append_10 rfl (lv_at hl 1 rfl) ?_
  refine va_get (D := (dC, dI)) (ci := 7) (v := .int 4) (C := RX7) (T := TX7) (N := 3) hx hb hts (fun _ h => List.mem_cons_of_mem _ (List.mem_append_right _ h)) hown hK hP 0 rfl rfl 0 (by decide) (hts (.fieldLink RX7 9 "DrumBoats$Tape" "size" "I") (List.mem_of_getElem? (i := 1) rfl)) (fun _ h9 => h9) rfl dX7_append_11 ?_
  refine lv_bipush (v := 120) hx hb dX7_append_14 (by decide +kernel) ?_
  refine lv_icmp_ge (tgt := 56) hx hb dX7_append_16 (by decide) (fun c9 => absurd c9 (by decide +kernel)) (fun _ => ?_)
  refine lv_aload_n hx hb dX7_append_19 rfl (lv_at hl 1 rfl) ?_
  refine va_get (D := (dC, dI)) (ci := 7) (v := .ref aBy) (C := RX7) (T := TX7) (N := 3) hx hb hts (fun _ h => List.mem_cons_of_mem _ (List.mem_append_right _ h)) hown hK hP 0 rfl rfl 2 (by decide) (hts (.fieldLink RX7 18 "DrumBoats$Tape" "bytes" "[I") (List.mem_of_getElem? (i := 2) rfl)) (fun _ h9 => h9) rfl dX7_append_20 ?_
  refine lv_aload_n hx hb dX7_append_23 rfl (lv_at hl 1 rfl) ?_
  refine va_get (D := (dC, dI)) (ci := 7) (v := .int 4) (C := RX7) (T := TX7) (N := 3) hx hb hts (fun _ h => List.mem_cons_of_mem _ (List.mem_append_right _ h)) hown hK hP 0 rfl rfl 0 (by decide) (hts (.fieldLink RX7 9 "DrumBoats$Tape" "size" "I") (List.mem_of_getElem? (i := 1) rfl)) (fun _ h9 => h9) rfl dX7_append_24 ?_
  refine lv_lload_n hx hb dX7_append_27 rfl (lv_at hl 2 rfl) ?_
  refine lv_bipush (v := 8) hx hb dX7_append_28 (by decide +kernel) ?_
  refine lv_iload hx hb dX7_append_30 (lv_at hl 0 rfl) ?_
  refine lv_imul hx hb dX7_append_32 ?_
  refine ti_eq (y := 8) (by decide +kernel) ?_
  refine lv_lushr hx hb dX7_append_33 rfl ?_
  refine lv_topl (fun z13 _ => ?_)
  refine lv_ldc2 (v := 255) hx hb hown (hts (.constantLong RX7 22 (255)) (List.mem_of_getElem? (i := 3) rfl)) dX7_append_34 ?_
  refine lv_land hx hb dX7_append_37 ?_
  refine lv_topl (fun z14 _ => ?_)
  refine lv_l2i hx hb dX7_append_38 rfl ?_
  refine lv_topi (fun z15 _ => ?_)
  refine va_iast hx hb hK hP hD hS 1 0 rfl rfl (by unfold vp_in; decide +kernel) dX7_append_39 (fun H locs hP hD hS => ?_)
  have hP : va_P (dC, dI) vwCl [(h0, .inr (7, [.int 4, .int 0, .ref aBy])), (aBy, .inl (caBy, 120, .inl (upd (upd (upd (upd (upd (fun _ => 0) (0 : Int32).toNatClampNeg z3) (1 : Int32).toNatClampNeg z6) (2 : Int32).toNatClampNeg z9) (3 : Int32).toNatClampNeg z12) (4 : Int32).toNatClampNeg z15)))] H := hP
  have hD : va_D A [(h0, .inr (7, [.int 4, .int 0, .ref aBy])), (aBy, .inl (caBy, 120, .inl (upd (upd (upd (upd (upd (fun _ => 0) (0 : Int32).toNatClampNeg z3) (1 : Int32).toNatClampNeg z6) (2 : Int32).toNatClampNeg z9) (3 : Int32).toNatClampNeg z12) (4 : Int32).toNatClampNeg z15)))] := hD
  refine lv_aload_n hx hb dX7_append_40 rfl (lv_at hl 1 rfl) ?_
  refine lv_dup hx hb dX7_append_41 rfl ?_
  refine va_get (D := (dC, dI)) (ci := 7) (v := .int 4) (C := RX7) (T := TX7) (N := 3) hx hb hts (fun _ h => List.mem_cons_of_mem _ (List.mem_append_right _ h)) hown hK hP 0 rfl rfl 0 (by decide) (hts (.fieldLink RX7 9 "DrumBoats$Tape" "size" "I") (List.mem_of_getElem? (i := 1) rfl)) (fun _ h9 => h9) rfl dX7_append_42 ?_
  refine lv_iconst (v := 1) hx hb dX7_append_45 (by decide +kernel) ?_
  refine lv_iadd hx hb dX7_append_46 ?_
  refine ti_eq (y := 5) (by decide +kernel) ?_
  refine va_put (D := (dC, dI)) (ci := 7) (v := .int 5) (ty := .int) (C := RX7) (T := TX7) (N := 3) hx hb hts (fun _ h => List.mem_cons_of_mem _ (List.mem_append_right _ h)) tyX7 tyX7_ok nmX7 hown hK hP hD hS 0 rfl rfl 0 (by decide) (hts (.fieldLink RX7 9 "DrumBoats$Tape" "size" "I") (List.mem_of_getElem? (i := 1) rfl)) (fun _ h9 => h9) rfl (by decide +kernel) rfl rfl (Nat.le_of_ble_eq_true rfl) dX7_append_47 (fun H locs hP hD hS => ?_)
  have hP : va_P (dC, dI) vwCl [(h0, .inr (7, [.int 5, .int 0, .ref aBy])), (aBy, .inl (caBy, 120, .inl (upd (upd (upd (upd (upd (fun _ => 0) (0 : Int32).toNatClampNeg z3) (1 : Int32).toNatClampNeg z6) (2 : Int32).toNatClampNeg z9) (3 : Int32).toNatClampNeg z12) (4 : Int32).toNatClampNeg z15)))] H := hP
  have hD : va_D A [(h0, .inr (7, [.int 5, .int 0, .ref aBy])), (aBy, .inl (caBy, 120, .inl (upd (upd (upd (upd (upd (fun _ => 0) (0 : Int32).toNatClampNeg z3) (1 : Int32).toNatClampNeg z6) (2 : Int32).toNatClampNeg z9) (3 : Int32).toNatClampNeg z12) (4 : Int32).toNatClampNeg z15)))] := hD
  refine lv_iinc (v := 0) (lv' := [(4, .int 0), (0, .ref h0), (1, .long w), (3, .int 6)]) hx hb dX7_append_50 hl (k := 0) rfl (by decide +kernel) (by decide) rfl (fun ls hl => ?_)
  refine lv_goto (tgt := 5) hx hb dX7_append_53 (by decide) ?_
  refine lv_iload hx hb dX7_append_5 (lv_at hl 0 rfl) ?_
  refine lv_if_lt (tgt := 56) hx hb dX7_append_7 (by decide) (fun c9 => absurd c9 (by decide +kernel)) (fun _ => ?_)
  refine lv_aload_n hx hb dX7_append_10 rfl (lv_at hl 1 rfl) ?_
  refine va_get (D := (dC, dI)) (ci := 7) (v := .int 5) (C := RX7) (T := TX7) (N := 3) hx hb hts (fun _ h => List.mem_cons_of_mem _ (List.mem_append_right _ h)) hown hK hP 0 rfl rfl 0 (by decide) (hts (.fieldLink RX7 9 "DrumBoats$Tape" "size" "I") (List.mem_of_getElem? (i := 1) rfl)) (fun _ h9 => h9) rfl dX7_append_11 ?_
  refine lv_bipush (v := 120) hx hb dX7_append_14 (by decide +kernel) ?_
  refine lv_icmp_ge (tgt := 56) hx hb dX7_append_16 (by decide) (fun c9 => absurd c9 (by decide +kernel)) (fun _ => ?_)
  refine lv_aload_n hx hb dX7_append_19 rfl (lv_at hl 1 rfl) ?_
  refine va_get (D := (dC, dI)) (ci := 7) (v := .ref aBy) (C := RX7) (T := TX7) (N := 3) hx hb hts (fun _ h => List.mem_cons_of_mem _ (List.mem_append_right _ h)) hown hK hP 0 rfl rfl 2 (by decide) (hts (.fieldLink RX7 18 "DrumBoats$Tape" "bytes" "[I") (List.mem_of_getElem? (i := 2) rfl)) (fun _ h9 => h9) rfl dX7_append_20 ?_
  refine lv_aload_n hx hb dX7_append_23 rfl (lv_at hl 1 rfl) ?_
  refine va_get (D := (dC, dI)) (ci := 7) (v := .int 5) (C := RX7) (T := TX7) (N := 3) hx hb hts (fun _ h => List.mem_cons_of_mem _ (List.mem_append_right _ h)) hown hK hP 0 rfl rfl 0 (by decide) (hts (.fieldLink RX7 9 "DrumBoats$Tape" "size" "I") (List.mem_of_getElem? (i := 1) rfl)) (fun _ h9 => h9) rfl dX7_append_24 ?_
  refine lv_lload_n hx hb dX7_append_27 rfl (lv_at hl 2 rfl) ?_
  refine lv_bipush (v := 8) hx hb dX7_append_28 (by decide +kernel) ?_
  refine lv_iload hx hb dX7_append_30 (lv_at hl 0 rfl) ?_
  refine lv_imul hx hb dX7_append_32 ?_
  refine ti_eq (y := 0) (by decide +kernel) ?_
  refine lv_lushr hx hb dX7_append_33 rfl ?_
  refine lv_topl (fun z16 _ => ?_)
  refine lv_ldc2 (v := 255) hx hb hown (hts (.constantLong RX7 22 (255)) (List.mem_of_getElem? (i := 3) rfl)) dX7_append_34 ?_
  refine lv_land hx hb dX7_append_37 ?_
  refine lv_topl (fun z17 _ => ?_)
  refine lv_l2i hx hb dX7_append_38 rfl ?_
  refine lv_topi (fun z18 _ => ?_)
  refine va_iast hx hb hK hP hD hS 1 0 rfl rfl (by unfold vp_in; decide +kernel) dX7_append_39 (fun H locs hP hD hS => ?_)
  have hP : va_P (dC, dI) vwCl [(h0, .inr (7, [.int 5, .int 0, .ref aBy])), (aBy, .inl (caBy, 120, .inl (upd (upd (upd (upd (upd (upd (fun _ => 0) (0 : Int32).toNatClampNeg z3) (1 : Int32).toNatClampNeg z6) (2 : Int32).toNatClampNeg z9) (3 : Int32).toNatClampNeg z12) (4 : Int32).toNatClampNeg z15) (5 : Int32).toNatClampNeg z18)))] H := hP
  have hD : va_D A [(h0, .inr (7, [.int 5, .int 0, .ref aBy])), (aBy, .inl (caBy, 120, .inl (upd (upd (upd (upd (upd (upd (fun _ => 0) (0 : Int32).toNatClampNeg z3) (1 : Int32).toNatClampNeg z6) (2 : Int32).toNatClampNeg z9) (3 : Int32).toNatClampNeg z12) (4 : Int32).toNatClampNeg z15) (5 : Int32).toNatClampNeg z18)))] := hD
  refine lv_aload_n hx hb dX7_append_40 rfl (lv_at hl 1 rfl) ?_
  refine lv_dup hx hb dX7_append_41 rfl ?_
  refine va_get (D := (dC, dI)) (ci := 7) (v := .int 5) (C := RX7) (T := TX7) (N := 3) hx hb hts (fun _ h => List.mem_cons_of_mem _ (List.mem_append_right _ h)) hown hK hP 0 rfl rfl 0 (by decide) (hts (.fieldLink RX7 9 "DrumBoats$Tape" "size" "I") (List.mem_of_getElem? (i := 1) rfl)) (fun _ h9 => h9) rfl dX7_append_42 ?_
  refine lv_iconst (v := 1) hx hb dX7_append_45 (by decide +kernel) ?_
  refine lv_iadd hx hb dX7_append_46 ?_
  refine ti_eq (y := 6) (by decide +kernel) ?_
  refine va_put (D := (dC, dI)) (ci := 7) (v := .int 6) (ty := .int) (C := RX7) (T := TX7) (N := 3) hx hb hts (fun _ h => List.mem_cons_of_mem _ (List.mem_append_right _ h)) tyX7 tyX7_ok nmX7 hown hK hP hD hS 0 rfl rfl 0 (by decide) (hts (.fieldLink RX7 9 "DrumBoats$Tape" "size" "I") (List.mem_of_getElem? (i := 1) rfl)) (fun _ h9 => h9) rfl (by decide +kernel) rfl rfl (Nat.le_of_ble_eq_true rfl) dX7_append_47 (fun H locs hP hD hS => ?_)
  have hP : va_P (dC, dI) vwCl [(h0, .inr (7, [.int 6, .int 0, .ref aBy])), (aBy, .inl (caBy, 120, .inl (upd (upd (upd (upd (upd (upd (fun _ => 0) (0 : Int32).toNatClampNeg z3) (1 : Int32).toNatClampNeg z6) (2 : Int32).toNatClampNeg z9) (3 : Int32).toNatClampNeg z12) (4 : Int32).toNatClampNeg z15) (5 : Int32).toNatClampNeg z18)))] H := hP
  have hD : va_D A [(h0, .inr (7, [.int 6, .int 0, .ref aBy])), (aBy, .inl (caBy, 120, .inl (upd (upd (upd (upd (upd (upd (fun _ => 0) (0 : Int32).toNatClampNeg z3) (1 : Int32).toNatClampNeg z6) (2 : Int32).toNatClampNeg z9) (3 : Int32).toNatClampNeg z12) (4 : Int32).toNatClampNeg z15) (5 : Int32).toNatClampNeg z18)))] := hD
  refine lv_iinc (v := (-1)) (lv' := [(4, .int (-1)), (0, .ref h0), (1, .long w), (3, .int 6)]) hx hb dX7_append_50 hl (k := 0) rfl (by decide +kernel) (by decide) rfl (fun ls hl => ?_)
  refine lv_goto (tgt := 5) hx hb dX7_append_53 (by decide) ?_
  refine lv_iload hx hb dX7_append_5 (lv_at hl 0 rfl) ?_
  refine lv_if_lt (tgt := 56) hx hb dX7_append_7 (by decide) (fun _ => ?_) (fun c9 => absurd c9 (by decide +kernel))
  have hP9 := hP.sub (ws' := [(h0, .inr (7, [.int 6, .int 0, .ref aBy]))]) [0] rfl
  have hD9 := hD.sub (ws' := [(h0, .inr (7, [.int 6, .int 0, .ref aBy]))]) [0] (by decide) rfl
  have hK9 := hK.sub (tys' := []) [] rfl
  refine W.widen (k := 0) (n := 0) (Nat.le_of_ble_eq_true rfl) (Nat.le_of_ble_eq_true rfl) ?_
  exact W.vret hx hb hr (fun t ht hW => ⟨⟨(), rfl, trivial, by rw [ht]; exact hP9, va_K.moved hW.alike hK9, hD9⟩, hS.F ht⟩) hS.2.2 dX7_append_56

set_option maxHeartbeats 4000000 in
set_option maxRecDepth 100000 in
theorem k_X7_append_7 (l : Launch) (dC : Nat → ClassId) (dI : Nat → Nat → Nat) (sz : Nat) (h0 : Nat) (w : Int64) (aBy : Nat) (caBy : ClassId) : Met l yX7_append wsX7_append ({ frames := 0, cells := 0, slots := 0, locals := 0 }) (va_Pc [.ref h0, .long w, .int 7] (fun U => U.heap.size = sz ∧ va_P (dC, dI) vwCl [(h0, .inr (7, [.int 0, .int 0, .ref aBy])), (aBy, .inl (caBy, 120, .inl (fun _ => 0)))] U.heap ∧ va_K (dC, dI) vwCl [(caBy, .int)] U ∧ va_D (fun _ => True) [(h0, .inr (7, [.int 0, .int 0, .ref aBy])), (aBy, .inl (caBy, 120, .inl (fun _ => 0)))])) (va_Qv (fun _ : Unit => True) (fun _ t => va_P (dC, dI) vwCl [(h0, .inr (7, [.int 7, .int 0, .ref aBy]))] t.heap ∧ va_K (dC, dI) vwCl [] t ∧ va_D (va_A [(h0, .inr (7, [.int 0, .int 0, .ref aBy])), (aBy, .inl (caBy, 120, .inl (fun _ => 0)))] sz) [(h0, .inr (7, [.int 7, .int 0, .ref aBy]))]) (va_A [(h0, .inr (7, [.int 0, .int 0, .ref aBy])), (aBy, .inl (caBy, 120, .inl (fun _ => 0)))] sz)) 0 0 (va_A [(h0, .inr (7, [.int 0, .int 0, .ref aBy])), (aBy, .inl (caBy, 120, .inl (fun _ => 0)))] sz) := by
  refine Met.ofW (cc := cX7_append) (maxL := 5) (ret := none) (by decide) rfl ?_
  intro p e s m args below meth c s₁ B hml hv
  obtain ⟨rfl, hsz, hP, hK, hD0⟩ := hv
  have hx := B.exec
  have hb := B.bytes
  have hr := B.returns
  have hts := atoms_spec (ws := wsX7_append) B.pre
  have hown : s.vm.findClass RX7 = some m.cls := findClass_of_methodNamed B.named
  have hlocks := B.notSynchronized
  subst hsz
  have hD := hD0.self (sz := s.heap.size)
  generalize hAe : va_A [(h0, .inr (7, [.int 0, .int 0, .ref aBy])), (aBy, .inl (caBy, 120, .inl (fun _ => 0)))] s.heap.size = A at hD ⊢
  have hA : ∀ q : Nat, s.heap.size ≤ q → A q := fun q h => by rw [← hAe]; exact Or.inr h
  have hS : va_S A s.heap s.heap [] := va_S.rf
  have hl := lv_entry ([.ref h0, .long w, .int 7]) (n := 5) (Nat.le_of_ble_eq_true rfl)
  rw [lg_entry_eq]
  generalize (lg_sl ([.ref h0, .long w, .int 7]) ++ List.replicate (5 - (lg_sl ([.ref h0, .long w, .int 7])).length) Slot.unset).toArray = ls at hl ⊢
  have hl : lv_has ls 5 [(0, .ref h0), (1, .long w), (3, .int 7)] := hl
  refine lv_iload_n hx hb dX7_append_0 rfl (lv_at hl 2 rfl) ?_
  refine lv_iconst (v := 1) hx hb dX7_append_1 (by decide +kernel) ?_
  refine lv_isub hx hb dX7_append_2 ?_
  refine ti_eq (y := 6) (by decide +kernel) ?_
  refine lv_istore (lv' := [(4, .int 6), (0, .ref h0), (1, .long w), (3, .int 7)]) hx hb dX7_append_3 hl (by decide) rfl (fun ls hl => ?_)
  refine lv_iload hx hb dX7_append_5 (lv_at hl 0 rfl) ?_
  refine lv_if_lt (tgt := 56) hx hb dX7_append_7 (by decide) (fun c9 => absurd c9 (by decide +kernel)) (fun _ => ?_)
  refine lv_aload_n hx hb dX7_append_10 rfl (lv_at hl 1 rfl) ?_
  refine va_get (D := (dC, dI)) (ci := 7) (v := .int 0) (C := RX7) (T := TX7) (N := 3) hx hb hts (fun _ h => List.mem_cons_of_mem _ (List.mem_append_right _ h)) hown hK hP 0 rfl rfl 0 (by decide) (hts (.fieldLink RX7 9 "DrumBoats$Tape" "size" "I") (List.mem_of_getElem? (i := 1) rfl)) (fun _ h9 => h9) rfl dX7_append_11 ?_
  refine lv_bipush (v := 120) hx hb dX7_append_14 (by decide +kernel) ?_
  refine lv_icmp_ge (tgt := 56) hx hb dX7_append_16 (by decide) (fun c9 => absurd c9 (by decide +kernel)) (fun _ => ?_)
  refine lv_aload_n hx hb dX7_append_19 rfl (lv_at hl 1 rfl) ?_
  refine va_get (D := (dC, dI)) (ci := 7) (v := .ref aBy) (C := RX7) (T := TX7) (N := 3) hx hb hts (fun _ h => List.mem_cons_of_mem _ (List.mem_append_right _ h)) hown hK hP 0 rfl rfl 2 (by decide) (hts (.fieldLink RX7 18 "DrumBoats$Tape" "bytes" "[I") (List.mem_of_getElem? (i := 2) rfl)) (fun _ h9 => h9) rfl dX7_append_20 ?_
  refine lv_aload_n hx hb dX7_append_23 rfl (lv_at hl 1 rfl) ?_
  refine va_get (D := (dC, dI)) (ci := 7) (v := .int 0) (C := RX7) (T := TX7) (N := 3) hx hb hts (fun _ h => List.mem_cons_of_mem _ (List.mem_append_right _ h)) hown hK hP 0 rfl rfl 0 (by decide) (hts (.fieldLink RX7 9 "DrumBoats$Tape" "size" "I") (List.mem_of_getElem? (i := 1) rfl)) (fun _ h9 => h9) rfl dX7_append_24 ?_
  refine lv_lload_n hx hb dX7_append_27 rfl (lv_at hl 2 rfl) ?_
  refine lv_bipush (v := 8) hx hb dX7_append_28 (by decide +kernel) ?_
  refine lv_iload hx hb dX7_append_30 (lv_at hl 0 rfl) ?_
  refine lv_imul hx hb dX7_append_32 ?_
  refine ti_eq (y := 48) (by decide +kernel) ?_
  refine lv_lushr hx hb dX7_append_33 rfl ?_
  refine lv_topl (fun z1 _ => ?_)
  refine lv_ldc2 (v := 255) hx hb hown (hts (.constantLong RX7 22 (255)) (List.mem_of_getElem? (i := 3) rfl)) dX7_append_34 ?_
  refine lv_land hx hb dX7_append_37 ?_
  refine lv_topl (fun z2 _ => ?_)
  refine lv_l2i hx hb dX7_append_38 rfl ?_
  refine lv_topi (fun z3 _ => ?_)
  refine va_iast hx hb hK hP hD hS 1 0 rfl rfl (by unfold vp_in; decide +kernel) dX7_append_39 (fun H locs hP hD hS => ?_)
  have hP : va_P (dC, dI) vwCl [(h0, .inr (7, [.int 0, .int 0, .ref aBy])), (aBy, .inl (caBy, 120, .inl (upd (fun _ => 0) (0 : Int32).toNatClampNeg z3)))] H := hP
  have hD : va_D A [(h0, .inr (7, [.int 0, .int 0, .ref aBy])), (aBy, .inl (caBy, 120, .inl (upd (fun _ => 0) (0 : Int32).toNatClampNeg z3)))] := hD
  refine lv_aload_n hx hb dX7_append_40 rfl (lv_at hl 1 rfl) ?_
  refine lv_dup hx hb dX7_append_41 rfl ?_
  refine va_get (D := (dC, dI)) (ci := 7) (v := .int 0) (C := RX7) (T := TX7) (N := 3) hx hb hts (fun _ h => List.mem_cons_of_mem _ (List.mem_append_right _ h)) hown hK hP 0 rfl rfl 0 (by decide) (hts (.fieldLink RX7 9 "DrumBoats$Tape" "size" "I") (List.mem_of_getElem? (i := 1) rfl)) (fun _ h9 => h9) rfl dX7_append_42 ?_
  refine lv_iconst (v := 1) hx hb dX7_append_45 (by decide +kernel) ?_
  refine lv_iadd hx hb dX7_append_46 ?_
  refine ti_eq (y := 1) (by decide +kernel) ?_
  refine va_put (D := (dC, dI)) (ci := 7) (v := .int 1) (ty := .int) (C := RX7) (T := TX7) (N := 3) hx hb hts (fun _ h => List.mem_cons_of_mem _ (List.mem_append_right _ h)) tyX7 tyX7_ok nmX7 hown hK hP hD hS 0 rfl rfl 0 (by decide) (hts (.fieldLink RX7 9 "DrumBoats$Tape" "size" "I") (List.mem_of_getElem? (i := 1) rfl)) (fun _ h9 => h9) rfl (by decide +kernel) rfl rfl (Nat.le_of_ble_eq_true rfl) dX7_append_47 (fun H locs hP hD hS => ?_)
  have hP : va_P (dC, dI) vwCl [(h0, .inr (7, [.int 1, .int 0, .ref aBy])), (aBy, .inl (caBy, 120, .inl (upd (fun _ => 0) (0 : Int32).toNatClampNeg z3)))] H := hP
  have hD : va_D A [(h0, .inr (7, [.int 1, .int 0, .ref aBy])), (aBy, .inl (caBy, 120, .inl (upd (fun _ => 0) (0 : Int32).toNatClampNeg z3)))] := hD
  refine lv_iinc (v := 5) (lv' := [(4, .int 5), (0, .ref h0), (1, .long w), (3, .int 7)]) hx hb dX7_append_50 hl (k := 0) rfl (by decide +kernel) (by decide) rfl (fun ls hl => ?_)
  refine lv_goto (tgt := 5) hx hb dX7_append_53 (by decide) ?_
  refine lv_iload hx hb dX7_append_5 (lv_at hl 0 rfl) ?_
  refine lv_if_lt (tgt := 56) hx hb dX7_append_7 (by decide) (fun c9 => absurd c9 (by decide +kernel)) (fun _ => ?_)
  refine lv_aload_n hx hb dX7_append_10 rfl (lv_at hl 1 rfl) ?_
  refine va_get (D := (dC, dI)) (ci := 7) (v := .int 1) (C := RX7) (T := TX7) (N := 3) hx hb hts (fun _ h => List.mem_cons_of_mem _ (List.mem_append_right _ h)) hown hK hP 0 rfl rfl 0 (by decide) (hts (.fieldLink RX7 9 "DrumBoats$Tape" "size" "I") (List.mem_of_getElem? (i := 1) rfl)) (fun _ h9 => h9) rfl dX7_append_11 ?_
  refine lv_bipush (v := 120) hx hb dX7_append_14 (by decide +kernel) ?_
  refine lv_icmp_ge (tgt := 56) hx hb dX7_append_16 (by decide) (fun c9 => absurd c9 (by decide +kernel)) (fun _ => ?_)
  refine lv_aload_n hx hb dX7_append_19 rfl (lv_at hl 1 rfl) ?_
  refine va_get (D := (dC, dI)) (ci := 7) (v := .ref aBy) (C := RX7) (T := TX7) (N := 3) hx hb hts (fun _ h => List.mem_cons_of_mem _ (List.mem_append_right _ h)) hown hK hP 0 rfl rfl 2 (by decide) (hts (.fieldLink RX7 18 "DrumBoats$Tape" "bytes" "[I") (List.mem_of_getElem? (i := 2) rfl)) (fun _ h9 => h9) rfl dX7_append_20 ?_
  refine lv_aload_n hx hb dX7_append_23 rfl (lv_at hl 1 rfl) ?_
  refine va_get (D := (dC, dI)) (ci := 7) (v := .int 1) (C := RX7) (T := TX7) (N := 3) hx hb hts (fun _ h => List.mem_cons_of_mem _ (List.mem_append_right _ h)) hown hK hP 0 rfl rfl 0 (by decide) (hts (.fieldLink RX7 9 "DrumBoats$Tape" "size" "I") (List.mem_of_getElem? (i := 1) rfl)) (fun _ h9 => h9) rfl dX7_append_24 ?_
  refine lv_lload_n hx hb dX7_append_27 rfl (lv_at hl 2 rfl) ?_
  refine lv_bipush (v := 8) hx hb dX7_append_28 (by decide +kernel) ?_
  refine lv_iload hx hb dX7_append_30 (lv_at hl 0 rfl) ?_
  refine lv_imul hx hb dX7_append_32 ?_
  refine ti_eq (y := 40) (by decide +kernel) ?_
  refine lv_lushr hx hb dX7_append_33 rfl ?_
  refine lv_topl (fun z4 _ => ?_)
  refine lv_ldc2 (v := 255) hx hb hown (hts (.constantLong RX7 22 (255)) (List.mem_of_getElem? (i := 3) rfl)) dX7_append_34 ?_
  refine lv_land hx hb dX7_append_37 ?_
  refine lv_topl (fun z5 _ => ?_)
  refine lv_l2i hx hb dX7_append_38 rfl ?_
  refine lv_topi (fun z6 _ => ?_)
  refine va_iast hx hb hK hP hD hS 1 0 rfl rfl (by unfold vp_in; decide +kernel) dX7_append_39 (fun H locs hP hD hS => ?_)
  have hP : va_P (dC, dI) vwCl [(h0, .inr (7, [.int 1, .int 0, .ref aBy])), (aBy, .inl (caBy, 120, .inl (upd (upd (fun _ => 0) (0 : Int32).toNatClampNeg z3) (1 : Int32).toNatClampNeg z6)))] H := hP
  have hD : va_D A [(h0, .inr (7, [.int 1, .int 0, .ref aBy])), (aBy, .inl (caBy, 120, .inl (upd (upd (fun _ => 0) (0 : Int32).toNatClampNeg z3) (1 : Int32).toNatClampNeg z6)))] := hD
  refine lv_aload_n hx hb dX7_append_40 rfl (lv_at hl 1 rfl) ?_
  refine lv_dup hx hb dX7_append_41 rfl ?_
  refine va_get (D := (dC, dI)) (ci := 7) (v := .int 1) (C := RX7) (T := TX7) (N := 3) hx hb hts (fun _ h => List.mem_cons_of_mem _ (List.mem_append_right _ h)) hown hK hP 0 rfl rfl 0 (by decide) (hts (.fieldLink RX7 9 "DrumBoats$Tape" "size" "I") (List.mem_of_getElem? (i := 1) rfl)) (fun _ h9 => h9) rfl dX7_append_42 ?_
  refine lv_iconst (v := 1) hx hb dX7_append_45 (by decide +kernel) ?_
  refine lv_iadd hx hb dX7_append_46 ?_
  refine ti_eq (y := 2) (by decide +kernel) ?_
  refine va_put (D := (dC, dI)) (ci := 7) (v := .int 2) (ty := .int) (C := RX7) (T := TX7) (N := 3) hx hb hts (fun _ h => List.mem_cons_of_mem _ (List.mem_append_right _ h)) tyX7 tyX7_ok nmX7 hown hK hP hD hS 0 rfl rfl 0 (by decide) (hts (.fieldLink RX7 9 "DrumBoats$Tape" "size" "I") (List.mem_of_getElem? (i := 1) rfl)) (fun _ h9 => h9) rfl (by decide +kernel) rfl rfl (Nat.le_of_ble_eq_true rfl) dX7_append_47 (fun H locs hP hD hS => ?_)
  have hP : va_P (dC, dI) vwCl [(h0, .inr (7, [.int 2, .int 0, .ref aBy])), (aBy, .inl (caBy, 120, .inl (upd (upd (fun _ => 0) (0 : Int32).toNatClampNeg z3) (1 : Int32).toNatClampNeg z6)))] H := hP
  have hD : va_D A [(h0, .inr (7, [.int 2, .int 0, .ref aBy])), (aBy, .inl (caBy, 120, .inl (upd (upd (fun _ => 0) (0 : Int32).toNatClampNeg z3) (1 : Int32).toNatClampNeg z6)))] := hD
  refine lv_iinc (v := 4) (lv' := [(4, .int 4), (0, .ref h0), (1, .long w), (3, .int 7)]) hx hb dX7_append_50 hl (k := 0) rfl (by decide +kernel) (by decide) rfl (fun ls hl => ?_)
  refine lv_goto (tgt := 5) hx hb dX7_append_53 (by decide) ?_
  refine lv_iload hx hb dX7_append_5 (lv_at hl 0 rfl) ?_
  refine lv_if_lt (tgt := 56) hx hb dX7_append_7 (by decide) (fun c9 => absurd c9 (by decide +kernel)) (fun _ => ?_)
  refine lv_aload_n hx hb dX7_append_10 rfl (lv_at hl 1 rfl) ?_
  refine va_get (D := (dC, dI)) (ci := 7) (v := .int 2) (C := RX7) (T := TX7) (N := 3) hx hb hts (fun _ h => List.mem_cons_of_mem _ (List.mem_append_right _ h)) hown hK hP 0 rfl rfl 0 (by decide) (hts (.fieldLink RX7 9 "DrumBoats$Tape" "size" "I") (List.mem_of_getElem? (i := 1) rfl)) (fun _ h9 => h9) rfl dX7_append_11 ?_
  refine lv_bipush (v := 120) hx hb dX7_append_14 (by decide +kernel) ?_
  refine lv_icmp_ge (tgt := 56) hx hb dX7_append_16 (by decide) (fun c9 => absurd c9 (by decide +kernel)) (fun _ => ?_)
  refine lv_aload_n hx hb dX7_append_19 rfl (lv_at hl 1 rfl) ?_
  refine va_get (D := (dC, dI)) (ci := 7) (v := .ref aBy) (C := RX7) (T := TX7) (N := 3) hx hb hts (fun _ h => List.mem_cons_of_mem _ (List.mem_append_right _ h)) hown hK hP 0 rfl rfl 2 (by decide) (hts (.fieldLink RX7 18 "DrumBoats$Tape" "bytes" "[I") (List.mem_of_getElem? (i := 2) rfl)) (fun _ h9 => h9) rfl dX7_append_20 ?_
  refine lv_aload_n hx hb dX7_append_23 rfl (lv_at hl 1 rfl) ?_
  refine va_get (D := (dC, dI)) (ci := 7) (v := .int 2) (C := RX7) (T := TX7) (N := 3) hx hb hts (fun _ h => List.mem_cons_of_mem _ (List.mem_append_right _ h)) hown hK hP 0 rfl rfl 0 (by decide) (hts (.fieldLink RX7 9 "DrumBoats$Tape" "size" "I") (List.mem_of_getElem? (i := 1) rfl)) (fun _ h9 => h9) rfl dX7_append_24 ?_
  refine lv_lload_n hx hb dX7_append_27 rfl (lv_at hl 2 rfl) ?_
  refine lv_bipush (v := 8) hx hb dX7_append_28 (by decide +kernel) ?_
  refine lv_iload hx hb dX7_append_30 (lv_at hl 0 rfl) ?_
  refine lv_imul hx hb dX7_append_32 ?_
  refine ti_eq (y := 32) (by decide +kernel) ?_
  refine lv_lushr hx hb dX7_append_33 rfl ?_
  refine lv_topl (fun z7 _ => ?_)
  refine lv_ldc2 (v := 255) hx hb hown (hts (.constantLong RX7 22 (255)) (List.mem_of_getElem? (i := 3) rfl)) dX7_append_34 ?_
  refine lv_land hx hb dX7_append_37 ?_
  refine lv_topl (fun z8 _ => ?_)
  refine lv_l2i hx hb dX7_append_38 rfl ?_
  refine lv_topi (fun z9 _ => ?_)
  refine va_iast hx hb hK hP hD hS 1 0 rfl rfl (by unfold vp_in; decide +kernel) dX7_append_39 (fun H locs hP hD hS => ?_)
  have hP : va_P (dC, dI) vwCl [(h0, .inr (7, [.int 2, .int 0, .ref aBy])), (aBy, .inl (caBy, 120, .inl (upd (upd (upd (fun _ => 0) (0 : Int32).toNatClampNeg z3) (1 : Int32).toNatClampNeg z6) (2 : Int32).toNatClampNeg z9)))] H := hP
  have hD : va_D A [(h0, .inr (7, [.int 2, .int 0, .ref aBy])), (aBy, .inl (caBy, 120, .inl (upd (upd (upd (fun _ => 0) (0 : Int32).toNatClampNeg z3) (1 : Int32).toNatClampNeg z6) (2 : Int32).toNatClampNeg z9)))] := hD
  refine lv_aload_n hx hb dX7_append_40 rfl (lv_at hl 1 rfl) ?_
  refine lv_dup hx hb dX7_append_41 rfl ?_
  refine va_get (D := (dC, dI)) (ci := 7) (v := .int 2) (C := RX7) (T := TX7) (N := 3) hx hb hts (fun _ h => List.mem_cons_of_mem _ (List.mem_append_right _ h)) hown hK hP 0 rfl rfl 0 (by decide) (hts (.fieldLink RX7 9 "DrumBoats$Tape" "size" "I") (List.mem_of_getElem? (i := 1) rfl)) (fun _ h9 => h9) rfl dX7_append_42 ?_
  refine lv_iconst (v := 1) hx hb dX7_append_45 (by decide +kernel) ?_
  refine lv_iadd hx hb dX7_append_46 ?_
  refine ti_eq (y := 3) (by decide +kernel) ?_
  refine va_put (D := (dC, dI)) (ci := 7) (v := .int 3) (ty := .int) (C := RX7) (T := TX7) (N := 3) hx hb hts (fun _ h => List.mem_cons_of_mem _ (List.mem_append_right _ h)) tyX7 tyX7_ok nmX7 hown hK hP hD hS 0 rfl rfl 0 (by decide) (hts (.fieldLink RX7 9 "DrumBoats$Tape" "size" "I") (List.mem_of_getElem? (i := 1) rfl)) (fun _ h9 => h9) rfl (by decide +kernel) rfl rfl (Nat.le_of_ble_eq_true rfl) dX7_append_47 (fun H locs hP hD hS => ?_)
  have hP : va_P (dC, dI) vwCl [(h0, .inr (7, [.int 3, .int 0, .ref aBy])), (aBy, .inl (caBy, 120, .inl (upd (upd (upd (fun _ => 0) (0 : Int32).toNatClampNeg z3) (1 : Int32).toNatClampNeg z6) (2 : Int32).toNatClampNeg z9)))] H := hP
  have hD : va_D A [(h0, .inr (7, [.int 3, .int 0, .ref aBy])), (aBy, .inl (caBy, 120, .inl (upd (upd (upd (fun _ => 0) (0 : Int32).toNatClampNeg z3) (1 : Int32).toNatClampNeg z6) (2 : Int32).toNatClampNeg z9)))] := hD
  refine lv_iinc (v := 3) (lv' := [(4, .int 3), (0, .ref h0), (1, .long w), (3, .int 7)]) hx hb dX7_append_50 hl (k := 0) rfl (by decide +kernel) (by decide) rfl (fun ls hl => ?_)
  refine lv_goto (tgt := 5) hx hb dX7_append_53 (by decide) ?_
  refine lv_iload hx hb dX7_append_5 (lv_at hl 0 rfl) ?_
  refine lv_if_lt (tgt := 56) hx hb dX7_append_7 (by decide) (fun c9 => absurd c9 (by decide +kernel)) (fun _ => ?_)
  refine lv_aload_n hx hb dX7_append_10 rfl (lv_at hl 1 rfl) ?_
  refine va_get (D := (dC, dI)) (ci := 7) (v := .int 3) (C := RX7) (T := TX7) (N := 3) hx hb hts (fun _ h => List.mem_cons_of_mem _ (List.mem_append_right _ h)) hown hK hP 0 rfl rfl 0 (by decide) (hts (.fieldLink RX7 9 "DrumBoats$Tape" "size" "I") (List.mem_of_getElem? (i := 1) rfl)) (fun _ h9 => h9) rfl dX7_append_11 ?_
  refine lv_bipush (v := 120) hx hb dX7_append_14 (by decide +kernel) ?_
  refine lv_icmp_ge (tgt := 56) hx hb dX7_append_16 (by decide) (fun c9 => absurd c9 (by decide +kernel)) (fun _ => ?_)
  refine lv_aload_n hx hb dX7_append_19 rfl (lv_at hl 1 rfl) ?_
  refine va_get (D := (dC, dI)) (ci := 7) (v := .ref aBy) (C := RX7) (T := TX7) (N := 3) hx hb hts (fun _ h => List.mem_cons_of_mem _ (List.mem_append_right _ h)) hown hK hP 0 rfl rfl 2 (by decide) (hts (.fieldLink RX7 18 "DrumBoats$Tape" "bytes" "[I") (List.mem_of_getElem? (i := 2) rfl)) (fun _ h9 => h9) rfl dX7_append_20 ?_
  refine lv_aload_n hx hb dX7_append_23 rfl (lv_at hl 1 rfl) ?_
  refine va_get (D := (dC, dI)) (ci := 7) (v := .int 3) (C := RX7) (T := TX7) (N := 3) hx hb hts (fun _ h => List.mem_cons_of_mem _ (List.mem_append_right _ h)) hown hK hP 0 rfl rfl 0 (by decide) (hts (.fieldLink RX7 9 "DrumBoats$Tape" "size" "I") (List.mem_of_getElem? (i := 1) rfl)) (fun _ h9 => h9) rfl dX7_append_24 ?_
  refine lv_lload_n hx hb dX7_append_27 rfl (lv_at hl 2 rfl) ?_
  refine lv_bipush (v := 8) hx hb dX7_append_28 (by decide +kernel) ?_
  refine lv_iload hx hb dX7_append_30 (lv_at hl 0 rfl) ?_
  refine lv_imul hx hb dX7_append_32 ?_
  refine ti_eq (y := 24) (by decide +kernel) ?_
  refine lv_lushr hx hb dX7_append_33 rfl ?_
  refine lv_topl (fun z10 _ => ?_)
  refine lv_ldc2 (v := 255) hx hb hown (hts (.constantLong RX7 22 (255)) (List.mem_of_getElem? (i := 3) rfl)) dX7_append_34 ?_
  refine lv_land hx hb dX7_append_37 ?_
  refine lv_topl (fun z11 _ => ?_)
  refine lv_l2i hx hb dX7_append_38 rfl ?_
  refine lv_topi (fun z12 _ => ?_)
  refine va_iast hx hb hK hP hD hS 1 0 rfl rfl (by unfold vp_in; decide +kernel) dX7_append_39 (fun H locs hP hD hS => ?_)
  have hP : va_P (dC, dI) vwCl [(h0, .inr (7, [.int 3, .int 0, .ref aBy])), (aBy, .inl (caBy, 120, .inl (upd (upd (upd (upd (fun _ => 0) (0 : Int32).toNatClampNeg z3) (1 : Int32).toNatClampNeg z6) (2 : Int32).toNatClampNeg z9) (3 : Int32).toNatClampNeg z12)))] H := hP
  have hD : va_D A [(h0, .inr (7, [.int 3, .int 0, .ref aBy])), (aBy, .inl (caBy, 120, .inl (upd (upd (upd (upd (fun _ => 0) (0 : Int32).toNatClampNeg z3) (1 : Int32).toNatClampNeg z6) (2 : Int32).toNatClampNeg z9) (3 : Int32).toNatClampNeg z12)))] := hD
  refine lv_aload_n hx hb dX7_append_40 rfl (lv_at hl 1 rfl) ?_
  refine lv_dup hx hb dX7_append_41 rfl ?_
  refine va_get (D := (dC, dI)) (ci := 7) (v := .int 3) (C := RX7) (T := TX7) (N := 3) hx hb hts (fun _ h => List.mem_cons_of_mem _ (List.mem_append_right _ h)) hown hK hP 0 rfl rfl 0 (by decide) (hts (.fieldLink RX7 9 "DrumBoats$Tape" "size" "I") (List.mem_of_getElem? (i := 1) rfl)) (fun _ h9 => h9) rfl dX7_append_42 ?_
  refine lv_iconst (v := 1) hx hb dX7_append_45 (by decide +kernel) ?_
  refine lv_iadd hx hb dX7_append_46 ?_
  refine ti_eq (y := 4) (by decide +kernel) ?_
  refine va_put (D := (dC, dI)) (ci := 7) (v := .int 4) (ty := .int) (C := RX7) (T := TX7) (N := 3) hx hb hts (fun _ h => List.mem_cons_of_mem _ (List.mem_append_right _ h)) tyX7 tyX7_ok nmX7 hown hK hP hD hS 0 rfl rfl 0 (by decide) (hts (.fieldLink RX7 9 "DrumBoats$Tape" "size" "I") (List.mem_of_getElem? (i := 1) rfl)) (fun _ h9 => h9) rfl (by decide +kernel) rfl rfl (Nat.le_of_ble_eq_true rfl) dX7_append_47 (fun H locs hP hD hS => ?_)
  have hP : va_P (dC, dI) vwCl [(h0, .inr (7, [.int 4, .int 0, .ref aBy])), (aBy, .inl (caBy, 120, .inl (upd (upd (upd (upd (fun _ => 0) (0 : Int32).toNatClampNeg z3) (1 : Int32).toNatClampNeg z6) (2 : Int32).toNatClampNeg z9) (3 : Int32).toNatClampNeg z12)))] H := hP
  have hD : va_D A [(h0, .inr (7, [.int 4, .int 0, .ref aBy])), (aBy, .inl (caBy, 120, .inl (upd (upd (upd (upd (fun _ => 0) (0 : Int32).toNatClampNeg z3) (1 : Int32).toNatClampNeg z6) (2 : Int32).toNatClampNeg z9) (3 : Int32).toNatClampNeg z12)))] := hD
  refine lv_iinc (v := 2) (lv' := [(4, .int 2), (0, .ref h0), (1, .long w), (3, .int 7)]) hx hb dX7_append_50 hl (k := 0) rfl (by decide +kernel) (by decide) rfl (fun ls hl => ?_)
  refine lv_goto (tgt := 5) hx hb dX7_append_53 (by decide) ?_
  refine lv_iload hx hb dX7_append_5 (lv_at hl 0 rfl) ?_
  refine lv_if_lt (tgt := 56) hx hb dX7_append_7 (by decide) (fun c9 => absurd c9 (by decide +kernel)) (fun _ => ?_)
  refine lv_aload_n hx hb dX7_append_10 rfl (lv_at hl 1 rfl) ?_
  refine va_get (D := (dC, dI)) (ci := 7) (v := .int 4) (C := RX7) (T := TX7) (N := 3) hx hb hts (fun _ h => List.mem_cons_of_mem _ (List.mem_append_right _ h)) hown hK hP 0 rfl rfl 0 (by decide) (hts (.fieldLink RX7 9 "DrumBoats$Tape" "size" "I") (List.mem_of_getElem? (i := 1) rfl)) (fun _ h9 => h9) rfl dX7_append_11 ?_
  refine lv_bipush (v := 120) hx hb dX7_append_14 (by decide +kernel) ?_
  refine lv_icmp_ge (tgt := 56) hx hb dX7_append_16 (by decide) (fun c9 => absurd c9 (by decide +kernel)) (fun _ => ?_)
  refine lv_aload_n hx hb dX7_append_19 rfl (lv_at hl 1 rfl) ?_
  refine va_get (D := (dC, dI)) (ci := 7) (v := .ref aBy) (C := RX7) (T := TX7) (N := 3) hx hb hts (fun _ h => List.mem_cons_of_mem _ (List.mem_append_right _ h)) hown hK hP 0 rfl rfl 2 (by decide) (hts (.fieldLink RX7 18 "DrumBoats$Tape" "bytes" "[I") (List.mem_of_getElem? (i := 2) rfl)) (fun _ h9 => h9) rfl dX7_append_20 ?_
  refine lv_aload_n hx hb dX7_append_23 rfl (lv_at hl 1 rfl) ?_
  refine va_get (D := (dC, dI)) (ci := 7) (v := .int 4) (C := RX7) (T := TX7) (N := 3) hx hb hts (fun _ h => List.mem_cons_of_mem _ (List.mem_append_right _ h)) hown hK hP 0 rfl rfl 0 (by decide) (hts (.fieldLink RX7 9 "DrumBoats$Tape" "size" "I") (List.mem_of_getElem? (i := 1) rfl)) (fun _ h9 => h9) rfl dX7_append_24 ?_
  refine lv_lload_n hx hb dX7_append_27 rfl (lv_at hl 2 rfl) ?_
  refine lv_bipush (v := 8) hx hb dX7_append_28 (by decide +kernel) ?_
  refine lv_iload hx hb dX7_append_30 (lv_at hl 0 rfl) ?_
  refine lv_imul hx hb dX7_append_32 ?_
  refine ti_eq (y := 16) (by decide +kernel) ?_
  refine lv_lushr hx hb dX7_append_33 rfl ?_
  refine lv_topl (fun z13 _ => ?_)
  refine lv_ldc2 (v := 255) hx hb hown (hts (.constantLong RX7 22 (255)) (List.mem_of_getElem? (i := 3) rfl)) dX7_append_34 ?_
  refine lv_land hx hb dX7_append_37 ?_
  refine lv_topl (fun z14 _ => ?_)
  refine lv_l2i hx hb dX7_append_38 rfl ?_
  refine lv_topi (fun z15 _ => ?_)
  refine va_iast hx hb hK hP hD hS 1 0 rfl rfl (by unfold vp_in; decide +kernel) dX7_append_39 (fun H locs hP hD hS => ?_)
  have hP : va_P (dC, dI) vwCl [(h0, .inr (7, [.int 4, .int 0, .ref aBy])), (aBy, .inl (caBy, 120, .inl (upd (upd (upd (upd (upd (fun _ => 0) (0 : Int32).toNatClampNeg z3) (1 : Int32).toNatClampNeg z6) (2 : Int32).toNatClampNeg z9) (3 : Int32).toNatClampNeg z12) (4 : Int32).toNatClampNeg z15)))] H := hP
  have hD : va_D A [(h0, .inr (7, [.int 4, .int 0, .ref aBy])), (aBy, .inl (caBy, 120, .inl (upd (upd (upd (upd (upd (fun _ => 0) (0 : Int32).toNatClampNeg z3) (1 : Int32).toNatClampNeg z6) (2 : Int32).toNatClampNeg z9) (3 : Int32).toNatClampNeg z12) (4 : Int32).toNatClampNeg z15)))] := hD
  refine lv_aload_n hx hb dX7_append_40 rfl (lv_at hl 1 rfl) ?_
  refine lv_dup hx hb dX7_append_41 rfl ?_
  refine va_get (D := (dC, dI)) (ci := 7) (v := .int 4) (C := RX7) (T := TX7) (N := 3) hx hb hts (fun _ h => List.mem_cons_of_mem _ (List.mem_append_right _ h)) hown hK hP 0 rfl rfl 0 (by decide) (hts (.fieldLink RX7 9 "DrumBoats$Tape" "size" "I") (List.mem_of_getElem? (i := 1) rfl)) (fun _ h9 => h9) rfl dX7_append_42 ?_
  refine lv_iconst (v := 1) hx hb dX7_append_45 (by decide +kernel) ?_
  refine lv_iadd hx hb dX7_append_46 ?_
  refine ti_eq (y := 5) (by decide +kernel) ?_
  refine va_put (D := (dC, dI)) (ci := 7) (v := .int 5) (ty := .int) (C := RX7) (T := TX7) (N := 3) hx hb hts (fun _ h => List.mem_cons_of_mem _ (List.mem_append_right _ h)) tyX7 tyX7_ok nmX7 hown hK hP hD hS 0 rfl rfl 0 (by decide) (hts (.fieldLink RX7 9 "DrumBoats$Tape" "size" "I") (List.mem_of_getElem? (i := 1) rfl)) (fun _ h9 => h9) rfl (by decide +kernel) rfl rfl (Nat.le_of_ble_eq_true rfl) dX7_append_47 (fun H locs hP hD hS => ?_)
  have hP : va_P (dC, dI) vwCl [(h0, .inr (7, [.int 5, .int 0, .ref aBy])), (aBy, .inl (caBy, 120, .inl (upd (upd (upd (upd (upd (fun _ => 0) (0 : Int32).toNatClampNeg z3) (1 : Int32).toNatClampNeg z6) (2 : Int32).toNatClampNeg z9) (3 : Int32).toNatClampNeg z12) (4 : Int32).toNatClampNeg z15)))] H := hP
  have hD : va_D A [(h0, .inr (7, [.int 5, .int 0, .ref aBy])), (aBy, .inl (caBy, 120, .inl (upd (upd (upd (upd (upd (fun _ => 0) (0 : Int32).toNatClampNeg z3) (1 : Int32).toNatClampNeg z6) (2 : Int32).toNatClampNeg z9) (3 : Int32).toNatClampNeg z12) (4 : Int32).toNatClampNeg z15)))] := hD
  refine lv_iinc (v := 1) (lv' := [(4, .int 1), (0, .ref h0), (1, .long w), (3, .int 7)]) hx hb dX7_append_50 hl (k := 0) rfl (by decide +kernel) (by decide) rfl (fun ls hl => ?_)
  refine lv_goto (tgt := 5) hx hb dX7_append_53 (by decide) ?_
  refine lv_iload hx hb dX7_append_5 (lv_at hl 0 rfl) ?_
  refine lv_if_lt (tgt := 56) hx hb dX7_append_7 (by decide) (fun c9 => absurd c9 (by decide +kernel)) (fun _ => ?_)
  refine lv_aload_n hx hb dX7_append_10 rfl (lv_at hl 1 rfl) ?_
  refine va_get (D := (dC, dI)) (ci := 7) (v := .int 5) (C := RX7) (T := TX7) (N := 3) hx hb hts (fun _ h => List.mem_cons_of_mem _ (List.mem_append_right _ h)) hown hK hP 0 rfl rfl 0 (by decide) (hts (.fieldLink RX7 9 "DrumBoats$Tape" "size" "I") (List.mem_of_getElem? (i := 1) rfl)) (fun _ h9 => h9) rfl dX7_append_11 ?_
  refine lv_bipush (v := 120) hx hb dX7_append_14 (by decide +kernel) ?_
  refine lv_icmp_ge (tgt := 56) hx hb dX7_append_16 (by decide) (fun c9 => absurd c9 (by decide +kernel)) (fun _ => ?_)
  refine lv_aload_n hx hb dX7_append_19 rfl (lv_at hl 1 rfl) ?_
  refine va_get (D := (dC, dI)) (ci := 7) (v := .ref aBy) (C := RX7) (T := TX7) (N := 3) hx hb hts (fun _ h => List.mem_cons_of_mem _ (List.mem_append_right _ h)) hown hK hP 0 rfl rfl 2 (by decide) (hts (.fieldLink RX7 18 "DrumBoats$Tape" "bytes" "[I") (List.mem_of_getElem? (i := 2) rfl)) (fun _ h9 => h9) rfl dX7_append_20 ?_
  refine lv_aload_n hx hb dX7_append_23 rfl (lv_at hl 1 rfl) ?_
  refine va_get (D := (dC, dI)) (ci := 7) (v := .int 5) (C := RX7) (T := TX7) (N := 3) hx hb hts (fun _ h => List.mem_cons_of_mem _ (List.mem_append_right _ h)) hown hK hP 0 rfl rfl 0 (by decide) (hts (.fieldLink RX7 9 "DrumBoats$Tape" "size" "I") (List.mem_of_getElem? (i := 1) rfl)) (fun _ h9 => h9) rfl dX7_append_24 ?_
  refine lv_lload_n hx hb dX7_append_27 rfl (lv_at hl 2 rfl) ?_
  refine lv_bipush (v := 8) hx hb dX7_append_28 (by decide +kernel) ?_
  refine lv_iload hx hb dX7_append_30 (lv_at hl 0 rfl) ?_
  refine lv_imul hx hb dX7_append_32 ?_
  refine ti_eq (y := 8) (by decide +kernel) ?_
  refine lv_lushr hx hb dX7_append_33 rfl ?_
  refine lv_topl (fun z16 _ => ?_)
  refine lv_ldc2 (v := 255) hx hb hown (hts (.constantLong RX7 22 (255)) (List.mem_of_getElem? (i := 3) rfl)) dX7_append_34 ?_
  refine lv_land hx hb dX7_append_37 ?_
  refine lv_topl (fun z17 _ => ?_)
  refine lv_l2i hx hb dX7_append_38 rfl ?_
  refine lv_topi (fun z18 _ => ?_)
  refine va_iast hx hb hK hP hD hS 1 0 rfl rfl (by unfold vp_in; decide +kernel) dX7_append_39 (fun H locs hP hD hS => ?_)
  have hP : va_P (dC, dI) vwCl [(h0, .inr (7, [.int 5, .int 0, .ref aBy])), (aBy, .inl (caBy, 120, .inl (upd (upd (upd (upd (upd (upd (fun _ => 0) (0 : Int32).toNatClampNeg z3) (1 : Int32).toNatClampNeg z6) (2 : Int32).toNatClampNeg z9) (3 : Int32).toNatClampNeg z12) (4 : Int32).toNatClampNeg z15) (5 : Int32).toNatClampNeg z18)))] H := hP
  have hD : va_D A [(h0, .inr (7, [.int 5, .int 0, .ref aBy])), (aBy, .inl (caBy, 120, .inl (upd (upd (upd (upd (upd (upd (fun _ => 0) (0 : Int32).toNatClampNeg z3) (1 : Int32).toNatClampNeg z6) (2 : Int32).toNatClampNeg z9) (3 : Int32).toNatClampNeg z12) (4 : Int32).toNatClampNeg z15) (5 : Int32).toNatClampNeg z18)))] := hD
  refine lv_aload_n hx hb dX7_append_40 rfl (lv_at hl 1 rfl) ?_
  refine lv_dup hx hb dX7_append_41 rfl ?_
  refine va_get (D := (dC, dI)) (ci := 7) (v := .int 5) (C := RX7) (T := TX7) (N := 3) hx hb hts (fun _ h => List.mem_cons_of_mem _ (List.mem_append_right _ h)) hown hK hP 0 rfl rfl 0 (by decide) (hts (.fieldLink RX7 9 "DrumBoats$Tape" "size" "I") (List.mem_of_getElem? (i := 1) rfl)) (fun _ h9 => h9) rfl dX7_append_42 ?_
  refine lv_iconst (v := 1) hx hb dX7_append_45 (by decide +kernel) ?_
  refine lv_iadd hx hb dX7_append_46 ?_
  refine ti_eq (y := 6) (by decide +kernel) ?_
  refine va_put (D := (dC, dI)) (ci := 7) (v := .int 6) (ty := .int) (C := RX7) (T := TX7) (N := 3) hx hb hts (fun _ h => List.mem_cons_of_mem _ (List.mem_append_right _ h)) tyX7 tyX7_ok nmX7 hown hK hP hD hS 0 rfl rfl 0 (by decide) (hts (.fieldLink RX7 9 "DrumBoats$Tape" "size" "I") (List.mem_of_getElem? (i := 1) rfl)) (fun _ h9 => h9) rfl (by decide +kernel) rfl rfl (Nat.le_of_ble_eq_true rfl) dX7_append_47 (fun H locs hP hD hS => ?_)
  have hP : va_P (dC, dI) vwCl [(h0, .inr (7, [.int 6, .int 0, .ref aBy])), (aBy, .inl (caBy, 120, .inl (upd (upd (upd (upd (upd (upd (fun _ => 0) (0 : Int32).toNatClampNeg z3) (1 : Int32).toNatClampNeg z6) (2 : Int32).toNatClampNeg z9) (3 : Int32).toNatClampNeg z12) (4 : Int32).toNatClampNeg z15) (5 : Int32).toNatClampNeg z18)))] H := hP
  have hD : va_D A [(h0, .inr (7, [.int 6, .int 0, .ref aBy])), (aBy, .inl (caBy, 120, .inl (upd (upd (upd (upd (upd (upd (fun _ => 0) (0 : Int32).toNatClampNeg z3) (1 : Int32).toNatClampNeg z6) (2 : Int32).toNatClampNeg z9) (3 : Int32).toNatClampNeg z12) (4 : Int32).toNatClampNeg z15) (5 : Int32).toNatClampNeg z18)))] := hD
  refine lv_iinc (v := 0) (lv' := [(4, .int 0), (0, .ref h0), (1, .long w), (3, .int 7)]) hx hb dX7_append_50 hl (k := 0) rfl (by decide +kernel) (by decide) rfl (fun ls hl => ?_)
  refine lv_goto (tgt := 5) hx hb dX7_append_53 (by decide) ?_
  refine lv_iload hx hb dX7_append_5 (lv_at hl 0 rfl) ?_
  refine lv_if_lt (tgt := 56) hx hb dX7_append_7 (by decide) (fun c9 => absurd c9 (by decide +kernel)) (fun _ => ?_)
  refine lv_aload_n hx hb dX7_append_10 rfl (lv_at hl 1 rfl) ?_
  refine va_get (D := (dC, dI)) (ci := 7) (v := .int 6) (C := RX7) (T := TX7) (N := 3) hx hb hts (fun _ h => List.mem_cons_of_mem _ (List.mem_append_right _ h)) hown hK hP 0 rfl rfl 0 (by decide) (hts (.fieldLink RX7 9 "DrumBoats$Tape" "size" "I") (List.mem_of_getElem? (i := 1) rfl)) (fun _ h9 => h9) rfl dX7_append_11 ?_
  refine lv_bipush (v := 120) hx hb dX7_append_14 (by decide +kernel) ?_
  refine lv_icmp_ge (tgt := 56) hx hb dX7_append_16 (by decide) (fun c9 => absurd c9 (by decide +kernel)) (fun _ => ?_)
  refine lv_aload_n hx hb dX7_append_19 rfl (lv_at hl 1 rfl) ?_
  refine va_get (D := (dC, dI)) (ci := 7) (v := .ref aBy) (C := RX7) (T := TX7) (N := 3) hx hb hts (fun _ h => List.mem_cons_of_mem _ (List.mem_append_right _ h)) hown hK hP 0 rfl rfl 2 (by decide) (hts (.fieldLink RX7 18 "DrumBoats$Tape" "bytes" "[I") (List.mem_of_getElem? (i := 2) rfl)) (fun _ h9 => h9) rfl dX7_append_20 ?_
  refine lv_aload_n hx hb dX7_append_23 rfl (lv_at hl 1 rfl) ?_
  refine va_get (D := (dC, dI)) (ci := 7) (v := .int 6) (C := RX7) (T := TX7) (N := 3) hx hb hts (fun _ h => List.mem_cons_of_mem _ (List.mem_append_right _ h)) hown hK hP 0 rfl rfl 0 (by decide) (hts (.fieldLink RX7 9 "DrumBoats$Tape" "size" "I") (List.mem_of_getElem? (i := 1) rfl)) (fun _ h9 => h9) rfl dX7_append_24 ?_
  refine lv_lload_n hx hb dX7_append_27 rfl (lv_at hl 2 rfl) ?_
  refine lv_bipush (v := 8) hx hb dX7_append_28 (by decide +kernel) ?_
  refine lv_iload hx hb dX7_append_30 (lv_at hl 0 rfl) ?_
  refine lv_imul hx hb dX7_append_32 ?_
  refine ti_eq (y := 0) (by decide +kernel) ?_
  refine lv_lushr hx hb dX7_append_33 rfl ?_
  refine lv_topl (fun z19 _ => ?_)
  refine lv_ldc2 (v := 255) hx hb hown (hts (.constantLong RX7 22 (255)) (List.mem_of_getElem? (i := 3) rfl)) dX7_append_34 ?_
  refine lv_land hx hb dX7_append_37 ?_
  refine lv_topl (fun z20 _ => ?_)
  refine lv_l2i hx hb dX7_append_38 rfl ?_
  refine lv_topi (fun z21 _ => ?_)
  refine va_iast hx hb hK hP hD hS 1 0 rfl rfl (by unfold vp_in; decide +kernel) dX7_append_39 (fun H locs hP hD hS => ?_)
  have hP : va_P (dC, dI) vwCl [(h0, .inr (7, [.int 6, .int 0, .ref aBy])), (aBy, .inl (caBy, 120, .inl (upd (upd (upd (upd (upd (upd (upd (fun _ => 0) (0 : Int32).toNatClampNeg z3) (1 : Int32).toNatClampNeg z6) (2 : Int32).toNatClampNeg z9) (3 : Int32).toNatClampNeg z12) (4 : Int32).toNatClampNeg z15) (5 : Int32).toNatClampNeg z18) (6 : Int32).toNatClampNeg z21)))] H := hP
  have hD : va_D A [(h0, .inr (7, [.int 6, .int 0, .ref aBy])), (aBy, .inl (caBy, 120, .inl (upd (upd (upd (upd (upd (upd (upd (fun _ => 0) (0 : Int32).toNatClampNeg z3) (1 : Int32).toNatClampNeg z6) (2 : Int32).toNatClampNeg z9) (3 : Int32).toNatClampNeg z12) (4 : Int32).toNatClampNeg z15) (5 : Int32).toNatClampNeg z18) (6 : Int32).toNatClampNeg z21)))] := hD
  refine lv_aload_n hx hb dX7_append_40 rfl (lv_at hl 1 rfl) ?_
  refine lv_dup hx hb dX7_append_41 rfl ?_
  refine va_get (D := (dC, dI)) (ci := 7) (v := .int 6) (C := RX7) (T := TX7) (N := 3) hx hb hts (fun _ h => List.mem_cons_of_mem _ (List.mem_append_right _ h)) hown hK hP 0 rfl rfl 0 (by decide) (hts (.fieldLink RX7 9 "DrumBoats$Tape" "size" "I") (List.mem_of_getElem? (i := 1) rfl)) (fun _ h9 => h9) rfl dX7_append_42 ?_
  refine lv_iconst (v := 1) hx hb dX7_append_45 (by decide +kernel) ?_
  refine lv_iadd hx hb dX7_append_46 ?_
  refine ti_eq (y := 7) (by decide +kernel) ?_
  refine va_put (D := (dC, dI)) (ci := 7) (v := .int 7) (ty := .int) (C := RX7) (T := TX7) (N := 3) hx hb hts (fun _ h => List.mem_cons_of_mem _ (List.mem_append_right _ h)) tyX7 tyX7_ok nmX7 hown hK hP hD hS 0 rfl rfl 0 (by decide) (hts (.fieldLink RX7 9 "DrumBoats$Tape" "size" "I") (List.mem_of_getElem? (i := 1) rfl)) (fun _ h9 => h9) rfl (by decide +kernel) rfl rfl (Nat.le_of_ble_eq_true rfl) dX7_append_47 (fun H locs hP hD hS => ?_)
  have hP : va_P (dC, dI) vwCl [(h0, .inr (7, [.int 7, .int 0, .ref aBy])), (aBy, .inl (caBy, 120, .inl (upd (upd (upd (upd (upd (upd (upd (fun _ => 0) (0 : Int32).toNatClampNeg z3) (1 : Int32).toNatClampNeg z6) (2 : Int32).toNatClampNeg z9) (3 : Int32).toNatClampNeg z12) (4 : Int32).toNatClampNeg z15) (5 : Int32).toNatClampNeg z18) (6 : Int32).toNatClampNeg z21)))] H := hP
  have hD : va_D A [(h0, .inr (7, [.int 7, .int 0, .ref aBy])), (aBy, .inl (caBy, 120, .inl (upd (upd (upd (upd (upd (upd (upd (fun _ => 0) (0 : Int32).toNatClampNeg z3) (1 : Int32).toNatClampNeg z6) (2 : Int32).toNatClampNeg z9) (3 : Int32).toNatClampNeg z12) (4 : Int32).toNatClampNeg z15) (5 : Int32).toNatClampNeg z18) (6 : Int32).toNatClampNeg z21)))] := hD
  refine lv_iinc (v := (-1)) (lv' := [(4, .int (-1)), (0, .ref h0), (1, .long w), (3, .int 7)]) hx hb dX7_append_50 hl (k := 0) rfl (by decide +kernel) (by decide) rfl (fun ls hl => ?_)
  refine lv_goto (tgt := 5) hx hb dX7_append_53 (by decide) ?_
  refine lv_iload hx hb dX7_append_5 (lv_at hl 0 rfl) ?_
  refine lv_if_lt (tgt := 56) hx hb dX7_append_7 (by decide) (fun _ => ?_) (fun c9 => absurd c9 (by decide +kernel))
  have hP9 := hP.sub (ws' := [(h0, .inr (7, [.int 7, .int 0, .ref aBy]))]) [0] rfl
  have hD9 := hD.sub (ws' := [(h0, .inr (7, [.int 7, .int 0, .ref aBy]))]) [0] (by decide) rfl
  have hK9 := hK.sub (tys' := []) [] rfl
  refine W.widen (k := 0) (n := 0) (Nat.le_of_ble_eq_true rfl) (Nat.le_of_ble_eq_true rfl) ?_
  exact W.vret hx hb hr (fun t ht hW => ⟨⟨(), rfl, trivial, by rw [ht]; exact hP9, va_K.moved hW.alike hK9, hD9⟩, hS.F ht⟩) hS.2.2 dX7_append_56

set_option maxHeartbeats 4000000 in
set_option maxRecDepth 100000 in
theorem k_X7_append_8 (l : Launch) (dC : Nat → ClassId) (dI : Nat → Nat → Nat) (sz : Nat) (h0 : Nat) (w : Int64) (aBy : Nat) (caBy : ClassId) : Met l yX7_append wsX7_append ({ frames := 0, cells := 0, slots := 0, locals := 0 }) (va_Pc [.ref h0, .long w, .int 8] (fun U => U.heap.size = sz ∧ va_P (dC, dI) vwCl [(h0, .inr (7, [.int 0, .int 0, .ref aBy])), (aBy, .inl (caBy, 120, .inl (fun _ => 0)))] U.heap ∧ va_K (dC, dI) vwCl [(caBy, .int)] U ∧ va_D (fun _ => True) [(h0, .inr (7, [.int 0, .int 0, .ref aBy])), (aBy, .inl (caBy, 120, .inl (fun _ => 0)))])) (va_Qv (fun _ : Unit => True) (fun _ t => va_P (dC, dI) vwCl [(h0, .inr (7, [.int 8, .int 0, .ref aBy]))] t.heap ∧ va_K (dC, dI) vwCl [] t ∧ va_D (va_A [(h0, .inr (7, [.int 0, .int 0, .ref aBy])), (aBy, .inl (caBy, 120, .inl (fun _ => 0)))] sz) [(h0, .inr (7, [.int 8, .int 0, .ref aBy]))]) (va_A [(h0, .inr (7, [.int 0, .int 0, .ref aBy])), (aBy, .inl (caBy, 120, .inl (fun _ => 0)))] sz)) 0 0 (va_A [(h0, .inr (7, [.int 0, .int 0, .ref aBy])), (aBy, .inl (caBy, 120, .inl (fun _ => 0)))] sz) := by
  refine Met.ofW (cc := cX7_append) (maxL := 5) (ret := none) (by decide) rfl ?_
  intro p e s m args below meth c s₁ B hml hv
  obtain ⟨rfl, hsz, hP, hK, hD0⟩ := hv
  have hx := B.exec
  have hb := B.bytes
  have hr := B.returns
  have hts := atoms_spec (ws := wsX7_append) B.pre
  have hown : s.vm.findClass RX7 = some m.cls := findClass_of_methodNamed B.named
  have hlocks := B.notSynchronized
  subst hsz
  have hD := hD0.self (sz := s.heap.size)
  generalize hAe : va_A [(h0, .inr (7, [.int 0, .int 0, .ref aBy])), (aBy, .inl (caBy, 120, .inl (fun _ => 0)))] s.heap.size = A at hD ⊢
  have hA : ∀ q : Nat, s.heap.size ≤ q → A q := fun q h => by rw [← hAe]; exact Or.inr h
  have hS : va_S A s.heap s.heap [] := va_S.rf
  have hl := lv_entry ([.ref h0, .long w, .int 8]) (n := 5) (Nat.le_of_ble_eq_true rfl)
  rw [lg_entry_eq]
  generalize (lg_sl ([.ref h0, .long w, .int 8]) ++ List.replicate (5 - (lg_sl ([.ref h0, .long w, .int 8])).length) Slot.unset).toArray = ls at hl ⊢
  have hl : lv_has ls 5 [(0, .ref h0), (1, .long w), (3, .int 8)] := hl
  refine lv_iload_n hx hb dX7_append_0 rfl (lv_at hl 2 rfl) ?_
  refine lv_iconst (v := 1) hx hb dX7_append_1 (by decide +kernel) ?_
  refine lv_isub hx hb dX7_append_2 ?_
  refine ti_eq (y := 7) (by decide +kernel) ?_
  refine lv_istore (lv' := [(4, .int 7), (0, .ref h0), (1, .long w), (3, .int 8)]) hx hb dX7_append_3 hl (by decide) rfl (fun ls hl => ?_)
  refine lv_iload hx hb dX7_append_5 (lv_at hl 0 rfl) ?_
  refine lv_if_lt (tgt := 56) hx hb dX7_append_7 (by decide) (fun c9 => absurd c9 (by decide +kernel)) (fun _ => ?_)
  refine lv_aload_n hx hb dX7_append_10 rfl (lv_at hl 1 rfl) ?_
  refine va_get (D := (dC, dI)) (ci := 7) (v := .int 0) (C := RX7) (T := TX7) (N := 3) hx hb hts (fun _ h => List.mem_cons_of_mem _ (List.mem_append_right _ h)) hown hK hP 0 rfl rfl 0 (by decide) (hts (.fieldLink RX7 9 "DrumBoats$Tape" "size" "I") (List.mem_of_getElem? (i := 1) rfl)) (fun _ h9 => h9) rfl dX7_append_11 ?_
  refine lv_bipush (v := 120) hx hb dX7_append_14 (by decide +kernel) ?_
  refine lv_icmp_ge (tgt := 56) hx hb dX7_append_16 (by decide) (fun c9 => absurd c9 (by decide +kernel)) (fun _ => ?_)
  refine lv_aload_n hx hb dX7_append_19 rfl (lv_at hl 1 rfl) ?_
  refine va_get (D := (dC, dI)) (ci := 7) (v := .ref aBy) (C := RX7) (T := TX7) (N := 3) hx hb hts (fun _ h => List.mem_cons_of_mem _ (List.mem_append_right _ h)) hown hK hP 0 rfl rfl 2 (by decide) (hts (.fieldLink RX7 18 "DrumBoats$Tape" "bytes" "[I") (List.mem_of_getElem? (i := 2) rfl)) (fun _ h9 => h9) rfl dX7_append_20 ?_
  refine lv_aload_n hx hb dX7_append_23 rfl (lv_at hl 1 rfl) ?_
  refine va_get (D := (dC, dI)) (ci := 7) (v := .int 0) (C := RX7) (T := TX7) (N := 3) hx hb hts (fun _ h => List.mem_cons_of_mem _ (List.mem_append_right _ h)) hown hK hP 0 rfl rfl 0 (by decide) (hts (.fieldLink RX7 9 "DrumBoats$Tape" "size" "I") (List.mem_of_getElem? (i := 1) rfl)) (fun _ h9 => h9) rfl dX7_append_24 ?_
  refine lv_lload_n hx hb dX7_append_27 rfl (lv_at hl 2 rfl) ?_
  refine lv_bipush (v := 8) hx hb dX7_append_28 (by decide +kernel) ?_
  refine lv_iload hx hb dX7_append_30 (lv_at hl 0 rfl) ?_
  refine lv_imul hx hb dX7_append_32 ?_
  refine ti_eq (y := 56) (by decide +kernel) ?_
  refine lv_lushr hx hb dX7_append_33 rfl ?_
  refine lv_topl (fun z1 _ => ?_)
  refine lv_ldc2 (v := 255) hx hb hown (hts (.constantLong RX7 22 (255)) (List.mem_of_getElem? (i := 3) rfl)) dX7_append_34 ?_
  refine lv_land hx hb dX7_append_37 ?_
  refine lv_topl (fun z2 _ => ?_)
  refine lv_l2i hx hb dX7_append_38 rfl ?_
  refine lv_topi (fun z3 _ => ?_)
  refine va_iast hx hb hK hP hD hS 1 0 rfl rfl (by unfold vp_in; decide +kernel) dX7_append_39 (fun H locs hP hD hS => ?_)
  have hP : va_P (dC, dI) vwCl [(h0, .inr (7, [.int 0, .int 0, .ref aBy])), (aBy, .inl (caBy, 120, .inl (upd (fun _ => 0) (0 : Int32).toNatClampNeg z3)))] H := hP
  have hD : va_D A [(h0, .inr (7, [.int 0, .int 0, .ref aBy])), (aBy, .inl (caBy, 120, .inl (upd (fun _ => 0) (0 : Int32).toNatClampNeg z3)))] := hD
  refine lv_aload_n hx hb dX7_append_40 rfl (lv_at hl 1 rfl) ?_
  refine lv_dup hx hb dX7_append_41 rfl ?_
  refine va_get (D := (dC, dI)) (ci := 7) (v := .int 0) (C := RX7) (T := TX7) (N := 3) hx hb hts (fun _ h => List.mem_cons_of_mem _ (List.mem_append_right _ h)) hown hK hP 0 rfl rfl 0 (by decide) (hts (.fieldLink RX7 9 "DrumBoats$Tape" "size" "I") (List.mem_of_getElem? (i := 1) rfl)) (fun _ h9 => h9) rfl dX7_append_42 ?_
  refine lv_iconst (v := 1) hx hb dX7_append_45 (by decide +kernel) ?_
  refine lv_iadd hx hb dX7_append_46 ?_
  refine ti_eq (y := 1) (by decide +kernel) ?_
  refine va_put (D := (dC, dI)) (ci := 7) (v := .int 1) (ty := .int) (C := RX7) (T := TX7) (N := 3) hx hb hts (fun _ h => List.mem_cons_of_mem _ (List.mem_append_right _ h)) tyX7 tyX7_ok nmX7 hown hK hP hD hS 0 rfl rfl 0 (by decide) (hts (.fieldLink RX7 9 "DrumBoats$Tape" "size" "I") (List.mem_of_getElem? (i := 1) rfl)) (fun _ h9 => h9) rfl (by decide +kernel) rfl rfl (Nat.le_of_ble_eq_true rfl) dX7_append_47 (fun H locs hP hD hS => ?_)
  have hP : va_P (dC, dI) vwCl [(h0, .inr (7, [.int 1, .int 0, .ref aBy])), (aBy, .inl (caBy, 120, .inl (upd (fun _ => 0) (0 : Int32).toNatClampNeg z3)))] H := hP
  have hD : va_D A [(h0, .inr (7, [.int 1, .int 0, .ref aBy])), (aBy, .inl (caBy, 120, .inl (upd (fun _ => 0) (0 : Int32).toNatClampNeg z3)))] := hD
  refine lv_iinc (v := 6) (lv' := [(4, .int 6), (0, .ref h0), (1, .long w), (3, .int 8)]) hx hb dX7_append_50 hl (k := 0) rfl (by decide +kernel) (by decide) rfl (fun ls hl => ?_)
  refine lv_goto (tgt := 5) hx hb dX7_append_53 (by decide) ?_
  refine lv_iload hx hb dX7_append_5 (lv_at hl 0 rfl) ?_
  refine lv_if_lt (tgt := 56) hx hb dX7_append_7 (by decide) (fun c9 => absurd c9 (by decide +kernel)) (fun _ => ?_)
  refine lv_aload_n hx hb dX7_append_10 rfl (lv_at hl 1 rfl) ?_
  refine va_get (D := (dC, dI)) (ci := 7) (v := .int 1) (C := RX7) (T := TX7) (N := 3) hx hb hts (fun _ h => List.mem_cons_of_mem _ (List.mem_append_right _ h)) hown hK hP 0 rfl rfl 0 (by decide) (hts (.fieldLink RX7 9 "DrumBoats$Tape" "size" "I") (List.mem_of_getElem? (i := 1) rfl)) (fun _ h9 => h9) rfl dX7_append_11 ?_
  refine lv_bipush (v := 120) hx hb dX7_append_14 (by decide +kernel) ?_
  refine lv_icmp_ge (tgt := 56) hx hb dX7_append_16 (by decide) (fun c9 => absurd c9 (by decide +kernel)) (fun _ => ?_)
  refine lv_aload_n hx hb dX7_append_19 rfl (lv_at hl 1 rfl) ?_
  refine va_get (D := (dC, dI)) (ci := 7) (v := .ref aBy) (C := RX7) (T := TX7) (N := 3) hx hb hts (fun _ h => List.mem_cons_of_mem _ (List.mem_append_right _ h)) hown hK hP 0 rfl rfl 2 (by decide) (hts (.fieldLink RX7 18 "DrumBoats$Tape" "bytes" "[I") (List.mem_of_getElem? (i := 2) rfl)) (fun _ h9 => h9) rfl dX7_append_20 ?_
  refine lv_aload_n hx hb dX7_append_23 rfl (lv_at hl 1 rfl) ?_
  refine va_get (D := (dC, dI)) (ci := 7) (v := .int 1) (C := RX7) (T := TX7) (N := 3) hx hb hts (fun _ h => List.mem_cons_of_mem _ (List.mem_append_right _ h)) hown hK hP 0 rfl rfl 0 (by decide) (hts (.fieldLink RX7 9 "DrumBoats$Tape" "size" "I") (List.mem_of_getElem? (i := 1) rfl)) (fun _ h9 => h9) rfl dX7_append_24 ?_
  refine lv_lload_n hx hb dX7_append_27 rfl (lv_at hl 2 rfl) ?_
  refine lv_bipush (v := 8) hx hb dX7_append_28 (by decide +kernel) ?_
  refine lv_iload hx hb dX7_append_30 (lv_at hl 0 rfl) ?_
  refine lv_imul hx hb dX7_append_32 ?_
  refine ti_eq (y := 48) (by decide +kernel) ?_
  refine lv_lushr hx hb dX7_append_33 rfl ?_
  refine lv_topl (fun z4 _ => ?_)
  refine lv_ldc2 (v := 255) hx hb hown (hts (.constantLong RX7 22 (255)) (List.mem_of_getElem? (i := 3) rfl)) dX7_append_34 ?_
  refine lv_land hx hb dX7_append_37 ?_
  refine lv_topl (fun z5 _ => ?_)
  refine lv_l2i hx hb dX7_append_38 rfl ?_
  refine lv_topi (fun z6 _ => ?_)
  refine va_iast hx hb hK hP hD hS 1 0 rfl rfl (by unfold vp_in; decide +kernel) dX7_append_39 (fun H locs hP hD hS => ?_)
  have hP : va_P (dC, dI) vwCl [(h0, .inr (7, [.int 1, .int 0, .ref aBy])), (aBy, .inl (caBy, 120, .inl (upd (upd (fun _ => 0) (0 : Int32).toNatClampNeg z3) (1 : Int32).toNatClampNeg z6)))] H := hP
  have hD : va_D A [(h0, .inr (7, [.int 1, .int 0, .ref aBy])), (aBy, .inl (caBy, 120, .inl (upd (upd (fun _ => 0) (0 : Int32).toNatClampNeg z3) (1 : Int32).toNatClampNeg z6)))] := hD
  refine lv_aload_n hx hb dX7_append_40 rfl (lv_at hl 1 rfl) ?_
  refine lv_dup hx hb dX7_append_41 rfl ?_
  refine va_get (D := (dC, dI)) (ci := 7) (v := .int 1) (C := RX7) (T := TX7) (N := 3) hx hb hts (fun _ h => List.mem_cons_of_mem _ (List.mem_append_right _ h)) hown hK hP 0 rfl rfl 0 (by decide) (hts (.fieldLink RX7 9 "DrumBoats$Tape" "size" "I") (List.mem_of_getElem? (i := 1) rfl)) (fun _ h9 => h9) rfl dX7_append_42 ?_
  refine lv_iconst (v := 1) hx hb dX7_append_45 (by decide +kernel) ?_
  refine lv_iadd hx hb dX7_append_46 ?_
  refine ti_eq (y := 2) (by decide +kernel) ?_
  refine va_put (D := (dC, dI)) (ci := 7) (v := .int 2) (ty := .int) (C := RX7) (T := TX7) (N := 3) hx hb hts (fun _ h => List.mem_cons_of_mem _ (List.mem_append_right _ h)) tyX7 tyX7_ok nmX7 hown hK hP hD hS 0 rfl rfl 0 (by decide) (hts (.fieldLink RX7 9 "DrumBoats$Tape" "size" "I") (List.mem_of_getElem? (i := 1) rfl)) (fun _ h9 => h9) rfl (by decide +kernel) rfl rfl (Nat.le_of_ble_eq_true rfl) dX7_append_47 (fun H locs hP hD hS => ?_)
  have hP : va_P (dC, dI) vwCl [(h0, .inr (7, [.int 2, .int 0, .ref aBy])), (aBy, .inl (caBy, 120, .inl (upd (upd (fun _ => 0) (0 : Int32).toNatClampNeg z3) (1 : Int32).toNatClampNeg z6)))] H := hP
  have hD : va_D A [(h0, .inr (7, [.int 2, .int 0, .ref aBy])), (aBy, .inl (caBy, 120, .inl (upd (upd (fun _ => 0) (0 : Int32).toNatClampNeg z3) (1 : Int32).toNatClampNeg z6)))] := hD
  refine lv_iinc (v := 5) (lv' := [(4, .int 5), (0, .ref h0), (1, .long w), (3, .int 8)]) hx hb dX7_append_50 hl (k := 0) rfl (by decide +kernel) (by decide) rfl (fun ls hl => ?_)
  refine lv_goto (tgt := 5) hx hb dX7_append_53 (by decide) ?_
  refine lv_iload hx hb dX7_append_5 (lv_at hl 0 rfl) ?_
  refine lv_if_lt (tgt := 56) hx hb dX7_append_7 (by decide) (fun c9 => absurd c9 (by decide +kernel)) (fun _ => ?_)
  refine lv_aload_n hx hb dX7_append_10 rfl (lv_at hl 1 rfl) ?_
  refine va_get (D := (dC, dI)) (ci := 7) (v := .int 2) (C := RX7) (T := TX7) (N := 3) hx hb hts (fun _ h => List.mem_cons_of_mem _ (List.mem_append_right _ h)) hown hK hP 0 rfl rfl 0 (by decide) (hts (.fieldLink RX7 9 "DrumBoats$Tape" "size" "I") (List.mem_of_getElem? (i := 1) rfl)) (fun _ h9 => h9) rfl dX7_append_11 ?_
  refine lv_bipush (v := 120) hx hb dX7_append_14 (by decide +kernel) ?_
  refine lv_icmp_ge (tgt := 56) hx hb dX7_append_16 (by decide) (fun c9 => absurd c9 (by decide +kernel)) (fun _ => ?_)
  refine lv_aload_n hx hb dX7_append_19 rfl (lv_at hl 1 rfl) ?_
  refine va_get (D := (dC, dI)) (ci := 7) (v := .ref aBy) (C := RX7) (T := TX7) (N := 3) hx hb hts (fun _ h => List.mem_cons_of_mem _ (List.mem_append_right _ h)) hown hK hP 0 rfl rfl 2 (by decide) (hts (.fieldLink RX7 18 "DrumBoats$Tape" "bytes" "[I") (List.mem_of_getElem? (i := 2) rfl)) (fun _ h9 => h9) rfl dX7_append_20 ?_
  refine lv_aload_n hx hb dX7_append_23 rfl (lv_at hl 1 rfl) ?_
  refine va_get (D := (dC, dI)) (ci := 7) (v := .int 2) (C := RX7) (T := TX7) (N := 3) hx hb hts (fun _ h => List.mem_cons_of_mem _ (List.mem_append_right _ h)) hown hK hP 0 rfl rfl 0 (by decide) (hts (.fieldLink RX7 9 "DrumBoats$Tape" "size" "I") (List.mem_of_getElem? (i := 1) rfl)) (fun _ h9 => h9) rfl dX7_append_24 ?_
  refine lv_lload_n hx hb dX7_append_27 rfl (lv_at hl 2 rfl) ?_
  refine lv_bipush (v := 8) hx hb dX7_append_28 (by decide +kernel) ?_
  refine lv_iload hx hb dX7_append_30 (lv_at hl 0 rfl) ?_
  refine lv_imul hx hb dX7_append_32 ?_
  refine ti_eq (y := 40) (by decide +kernel) ?_
  refine lv_lushr hx hb dX7_append_33 rfl ?_
  refine lv_topl (fun z7 _ => ?_)
  refine lv_ldc2 (v := 255) hx hb hown (hts (.constantLong RX7 22 (255)) (List.mem_of_getElem? (i := 3) rfl)) dX7_append_34 ?_
  refine lv_land hx hb dX7_append_37 ?_
  refine lv_topl (fun z8 _ => ?_)
  refine lv_l2i hx hb dX7_append_38 rfl ?_
  refine lv_topi (fun z9 _ => ?_)
  refine va_iast hx hb hK hP hD hS 1 0 rfl rfl (by unfold vp_in; decide +kernel) dX7_append_39 (fun H locs hP hD hS => ?_)
  have hP : va_P (dC, dI) vwCl [(h0, .inr (7, [.int 2, .int 0, .ref aBy])), (aBy, .inl (caBy, 120, .inl (upd (upd (upd (fun _ => 0) (0 : Int32).toNatClampNeg z3) (1 : Int32).toNatClampNeg z6) (2 : Int32).toNatClampNeg z9)))] H := hP
  have hD : va_D A [(h0, .inr (7, [.int 2, .int 0, .ref aBy])), (aBy, .inl (caBy, 120, .inl (upd (upd (upd (fun _ => 0) (0 : Int32).toNatClampNeg z3) (1 : Int32).toNatClampNeg z6) (2 : Int32).toNatClampNeg z9)))] := hD
  refine lv_aload_n hx hb dX7_append_40 rfl (lv_at hl 1 rfl) ?_
  refine lv_dup hx hb dX7_append_41 rfl ?_
  refine va_get (D := (dC, dI)) (ci := 7) (v := .int 2) (C := RX7) (T := TX7) (N := 3) hx hb hts (fun _ h => List.mem_cons_of_mem _ (List.mem_append_right _ h)) hown hK hP 0 rfl rfl 0 (by decide) (hts (.fieldLink RX7 9 "DrumBoats$Tape" "size" "I") (List.mem_of_getElem? (i := 1) rfl)) (fun _ h9 => h9) rfl dX7_append_42 ?_
  refine lv_iconst (v := 1) hx hb dX7_append_45 (by decide +kernel) ?_
  refine lv_iadd hx hb dX7_append_46 ?_
  refine ti_eq (y := 3) (by decide +kernel) ?_
  refine va_put (D := (dC, dI)) (ci := 7) (v := .int 3) (ty := .int) (C := RX7) (T := TX7) (N := 3) hx hb hts (fun _ h => List.mem_cons_of_mem _ (List.mem_append_right _ h)) tyX7 tyX7_ok nmX7 hown hK hP hD hS 0 rfl rfl 0 (by decide) (hts (.fieldLink RX7 9 "DrumBoats$Tape" "size" "I") (List.mem_of_getElem? (i := 1) rfl)) (fun _ h9 => h9) rfl (by decide +kernel) rfl rfl (Nat.le_of_ble_eq_true rfl) dX7_append_47 (fun H locs hP hD hS => ?_)
  have hP : va_P (dC, dI) vwCl [(h0, .inr (7, [.int 3, .int 0, .ref aBy])), (aBy, .inl (caBy, 120, .inl (upd (upd (upd (fun _ => 0) (0 : Int32).toNatClampNeg z3) (1 : Int32).toNatClampNeg z6) (2 : Int32).toNatClampNeg z9)))] H := hP
  have hD : va_D A [(h0, .inr (7, [.int 3, .int 0, .ref aBy])), (aBy, .inl (caBy, 120, .inl (upd (upd (upd (fun _ => 0) (0 : Int32).toNatClampNeg z3) (1 : Int32).toNatClampNeg z6) (2 : Int32).toNatClampNeg z9)))] := hD
  refine lv_iinc (v := 4) (lv' := [(4, .int 4), (0, .ref h0), (1, .long w), (3, .int 8)]) hx hb dX7_append_50 hl (k := 0) rfl (by decide +kernel) (by decide) rfl (fun ls hl => ?_)
  refine lv_goto (tgt := 5) hx hb dX7_append_53 (by decide) ?_
  refine lv_iload hx hb dX7_append_5 (lv_at hl 0 rfl) ?_
  refine lv_if_lt (tgt := 56) hx hb dX7_append_7 (by decide) (fun c9 => absurd c9 (by decide +kernel)) (fun _ => ?_)
  refine lv_aload_n hx hb dX7_append_10 rfl (lv_at hl 1 rfl) ?_
  refine va_get (D := (dC, dI)) (ci := 7) (v := .int 3) (C := RX7) (T := TX7) (N := 3) hx hb hts (fun _ h => List.mem_cons_of_mem _ (List.mem_append_right _ h)) hown hK hP 0 rfl rfl 0 (by decide) (hts (.fieldLink RX7 9 "DrumBoats$Tape" "size" "I") (List.mem_of_getElem? (i := 1) rfl)) (fun _ h9 => h9) rfl dX7_append_11 ?_
  refine lv_bipush (v := 120) hx hb dX7_append_14 (by decide +kernel) ?_
  refine lv_icmp_ge (tgt := 56) hx hb dX7_append_16 (by decide) (fun c9 => absurd c9 (by decide +kernel)) (fun _ => ?_)
  refine lv_aload_n hx hb dX7_append_19 rfl (lv_at hl 1 rfl) ?_
  refine va_get (D := (dC, dI)) (ci := 7) (v := .ref aBy) (C := RX7) (T := TX7) (N := 3) hx hb hts (fun _ h => List.mem_cons_of_mem _ (List.mem_append_right _ h)) hown hK hP 0 rfl rfl 2 (by decide) (hts (.fieldLink RX7 18 "DrumBoats$Tape" "bytes" "[I") (List.mem_of_getElem? (i := 2) rfl)) (fun _ h9 => h9) rfl dX7_append_20 ?_
  refine lv_aload_n hx hb dX7_append_23 rfl (lv_at hl 1 rfl) ?_
  refine va_get (D := (dC, dI)) (ci := 7) (v := .int 3) (C := RX7) (T := TX7) (N := 3) hx hb hts (fun _ h => List.mem_cons_of_mem _ (List.mem_append_right _ h)) hown hK hP 0 rfl rfl 0 (by decide) (hts (.fieldLink RX7 9 "DrumBoats$Tape" "size" "I") (List.mem_of_getElem? (i := 1) rfl)) (fun _ h9 => h9) rfl dX7_append_24 ?_
  refine lv_lload_n hx hb dX7_append_27 rfl (lv_at hl 2 rfl) ?_
  refine lv_bipush (v := 8) hx hb dX7_append_28 (by decide +kernel) ?_
  refine lv_iload hx hb dX7_append_30 (lv_at hl 0 rfl) ?_
  refine lv_imul hx hb dX7_append_32 ?_
  refine ti_eq (y := 32) (by decide +kernel) ?_
  refine lv_lushr hx hb dX7_append_33 rfl ?_
  refine lv_topl (fun z10 _ => ?_)
  refine lv_ldc2 (v := 255) hx hb hown (hts (.constantLong RX7 22 (255)) (List.mem_of_getElem? (i := 3) rfl)) dX7_append_34 ?_
  refine lv_land hx hb dX7_append_37 ?_
  refine lv_topl (fun z11 _ => ?_)
  refine lv_l2i hx hb dX7_append_38 rfl ?_
  refine lv_topi (fun z12 _ => ?_)
  refine va_iast hx hb hK hP hD hS 1 0 rfl rfl (by unfold vp_in; decide +kernel) dX7_append_39 (fun H locs hP hD hS => ?_)
  have hP : va_P (dC, dI) vwCl [(h0, .inr (7, [.int 3, .int 0, .ref aBy])), (aBy, .inl (caBy, 120, .inl (upd (upd (upd (upd (fun _ => 0) (0 : Int32).toNatClampNeg z3) (1 : Int32).toNatClampNeg z6) (2 : Int32).toNatClampNeg z9) (3 : Int32).toNatClampNeg z12)))] H := hP
  have hD : va_D A [(h0, .inr (7, [.int 3, .int 0, .ref aBy])), (aBy, .inl (caBy, 120, .inl (upd (upd (upd (upd (fun _ => 0) (0 : Int32).toNatClampNeg z3) (1 : Int32).toNatClampNeg z6) (2 : Int32).toNatClampNeg z9) (3 : Int32).toNatClampNeg z12)))] := hD
  refine lv_aload_n hx hb dX7_append_40 rfl (lv_at hl 1 rfl) ?_
  refine lv_dup hx hb dX7_append_41 rfl ?_
  refine va_get (D := (dC, dI)) (ci := 7) (v := .int 3) (C := RX7) (T := TX7) (N := 3) hx hb hts (fun _ h => List.mem_cons_of_mem _ (List.mem_append_right _ h)) hown hK hP 0 rfl rfl 0 (by decide) (hts (.fieldLink RX7 9 "DrumBoats$Tape" "size" "I") (List.mem_of_getElem? (i := 1) rfl)) (fun _ h9 => h9) rfl dX7_append_42 ?_
  refine lv_iconst (v := 1) hx hb dX7_append_45 (by decide +kernel) ?_
  refine lv_iadd hx hb dX7_append_46 ?_
  refine ti_eq (y := 4) (by decide +kernel) ?_
  refine va_put (D := (dC, dI)) (ci := 7) (v := .int 4) (ty := .int) (C := RX7) (T := TX7) (N := 3) hx hb hts (fun _ h => List.mem_cons_of_mem _ (List.mem_append_right _ h)) tyX7 tyX7_ok nmX7 hown hK hP hD hS 0 rfl rfl 0 (by decide) (hts (.fieldLink RX7 9 "DrumBoats$Tape" "size" "I") (List.mem_of_getElem? (i := 1) rfl)) (fun _ h9 => h9) rfl (by decide +kernel) rfl rfl (Nat.le_of_ble_eq_true rfl) dX7_append_47 (fun H locs hP hD hS => ?_)
  have hP : va_P (dC, dI) vwCl [(h0, .inr (7, [.int 4, .int 0, .ref aBy])), (aBy, .inl (caBy, 120, .inl (upd (upd (upd (upd (fun _ => 0) (0 : Int32).toNatClampNeg z3) (1 : Int32).toNatClampNeg z6) (2 : Int32).toNatClampNeg z9) (3 : Int32).toNatClampNeg z12)))] H := hP
  have hD : va_D A [(h0, .inr (7, [.int 4, .int 0, .ref aBy])), (aBy, .inl (caBy, 120, .inl (upd (upd (upd (upd (fun _ => 0) (0 : Int32).toNatClampNeg z3) (1 : Int32).toNatClampNeg z6) (2 : Int32).toNatClampNeg z9) (3 : Int32).toNatClampNeg z12)))] := hD
  refine lv_iinc (v := 3) (lv' := [(4, .int 3), (0, .ref h0), (1, .long w), (3, .int 8)]) hx hb dX7_append_50 hl (k := 0) rfl (by decide +kernel) (by decide) rfl (fun ls hl => ?_)
  refine lv_goto (tgt := 5) hx hb dX7_append_53 (by decide) ?_
  refine lv_iload hx hb dX7_append_5 (lv_at hl 0 rfl) ?_
  refine lv_if_lt (tgt := 56) hx hb dX7_append_7 (by decide) (fun c9 => absurd c9 (by decide +kernel)) (fun _ => ?_)
  refine lv_aload_n hx hb dX7_append_10 rfl (lv_at hl 1 rfl) ?_
  refine va_get (D := (dC, dI)) (ci := 7) (v := .int 4) (C := RX7) (T := TX7) (N := 3) hx hb hts (fun _ h => List.mem_cons_of_mem _ (List.mem_append_right _ h)) hown hK hP 0 rfl rfl 0 (by decide) (hts (.fieldLink RX7 9 "DrumBoats$Tape" "size" "I") (List.mem_of_getElem? (i := 1) rfl)) (fun _ h9 => h9) rfl dX7_append_11 ?_
  refine lv_bipush (v := 120) hx hb dX7_append_14 (by decide +kernel) ?_
  refine lv_icmp_ge (tgt := 56) hx hb dX7_append_16 (by decide) (fun c9 => absurd c9 (by decide +kernel)) (fun _ => ?_)
  refine lv_aload_n hx hb dX7_append_19 rfl (lv_at hl 1 rfl) ?_
  refine va_get (D := (dC, dI)) (ci := 7) (v := .ref aBy) (C := RX7) (T := TX7) (N := 3) hx hb hts (fun _ h => List.mem_cons_of_mem _ (List.mem_append_right _ h)) hown hK hP 0 rfl rfl 2 (by decide) (hts (.fieldLink RX7 18 "DrumBoats$Tape" "bytes" "[I") (List.mem_of_getElem? (i := 2) rfl)) (fun _ h9 => h9) rfl dX7_append_20 ?_
  refine lv_aload_n hx hb dX7_append_23 rfl (lv_at hl 1 rfl) ?_
  refine va_get (D := (dC, dI)) (ci := 7) (v := .int 4) (C := RX7) (T := TX7) (N := 3) hx hb hts (fun _ h => List.mem_cons_of_mem _ (List.mem_append_right _ h)) hown hK hP 0 rfl rfl 0 (by decide) (hts (.fieldLink RX7 9 "DrumBoats$Tape" "size" "I") (List.mem_of_getElem? (i := 1) rfl)) (fun _ h9 => h9) rfl dX7_append_24 ?_
  refine lv_lload_n hx hb dX7_append_27 rfl (lv_at hl 2 rfl) ?_
  refine lv_bipush (v := 8) hx hb dX7_append_28 (by decide +kernel) ?_
  refine lv_iload hx hb dX7_append_30 (lv_at hl 0 rfl) ?_
  refine lv_imul hx hb dX7_append_32 ?_
  refine ti_eq (y := 24) (by decide +kernel) ?_
  refine lv_lushr hx hb dX7_append_33 rfl ?_
  refine lv_topl (fun z13 _ => ?_)
  refine lv_ldc2 (v := 255) hx hb hown (hts (.constantLong RX7 22 (255)) (List.mem_of_getElem? (i := 3) rfl)) dX7_append_34 ?_
  refine lv_land hx hb dX7_append_37 ?_
  refine lv_topl (fun z14 _ => ?_)
  refine lv_l2i hx hb dX7_append_38 rfl ?_
  refine lv_topi (fun z15 _ => ?_)
  refine va_iast hx hb hK hP hD hS 1 0 rfl rfl (by unfold vp_in; decide +kernel) dX7_append_39 (fun H locs hP hD hS => ?_)
  have hP : va_P (dC, dI) vwCl [(h0, .inr (7, [.int 4, .int 0, .ref aBy])), (aBy, .inl (caBy, 120, .inl (upd (upd (upd (upd (upd (fun _ => 0) (0 : Int32).toNatClampNeg z3) (1 : Int32).toNatClampNeg z6) (2 : Int32).toNatClampNeg z9) (3 : Int32).toNatClampNeg z12) (4 : Int32).toNatClampNeg z15)))] H := hP
  have hD : va_D A [(h0, .inr (7, [.int 4, .int 0, .ref aBy])), (aBy, .inl (caBy, 120, .inl (upd (upd (upd (upd (upd (fun _ => 0) (0 : Int32).toNatClampNeg z3) (1 : Int32).toNatClampNeg z6) (2 : Int32).toNatClampNeg z9) (3 : Int32).toNatClampNeg z12) (4 : Int32).toNatClampNeg z15)))] := hD
  refine lv_aload_n hx hb dX7_append_40 rfl (lv_at hl 1 rfl) ?_
  refine lv_dup hx hb dX7_append_41 rfl ?_
  refine va_get (D := (dC, dI)) (ci := 7) (v := .int 4) (C := RX7) (T := TX7) (N := 3) hx hb hts (fun _ h => List.mem_cons_of_mem _ (List.mem_append_right _ h)) hown hK hP 0 rfl rfl 0 (by decide) (hts (.fieldLink RX7 9 "DrumBoats$Tape" "size" "I") (List.mem_of_getElem? (i := 1) rfl)) (fun _ h9 => h9) rfl dX7_append_42 ?_
  refine lv_iconst (v := 1) hx hb dX7_append_45 (by decide +kernel) ?_
  refine lv_iadd hx hb dX7_append_46 ?_
  refine ti_eq (y := 5) (by decide +kernel) ?_
  refine va_put (D := (dC, dI)) (ci := 7) (v := .int 5) (ty := .int) (C := RX7) (T := TX7) (N := 3) hx hb hts (fun _ h => List.mem_cons_of_mem _ (List.mem_append_right _ h)) tyX7 tyX7_ok nmX7 hown hK hP hD hS 0 rfl rfl 0 (by decide) (hts (.fieldLink RX7 9 "DrumBoats$Tape" "size" "I") (List.mem_of_getElem? (i := 1) rfl)) (fun _ h9 => h9) rfl (by decide +kernel) rfl rfl (Nat.le_of_ble_eq_true rfl) dX7_append_47 (fun H locs hP hD hS => ?_)
  have hP : va_P (dC, dI) vwCl [(h0, .inr (7, [.int 5, .int 0, .ref aBy])), (aBy, .inl (caBy, 120, .inl (upd (upd (upd (upd (upd (fun _ => 0) (0 : Int32).toNatClampNeg z3) (1 : Int32).toNatClampNeg z6) (2 : Int32).toNatClampNeg z9) (3 : Int32).toNatClampNeg z12) (4 : Int32).toNatClampNeg z15)))] H := hP
  have hD : va_D A [(h0, .inr (7, [.int 5, .int 0, .ref aBy])), (aBy, .inl (caBy, 120, .inl (upd (upd (upd (upd (upd (fun _ => 0) (0 : Int32).toNatClampNeg z3) (1 : Int32).toNatClampNeg z6) (2 : Int32).toNatClampNeg z9) (3 : Int32).toNatClampNeg z12) (4 : Int32).toNatClampNeg z15)))] := hD
  refine lv_iinc (v := 2) (lv' := [(4, .int 2), (0, .ref h0), (1, .long w), (3, .int 8)]) hx hb dX7_append_50 hl (k := 0) rfl (by decide +kernel) (by decide) rfl (fun ls hl => ?_)
  refine lv_goto (tgt := 5) hx hb dX7_append_53 (by decide) ?_
  refine lv_iload hx hb dX7_append_5 (lv_at hl 0 rfl) ?_
  refine lv_if_lt (tgt := 56) hx hb dX7_append_7 (by decide) (fun c9 => absurd c9 (by decide +kernel)) (fun _ => ?_)
  refine lv_aload_n hx hb dX7_append_10 rfl (lv_at hl 1 rfl) ?_
  refine va_get (D := (dC, dI)) (ci := 7) (v := .int 5) (C := RX7) (T := TX7) (N := 3) hx hb hts (fun _ h => List.mem_cons_of_mem _ (List.mem_append_right _ h)) hown hK hP 0 rfl rfl 0 (by decide) (hts (.fieldLink RX7 9 "DrumBoats$Tape" "size" "I") (List.mem_of_getElem? (i := 1) rfl)) (fun _ h9 => h9) rfl dX7_append_11 ?_
  refine lv_bipush (v := 120) hx hb dX7_append_14 (by decide +kernel) ?_
  refine lv_icmp_ge (tgt := 56) hx hb dX7_append_16 (by decide) (fun c9 => absurd c9 (by decide +kernel)) (fun _ => ?_)
  refine lv_aload_n hx hb dX7_append_19 rfl (lv_at hl 1 rfl) ?_
  refine va_get (D := (dC, dI)) (ci := 7) (v := .ref aBy) (C := RX7) (T := TX7) (N := 3) hx hb hts (fun _ h => List.mem_cons_of_mem _ (List.mem_append_right _ h)) hown hK hP 0 rfl rfl 2 (by decide) (hts (.fieldLink RX7 18 "DrumBoats$Tape" "bytes" "[I") (List.mem_of_getElem? (i := 2) rfl)) (fun _ h9 => h9) rfl dX7_append_20 ?_
  refine lv_aload_n hx hb dX7_append_23 rfl (lv_at hl 1 rfl) ?_
  refine va_get (D := (dC, dI)) (ci := 7) (v := .int 5) (C := RX7) (T := TX7) (N := 3) hx hb hts (fun _ h => List.mem_cons_of_mem _ (List.mem_append_right _ h)) hown hK hP 0 rfl rfl 0 (by decide) (hts (.fieldLink RX7 9 "DrumBoats$Tape" "size" "I") (List.mem_of_getElem? (i := 1) rfl)) (fun _ h9 => h9) rfl dX7_append_24 ?_
  refine lv_lload_n hx hb dX7_append_27 rfl (lv_at hl 2 rfl) ?_
  refine lv_bipush (v := 8) hx hb dX7_append_28 (by decide +kernel) ?_
  refine lv_iload hx hb dX7_append_30 (lv_at hl 0 rfl) ?_
  refine lv_imul hx hb dX7_append_32 ?_
  refine ti_eq (y := 16) (by decide +kernel) ?_
  refine lv_lushr hx hb dX7_append_33 rfl ?_
  refine lv_topl (fun z16 _ => ?_)
  refine lv_ldc2 (v := 255) hx hb hown (hts (.constantLong RX7 22 (255)) (List.mem_of_getElem? (i := 3) rfl)) dX7_append_34 ?_
  refine lv_land hx hb dX7_append_37 ?_
  refine lv_topl (fun z17 _ => ?_)
  refine lv_l2i hx hb dX7_append_38 rfl ?_
  refine lv_topi (fun z18 _ => ?_)
  refine va_iast hx hb hK hP hD hS 1 0 rfl rfl (by unfold vp_in; decide +kernel) dX7_append_39 (fun H locs hP hD hS => ?_)
  have hP : va_P (dC, dI) vwCl [(h0, .inr (7, [.int 5, .int 0, .ref aBy])), (aBy, .inl (caBy, 120, .inl (upd (upd (upd (upd (upd (upd (fun _ => 0) (0 : Int32).toNatClampNeg z3) (1 : Int32).toNatClampNeg z6) (2 : Int32).toNatClampNeg z9) (3 : Int32).toNatClampNeg z12) (4 : Int32).toNatClampNeg z15) (5 : Int32).toNatClampNeg z18)))] H := hP
  have hD : va_D A [(h0, .inr (7, [.int 5, .int 0, .ref aBy])), (aBy, .inl (caBy, 120, .inl (upd (upd (upd (upd (upd (upd (fun _ => 0) (0 : Int32).toNatClampNeg z3) (1 : Int32).toNatClampNeg z6) (2 : Int32).toNatClampNeg z9) (3 : Int32).toNatClampNeg z12) (4 : Int32).toNatClampNeg z15) (5 : Int32).toNatClampNeg z18)))] := hD
  refine lv_aload_n hx hb dX7_append_40 rfl (lv_at hl 1 rfl) ?_
  refine lv_dup hx hb dX7_append_41 rfl ?_
  refine va_get (D := (dC, dI)) (ci := 7) (v := .int 5) (C := RX7) (T := TX7) (N := 3) hx hb hts (fun _ h => List.mem_cons_of_mem _ (List.mem_append_right _ h)) hown hK hP 0 rfl rfl 0 (by decide) (hts (.fieldLink RX7 9 "DrumBoats$Tape" "size" "I") (List.mem_of_getElem? (i := 1) rfl)) (fun _ h9 => h9) rfl dX7_append_42 ?_
  refine lv_iconst (v := 1) hx hb dX7_append_45 (by decide +kernel) ?_
  refine lv_iadd hx hb dX7_append_46 ?_
  refine ti_eq (y := 6) (by decide +kernel) ?_
  refine va_put (D := (dC, dI)) (ci := 7) (v := .int 6) (ty := .int) (C := RX7) (T := TX7) (N := 3) hx hb hts (fun _ h => List.mem_cons_of_mem _ (List.mem_append_right _ h)) tyX7 tyX7_ok nmX7 hown hK hP hD hS 0 rfl rfl 0 (by decide) (hts (.fieldLink RX7 9 "DrumBoats$Tape" "size" "I") (List.mem_of_getElem? (i := 1) rfl)) (fun _ h9 => h9) rfl (by decide +kernel) rfl rfl (Nat.le_of_ble_eq_true rfl) dX7_append_47 (fun H locs hP hD hS => ?_)
  have hP : va_P (dC, dI) vwCl [(h0, .inr (7, [.int 6, .int 0, .ref aBy])), (aBy, .inl (caBy, 120, .inl (upd (upd (upd (upd (upd (upd (fun _ => 0) (0 : Int32).toNatClampNeg z3) (1 : Int32).toNatClampNeg z6) (2 : Int32).toNatClampNeg z9) (3 : Int32).toNatClampNeg z12) (4 : Int32).toNatClampNeg z15) (5 : Int32).toNatClampNeg z18)))] H := hP
  have hD : va_D A [(h0, .inr (7, [.int 6, .int 0, .ref aBy])), (aBy, .inl (caBy, 120, .inl (upd (upd (upd (upd (upd (upd (fun _ => 0) (0 : Int32).toNatClampNeg z3) (1 : Int32).toNatClampNeg z6) (2 : Int32).toNatClampNeg z9) (3 : Int32).toNatClampNeg z12) (4 : Int32).toNatClampNeg z15) (5 : Int32).toNatClampNeg z18)))] := hD
  refine lv_iinc (v := 1) (lv' := [(4, .int 1), (0, .ref h0), (1, .long w), (3, .int 8)]) hx hb dX7_append_50 hl (k := 0) rfl (by decide +kernel) (by decide) rfl (fun ls hl => ?_)
  refine lv_goto (tgt := 5) hx hb dX7_append_53 (by decide) ?_
  refine lv_iload hx hb dX7_append_5 (lv_at hl 0 rfl) ?_
  refine lv_if_lt (tgt := 56) hx hb dX7_append_7 (by decide) (fun c9 => absurd c9 (by decide +kernel)) (fun _ => ?_)
  refine lv_aload_n hx hb dX7_append_10 rfl (lv_at hl 1 rfl) ?_
  refine va_get (D := (dC, dI)) (ci := 7) (v := .int 6) (C := RX7) (T := TX7) (N := 3) hx hb hts (fun _ h => List.mem_cons_of_mem _ (List.mem_append_right _ h)) hown hK hP 0 rfl rfl 0 (by decide) (hts (.fieldLink RX7 9 "DrumBoats$Tape" "size" "I") (List.mem_of_getElem? (i := 1) rfl)) (fun _ h9 => h9) rfl dX7_append_11 ?_
  refine lv_bipush (v := 120) hx hb dX7_append_14 (by decide +kernel) ?_
  refine lv_icmp_ge (tgt := 56) hx hb dX7_append_16 (by decide) (fun c9 => absurd c9 (by decide +kernel)) (fun _ => ?_)
  refine lv_aload_n hx hb dX7_append_19 rfl (lv_at hl 1 rfl) ?_
  refine va_get (D := (dC, dI)) (ci := 7) (v := .ref aBy) (C := RX7) (T := TX7) (N := 3) hx hb hts (fun _ h => List.mem_cons_of_mem _ (List.mem_append_right _ h)) hown hK hP 0 rfl rfl 2 (by decide) (hts (.fieldLink RX7 18 "DrumBoats$Tape" "bytes" "[I") (List.mem_of_getElem? (i := 2) rfl)) (fun _ h9 => h9) rfl dX7_append_20 ?_
  refine lv_aload_n hx hb dX7_append_23 rfl (lv_at hl 1 rfl) ?_
  refine va_get (D := (dC, dI)) (ci := 7) (v := .int 6) (C := RX7) (T := TX7) (N := 3) hx hb hts (fun _ h => List.mem_cons_of_mem _ (List.mem_append_right _ h)) hown hK hP 0 rfl rfl 0 (by decide) (hts (.fieldLink RX7 9 "DrumBoats$Tape" "size" "I") (List.mem_of_getElem? (i := 1) rfl)) (fun _ h9 => h9) rfl dX7_append_24 ?_
  refine lv_lload_n hx hb dX7_append_27 rfl (lv_at hl 2 rfl) ?_
  refine lv_bipush (v := 8) hx hb dX7_append_28 (by decide +kernel) ?_
  refine lv_iload hx hb dX7_append_30 (lv_at hl 0 rfl) ?_
  refine lv_imul hx hb dX7_append_32 ?_
  refine ti_eq (y := 8) (by decide +kernel) ?_
  refine lv_lushr hx hb dX7_append_33 rfl ?_
  refine lv_topl (fun z19 _ => ?_)
  refine lv_ldc2 (v := 255) hx hb hown (hts (.constantLong RX7 22 (255)) (List.mem_of_getElem? (i := 3) rfl)) dX7_append_34 ?_
  refine lv_land hx hb dX7_append_37 ?_
  refine lv_topl (fun z20 _ => ?_)
  refine lv_l2i hx hb dX7_append_38 rfl ?_
  refine lv_topi (fun z21 _ => ?_)
  refine va_iast hx hb hK hP hD hS 1 0 rfl rfl (by unfold vp_in; decide +kernel) dX7_append_39 (fun H locs hP hD hS => ?_)
  have hP : va_P (dC, dI) vwCl [(h0, .inr (7, [.int 6, .int 0, .ref aBy])), (aBy, .inl (caBy, 120, .inl (upd (upd (upd (upd (upd (upd (upd (fun _ => 0) (0 : Int32).toNatClampNeg z3) (1 : Int32).toNatClampNeg z6) (2 : Int32).toNatClampNeg z9) (3 : Int32).toNatClampNeg z12) (4 : Int32).toNatClampNeg z15) (5 : Int32).toNatClampNeg z18) (6 : Int32).toNatClampNeg z21)))] H := hP
  have hD : va_D A [(h0, .inr (7, [.int 6, .int 0, .ref aBy])), (aBy, .inl (caBy, 120, .inl (upd (upd (upd (upd (upd (upd (upd (fun _ => 0) (0 : Int32).toNatClampNeg z3) (1 : Int32).toNatClampNeg z6) (2 : Int32).toNatClampNeg z9) (3 : Int32).toNatClampNeg z12) (4 : Int32).toNatClampNeg z15) (5 : Int32).toNatClampNeg z18) (6 : Int32).toNatClampNeg z21)))] := hD
  refine lv_aload_n hx hb dX7_append_40 rfl (lv_at hl 1 rfl) ?_
  refine lv_dup hx hb dX7_append_41 rfl ?_
  refine va_get (D := (dC, dI)) (ci := 7) (v := .int 6) (C := RX7) (T := TX7) (N := 3) hx hb hts (fun _ h => List.mem_cons_of_mem _ (List.mem_append_right _ h)) hown hK hP 0 rfl rfl 0 (by decide) (hts (.fieldLink RX7 9 "DrumBoats$Tape" "size" "I") (List.mem_of_getElem? (i := 1) rfl)) (fun _ h9 => h9) rfl dX7_append_42 ?_
  refine lv_iconst (v := 1) hx hb dX7_append_45 (by decide +kernel) ?_
  refine lv_iadd hx hb dX7_append_46 ?_
  refine ti_eq (y := 7) (by decide +kernel) ?_
  refine va_put (D := (dC, dI)) (ci := 7) (v := .int 7) (ty := .int) (C := RX7) (T := TX7) (N := 3) hx hb hts (fun _ h => List.mem_cons_of_mem _ (List.mem_append_right _ h)) tyX7 tyX7_ok nmX7 hown hK hP hD hS 0 rfl rfl 0 (by decide) (hts (.fieldLink RX7 9 "DrumBoats$Tape" "size" "I") (List.mem_of_getElem? (i := 1) rfl)) (fun _ h9 => h9) rfl (by decide +kernel) rfl rfl (Nat.le_of_ble_eq_true rfl) dX7_append_47 (fun H locs hP hD hS => ?_)
  have hP : va_P (dC, dI) vwCl [(h0, .inr (7, [.int 7, .int 0, .ref aBy])), (aBy, .inl (caBy, 120, .inl (upd (upd (upd (upd (upd (upd (upd (fun _ => 0) (0 : Int32).toNatClampNeg z3) (1 : Int32).toNatClampNeg z6) (2 : Int32).toNatClampNeg z9) (3 : Int32).toNatClampNeg z12) (4 : Int32).toNatClampNeg z15) (5 : Int32).toNatClampNeg z18) (6 : Int32).toNatClampNeg z21)))] H := hP
  have hD : va_D A [(h0, .inr (7, [.int 7, .int 0, .ref aBy])), (aBy, .inl (caBy, 120, .inl (upd (upd (upd (upd (upd (upd (upd (fun _ => 0) (0 : Int32).toNatClampNeg z3) (1 : Int32).toNatClampNeg z6) (2 : Int32).toNatClampNeg z9) (3 : Int32).toNatClampNeg z12) (4 : Int32).toNatClampNeg z15) (5 : Int32).toNatClampNeg z18) (6 : Int32).toNatClampNeg z21)))] := hD
  refine lv_iinc (v := 0) (lv' := [(4, .int 0), (0, .ref h0), (1, .long w), (3, .int 8)]) hx hb dX7_append_50 hl (k := 0) rfl (by decide +kernel) (by decide) rfl (fun ls hl => ?_)
  refine lv_goto (tgt := 5) hx hb dX7_append_53 (by decide) ?_
  refine lv_iload hx hb dX7_append_5 (lv_at hl 0 rfl) ?_
  refine lv_if_lt (tgt := 56) hx hb dX7_append_7 (by decide) (fun c9 => absurd c9 (by decide +kernel)) (fun _ => ?_)
  refine lv_aload_n hx hb dX7_append_10 rfl (lv_at hl 1 rfl) ?_
  refine va_get (D := (dC, dI)) (ci := 7) (v := .int 7) (C := RX7) (T := TX7) (N := 3) hx hb hts (fun _ h => List.mem_cons_of_mem _ (List.mem_append_right _ h)) hown hK hP 0 rfl rfl 0 (by decide) (hts (.fieldLink RX7 9 "DrumBoats$Tape" "size" "I") (List.mem_of_getElem? (i := 1) rfl)) (fun _ h9 => h9) rfl dX7_append_11 ?_
  refine lv_bipush (v := 120) hx hb dX7_append_14 (by decide +kernel) ?_
  refine lv_icmp_ge (tgt := 56) hx hb dX7_append_16 (by decide) (fun c9 => absurd c9 (by decide +kernel)) (fun _ => ?_)
  refine lv_aload_n hx hb dX7_append_19 rfl (lv_at hl 1 rfl) ?_
  refine va_get (D := (dC, dI)) (ci := 7) (v := .ref aBy) (C := RX7) (T := TX7) (N := 3) hx hb hts (fun _ h => List.mem_cons_of_mem _ (List.mem_append_right _ h)) hown hK hP 0 rfl rfl 2 (by decide) (hts (.fieldLink RX7 18 "DrumBoats$Tape" "bytes" "[I") (List.mem_of_getElem? (i := 2) rfl)) (fun _ h9 => h9) rfl dX7_append_20 ?_
  refine lv_aload_n hx hb dX7_append_23 rfl (lv_at hl 1 rfl) ?_
  refine va_get (D := (dC, dI)) (ci := 7) (v := .int 7) (C := RX7) (T := TX7) (N := 3) hx hb hts (fun _ h => List.mem_cons_of_mem _ (List.mem_append_right _ h)) hown hK hP 0 rfl rfl 0 (by decide) (hts (.fieldLink RX7 9 "DrumBoats$Tape" "size" "I") (List.mem_of_getElem? (i := 1) rfl)) (fun _ h9 => h9) rfl dX7_append_24 ?_
  refine lv_lload_n hx hb dX7_append_27 rfl (lv_at hl 2 rfl) ?_
  refine lv_bipush (v := 8) hx hb dX7_append_28 (by decide +kernel) ?_
  refine lv_iload hx hb dX7_append_30 (lv_at hl 0 rfl) ?_
  refine lv_imul hx hb dX7_append_32 ?_
  refine ti_eq (y := 0) (by decide +kernel) ?_
  refine lv_lushr hx hb dX7_append_33 rfl ?_
  refine lv_topl (fun z22 _ => ?_)
  refine lv_ldc2 (v := 255) hx hb hown (hts (.constantLong RX7 22 (255)) (List.mem_of_getElem? (i := 3) rfl)) dX7_append_34 ?_
  refine lv_land hx hb dX7_append_37 ?_
  refine lv_topl (fun z23 _ => ?_)
  refine lv_l2i hx hb dX7_append_38 rfl ?_
  refine lv_topi (fun z24 _ => ?_)
  refine va_iast hx hb hK hP hD hS 1 0 rfl rfl (by unfold vp_in; decide +kernel) dX7_append_39 (fun H locs hP hD hS => ?_)
  have hP : va_P (dC, dI) vwCl [(h0, .inr (7, [.int 7, .int 0, .ref aBy])), (aBy, .inl (caBy, 120, .inl (upd (upd (upd (upd (upd (upd (upd (upd (fun _ => 0) (0 : Int32).toNatClampNeg z3) (1 : Int32).toNatClampNeg z6) (2 : Int32).toNatClampNeg z9) (3 : Int32).toNatClampNeg z12) (4 : Int32).toNatClampNeg z15) (5 : Int32).toNatClampNeg z18) (6 : Int32).toNatClampNeg z21) (7 : Int32).toNatClampNeg z24)))] H := hP
  have hD : va_D A [(h0, .inr (7, [.int 7, .int 0, .ref aBy])), (aBy, .inl (caBy, 120, .inl (upd (upd (upd (upd (upd (upd (upd (upd (fun _ => 0) (0 : Int32).toNatClampNeg z3) (1 : Int32).toNatClampNeg z6) (2 : Int32).toNatClampNeg z9) (3 : Int32).toNatClampNeg z12) (4 : Int32).toNatClampNeg z15) (5 : Int32).toNatClampNeg z18) (6 : Int32).toNatClampNeg z21) (7 : Int32).toNatClampNeg z24)))] := hD
  refine lv_aload_n hx hb dX7_append_40 rfl (lv_at hl 1 rfl) ?_
  refine lv_dup hx hb dX7_append_41 rfl ?_
  refine va_get (D := (dC, dI)) (ci := 7) (v := .int 7) (C := RX7) (T := TX7) (N := 3) hx hb hts (fun _ h => List.mem_cons_of_mem _ (List.mem_append_right _ h)) hown hK hP 0 rfl rfl 0 (by decide) (hts (.fieldLink RX7 9 "DrumBoats$Tape" "size" "I") (List.mem_of_getElem? (i := 1) rfl)) (fun _ h9 => h9) rfl dX7_append_42 ?_
  refine lv_iconst (v := 1) hx hb dX7_append_45 (by decide +kernel) ?_
  refine lv_iadd hx hb dX7_append_46 ?_
  refine ti_eq (y := 8) (by decide +kernel) ?_
  refine va_put (D := (dC, dI)) (ci := 7) (v := .int 8) (ty := .int) (C := RX7) (T := TX7) (N := 3) hx hb hts (fun _ h => List.mem_cons_of_mem _ (List.mem_append_right _ h)) tyX7 tyX7_ok nmX7 hown hK hP hD hS 0 rfl rfl 0 (by decide) (hts (.fieldLink RX7 9 "DrumBoats$Tape" "size" "I") (List.mem_of_getElem? (i := 1) rfl)) (fun _ h9 => h9) rfl (by decide +kernel) rfl rfl (Nat.le_of_ble_eq_true rfl) dX7_append_47 (fun H locs hP hD hS => ?_)
  have hP : va_P (dC, dI) vwCl [(h0, .inr (7, [.int 8, .int 0, .ref aBy])), (aBy, .inl (caBy, 120, .inl (upd (upd (upd (upd (upd (upd (upd (upd (fun _ => 0) (0 : Int32).toNatClampNeg z3) (1 : Int32).toNatClampNeg z6) (2 : Int32).toNatClampNeg z9) (3 : Int32).toNatClampNeg z12) (4 : Int32).toNatClampNeg z15) (5 : Int32).toNatClampNeg z18) (6 : Int32).toNatClampNeg z21) (7 : Int32).toNatClampNeg z24)))] H := hP
  have hD : va_D A [(h0, .inr (7, [.int 8, .int 0, .ref aBy])), (aBy, .inl (caBy, 120, .inl (upd (upd (upd (upd (upd (upd (upd (upd (fun _ => 0) (0 : Int32).toNatClampNeg z3) (1 : Int32).toNatClampNeg z6) (2 : Int32).toNatClampNeg z9) (3 : Int32).toNatClampNeg z12) (4 : Int32).toNatClampNeg z15) (5 : Int32).toNatClampNeg z18) (6 : Int32).toNatClampNeg z21) (7 : Int32).toNatClampNeg z24)))] := hD
  refine lv_iinc (v := (-1)) (lv' := [(4, .int (-1)), (0, .ref h0), (1, .long w), (3, .int 8)]) hx hb dX7_append_50 hl (k := 0) rfl (by decide +kernel) (by decide) rfl (fun ls hl => ?_)
  refine lv_goto (tgt := 5) hx hb dX7_append_53 (by decide) ?_
  refine lv_iload hx hb dX7_append_5 (lv_at hl 0 rfl) ?_
  refine lv_if_lt (tgt := 56) hx hb dX7_append_7 (by decide) (fun _ => ?_) (fun c9 => absurd c9 (by decide +kernel))
  have hP9 := hP.sub (ws' := [(h0, .inr (7, [.int 8, .int 0, .ref aBy]))]) [0] rfl
  have hD9 := hD.sub (ws' := [(h0, .inr (7, [.int 8, .int 0, .ref aBy]))]) [0] (by decide) rfl
  have hK9 := hK.sub (tys' := []) [] rfl
  refine W.widen (k := 0) (n := 0) (Nat.le_of_ble_eq_true rfl) (Nat.le_of_ble_eq_true rfl) ?_
  exact W.vret hx hb hr (fun t ht hW => ⟨⟨(), rfl, trivial, by rw [ht]; exact hP9, va_K.moved hW.alike hK9, hD9⟩, hS.F ht⟩) hS.2.2 dX7_append_56
