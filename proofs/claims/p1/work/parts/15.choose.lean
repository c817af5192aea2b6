set_option maxHeartbeats 4000000 in
set_option maxRecDepth 100000 in
theorem k_X2_choose (l : Launch) (dC : Nat → ClassId) (dI : Nat → Nat → Nat) (sz : Nat) (h0 : Nat) (aRa : Nat) (p0 : Int32) (p1 : Int32) (aLi : Nat) (aBt : Nat) (aBp : Nat) (aCh : Nat) (caBt : ClassId) (caBp : ClassId) (caCh : ClassId) : Met l yX2_choose wsX2_choose ({ frames := 1, cells := 0, slots := 0, locals := 21 }) (va_Pc [.ref h0, .ref aRa, .int 0, .int p0, .int p1] (fun U => U.heap.size = sz ∧ va_P (dC, dI) vwCl [(h0, .inr (2, [.int 0, .ref aLi, .ref aBt, .ref aBp, .ref aCh])), (aBt, .inl (caBt, 6, .inl (fun _ => 0))), (aBp, .inl (caBp, 6, .inl (fun _ => 0))), (aCh, .inl (caCh, 6, .inl (fun _ => 0)))] U.heap ∧ va_K (dC, dI) vwCl [(caBt, .int), (caBp, .boolean), (caCh, .boolean)] U ∧ va_D (fun _ => True) [(h0, .inr (2, [.int 0, .ref aLi, .ref aBt, .ref aBp, .ref aCh])), (aBt, .inl (caBt, 6, .inl (fun _ => 0))), (aBp, .inl (caBp, 6, .inl (fun _ => 0))), (aCh, .inl (caCh, 6, .inl (fun _ => 0)))])) (va_Qv (fun _ : Unit => True) (fun _ t => va_P (dC, dI) vwCl [(h0, .inr (2, [.int 0, .ref aLi, .ref aBt, .ref aBp, .ref aCh]))] t.heap ∧ va_K (dC, dI) vwCl [] t ∧ va_D (va_A [(h0, .inr (2, [.int 0, .ref aLi, .ref aBt, .ref aBp, .ref aCh])), (aBt, .inl (caBt, 6, .inl (fun _ => 0))), (aBp, .inl (caBp, 6, .inl (fun _ => 0))), (aCh, .inl (caCh, 6, .inl (fun _ => 0)))] sz) [(h0, .inr (2, [.int 0, .ref aLi, .ref aBt, .ref aBp, .ref aCh]))]) (va_A [(h0, .inr (2, [.int 0, .ref aLi, .ref aBt, .ref aBp, .ref aCh])), (aBt, .inl (caBt, 6, .inl (fun _ => 0))), (aBp, .inl (caBp, 6, .inl (fun _ => 0))), (aCh, .inl (caCh, 6, .inl (fun _ => 0)))] sz)) 0 0 (va_A [(h0, .inr (2, [.int 0, .ref aLi, .ref aBt, .ref aBp, .ref aCh])), (aBt, .inl (caBt, 6, .inl (fun _ => 0))), (aBp, .inl (caBp, 6, .inl (fun _ => 0))), (aCh, .inl (caCh, 6, .inl (fun _ => 0)))] sz) := by
  refine Met.ofW (cc := cX2_choose) (maxL := 6) (ret := none) (by decide) rfl ?_
  intro p e s m args below meth c s₁ B hml hv
  obtain ⟨rfl, hsz, hP, hK, hD0⟩ := hv
  have hx := B.exec
  have hb := B.bytes
  have hr := B.returns
  have hts := atoms_spec (ws := wsX2_choose) B.pre
  have hown : s.vm.findClass RX2 = some m.cls := findClass_of_methodNamed B.named
  have hlocks := B.notSynchronized
  subst hsz
  have hD := hD0.self (sz := s.heap.size)
  generalize hAe : va_A [(h0, .inr (2, [.int 0, .ref aLi, .ref aBt, .ref aBp, .ref aCh])), (aBt, .inl (caBt, 6, .inl (fun _ => 0))), (aBp, .inl (caBp, 6, .inl (fun _ => 0))), (aCh, .inl (caCh, 6, .inl (fun _ => 0)))] s.heap.size = A at hD ⊢
  have hA : ∀ q : Nat, s.heap.size ≤ q → A q := fun q h => by rw [← hAe]; exact Or.inr h
  have hS : va_S A s.heap s.heap [] := va_S.rf
  have hl := lv_entry ([.ref h0, .ref aRa, .int 0, .int p0, .int p1]) (n := 6) (Nat.le_of_ble_eq_true rfl)
  rw [lg_entry_eq]
  generalize (lg_sl ([.ref h0, .ref aRa, .int 0, .int p0, .int p1]) ++ List.replicate (6 - (lg_sl ([.ref h0, .ref aRa, .int 0, .int p0, .int p1])).length) Slot.unset).toArray = ls at hl ⊢
  have hl : lv_has ls 6 [(0, .ref h0), (1, .ref aRa), (2, .int 0), (3, .int p0), (4, .int p1)] := hl
  refine lv_iconst (v := 0) hx hb dX2_choose_0 (by decide +kernel) ?_
  refine lv_istore (lv' := [(5, .int 0), (0, .ref h0), (1, .ref aRa), (2, .int 0), (3, .int p0), (4, .int p1)]) hx hb dX2_choose_1 hl (by decide) rfl (fun ls hl => ?_)
  refine lv_iload hx hb dX2_choose_3 (lv_at hl 0 rfl) ?_
  refine lv_bipush (v := 6) hx hb dX2_choose_5 (by decide +kernel) ?_
  refine lv_icmp_ge (tgt := 32) hx hb dX2_choose_7 (by decide) (fun c9 => absurd c9 (by decide +kernel)) (fun _ => ?_)
  refine lv_aload_n hx hb dX2_choose_10 rfl (lv_at hl 1 rfl) ?_
  refine va_get (D := (dC, dI)) (ci := 2) (v := .ref aBt) (C := RX2) (T := TX2) (N := 5) hx hb hts (fun _ h => List.mem_cons_of_mem _ (List.mem_append_left _ (List.mem_append_right _ h))) hown hK hP 0 rfl rfl 2 (by decide) (hts (.fieldLink RX2 19 "DrumBoats$FinalList" "bestTime" "[I") (List.mem_of_getElem? (i := 1) rfl)) (fun _ h9 => h9) rfl dX2_choose_11 ?_
  refine lv_iload hx hb dX2_choose_14 (lv_at hl 0 rfl) ?_
  refine lv_iconst (v := 0) hx hb dX2_choose_16 (by decide +kernel) ?_
  refine va_iast hx hb hK hP hD hS 1 0 rfl rfl (by unfold vp_in; decide +kernel) dX2_choose_17 (fun H locs hP hD hS => ?_)
  have hP : va_P (dC, dI) vwCl [(h0, .inr (2, [.int 0, .ref aLi, .ref aBt, .ref aBp, .ref aCh])), (aBt, .inl (caBt, 6, .inl (upd (fun _ => 0) (0 : Int32).toNatClampNeg 0))), (aBp, .inl (caBp, 6, .inl (fun _ => 0))), (aCh, .inl (caCh, 6, .inl (fun _ => 0)))] H := hP
  have hD : va_D A [(h0, .inr (2, [.int 0, .ref aLi, .ref aBt, .ref aBp, .ref aCh])), (aBt, .inl (caBt, 6, .inl (upd (fun _ => 0) (0 : Int32).toNatClampNeg 0))), (aBp, .inl (caBp, 6, .inl (fun _ => 0))), (aCh, .inl (caCh, 6, .inl (fun _ => 0)))] := hD
  refine lv_aload_n hx hb dX2_choose_18 rfl (lv_at hl 1 rfl) ?_
  refine va_get (D := (dC, dI)) (ci := 2) (v := .ref aBp) (C := RX2) (T := TX2) (N := 5) hx hb hts (fun _ h => List.mem_cons_of_mem _ (List.mem_append_left _ (List.mem_append_right _ h))) hown hK hP 0 rfl rfl 3 (by decide) (hts (.fieldLink RX2 22 "DrumBoats$FinalList" "byPlace" "[Z") (List.mem_of_getElem? (i := 2) rfl)) (fun _ h9 => h9) rfl dX2_choose_19 ?_
  refine lv_iload hx hb dX2_choose_22 (lv_at hl 0 rfl) ?_
  refine lv_iconst (v := 0) hx hb dX2_choose_24 (by decide +kernel) ?_
  refine va_zast hx hb hK hP hD hS 2 1 rfl rfl (by unfold vp_in; decide +kernel) dX2_choose_25 (fun H locs hP hD hS => ?_)
  have hP : va_P (dC, dI) vwCl [(h0, .inr (2, [.int 0, .ref aLi, .ref aBt, .ref aBp, .ref aCh])), (aBt, .inl (caBt, 6, .inl (upd (fun _ => 0) (0 : Int32).toNatClampNeg 0))), (aBp, .inl (caBp, 6, .inl (upd (fun _ => 0) (0 : Int32).toNatClampNeg (vp_nar .boolean 0)))), (aCh, .inl (caCh, 6, .inl (fun _ => 0)))] H := hP
  have hD : va_D A [(h0, .inr (2, [.int 0, .ref aLi, .ref aBt, .ref aBp, .ref aCh])), (aBt, .inl (caBt, 6, .inl (upd (fun _ => 0) (0 : Int32).toNatClampNeg 0))), (aBp, .inl (caBp, 6, .inl (upd (fun _ => 0) (0 : Int32).toNatClampNeg (vp_nar .boolean 0)))), (aCh, .inl (caCh, 6, .inl (fun _ => 0)))] := hD
  refine lv_iinc (v := 1) (lv' := [(5, .int 1), (0, .ref h0), (1, .ref aRa), (2, .int 0), (3, .int p0), (4, .int p1)]) hx hb dX2_choose_26 hl (k := 0) rfl (by decide +kernel) (by decide) rfl (fun ls hl => ?_)
  refine lv_goto (tgt := 3) hx hb dX2_choose_29 (by decide) ?_
  refine lv_iload hx hb dX2_choose_3 (lv_at hl 0 rfl) ?_
  refine lv_bipush (v := 6) hx hb dX2_choose_5 (by decide +kernel) ?_
  refine lv_icmp_ge (tgt := 32) hx hb dX2_choose_7 (by decide) (fun c9 => absurd c9 (by decide +kernel)) (fun _ => ?_)
  refine lv_aload_n hx hb dX2_choose_10 rfl (lv_at hl 1 rfl) ?_
  refine va_get (D := (dC, dI)) (ci := 2) (v := .ref aBt) (C := RX2) (T := TX2) (N := 5) hx hb hts (fun _ h => List.mem_cons_of_mem _ (List.mem_append_left _ (List.mem_append_right _ h))) hown hK hP 0 rfl rfl 2 (by decide) (hts (.fieldLink RX2 19 "DrumBoats$FinalList" "bestTime" "[I") (List.mem_of_getElem? (i := 1) rfl)) (fun _ h9 => h9) rfl dX2_choose_11 ?_
  refine lv_iload hx hb dX2_choose_14 (lv_at hl 0 rfl) ?_
  refine lv_iconst (v := 0) hx hb dX2_choose_16 (by decide +kernel) ?_
  refine va_iast hx hb hK hP hD hS 1 0 rfl rfl (by unfold vp_in; decide +kernel) dX2_choose_17 (fun H locs hP hD hS => ?_)
  have hP : va_P (dC, dI) vwCl [(h0, .inr (2, [.int 0, .ref aLi, .ref aBt, .ref aBp, .ref aCh])), (aBt, .inl (caBt, 6, .inl (upd (upd (fun _ => 0) (0 : Int32).toNatClampNeg 0) (1 : Int32).toNatClampNeg 0))), (aBp, .inl (caBp, 6, .inl (upd (fun _ => 0) (0 : Int32).toNatClampNeg (vp_nar .boolean 0)))), (aCh, .inl (caCh, 6, .inl (fun _ => 0)))] H := hP
  have hD : va_D A [(h0, .inr (2, [.int 0, .ref aLi, .ref aBt, .ref aBp, .ref aCh])), (aBt, .inl (caBt, 6, .inl (upd (upd (fun _ => 0) (0 : Int32).toNatClampNeg 0) (1 : Int32).toNatClampNeg 0))), (aBp, .inl (caBp, 6, .inl (upd (fun _ => 0) (0 : Int32).toNatClampNeg (vp_nar .boolean 0)))), (aCh, .inl (caCh, 6, .inl (fun _ => 0)))] := hD
  refine lv_aload_n hx hb dX2_choose_18 rfl (lv_at hl 1 rfl) ?_
  refine va_get (D := (dC, dI)) (ci := 2) (v := .ref aBp) (C := RX2) (T := TX2) (N := 5) hx hb hts (fun _ h => List.mem_cons_of_mem _ (List.mem_append_left _ (List.mem_append_right _ h))) hown hK hP 0 rfl rfl 3 (by decide) (hts (.fieldLink RX2 22 "DrumBoats$FinalList" "byPlace" "[Z") (List.mem_of_getElem? (i := 2) rfl)) (fun _ h9 => h9) rfl dX2_choose_19 ?_
  refine lv_iload hx hb dX2_choose_22 (lv_at hl 0 rfl) ?_
  refine lv_iconst (v := 0) hx hb dX2_choose_24 (by decide +kernel) ?_
  refine va_zast hx hb hK hP hD hS 2 1 rfl rfl (by unfold vp_in; decide +kernel) dX2_choose_25 (fun H locs hP hD hS => ?_)
  have hP : va_P (dC, dI) vwCl [(h0, .inr (2, [.int 0, .ref aLi, .ref aBt, .ref aBp, .ref aCh])), (aBt, .inl (caBt, 6, .inl (upd (upd (fun _ => 0) (0 : Int32).toNatClampNeg 0) (1 : Int32).toNatClampNeg 0))), (aBp, .inl (caBp, 6, .inl (upd (upd (fun _ => 0) (0 : Int32).toNatClampNeg (vp_nar .boolean 0)) (1 : Int32).toNatClampNeg (vp_nar .boolean 0)))), (aCh, .inl (caCh, 6, .inl (fun _ => 0)))] H := hP
  have hD : va_D A [(h0, .inr (2, [.int 0, .ref aLi, .ref aBt, .ref aBp, .ref aCh])), (aBt, .inl (caBt, 6, .inl (upd (upd (fun _ => 0) (0 : Int32).toNatClampNeg 0) (1 : Int32).toNatClampNeg 0))), (aBp, .inl (caBp, 6, .inl (upd (upd (fun _ => 0) (0 : Int32).toNatClampNeg (vp_nar .boolean 0)) (1 : Int32).toNatClampNeg (vp_nar .boolean 0)))), (aCh, .inl (caCh, 6, .inl (fun _ => 0)))] := hD
  refine lv_iinc (v := 2) (lv' := [(5, .int 2), (0, .ref h0), (1, .ref aRa), (2, .int 0), (3, .int p0), (4, .int p1)]) hx hb dX2_choose_26 hl (k := 0) rfl (by decide +kernel) (by decide) rfl (fun ls hl => ?_)
  refine lv_goto (tgt := 3) hx hb dX2_choose_29 (by decide) ?_
  refine lv_iload hx hb dX2_choose_3 (lv_at hl 0 rfl) ?_
  refine lv_bipush (v := 6) hx hb dX2_choose_5 (by decide +kernel) ?_
  refine lv_icmp_ge (tgt := 32) hx hb dX2_choose_7 (by decide) (fun c9 => absurd c9 (by decide +kernel)) (fun _ => ?_)
  refine lv_aload_n hx hb dX2_choose_10 rfl (lv_at hl 1 rfl) ?_
  refine va_get (D := (dC, dI)) (ci := 2) (v := .ref aBt) (C := RX2) (T := TX2) (N := 5) hx hb hts (fun _ h => List.mem_cons_of_mem _ (List.mem_append_left _ (List.mem_append_right _ h))) hown hK hP 0 rfl rfl 2 (by decide) (hts (.fieldLink RX2 19 "DrumBoats$FinalList" "bestTime" "[I") (List.mem_of_getElem? (i := 1) rfl)) (fun _ h9 => h9) rfl dX2_choose_11 ?_
  refine lv_iload hx hb dX2_choose_14 (lv_at hl 0 rfl) ?_
  refine lv_iconst (v := 0) hx hb dX2_choose_16 (by decide +kernel) ?_
  refine va_iast hx hb hK hP hD hS 1 0 rfl rfl (by unfold vp_in; decide +kernel) dX2_choose_17 (fun H locs hP hD hS => ?_)
  have hP : va_P (dC, dI) vwCl [(h0, .inr (2, [.int 0, .ref aLi, .ref aBt, .ref aBp, .ref aCh])), (aBt, .inl (caBt, 6, .inl (upd (upd (upd (fun _ => 0) (0 : Int32).toNatClampNeg 0) (1 : Int32).toNatClampNeg 0) (2 : Int32).toNatClampNeg 0))), (aBp, .inl (caBp, 6, .inl (upd (upd (fun _ => 0) (0 : Int32).toNatClampNeg (vp_nar .boolean 0)) (1 : Int32).toNatClampNeg (vp_nar .boolean 0)))), (aCh, .inl (caCh, 6, .inl (fun _ => 0)))] H := hP
  have hD : va_D A [(h0, .inr (2, [.int 0, .ref aLi, .ref aBt, .ref aBp, .ref aCh])), (aBt, .inl (caBt, 6, .inl (upd (upd (upd (fun _ => 0) (0 : Int32).toNatClampNeg 0) (1 : Int32).toNatClampNeg 0) (2 : Int32).toNatClampNeg 0))), (aBp, .inl (caBp, 6, .inl (upd (upd (fun _ => 0) (0 : Int32).toNatClampNeg (vp_nar .boolean 0)) (1 : Int32).toNatClampNeg (vp_nar .boolean 0)))), (aCh, .inl (caCh, 6, .inl (fun _ => 0)))] := hD
  refine lv_aload_n hx hb dX2_choose_18 rfl (lv_at hl 1 rfl) ?_
  refine va_get (D := (dC, dI)) (ci := 2) (v := .ref aBp) (C := RX2) (T := TX2) (N := 5) hx hb hts (fun _ h => List.mem_cons_of_mem _ (List.mem_append_left _ (List.mem_append_right _ h))) hown hK hP 0 rfl rfl 3 (by decide) (hts (.fieldLink RX2 22 "DrumBoats$FinalList" "byPlace" "[Z") (List.mem_of_getElem? (i := 2) rfl)) (fun _ h9 => h9) rfl dX2_choose_19 ?_
  refine lv_iload hx hb dX2_choose_22 (lv_at hl 0 rfl) ?_
  refine lv_iconst (v := 0) hx hb dX2_choose_24 (by decide +kernel) ?_
  refine va_zast hx hb hK hP hD hS 2 1 rfl rfl (by unfold vp_in; decide +kernel) dX2_choose_25 (fun H locs hP hD hS => ?_)
  have hP : va_P (dC, dI) vwCl [(h0, .inr (2, [.int 0, .ref aLi, .ref aBt, .ref aBp, .ref aCh])), (aBt, .inl (caBt, 6, .inl (upd (upd (upd (fun _ => 0) (0 : Int32).toNatClampNeg 0) (1 : Int32).toNatClampNeg 0) (2 : Int32).toNatClampNeg 0))), (aBp, .inl (caBp, 6, .inl (upd (upd (upd (fun _ => 0) (0 : Int32).toNatClampNeg (vp_nar .boolean 0)) (1 : Int32).toNatClampNeg (vp_nar .boolean 0)) (2 : Int32).toNatClampNeg (vp_nar .boolean 0)))), (aCh, .inl (caCh, 6, .inl (fun _ => 0)))] H := hP
  have hD : va_D A [(h0, .inr (2, [.int 0, .ref aLi, .ref aBt, .ref aBp, .ref aCh])), (aBt, .inl (caBt, 6, .inl (upd (upd (upd (fun _ => 0) (0 : Int32).toNatClampNeg 0) (1 : Int32).toNatClampNeg 0) (2 : Int32).toNatClampNeg 0))), (aBp, .inl (caBp, 6, .inl (upd (upd (upd (fun _ => 0) (0 : Int32).toNatClampNeg (vp_nar .boolean 0)) (1 : Int32).toNatClampNeg (vp_nar .boolean 0)) (2 : Int32).toNatClampNeg (vp_nar .boolean 0)))), (aCh, .inl (caCh, 6, .inl (fun _ => 0)))] := hD
  refine lv_iinc (v := 3) (lv' := [(5, .int 3), (0, .ref h0), (1, .ref aRa), (2, .int 0), (3, .int p0), (4, .int p1)]) hx hb dX2_choose_26 hl (k := 0) rfl (by decide +kernel) (by decide) rfl (fun ls hl => ?_)
  refine lv_goto (tgt := 3) hx hb dX2_choose_29 (by decide) ?_
  refine lv_iload hx hb dX2_choose_3 (lv_at hl 0 rfl) ?_
  refine lv_bipush (v := 6) hx hb dX2_choose_5 (by decide +kernel) ?_
  refine lv_icmp_ge (tgt := 32) hx hb dX2_choose_7 (by decide) (fun c9 => absurd c9 (by decide +kernel)) (fun _ => ?_)
  refine lv_aload_n hx hb dX2_choose_10 rfl (lv_at hl 1 rfl) ?_
  refine va_get (D := (dC, dI)) (ci := 2) (v := .ref aBt) (C := RX2) (T := TX2) (N := 5) hx hb hts (fun _ h => List.mem_cons_of_mem _ (List.mem_append_left _ (List.mem_append_right _ h))) hown hK hP 0 rfl rfl 2 (by decide) (hts (.fieldLink RX2 19 "DrumBoats$FinalList" "bestTime" "[I") (List.mem_of_getElem? (i := 1) rfl)) (fun _ h9 => h9) rfl dX2_choose_11 ?_
  refine lv_iload hx hb dX2_choose_14 (lv_at hl 0 rfl) ?_
  refine lv_iconst (v := 0) hx hb dX2_choose_16 (by decide +kernel) ?_
  refine va_iast hx hb hK hP hD hS 1 0 rfl rfl (by unfold vp_in; decide +kernel) dX2_choose_17 (fun H locs hP hD hS => ?_)
  have hP : va_P (dC, dI) vwCl [(h0, .inr (2, [.int 0, .ref aLi, .ref aBt, .ref aBp, .ref aCh])), (aBt, .inl (caBt, 6, .inl (upd (upd (upd (upd (fun _ => 0) (0 : Int32).toNatClampNeg 0) (1 : Int32).toNatClampNeg 0) (2 : Int32).toNatClampNeg 0) (3 : Int32).toNatClampNeg 0))), (aBp, .inl (caBp, 6, .inl (upd (upd (upd (fun _ => 0) (0 : Int32).toNatClampNeg (vp_nar .boolean 0)) (1 : Int32).toNatClampNeg (vp_nar .boolean 0)) (2 : Int32).toNatClampNeg (vp_nar .boolean 0)))), (aCh, .inl (caCh, 6, .inl (fun _ => 0)))] H := hP
  have hD : va_D A [(h0, .inr (2, [.int 0, .ref aLi, .ref aBt, .ref aBp, .ref aCh])), (aBt, .inl (caBt, 6, .inl (upd (upd (upd (upd (fun _ => 0) (0 : Int32).toNatClampNeg 0) (1 : Int32).toNatClampNeg 0) (2 : Int32).toNatClampNeg 0) (3 : Int32).toNatClampNeg 0))), (aBp, .inl (caBp, 6, .inl (upd (upd (upd (fun _ => 0) (0 : Int32).toNatClampNeg (vp_nar .boolean 0)) (1 : Int32).toNatClampNeg (vp_nar .boolean 0)) (2 : Int32).toNatClampNeg (vp_nar .boolean 0)))), (aCh, .inl (caCh, 6, .inl (fun _ => 0)))] := hD
  refine lv_aload_n hx hb dX2_choose_18 rfl (lv_at hl 1 rfl) ?_
  refine va_get (D := (dC, dI)) (ci := 2) (v := .ref aBp) (C := RX2) (T := TX2) (N := 5) hx hb hts (fun _ h => List.mem_cons_of_mem _ (List.mem_append_left _ (List.mem_append_right _ h))) hown hK hP 0 rfl rfl 3 (by decide) (hts (.fieldLink RX2 22 "DrumBoats$FinalList" "byPlace" "[Z") (List.mem_of_getElem? (i := 2) rfl)) (fun _ h9 => h9) rfl dX2_choose_19 ?_
  refine lv_iload hx hb dX2_choose_22 (lv_at hl 0 rfl) ?_
  refine lv_iconst (v := 0) hx hb dX2_choose_24 (by decide +kernel) ?_
  refine va_zast hx hb hK hP hD hS 2 1 rfl rfl (by unfold vp_in; decide +kernel) dX2_choose_25 (fun H locs hP hD hS => ?_)
  have hP : va_P (dC, dI) vwCl [(h0, .inr (2, [.int 0, .ref aLi, .ref aBt, .ref aBp, .ref aCh])), (aBt, .inl (caBt, 6, .inl (upd (upd (upd (upd (fun _ => 0) (0 : Int32).toNatClampNeg 0) (1 : Int32).toNatClampNeg 0) (2 : Int32).toNatClampNeg 0) (3 : Int32).toNatClampNeg 0))), (aBp, .inl (caBp, 6, .inl (upd (upd (upd (upd (fun _ => 0) (0 : Int32).toNatClampNeg (vp_nar .boolean 0)) (1 : Int32).toNatClampNeg (vp_nar .boolean 0)) (2 : Int32).toNatClampNeg (vp_nar .boolean 0)) (3 : Int32).toNatClampNeg (vp_nar .boolean 0)))), (aCh, .inl (caCh, 6, .inl (fun _ => 0)))] H := hP
  have hD : va_D A [(h0, .inr (2, [.int 0, .ref aLi, .ref aBt, .ref aBp, .ref aCh])), (aBt, .inl (caBt, 6, .inl (upd (upd (upd (upd (fun _ => 0) (0 : Int32).toNatClampNeg 0) (1 : Int32).toNatClampNeg 0) (2 : Int32).toNatClampNeg 0) (3 : Int32).toNatClampNeg 0))), (aBp, .inl (caBp, 6, .inl (upd (upd (upd (upd (fun _ => 0) (0 : Int32).toNatClampNeg (vp_nar .boolean 0)) (1 : Int32).toNatClampNeg (vp_nar .boolean 0)) (2 : Int32).toNatClampNeg (vp_nar .boolean 0)) (3 : Int32).toNatClampNeg (vp_nar .boolean 0)))), (aCh, .inl (caCh, 6, .inl (fun _ => 0)))] := hD
  refine lv_iinc (v := 4) (lv' := [(5, .int 4), (0, .ref h0), (1, .ref aRa), (2, .int 0), (3, .int p0), (4, .int p1)]) hx hb dX2_choose_26 hl (k := 0) rfl (by decide +kernel) (by decide) rfl (fun ls hl => ?_)
  refine lv_goto (tgt := 3) hx hb dX2_choose_29 (by decide) ?_
  refine lv_iload hx hb dX2_choose_3 (lv_at hl 0 rfl) ?_
  refine lv_bipush (v := 6) hx hb dX2_choose_5 (by decide +kernel) ?_
  refine lv_icmp_ge (tgt := 32) hx hb dX2_choose_7 (by decide) (fun c9 => absurd c9 (by decide +kernel)) (fun _ => ?_)
  refine lv_aload_n hx hb dX2_choose_10 rfl (lv_at hl 1 rfl) ?_
  refine va_get (D := (dC, dI)) (ci := 2) (v := .ref aBt) (C := RX2) (T := TX2) (N := 5) hx hb hts (fun _ h => List.mem_cons_of_mem _ (List.mem_append_left _ (List.mem_append_right _ h))) hown hK hP 0 rfl rfl 2 (by decide) (hts (.fieldLink RX2 19 "DrumBoats$FinalList" "bestTime" "[I") (List.mem_of_getElem? (i := 1) rfl)) (fun _ h9 => h9) rfl dX2_choose_11 ?_
  refine lv_iload hx hb dX2_choose_14 (lv_at hl 0 rfl) ?_
  refine lv_iconst (v := 0) hx hb dX2_choose_16 (by decide +kernel) ?_
  refine va_iast hx hb hK hP hD hS 1 0 rfl rfl (by unfold vp_in; decide +kernel) dX2_choose_17 (fun H locs hP hD hS => ?_)
  have hP : va_P (dC, dI) vwCl [(h0, .inr (2, [.int 0, .ref aLi, .ref aBt, .ref aBp, .ref aCh])), (aBt, .inl (caBt, 6, .inl (upd (upd (upd (upd (upd (fun _ => 0) (0 : Int32).toNatClampNeg 0) (1 : Int32).toNatClampNeg 0) (2 : Int32).toNatClampNeg 0) (3 : Int32).toNatClampNeg 0) (4 : Int32).toNatClampNeg 0))), (aBp, .inl (caBp, 6, .inl (upd (upd (upd (upd (fun _ => 0) (0 : Int32).toNatClampNeg (vp_nar .boolean 0)) (1 : Int32).toNatClampNeg (vp_nar .boolean 0)) (2 : Int32).toNatClampNeg (vp_nar .boolean 0)) (3 : Int32).toNatClampNeg (vp_nar .boolean 0)))), (aCh, .inl (caCh, 6, .inl (fun _ => 0)))] H := hP
  have hD : va_D A [(h0, .inr (2, [.int 0, .ref aLi, .ref aBt, .ref aBp, .ref aCh])), (aBt, .inl (caBt, 6, .inl (upd (upd (upd (upd (upd (fun _ => 0) (0 : Int32).toNatClampNeg 0) (1 : Int32).toNatClampNeg 0) (2 : Int32).toNatClampNeg 0) (3 : Int32).toNatClampNeg 0) (4 : Int32).toNatClampNeg 0))), (aBp, .inl (caBp, 6, .inl (upd (upd (upd (upd (fun _ => 0) (0 : Int32).toNatClampNeg (vp_nar .boolean 0)) (1 : Int32).toNatClampNeg (vp_nar .boolean 0)) (2 : Int32).toNatClampNeg (vp_nar .boolean 0)) (3 : Int32).toNatClampNeg (vp_nar .boolean 0)))), (aCh, .inl (caCh, 6, .inl (fun _ => 0)))] := hD
  refine lv_aload_n hx hb dX2_choose_18 rfl (lv_at hl 1 rfl) ?_
  refine va_get (D := (dC, dI)) (ci := 2) (v := .ref aBp) (C := RX2) (T := TX2) (N := 5) hx hb hts (fun _ h => List.mem_cons_of_mem _ (List.mem_append_left _ (List.mem_append_right _ h))) hown hK hP 0 rfl rfl 3 (by decide) (hts (.fieldLink RX2 22 "DrumBoats$FinalList" "byPlace" "[Z") (List.mem_of_getElem? (i := 2) rfl)) (fun _ h9 => h9) rfl dX2_choose_19 ?_
  refine lv_iload hx hb dX2_choose_22 (lv_at hl 0 rfl) ?_
  refine lv_iconst (v := 0) hx hb dX2_choose_24 (by decide +kernel) ?_
  refine va_zast hx hb hK hP hD hS 2 1 rfl rfl (by unfold vp_in; decide +kernel) dX2_choose_25 (fun H locs hP hD hS => ?_)
  have hP : va_P (dC, dI) vwCl [(h0, .inr (2, [.int 0, .ref aLi, .ref aBt, .ref aBp, .ref aCh])), (aBt, .inl (caBt, 6, .inl (upd (upd (upd (upd (upd (fun _ => 0) (0 : Int32).toNatClampNeg 0) (1 : Int32).toNatClampNeg 0) (2 : Int32).toNatClampNeg 0) (3 : Int32).toNatClampNeg 0) (4 : Int32).toNatClampNeg 0))), (aBp, .inl (caBp, 6, .inl (upd (upd (upd (upd (upd (fun _ => 0) (0 : Int32).toNatClampNeg (vp_nar .boolean 0)) (1 : Int32).toNatClampNeg (vp_nar .boolean 0)) (2 : Int32).toNatClampNeg (vp_nar .boolean 0)) (3 : Int32).toNatClampNeg (vp_nar .boolean 0)) (4 : Int32).toNatClampNeg (vp_nar .boolean 0)))), (aCh, .inl (caCh, 6, .inl (fun _ => 0)))] H := hP
  have hD : va_D A [(h0, .inr (2, [.int 0, .ref aLi, .ref aBt, .ref aBp, .ref aCh])), (aBt, .inl (caBt, 6, .inl (upd (upd (upd (upd (upd (fun _ => 0) (0 : Int32).toNatClampNeg 0) (1 : Int32).toNatClampNeg 0) (2 : Int32).toNatClampNeg 0) (3 : Int32).toNatClampNeg 0) (4 : Int32).toNatClampNeg 0))), (aBp, .inl (caBp, 6, .inl (upd (upd (upd (upd (upd (fun _ => 0) (0 : Int32).toNatClampNeg (vp_nar .boolean 0)) (1 : Int32).toNatClampNeg (vp_nar .boolean 0)) (2 : Int32).toNatClampNeg (vp_nar .boolean 0)) (3 : Int32).toNatClampNeg (vp_nar .boolean 0)) (4 : Int32).toNatClampNeg (vp_nar .boolean 0)))), (aCh, .inl (caCh, 6, .inl (fun _ => 0)))] := hD
  refine lv_iinc (v := 5) (lv' := [(5, .int 5), (0, .ref h0), (1, .ref aRa), (2, .int 0), (3, .int p0), (4, .int p1)]) hx hb dX2_choose_26 hl (k := 0) rfl (by decide +kernel) (by decide) rfl (fun ls hl => ?_)
  refine lv_goto (tgt := 3) hx hb dX2_choose_29 (by decide) ?_
  refine lv_iload hx hb dX2_choose_3 (lv_at hl 0 rfl) ?_
  refine lv_bipush (v := 6) hx hb dX2_choose_5 (by decide +kernel) ?_
  refine lv_icmp_ge (tgt := 32) hx hb dX2_choose_7 (by decide) (fun c9 => absurd c9 (by decide +kernel)) (fun _ => ?_)
  refine lv_aload_n hx hb dX2_choose_10 rfl (lv_at hl 1 rfl) ?_
  refine va_get (D := (dC, dI)) (ci := 2) (v := .ref aBt) (C := RX2) (T := TX2) (N := 5) hx hb hts (fun _ h => List.mem_cons_of_mem _ (List.mem_append_left _ (List.mem_append_right _ h))) hown hK hP 0 rfl rfl 2 (by decide) (hts (.fieldLink RX2 19 "DrumBoats$FinalList" "bestTime" "[I") (List.mem_of_getElem? (i := 1) rfl)) (fun _ h9 => h9) rfl dX2_choose_11 ?_
  refine lv_iload hx hb dX2_choose_14 (lv_at hl 0 rfl) ?_
  refine lv_iconst (v := 0) hx hb dX2_choose_16 (by decide +kernel) ?_
  refine va_iast hx hb hK hP hD hS 1 0 rfl rfl (by unfold vp_in; decide +kernel) dX2_choose_17 (fun H locs hP hD hS => ?_)
  have hP : va_P (dC, dI) vwCl [(h0, .inr (2, [.int 0, .ref aLi, .ref aBt, .ref aBp, .ref aCh])), (aBt, .inl (caBt, 6, .inl (upd (upd (upd (upd (upd (upd (fun _ => 0) (0 : Int32).toNatClampNeg 0) (1 : Int32).toNatClampNeg 0) (2 : Int32).toNatClampNeg 0) (3 : Int32).toNatClampNeg 0) (4 : Int32).toNatClampNeg 0) (5 : Int32).toNatClampNeg 0))), (aBp, .inl (caBp, 6, .inl (upd (upd (upd (upd (upd (fun _ => 0) (0 : Int32).toNatClampNeg (vp_nar .boolean 0)) (1 : Int32).toNatClampNeg (vp_nar .boolean 0)) (2 : Int32).toNatClampNeg (vp_nar .boolean 0)) (3 : Int32).toNatClampNeg (vp_nar .boolean 0)) (4 : Int32).toNatClampNeg (vp_nar .boolean 0)))), (aCh, .inl (caCh, 6, .inl (fun _ => 0)))] H := hP
  have hD : va_D A [(h0, .inr (2, [.int 0, .ref aLi, .ref aBt, .ref aBp, .ref aCh])), (aBt, .inl (caBt, 6, .inl (upd (upd (upd (upd (upd (upd (fun _ => 0) (0 : Int32).toNatClampNeg 0) (1 : Int32).toNatClampNeg 0) (2 : Int32).toNatClampNeg 0) (3 : Int32).toNatClampNeg 0) (4 : Int32).toNatClampNeg 0) (5 : Int32).toNatClampNeg 0))), (aBp, .inl (caBp, 6, .inl (upd (upd (upd (upd (upd (fun _ => 0) (0 : Int32).toNatClampNeg (vp_nar .boolean 0)) (1 : Int32).toNatClampNeg (vp_nar .boolean 0)) (2 : Int32).toNatClampNeg (vp_nar .boolean 0)) (3 : Int32).toNatClampNeg (vp_nar .boolean 0)) (4 : Int32).toNatClampNeg (vp_nar .boolean 0)))), (aCh, .inl (caCh, 6, .inl (fun _ => 0)))] := hD
  refine lv_aload_n hx hb dX2_choose_18 rfl (lv_at hl 1 rfl) ?_
  refine va_get (D := (dC, dI)) (ci := 2) (v := .ref aBp) (C := RX2) (T := TX2) (N := 5) hx hb hts (fun _ h => List.mem_cons_of_mem _ (List.mem_append_left _ (List.mem_append_right _ h))) hown hK hP 0 rfl rfl 3 (by decide) (hts (.fieldLink RX2 22 "DrumBoats$FinalList" "byPlace" "[Z") (List.mem_of_getElem? (i := 2) rfl)) (fun _ h9 => h9) rfl dX2_choose_19 ?_
  refine lv_iload hx hb dX2_choose_22 (lv_at hl 0 rfl) ?_
  refine lv_iconst (v := 0) hx hb dX2_choose_24 (by decide +kernel) ?_
  refine va_zast hx hb hK hP hD hS 2 1 rfl rfl (by unfold vp_in; decide +kernel) dX2_choose_25 (fun H locs hP hD hS => ?_)
  have hP : va_P (dC, dI) vwCl [(h0, .inr (2, [.int 0, .ref aLi, .ref aBt, .ref aBp, .ref aCh])), (aBt, .inl (caBt, 6, .inl (upd (upd (upd (upd (upd (upd (fun _ => 0) (0 : Int32).toNatClampNeg 0) (1 : Int32).toNatClampNeg 0) (2 : Int32).toNatClampNeg 0) (3 : Int32).toNatClampNeg 0) (4 : Int32).toNatClampNeg 0) (5 : Int32).toNatClampNeg 0))), (aBp, .inl (caBp, 6, .inl (upd (upd (upd (upd (upd (upd (fun _ => 0) (0 : Int32).toNatClampNeg (vp_nar .boolean 0)) (1 : Int32).toNatClampNeg (vp_nar .boolean 0)) (2 : Int32).toNatClampNeg (vp_nar .boolean 0)) (3 : Int32).toNatClampNeg (vp_nar .boolean 0)) (4 : Int32).toNatClampNeg (vp_nar .boolean 0)) (5 : Int32).toNatClampNeg (vp_nar .boolean 0)))), (aCh, .inl (caCh, 6, .inl (fun _ => 0)))] H := hP
  have hD : va_D A [(h0, .inr (2, [.int 0, .ref aLi, .ref aBt, .ref aBp, .ref aCh])), (aBt, .inl (caBt, 6, .inl (upd (upd (upd (upd (upd (upd (fun _ => 0) (0 : Int32).toNatClampNeg 0) (1 : Int32).toNatClampNeg 0) (2 : Int32).toNatClampNeg 0) (3 : Int32).toNatClampNeg 0) (4 : Int32).toNatClampNeg 0) (5 : Int32).toNatClampNeg 0))), (aBp, .inl (caBp, 6, .inl (upd (upd (upd (upd (upd (upd (fun _ => 0) (0 : Int32).toNatClampNeg (vp_nar .boolean 0)) (1 : Int32).toNatClampNeg (vp_nar .boolean 0)) (2 : Int32).toNatClampNeg (vp_nar .boolean 0)) (3 : Int32).toNatClampNeg (vp_nar .boolean 0)) (4 : Int32).toNatClampNeg (vp_nar .boolean 0)) (5 : Int32).toNatClampNeg (vp_nar .boolean 0)))), (aCh, .inl (caCh, 6, .inl (fun _ => 0)))] := hD
  refine lv_iinc (v := 6) (lv' := [(5, .int 6), (0, .ref h0), (1, .ref aRa), (2, .int 0), (3, .int p0), (4, .int p1)]) hx hb dX2_choose_26 hl (k := 0) rfl (by decide +kernel) (by decide) rfl (fun ls hl => ?_)
  refine lv_goto (tgt := 3) hx hb dX2_choose_29 (by decide) ?_
  refine lv_iload hx hb dX2_choose_3 (lv_at hl 0 rfl) ?_
  refine lv_bipush (v := 6) hx hb dX2_choose_5 (by decide +kernel) ?_
  refine lv_icmp_ge (tgt := 32) hx hb dX2_choose_7 (by decide) (fun _ => ?_) (fun c9 => absurd c9 (by decide +kernel))
  refine lv_iconst (v := 0) hx hb dX2_choose_32 (by decide +kernel) ?_
  refine lv_istore (lv' := [(5, .int 0), (0, .ref h0), (1, .ref aRa), (2, .int 0), (3, .int p0), (4, .int p1)]) hx hb dX2_choose_33 hl (by decide) rfl (fun ls hl => ?_)
  refine lv_iload hx hb dX2_choose_35 (lv_at hl 0 rfl) ?_
  refine lv_iload_n hx hb dX2_choose_37 rfl (lv_at hl 3 rfl) ?_
  refine lv_icmp_ge (tgt := 67) hx hb dX2_choose_38 (by decide) (fun _ => ?_) (fun c9 => absurd c9 (by decide +kernel))
  refine lv_iconst (v := 0) hx hb dX2_choose_67 (by decide +kernel) ?_
  refine lv_istore (lv' := [(5, .int 0), (0, .ref h0), (1, .ref aRa), (2, .int 0), (3, .int p0), (4, .int p1)]) hx hb dX2_choose_68 hl (by decide) rfl (fun ls hl => ?_)
  refine lv_iload hx hb dX2_choose_70 (lv_at hl 0 rfl) ?_
  refine lv_bipush (v := 6) hx hb dX2_choose_72 (by decide +kernel) ?_
  refine lv_icmp_ge (tgt := 126) hx hb dX2_choose_74 (by decide) (fun c9 => absurd c9 (by decide +kernel)) (fun _ => ?_)
  refine lv_aload_n hx hb dX2_choose_77 rfl (lv_at hl 1 rfl) ?_
  refine va_get (D := (dC, dI)) (ci := 2) (v := .ref aCh) (C := RX2) (T := TX2) (N := 5) hx hb hts (fun _ h => List.mem_cons_of_mem _ (List.mem_append_left _ (List.mem_append_right _ h))) hown hK hP 0 rfl rfl 4 (by decide) (hts (.fieldLink RX2 26 "DrumBoats$FinalList" "chosen" "[Z") (List.mem_of_getElem? (i := 4) rfl)) (fun _ h9 => h9) rfl dX2_choose_78 ?_
  refine lv_iload hx hb dX2_choose_81 (lv_at hl 0 rfl) ?_
  refine lv_aload_n hx hb dX2_choose_83 rfl (lv_at hl 1 rfl) ?_
  refine va_get (D := (dC, dI)) (ci := 2) (v := .ref aBp) (C := RX2) (T := TX2) (N := 5) hx hb hts (fun _ h => List.mem_cons_of_mem _ (List.mem_append_left _ (List.mem_append_right _ h))) hown hK hP 0 rfl rfl 3 (by decide) (hts (.fieldLink RX2 22 "DrumBoats$FinalList" "byPlace" "[Z") (List.mem_of_getElem? (i := 2) rfl)) (fun _ h9 => h9) rfl dX2_choose_84 ?_
  refine lv_iload hx hb dX2_choose_87 (lv_at hl 0 rfl) ?_
  refine va_zald hx hb hK hP 2 1 rfl rfl (by unfold vp_in; decide +kernel) dX2_choose_89 ?_
  refine ti_eq (y := 0) (by decide +kernel) ?_
  refine lv_if_ne (tgt := 114) hx hb dX2_choose_90 (by decide) (fun c9 => absurd c9 (by decide +kernel)) (fun _ => ?_)
  refine lv_aload_n hx hb dX2_choose_93 rfl (lv_at hl 1 rfl) ?_
  refine va_get (D := (dC, dI)) (ci := 2) (v := .ref aBt) (C := RX2) (T := TX2) (N := 5) hx hb hts (fun _ h => List.mem_cons_of_mem _ (List.mem_append_left _ (List.mem_append_right _ h))) hown hK hP 0 rfl rfl 2 (by decide) (hts (.fieldLink RX2 19 "DrumBoats$FinalList" "bestTime" "[I") (List.mem_of_getElem? (i := 1) rfl)) (fun _ h9 => h9) rfl dX2_choose_94 ?_
  refine lv_iload hx hb dX2_choose_97 (lv_at hl 0 rfl) ?_
  refine va_iald hx hb hK hP 1 0 rfl rfl (by unfold vp_in; decide +kernel) dX2_choose_99 ?_
  refine ti_eq (y := 0) (by decide +kernel) ?_
  refine lv_if_le (tgt := 118) hx hb dX2_choose_100 (by decide) (fun _ => ?_) (fun c9 => absurd c9 (by decide +kernel))
  refine lv_iconst (v := 0) hx hb dX2_choose_118 (by decide +kernel) ?_
  refine va_zast hx hb hK hP hD hS 3 2 rfl rfl (by unfold vp_in; decide +kernel) dX2_choose_119 (fun H locs hP hD hS => ?_)
  have hP : va_P (dC, dI) vwCl [(h0, .inr (2, [.int 0, .ref aLi, .ref aBt, .ref aBp, .ref aCh])), (aBt, .inl (caBt, 6, .inl (upd (upd (upd (upd (upd (upd (fun _ => 0) (0 : Int32).toNatClampNeg 0) (1 : Int32).toNatClampNeg 0) (2 : Int32).toNatClampNeg 0) (3 : Int32).toNatClampNeg 0) (4 : Int32).toNatClampNeg 0) (5 : Int32).toNatClampNeg 0))), (aBp, .inl (caBp, 6, .inl (upd (upd (upd (upd (upd (upd (fun _ => 0) (0 : Int32).toNatClampNeg (vp_nar .boolean 0)) (1 : Int32).toNatClampNeg (vp_nar .boolean 0)) (2 : Int32).toNatClampNeg (vp_nar .boolean 0)) (3 : Int32).toNatClampNeg (vp_nar .boolean 0)) (4 : Int32).toNatClampNeg (vp_nar .boolean 0)) (5 : Int32).toNatClampNeg (vp_nar .boolean 0)))), (aCh, .inl (caCh, 6, .inl (upd (fun _ => 0) (0 : Int32).toNatClampNeg (vp_nar .boolean 0))))] H := hP
  have hD : va_D A [(h0, .inr (2, [.int 0, .ref aLi, .ref aBt, .ref aBp, .ref aCh])), (aBt, .inl (caBt, 6, .inl (upd (upd (upd (upd (upd (upd (fun _ => 0) (0 : Int32).toNatClampNeg 0) (1 : Int32).toNatClampNeg 0) (2 : Int32).toNatClampNeg 0) (3 : Int32).toNatClampNeg 0) (4 : Int32).toNatClampNeg 0) (5 : Int32).toNatClampNeg 0))), (aBp, .inl (caBp, 6, .inl (upd (upd (upd (upd (upd (upd (fun _ => 0) (0 : Int32).toNatClampNeg (vp_nar .boolean 0)) (1 : Int32).toNatClampNeg (vp_nar .boolean 0)) (2 : Int32).toNatClampNeg (vp_nar .boolean 0)) (3 : Int32).toNatClampNeg (vp_nar .boolean 0)) (4 : Int32).toNatClampNeg (vp_nar .boolean 0)) (5 : Int32).toNatClampNeg (vp_nar .boolean 0)))), (aCh, .inl (caCh, 6, .inl (upd (fun _ => 0) (0 : Int32).toNatClampNeg (vp_nar .boolean 0))))] := hD
  refine lv_iinc (v := 1) (lv' := [(5, .int 1), (0, .ref h0), (1, .ref aRa), (2, .int 0), (3, .int p0), (4, .int p1)]) hx hb dX2_choose_120 hl (k := 0) rfl (by decide +kernel) (by decide) rfl (fun ls hl => ?_)
  refine lv_goto (tgt := 70) hx hb dX2_choose_123 (by decide) ?_
  refine lv_iload hx hb dX2_choose_70 (lv_at hl 0 rfl) ?_
  refine lv_bipush (v := 6) hx hb dX2_choose_72 (by decide +kernel) ?_
  refine lv_icmp_ge (tgt := 126) hx hb dX2_choose_74 (by decide) (fun c9 => absurd c9 (by decide +kernel)) (fun _ => ?_)
  refine lv_aload_n hx hb dX2_choose_77 rfl (lv_at hl 1 rfl) ?_
  refine va_get (D := (dC, dI)) (ci := 2) (v := .ref aCh) (C := RX2) (T := TX2) (N := 5) hx hb hts (fun _ h => List.mem_cons_of_mem _ (List.mem_append_left _ (List.mem_append_right _ h))) hown hK hP 0 rfl rfl 4 (by decide) (hts (.fieldLink RX2 26 "DrumBoats$FinalList" "chosen" "[Z") (List.mem_of_getElem? (i := 4) rfl)) (fun _ h9 => h9) rfl dX2_choose_78 ?_
  refine lv_iload hx hb dX2_choose_81 (lv_at hl 0 rfl) ?_
  refine lv_aload_n hx hb dX2_choose_83 rfl (lv_at hl 1 rfl) ?_
  refine va_get (D := (dC, dI)) (ci := 2) (v := .ref aBp) (C := RX2) (T := TX2) (N := 5) hx hb hts (fun _ h => List.mem_cons_of_mem _ (List.mem_append_left _ (List.mem_append_right _ h))) hown hK hP 0 rfl rfl 3 (by decide) (hts (.fieldLink RX2 22 "DrumBoats$FinalList" "byPlace" "[Z") (List.mem_of_getElem? (i := 2) rfl)) (fun _ h9 => h9) rfl dX2_choose_84 ?_
  refine lv_iload hx hb dX2_choose_87 (lv_at hl 0 rfl) ?_
  refine va_zald hx hb hK hP 2 1 rfl rfl (by unfold vp_in; decide +kernel) dX2_choose_89 ?_
  refine ti_eq (y := 0) (by decide +kernel) ?_
  refine lv_if_ne (tgt := 114) hx hb dX2_choose_90 (by decide) (fun c9 => absurd c9 (by decide +kernel)) (fun _ => ?_)
  refine lv_aload_n hx hb dX2_choose_93 rfl (lv_at hl 1 rfl) ?_
  refine va_get (D := (dC, dI)) (ci := 2) (v := .ref aBt) (C := RX2) (T := TX2) (N := 5) hx hb hts (fun _ h => List.mem_cons_of_mem _ (List.mem_append_left _ (List.mem_append_right _ h))) hown hK hP 0 rfl rfl 2 (by decide) (hts (.fieldLink RX2 19 "DrumBoats$FinalList" "bestTime" "[I") (List.mem_of_getElem? (i := 1) rfl)) (fun _ h9 => h9) rfl dX2_choose_94 ?_
  refine lv_iload hx hb dX2_choose_97 (lv_at hl 0 rfl) ?_
  refine va_iald hx hb hK hP 1 0 rfl rfl (by unfold vp_in; decide +kernel) dX2_choose_99 ?_
  refine ti_eq (y := 0) (by decide +kernel) ?_
  refine lv_if_le (tgt := 118) hx hb dX2_choose_100 (by decide) (fun _ => ?_) (fun c9 => absurd c9 (by decide +kernel))
  refine lv_iconst (v := 0) hx hb dX2_choose_118 (by decide +kernel) ?_
  refine va_zast hx hb hK hP hD hS 3 2 rfl rfl (by unfold vp_in; decide +kernel) dX2_choose_119 (fun H locs hP hD hS => ?_)
  have hP : va_P (dC, dI) vwCl [(h0, .inr (2, [.int 0, .ref aLi, .ref aBt, .ref aBp, .ref aCh])), (aBt, .inl (caBt, 6, .inl (upd (upd (upd (upd (upd (upd (fun _ => 0) (0 : Int32).toNatClampNeg 0) (1 : Int32).toNatClampNeg 0) (2 : Int32).toNatClampNeg 0) (3 : Int32).toNatClampNeg 0) (4 : Int32).toNatClampNeg 0) (5 : Int32).toNatClampNeg 0))), (aBp, .inl (caBp, 6, .inl (upd (upd (upd (upd (upd (upd (fun _ => 0) (0 : Int32).toNatClampNeg (vp_nar .boolean 0)) (1 : Int32).toNatClampNeg (vp_nar .boolean 0)) (2 : Int32).toNatClampNeg (vp_nar .boolean 0)) (3 : Int32).toNatClampNeg (vp_nar .boolean 0)) (4 : Int32).toNatClampNeg (vp_nar .boolean 0)) (5 : Int32).toNatClampNeg (vp_nar .boolean 0)))), (aCh, .inl (caCh, 6, .inl (upd (upd (fun _ => 0) (0 : Int32).toNatClampNeg (vp_nar .boolean 0)) (1 : Int32).toNatClampNeg (vp_nar .boolean 0))))] H := hP
  have hD : va_D A [(h0, .inr (2, [.int 0, .ref aLi, .ref aBt, .ref aBp, .ref aCh])), (aBt, .inl (caBt, 6, .inl (upd (upd (upd (upd (upd (upd (fun _ => 0) (0 : Int32).toNatClampNeg 0) (1 : Int32).toNatClampNeg 0) (2 : Int32).toNatClampNeg 0) (3 : Int32).toNatClampNeg 0) (4 : Int32).toNatClampNeg 0) (5 : Int32).toNatClampNeg 0))), (aBp, .inl (caBp, 6, .inl (upd (upd (upd (upd (upd (upd (fun _ => 0) (0 : Int32).toNatClampNeg (vp_nar .boolean 0)) (1 : Int32).toNatClampNeg (vp_nar .boolean 0)) (2 : Int32).toNatClampNeg (vp_nar .boolean 0)) (3 : Int32).toNatClampNeg (vp_nar .boolean 0)) (4 : Int32).toNatClampNeg (vp_nar .boolean 0)) (5 : Int32).toNatClampNeg (vp_nar .boolean 0)))), (aCh, .inl (caCh, 6, .inl (upd (upd (fun _ => 0) (0 : Int32).toNatClampNeg (vp_nar .boolean 0)) (1 : Int32).toNatClampNeg (vp_nar .boolean 0))))] := hD
  refine lv_iinc (v := 2) (lv' := [(5, .int 2), (0, .ref h0), (1, .ref aRa), (2, .int 0), (3, .int p0), (4, .int p1)]) hx hb dX2_choose_120 hl (k := 0) rfl (by decide +kernel) (by decide) rfl (fun ls hl => ?_)
  refine lv_goto (tgt := 70) hx hb dX2_choose_123 (by decide) ?_
  refine lv_iload hx hb dX2_choose_70 (lv_at hl 0 rfl) ?_
  refine lv_bipush (v := 6) hx hb dX2_choose_72 (by decide +kernel) ?_
  refine lv_icmp_ge (tgt := 126) hx hb dX2_choose_74 (by decide) (fun c9 => absurd c9 (by decide +kernel)) (fun _ => ?_)
  refine lv_aload_n hx hb dX2_choose_77 rfl (lv_at hl 1 rfl) ?_
  refine va_get (D := (dC, dI)) (ci := 2) (v := .ref aCh) (C := RX2) (T := TX2) (N := 5) hx hb hts (fun _ h => List.mem_cons_of_mem _ (List.mem_append_left _ (List.mem_append_right _ h))) hown hK hP 0 rfl rfl 4 (by decide) (hts (.fieldLink RX2 26 "DrumBoats$FinalList" "chosen" "[Z") (List.mem_of_getElem? (i := 4) rfl)) (fun _ h9 => h9) rfl dX2_choose_78 ?_
  refine lv_iload hx hb dX2_choose_81 (lv_at hl 0 rfl) ?_
  refine lv_aload_n hx hb dX2_choose_83 rfl (lv_at hl 1 rfl) ?_
  refine va_get (D := (dC, dI)) (ci := 2) (v := .ref aBp) (C := RX2) (T := TX2) (N := 5) hx hb hts (fun _ h => List.mem_cons_of_mem _ (List.mem_append_left _ (List.mem_append_right _ h))) hown hK hP 0 rfl rfl 3 (by decide) (hts (.fieldLink RX2 22 "DrumBoats$FinalList" "byPlace" "[Z") (List.mem_of_getElem? (i := 2) rfl)) (fun _ h9 => h9) rfl dX2_choose_84 ?_
  refine lv_iload hx hb dX2_choose_87 (lv_at hl 0 rfl) ?_
  refine va_zald hx hb hK hP 2 1 rfl rfl (by unfold vp_in; decide +kernel) dX2_choose_89 ?_
  refine ti_eq (y := 0) (by decide +kernel) ?_
  refine lv_if_ne (tgt := 114) hx hb dX2_choose_90 (by decide) (fun c9 => absurd c9 (by decide +kernel)) (fun _ => ?_)
  refine lv_aload_n hx hb dX2_choose_93 rfl (lv_at hl 1 rfl) ?_
  refine va_get (D := (dC, dI)) (ci := 2) (v := .ref aBt) (C := RX2) (T := TX2) (N := 5) hx hb hts (fun _ h => List.mem_cons_of_mem _ (List.mem_append_left _ (List.mem_append_right _ h))) hown hK hP 0 rfl rfl 2 (by decide) (hts (.fieldLink RX2 19 "DrumBoats$FinalList" "bestTime" "[I") (List.mem_of_getElem? (i := 1) rfl)) (fun _ h9 => h9) rfl dX2_choose_94 ?_
  refine lv_iload hx hb dX2_choose_97 (lv_at hl 0 rfl) ?_
  refine va_iald hx hb hK hP 1 0 rfl rfl (by unfold vp_in; decide +kernel) dX2_choose_99 ?_
  refine ti_eq (y := 0) (by decide +kernel) ?_
  refine lv_if_le (tgt := 118) hx hb dX2_choose_100 (by decide) (fun _ => ?_) (fun c9 => absurd c9 (by decide +kernel))
  refine lv_iconst (v := 0) hx hb dX2_choose_118 (by decide +kernel) ?_
  refine va_zast hx hb hK hP hD hS 3 2 rfl rfl (by unfold vp_in; decide +kernel) dX2_choose_119 (fun H locs hP hD hS => ?_)
  have hP : va_P (dC, dI) vwCl [(h0, .inr (2, [.int 0, .ref aLi, .ref aBt, .ref aBp, .ref aCh])), (aBt, .inl (caBt, 6, .inl (upd (upd (upd (upd (upd (upd (fun _ => 0) (0 : Int32).toNatClampNeg 0) (1 : Int32).toNatClampNeg 0) (2 : Int32).toNatClampNeg 0) (3 : Int32).toNatClampNeg 0) (4 : Int32).toNatClampNeg 0) (5 : Int32).toNatClampNeg 0))), (aBp, .inl (caBp, 6, .inl (upd (upd (upd (upd (upd (upd (fun _ => 0) (0 : Int32).toNatClampNeg (vp_nar .boolean 0)) (1 : Int32).toNatClampNeg (vp_nar .boolean 0)) (2 : Int32).toNatClampNeg (vp_nar .boolean 0)) (3 : Int32).toNatClampNeg (vp_nar .boolean 0)) (4 : Int32).toNatClampNeg (vp_nar .boolean 0)) (5 : Int32).toNatClampNeg (vp_nar .boolean 0)))), (aCh, .inl (caCh, 6, .inl (upd (upd (upd (fun _ => 0) (0 : Int32).toNatClampNeg (vp_nar .boolean 0)) (1 : Int32).toNatClampNeg (vp_nar .boolean 0)) (2 : Int32).toNatClampNeg (vp_nar .boolean 0))))] H := hP
  have hD : va_D A [(h0, .inr (2, [.int 0, .ref aLi, .ref aBt, .ref aBp, .ref aCh])), (aBt, .inl (caBt, 6, .inl (upd (upd (upd (upd (upd (upd (fun _ => 0) (0 : Int32).toNatClampNeg 0) (1 : Int32).toNatClampNeg 0) (2 : Int32).toNatClampNeg 0) (3 : Int32).toNatClampNeg 0) (4 : Int32).toNatClampNeg 0) (5 : Int32).toNatClampNeg 0))), (aBp, .inl (caBp, 6, .inl (upd (upd (upd (upd (upd (upd (fun _ => 0) (0 : Int32).toNatClampNeg (vp_nar .boolean 0)) (1 : Int32).toNatClampNeg (vp_nar .boolean 0)) (2 : Int32).toNatClampNeg (vp_nar .boolean 0)) (3 : Int32).toNatClampNeg (vp_nar .boolean 0)) (4 : Int32).toNatClampNeg (vp_nar .boolean 0)) (5 : Int32).toNatClampNeg (vp_nar .boolean 0)))), (aCh, .inl (caCh, 6, .inl (upd (upd (upd (fun _ => 0) (0 : Int32).toNatClampNeg (vp_nar .boolean 0)) (1 : Int32).toNatClampNeg (vp_nar .boolean 0)) (2 : Int32).toNatClampNeg (vp_nar .boolean 0))))] := hD
  refine lv_iinc (v := 3) (lv' := [(5, .int 3), (0, .ref h0), (1, .ref aRa), (2, .int 0), (3, .int p0), (4, .int p1)]) hx hb dX2_choose_120 hl (k := 0) rfl (by decide +kernel) (by decide) rfl (fun ls hl => ?_)
  refine lv_goto (tgt := 70) hx hb dX2_choose_123 (by decide) ?_
  refine lv_iload hx hb dX2_choose_70 (lv_at hl 0 rfl) ?_
  refine lv_bipush (v := 6) hx hb dX2_choose_72 (by decide +kernel) ?_
  refine lv_icmp_ge (tgt := 126) hx hb dX2_choose_74 (by decide) (fun c9 => absurd c9 (by decide +kernel)) (fun _ => ?_)
  refine lv_aload_n hx hb dX2_choose_77 rfl (lv_at hl 1 rfl) ?_
  refine va_get (D := (dC, dI)) (ci := 2) (v := .ref aCh) (C := RX2) (T := TX2) (N := 5) hx hb hts (fun _ h => List.mem_cons_of_mem _ (List.mem_append_left _ (List.mem_append_right _ h))) hown hK hP 0 rfl rfl 4 (by decide) (hts (.fieldLink RX2 26 "DrumBoats$FinalList" "chosen" "[Z") (List.mem_of_getElem? (i := 4) rfl)) (fun _ h9 => h9) rfl dX2_choose_78 ?_
  refine lv_iload hx hb dX2_choose_81 (lv_at hl 0 rfl) ?_
  refine lv_aload_n hx hb dX2_choose_83 rfl (lv_at hl 1 rfl) ?_
  refine va_get (D := (dC, dI)) (ci := 2) (v := .ref aBp) (C := RX2) (T := TX2) (N := 5) hx hb hts (fun _ h => List.mem_cons_of_mem _ (List.mem_append_left _ (List.mem_append_right _ h))) hown hK hP 0 rfl rfl 3 (by decide) (hts (.fieldLink RX2 22 "DrumBoats$FinalList" "byPlace" "[Z") (List.mem_of_getElem? (i := 2) rfl)) (fun _ h9 => h9) rfl dX2_choose_84 ?_
  refine lv_iload hx hb dX2_choose_87 (lv_at hl 0 rfl) ?_
  refine va_zald hx hb hK hP 2 1 rfl rfl (by unfold vp_in; decide +kernel) dX2_choose_89 ?_
  refine ti_eq (y := 0) (by decide +kernel) ?_
  refine lv_if_ne (tgt := 114) hx hb dX2_choose_90 (by decide) (fun c9 => absurd c9 (by decide +kernel)) (fun _ => ?_)
  refine lv_aload_n hx hb dX2_choose_93 rfl (lv_at hl 1 rfl) ?_
  refine va_get (D := (dC, dI)) (ci := 2) (v := .ref aBt) (C := RX2) (T := TX2) (N := 5) hx hb hts (fun _ h => List.mem_cons_of_mem _ (List.mem_append_left _ (List.mem_append_right _ h))) hown hK hP 0 rfl rfl 2 (by decide) (hts (.fieldLink RX2 19 "DrumBoats$FinalList" "bestTime" "[I") (List.mem_of_getElem? (i := 1) rfl)) (fun _ h9 => h9) rfl dX2_choose_94 ?_
  refine lv_iload hx hb dX2_choose_97 (lv_at hl 0 rfl) ?_
  refine va_iald hx hb hK hP 1 0 rfl rfl (by unfold vp_in; decide +kernel) dX2_choose_99 ?_
  refine ti_eq (y := 0) (by decide +kernel) ?_
  refine lv_if_le (tgt := 118) hx hb dX2_choose_100 (by decide) (fun _ => ?_) (fun c9 => absurd c9 (by decide +kernel))
  refine lv_iconst (v := 0) hx hb dX2_choose_118 (by decide +kernel) ?_
  refine va_zast hx hb hK hP hD hS 3 2 rfl rfl (by unfold vp_in; decide +kernel) dX2_choose_119 (fun H locs hP hD hS => ?_)
  have hP : va_P (dC, dI) vwCl [(h0, .inr (2, [.int 0, .ref aLi, .ref aBt, .ref aBp, .ref aCh])), (aBt, .inl (caBt, 6, .inl (upd (upd (upd (upd (upd (upd (fun _ => 0) (0 : Int32).toNatClampNeg 0) (1 : Int32).toNatClampNeg 0) (2 : Int32).toNatClampNeg 0) (3 : Int32).toNatClampNeg 0) (4 : Int32).toNatClampNeg 0) (5 : Int32).toNatClampNeg 0))), (aBp, .inl (caBp, 6, .inl (upd (upd (upd (upd (upd (upd (fun _ => 0) (0 : Int32).toNatClampNeg (vp_nar .boolean 0)) (1 : Int32).toNatClampNeg (vp_nar .boolean 0)) (2 : Int32).toNatClampNeg (vp_nar .boolean 0)) (3 : Int32).toNatClampNeg (vp_nar .boolean 0)) (4 : Int32).toNatClampNeg (vp_nar .boolean 0)) (5 : Int32).toNatClampNeg (vp_nar .boolean 0)))), (aCh, .inl (caCh, 6, .inl (upd (upd (upd (upd (fun _ => 0) (0 : Int32).toNatClampNeg (vp_nar .boolean 0)) (1 : Int32).toNatClampNeg (vp_nar .boolean 0)) (2 : Int32).toNatClampNeg (vp_nar .boolean 0)) (3 : Int32).toNatClampNeg (vp_nar .boolean 0))))] H := hP
  have hD : va_D A [(h0, .inr (2, [.int 0, .ref aLi, .ref aBt, .ref aBp, .ref aCh])), (aBt, .inl (caBt, 6, .inl (upd (upd (upd (upd (upd (upd (fun _ => 0) (0 : Int32).toNatClampNeg 0) (1 : Int32).toNatClampNeg 0) (2 : Int32).toNatClampNeg 0) (3 : Int32).toNatClampNeg 0) (4 : Int32).toNatClampNeg 0) (5 : Int32).toNatClampNeg 0))), (aBp, .inl (caBp, 6, .inl (upd (upd (upd (upd (upd (upd (fun _ => 0) (0 : Int32).toNatClampNeg (vp_nar .boolean 0)) (1 : Int32).toNatClampNeg (vp_nar .boolean 0)) (2 : Int32).toNatClampNeg (vp_nar .boolean 0)) (3 : Int32).toNatClampNeg (vp_nar .boolean 0)) (4 : Int32).toNatClampNeg (vp_nar .boolean 0)) (5 : Int32).toNatClampNeg (vp_nar .boolean 0)))), (aCh, .inl (caCh, 6, .inl (upd (upd (upd (upd (fun _ => 0) (0 : Int32).toNatClampNeg (vp_nar .boolean 0)) (1 : Int32).toNatClampNeg (vp_nar .boolean 0)) (2 : Int32).toNatClampNeg (vp_nar .boolean 0)) (3 : Int32).toNatClampNeg (vp_nar .boolean 0))))] := hD
  refine lv_iinc (v := 4) (lv' := [(5, .int 4), (0, .ref h0), (1, .ref aRa), (2, .int 0), (3, .int p0), (4, .int p1)]) hx hb dX2_choose_120 hl (k := 0) rfl (by decide +kernel) (by decide) rfl (fun ls hl => ?_)
  refine lv_goto (tgt := 70) hx hb dX2_choose_123 (by decide) ?_
  refine lv_iload hx hb dX2_choose_70 (lv_at hl 0 rfl) ?_
  refine lv_bipush (v := 6) hx hb dX2_choose_72 (by decide +kernel) ?_
  refine lv_icmp_ge (tgt := 126) hx hb dX2_choose_74 (by decide) (fun c9 => absurd c9 (by decide +kernel)) (fun _ => ?_)
  refine lv_aload_n hx hb dX2_choose_77 rfl (lv_at hl 1 rfl) ?_
  refine va_get (D := (dC, dI)) (ci := 2) (v := .ref aCh) (C := RX2) (T := TX2) (N := 5) hx hb hts (fun _ h => List.mem_cons_of_mem _ (List.mem_append_left _ (List.mem_append_right _ h))) hown hK hP 0 rfl rfl 4 (by decide) (hts (.fieldLink RX2 26 "DrumBoats$FinalList" "chosen" "[Z") (List.mem_of_getElem? (i := 4) rfl)) (fun _ h9 => h9) rfl dX2_choose_78 ?_
  refine lv_iload hx hb dX2_choose_81 (lv_at hl 0 rfl) ?_
  refine lv_aload_n hx hb dX2_choose_83 rfl (lv_at hl 1 rfl) ?_
  refine va_get (D := (dC, dI)) (ci := 2) (v := .ref aBp) (C := RX2) (T := TX2) (N := 5) hx hb hts (fun _ h => List.mem_cons_of_mem _ (List.mem_append_left _ (List.mem_append_right _ h))) hown hK hP 0 rfl rfl 3 (by decide) (hts (.fieldLink RX2 22 "DrumBoats$FinalList" "byPlace" "[Z") (List.mem_of_getElem? (i := 2) rfl)) (fun _ h9 => h9) rfl dX2_choose_84 ?_
  refine lv_iload hx hb dX2_choose_87 (lv_at hl 0 rfl) ?_
  refine va_zald hx hb hK hP 2 1 rfl rfl (by unfold vp_in; decide +kernel) dX2_choose_89 ?_
  refine ti_eq (y := 0) (by decide +kernel) ?_
  refine lv_if_ne (tgt := 114) hx hb dX2_choose_90 (by decide) (fun c9 => absurd c9 (by decide +kernel)) (fun _ => ?_)
  refine lv_aload_n hx hb dX2_choose_93 rfl (lv_at hl 1 rfl) ?_
  refine va_get (D := (dC, dI)) (ci := 2) (v := .ref aBt) (C := RX2) (T := TX2) (N := 5) hx hb hts (fun _ h => List.mem_cons_of_mem _ (List.mem_append_left _ (List.mem_append_right _ h))) hown hK hP 0 rfl rfl 2 (by decide) (hts (.fieldLink RX2 19 "DrumBoats$FinalList" "bestTime" "[I") (List.mem_of_getElem? (i := 1) rfl)) (fun _ h9 => h9) rfl dX2_choose_94 ?_
  refine lv_iload hx hb dX2_choose_97 (lv_at hl 0 rfl) ?_
  refine va_iald hx hb hK hP 1 0 rfl rfl (by unfold vp_in; decide +kernel) dX2_choose_99 ?_
  refine ti_eq (y := 0) (by decide +kernel) ?_
  refine lv_if_le (tgt := 118) hx hb dX2_choose_100 (by decide) (fun _ => ?_) (fun c9 => absurd c9 (by decide +kernel))
  refine lv_iconst (v := 0) hx hb dX2_choose_118 (by decide +kernel) ?_
  refine va_zast hx hb hK hP hD hS 3 2 rfl rfl (by unfold vp_in; decide +kernel) dX2_choose_119 (fun H locs hP hD hS => ?_)
  have hP : va_P (dC, dI) vwCl [(h0, .inr (2, [.int 0, .ref aLi, .ref aBt, .ref aBp, .ref aCh])), (aBt, .inl (caBt, 6, .inl (upd (upd (upd (upd (upd (upd (fun _ => 0) (0 : Int32).toNatClampNeg 0) (1 : Int32).toNatClampNeg 0) (2 : Int32).toNatClampNeg 0) (3 : Int32).toNatClampNeg 0) (4 : Int32).toNatClampNeg 0) (5 : Int32).toNatClampNeg 0))), (aBp, .inl (caBp, 6, .inl (upd (upd (upd (upd (upd (upd (fun _ => 0) (0 : Int32).toNatClampNeg (vp_nar .boolean 0)) (1 : Int32).toNatClampNeg (vp_nar .boolean 0)) (2 : Int32).toNatClampNeg (vp_nar .boolean 0)) (3 : Int32).toNatClampNeg (vp_nar .boolean 0)) (4 : Int32).toNatClampNeg (vp_nar .boolean 0)) (5 : Int32).toNatClampNeg (vp_nar .boolean 0)))), (aCh, .inl (caCh, 6, .inl (upd (upd (upd (upd (upd (fun _ => 0) (0 : Int32).toNatClampNeg (vp_nar .boolean 0)) (1 : Int32).toNatClampNeg (vp_nar .boolean 0)) (2 : Int32).toNatClampNeg (vp_nar .boolean 0)) (3 : Int32).toNatClampNeg (vp_nar .boolean 0)) (4 : Int32).toNatClampNeg (vp_nar .boolean 0))))] H := hP
  have hD : va_D A [(h0, .inr (2, [.int 0, .ref aLi, .ref aBt, .ref aBp, .ref aCh])), (aBt, .inl (caBt, 6, .inl (upd (upd (upd (upd (upd (upd (fun _ => 0) (0 : Int32).toNatClampNeg 0) (1 : Int32).toNatClampNeg 0) (2 : Int32).toNatClampNeg 0) (3 : Int32).toNatClampNeg 0) (4 : Int32).toNatClampNeg 0) (5 : Int32).toNatClampNeg 0))), (aBp, .inl (caBp, 6, .inl (upd (upd (upd (upd (upd (upd (fun _ => 0) (0 : Int32).toNatClampNeg (vp_nar .boolean 0)) (1 : Int32).toNatClampNeg (vp_nar .boolean 0)) (2 : Int32).toNatClampNeg (vp_nar .boolean 0)) (3 : Int32).toNatClampNeg (vp_nar .boolean 0)) (4 : Int32).toNatClampNeg (vp_nar .boolean 0)) (5 : Int32).toNatClampNeg (vp_nar .boolean 0)))), (aCh, .inl (caCh, 6, .inl (upd (upd (upd (upd (upd (fun _ => 0) (0 : Int32).toNatClampNeg (vp_nar .boolean 0)) (1 : Int32).toNatClampNeg (vp_nar .boolean 0)) (2 : Int32).toNatClampNeg (vp_nar .boolean 0)) (3 : Int32).toNatClampNeg (vp_nar .boolean 0)) (4 : Int32).toNatClampNeg (vp_nar .boolean 0))))] := hD
  refine lv_iinc (v := 5) (lv' := [(5, .int 5), (0, .ref h0), (1, .ref aRa), (2, .int 0), (3, .int p0), (4, .int p1)]) hx hb dX2_choose_120 hl (k := 0) rfl (by decide +kernel) (by decide) rfl (fun ls hl => ?_)
  refine lv_goto (tgt := 70) hx hb dX2_choose_123 (by decide) ?_
  refine lv_iload hx hb dX2_choose_70 (lv_at hl 0 rfl) ?_
  refine lv_bipush (v := 6) hx hb dX2_choose_72 (by decide +kernel) ?_
  refine lv_icmp_ge (tgt := 126) hx hb dX2_choose_74 (by decide) (fun c9 => absurd c9 (by decide +kernel)) (fun _ => ?_)
  refine lv_aload_n hx hb dX2_choose_77 rfl (lv_at hl 1 rfl) ?_
  refine va_get (D := (dC, dI)) (ci := 2) (v := .ref aCh) (C := RX2) (T := TX2) (N := 5) hx hb hts (fun _ h => List.mem_cons_of_mem _ (List.mem_append_left _ (List.mem_append_right _ h))) hown hK hP 0 rfl rfl 4 (by decide) (hts (.fieldLink RX2 26 "DrumBoats$FinalList" "chosen" "[Z") (List.mem_of_getElem? (i := 4) rfl)) (fun _ h9 => h9) rfl dX2_choose_78 ?_
  refine lv_iload hx hb dX2_choose_81 (lv_at hl 0 rfl) ?_
  refine lv_aload_n hx hb dX2_choose_83 rfl (lv_at hl 1 rfl) ?_
  refine va_get (D := (dC, dI)) (ci := 2) (v := .ref aBp) (C := RX2) (T := TX2) (N := 5) hx hb hts (fun _ h => List.mem_cons_of_mem _ (List.mem_append_left _ (List.mem_append_right _ h))) hown hK hP 0 rfl rfl 3 (by decide) (hts (.fieldLink RX2 22 "DrumBoats$FinalList" "byPlace" "[Z") (List.mem_of_getElem? (i := 2) rfl)) (fun _ h9 => h9) rfl dX2_choose_84 ?_
  refine lv_iload hx hb dX2_choose_87 (lv_at hl 0 rfl) ?_
  refine va_zald hx hb hK hP 2 1 rfl rfl (by unfold vp_in; decide +kernel) dX2_choose_89 ?_
  refine ti_eq (y := 0) (by decide +kernel) ?_
  refine lv_if_ne (tgt := 114) hx hb dX2_choose_90 (by decide) (fun c9 => absurd c9 (by decide +kernel)) (fun _ => ?_)
  refine lv_aload_n hx hb dX2_choose_93 rfl (lv_at hl 1 rfl) ?_
  refine va_get (D := (dC, dI)) (ci := 2) (v := .ref aBt) (C := RX2) (T := TX2) (N := 5) hx hb hts (fun _ h => List.mem_cons_of_mem _ (List.mem_append_left _ (List.mem_append_right _ h))) hown hK hP 0 rfl rfl 2 (by decide) (hts (.fieldLink RX2 19 "DrumBoats$FinalList" "bestTime" "[I") (List.mem_of_getElem? (i := 1) rfl)) (fun _ h9 => h9) rfl dX2_choose_94 ?_
  refine lv_iload hx hb dX2_choose_97 (lv_at hl 0 rfl) ?_
  refine va_iald hx hb hK hP 1 0 rfl rfl (by unfold vp_in; decide +kernel) dX2_choose_99 ?_
  refine ti_eq (y := 0) (by decide +kernel) ?_
  refine lv_if_le (tgt := 118) hx hb dX2_choose_100 (by decide) (fun _ => ?_) (fun c9 => absurd c9 (by decide +kernel))
  refine lv_iconst (v := 0) hx hb dX2_choose_118 (by decide +kernel) ?_
  refine va_zast hx hb hK hP hD hS 3 2 rfl rfl (by unfold vp_in; decide +kernel) dX2_choose_119 (fun H locs hP hD hS => ?_)
  have hP : va_P (dC, dI) vwCl [(h0, .inr (2, [.int 0, .ref aLi, .ref aBt, .ref aBp, .ref aCh])), (aBt, .inl (caBt, 6, .inl (upd (upd (upd (upd (upd (upd (fun _ => 0) (0 : Int32).toNatClampNeg 0) (1 : Int32).toNatClampNeg 0) (2 : Int32).toNatClampNeg 0) (3 : Int32).toNatClampNeg 0) (4 : Int32).toNatClampNeg 0) (5 : Int32).toNatClampNeg 0))), (aBp, .inl (caBp, 6, .inl (upd (upd (upd (upd (upd (upd (fun _ => 0) (0 : Int32).toNatClampNeg (vp_nar .boolean 0)) (1 : Int32).toNatClampNeg (vp_nar .boolean 0)) (2 : Int32).toNatClampNeg (vp_nar .boolean 0)) (3 : Int32).toNatClampNeg (vp_nar .boolean 0)) (4 : Int32).toNatClampNeg (vp_nar .boolean 0)) (5 : Int32).toNatClampNeg (vp_nar .boolean 0)))), (aCh, .inl (caCh, 6, .inl (upd (upd (upd (upd (upd (upd (fun _ => 0) (0 : Int32).toNatClampNeg (vp_nar .boolean 0)) (1 : Int32).toNatClampNeg (vp_nar .boolean 0)) (2 : Int32).toNatClampNeg (vp_nar .boolean 0)) (3 : Int32).toNatClampNeg (vp_nar .boolean 0)) (4 : Int32).toNatClampNeg (vp_nar .boolean 0)) (5 : Int32).toNatClampNeg (vp_nar .boolean 0))))] H := hP
  have hD : va_D A [(h0, .inr (2, [.int 0, .ref aLi, .ref aBt, .ref aBp, .ref aCh])), (aBt, .inl (caBt, 6, .inl (upd (upd (upd (upd (upd (upd (fun _ => 0) (0 : Int32).toNatClampNeg 0) (1 : Int32).toNatClampNeg 0) (2 : Int32).toNatClampNeg 0) (3 : Int32).toNatClampNeg 0) (4 : Int32).toNatClampNeg 0) (5 : Int32).toNatClampNeg 0))), (aBp, .inl (caBp, 6, .inl (upd (upd (upd (upd (upd (upd (fun _ => 0) (0 : Int32).toNatClampNeg (vp_nar .boolean 0)) (1 : Int32).toNatClampNeg (vp_nar .boolean 0)) (2 : Int32).toNatClampNeg (vp_nar .boolean 0)) (3 : Int32).toNatClampNeg (vp_nar .boolean 0)) (4 : Int32).toNatClampNeg (vp_nar .boolean 0)) (5 : Int32).toNatClampNeg (vp_nar .boolean 0)))), (aCh, .inl (caCh, 6, .inl (upd (upd (upd (upd (upd (upd (fun _ => 0) (0 : Int32).toNatClampNeg (vp_nar .boolean 0)) (1 : Int32).toNatClampNeg (vp_nar .boolean 0)) (2 : Int32).toNatClampNeg (vp_nar .boolean 0)) (3 : Int32).toNatClampNeg (vp_nar .boolean 0)) (4 : Int32).toNatClampNeg (vp_nar .boolean 0)) (5 : Int32).toNatClampNeg (vp_nar .boolean 0))))] := hD
  refine lv_iinc (v := 6) (lv' := [(5, .int 6), (0, .ref h0), (1, .ref aRa), (2, .int 0), (3, .int p0), (4, .int p1)]) hx hb dX2_choose_120 hl (k := 0) rfl (by decide +kernel) (by decide) rfl (fun ls hl => ?_)
  refine lv_goto (tgt := 70) hx hb dX2_choose_123 (by decide) ?_
  refine lv_iload hx hb dX2_choose_70 (lv_at hl 0 rfl) ?_
  refine lv_bipush (v := 6) hx hb dX2_choose_72 (by decide +kernel) ?_
  refine lv_icmp_ge (tgt := 126) hx hb dX2_choose_74 (by decide) (fun _ => ?_) (fun c9 => absurd c9 (by decide +kernel))
  refine lv_aload_n hx hb dX2_choose_126 rfl (lv_at hl 1 rfl) ?_
  have hPc := hP.sub (ws' := [(h0, .inr (2, [.int 0, .ref aLi, .ref aBt, .ref aBp, .ref aCh])), (aCh, .inl (caCh, 6, .inl (upd (upd (upd (upd (upd (upd (fun _ => 0) (0 : Int32).toNatClampNeg (vp_nar .boolean 0)) (1 : Int32).toNatClampNeg (vp_nar .boolean 0)) (2 : Int32).toNatClampNeg (vp_nar .boolean 0)) (3 : Int32).toNatClampNeg (vp_nar .boolean 0)) (4 : Int32).toNatClampNeg (vp_nar .boolean 0)) (5 : Int32).toNatClampNeg (vp_nar .boolean 0))))]) [0, 3] rfl
  have hKc := hK.sub (tys' := [(caCh, .boolean)]) [2] rfl
  have hDc := hD.sub (ws' := [(h0, .inr (2, [.int 0, .ref aLi, .ref aBt, .ref aBp, .ref aCh])), (aCh, .inl (caCh, 6, .inl (upd (upd (upd (upd (upd (upd (fun _ => 0) (0 : Int32).toNatClampNeg (vp_nar .boolean 0)) (1 : Int32).toNatClampNeg (vp_nar .boolean 0)) (2 : Int32).toNatClampNeg (vp_nar .boolean 0)) (3 : Int32).toNatClampNeg (vp_nar .boolean 0)) (4 : Int32).toNatClampNeg (vp_nar .boolean 0)) (5 : Int32).toNatClampNeg (vp_nar .boolean 0))))]) [0, 3] (by decide) rfl
  have hFc := va_free (wc := [(h0, .inr (2, [.int 0, .ref aLi, .ref aBt, .ref aBp, .ref aCh])), (aCh, .inl (caCh, 6, .inl (upd (upd (upd (upd (upd (upd (fun _ => 0) (0 : Int32).toNatClampNeg (vp_nar .boolean 0)) (1 : Int32).toNatClampNeg (vp_nar .boolean 0)) (2 : Int32).toNatClampNeg (vp_nar .boolean 0)) (3 : Int32).toNatClampNeg (vp_nar .boolean 0)) (4 : Int32).toNatClampNeg (vp_nar .boolean 0)) (5 : Int32).toNatClampNeg (vp_nar .boolean 0))))]) hD hS hA [0, 3] rfl
  refine va_callv (va_runV (As := []) (rest := []) ⟨hx, hb, hml, hown, hts⟩ (k_X2_putInOrder l dC dI H.size h0 aLi aBt aBp aCh caCh) (cwV 0 hts gX2_choose_X2_putInOrder rfl rfl rfl (by decide +kernel) ⟨(Nat.le_of_ble_eq_true rfl), (Nat.le_of_ble_eq_true rfl)⟩) ⟨fun a U g mk q => by obtain ⟨q0, q1, qP, qK, qD⟩ := q; exact ⟨q0, q1, qP, va_K.moved (u := U) (U := U.calling g mk a) (Vm.Alike.refl U.vm) qK, qD⟩, va_recv hKc hPc (ci := 2) (q0 := 0) rfl rfl, fun U hU hW => ⟨rfl, by rw [hU], by rw [hU]; exact hPc, va_K.moved hW.alike hKc, hDc.weaken (fun _ _ _ _ => trivial)⟩⟩ rfl rfl hl.1 rfl (lv_room (Nat.le_of_ble_eq_true rfl)) dX2_choose_127 ⟨(Nat.le_of_ble_eq_true rfl), (Nat.le_of_ble_eq_true rfl)⟩) hS (fun q _ h => hFc q h) hFc (fun u t H1 locs ht hvm hw hB hz1 hk1 hS => ?_)
  refine W.widen (k := 0) (n := 0) (Nat.le_of_ble_eq_true rfl) (Nat.le_of_ble_eq_true rfl) ?_
  obtain ⟨hP1, hK1, hD1⟩ := hB
  rw [ht] at hP1
  have hK1 := va_K.moved hvm.symm hK1
  obtain ⟨hP, hD⟩ := va_join (wr := [(aBt, .inl (caBt, 6, .inl (upd (upd (upd (upd (upd (upd (fun _ => 0) (0 : Int32).toNatClampNeg 0) (1 : Int32).toNatClampNeg 0) (2 : Int32).toNatClampNeg 0) (3 : Int32).toNatClampNeg 0) (4 : Int32).toNatClampNeg 0) (5 : Int32).toNatClampNeg 0))), (aBp, .inl (caBp, 6, .inl (upd (upd (upd (upd (upd (upd (fun _ => 0) (0 : Int32).toNatClampNeg (vp_nar .boolean 0)) (1 : Int32).toNatClampNeg (vp_nar .boolean 0)) (2 : Int32).toNatClampNeg (vp_nar .boolean 0)) (3 : Int32).toNatClampNeg (vp_nar .boolean 0)) (4 : Int32).toNatClampNeg (vp_nar .boolean 0)) (5 : Int32).toNatClampNeg (vp_nar .boolean 0))))]) (w1 := [(h0, .inr (2, [.int 0, .ref aLi, .ref aBt, .ref aBp, .ref aCh]))]) hP hD [0, 3] [1, 2] rfl rfl (by decide) (by decide) hk1 hFc hP1 hD1
  have hK := hK.app hK1
  generalize H1 = H at hP hS ⊢
  have hP : va_P (dC, dI) vwCl [(aBt, .inl (caBt, 6, .inl (upd (upd (upd (upd (upd (upd (fun _ => 0) (0 : Int32).toNatClampNeg 0) (1 : Int32).toNatClampNeg 0) (2 : Int32).toNatClampNeg 0) (3 : Int32).toNatClampNeg 0) (4 : Int32).toNatClampNeg 0) (5 : Int32).toNatClampNeg 0))), (aBp, .inl (caBp, 6, .inl (upd (upd (upd (upd (upd (upd (fun _ => 0) (0 : Int32).toNatClampNeg (vp_nar .boolean 0)) (1 : Int32).toNatClampNeg (vp_nar .boolean 0)) (2 : Int32).toNatClampNeg (vp_nar .boolean 0)) (3 : Int32).toNatClampNeg (vp_nar .boolean 0)) (4 : Int32).toNatClampNeg (vp_nar .boolean 0)) (5 : Int32).toNatClampNeg (vp_nar .boolean 0)))), (h0, .inr (2, [.int 0, .ref aLi, .ref aBt, .ref aBp, .ref aCh]))] H := hP
  have hD : va_D A [(aBt, .inl (caBt, 6, .inl (upd (upd (upd (upd (upd (upd (fun _ => 0) (0 : Int32).toNatClampNeg 0) (1 : Int32).toNatClampNeg 0) (2 : Int32).toNatClampNeg 0) (3 : Int32).toNatClampNeg 0) (4 : Int32).toNatClampNeg 0) (5 : Int32).toNatClampNeg 0))), (aBp, .inl (caBp, 6, .inl (upd (upd (upd (upd (upd (upd (fun _ => 0) (0 : Int32).toNatClampNeg (vp_nar .boolean 0)) (1 : Int32).toNatClampNeg (vp_nar .boolean 0)) (2 : Int32).toNatClampNeg (vp_nar .boolean 0)) (3 : Int32).toNatClampNeg (vp_nar .boolean 0)) (4 : Int32).toNatClampNeg (vp_nar .boolean 0)) (5 : Int32).toNatClampNeg (vp_nar .boolean 0)))), (h0, .inr (2, [.int 0, .ref aLi, .ref aBt, .ref aBp, .ref aCh]))] := hD
  have hK : va_K (dC, dI) vwCl [(caBt, .int), (caBp, .boolean), (caCh, .boolean)] s := hK
  have hP9 := hP.sub (ws' := [(h0, .inr (2, [.int 0, .ref aLi, .ref aBt, .ref aBp, .ref aCh]))]) [2] rfl
  have hD9 := hD.sub (ws' := [(h0, .inr (2, [.int 0, .ref aLi, .ref aBt, .ref aBp, .ref aCh]))]) [2] (by decide) rfl
  have hK9 := hK.sub (tys' := []) [] rfl
  refine W.widen (k := 0) (n := 0) (Nat.le_of_ble_eq_true rfl) (Nat.le_of_ble_eq_true rfl) ?_
  exact W.vret hx hb hr (fun t ht hW => ⟨⟨(), rfl, trivial, by rw [ht]; exact hP9, va_K.moved hW.alike hK9, hD9⟩, hS.F ht⟩) hS.2.2 dX2_choose_130
