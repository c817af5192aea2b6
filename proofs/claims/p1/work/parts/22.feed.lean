set_option maxHeartbeats 4000000 in
set_option maxRecDepth 100000 in
theorem k_X9_feed (l : Launch) (dC : Nat → ClassId) (dI : Nat → Nat → Nat) (sz : Nat) (h0 : Nat) (w : Int64) (p0 : Int32) (aRo : Nat) (aCr : Nat) (aBa : Nat) (aSe : Nat) (aTa : Nat) (aRu : Nat) (aTl : Nat) (aWa : Nat) (aCu : Nat) (aRa : Nat) (aCo : Nat) (aFi : Nat) (aBy : Nat) (caBy : ClassId) : Met l yX9_feed wsX9_feed ({ frames := 1, cells := 0, slots := 0, locals := 24 }) (va_Pc [.ref h0, .long w, .int p0] (fun U => U.heap.size = sz ∧ va_P (dC, dI) vwCl [(h0, .inr (9, [.ref aRo, .ref aCr, .int 0, .ref aBa, .ref aSe, .ref aTa, .ref aRu, .int 0, .ref aTl, .int 10, .ref aWa, .ref aCu, .ref aRa, .int 0, .ref aCo, .ref aFi])), (aTa, .inr (7, [.int 0, .int 0, .ref aBy])), (aBy, .inl (caBy, 120, .inl (fun _ => 0)))] U.heap ∧ va_K (dC, dI) vwCl [(caBy, .int)] U ∧ va_D (fun _ => True) [(h0, .inr (9, [.ref aRo, .ref aCr, .int 0, .ref aBa, .ref aSe, .ref aTa, .ref aRu, .int 0, .ref aTl, .int 10, .ref aWa, .ref aCu, .ref aRa, .int 0, .ref aCo, .ref aFi])), (aTa, .inr (7, [.int 0, .int 0, .ref aBy])), (aBy, .inl (caBy, 120, .inl (fun _ => 0)))])) (va_Qi (fun (r : Int32) (_ : Unit) => r = f_feed p0) (fun _ _ => True) (va_A [(h0, .inr (9, [.ref aRo, .ref aCr, .int 0, .ref aBa, .ref aSe, .ref aTa, .ref aRu, .int 0, .ref aTl, .int 10, .ref aWa, .ref aCu, .ref aRa, .int 0, .ref aCo, .ref aFi])), (aTa, .inr (7, [.int 0, .int 0, .ref aBy])), (aBy, .inl (caBy, 120, .inl (fun _ => 0)))] sz)) 0 0 (va_A [(h0, .inr (9, [.ref aRo, .ref aCr, .int 0, .ref aBa, .ref aSe, .ref aTa, .ref aRu, .int 0, .ref aTl, .int 10, .ref aWa, .ref aCu, .ref aRa, .int 0, .ref aCo, .ref aFi])), (aTa, .inr (7, [.int 0, .int 0, .ref aBy])), (aBy, .inl (caBy, 120, .inl (fun _ => 0)))] sz) := by
  refine Met.ofW (cc := cX9_feed) (maxL := 4) (ret := (some .int)) (by decide) rfl ?_
  intro p e s m args below meth c s₁ B hml hv
  obtain ⟨rfl, hsz, hP, hK, hD0⟩ := hv
  have hx := B.exec
  have hb := B.bytes
  have hr := B.returns
  have hts := atoms_spec (ws := wsX9_feed) B.pre
  have hown : s.vm.findClass RX9 = some m.cls := findClass_of_methodNamed B.named
  have hlocks := B.notSynchronized
  subst hsz
  have hD := hD0.self (sz := s.heap.size)
  generalize hAe : va_A [(h0, .inr (9, [.ref aRo, .ref aCr, .int 0, .ref aBa, .ref aSe, .ref aTa, .ref aRu, .int 0, .ref aTl, .int 10, .ref aWa, .ref aCu, .ref aRa, .int 0, .ref aCo, .ref aFi])), (aTa, .inr (7, [.int 0, .int 0, .ref aBy])), (aBy, .inl (caBy, 120, .inl (fun _ => 0)))] s.heap.size = A at hD ⊢
  have hA : ∀ q : Nat, s.heap.size ≤ q → A q := fun q h => by rw [← hAe]; exact Or.inr h
  have hS : va_S A s.heap s.heap [] := va_S.rf
  have hl := lv_entry ([.ref h0, .long w, .int p0]) (n := 4) (Nat.le_of_ble_eq_true rfl)
  rw [lg_entry_eq]
  generalize (lg_sl ([.ref h0, .long w, .int p0]) ++ List.replicate (4 - (lg_sl ([.ref h0, .long w, .int p0])).length) Slot.unset).toArray = ls at hl ⊢
  have hl : lv_has ls 4 [(0, .ref h0), (1, .long w), (3, .int p0)] := hl
  refine lv_iload_n hx hb dX9_feed_0 rfl (lv_at hl 2 rfl) ?_
  refine lv_iconst (v := 1) hx hb dX9_feed_1 (by decide +kernel) ?_
  refine lv_bipush (v := 8) hx hb dX9_feed_2 (by decide +kernel) ?_
  have hPc := hP.sub (ws' := ([] : va_W)) [] rfl
  have hKc := hK.sub (tys' := []) [] rfl
  have hFc := ro_free hS hA
  refine va_calli (va_runS (As := [.int p0, .int 1, .int 8]) (rest := []) ⟨hx, hb, hml, hown, hts⟩ (k_X9_within l dC dI s.heap.size p0 1 8) (va_cwS 3 hts gX9_feed_X9_within rfl rfl rfl (by decide +kernel) ⟨(Nat.le_of_ble_eq_true rfl), (Nat.le_of_ble_eq_true rfl)⟩) ⟨fun a U g mk q => by obtain ⟨q0, q1, qP, qK⟩ := q; exact ⟨q0, q1, qP, va_K.moved (u := U) (U := U.calling g mk a) (Vm.Alike.refl U.vm) qK⟩, fun U hU hW => ⟨rfl, by rw [hU], by rw [hU]; exact hPc, va_K.moved hW.alike hKc⟩⟩ rfl rfl hl.1 rfl (lv_room (Nat.le_of_ble_eq_true rfl)) dX9_feed_4 ⟨(Nat.le_of_ble_eq_true rfl), (Nat.le_of_ble_eq_true rfl)⟩) hS (fun q _ h => hFc q h) hFc (fun r u t H1 locs ht hvm hw hB hz1 hk1 hS => ?_)
  refine W.widen (k := 0) (n := 0) (Nat.le_of_ble_eq_true rfl) (Nat.le_of_ble_eq_true rfl) ?_
  have hP := P_ro hP hk1
  generalize H1 = H at hP hS ⊢
  rcases hw with ⟨rfl, e_1⟩ | ⟨rfl, e_1⟩
  · have e_1 : (1 ≤ p0.toInt ∧ p0.toInt ≤ 8) := e_1
    refine lv_if_ne (tgt := 13) hx hb dX9_feed_7 (by decide) (fun _ => ?_) (fun c9 => absurd c9 (by decide +kernel))
    rcases sw18 p0 (by omega) with rfl | rfl | rfl | rfl | rfl | rfl | rfl | rfl
    · refine lv_aload_n hx hb dX9_feed_13 rfl (lv_at hl 0 rfl) ?_
      refine va_get (D := (dC, dI)) (ci := 9) (v := .ref aTa) (C := RX9) (T := TX9) (N := 16) hx hb hts (fun _ h => List.mem_cons_of_mem _ (List.mem_append_left _ (List.mem_append_right _ h))) hown hK hP 0 rfl rfl 5 (by decide) (hts (.fieldLink RX9 45 "DrumBoats" "tape" "LDrumBoats$Tape;") (List.mem_of_getElem? (i := 1) rfl)) (fun _ h9 => h9) rfl dX9_feed_14 ?_
      refine va_get (D := (dC, dI)) (ci := 7) (v := .int 0) (C := RX7) (T := TX7) (N := 3) hx hb hts (fun _ h => List.mem_cons_of_mem _ (List.mem_append_right _ h)) hown hK hP 1 rfl rfl 0 (by decide) (hts (.fieldLink RX9 192 "DrumBoats$Tape" "size" "I") (List.mem_of_getElem? (i := 2) rfl)) (fun _ h9 => h9) rfl dX9_feed_17 ?_
      refine lv_iload_n hx hb dX9_feed_20 rfl (lv_at hl 2 rfl) ?_
      refine lv_iadd hx hb dX9_feed_21 ?_
      refine ti_eq (y := 1) (by decide +kernel) ?_
      refine lv_bipush (v := 120) hx hb dX9_feed_22 (by decide +kernel) ?_
      refine lv_icmp_le (tgt := 30) hx hb dX9_feed_24 (by decide) (fun _ => ?_) (fun c9 => absurd c9 (by decide +kernel))
      refine lv_aload_n hx hb dX9_feed_30 rfl (lv_at hl 0 rfl) ?_
      refine va_get (D := (dC, dI)) (ci := 9) (v := .ref aTa) (C := RX9) (T := TX9) (N := 16) hx hb hts (fun _ h => List.mem_cons_of_mem _ (List.mem_append_left _ (List.mem_append_right _ h))) hown hK hP 0 rfl rfl 5 (by decide) (hts (.fieldLink RX9 45 "DrumBoats" "tape" "LDrumBoats$Tape;") (List.mem_of_getElem? (i := 1) rfl)) (fun _ h9 => h9) rfl dX9_feed_31 ?_
      refine lv_lload_n hx hb dX9_feed_34 rfl (lv_at hl 1 rfl) ?_
      refine lv_iload_n hx hb dX9_feed_35 rfl (lv_at hl 2 rfl) ?_
      have hPc := hP.sub (ws' := [(aTa, .inr (7, [.int 0, .int 0, .ref aBy])), (aBy, .inl (caBy, 120, .inl (fun _ => 0)))]) [1, 2] rfl
      have hKc := hK.sub (tys' := [(caBy, .int)]) [0] rfl
      have hDc := hD.sub (ws' := [(aTa, .inr (7, [.int 0, .int 0, .ref aBy])), (aBy, .inl (caBy, 120, .inl (fun _ => 0)))]) [1, 2] (by decide) rfl
      have hFc := va_free (wc := [(aTa, .inr (7, [.int 0, .int 0, .ref aBy])), (aBy, .inl (caBy, 120, .inl (fun _ => 0)))]) hD hS hA [1, 2] rfl
      refine va_callv (va_runV (As := [.long w, .int 1]) (rest := []) ⟨hx, hb, hml, hown, hts⟩ (k_X7_append_1 l dC dI H.size aTa w aBy caBy) (cwV 2 hts gX9_feed_X7_append rfl rfl rfl (by decide +kernel) ⟨(Nat.le_of_ble_eq_true rfl), (Nat.le_of_ble_eq_true rfl)⟩) ⟨fun a U g mk q => by obtain ⟨q0, q1, qP, qK, qD⟩ := q; exact ⟨q0, q1, qP, va_K.moved (u := U) (U := U.calling g mk a) (Vm.Alike.refl U.vm) qK, qD⟩, va_recv hKc hPc (ci := 7) (q0 := 0) rfl rfl, fun U hU hW => ⟨rfl, by rw [hU], by rw [hU]; exact hPc, va_K.moved hW.alike hKc, hDc.weaken (fun _ _ _ _ => trivial)⟩⟩ rfl rfl hl.1 rfl (lv_room (Nat.le_of_ble_eq_true rfl)) dX9_feed_36 ⟨(Nat.le_of_ble_eq_true rfl), (Nat.le_of_ble_eq_true rfl)⟩) hS (fun q _ h => hFc q h) hFc (fun u t H1 locs ht hvm hw hB hz1 hk1 hS => ?_)
      refine W.widen (k := 0) (n := 0) (Nat.le_of_ble_eq_true rfl) (Nat.le_of_ble_eq_true rfl) ?_
      obtain ⟨hP1, hK1, hD1⟩ := hB
      rw [ht] at hP1
      have hK1 := va_K.moved hvm.symm hK1
      obtain ⟨hP, hD⟩ := va_join (wr := [(h0, .inr (9, [.ref aRo, .ref aCr, .int 0, .ref aBa, .ref aSe, .ref aTa, .ref aRu, .int 0, .ref aTl, .int 10, .ref aWa, .ref aCu, .ref aRa, .int 0, .ref aCo, .ref aFi]))]) (w1 := [(aTa, .inr (7, [.int 1, .int 0, .ref aBy]))]) hP hD [1, 2] [0] rfl rfl (by decide) (by decide) hk1 hFc hP1 hD1
      have hK := hK.app hK1
      generalize H1 = H at hP hS ⊢
      have hP : va_P (dC, dI) vwCl [(h0, .inr (9, [.ref aRo, .ref aCr, .int 0, .ref aBa, .ref aSe, .ref aTa, .ref aRu, .int 0, .ref aTl, .int 10, .ref aWa, .ref aCu, .ref aRa, .int 0, .ref aCo, .ref aFi])), (aTa, .inr (7, [.int 1, .int 0, .ref aBy]))] H := hP
      have hD : va_D A [(h0, .inr (9, [.ref aRo, .ref aCr, .int 0, .ref aBa, .ref aSe, .ref aTa, .ref aRu, .int 0, .ref aTl, .int 10, .ref aWa, .ref aCu, .ref aRa, .int 0, .ref aCo, .ref aFi])), (aTa, .inr (7, [.int 1, .int 0, .ref aBy]))] := hD
      have hK : va_K (dC, dI) vwCl [(caBy, .int)] s := hK
      refine lv_aload_n hx hb dX9_feed_39 rfl (lv_at hl 0 rfl) ?_
      refine va_get (D := (dC, dI)) (ci := 9) (v := .ref aTa) (C := RX9) (T := TX9) (N := 16) hx hb hts (fun _ h => List.mem_cons_of_mem _ (List.mem_append_left _ (List.mem_append_right _ h))) hown hK hP 0 rfl rfl 5 (by decide) (hts (.fieldLink RX9 45 "DrumBoats" "tape" "LDrumBoats$Tape;") (List.mem_of_getElem? (i := 1) rfl)) (fun _ h9 => h9) rfl dX9_feed_40 ?_
      refine va_get (D := (dC, dI)) (ci := 7) (v := .int 1) (C := RX7) (T := TX7) (N := 3) hx hb hts (fun _ h => List.mem_cons_of_mem _ (List.mem_append_right _ h)) hown hK hP 1 rfl rfl 0 (by decide) (hts (.fieldLink RX9 192 "DrumBoats$Tape" "size" "I") (List.mem_of_getElem? (i := 2) rfl)) (fun _ h9 => h9) rfl dX9_feed_43 ?_
      refine W.widen (k := 0) (n := 0) (Nat.le_of_ble_eq_true rfl) (Nat.le_of_ble_eq_true rfl) ?_
      exact W.iret (v := 1) hx hb hr (fun t ht hW => ⟨⟨1, (), rfl, (by first | rfl | decide | (unfold f_feed; (repeat' split) <;> first | rfl | omega)), trivial⟩, hS.F ht⟩) hS.2.2 dX9_feed_46
    · refine lv_aload_n hx hb dX9_feed_13 rfl (lv_at hl 0 rfl) ?_
      refine va_get (D := (dC, dI)) (ci := 9) (v := .ref aTa) (C := RX9) (T := TX9) (N := 16) hx hb hts (fun _ h => List.mem_cons_of_mem _ (List.mem_append_left _ (List.mem_append_right _ h))) hown hK hP 0 rfl rfl 5 (by decide) (hts (.fieldLink RX9 45 "DrumBoats" "tape" "LDrumBoats$Tape;") (List.mem_of_getElem? (i := 1) rfl)) (fun _ h9 => h9) rfl dX9_feed_14 ?_
      refine va_get (D := (dC, dI)) (ci := 7) (v := .int 0) (C := RX7) (T := TX7) (N := 3) hx hb hts (fun _ h => List.mem_cons_of_mem _ (List.mem_append_right _ h)) hown hK hP 1 rfl rfl 0 (by decide) (hts (.fieldLink RX9 192 "DrumBoats$Tape" "size" "I") (List.mem_of_getElem? (i := 2) rfl)) (fun _ h9 => h9) rfl dX9_feed_17 ?_
      refine lv_iload_n hx hb dX9_feed_20 rfl (lv_at hl 2 rfl) ?_
      refine lv_iadd hx hb dX9_feed_21 ?_
      refine ti_eq (y := 2) (by decide +kernel) ?_
      refine lv_bipush (v := 120) hx hb dX9_feed_22 (by decide +kernel) ?_
      refine lv_icmp_le (tgt := 30) hx hb dX9_feed_24 (by decide) (fun _ => ?_) (fun c9 => absurd c9 (by decide +kernel))
      refine lv_aload_n hx hb dX9_feed_30 rfl (lv_at hl 0 rfl) ?_
      refine va_get (D := (dC, dI)) (ci := 9) (v := .ref aTa) (C := RX9) (T := TX9) (N := 16) hx hb hts (fun _ h => List.mem_cons_of_mem _ (List.mem_append_left _ (List.mem_append_right _ h))) hown hK hP 0 rfl rfl 5 (by decide) (hts (.fieldLink RX9 45 "DrumBoats" "tape" "LDrumBoats$Tape;") (List.mem_of_getElem? (i := 1) rfl)) (fun _ h9 => h9) rfl dX9_feed_31 ?_
      refine lv_lload_n hx hb dX9_feed_34 rfl (lv_at hl 1 rfl) ?_
      refine lv_iload_n hx hb dX9_feed_35 rfl (lv_at hl 2 rfl) ?_
      have hPc := hP.sub (ws' := [(aTa, .inr (7, [.int 0, .int 0, .ref aBy])), (aBy, .inl (caBy, 120, .inl (fun _ => 0)))]) [1, 2] rfl
      have hKc := hK.sub (tys' := [(caBy, .int)]) [0] rfl
      have hDc := hD.sub (ws' := [(aTa, .inr (7, [.int 0, .int 0, .ref aBy])), (aBy, .inl (caBy, 120, .inl (fun _ => 0)))]) [1, 2] (by decide) rfl
      have hFc := va_free (wc := [(aTa, .inr (7, [.int 0, .int 0, .ref aBy])), (aBy, .inl (caBy, 120, .inl (fun _ => 0)))]) hD hS hA [1, 2] rfl
      refine va_callv (va_runV (As := [.long w, .int 2]) (rest := []) ⟨hx, hb, hml, hown, hts⟩ (k_X7_append_2 l dC dI H.size aTa w aBy caBy) (cwV 2 hts gX9_feed_X7_append rfl rfl rfl (by decide +kernel) ⟨(Nat.le_of_ble_eq_true rfl), (Nat.le_of_ble_eq_true rfl)⟩) ⟨fun a U g mk q => by obtain ⟨q0, q1, qP, qK, qD⟩ := q; exact ⟨q0, q1, qP, va_K.moved (u := U) (U := U.calling g mk a) (Vm.Alike.refl U.vm) qK, qD⟩, va_recv hKc hPc (ci := 7) (q0 := 0) rfl rfl, fun U hU hW => ⟨rfl, by rw [hU], by rw [hU]; exact hPc, va_K.moved hW.alike hKc, hDc.weaken (fun _ _ _ _ => trivial)⟩⟩ rfl rfl hl.1 rfl (lv_room (Nat.le_of_ble_eq_true rfl)) dX9_feed_36 ⟨(Nat.le_of_ble_eq_true rfl), (Nat.le_of_ble_eq_true rfl)⟩) hS (fun q _ h => hFc q h) hFc (fun u t H1 locs ht hvm hw hB hz1 hk1 hS => ?_)
      refine W.widen (k := 0) (n := 0) (Nat.le_of_ble_eq_true rfl) (Nat.le_of_ble_eq_true rfl) ?_
      obtain ⟨hP1, hK1, hD1⟩ := hB
      rw [ht] at hP1
      have hK1 := va_K.moved hvm.symm hK1
      obtain ⟨hP, hD⟩ := va_join (wr := [(h0, .inr (9, [.ref aRo, .ref aCr, .int 0, .ref aBa, .ref aSe, .ref aTa, .ref aRu, .int 0, .ref aTl, .int 10, .ref aWa, .ref aCu, .ref aRa, .int 0, .ref aCo, .ref aFi]))]) (w1 := [(aTa, .inr (7, [.int 2, .int 0, .ref aBy]))]) hP hD [1, 2] [0] rfl rfl (by decide) (by decide) hk1 hFc hP1 hD1
      have hK := hK.app hK1
      generalize H1 = H at hP hS ⊢
      have hP : va_P (dC, dI) vwCl [(h0, .inr (9, [.ref aRo, .ref aCr, .int 0, .ref aBa, .ref aSe, .ref aTa, .ref aRu, .int 0, .ref aTl, .int 10, .ref aWa, .ref aCu, .ref aRa, .int 0, .ref aCo, .ref aFi])), (aTa, .inr (7, [.int 2, .int 0, .ref aBy]))] H := hP
      have hD : va_D A [(h0, .inr (9, [.ref aRo, .ref aCr, .int 0, .ref aBa, .ref aSe, .ref aTa, .ref aRu, .int 0, .ref aTl, .int 10, .ref aWa, .ref aCu, .ref aRa, .int 0, .ref aCo, .ref aFi])), (aTa, .inr (7, [.int 2, .int 0, .ref aBy]))] := hD
      have hK : va_K (dC, dI) vwCl [(caBy, .int)] s := hK
      refine lv_aload_n hx hb dX9_feed_39 rfl (lv_at hl 0 rfl) ?_
      refine va_get (D := (dC, dI)) (ci := 9) (v := .ref aTa) (C := RX9) (T := TX9) (N := 16) hx hb hts (fun _ h => List.mem_cons_of_mem _ (List.mem_append_left _ (List.mem_append_right _ h))) hown hK hP 0 rfl rfl 5 (by decide) (hts (.fieldLink RX9 45 "DrumBoats" "tape" "LDrumBoats$Tape;") (List.mem_of_getElem? (i := 1) rfl)) (fun _ h9 => h9) rfl dX9_feed_40 ?_
      refine va_get (D := (dC, dI)) (ci := 7) (v := .int 2) (C := RX7) (T := TX7) (N := 3) hx hb hts (fun _ h => List.mem_cons_of_mem _ (List.mem_append_right _ h)) hown hK hP 1 rfl rfl 0 (by decide) (hts (.fieldLink RX9 192 "DrumBoats$Tape" "size" "I") (List.mem_of_getElem? (i := 2) rfl)) (fun _ h9 => h9) rfl dX9_feed_43 ?_
      refine W.widen (k := 0) (n := 0) (Nat.le_of_ble_eq_true rfl) (Nat.le_of_ble_eq_true rfl) ?_
      exact W.iret (v := 2) hx hb hr (fun t ht hW => ⟨⟨2, (), rfl, (by first | rfl | decide | (unfold f_feed; (repeat' split) <;> first | rfl | omega)), trivial⟩, hS.F ht⟩) hS.2.2 dX9_feed_46
    · refine lv_aload_n hx hb dX9_feed_13 rfl (lv_at hl 0 rfl) ?_
      refine va_get (D := (dC, dI)) (ci := 9) (v := .ref aTa) (C := RX9) (T := TX9) (N := 16) hx hb hts (fun _ h => List.mem_cons_of_mem _ (List.mem_append_left _ (List.mem_append_right _ h))) hown hK hP 0 rfl rfl 5 (by decide) (hts (.fieldLink RX9 45 "DrumBoats" "tape" "LDrumBoats$Tape;") (List.mem_of_getElem? (i := 1) rfl)) (fun _ h9 => h9) rfl dX9_feed_14 ?_
      refine va_get (D := (dC, dI)) (ci := 7) (v := .int 0) (C := RX7) (T := TX7) (N := 3) hx hb hts (fun _ h => List.mem_cons_of_mem _ (List.mem_append_right _ h)) hown hK hP 1 rfl rfl 0 (by decide) (hts (.fieldLink RX9 192 "DrumBoats$Tape" "size" "I") (List.mem_of_getElem? (i := 2) rfl)) (fun _ h9 => h9) rfl dX9_feed_17 ?_
      refine lv_iload_n hx hb dX9_feed_20 rfl (lv_at hl 2 rfl) ?_
      refine lv_iadd hx hb dX9_feed_21 ?_
      refine ti_eq (y := 3) (by decide +kernel) ?_
      refine lv_bipush (v := 120) hx hb dX9_feed_22 (by decide +kernel) ?_
      refine lv_icmp_le (tgt := 30) hx hb dX9_feed_24 (by decide) (fun _ => ?_) (fun c9 => absurd c9 (by decide +kernel))
      refine lv_aload_n hx hb dX9_feed_30 rfl (lv_at hl 0 rfl) ?_
      refine va_get (D := (dC, dI)) (ci := 9) (v := .ref aTa) (C := RX9) (T := TX9) (N := 16) hx hb hts (fun _ h => List.mem_cons_of_mem _ (List.mem_append_left _ (List.mem_append_right _ h))) hown hK hP 0 rfl rfl 5 (by decide) (hts (.fieldLink RX9 45 "DrumBoats" "tape" "LDrumBoats$Tape;") (List.mem_of_getElem? (i := 1) rfl)) (fun _ h9 => h9) rfl dX9_feed_31 ?_
      refine lv_lload_n hx hb dX9_feed_34 rfl (lv_at hl 1 rfl) ?_
      refine lv_iload_n hx hb dX9_feed_35 rfl (lv_at hl 2 rfl) ?_
      have hPc := hP.sub (ws' := [(aTa, .inr (7, [.int 0, .int 0, .ref aBy])), (aBy, .inl (caBy, 120, .inl (fun _ => 0)))]) [1, 2] rfl
      have hKc := hK.sub (tys' := [(caBy, .int)]) [0] rfl
      have hDc := hD.sub (ws' := [(aTa, .inr (7, [.int 0, .int 0, .ref aBy])), (aBy, .inl (caBy, 120, .inl (fun _ => 0)))]) [1, 2] (by decide) rfl
      have hFc := va_free (wc := [(aTa, .inr (7, [.int 0, .int 0, .ref aBy])), (aBy, .inl (caBy, 120, .inl (fun _ => 0)))]) hD hS hA [1, 2] rfl
      refine va_callv (va_runV (As := [.long w, .int 3]) (rest := []) ⟨hx, hb, hml, hown, hts⟩ (k_X7_append_3 l dC dI H.size aTa w aBy caBy) (cwV 2 hts gX9_feed_X7_append rfl rfl rfl (by decide +kernel) ⟨(Nat.le_of_ble_eq_true rfl), (Nat.le_of_ble_eq_true rfl)⟩) ⟨fun a U g mk q => by obtain ⟨q0, q1, qP, qK, qD⟩ := q; exact ⟨q0, q1, qP, va_K.moved (u := U) (U := U.calling g mk a) (Vm.Alike.refl U.vm) qK, qD⟩, va_recv hKc hPc (ci := 7) (q0 := 0) rfl rfl, fun U hU hW => ⟨rfl, by rw [hU], by rw [hU]; exact hPc, va_K.moved hW.alike hKc, hDc.weaken (fun _ _ _ _ => trivial)⟩⟩ rfl rfl hl.1 rfl (lv_room (Nat.le_of_ble_eq_true rfl)) dX9_feed_36 ⟨(Nat.le_of_ble_eq_true rfl), (Nat.le_of_ble_eq_true rfl)⟩) hS (fun q _ h => hFc q h) hFc (fun u t H1 locs ht hvm hw hB hz1 hk1 hS => ?_)
      refine W.widen (k := 0) (n := 0) (Nat.le_of_ble_eq_true rfl) (Nat.le_of_ble_eq_true rfl) ?_
      obtain ⟨hP1, hK1, hD1⟩ := hB
      rw [ht] at hP1
      have hK1 := va_K.moved hvm.symm hK1
      obtain ⟨hP, hD⟩ := va_join (wr := [(h0, .inr (9, [.ref aRo, .ref aCr, .int 0, .ref aBa, .ref aSe, .ref aTa, .ref aRu, .int 0, .ref aTl, .int 10, .ref aWa, .ref aCu, .ref aRa, .int 0, .ref aCo, .ref aFi]))]) (w1 := [(aTa, .inr (7, [.int 3, .int 0, .ref aBy]))]) hP hD [1, 2] [0] rfl rfl (by decide) (by decide) hk1 hFc hP1 hD1
      have hK := hK.app hK1
      generalize H1 = H at hP hS ⊢
      have hP : va_P (dC, dI) vwCl [(h0, .inr (9, [.ref aRo, .ref aCr, .int 0, .ref aBa, .ref aSe, .ref aTa, .ref aRu, .int 0, .ref aTl, .int 10, .ref aWa, .ref aCu, .ref aRa, .int 0, .ref aCo, .ref aFi])), (aTa, .inr (7, [.int 3, .int 0, .ref aBy]))] H := hP
      have hD : va_D A [(h0, .inr (9, [.ref aRo, .ref aCr, .int 0, .ref aBa, .ref aSe, .ref aTa, .ref aRu, .int 0, .ref aTl, .int 10, .ref aWa, .ref aCu, .ref aRa, .int 0, .ref aCo, .ref aFi])), (aTa, .inr (7, [.int 3, .int 0, .ref aBy]))] := hD
      have hK : va_K (dC, dI) vwCl [(caBy, .int)] s := hK
      refine lv_aload_n hx hb dX9_feed_39 rfl (lv_at hl 0 rfl) ?_
      refine va_get (D := (dC, dI)) (ci := 9) (v := .ref aTa) (C := RX9) (T := TX9) (N := 16) hx hb hts (fun _ h => List.mem_cons_of_mem _ (List.mem_append_left _ (List.mem_append_right _ h))) hown hK hP 0 rfl rfl 5 (by decide) (hts (.fieldLink RX9 45 "DrumBoats" "tape" "LDrumBoats$Tape;") (List.mem_of_getElem? (i := 1) rfl)) (fun _ h9 => h9) rfl dX9_feed_40 ?_
      refine va_get (D := (dC, dI)) (ci := 7) (v := .int 3) (C := RX7) (T := TX7) (N := 3) hx hb hts (fun _ h => List.mem_cons_of_mem _ (List.mem_append_right _ h)) hown hK hP 1 rfl rfl 0 (by decide) (hts (.fieldLink RX9 192 "DrumBoats$Tape" "size" "I") (List.mem_of_getElem? (i := 2) rfl)) (fun _ h9 => h9) rfl dX9_feed_43 ?_
      refine W.widen (k := 0) (n := 0) (Nat.le_of_ble_eq_true rfl) (Nat.le_of_ble_eq_true rfl) ?_
      exact W.iret (v := 3) hx hb hr (fun t ht hW => ⟨⟨3, (), rfl, (by first | rfl | decide | (unfold f_feed; (repeat' split) <;> first | rfl | omega)), trivial⟩, hS.F ht⟩) hS.2.2 dX9_feed_46
    · refine lv_aload_n hx hb dX9_feed_13 rfl (lv_at hl 0 rfl) ?_
      refine va_get (D := (dC, dI)) (ci := 9) (v := .ref aTa) (C := RX9) (T := TX9) (N := 16) hx hb hts (fun _ h => List.mem_cons_of_mem _ (List.mem_append_left _ (List.mem_append_right _ h))) hown hK hP 0 rfl rfl 5 (by decide) (hts (.fieldLink RX9 45 "DrumBoats" "tape" "LDrumBoats$Tape;") (List.mem_of_getElem? (i := 1) rfl)) (fun _ h9 => h9) rfl dX9_feed_14 ?_
      refine va_get (D := (dC, dI)) (ci := 7) (v := .int 0) (C := RX7) (T := TX7) (N := 3) hx hb hts (fun _ h => List.mem_cons_of_mem _ (List.mem_append_right _ h)) hown hK hP 1 rfl rfl 0 (by decide) (hts (.fieldLink RX9 192 "DrumBoats$Tape" "size" "I") (List.mem_of_getElem? (i := 2) rfl)) (fun _ h9 => h9) rfl dX9_feed_17 ?_
      refine lv_iload_n hx hb dX9_feed_20 rfl (lv_at hl 2 rfl) ?_
      refine lv_iadd hx hb dX9_feed_21 ?_
      refine ti_eq (y := 4) (by decide +kernel) ?_
      refine lv_bipush (v := 120) hx hb dX9_feed_22 (by decide +kernel) ?_
      refine lv_icmp_le (tgt := 30) hx hb dX9_feed_24 (by decide) (fun _ => ?_) (fun c9 => absurd c9 (by decide +kernel))
      refine lv_aload_n hx hb dX9_feed_30 rfl (lv_at hl 0 rfl) ?_
      refine va_get (D := (dC, dI)) (ci := 9) (v := .ref aTa) (C := RX9) (T := TX9) (N := 16) hx hb hts (fun _ h => List.mem_cons_of_mem _ (List.mem_append_left _ (List.mem_append_right _ h))) hown hK hP 0 rfl rfl 5 (by decide) (hts (.fieldLink RX9 45 "DrumBoats" "tape" "LDrumBoats$Tape;") (List.mem_of_getElem? (i := 1) rfl)) (fun _ h9 => h9) rfl dX9_feed_31 ?_
      refine lv_lload_n hx hb dX9_feed_34 rfl (lv_at hl 1 rfl) ?_
      refine lv_iload_n hx hb dX9_feed_35 rfl (lv_at hl 2 rfl) ?_
      have hPc := hP.sub (ws' := [(aTa, .inr (7, [.int 0, .int 0, .ref aBy])), (aBy, .inl (caBy, 120, .inl (fun _ => 0)))]) [1, 2] rfl
      have hKc := hK.sub (tys' := [(caBy, .int)]) [0] rfl
      have hDc := hD.sub (ws' := [(aTa, .inr (7, [.int 0, .int 0, .ref aBy])), (aBy, .inl (caBy, 120, .inl (fun _ => 0)))]) [1, 2] (by decide) rfl
      have hFc := va_free (wc := [(aTa, .inr (7, [.int 0, .int 0, .ref aBy])), (aBy, .inl (caBy, 120, .inl (fun _ => 0)))]) hD hS hA [1, 2] rfl
      refine va_callv (va_runV (As := [.long w, .int 4]) (rest := []) ⟨hx, hb, hml, hown, hts⟩ (k_X7_append_4 l dC dI H.size aTa w aBy caBy) (cwV 2 hts gX9_feed_X7_append rfl rfl rfl (by decide +kernel) ⟨(Nat.le_of_ble_eq_true rfl), (Nat.le_of_ble_eq_true rfl)⟩) ⟨fun a U g mk q => by obtain ⟨q0, q1, qP, qK, qD⟩ := q; exact ⟨q0, q1, qP, va_K.moved (u := U) (U := U.calling g mk a) (Vm.Alike.refl U.vm) qK, qD⟩, va_recv hKc hPc (ci := 7) (q0 := 0) rfl rfl, fun U hU hW => ⟨rfl, by rw [hU], by rw [hU]; exact hPc, va_K.moved hW.alike hKc, hDc.weaken (fun _ _ _ _ => trivial)⟩⟩ rfl rfl hl.1 rfl (lv_room (Nat.le_of_ble_eq_true rfl)) dX9_feed_36 ⟨(Nat.le_of_ble_eq_true rfl), (Nat.le_of_ble_eq_true rfl)⟩) hS (fun q _ h => hFc q h) hFc (fun u t H1 locs ht hvm hw hB hz1 hk1 hS => ?_)
      refine W.widen (k := 0) (n := 0) (Nat.le_of_ble_eq_true rfl) (Nat.le_of_ble_eq_true rfl) ?_
      obtain ⟨hP1, hK1, hD1⟩ := hB
      rw [ht] at hP1
      have hK1 := va_K.moved hvm.symm hK1
      obtain ⟨hP, hD⟩ := va_join (wr := [(h0, .inr (9, [.ref aRo, .ref aCr, .int 0, .ref aBa, .ref aSe, .ref aTa, .ref aRu, .int 0, .ref aTl, .int 10, .ref aWa, .ref aCu, .ref aRa, .int 0, .ref aCo, .ref aFi]))]) (w1 := [(aTa, .inr (7, [.int 4, .int 0, .ref aBy]))]) hP hD [1, 2] [0] rfl rfl (by decide) (by decide) hk1 hFc hP1 hD1
      have hK := hK.app hK1
      generalize H1 = H at hP hS ⊢
      have hP : va_P (dC, dI) vwCl [(h0, .inr (9, [.ref aRo, .ref aCr, .int 0, .ref aBa, .ref aSe, .ref aTa, .ref aRu, .int 0, .ref aTl, .int 10, .ref aWa, .ref aCu, .ref aRa, .int 0, .ref aCo, .ref aFi])), (aTa, .inr (7, [.int 4, .int 0, .ref aBy]))] H := hP
      have hD : va_D A [(h0, .inr (9, [.ref aRo, .ref aCr, .int 0, .ref aBa, .ref aSe, .ref aTa, .ref aRu, .int 0, .ref aTl, .int 10, .ref aWa, .ref aCu, .ref aRa, .int 0, .ref aCo, .ref aFi])), (aTa, .inr (7, [.int 4, .int 0, .ref aBy]))] := hD
      have hK : va_K (dC, dI) vwCl [(caBy, .int)] s := hK
      refine lv_aload_n hx hb dX9_feed_39 rfl (lv_at hl 0 rfl) ?_
      refine va_get (D := (dC, dI)) (ci := 9) (v := .ref aTa) (C := RX9) (T := TX9) (N := 16) hx hb hts (fun _ h => List.mem_cons_of_mem _ (List.mem_append_left _ (List.mem_append_right _ h))) hown hK hP 0 rfl rfl 5 (by decide) (hts (.fieldLink RX9 45 "DrumBoats" "tape" "LDrumBoats$Tape;") (List.mem_of_getElem? (i := 1) rfl)) (fun _ h9 => h9) rfl dX9_feed_40 ?_
      refine va_get (D := (dC, dI)) (ci := 7) (v := .int 4) (C := RX7) (T := TX7) (N := 3) hx hb hts (fun _ h => List.mem_cons_of_mem _ (List.mem_append_right _ h)) hown hK hP 1 rfl rfl 0 (by decide) (hts (.fieldLink RX9 192 "DrumBoats$Tape" "size" "I") (List.mem_of_getElem? (i := 2) rfl)) (fun _ h9 => h9) rfl dX9_feed_43 ?_
      refine W.widen (k := 0) (n := 0) (Nat.le_of_ble_eq_true rfl) (Nat.le_of_ble_eq_true rfl) ?_
      exact W.iret (v := 4) hx hb hr (fun t ht hW => ⟨⟨4, (), rfl, (by first | rfl | decide | (unfold f_feed; (repeat' split) <;> first | rfl | omega)), trivial⟩, hS.F ht⟩) hS.2.2 dX9_feed_46
    · refine lv_aload_n hx hb dX9_feed_13 rfl (lv_at hl 0 rfl) ?_
      refine va_get (D := (dC, dI)) (ci := 9) (v := .ref aTa) (C := RX9) (T := TX9) (N := 16) hx hb hts (fun _ h => List.mem_cons_of_mem _ (List.mem_append_left _ (List.mem_append_right _ h))) hown hK hP 0 rfl rfl 5 (by decide) (hts (.fieldLink RX9 45 "DrumBoats" "tape" "LDrumBoats$Tape;") (List.mem_of_getElem? (i := 1) rfl)) (fun _ h9 => h9) rfl dX9_feed_14 ?_
      refine va_get (D := (dC, dI)) (ci := 7) (v := .int 0) (C := RX7) (T := TX7) (N := 3) hx hb hts (fun _ h => List.mem_cons_of_mem _ (List.mem_append_right _ h)) hown hK hP 1 rfl rfl 0 (by decide) (hts (.fieldLink RX9 192 "DrumBoats$Tape" "size" "I") (List.mem_of_getElem? (i := 2) rfl)) (fun _ h9 => h9) rfl dX9_feed_17 ?_
      refine lv_iload_n hx hb dX9_feed_20 rfl (lv_at hl 2 rfl) ?_
      refine lv_iadd hx hb dX9_feed_21 ?_
      refine ti_eq (y := 5) (by decide +kernel) ?_
      refine lv_bipush (v := 120) hx hb dX9_feed_22 (by decide +kernel) ?_
      refine lv_icmp_le (tgt := 30) hx hb dX9_feed_24 (by decide) (fun _ => ?_) (fun c9 => absurd c9 (by decide +kernel))
      refine lv_aload_n hx hb dX9_feed_30 rfl (lv_at hl 0 rfl) ?_
      refine va_get (D := (dC, dI)) (ci := 9) (v := .ref aTa) (C := RX9) (T := TX9) (N := 16) hx hb hts (fun _ h => List.mem_cons_of_mem _ (List.mem_append_left _ (List.mem_append_right _ h))) hown hK hP 0 rfl rfl 5 (by decide) (hts (.fieldLink RX9 45 "DrumBoats" "tape" "LDrumBoats$Tape;") (List.mem_of_getElem? (i := 1) rfl)) (fun _ h9 => h9) rfl dX9_feed_31 ?_
      refine lv_lload_n hx hb dX9_feed_34 rfl (lv_at hl 1 rfl) ?_
      refine lv_iload_n hx hb dX9_feed_35 rfl (lv_at hl 2 rfl) ?_
      have hPc := hP.sub (ws' := [(aTa, .inr (7, [.int 0, .int 0, .ref aBy])), (aBy, .inl (caBy, 120, .inl (fun _ => 0)))]) [1, 2] rfl
      have hKc := hK.sub (tys' := [(caBy, .int)]) [0] rfl
      have hDc := hD.sub (ws' := [(aTa, .inr (7, [.int 0, .int 0, .ref aBy])), (aBy, .inl (caBy, 120, .inl (fun _ => 0)))]) [1, 2] (by decide) rfl
      have hFc := va_free (wc := [(aTa, .inr (7, [.int 0, .int 0, .ref aBy])), (aBy, .inl (caBy, 120, .inl (fun _ => 0)))]) hD hS hA [1, 2] rfl
      refine va_callv (va_runV (As := [.long w, .int 5]) (rest := []) ⟨hx, hb, hml, hown, hts⟩ (k_X7_append_5 l dC dI H.size aTa w aBy caBy) (cwV 2 hts gX9_feed_X7_append rfl rfl rfl (by decide +kernel) ⟨(Nat.le_of_ble_eq_true rfl), (Nat.le_of_ble_eq_true rfl)⟩) ⟨fun a U g mk q => by obtain ⟨q0, q1, qP, qK, qD⟩ := q; exact ⟨q0, q1, qP, va_K.moved (u := U) (U := U.calling g mk a) (Vm.Alike.refl U.vm) qK, qD⟩, va_recv hKc hPc (ci := 7) (q0 := 0) rfl rfl, fun U hU hW => ⟨rfl, by rw [hU], by rw [hU]; exact hPc, va_K.moved hW.alike hKc, hDc.weaken (fun _ _ _ _ => trivial)⟩⟩ rfl rfl hl.1 rfl (lv_room (Nat.le_of_ble_eq_true rfl)) dX9_feed_36 ⟨(Nat.le_of_ble_eq_true rfl), (Nat.le_of_ble_eq_true rfl)⟩) hS (fun q _ h => hFc q h) hFc (fun u t H1 locs ht hvm hw hB hz1 hk1 hS => ?_)
      refine W.widen (k := 0) (n := 0) (Nat.le_of_ble_eq_true rfl) (Nat.le_of_ble_eq_true rfl) ?_
      obtain ⟨hP1, hK1, hD1⟩ := hB
      rw [ht] at hP1
      have hK1 := va_K.moved hvm.symm hK1
      obtain ⟨hP, hD⟩ := va_join (wr := [(h0, .inr (9, [.ref aRo, .ref aCr, .int 0, .ref aBa, .ref aSe, .ref aTa, .ref aRu, .int 0, .ref aTl, .int 10, .ref aWa, .ref aCu, .ref aRa, .int 0, .ref aCo, .ref aFi]))]) (w1 := [(aTa, .inr (7, [.int 5, .int 0, .ref aBy]))]) hP hD [1, 2] [0] rfl rfl (by decide) (by decide) hk1 hFc hP1 hD1
      have hK := hK.app hK1
      generalize H1 = H at hP hS ⊢
      have hP : va_P (dC, dI) vwCl [(h0, .inr (9, [.ref aRo, .ref aCr, .int 0, .ref aBa, .ref aSe, .ref aTa, .ref aRu, .int 0, .ref aTl, .int 10, .ref aWa, .ref aCu, .ref aRa, .int 0, .ref aCo, .ref aFi])), (aTa, .inr (7, [.int 5, .int 0, .ref aBy]))] H := hP
      have hD : va_D A [(h0, .inr (9, [.ref aRo, .ref aCr, .int 0, .ref aBa, .ref aSe, .ref aTa, .ref aRu, .int 0, .ref aTl, .int 10, .ref aWa, .ref aCu, .ref aRa, .int 0, .ref aCo, .ref aFi])), (aTa, .inr (7, [.int 5, .int 0, .ref aBy]))] := hD
      have hK : va_K (dC, dI) vwCl [(caBy, .int)] s := hK
      refine lv_aload_n hx hb dX9_feed_39 rfl (lv_at hl 0 rfl) ?_
      refine va_get (D := (dC, dI)) (ci := 9) (v := .ref aTa) (C := RX9) (T := TX9) (N := 16) hx hb hts (fun _ h => List.mem_cons_of_mem _ (List.mem_append_left _ (List.mem_append_right _ h))) hown hK hP 0 rfl rfl 5 (by decide) (hts (.fieldLink RX9 45 "DrumBoats" "tape" "LDrumBoats$Tape;") (List.mem_of_getElem? (i := 1) rfl)) (fun _ h9 => h9) rfl dX9_feed_40 ?_
      refine va_get (D := (dC, dI)) (ci := 7) (v := .int 5) (C := RX7) (T := TX7) (N := 3) hx hb hts (fun _ h => List.mem_cons_of_mem _ (List.mem_append_right _ h)) hown hK hP 1 rfl rfl 0 (by decide) (hts (.fieldLink RX9 192 "DrumBoats$Tape" "size" "I") (List.mem_of_getElem? (i := 2) rfl)) (fun _ h9 => h9) rfl dX9_feed_43 ?_
      refine W.widen (k := 0) (n := 0) (Nat.le_of_ble_eq_true rfl) (Nat.le_of_ble_eq_true rfl) ?_
      exact W.iret (v := 5) hx hb hr (fun t ht hW => ⟨⟨5, (), rfl, (by first | rfl | decide | (unfold f_feed; (repeat' split) <;> first | rfl | omega)), trivial⟩, hS.F ht⟩) hS.2.2 dX9_feed_46
    · refine lv_aload_n hx hb dX9_feed_13 rfl (lv_at hl 0 rfl) ?_
      refine va_get (D := (dC, dI)) (ci := 9) (v := .ref aTa) (C := RX9) (T := TX9) (N := 16) hx hb hts (fun _ h => List.mem_cons_of_mem _ (List.mem_append_left _ (List.mem_append_right _ h))) hown hK hP 0 rfl rfl 5 (by decide) (hts (.fieldLink RX9 45 "DrumBoats" "tape" "LDrumBoats$Tape;") (List.mem_of_getElem? (i := 1) rfl)) (fun _ h9 => h9) rfl dX9_feed_14 ?_
      refine va_get (D := (dC, dI)) (ci := 7) (v := .int 0) (C := RX7) (T := TX7) (N := 3) hx hb hts (fun _ h => List.mem_cons_of_mem _ (List.mem_append_right _ h)) hown hK hP 1 rfl rfl 0 (by decide) (hts (.fieldLink RX9 192 "DrumBoats$Tape" "size" "I") (List.mem_of_getElem? (i := 2) rfl)) (fun _ h9 => h9) rfl dX9_feed_17 ?_
      refine lv_iload_n hx hb dX9_feed_20 rfl (lv_at hl 2 rfl) ?_
      refine lv_iadd hx hb dX9_feed_21 ?_
      refine ti_eq (y := 6) (by decide +kernel) ?_
      refine lv_bipush (v := 120) hx hb dX9_feed_22 (by decide +kernel) ?_
      refine lv_icmp_le (tgt := 30) hx hb dX9_feed_24 (by decide) (fun _ => ?_) (fun c9 => absurd c9 (by decide +kernel))
      refine lv_aload_n hx hb dX9_feed_30 rfl (lv_at hl 0 rfl) ?_
      refine va_get (D := (dC, dI)) (ci := 9) (v := .ref aTa) (C := RX9) (T := TX9) (N := 16) hx hb hts (fun _ h => List.mem_cons_of_mem _ (List.mem_append_left _ (List.mem_append_right _ h))) hown hK hP 0 rfl rfl 5 (by decide) (hts (.fieldLink RX9 45 "DrumBoats" "tape" "LDrumBoats$Tape;") (List.mem_of_getElem? (i := 1) rfl)) (fun _ h9 => h9) rfl dX9_feed_31 ?_
      refine lv_lload_n hx hb dX9_feed_34 rfl (lv_at hl 1 rfl) ?_
      refine lv_iload_n hx hb dX9_feed_35 rfl (lv_at hl 2 rfl) ?_
      have hPc := hP.sub (ws' := [(aTa, .inr (7, [.int 0, .int 0, .ref aBy])), (aBy, .inl (caBy, 120, .inl (fun _ => 0)))]) [1, 2] rfl
      have hKc := hK.sub (tys' := [(caBy, .int)]) [0] rfl
      have hDc := hD.sub (ws' := [(aTa, .inr (7, [.int 0, .int 0, .ref aBy])), (aBy, .inl (caBy, 120, .inl (fun _ => 0)))]) [1, 2] (by decide) rfl
      have hFc := va_free (wc := [(aTa, .inr (7, [.int 0, .int 0, .ref aBy])), (aBy, .inl (caBy, 120, .inl (fun _ => 0)))]) hD hS hA [1, 2] rfl
      refine va_callv (va_runV (As := [.long w, .int 6]) (rest := []) ⟨hx, hb, hml, hown, hts⟩ (k_X7_append_6 l dC dI H.size aTa w aBy caBy) (cwV 2 hts gX9_feed_X7_append rfl rfl rfl (by decide +kernel) ⟨(Nat.le_of_ble_eq_true rfl), (Nat.le_of_ble_eq_true rfl)⟩) ⟨fun a U g mk q => by obtain ⟨q0, q1, qP, qK, qD⟩ := q; exact ⟨q0, q1, qP, va_K.moved (u := U) (U := U.calling g mk a) (Vm.Alike.refl U.vm) qK, qD⟩, va_recv hKc hPc (ci := 7) (q0 := 0) rfl rfl, fun U hU hW => ⟨rfl, by rw [hU], by rw [hU]; exact hPc, va_K.moved hW.alike hKc, hDc.weaken (fun _ _ _ _ => trivial)⟩⟩ rfl rfl hl.1 rfl (lv_room (Nat.le_of_ble_eq_true rfl)) dX9_feed_36 ⟨(Nat.le_of_ble_eq_true rfl), (Nat.le_of_ble_eq_true rfl)⟩) hS (fun q _ h => hFc q h) hFc (fun u t H1 locs ht hvm hw hB hz1 hk1 hS => ?_)
      refine W.widen (k := 0) (n := 0) (Nat.le_of_ble_eq_true rfl) (Nat.le_of_ble_eq_true rfl) ?_
      obtain ⟨hP1, hK1, hD1⟩ := hB
      rw [ht] at hP1
      have hK1 := va_K.moved hvm.symm hK1
      obtain ⟨hP, hD⟩ := va_join (wr := [(h0, .inr (9, [.ref aRo, .ref aCr, .int 0, .ref aBa, .ref aSe, .ref aTa, .ref aRu, .int 0, .ref aTl, .int 10, .ref aWa, .ref aCu, .ref aRa, .int 0, .ref aCo, .ref aFi]))]) (w1 := [(aTa, .inr (7, [.int 6, .int 0, .ref aBy]))]) hP hD [1, 2] [0] rfl rfl (by decide) (by decide) hk1 hFc hP1 hD1
      have hK := hK.app hK1
      generalize H1 = H at hP hS ⊢
      have hP : va_P (dC, dI) vwCl [(h0, .inr (9, [.ref aRo, .ref aCr, .int 0, .ref aBa, .ref aSe, .ref aTa, .ref aRu, .int 0, .ref aTl, .int 10, .ref aWa, .ref aCu, .ref aRa, .int 0, .ref aCo, .ref aFi])), (aTa, .inr (7, [.int 6, .int 0, .ref aBy]))] H := hP
      have hD : va_D A [(h0, .inr (9, [.ref aRo, .ref aCr, .int 0, .ref aBa, .ref aSe, .ref aTa, .ref aRu, .int 0, .ref aTl, .int 10, .ref aWa, .ref aCu, .ref aRa, .int 0, .ref aCo, .ref aFi])), (aTa, .inr (7, [.int 6, .int 0, .ref aBy]))] := hD
      have hK : va_K (dC, dI) vwCl [(caBy, .int)] s := hK
      refine lv_aload_n hx hb dX9_feed_39 rfl (lv_at hl 0 rfl) ?_
      refine va_get (D := (dC, dI)) (ci := 9) (v := .ref aTa) (C := RX9) (T := TX9) (N := 16) hx hb hts (fun _ h => List.mem_cons_of_mem _ (List.mem_append_left _ (List.mem_append_right _ h))) hown hK hP 0 rfl rfl 5 (by decide) (hts (.fieldLink RX9 45 "DrumBoats" "tape" "LDrumBoats$Tape;") (List.mem_of_getElem? (i := 1) rfl)) (fun _ h9 => h9) rfl dX9_feed_40 ?_
      refine va_get (D := (dC, dI)) (ci := 7) (v := .int 6) (C := RX7) (T := TX7) (N := 3) hx hb hts (fun _ h => List.mem_cons_of_mem _ (List.mem_append_right _ h)) hown hK hP 1 rfl rfl 0 (by decide) (hts (.fieldLink RX9 192 "DrumBoats$Tape" "size" "I") (List.mem_of_getElem? (i := 2) rfl)) (fun _ h9 => h9) rfl dX9_feed_43 ?_
      refine W.widen (k := 0) (n := 0) (Nat.le_of_ble_eq_true rfl) (Nat.le_of_ble_eq_true rfl) ?_
      exact W.iret (v := 6) hx hb hr (fun t ht hW => ⟨⟨6, (), rfl, (by first | rfl | decide | (unfold f_feed; (repeat' split) <;> first | rfl | omega)), trivial⟩, hS.F ht⟩) hS.2.2 dX9_feed_46
    · refine lv_aload_n hx hb dX9_feed_13 rfl (lv_at hl 0 rfl) ?_
      refine va_get (D := (dC, dI)) (ci := 9) (v := .ref aTa) (C := RX9) (T := TX9) (N := 16) hx hb hts (fun _ h => List.mem_cons_of_mem _ (List.mem_append_left _ (List.mem_append_right _ h))) hown hK hP 0 rfl rfl 5 (by decide) (hts (.fieldLink RX9 45 "DrumBoats" "tape" "LDrumBoats$Tape;") (List.mem_of_getElem? (i := 1) rfl)) (fun _ h9 => h9) rfl dX9_feed_14 ?_
      refine va_get (D := (dC, dI)) (ci := 7) (v := .int 0) (C := RX7) (T := TX7) (N := 3) hx hb hts (fun _ h => List.mem_cons_of_mem _ (List.mem_append_right _ h)) hown hK hP 1 rfl rfl 0 (by decide) (hts (.fieldLink RX9 192 "DrumBoats$Tape" "size" "I") (List.mem_of_getElem? (i := 2) rfl)) (fun _ h9 => h9) rfl dX9_feed_17 ?_
      refine lv_iload_n hx hb dX9_feed_20 rfl (lv_at hl 2 rfl) ?_
      refine lv_iadd hx hb dX9_feed_21 ?_
      refine ti_eq (y := 7) (by decide +kernel) ?_
      refine lv_bipush (v := 120) hx hb dX9_feed_22 (by decide +kernel) ?_
      refine lv_icmp_le (tgt := 30) hx hb dX9_feed_24 (by decide) (fun _ => ?_) (fun c9 => absurd c9 (by decide +kernel))
      refine lv_aload_n hx hb dX9_feed_30 rfl (lv_at hl 0 rfl) ?_
      refine va_get (D := (dC, dI)) (ci := 9) (v := .ref aTa) (C := RX9) (T := TX9) (N := 16) hx hb hts (fun _ h => List.mem_cons_of_mem _ (List.mem_append_left _ (List.mem_append_right _ h))) hown hK hP 0 rfl rfl 5 (by decide) (hts (.fieldLink RX9 45 "DrumBoats" "tape" "LDrumBoats$Tape;") (List.mem_of_getElem? (i := 1) rfl)) (fun _ h9 => h9) rfl dX9_feed_31 ?_
      refine lv_lload_n hx hb dX9_feed_34 rfl (lv_at hl 1 rfl) ?_
      refine lv_iload_n hx hb dX9_feed_35 rfl (lv_at hl 2 rfl) ?_
      have hPc := hP.sub (ws' := [(aTa, .inr (7, [.int 0, .int 0, .ref aBy])), (aBy, .inl (caBy, 120, .inl (fun _ => 0)))]) [1, 2] rfl
      have hKc := hK.sub (tys' := [(caBy, .int)]) [0] rfl
      have hDc := hD.sub (ws' := [(aTa, .inr (7, [.int 0, .int 0, .ref aBy])), (aBy, .inl (caBy, 120, .inl (fun _ => 0)))]) [1, 2] (by decide) rfl
      have hFc := va_free (wc := [(aTa, .inr (7, [.int 0, .int 0, .ref aBy])), (aBy, .inl (caBy, 120, .inl (fun _ => 0)))]) hD hS hA [1, 2] rfl
      refine va_callv (va_runV (As := [.long w, .int 7]) (rest := []) ⟨hx, hb, hml, hown, hts⟩ (k_X7_append_7 l dC dI H.size aTa w aBy caBy) (cwV 2 hts gX9_feed_X7_append rfl rfl rfl (by decide +kernel) ⟨(Nat.le_of_ble_eq_true rfl), (Nat.le_of_ble_eq_true rfl)⟩) ⟨fun a U g mk q => by obtain ⟨q0, q1, qP, qK, qD⟩ := q; exact ⟨q0, q1, qP, va_K.moved (u := U) (U := U.calling g mk a) (Vm.Alike.refl U.vm) qK, qD⟩, va_recv hKc hPc (ci := 7) (q0 := 0) rfl rfl, fun U hU hW => ⟨rfl, by rw [hU], by rw [hU]; exact hPc, va_K.moved hW.alike hKc, hDc.weaken (fun _ _ _ _ => trivial)⟩⟩ rfl rfl hl.1 rfl (lv_room (Nat.le_of_ble_eq_true rfl)) dX9_feed_36 ⟨(Nat.le_of_ble_eq_true rfl), (Nat.le_of_ble_eq_true rfl)⟩) hS (fun q _ h => hFc q h) hFc (fun u t H1 locs ht hvm hw hB hz1 hk1 hS => ?_)
      refine W.widen (k := 0) (n := 0) (Nat.le_of_ble_eq_true rfl) (Nat.le_of_ble_eq_true rfl) ?_
      obtain ⟨hP1, hK1, hD1⟩ := hB
      rw [ht] at hP1
      have hK1 := va_K.moved hvm.symm hK1
      obtain ⟨hP, hD⟩ := va_join (wr := [(h0, .inr (9, [.ref aRo, .ref aCr, .int 0, .ref aBa, .ref aSe, .ref aTa, .ref aRu, .int 0, .ref aTl, .int 10, .ref aWa, .ref aCu, .ref aRa, .int 0, .ref aCo, .ref aFi]))]) (w1 := [(aTa, .inr (7, [.int 7, .int 0, .ref aBy]))]) hP hD [1, 2] [0] rfl rfl (by decide) (by decide) hk1 hFc hP1 hD1
      have hK := hK.app hK1
      generalize H1 = H at hP hS ⊢
      have hP : va_P (dC, dI) vwCl [(h0, .inr (9, [.ref aRo, .ref aCr, .int 0, .ref aBa, .ref aSe, .ref aTa, .ref aRu, .int 0, .ref aTl, .int 10, .ref aWa, .ref aCu, .ref aRa, .int 0, .ref aCo, .ref aFi])), (aTa, .inr (7, [.int 7, .int 0, .ref aBy]))] H := hP
      have hD : va_D A [(h0, .inr (9, [.ref aRo, .ref aCr, .int 0, .ref aBa, .ref aSe, .ref aTa, .ref aRu, .int 0, .ref aTl, .int 10, .ref aWa, .ref aCu, .ref aRa, .int 0, .ref aCo, .ref aFi])), (aTa, .inr (7, [.int 7, .int 0, .ref aBy]))] := hD
      have hK : va_K (dC, dI) vwCl [(caBy, .int)] s := hK
      refine lv_aload_n hx hb dX9_feed_39 rfl (lv_at hl 0 rfl) ?_
      refine va_get (D := (dC, dI)) (ci := 9) (v := .ref aTa) (C := RX9) (T := TX9) (N := 16) hx hb hts (fun _ h => List.mem_cons_of_mem _ (List.mem_append_left _ (List.mem_append_right _ h))) hown hK hP 0 rfl rfl 5 (by decide) (hts (.fieldLink RX9 45 "DrumBoats" "tape" "LDrumBoats$Tape;") (List.mem_of_getElem? (i := 1) rfl)) (fun _ h9 => h9) rfl dX9_feed_40 ?_
      refine va_get (D := (dC, dI)) (ci := 7) (v := .int 7) (C := RX7) (T := TX7) (N := 3) hx hb hts (fun _ h => List.mem_cons_of_mem _ (List.mem_append_right _ h)) hown hK hP 1 rfl rfl 0 (by decide) (hts (.fieldLink RX9 192 "DrumBoats$Tape" "size" "I") (List.mem_of_getElem? (i := 2) rfl)) (fun _ h9 => h9) rfl dX9_feed_43 ?_
      refine W.widen (k := 0) (n := 0) (Nat.le_of_ble_eq_true rfl) (Nat.le_of_ble_eq_true rfl) ?_
      exact W.iret (v := 7) hx hb hr (fun t ht hW => ⟨⟨7, (), rfl, (by first | rfl | decide | (unfold f_feed; (repeat' split) <;> first | rfl | omega)), trivial⟩, hS.F ht⟩) hS.2.2 dX9_feed_46
    · refine lv_aload_n hx hb dX9_feed_13 rfl (lv_at hl 0 rfl) ?_
      refine va_get (D := (dC, dI)) (ci := 9) (v := .ref aTa) (C := RX9) (T := TX9) (N := 16) hx hb hts (fun _ h => List.mem_cons_of_mem _ (List.mem_append_left _ (List.mem_append_right _ h))) hown hK hP 0 rfl rfl 5 (by decide) (hts (.fieldLink RX9 45 "DrumBoats" "tape" "LDrumBoats$Tape;") (List.mem_of_getElem? (i := 1) rfl)) (fun _ h9 => h9) rfl dX9_feed_14 ?_
      refine va_get (D := (dC, dI)) (ci := 7) (v := .int 0) (C := RX7) (T := TX7) (N := 3) hx hb hts (fun _ h => List.mem_cons_of_mem _ (List.mem_append_right _ h)) hown hK hP 1 rfl rfl 0 (by decide) (hts (.fieldLink RX9 192 "DrumBoats$Tape" "size" "I") (List.mem_of_getElem? (i := 2) rfl)) (fun _ h9 => h9) rfl dX9_feed_17 ?_
      refine lv_iload_n hx hb dX9_feed_20 rfl (lv_at hl 2 rfl) ?_
      refine lv_iadd hx hb dX9_feed_21 ?_
      refine ti_eq (y := 8) (by decide +kernel) ?_
      refine lv_bipush (v := 120) hx hb dX9_feed_22 (by decide +kernel) ?_
      refine lv_icmp_le (tgt := 30) hx hb dX9_feed_24 (by decide) (fun _ => ?_) (fun c9 => absurd c9 (by decide +kernel))
      refine lv_aload_n hx hb dX9_feed_30 rfl (lv_at hl 0 rfl) ?_
      refine va_get (D := (dC, dI)) (ci := 9) (v := .ref aTa) (C := RX9) (T := TX9) (N := 16) hx hb hts (fun _ h => List.mem_cons_of_mem _ (List.mem_append_left _ (List.mem_append_right _ h))) hown hK hP 0 rfl rfl 5 (by decide) (hts (.fieldLink RX9 45 "DrumBoats" "tape" "LDrumBoats$Tape;") (List.mem_of_getElem? (i := 1) rfl)) (fun _ h9 => h9) rfl dX9_feed_31 ?_
      refine lv_lload_n hx hb dX9_feed_34 rfl (lv_at hl 1 rfl) ?_
      refine lv_iload_n hx hb dX9_feed_35 rfl (lv_at hl 2 rfl) ?_
      have hPc := hP.sub (ws' := [(aTa, .inr (7, [.int 0, .int 0, .ref aBy])), (aBy, .inl (caBy, 120, .inl (fun _ => 0)))]) [1, 2] rfl
      have hKc := hK.sub (tys' := [(caBy, .int)]) [0] rfl
      have hDc := hD.sub (ws' := [(aTa, .inr (7, [.int 0, .int 0, .ref aBy])), (aBy, .inl (caBy, 120, .inl (fun _ => 0)))]) [1, 2] (by decide) rfl
      have hFc := va_free (wc := [(aTa, .inr (7, [.int 0, .int 0, .ref aBy])), (aBy, .inl (caBy, 120, .inl (fun _ => 0)))]) hD hS hA [1, 2] rfl
      refine va_callv (va_runV (As := [.long w, .int 8]) (rest := []) ⟨hx, hb, hml, hown, hts⟩ (k_X7_append_8 l dC dI H.size aTa w aBy caBy) (cwV 2 hts gX9_feed_X7_append rfl rfl rfl (by decide +kernel) ⟨(Nat.le_of_ble_eq_true rfl), (Nat.le_of_ble_eq_true rfl)⟩) ⟨fun a U g mk q => by obtain ⟨q0, q1, qP, qK, qD⟩ := q; exact ⟨q0, q1, qP, va_K.moved (u := U) (U := U.calling g mk a) (Vm.Alike.refl U.vm) qK, qD⟩, va_recv hKc hPc (ci := 7) (q0 := 0) rfl rfl, fun U hU hW => ⟨rfl, by rw [hU], by rw [hU]; exact hPc, va_K.moved hW.alike hKc, hDc.weaken (fun _ _ _ _ => trivial)⟩⟩ rfl rfl hl.1 rfl (lv_room (Nat.le_of_ble_eq_true rfl)) dX9_feed_36 ⟨(Nat.le_of_ble_eq_true rfl), (Nat.le_of_ble_eq_true rfl)⟩) hS (fun q _ h => hFc q h) hFc (fun u t H1 locs ht hvm hw hB hz1 hk1 hS => ?_)
      refine W.widen (k := 0) (n := 0) (Nat.le_of_ble_eq_true rfl) (Nat.le_of_ble_eq_true rfl) ?_
      obtain ⟨hP1, hK1, hD1⟩ := hB
      rw [ht] at hP1
      have hK1 := va_K.moved hvm.symm hK1
      obtain ⟨hP, hD⟩ := va_join (wr := [(h0, .inr (9, [.ref aRo, .ref aCr, .int 0, .ref aBa, .ref aSe, .ref aTa, .ref aRu, .int 0, .ref aTl, .int 10, .ref aWa, .ref aCu, .ref aRa, .int 0, .ref aCo, .ref aFi]))]) (w1 := [(aTa, .inr (7, [.int 8, .int 0, .ref aBy]))]) hP hD [1, 2] [0] rfl rfl (by decide) (by decide) hk1 hFc hP1 hD1
      have hK := hK.app hK1
      generalize H1 = H at hP hS ⊢
      have hP : va_P (dC, dI) vwCl [(h0, .inr (9, [.ref aRo, .ref aCr, .int 0, .ref aBa, .ref aSe, .ref aTa, .ref aRu, .int 0, .ref aTl, .int 10, .ref aWa, .ref aCu, .ref aRa, .int 0, .ref aCo, .ref aFi])), (aTa, .inr (7, [.int 8, .int 0, .ref aBy]))] H := hP
      have hD : va_D A [(h0, .inr (9, [.ref aRo, .ref aCr, .int 0, .ref aBa, .ref aSe, .ref aTa, .ref aRu, .int 0, .ref aTl, .int 10, .ref aWa, .ref aCu, .ref aRa, .int 0, .ref aCo, .ref aFi])), (aTa, .inr (7, [.int 8, .int 0, .ref aBy]))] := hD
      have hK : va_K (dC, dI) vwCl [(caBy, .int)] s := hK
      refine lv_aload_n hx hb dX9_feed_39 rfl (lv_at hl 0 rfl) ?_
      refine va_get (D := (dC, dI)) (ci := 9) (v := .ref aTa) (C := RX9) (T := TX9) (N := 16) hx hb hts (fun _ h => List.mem_cons_of_mem _ (List.mem_append_left _ (List.mem_append_right _ h))) hown hK hP 0 rfl rfl 5 (by decide) (hts (.fieldLink RX9 45 "DrumBoats" "tape" "LDrumBoats$Tape;") (List.mem_of_getElem? (i := 1) rfl)) (fun _ h9 => h9) rfl dX9_feed_40 ?_
      refine va_get (D := (dC, dI)) (ci := 7) (v := .int 8) (C := RX7) (T := TX7) (N := 3) hx hb hts (fun _ h => List.mem_cons_of_mem _ (List.mem_append_right _ h)) hown hK hP 1 rfl rfl 0 (by decide) (hts (.fieldLink RX9 192 "DrumBoats$Tape" "size" "I") (List.mem_of_getElem? (i := 2) rfl)) (fun _ h9 => h9) rfl dX9_feed_43 ?_
      refine W.widen (k := 0) (n := 0) (Nat.le_of_ble_eq_true rfl) (Nat.le_of_ble_eq_true rfl) ?_
      exact W.iret (v := 8) hx hb hr (fun t ht hW => ⟨⟨8, (), rfl, (by first | rfl | decide | (unfold f_feed; (repeat' split) <;> first | rfl | omega)), trivial⟩, hS.F ht⟩) hS.2.2 dX9_feed_46
  · have e_1 : ¬ (1 ≤ p0.toInt ∧ p0.toInt ≤ 8) := e_1
    refine lv_if_ne (tgt := 13) hx hb dX9_feed_7 (by decide) (fun c9 => absurd c9 (by decide +kernel)) (fun _ => ?_)
    refine lv_bipush (v := (-2)) hx hb dX9_feed_10 (by decide +kernel) ?_
    refine W.widen (k := 0) (n := 0) (Nat.le_of_ble_eq_true rfl) (Nat.le_of_ble_eq_true rfl) ?_
    exact W.iret (v := (-2)) hx hb hr (fun t ht hW => ⟨⟨(-2), (), rfl, (by first | rfl | decide | (unfold f_feed; (repeat' split) <;> first | rfl | omega)), trivial⟩, hS.F ht⟩) hS.2.2 dX9_feed_12

set_option maxHeartbeats 4000000 in
set_option maxRecDepth 100000 in
theorem k_X10_feed (l : Launch) (dC : Nat → ClassId) (dI : Nat → Nat → Nat) (sz : Nat) (h0 : Nat) (w : Int64) (p0 : Int32) (m_weight : Nat) (m_strength : Nat) (m_arm : Nat) (m_sex : Nat) (m_age : Nat) (m_likes : Nat) (m_rows : Nat) (m_drummer : Nat) (m_members : Nat) (m_beat : Nat) (m_member : Nat) (m_seated : Nat) (m_isSeated : Nat) (m_tape : Nat) (m_rTests : Nat) (m_tField : Nat) (m_tSign : Nat) (m_tNumber : Nat) (m_tNot : Nat) (m_tOr : Nat) (m_minute : Nat) (m_round : Nat) (m_laneCrew : Nat) (m_laneTime : Nat) (m_gone : Nat) (m_struck : Nat) (m_wasRun : Nat) (m_wait : Nat) (m_current : Nat) (m_finals : Nat) (m_bestTime : Nat) (m_inFinal : Nat) (m_pick : Nat) (m_found : Nat) (m_fresh : Nat) (m_at : Nat) (cm_tape : ClassId) : Met l yX10_feed wsX10_feed ({ frames := 0, cells := 0, slots := 0, locals := 0 }) (va_Pc [.ref h0, .long w, .int p0] (fun U => U.heap.size = sz ∧ va_P (dC, dI) vwCl [(h0, .inr (10, [.int 0, .int 0, .int 0, .int 0, .int 0, .int 10, .int 0, .int 0, .ref m_weight, .ref m_strength, .ref m_arm, .ref m_sex, .ref m_age, .ref m_likes, .ref m_rows, .ref m_drummer, .ref m_members, .ref m_beat, .ref m_member, .ref m_seated, .ref m_isSeated, .ref m_tape, .ref m_rTests, .ref m_tField, .ref m_tSign, .ref m_tNumber, .ref m_tNot, .ref m_tOr, .ref m_minute, .ref m_round, .ref m_laneCrew, .ref m_laneTime, .ref m_gone, .ref m_struck, .ref m_wasRun, .ref m_wait, .ref m_current, .ref m_finals, .ref m_bestTime, .ref m_inFinal, .ref m_pick, .ref m_found, .ref m_fresh, .ref m_at, .long 0, .long 0, .int 0, .int 0])), (m_tape, .inl (cm_tape, 120, .inl (fun _ => 0)))] U.heap ∧ va_K (dC, dI) vwCl [(cm_tape, .int)] U ∧ va_D (fun _ => True) [(h0, .inr (10, [.int 0, .int 0, .int 0, .int 0, .int 0, .int 10, .int 0, .int 0, .ref m_weight, .ref m_strength, .ref m_arm, .ref m_sex, .ref m_age, .ref m_likes, .ref m_rows, .ref m_drummer, .ref m_members, .ref m_beat, .ref m_member, .ref m_seated, .ref m_isSeated, .ref m_tape, .ref m_rTests, .ref m_tField, .ref m_tSign, .ref m_tNumber, .ref m_tNot, .ref m_tOr, .ref m_minute, .ref m_round, .ref m_laneCrew, .ref m_laneTime, .ref m_gone, .ref m_struck, .ref m_wasRun, .ref m_wait, .ref m_current, .ref m_finals, .ref m_bestTime, .ref m_inFinal, .ref m_pick, .ref m_found, .ref m_fresh, .ref m_at, .long 0, .long 0, .int 0, .int 0])), (m_tape, .inl (cm_tape, 120, .inl (fun _ => 0)))])) (va_Qi (fun (r : Int32) (_ : Unit) => r = f_feed p0) (fun _ _ => True) (va_A [(h0, .inr (10, [.int 0, .int 0, .int 0, .int 0, .int 0, .int 10, .int 0, .int 0, .ref m_weight, .ref m_strength, .ref m_arm, .ref m_sex, .ref m_age, .ref m_likes, .ref m_rows, .ref m_drummer, .ref m_members, .ref m_beat, .ref m_member, .ref m_seated, .ref m_isSeated, .ref m_tape, .ref m_rTests, .ref m_tField, .ref m_tSign, .ref m_tNumber, .ref m_tNot, .ref m_tOr, .ref m_minute, .ref m_round, .ref m_laneCrew, .ref m_laneTime, .ref m_gone, .ref m_struck, .ref m_wasRun, .ref m_wait, .ref m_current, .ref m_finals, .ref m_bestTime, .ref m_inFinal, .ref m_pick, .ref m_found, .ref m_fresh, .ref m_at, .long 0, .long 0, .int 0, .int 0])), (m_tape, .inl (cm_tape, 120, .inl (fun _ => 0)))] sz)) 0 0 (va_A [(h0, .inr (10, [.int 0, .int 0, .int 0, .int 0, .int 0, .int 10, .int 0, .int 0, .ref m_weight, .ref m_strength, .ref m_arm, .ref m_sex, .ref m_age, .ref m_likes, .ref m_rows, .ref m_drummer, .ref m_members, .ref m_beat, .ref m_member, .ref m_seated, .ref m_isSeated, .ref m_tape, .ref m_rTests, .ref m_tField, .ref m_tSign, .ref m_tNumber, .ref m_tNot, .ref m_tOr, .ref m_minute, .ref m_round, .ref m_laneCrew, .ref m_laneTime, .ref m_gone, .ref m_struck, .ref m_wasRun, .ref m_wait, .ref m_current, .ref m_finals, .ref m_bestTime, .ref m_inFinal, .ref m_pick, .ref m_found, .ref m_fresh, .ref m_at, .long 0, .long 0, .int 0, .int 0])), (m_tape, .inl (cm_tape, 120, .inl (fun _ => 0)))] sz) := by
  refine Met.ofW (cc := cX10_feed) (maxL := 5) (ret := (some .int)) (by decide) rfl ?_
  intro p e s m args below meth c s₁ B hml hv
  obtain ⟨rfl, hsz, hP, hK, hD0⟩ := hv
  have hx := B.exec
  have hb := B.bytes
  have hr := B.returns
  have hts := atoms_spec (ws := wsX10_feed) B.pre
  have hown : s.vm.findClass RX10 = some m.cls := findClass_of_methodNamed B.named
  have hlocks := B.notSynchronized
  subst hsz
  have hD := hD0.self (sz := s.heap.size)
  generalize hAe : va_A [(h0, .inr (10, [.int 0, .int 0, .int 0, .int 0, .int 0, .int 10, .int 0, .int 0, .ref m_weight, .ref m_strength, .ref m_arm, .ref m_sex, .ref m_age, .ref m_likes, .ref m_rows, .ref m_drummer, .ref m_members, .ref m_beat, .ref m_member, .ref m_seated, .ref m_isSeated, .ref m_tape, .ref m_rTests, .ref m_tField, .ref m_tSign, .ref m_tNumber, .ref m_tNot, .ref m_tOr, .ref m_minute, .ref m_round, .ref m_laneCrew, .ref m_laneTime, .ref m_gone, .ref m_struck, .ref m_wasRun, .ref m_wait, .ref m_current, .ref m_finals, .ref m_bestTime, .ref m_inFinal, .ref m_pick, .ref m_found, .ref m_fresh, .ref m_at, .long 0, .long 0, .int 0, .int 0])), (m_tape, .inl (cm_tape, 120, .inl (fun _ => 0)))] s.heap.size = A at hD ⊢
  have hA : ∀ q : Nat, s.heap.size ≤ q → A q := fun q h => by rw [← hAe]; exact Or.inr h
  have hS : va_S A s.heap s.heap [] := va_S.rf
  have hl := lv_entry ([.ref h0, .long w, .int p0]) (n := 5) (Nat.le_of_ble_eq_true rfl)
  rw [lg_entry_eq]
  generalize (lg_sl ([.ref h0, .long w, .int p0]) ++ List.replicate (5 - (lg_sl ([.ref h0, .long w, .int p0])).length) Slot.unset).toArray = ls at hl ⊢
  have hl : lv_has ls 5 [(0, .ref h0), (1, .long w), (3, .int p0)] := hl
  refine lv_iload_n hx hb dX10_feed_0 rfl (lv_at hl 2 rfl) ?_
  refine lv_iconst (v := 1) hx hb dX10_feed_1 (by decide +kernel) ?_
  refine lv_icmp_lt (tgt := 11) hx hb dX10_feed_2 (by decide) (fun c_1 => ?_) (fun c_1 => ?_)
  · have c_1 : p0.toInt < 1 := Int32.lt_iff_toInt_lt.mp c_1
    refine lv_bipush (v := (-2)) hx hb dX10_feed_11 (by decide +kernel) ?_
    refine W.widen (k := 0) (n := 0) (Nat.le_of_ble_eq_true rfl) (Nat.le_of_ble_eq_true rfl) ?_
    exact W.iret (v := (-2)) hx hb hr (fun t ht hW => ⟨⟨(-2), (), rfl, (by first | rfl | decide | (unfold f_feed; (repeat' split) <;> first | rfl | omega)), trivial⟩, hS.F ht⟩) hS.2.2 dX10_feed_13
  · have c_1 : ¬ (p0.toInt < 1) := fun h => c_1 (Int32.lt_iff_toInt_lt.mpr h)
    refine lv_iload_n hx hb dX10_feed_5 rfl (lv_at hl 2 rfl) ?_
    refine lv_bipush (v := 8) hx hb dX10_feed_6 (by decide +kernel) ?_
    refine lv_icmp_le (tgt := 14) hx hb dX10_feed_8 (by decide) (fun c_2 => ?_) (fun c_2 => ?_)
    · have c_2 : p0.toInt ≤ 8 := Int32.le_iff_toInt_le.mp c_2
      rcases sw18 p0 (by omega) with rfl | rfl | rfl | rfl | rfl | rfl | rfl | rfl
      · refine lv_aload_n hx hb dX10_feed_14 rfl (lv_at hl 0 rfl) ?_
        refine va_get (D := (dC, dI)) (ci := 10) (v := .int 0) (C := RX10) (T := TX10) (N := 48) hx hb hts (fun _ h => List.mem_cons_of_mem _ (List.mem_append_right _ h)) hown hK hP 0 rfl rfl 4 (by decide) (hts (.fieldLink RX10 159 "DrumBoatsModel" "tapeN" "I") (List.mem_of_getElem? (i := 1) rfl)) (fun _ h9 => h9) rfl dX10_feed_15 ?_
        refine lv_iload_n hx hb dX10_feed_18 rfl (lv_at hl 2 rfl) ?_
        refine lv_iadd hx hb dX10_feed_19 ?_
        refine ti_eq (y := 1) (by decide +kernel) ?_
        refine lv_bipush (v := 120) hx hb dX10_feed_20 (by decide +kernel) ?_
        refine lv_icmp_le (tgt := 28) hx hb dX10_feed_22 (by decide) (fun _ => ?_) (fun c9 => absurd c9 (by decide +kernel))
        refine lv_iload_n hx hb dX10_feed_28 rfl (lv_at hl 2 rfl) ?_
        refine lv_iconst (v := 1) hx hb dX10_feed_29 (by decide +kernel) ?_
        refine lv_isub hx hb dX10_feed_30 ?_
        refine ti_eq (y := 0) (by decide +kernel) ?_
        refine lv_istore (lv' := [(4, .int 0), (0, .ref h0), (1, .long w), (3, .int 1)]) hx hb dX10_feed_31 hl (by decide) rfl (fun ls hl => ?_)
        refine lv_iload hx hb dX10_feed_33 (lv_at hl 0 rfl) ?_
        refine lv_if_lt (tgt := 72) hx hb dX10_feed_35 (by decide) (fun c9 => absurd c9 (by decide +kernel)) (fun _ => ?_)
        refine lv_aload_n hx hb dX10_feed_38 rfl (lv_at hl 1 rfl) ?_
        refine va_get (D := (dC, dI)) (ci := 10) (v := .ref m_tape) (C := RX10) (T := TX10) (N := 48) hx hb hts (fun _ h => List.mem_cons_of_mem _ (List.mem_append_right _ h)) hown hK hP 0 rfl rfl 21 (by decide) (hts (.fieldLink RX10 56 "DrumBoatsModel" "tape" "[I") (List.mem_of_getElem? (i := 2) rfl)) (fun _ h9 => h9) rfl dX10_feed_39 ?_
        refine lv_aload_n hx hb dX10_feed_42 rfl (lv_at hl 1 rfl) ?_
        refine lv_dup hx hb dX10_feed_43 rfl ?_
        refine va_get (D := (dC, dI)) (ci := 10) (v := .int 0) (C := RX10) (T := TX10) (N := 48) hx hb hts (fun _ h => List.mem_cons_of_mem _ (List.mem_append_right _ h)) hown hK hP 0 rfl rfl 4 (by decide) (hts (.fieldLink RX10 159 "DrumBoatsModel" "tapeN" "I") (List.mem_of_getElem? (i := 1) rfl)) (fun _ h9 => h9) rfl dX10_feed_44 ?_
        refine lv_dup_x1 hx hb dX10_feed_47 rfl rfl ?_
        refine lv_iconst (v := 1) hx hb dX10_feed_48 (by decide +kernel) ?_
        refine lv_iadd hx hb dX10_feed_49 ?_
        refine ti_eq (y := 1) (by decide +kernel) ?_
        refine va_put (D := (dC, dI)) (ci := 10) (v := .int 1) (ty := .int) (C := RX10) (T := TX10) (N := 48) hx hb hts (fun _ h => List.mem_cons_of_mem _ (List.mem_append_right _ h)) tyX10 tyX10_ok nmX10 hown hK hP hD hS 0 rfl rfl 4 (by decide) (hts (.fieldLink RX10 159 "DrumBoatsModel" "tapeN" "I") (List.mem_of_getElem? (i := 1) rfl)) (fun _ h9 => h9) rfl (by decide +kernel) rfl rfl (Nat.le_of_ble_eq_true rfl) dX10_feed_50 (fun H locs hP hD hS => ?_)
        have hP : va_P (dC, dI) vwCl [(h0, .inr (10, [.int 0, .int 0, .int 0, .int 0, .int 1, .int 10, .int 0, .int 0, .ref m_weight, .ref m_strength, .ref m_arm, .ref m_sex, .ref m_age, .ref m_likes, .ref m_rows, .ref m_drummer, .ref m_members, .ref m_beat, .ref m_member, .ref m_seated, .ref m_isSeated, .ref m_tape, .ref m_rTests, .ref m_tField, .ref m_tSign, .ref m_tNumber, .ref m_tNot, .ref m_tOr, .ref m_minute, .ref m_round, .ref m_laneCrew, .ref m_laneTime, .ref m_gone, .ref m_struck, .ref m_wasRun, .ref m_wait, .ref m_current, .ref m_finals, .ref m_bestTime, .ref m_inFinal, .ref m_pick, .ref m_found, .ref m_fresh, .ref m_at, .long 0, .long 0, .int 0, .int 0])), (m_tape, .inl (cm_tape, 120, .inl (fun _ => 0)))] H := hP
        have hD : va_D A [(h0, .inr (10, [.int 0, .int 0, .int 0, .int 0, .int 1, .int 10, .int 0, .int 0, .ref m_weight, .ref m_strength, .ref m_arm, .ref m_sex, .ref m_age, .ref m_likes, .ref m_rows, .ref m_drummer, .ref m_members, .ref m_beat, .ref m_member, .ref m_seated, .ref m_isSeated, .ref m_tape, .ref m_rTests, .ref m_tField, .ref m_tSign, .ref m_tNumber, .ref m_tNot, .ref m_tOr, .ref m_minute, .ref m_round, .ref m_laneCrew, .ref m_laneTime, .ref m_gone, .ref m_struck, .ref m_wasRun, .ref m_wait, .ref m_current, .ref m_finals, .ref m_bestTime, .ref m_inFinal, .ref m_pick, .ref m_found, .ref m_fresh, .ref m_at, .long 0, .long 0, .int 0, .int 0])), (m_tape, .inl (cm_tape, 120, .inl (fun _ => 0)))] := hD
        refine lv_lload_n hx hb dX10_feed_53 rfl (lv_at hl 2 rfl) ?_
        refine lv_bipush (v := 8) hx hb dX10_feed_54 (by decide +kernel) ?_
        refine lv_iload hx hb dX10_feed_56 (lv_at hl 0 rfl) ?_
        refine lv_imul hx hb dX10_feed_58 ?_
        refine ti_eq (y := 0) (by decide +kernel) ?_
        refine lv_lshr hx hb dX10_feed_59 rfl ?_
        refine lv_topl (fun z3 _ => ?_)
        refine lv_ldc2 (v := 255) hx hb hown (hts (.constantLong RX10 162 (255)) (List.mem_of_getElem? (i := 3) rfl)) dX10_feed_60 ?_
        refine lv_land hx hb dX10_feed_63 ?_
        refine lv_topl (fun z4 _ => ?_)
        refine lv_l2i hx hb dX10_feed_64 rfl ?_
        refine lv_topi (fun z5 _ => ?_)
        refine va_iast hx hb hK hP hD hS 1 0 rfl rfl (by unfold vp_in; decide +kernel) dX10_feed_65 (fun H locs hP hD hS => ?_)
        have hP : va_P (dC, dI) vwCl [(h0, .inr (10, [.int 0, .int 0, .int 0, .int 0, .int 1, .int 10, .int 0, .int 0, .ref m_weight, .ref m_strength, .ref m_arm, .ref m_sex, .ref m_age, .ref m_likes, .ref m_rows, .ref m_drummer, .ref m_members, .ref m_beat, .ref m_member, .ref m_seated, .ref m_isSeated, .ref m_tape, .ref m_rTests, .ref m_tField, .ref m_tSign, .ref m_tNumber, .ref m_tNot, .ref m_tOr, .ref m_minute, .ref m_round, .ref m_laneCrew, .ref m_laneTime, .ref m_gone, .ref m_struck, .ref m_wasRun, .ref m_wait, .ref m_current, .ref m_finals, .ref m_bestTime, .ref m_inFinal, .ref m_pick, .ref m_found, .ref m_fresh, .ref m_at, .long 0, .long 0, .int 0, .int 0])), (m_tape, .inl (cm_tape, 120, .inl (upd (fun _ => 0) (0 : Int32).toNatClampNeg z5)))] H := hP
        have hD : va_D A [(h0, .inr (10, [.int 0, .int 0, .int 0, .int 0, .int 1, .int 10, .int 0, .int 0, .ref m_weight, .ref m_strength, .ref m_arm, .ref m_sex, .ref m_age, .ref m_likes, .ref m_rows, .ref m_drummer, .ref m_members, .ref m_beat, .ref m_member, .ref m_seated, .ref m_isSeated, .ref m_tape, .ref m_rTests, .ref m_tField, .ref m_tSign, .ref m_tNumber, .ref m_tNot, .ref m_tOr, .ref m_minute, .ref m_round, .ref m_laneCrew, .ref m_laneTime, .ref m_gone, .ref m_struck, .ref m_wasRun, .ref m_wait, .ref m_current, .ref m_finals, .ref m_bestTime, .ref m_inFinal, .ref m_pick, .ref m_found, .ref m_fresh, .ref m_at, .long 0, .long 0, .int 0, .int 0])), (m_tape, .inl (cm_tape, 120, .inl (upd (fun _ => 0) (0 : Int32).toNatClampNeg z5)))] := hD
        refine lv_iinc (v := (-1)) (lv' := [(4, .int (-1)), (0, .ref h0), (1, .long w), (3, .int 1)]) hx hb dX10_feed_66 hl (k := 0) rfl (by decide +kernel) (by decide) rfl (fun ls hl => ?_)
        refine lv_goto (tgt := 33) hx hb dX10_feed_69 (by decide) ?_
        refine lv_iload hx hb dX10_feed_33 (lv_at hl 0 rfl) ?_
        refine lv_if_lt (tgt := 72) hx hb dX10_feed_35 (by decide) (fun _ => ?_) (fun c9 => absurd c9 (by decide +kernel))
        refine lv_aload_n hx hb dX10_feed_72 rfl (lv_at hl 1 rfl) ?_
        refine va_get (D := (dC, dI)) (ci := 10) (v := .int 1) (C := RX10) (T := TX10) (N := 48) hx hb hts (fun _ h => List.mem_cons_of_mem _ (List.mem_append_right _ h)) hown hK hP 0 rfl rfl 4 (by decide) (hts (.fieldLink RX10 159 "DrumBoatsModel" "tapeN" "I") (List.mem_of_getElem? (i := 1) rfl)) (fun _ h9 => h9) rfl dX10_feed_73 ?_
        refine W.widen (k := 0) (n := 0) (Nat.le_of_ble_eq_true rfl) (Nat.le_of_ble_eq_true rfl) ?_
        exact W.iret (v := 1) hx hb hr (fun t ht hW => ⟨⟨1, (), rfl, (by first | rfl | decide | (unfold f_feed; (repeat' split) <;> first | rfl | omega)), trivial⟩, hS.F ht⟩) hS.2.2 dX10_feed_76
      · refine lv_aload_n hx hb dX10_feed_14 rfl (lv_at hl 0 rfl) ?_
        refine va_get (D := (dC, dI)) (ci := 10) (v := .int 0) (C := RX10) (T := TX10) (N := 48) hx hb hts (fun _ h => List.mem_cons_of_mem _ (List.mem_append_right _ h)) hown hK hP 0 rfl rfl 4 (by decide) (hts (.fieldLink RX10 159 "DrumBoatsModel" "tapeN" "I") (List.mem_of_getElem? (i := 1) rfl)) (fun _ h9 => h9) rfl dX10_feed_15 ?_
        refine lv_iload_n hx hb dX10_feed_18 rfl (lv_at hl 2 rfl) ?_
        refine lv_iadd hx hb dX10_feed_19 ?_
        refine ti_eq (y := 2) (by decide +kernel) ?_
        refine lv_bipush (v := 120) hx hb dX10_feed_20 (by decide +kernel) ?_
        refine lv_icmp_le (tgt := 28) hx hb dX10_feed_22 (by decide) (fun _ => ?_) (fun c9 => absurd c9 (by decide +kernel))
        refine lv_iload_n hx hb dX10_feed_28 rfl (lv_at hl 2 rfl) ?_
        refine lv_iconst (v := 1) hx hb dX10_feed_29 (by decide +kernel) ?_
        refine lv_isub hx hb dX10_feed_30 ?_
        refine ti_eq (y := 1) (by decide +kernel) ?_
        refine lv_istore (lv' := [(4, .int 1), (0, .ref h0), (1, .long w), (3, .int 2)]) hx hb dX10_feed_31 hl (by decide) rfl (fun ls hl => ?_)
        refine lv_iload hx hb dX10_feed_33 (lv_at hl 0 rfl) ?_
        refine lv_if_lt (tgt := 72) hx hb dX10_feed_35 (by decide) (fun c9 => absurd c9 (by decide +kernel)) (fun _ => ?_)
        refine lv_aload_n hx hb dX10_feed_38 rfl (lv_at hl 1 rfl) ?_
        refine va_get (D := (dC, dI)) (ci := 10) (v := .ref m_tape) (C := RX10) (T := TX10) (N := 48) hx hb hts (fun _ h => List.mem_cons_of_mem _ (List.mem_append_right _ h)) hown hK hP 0 rfl rfl 21 (by decide) (hts (.fieldLink RX10 56 "DrumBoatsModel" "tape" "[I") (List.mem_of_getElem? (i := 2) rfl)) (fun _ h9 => h9) rfl dX10_feed_39 ?_
        refine lv_aload_n hx hb dX10_feed_42 rfl (lv_at hl 1 rfl) ?_
        refine lv_dup hx hb dX10_feed_43 rfl ?_
        refine va_get (D := (dC, dI)) (ci := 10) (v := .int 0) (C := RX10) (T := TX10) (N := 48) hx hb hts (fun _ h => List.mem_cons_of_mem _ (List.mem_append_right _ h)) hown hK hP 0 rfl rfl 4 (by decide) (hts (.fieldLink RX10 159 "DrumBoatsModel" "tapeN" "I") (List.mem_of_getElem? (i := 1) rfl)) (fun _ h9 => h9) rfl dX10_feed_44 ?_
        refine lv_dup_x1 hx hb dX10_feed_47 rfl rfl ?_
        refine lv_iconst (v := 1) hx hb dX10_feed_48 (by decide +kernel) ?_
        refine lv_iadd hx hb dX10_feed_49 ?_
        refine ti_eq (y := 1) (by decide +kernel) ?_
        refine va_put (D := (dC, dI)) (ci := 10) (v := .int 1) (ty := .int) (C := RX10) (T := TX10) (N := 48) hx hb hts (fun _ h => List.mem_cons_of_mem _ (List.mem_append_right _ h)) tyX10 tyX10_ok nmX10 hown hK hP hD hS 0 rfl rfl 4 (by decide) (hts (.fieldLink RX10 159 "DrumBoatsModel" "tapeN" "I") (List.mem_of_getElem? (i := 1) rfl)) (fun _ h9 => h9) rfl (by decide +kernel) rfl rfl (Nat.le_of_ble_eq_true rfl) dX10_feed_50 (fun H locs hP hD hS => ?_)
        have hP : va_P (dC, dI) vwCl [(h0, .inr (10, [.int 0, .int 0, .int 0, .int 0, .int 1, .int 10, .int 0, .int 0, .ref m_weight, .ref m_strength, .ref m_arm, .ref m_sex, .ref m_age, .ref m_likes, .ref m_rows, .ref m_drummer, .ref m_members, .ref m_beat, .ref m_member, .ref m_seated, .ref m_isSeated, .ref m_tape, .ref m_rTests, .ref m_tField, .ref m_tSign, .ref m_tNumber, .ref m_tNot, .ref m_tOr, .ref m_minute, .ref m_round, .ref m_laneCrew, .ref m_laneTime, .ref m_gone, .ref m_struck, .ref m_wasRun, .ref m_wait, .ref m_current, .ref m_finals, .ref m_bestTime, .ref m_inFinal, .ref m_pick, .ref m_found, .ref m_fresh, .ref m_at, .long 0, .long 0, .int 0, .int 0])), (m_tape, .inl (cm_tape, 120, .inl (fun _ => 0)))] H := hP
        have hD : va_D A [(h0, .inr (10, [.int 0, .int 0, .int 0, .int 0, .int 1, .int 10, .int 0, .int 0, .ref m_weight, .ref m_strength, .ref m_arm, .ref m_sex, .ref m_age, .ref m_likes, .ref m_rows, .ref m_drummer, .ref m_members, .ref m_beat, .ref m_member, .ref m_seated, .ref m_isSeated, .ref m_tape, .ref m_rTests, .ref m_tField, .ref m_tSign, .ref m_tNumber, .ref m_tNot, .ref m_tOr, .ref m_minute, .ref m_round, .ref m_laneCrew, .ref m_laneTime, .ref m_gone, .ref m_struck, .ref m_wasRun, .ref m_wait, .ref m_current, .ref m_finals, .ref m_bestTime, .ref m_inFinal, .ref m_pick, .ref m_found, .ref m_fresh, .ref m_at, .long 0, .long 0, .int 0, .int 0])), (m_tape, .inl (cm_tape, 120, .inl (fun _ => 0)))] := hD
        refine lv_lload_n hx hb dX10_feed_53 rfl (lv_at hl 2 rfl) ?_
        refine lv_bipush (v := 8) hx hb dX10_feed_54 (by decide +kernel) ?_
        refine lv_iload hx hb dX10_feed_56 (lv_at hl 0 rfl) ?_
        refine lv_imul hx hb dX10_feed_58 ?_
        refine ti_eq (y := 8) (by decide +kernel) ?_
        refine lv_lshr hx hb dX10_feed_59 rfl ?_
        refine lv_topl (fun z6 _ => ?_)
        refine lv_ldc2 (v := 255) hx hb hown (hts (.constantLong RX10 162 (255)) (List.mem_of_getElem? (i := 3) rfl)) dX10_feed_60 ?_
        refine lv_land hx hb dX10_feed_63 ?_
        refine lv_topl (fun z7 _ => ?_)
        refine lv_l2i hx hb dX10_feed_64 rfl ?_
        refine lv_topi (fun z8 _ => ?_)
        refine va_iast hx hb hK hP hD hS 1 0 rfl rfl (by unfold vp_in; decide +kernel) dX10_feed_65 (fun H locs hP hD hS => ?_)
        have hP : va_P (dC, dI) vwCl [(h0, .inr (10, [.int 0, .int 0, .int 0, .int 0, .int 1, .int 10, .int 0, .int 0, .ref m_weight, .ref m_strength, .ref m_arm, .ref m_sex, .ref m_age, .ref m_likes, .ref m_rows, .ref m_drummer, .ref m_members, .ref m_beat, .ref m_member, .ref m_seated, .ref m_isSeated, .ref m_tape, .ref m_rTests, .ref m_tField, .ref m_tSign, .ref m_tNumber, .ref m_tNot, .ref m_tOr, .ref m_minute, .ref m_round, .ref m_laneCrew, .ref m_laneTime, .ref m_gone, .ref m_struck, .ref m_wasRun, .ref m_wait, .ref m_current, .ref m_finals, .ref m_bestTime, .ref m_inFinal, .ref m_pick, .ref m_found, .ref m_fresh, .ref m_at, .long 0, .long 0, .int 0, .int 0])), (m_tape, .inl (cm_tape, 120, .inl (upd (fun _ => 0) (0 : Int32).toNatClampNeg z8)))] H := hP
        have hD : va_D A [(h0, .inr (10, [.int 0, .int 0, .int 0, .int 0, .int 1, .int 10, .int 0, .int 0, .ref m_weight, .ref m_strength, .ref m_arm, .ref m_sex, .ref m_age, .ref m_likes, .ref m_rows, .ref m_drummer, .ref m_members, .ref m_beat, .ref m_member, .ref m_seated, .ref m_isSeated, .ref m_tape, .ref m_rTests, .ref m_tField, .ref m_tSign, .ref m_tNumber, .ref m_tNot, .ref m_tOr, .ref m_minute, .ref m_round, .ref m_laneCrew, .ref m_laneTime, .ref m_gone, .ref m_struck, .ref m_wasRun, .ref m_wait, .ref m_current, .ref m_finals, .ref m_bestTime, .ref m_inFinal, .ref m_pick, .ref m_found, .ref m_fresh, .ref m_at, .long 0, .long 0, .int 0, .int 0])), (m_tape, .inl (cm_tape, 120, .inl (upd (fun _ => 0) (0 : Int32).toNatClampNeg z8)))] := hD
        refine lv_iinc (v := 0) (lv' := [(4, .int 0), (0, .ref h0), (1, .long w), (3, .int 2)]) hx hb dX10_feed_66 hl (k := 0) rfl (by decide +kernel) (by decide) rfl (fun ls hl => ?_)
        refine lv_goto (tgt := 33) hx hb dX10_feed_69 (by decide) ?_
        refine lv_iload hx hb dX10_feed_33 (lv_at hl 0 rfl) ?_
        refine lv_if_lt (tgt := 72) hx hb dX10_feed_35 (by decide) (fun c9 => absurd c9 (by decide +kernel)) (fun _ => ?_)
        refine lv_aload_n hx hb dX10_feed_38 rfl (lv_at hl 1 rfl) ?_
        refine va_get (D := (dC, dI)) (ci := 10) (v := .ref m_tape) (C := RX10) (T := TX10) (N := 48) hx hb hts (fun _ h => List.mem_cons_of_mem _ (List.mem_append_right _ h)) hown hK hP 0 rfl rfl 21 (by decide) (hts (.fieldLink RX10 56 "DrumBoatsModel" "tape" "[I") (List.mem_of_getElem? (i := 2) rfl)) (fun _ h9 => h9) rfl dX10_feed_39 ?_
        refine lv_aload_n hx hb dX10_feed_42 rfl (lv_at hl 1 rfl) ?_
        refine lv_dup hx hb dX10_feed_43 rfl ?_
        refine va_get (D := (dC, dI)) (ci := 10) (v := .int 1) (C := RX10) (T := TX10) (N := 48) hx hb hts (fun _ h => List.mem_cons_of_mem _ (List.mem_append_right _ h)) hown hK hP 0 rfl rfl 4 (by decide) (hts (.fieldLink RX10 159 "DrumBoatsModel" "tapeN" "I") (List.mem_of_getElem? (i := 1) rfl)) (fun _ h9 => h9) rfl dX10_feed_44 ?_
        refine lv_dup_x1 hx hb dX10_feed_47 rfl rfl ?_
        refine lv_iconst (v := 1) hx hb dX10_feed_48 (by decide +kernel) ?_
        refine lv_iadd hx hb dX10_feed_49 ?_
        refine ti_eq (y := 2) (by decide +kernel) ?_
        refine va_put (D := (dC, dI)) (ci := 10) (v := .int 2) (ty := .int) (C := RX10) (T := TX10) (N := 48) hx hb hts (fun _ h => List.mem_cons_of_mem _ (List.mem_append_right _ h)) tyX10 tyX10_ok nmX10 hown hK hP hD hS 0 rfl rfl 4 (by decide) (hts (.fieldLink RX10 159 "DrumBoatsModel" "tapeN" "I") (List.mem_of_getElem? (i := 1) rfl)) (fun _ h9 => h9) rfl (by decide +kernel) rfl rfl (Nat.le_of_ble_eq_true rfl) dX10_feed_50 (fun H locs hP hD hS => ?_)
        have hP : va_P (dC, dI) vwCl [(h0, .inr (10, [.int 0, .int 0, .int 0, .int 0, .int 2, .int 10, .int 0, .int 0, .ref m_weight, .ref m_strength, .ref m_arm, .ref m_sex, .ref m_age, .ref m_likes, .ref m_rows, .ref m_drummer, .ref m_members, .ref m_beat, .ref m_member, .ref m_seated, .ref m_isSeated, .ref m_tape, .ref m_rTests, .ref m_tField, .ref m_tSign, .ref m_tNumber, .ref m_tNot, .ref m_tOr, .ref m_minute, .ref m_round, .ref m_laneCrew, .ref m_laneTime, .ref m_gone, .ref m_struck, .ref m_wasRun, .ref m_wait, .ref m_current, .ref m_finals, .ref m_bestTime, .ref m_inFinal, .ref m_pick, .ref m_found, .ref m_fresh, .ref m_at, .long 0, .long 0, .int 0, .int 0])), (m_tape, .inl (cm_tape, 120, .inl (upd (fun _ => 0) (0 : Int32).toNatClampNeg z8)))] H := hP
        have hD : va_D A [(h0, .inr (10, [.int 0, .int 0, .int 0, .int 0, .int 2, .int 10, .int 0, .int 0, .ref m_weight, .ref m_strength, .ref m_arm, .ref m_sex, .ref m_age, .ref m_likes, .ref m_rows, .ref m_drummer, .ref m_members, .ref m_beat, .ref m_member, .ref m_seated, .ref m_isSeated, .ref m_tape, .ref m_rTests, .ref m_tField, .ref m_tSign, .ref m_tNumber, .ref m_tNot, .ref m_tOr, .ref m_minute, .ref m_round, .ref m_laneCrew, .ref m_laneTime, .ref m_gone, .ref m_struck, .ref m_wasRun, .ref m_wait, .ref m_current, .ref m_finals, .ref m_bestTime, .ref m_inFinal, .ref m_pick, .ref m_found, .ref m_fresh, .ref m_at, .long 0, .long 0, .int 0, .int 0])), (m_tape, .inl (cm_tape, 120, .inl (upd (fun _ => 0) (0 : Int32).toNatClampNeg z8)))] := hD
        refine lv_lload_n hx hb dX10_feed_53 rfl (lv_at hl 2 rfl) ?_
        refine lv_bipush (v := 8) hx hb dX10_feed_54 (by decide +kernel) ?_
        refine lv_iload hx hb dX10_feed_56 (lv_at hl 0 rfl) ?_
        refine lv_imul hx hb dX10_feed_58 ?_
        refine ti_eq (y := 0) (by decide +kernel) ?_
        refine lv_lshr hx hb dX10_feed_59 rfl ?_
        refine lv_topl (fun z9 _ => ?_)
        refine lv_ldc2 (v := 255) hx hb hown (hts (.constantLong RX10 162 (255)) (List.mem_of_getElem? (i := 3) rfl)) dX10_feed_60 ?_
        refine lv_land hx hb dX10_feed_63 ?_
        refine lv_topl (fun z10 _ => ?_)
        refine lv_l2i hx hb dX10_feed_64 rfl ?_
        refine lv_topi (fun z11 _ => ?_)
        refine va_iast hx hb hK hP hD hS 1 0 rfl rfl (by unfold vp_in; decide +kernel) dX10_feed_65 (fun H locs hP hD hS => ?_)
        have hP : va_P (dC, dI) vwCl [(h0, .inr (10, [.int 0, .int 0, .int 0, .int 0, .int 2, .int 10, .int 0, .int 0, .ref m_weight, .ref m_strength, .ref m_arm, .ref m_sex, .ref m_age, .ref m_likes, .ref m_rows, .ref m_drummer, .ref m_members, .ref m_beat, .ref m_member, .ref m_seated, .ref m_isSeated, .ref m_tape, .ref m_rTests, .ref m_tField, .ref m_tSign, .ref m_tNumber, .ref m_tNot, .ref m_tOr, .ref m_minute, .ref m_round, .ref m_laneCrew, .ref m_laneTime, .ref m_gone, .ref m_struck, .ref m_wasRun, .ref m_wait, .ref m_current, .ref m_finals, .ref m_bestTime, .ref m_inFinal, .ref m_pick, .ref m_found, .ref m_fresh, .ref m_at, .long 0, .long 0, .int 0, .int 0])), (m_tape, .inl (cm_tape, 120, .inl (upd (upd (fun _ => 0) (0 : Int32).toNatClampNeg z8) (1 : Int32).toNatClampNeg z11)))] H := hP
        have hD : va_D A [(h0, .inr (10, [.int 0, .int 0, .int 0, .int 0, .int 2, .int 10, .int 0, .int 0, .ref m_weight, .ref m_strength, .ref m_arm, .ref m_sex, .ref m_age, .ref m_likes, .ref m_rows, .ref m_drummer, .ref m_members, .ref m_beat, .ref m_member, .ref m_seated, .ref m_isSeated, .ref m_tape, .ref m_rTests, .ref m_tField, .ref m_tSign, .ref m_tNumber, .ref m_tNot, .ref m_tOr, .ref m_minute, .ref m_round, .ref m_laneCrew, .ref m_laneTime, .ref m_gone, .ref m_struck, .ref m_wasRun, .ref m_wait, .ref m_current, .ref m_finals, .ref m_bestTime, .ref m_inFinal, .ref m_pick, .ref m_found, .ref m_fresh, .ref m_at, .long 0, .long 0, .int 0, .int 0])), (m_tape, .inl (cm_tape, 120, .inl (upd (upd (fun _ => 0) (0 : Int32).toNatClampNeg z8) (1 : Int32).toNatClampNeg z11)))] := hD
        refine lv_iinc (v := (-1)) (lv' := [(4, .int (-1)), (0, .ref h0), (1, .long w), (3, .int 2)]) hx hb dX10_feed_66 hl (k := 0) rfl (by decide +kernel) (by decide) rfl (fun ls hl => ?_)
        refine lv_goto (tgt := 33) hx hb dX10_feed_69 (by decide) ?_
        refine lv_iload hx hb dX10_feed_33 (lv_at hl 0 rfl) ?_
        refine lv_if_lt (tgt := 72) hx hb dX10_feed_35 (by decide) (fun _ => ?_) (fun c9 => absurd c9 (by decide +kernel))
        refine lv_aload_n hx hb dX10_feed_72 rfl (lv_at hl 1 rfl) ?_
        refine va_get (D := (dC, dI)) (ci := 10) (v := .int 2) (C := RX10) (T := TX10) (N := 48) hx hb hts (fun _ h => List.mem_cons_of_mem _ (List.mem_append_right _ h)) hown hK hP 0 rfl rfl 4 (by decide) (hts (.fieldLink RX10 159 "DrumBoatsModel" "tapeN" "I") (List.mem_of_getElem? (i := 1) rfl)) (fun _ h9 => h9) rfl dX10_feed_73 ?_
        refine W.widen (k := 0) (n := 0) (Nat.le_of_ble_eq_true rfl) (Nat.le_of_ble_eq_true rfl) ?_
        exact W.iret (v := 2) hx hb hr (fun t ht hW => ⟨⟨2, (), rfl, (by first | rfl | decide | (unfold f_feed; (repeat' split) <;> first | rfl | omega)), trivial⟩, hS.F ht⟩) hS.2.2 dX10_feed_76
      · refine lv_aload_n hx hb dX10_feed_14 rfl (lv_at hl 0 rfl) ?_
        refine va_get (D := (dC, dI)) (ci := 10) (v := .int 0) (C := RX10) (T := TX10) (N := 48) hx hb hts (fun _ h => List.mem_cons_of_mem _ (List.mem_append_right _ h)) hown hK hP 0 rfl rfl 4 (by decide) (hts (.fieldLink RX10 159 "DrumBoatsModel" "tapeN" "I") (List.mem_of_getElem? (i := 1) rfl)) (fun _ h9 => h9) rfl dX10_feed_15 ?_
        refine lv_iload_n hx hb dX10_feed_18 rfl (lv_at hl 2 rfl) ?_
        refine lv_iadd hx hb dX10_feed_19 ?_
        refine ti_eq (y := 3) (by decide +kernel) ?_
        refine lv_bipush (v := 120) hx hb dX10_feed_20 (by decide +kernel) ?_
        refine lv_icmp_le (tgt := 28) hx hb dX10_feed_22 (by decide) (fun _ => ?_) (fun c9 => absurd c9 (by decide +kernel))
        refine lv_iload_n hx hb dX10_feed_28 rfl (lv_at hl 2 rfl) ?_
        refine lv_iconst (v := 1) hx hb dX10_feed_29 (by decide +kernel) ?_
        refine lv_isub hx hb dX10_feed_30 ?_
        refine ti_eq (y := 2) (by decide +kernel) ?_
        refine lv_istore (lv' := [(4, .int 2), (0, .ref h0), (1, .long w), (3, .int 3)]) hx hb dX10_feed_31 hl (by decide) rfl (fun ls hl => ?_)
        refine lv_iload hx hb dX10_feed_33 (lv_at hl 0 rfl) ?_
        refine lv_if_lt (tgt := 72) hx hb dX10_feed_35 (by decide) (fun c9 => absurd c9 (by decide +kernel)) (fun _ => ?_)
        refine lv_aload_n hx hb dX10_feed_38 rfl (lv_at hl 1 rfl) ?_
        refine va_get (D := (dC, dI)) (ci := 10) (v := .ref m_tape) (C := RX10) (T := TX10) (N := 48) hx hb hts (fun _ h => List.mem_cons_of_mem _ (List.mem_append_right _ h)) hown hK hP 0 rfl rfl 21 (by decide) (hts (.fieldLink RX10 56 "DrumBoatsModel" "tape" "[I") (List.mem_of_getElem? (i := 2) rfl)) (fun _ h9 => h9) rfl dX10_feed_39 ?_
        refine lv_aload_n hx hb dX10_feed_42 rfl (lv_at hl 1 rfl) ?_
        refine lv_dup hx hb dX10_feed_43 rfl ?_
        refine va_get (D := (dC, dI)) (ci := 10) (v := .int 0) (C := RX10) (T := TX10) (N := 48) hx hb hts (fun _ h => List.mem_cons_of_mem _ (List.mem_append_right _ h)) hown hK hP 0 rfl rfl 4 (by decide) (hts (.fieldLink RX10 159 "DrumBoatsModel" "tapeN" "I") (List.mem_of_getElem? (i := 1) rfl)) (fun _ h9 => h9) rfl dX10_feed_44 ?_
        refine lv_dup_x1 hx hb dX10_feed_47 rfl rfl ?_
        refine lv_iconst (v := 1) hx hb dX10_feed_48 (by decide +kernel) ?_
        refine lv_iadd hx hb dX10_feed_49 ?_
        refine ti_eq (y := 1) (by decide +kernel) ?_
        refine va_put (D := (dC, dI)) (ci := 10) (v := .int 1) (ty := .int) (C := RX10) (T := TX10) (N := 48) hx hb hts (fun _ h => List.mem_cons_of_mem _ (List.mem_append_right _ h)) tyX10 tyX10_ok nmX10 hown hK hP hD hS 0 rfl rfl 4 (by decide) (hts (.fieldLink RX10 159 "DrumBoatsModel" "tapeN" "I") (List.mem_of_getElem? (i := 1) rfl)) (fun _ h9 => h9) rfl (by decide +kernel) rfl rfl (Nat.le_of_ble_eq_true rfl) dX10_feed_50 (fun H locs hP hD hS => ?_)
        have hP : va_P (dC, dI) vwCl [(h0, .inr (10, [.int 0, .int 0, .int 0, .int 0, .int 1, .int 10, .int 0, .int 0, .ref m_weight, .ref m_strength, .ref m_arm, .ref m_sex, .ref m_age, .ref m_likes, .ref m_rows, .ref m_drummer, .ref m_members, .ref m_beat, .ref m_member, .ref m_seated, .ref m_isSeated, .ref m_tape, .ref m_rTests, .ref m_tField, .ref m_tSign, .ref m_tNumber, .ref m_tNot, .ref m_tOr, .ref m_minute, .ref m_round, .ref m_laneCrew, .ref m_laneTime, .ref m_gone, .ref m_struck, .ref m_wasRun, .ref m_wait, .ref m_current, .ref m_finals, .ref m_bestTime, .ref m_inFinal, .ref m_pick, .ref m_found, .ref m_fresh, .ref m_at, .long 0, .long 0, .int 0, .int 0])), (m_tape, .inl (cm_tape, 120, .inl (fun _ => 0)))] H := hP
        have hD : va_D A [(h0, .inr (10, [.int 0, .int 0, .int 0, .int 0, .int 1, .int 10, .int 0, .int 0, .ref m_weight, .ref m_strength, .ref m_arm, .ref m_sex, .ref m_age, .ref m_likes, .ref m_rows, .ref m_drummer, .ref m_members, .ref m_beat, .ref m_member, .ref m_seated, .ref m_isSeated, .ref m_tape, .ref m_rTests, .ref m_tField, .ref m_tSign, .ref m_tNumber, .ref m_tNot, .ref m_tOr, .ref m_minute, .ref m_round, .ref m_laneCrew, .ref m_laneTime, .ref m_gone, .ref m_struck, .ref m_wasRun, .ref m_wait, .ref m_current, .ref m_finals, .ref m_bestTime, .ref m_inFinal, .ref m_pick, .ref m_found, .ref m_fresh, .ref m_at, .long 0, .long 0, .int 0, .int 0])), (m_tape, .inl (cm_tape, 120, .inl (fun _ => 0)))] := hD
        refine lv_lload_n hx hb dX10_feed_53 rfl (lv_at hl 2 rfl) ?_
        refine lv_bipush (v := 8) hx hb dX10_feed_54 (by decide +kernel) ?_
        refine lv_iload hx hb dX10_feed_56 (lv_at hl 0 rfl) ?_
        refine lv_imul hx hb dX10_feed_58 ?_
        refine ti_eq (y := 16) (by decide +kernel) ?_
        refine lv_lshr hx hb dX10_feed_59 rfl ?_
        refine lv_topl (fun z12 _ => ?_)
        refine lv_ldc2 (v := 255) hx hb hown (hts (.constantLong RX10 162 (255)) (List.mem_of_getElem? (i := 3) rfl)) dX10_feed_60 ?_
        refine lv_land hx hb dX10_feed_63 ?_
        refine lv_topl (fun z13 _ => ?_)
        refine lv_l2i hx hb dX10_feed_64 rfl ?_
        refine lv_topi (fun z14 _ => ?_)
        refine va_iast hx hb hK hP hD hS 1 0 rfl rfl (by unfold vp_in; decide +kernel) dX10_feed_65 (fun H locs hP hD hS => ?_)
        have hP : va_P (dC, dI) vwCl [(h0, .inr (10, [.int 0, .int 0, .int 0, .int 0, .int 1, .int 10, .int 0, .int 0, .ref m_weight, .ref m_strength, .ref m_arm, .ref m_sex, .ref m_age, .ref m_likes, .ref m_rows, .ref m_drummer, .ref m_members, .ref m_beat, .ref m_member, .ref m_seated, .ref m_isSeated, .ref m_tape, .ref m_rTests, .ref m_tField, .ref m_tSign, .ref m_tNumber, .ref m_tNot, .ref m_tOr, .ref m_minute, .ref m_round, .ref m_laneCrew, .ref m_laneTime, .ref m_gone, .ref m_struck, .ref m_wasRun, .ref m_wait, .ref m_current, .ref m_finals, .ref m_bestTime, .ref m_inFinal, .ref m_pick, .ref m_found, .ref m_fresh, .ref m_at, .long 0, .long 0, .int 0, .int 0])), (m_tape, .inl (cm_tape, 120, .inl (upd (fun _ => 0) (0 : Int32).toNatClampNeg z14)))] H := hP
        have hD : va_D A [(h0, .inr (10, [.int 0, .int 0, .int 0, .int 0, .int 1, .int 10, .int 0, .int 0, .ref m_weight, .ref m_strength, .ref m_arm, .ref m_sex, .ref m_age, .ref m_likes, .ref m_rows, .ref m_drummer, .ref m_members, .ref m_beat, .ref m_member, .ref m_seated, .ref m_isSeated, .ref m_tape, .ref m_rTests, .ref m_tField, .ref m_tSign, .ref m_tNumber, .ref m_tNot, .ref m_tOr, .ref m_minute, .ref m_round, .ref m_laneCrew, .ref m_laneTime, .ref m_gone, .ref m_struck, .ref m_wasRun, .ref m_wait, .ref m_current, .ref m_finals, .ref m_bestTime, .ref m_inFinal, .ref m_pick, .ref m_found, .ref m_fresh, .ref m_at, .long 0, .long 0, .int 0, .int 0])), (m_tape, .inl (cm_tape, 120, .inl (upd (fun _ => 0) (0 : Int32).toNatClampNeg z14)))] := hD
        refine lv_iinc (v := 1) (lv' := [(4, .int 1), (0, .ref h0), (1, .long w), (3, .int 3)]) hx hb dX10_feed_66 hl (k := 0) rfl (by decide +kernel) (by decide) rfl (fun ls hl => ?_)
        refine lv_goto (tgt := 33) hx hb dX10_feed_69 (by decide) ?_
        refine lv_iload hx hb dX10_feed_33 (lv_at hl 0 rfl) ?_
        refine lv_if_lt (tgt := 72) hx hb dX10_feed_35 (by decide) (fun c9 => absurd c9 (by decide +kernel)) (fun _ => ?_)
        refine lv_aload_n hx hb dX10_feed_38 rfl (lv_at hl 1 rfl) ?_
        refine va_get (D := (dC, dI)) (ci := 10) (v := .ref m_tape) (C := RX10) (T := TX10) (N := 48) hx hb hts (fun _ h => List.mem_cons_of_mem _ (List.mem_append_right _ h)) hown hK hP 0 rfl rfl 21 (by decide) (hts (.fieldLink RX10 56 "DrumBoatsModel" "tape" "[I") (List.mem_of_getElem? (i := 2) rfl)) (fun _ h9 => h9) rfl dX10_feed_39 ?_
        refine lv_aload_n hx hb dX10_feed_42 rfl (lv_at hl 1 rfl) ?_
        refine lv_dup hx hb dX10_feed_43 rfl ?_
        refine va_get (D := (dC, dI)) (ci := 10) (v := .int 1) (C := RX10) (T := TX10) (N := 48) hx hb hts (fun _ h => List.mem_cons_of_mem _ (List.mem_append_right _ h)) hown hK hP 0 rfl rfl 4 (by decide) (hts (.fieldLink RX10 159 "DrumBoatsModel" "tapeN" "I") (List.mem_of_getElem? (i := 1) rfl)) (fun _ h9 => h9) rfl dX10_feed_44 ?_
        refine lv_dup_x1 hx hb dX10_feed_47 rfl rfl ?_
        refine lv_iconst (v := 1) hx hb dX10_feed_48 (by decide +kernel) ?_
        refine lv_iadd hx hb dX10_feed_49 ?_
        refine ti_eq (y := 2) (by decide +kernel) ?_
        refine va_put (D := (dC, dI)) (ci := 10) (v := .int 2) (ty := .int) (C := RX10) (T := TX10) (N := 48) hx hb hts (fun _ h => List.mem_cons_of_mem _ (List.mem_append_right _ h)) tyX10 tyX10_ok nmX10 hown hK hP hD hS 0 rfl rfl 4 (by decide) (hts (.fieldLink RX10 159 "DrumBoatsModel" "tapeN" "I") (List.mem_of_getElem? (i := 1) rfl)) (fun _ h9 => h9) rfl (by decide +kernel) rfl rfl (Nat.le_of_ble_eq_true rfl) dX10_feed_50 (fun H locs hP hD hS => ?_)
        have hP : va_P (dC, dI) vwCl [(h0, .inr (10, [.int 0, .int 0, .int 0, .int 0, .int 2, .int 10, .int 0, .int 0, .ref m_weight, .ref m_strength, .ref m_arm, .ref m_sex, .ref m_age, .ref m_likes, .ref m_rows, .ref m_drummer, .ref m_members, .ref m_beat, .ref m_member, .ref m_seated, .ref m_isSeated, .ref m_tape, .ref m_rTests, .ref m_tField, .ref m_tSign, .ref m_tNumber, .ref m_tNot, .ref m_tOr, .ref m_minute, .ref m_round, .ref m_laneCrew, .ref m_laneTime, .ref m_gone, .ref m_struck, .ref m_wasRun, .ref m_wait, .ref m_current, .ref m_finals, .ref m_bestTime, .ref m_inFinal, .ref m_pick, .ref m_found, .ref m_fresh, .ref m_at, .long 0, .long 0, .int 0, .int 0])), (m_tape, .inl (cm_tape, 120, .inl (upd (fun _ => 0) (0 : Int32).toNatClampNeg z14)))] H := hP
        have hD : va_D A [(h0, .inr (10, [.int 0, .int 0, .int 0, .int 0, .int 2, .int 10, .int 0, .int 0, .ref m_weight, .ref m_strength, .ref m_arm, .ref m_sex, .ref m_age, .ref m_likes, .ref m_rows, .ref m_drummer, .ref m_members, .ref m_beat, .ref m_member, .ref m_seated, .ref m_isSeated, .ref m_tape, .ref m_rTests, .ref m_tField, .ref m_tSign, .ref m_tNumber, .ref m_tNot, .ref m_tOr, .ref m_minute, .ref m_round, .ref m_laneCrew, .ref m_laneTime, .ref m_gone, .ref m_struck, .ref m_wasRun, .ref m_wait, .ref m_current, .ref m_finals, .ref m_bestTime, .ref m_inFinal, .ref m_pick, .ref m_found, .ref m_fresh, .ref m_at, .long 0, .long 0, .int 0, .int 0])), (m_tape, .inl (cm_tape, 120, .inl (upd (fun _ => 0) (0 : Int32).toNatClampNeg z14)))] := hD
        refine lv_lload_n hx hb dX10_feed_53 rfl (lv_at hl 2 rfl) ?_
        refine lv_bipush (v := 8) hx hb dX10_feed_54 (by decide +kernel) ?_
        refine lv_iload hx hb dX10_feed_56 (lv_at hl 0 rfl) ?_
        refine lv_imul hx hb dX10_feed_58 ?_
        refine ti_eq (y := 8) (by decide +kernel) ?_
        refine lv_lshr hx hb dX10_feed_59 rfl ?_
        refine lv_topl (fun z15 _ => ?_)
        refine lv_ldc2 (v := 255) hx hb hown (hts (.constantLong RX10 162 (255)) (List.mem_of_getElem? (i := 3) rfl)) dX10_feed_60 ?_
        refine lv_land hx hb dX10_feed_63 ?_
        refine lv_topl (fun z16 _ => ?_)
        refine lv_l2i hx hb dX10_feed_64 rfl ?_
        refine lv_topi (fun z17 _ => ?_)
        refine va_iast hx hb hK hP hD hS 1 0 rfl rfl (by unfold vp_in; decide +kernel) dX10_feed_65 (fun H locs hP hD hS => ?_)
        have hP : va_P (dC, dI) vwCl [(h0, .inr (10, [.int 0, .int 0, .int 0, .int 0, .int 2, .int 10, .int 0, .int 0, .ref m_weight, .ref m_strength, .ref m_arm, .ref m_sex, .ref m_age, .ref m_likes, .ref m_rows, .ref m_drummer, .ref m_members, .ref m_beat, .ref m_member, .ref m_seated, .ref m_isSeated, .ref m_tape, .ref m_rTests, .ref m_tField, .ref m_tSign, .ref m_tNumber, .ref m_tNot, .ref m_tOr, .ref m_minute, .ref m_round, .ref m_laneCrew, .ref m_laneTime, .ref m_gone, .ref m_struck, .ref m_wasRun, .ref m_wait, .ref m_current, .ref m_finals, .ref m_bestTime, .ref m_inFinal, .ref m_pick, .ref m_found, .ref m_fresh, .ref m_at, .long 0, .long 0, .int 0, .int 0])), (m_tape, .inl (cm_tape, 120, .inl (upd (upd (fun _ => 0) (0 : Int32).toNatClampNeg z14) (1 : Int32).toNatClampNeg z17)))] H := hP
        have hD : va_D A [(h0, .inr (10, [.int 0, .int 0, .int 0, .int 0, .int 2, .int 10, .int 0, .int 0, .ref m_weight, .ref m_strength, .ref m_arm, .ref m_sex, .ref m_age, .ref m_likes, .ref m_rows, .ref m_drummer, .ref m_members, .ref m_beat, .ref m_member, .ref m_seated, .ref m_isSeated, .ref m_tape, .ref m_rTests, .ref m_tField, .ref m_tSign, .ref m_tNumber, .ref m_tNot, .ref m_tOr, .ref m_minute, .ref m_round, .ref m_laneCrew, .ref m_laneTime, .ref m_gone, .ref m_struck, .ref m_wasRun, .ref m_wait, .ref m_current, .ref m_finals, .ref m_bestTime, .ref m_inFinal, .ref m_pick, .ref m_found, .ref m_fresh, .ref m_at, .long 0, .long 0, .int 0, .int 0])), (m_tape, .inl (cm_tape, 120, .inl (upd (upd (fun _ => 0) (0 : Int32).toNatClampNeg z14) (1 : Int32).toNatClampNeg z17)))] := hD
        refine lv_iinc (v := 0) (lv' := [(4, .int 0), (0, .ref h0), (1, .long w), (3, .int 3)]) hx hb dX10_feed_66 hl (k := 0) rfl (by decide +kernel) (by decide) rfl (fun ls hl => ?_)
        refine lv_goto (tgt := 33) hx hb dX10_feed_69 (by decide) ?_
        refine lv_iload hx hb dX10_feed_33 (lv_at hl 0 rfl) ?_
        refine lv_if_lt (tgt := 72) hx hb dX10_feed_35 (by decide) (fun c9 => absurd c9 (by decide +kernel)) (fun _ => ?_)
        refine lv_aload_n hx hb dX10_feed_38 rfl (lv_at hl 1 rfl) ?_
        refine va_get (D := (dC, dI)) (ci := 10) (v := .ref m_tape) (C := RX10) (T := TX10) (N := 48) hx hb hts (fun _ h => List.mem_cons_of_mem _ (List.mem_append_right _ h)) hown hK hP 0 rfl rfl 21 (by decide) (hts (.fieldLink RX10 56 "DrumBoatsModel" "tape" "[I") (List.mem_of_getElem? (i := 2) rfl)) (fun _ h9 => h9) rfl dX10_feed_39 ?_
        refine lv_aload_n hx hb dX10_feed_42 rfl (lv_at hl 1 rfl) ?_
        refine lv_dup hx hb dX10_feed_43 rfl ?_
        refine va_get (D := (dC, dI)) (ci := 10) (v := .int 2) (C := RX10) (T := TX10) (N := 48) hx hb hts (fun _ h => List.mem_cons_of_mem _ (List.mem_append_right _ h)) hown hK hP 0 rfl rfl 4 (by decide) (hts (.fieldLink RX10 159 "DrumBoatsModel" "tapeN" "I") (List.mem_of_getElem? (i := 1) rfl)) (fun _ h9 => h9) rfl dX10_feed_44 ?_
        refine lv_dup_x1 hx hb dX10_feed_47 rfl rfl ?_
        refine lv_iconst (v := 1) hx hb dX10_feed_48 (by decide +kernel) ?_
        refine lv_iadd hx hb dX10_feed_49 ?_
        refine ti_eq (y := 3) (by decide +kernel) ?_
        refine va_put (D := (dC, dI)) (ci := 10) (v := .int 3) (ty := .int) (C := RX10) (T := TX10) (N := 48) hx hb hts (fun _ h => List.mem_cons_of_mem _ (List.mem_append_right _ h)) tyX10 tyX10_ok nmX10 hown hK hP hD hS 0 rfl rfl 4 (by decide) (hts (.fieldLink RX10 159 "DrumBoatsModel" "tapeN" "I") (List.mem_of_getElem? (i := 1) rfl)) (fun _ h9 => h9) rfl (by decide +kernel) rfl rfl (Nat.le_of_ble_eq_true rfl) dX10_feed_50 (fun H locs hP hD hS => ?_)
        have hP : va_P (dC, dI) vwCl [(h0, .inr (10, [.int 0, .int 0, .int 0, .int 0, .int 3, .int 10, .int 0, .int 0, .ref m_weight, .ref m_strength, .ref m_arm, .ref m_sex, .ref m_age, .ref m_likes, .ref m_rows, .ref m_drummer, .ref m_members, .ref m_beat, .ref m_member, .ref m_seated, .ref m_isSeated, .ref m_tape, .ref m_rTests, .ref m_tField, .ref m_tSign, .ref m_tNumber, .ref m_tNot, .ref m_tOr, .ref m_minute, .ref m_round, .ref m_laneCrew, .ref m_laneTime, .ref m_gone, .ref m_struck, .ref m_wasRun, .ref m_wait, .ref m_current, .ref m_finals, .ref m_bestTime, .ref m_inFinal, .ref m_pick, .ref m_found, .ref m_fresh, .ref m_at, .long 0, .long 0, .int 0, .int 0])), (m_tape, .inl (cm_tape, 120, .inl (upd (upd (fun _ => 0) (0 : Int32).toNatClampNeg z14) (1 : Int32).toNatClampNeg z17)))] H := hP
        have hD : va_D A [(h0, .inr (10, [.int 0, .int 0, .int 0, .int 0, .int 3, .int 10, .int 0, .int 0, .ref m_weight, .ref m_strength, .ref m_arm, .ref m_sex, .ref m_age, .ref m_likes, .ref m_rows, .ref m_drummer, .ref m_members, .ref m_beat, .ref m_member, .ref m_seated, .ref m_isSeated, .ref m_tape, .ref m_rTests, .ref m_tField, .ref m_tSign, .ref m_tNumber, .ref m_tNot, .ref m_tOr, .ref m_minute, .ref m_round, .ref m_laneCrew, .ref m_laneTime, .ref m_gone, .ref m_struck, .ref m_wasRun, .ref m_wait, .ref m_current, .ref m_finals, .ref m_bestTime, .ref m_inFinal, .ref m_pick, .ref m_found, .ref m_fresh, .ref m_at, .long 0, .long 0, .int 0, .int 0])), (m_tape, .inl (cm_tape, 120, .inl (upd (upd (fun _ => 0) (0 : Int32).toNatClampNeg z14) (1 : Int32).toNatClampNeg z17)))] := hD
        refine lv_lload_n hx hb dX10_feed_53 rfl (lv_at hl 2 rfl) ?_
        refine lv_bipush (v := 8) hx hb dX10_feed_54 (by decide +kernel) ?_
        refine lv_iload hx hb dX10_feed_56 (lv_at hl 0 rfl) ?_
        refine lv_imul hx hb dX10_feed_58 ?_
        refine ti_eq (y := 0) (by decide +kernel) ?_
        refine lv_lshr hx hb dX10_feed_59 rfl ?_
        refine lv_topl (fun z18 _ => ?_)
        refine lv_ldc2 (v := 255) hx hb hown (hts (.constantLong RX10 162 (255)) (List.mem_of_getElem? (i := 3) rfl)) dX10_feed_60 ?_
        refine lv_land hx hb dX10_feed_63 ?_
        refine lv_topl (fun z19 _ => ?_)
        refine lv_l2i hx hb dX10_feed_64 rfl ?_
        refine lv_topi (fun z20 _ => ?_)
        refine va_iast hx hb hK hP hD hS 1 0 rfl rfl (by unfold vp_in; decide +kernel) dX10_feed_65 (fun H locs hP hD hS => ?_)
        have hP : va_P (dC, dI) vwCl [(h0, .inr (10, [.int 0, .int 0, .int 0, .int 0, .int 3, .int 10, .int 0, .int 0, .ref m_weight, .ref m_strength, .ref m_arm, .ref m_sex, .ref m_age, .ref m_likes, .ref m_rows, .ref m_drummer, .ref m_members, .ref m_beat, .ref m_member, .ref m_seated, .ref m_isSeated, .ref m_tape, .ref m_rTests, .ref m_tField, .ref m_tSign, .ref m_tNumber, .ref m_tNot, .ref m_tOr, .ref m_minute, .ref m_round, .ref m_laneCrew, .ref m_laneTime, .ref m_gone, .ref m_struck, .ref m_wasRun, .ref m_wait, .ref m_current, .ref m_finals, .ref m_bestTime, .ref m_inFinal, .ref m_pick, .ref m_found, .ref m_fresh, .ref m_at, .long 0, .long 0, .int 0, .int 0])), (m_tape, .inl (cm_tape, 120, .inl (upd (upd (upd (fun _ => 0) (0 : Int32).toNatClampNeg z14) (1 : Int32).toNatClampNeg z17) (2 : Int32).toNatClampNeg z20)))] H := hP
        have hD : va_D A [(h0, .inr (10, [.int 0, .int 0, .int 0, .int 0, .int 3, .int 10, .int 0, .int 0, .ref m_weight, .ref m_strength, .ref m_arm, .ref m_sex, .ref m_age, .ref m_likes, .ref m_rows, .ref m_drummer, .ref m_members, .ref m_beat, .ref m_member, .ref m_seated, .ref m_isSeated, .ref m_tape, .ref m_rTests, .ref m_tField, .ref m_tSign, .ref m_tNumber, .ref m_tNot, .ref m_tOr, .ref m_minute, .ref m_round, .ref m_laneCrew, .ref m_laneTime, .ref m_gone, .ref m_struck, .ref m_wasRun, .ref m_wait, .ref m_current, .ref m_finals, .ref m_bestTime, .ref m_inFinal, .ref m_pick, .ref m_found, .ref m_fresh, .ref m_at, .long 0, .long 0, .int 0, .int 0])), (m_tape, .inl (cm_tape, 120, .inl (upd (upd (upd (fun _ => 0) (0 : Int32).toNatClampNeg z14) (1 : Int32).toNatClampNeg z17) (2 : Int32).toNatClampNeg z20)))] := hD
        refine lv_iinc (v := (-1)) (lv' := [(4, .int (-1)), (0, .ref h0), (1, .long w), (3, .int 3)]) hx hb dX10_feed_66 hl (k := 0) rfl (by decide +kernel) (by decide) rfl (fun ls hl => ?_)
        refine lv_goto (tgt := 33) hx hb dX10_feed_69 (by decide) ?_
        refine lv_iload hx hb dX10_feed_33 (lv_at hl 0 rfl) ?_
        refine lv_if_lt (tgt := 72) hx hb dX10_feed_35 (by decide) (fun _ => ?_) (fun c9 => absurd c9 (by decide +kernel))
        refine lv_aload_n hx hb dX10_feed_72 rfl (lv_at hl 1 rfl) ?_
        refine va_get (D := (dC, dI)) (ci := 10) (v := .int 3) (C := RX10) (T := TX10) (N := 48) hx hb hts (fun _ h => List.mem_cons_of_mem _ (List.mem_append_right _ h)) hown hK hP 0 rfl rfl 4 (by decide) (hts (.fieldLink RX10 159 "DrumBoatsModel" "tapeN" "I") (List.mem_of_getElem? (i := 1) rfl)) (fun _ h9 => h9) rfl dX10_feed_73 ?_
        refine W.widen (k := 0) (n := 0) (Nat.le_of_ble_eq_true rfl) (Nat.le_of_ble_eq_true rfl) ?_
        exact W.iret (v := 3) hx hb hr (fun t ht hW => ⟨⟨3, (), rfl, (by first | rfl | decide | (unfold f_feed; (repeat' split) <;> first | rfl | omega)), trivial⟩, hS.F ht⟩) hS.2.2 dX10_feed_76
      · refine lv_aload_n hx hb dX10_feed_14 rfl (lv_at hl 0 rfl) ?_
        refine va_get (D := (dC, dI)) (ci := 10) (v := .int 0) (C := RX10) (T := TX10) (N := 48) hx hb hts (fun _ h => List.mem_cons_of_mem _ (List.mem_append_right _ h)) hown hK hP 0 rfl rfl 4 (by decide) (hts (.fieldLink RX10 159 "DrumBoatsModel" "tapeN" "I") (List.mem_of_getElem? (i := 1) rfl)) (fun _ h9 => h9) rfl dX10_feed_15 ?_
        refine lv_iload_n hx hb dX10_feed_18 rfl (lv_at hl 2 rfl) ?_
        refine lv_iadd hx hb dX10_feed_19 ?_
        refine ti_eq (y := 4) (by decide +kernel) ?_
        refine lv_bipush (v := 120) hx hb dX10_feed_20 (by decide +kernel) ?_
        refine lv_icmp_le (tgt := 28) hx hb dX10_feed_22 (by decide) (fun _ => ?_) (fun c9 => absurd c9 (by decide +kernel))
        refine lv_iload_n hx hb dX10_feed_28 rfl (lv_at hl 2 rfl) ?_
        refine lv_iconst (v := 1) hx hb dX10_feed_29 (by decide +kernel) ?_
        refine lv_isub hx hb dX10_feed_30 ?_
        refine ti_eq (y := 3) (by decide +kernel) ?_
        refine lv_istore (lv' := [(4, .int 3), (0, .ref h0), (1, .long w), (3, .int 4)]) hx hb dX10_feed_31 hl (by decide) rfl (fun ls hl => ?_)
        refine lv_iload hx hb dX10_feed_33 (lv_at hl 0 rfl) ?_
        refine lv_if_lt (tgt := 72) hx hb dX10_feed_35 (by decide) (fun c9 => absurd c9 (by decide +kernel)) (fun _ => ?_)
        refine lv_aload_n hx hb dX10_feed_38 rfl (lv_at hl 1 rfl) ?_
        refine va_get (D := (dC, dI)) (ci := 10) (v := .ref m_tape) (C := RX10) (T := TX10) (N := 48) hx hb hts (fun _ h => List.mem_cons_of_mem _ (List.mem_append_right _ h)) hown hK hP 0 rfl rfl 21 (by decide) (hts (.fieldLink RX10 56 "DrumBoatsModel" "tape" "[I") (List.mem_of_getElem? (i := 2) rfl)) (fun _ h9 => h9) rfl dX10_feed_39 ?_
        refine lv_aload_n hx hb dX10_feed_42 rfl (lv_at hl 1 rfl) ?_
        refine lv_dup hx hb dX10_feed_43 rfl ?_
        refine va_get (D := (dC, dI)) (ci := 10) (v := .int 0) (C := RX10) (T := TX10) (N := 48) hx hb hts (fun _ h => List.mem_cons_of_mem _ (List.mem_append_right _ h)) hown hK hP 0 rfl rfl 4 (by decide) (hts (.fieldLink RX10 159 "DrumBoatsModel" "tapeN" "I") (List.mem_of_getElem? (i := 1) rfl)) (fun _ h9 => h9) rfl dX10_feed_44 ?_
        refine lv_dup_x1 hx hb dX10_feed_47 rfl rfl ?_
        refine lv_iconst (v := 1) hx hb dX10_feed_48 (by decide +kernel) ?_
        refine lv_iadd hx hb dX10_feed_49 ?_
        refine ti_eq (y := 1) (by decide +kernel) ?_
        refine va_put (D := (dC, dI)) (ci := 10) (v := .int 1) (ty := .int) (C := RX10) (T := TX10) (N := 48) hx hb hts (fun _ h => List.mem_cons_of_mem _ (List.mem_append_right _ h)) tyX10 tyX10_ok nmX10 hown hK hP hD hS 0 rfl rfl 4 (by decide) (hts (.fieldLink RX10 159 "DrumBoatsModel" "tapeN" "I") (List.mem_of_getElem? (i := 1) rfl)) (fun _ h9 => h9) rfl (by decide +kernel) rfl rfl (Nat.le_of_ble_eq_true rfl) dX10_feed_50 (fun H locs hP hD hS => ?_)
        have hP : va_P (dC, dI) vwCl [(h0, .inr (10, [.int 0, .int 0, .int 0, .int 0, .int 1, .int 10, .int 0, .int 0, .ref m_weight, .ref m_strength, .ref m_arm, .ref m_sex, .ref m_age, .ref m_likes, .ref m_rows, .ref m_drummer, .ref m_members, .ref m_beat, .ref m_member, .ref m_seated, .ref m_isSeated, .ref m_tape, .ref m_rTests, .ref m_tField, .ref m_tSign, .ref m_tNumber, .ref m_tNot, .ref m_tOr, .ref m_minute, .ref m_round, .ref m_laneCrew, .ref m_laneTime, .ref m_gone, .ref m_struck, .ref m_wasRun, .ref m_wait, .ref m_current, .ref m_finals, .ref m_bestTime, .ref m_inFinal, .ref m_pick, .ref m_found, .ref m_fresh, .ref m_at, .long 0, .long 0, .int 0, .int 0])), (m_tape, .inl (cm_tape, 120, .inl (fun _ => 0)))] H := hP
        have hD : va_D A [(h0, .inr (10, [.int 0, .int 0, .int 0, .int 0, .int 1, .int 10, .int 0, .int 0, .ref m_weight, .ref m_strength, .ref m_arm, .ref m_sex, .ref m_age, .ref m_likes, .ref m_rows, .ref m_drummer, .ref m_members, .ref m_beat, .ref m_member, .ref m_seated, .ref m_isSeated, .ref m_tape, .ref m_rTests, .ref m_tField, .ref m_tSign, .ref m_tNumber, .ref m_tNot, .ref m_tOr, .ref m_minute, .ref m_round, .ref m_laneCrew, .ref m_laneTime, .ref m_gone, .ref m_struck, .ref m_wasRun, .ref m_wait, .ref m_current, .ref m_finals, .ref m_bestTime, .ref m_inFinal, .ref m_pick, .ref m_found, .ref m_fresh, .ref m_at, .long 0, .long 0, .int 0, .int 0])), (m_tape, .inl (cm_tape, 120, .inl (fun _ => 0)))] := hD
        refine lv_lload_n hx hb dX10_feed_53 rfl (lv_at hl 2 rfl) ?_
        refine lv_bipush (v := 8) hx hb dX10_feed_54 (by decide +kernel) ?_
        refine lv_iload hx hb dX10_feed_56 (lv_at hl 0 rfl) ?_
        refine lv_imul hx hb dX10_feed_58 ?_
        refine ti_eq (y := 24) (by decide +kernel) ?_
        refine lv_lshr hx hb dX10_feed_59 rfl ?_
        refine lv_topl (fun z21 _ => ?_)
        refine lv_ldc2 (v := 255) hx hb hown (hts (.constantLong RX10 162 (255)) (List.mem_of_getElem? (i := 3) rfl)) dX10_feed_60 ?_
        refine lv_land hx hb dX10_feed_63 ?_
        refine lv_topl (fun z22 _ => ?_)
        refine lv_l2i hx hb dX10_feed_64 rfl ?_
        refine lv_topi (fun z23 _ => ?_)
        refine va_iast hx hb hK hP hD hS 1 0 rfl rfl (by unfold vp_in; decide +kernel) dX10_feed_65 (fun H locs hP hD hS => ?_)
        have hP : va_P (dC, dI) vwCl [(h0, .inr (10, [.int 0, .int 0, .int 0, .int 0, .int 1, .int 10, .int 0, .int 0, .ref m_weight, .ref m_strength, .ref m_arm, .ref m_sex, .ref m_age, .ref m_likes, .ref m_rows, .ref m_drummer, .ref m_members, .ref m_beat, .ref m_member, .ref m_seated, .ref m_isSeated, .ref m_tape, .ref m_rTests, .ref m_tField, .ref m_tSign, .ref m_tNumber, .ref m_tNot, .ref m_tOr, .ref m_minute, .ref m_round, .ref m_laneCrew, .ref m_laneTime, .ref m_gone, .ref m_struck, .ref m_wasRun, .ref m_wait, .ref m_current, .ref m_finals, .ref m_bestTime, .ref m_inFinal, .ref m_pick, .ref m_found, .ref m_fresh, .ref m_at, .long 0, .long 0, .int 0, .int 0])), (m_tape, .inl (cm_tape, 120, .inl (upd (fun _ => 0) (0 : Int32).toNatClampNeg z23)))] H := hP
        have hD : va_D A [(h0, .inr (10, [.int 0, .int 0, .int 0, .int 0, .int 1, .int 10, .int 0, .int 0, .ref m_weight, .ref m_strength, .ref m_arm, .ref m_sex, .ref m_age, .ref m_likes, .ref m_rows, .ref m_drummer, .ref m_members, .ref m_beat, .ref m_member, .ref m_seated, .ref m_isSeated, .ref m_tape, .ref m_rTests, .ref m_tField, .ref m_tSign, .ref m_tNumber, .ref m_tNot, .ref m_tOr, .ref m_minute, .ref m_round, .ref m_laneCrew, .ref m_laneTime, .ref m_gone, .ref m_struck, .ref m_wasRun, .ref m_wait, .ref m_current, .ref m_finals, .ref m_bestTime, .ref m_inFinal, .ref m_pick, .ref m_found, .ref m_fresh, .ref m_at, .long 0, .long 0, .int 0, .int 0])), (m_tape, .inl (cm_tape, 120, .inl (upd (fun _ => 0) (0 : Int32).toNatClampNeg z23)))] := hD
        refine lv_iinc (v := 2) (lv' := [(4, .int 2), (0, .ref h0), (1, .long w), (3, .int 4)]) hx hb dX10_feed_66 hl (k := 0) rfl (by decide +kernel) (by decide) rfl (fun ls hl => ?_)
        refine lv_goto (tgt := 33) hx hb dX10_feed_69 (by decide) ?_
        refine lv_iload hx hb dX10_feed_33 (lv_at hl 0 rfl) ?_
        refine lv_if_lt (tgt := 72) hx hb dX10_feed_35 (by decide) (fun c9 => absurd c9 (by decide +kernel)) (fun _ => ?_)
        refine lv_aload_n hx hb dX10_feed_38 rfl (lv_at hl 1 rfl) ?_
        refine va_get (D := (dC, dI)) (ci := 10) (v := .ref m_tape) (C := RX10) (T := TX10) (N := 48) hx hb hts (fun _ h => List.mem_cons_of_mem _ (List.mem_append_right _ h)) hown hK hP 0 rfl rfl 21 (by decide) (hts (.fieldLink RX10 56 "DrumBoatsModel" "tape" "[I") (List.mem_of_getElem? (i := 2) rfl)) (fun _ h9 => h9) rfl dX10_feed_39 ?_
        refine lv_aload_n hx hb dX10_feed_42 rfl (lv_at hl 1 rfl) ?_
        refine lv_dup hx hb dX10_feed_43 rfl ?_
        refine va_get (D := (dC, dI)) (ci := 10) (v := .int 1) (C := RX10) (T := TX10) (N := 48) hx hb hts (fun _ h => List.mem_cons_of_mem _ (List.mem_append_right _ h)) hown hK hP 0 rfl rfl 4 (by decide) (hts (.fieldLink RX10 159 "DrumBoatsModel" "tapeN" "I") (List.mem_of_getElem? (i := 1) rfl)) (fun _ h9 => h9) rfl dX10_feed_44 ?_
        refine lv_dup_x1 hx hb dX10_feed_47 rfl rfl ?_
        refine lv_iconst (v := 1) hx hb dX10_feed_48 (by decide +kernel) ?_
        refine lv_iadd hx hb dX10_feed_49 ?_
        refine ti_eq (y := 2) (by decide +kernel) ?_
        refine va_put (D := (dC, dI)) (ci := 10) (v := .int 2) (ty := .int) (C := RX10) (T := TX10) (N := 48) hx hb hts (fun _ h => List.mem_cons_of_mem _ (List.mem_append_right _ h)) tyX10 tyX10_ok nmX10 hown hK hP hD hS 0 rfl rfl 4 (by decide) (hts (.fieldLink RX10 159 "DrumBoatsModel" "tapeN" "I") (List.mem_of_getElem? (i := 1) rfl)) (fun _ h9 => h9) rfl (by decide +kernel) rfl rfl (Nat.le_of_ble_eq_true rfl) dX10_feed_50 (fun H locs hP hD hS => ?_)
        have hP : va_P (dC, dI) vwCl [(h0, .inr (10, [.int 0, .int 0, .int 0, .int 0, .int 2, .int 10, .int 0, .int 0, .ref m_weight, .ref m_strength, .ref m_arm, .ref m_sex, .ref m_age, .ref m_likes, .ref m_rows, .ref m_drummer, .ref m_members, .ref m_beat, .ref m_member, .ref m_seated, .ref m_isSeated, .ref m_tape, .ref m_rTests, .ref m_tField, .ref m_tSign, .ref m_tNumber, .ref m_tNot, .ref m_tOr, .ref m_minute, .ref m_round, .ref m_laneCrew, .ref m_laneTime, .ref m_gone, .ref m_struck, .ref m_wasRun, .ref m_wait, .ref m_current, .ref m_finals, .ref m_bestTime, .ref m_inFinal, .ref m_pick, .ref m_found, .ref m_fresh, .ref m_at, .long 0, .long 0, .int 0, .int 0])), (m_tape, .inl (cm_tape, 120, .inl (upd (fun _ => 0) (0 : Int32).toNatClampNeg z23)))] H := hP
        have hD : va_D A [(h0, .inr (10, [.int 0, .int 0, .int 0, .int 0, .int 2, .int 10, .int 0, .int 0, .ref m_weight, .ref m_strength, .ref m_arm, .ref m_sex, .ref m_age, .ref m_likes, .ref m_rows, .ref m_drummer, .ref m_members, .ref m_beat, .ref m_member, .ref m_seated, .ref m_isSeated, .ref m_tape, .ref m_rTests, .ref m_tField, .ref m_tSign, .ref m_tNumber, .ref m_tNot, .ref m_tOr, .ref m_minute, .ref m_round, .ref m_laneCrew, .ref m_laneTime, .ref m_gone, .ref m_struck, .ref m_wasRun, .ref m_wait, .ref m_current, .ref m_finals, .ref m_bestTime, .ref m_inFinal, .ref m_pick, .ref m_found, .ref m_fresh, .ref m_at, .long 0, .long 0, .int 0, .int 0])), (m_tape, .inl (cm_tape, 120, .inl (upd (fun _ => 0) (0 : Int32).toNatClampNeg z23)))] := hD
        refine lv_lload_n hx hb dX10_feed_53 rfl (lv_at hl 2 rfl) ?_
        refine lv_bipush (v := 8) hx hb dX10_feed_54 (by decide +kernel) ?_
        refine lv_iload hx hb dX10_feed_56 (lv_at hl 0 rfl) ?_
        refine lv_imul hx hb dX10_feed_58 ?_
        refine ti_eq (y := 16) (by decide +kernel) ?_
        refine lv_lshr hx hb dX10_feed_59 rfl ?_
        refine lv_topl (fun z24 _ => ?_)
        refine lv_ldc2 (v := 255) hx hb hown (hts (.constantLong RX10 162 (255)) (List.mem_of_getElem? (i := 3) rfl)) dX10_feed_60 ?_
        refine lv_land hx hb dX10_feed_63 ?_
        refine lv_topl (fun z25 _ => ?_)
        refine lv_l2i hx hb dX10_feed_64 rfl ?_
        refine lv_topi (fun z26 _ => ?_)
        refine va_iast hx hb hK hP hD hS 1 0 rfl rfl (by unfold vp_in; decide +kernel) dX10_feed_65 (fun H locs hP hD hS => ?_)
        have hP : va_P (dC, dI) vwCl [(h0, .inr (10, [.int 0, .int 0, .int 0, .int 0, .int 2, .int 10, .int 0, .int 0, .ref m_weight, .ref m_strength, .ref m_arm, .ref m_sex, .ref m_age, .ref m_likes, .ref m_rows, .ref m_drummer, .ref m_members, .ref m_beat, .ref m_member, .ref m_seated, .ref m_isSeated, .ref m_tape, .ref m_rTests, .ref m_tField, .ref m_tSign, .ref m_tNumber, .ref m_tNot, .ref m_tOr, .ref m_minute, .ref m_round, .ref m_laneCrew, .ref m_laneTime, .ref m_gone, .ref m_struck, .ref m_wasRun, .ref m_wait, .ref m_current, .ref m_finals, .ref m_bestTime, .ref m_inFinal, .ref m_pick, .ref m_found, .ref m_fresh, .ref m_at, .long 0, .long 0, .int 0, .int 0])), (m_tape, .inl (cm_tape, 120, .inl (upd (upd (fun _ => 0) (0 : Int32).toNatClampNeg z23) (1 : Int32).toNatClampNeg z26)))] H := hP
        have hD : va_D A [(h0, .inr (10, [.int 0, .int 0, .int 0, .int 0, .int 2, .int 10, .int 0, .int 0, .ref m_weight, .ref m_strength, .ref m_arm, .ref m_sex, .ref m_age, .ref m_likes, .ref m_rows, .ref m_drummer, .ref m_members, .ref m_beat, .ref m_member, .ref m_seated, .ref m_isSeated, .ref m_tape, .ref m_rTests, .ref m_tField, .ref m_tSign, .ref m_tNumber, .ref m_tNot, .ref m_tOr, .ref m_minute, .ref m_round, .ref m_laneCrew, .ref m_laneTime, .ref m_gone, .ref m_struck, .ref m_wasRun, .ref m_wait, .ref m_current, .ref m_finals, .ref m_bestTime, .ref m_inFinal, .ref m_pick, .ref m_found, .ref m_fresh, .ref m_at, .long 0, .long 0, .int 0, .int 0])), (m_tape, .inl (cm_tape, 120, .inl (upd (upd (fun _ => 0) (0 : Int32).toNatClampNeg z23) (1 : Int32).toNatClampNeg z26)))] := hD
        refine lv_iinc (v := 1) (lv' := [(4, .int 1), (0, .ref h0), (1, .long w), (3, .int 4)]) hx hb dX10_feed_66 hl (k := 0) rfl (by decide +kernel) (by decide) rfl (fun ls hl => ?_)
        refine lv_goto (tgt := 33) hx hb dX10_feed_69 (by decide) ?_
        refine lv_iload hx hb dX10_feed_33 (lv_at hl 0 rfl) ?_
        refine lv_if_lt (tgt := 72) hx hb dX10_feed_35 (by decide) (fun c9 => absurd c9 (by decide +kernel)) (fun _ => ?_)
        refine lv_aload_n hx hb dX10_feed_38 rfl (lv_at hl 1 rfl) ?_
        refine va_get (D := (dC, dI)) (ci := 10) (v := .ref m_tape) (C := RX10) (T := TX10) (N := 48) hx hb hts (fun _ h => List.mem_cons_of_mem _ (List.mem_append_right _ h)) hown hK hP 0 rfl rfl 21 (by decide) (hts (.fieldLink RX10 56 "DrumBoatsModel" "tape" "[I") (List.mem_of_getElem? (i := 2) rfl)) (fun _ h9 => h9) rfl dX10_feed_39 ?_
        refine lv_aload_n hx hb dX10_feed_42 rfl (lv_at hl 1 rfl) ?_
        refine lv_dup hx hb dX10_feed_43 rfl ?_
        refine va_get (D := (dC, dI)) (ci := 10) (v := .int 2) (C := RX10) (T := TX10) (N := 48) hx hb hts (fun _ h => List.mem_cons_of_mem _ (List.mem_append_right _ h)) hown hK hP 0 rfl rfl 4 (by decide) (hts (.fieldLink RX10 159 "DrumBoatsModel" "tapeN" "I") (List.mem_of_getElem? (i := 1) rfl)) (fun _ h9 => h9) rfl dX10_feed_44 ?_
        refine lv_dup_x1 hx hb dX10_feed_47 rfl rfl ?_
        refine lv_iconst (v := 1) hx hb dX10_feed_48 (by decide +kernel) ?_
        refine lv_iadd hx hb dX10_feed_49 ?_
        refine ti_eq (y := 3) (by decide +kernel) ?_
        refine va_put (D := (dC, dI)) (ci := 10) (v := .int 3) (ty := .int) (C := RX10) (T := TX10) (N := 48) hx hb hts (fun _ h => List.mem_cons_of_mem _ (List.mem_append_right _ h)) tyX10 tyX10_ok nmX10 hown hK hP hD hS 0 rfl rfl 4 (by decide) (hts (.fieldLink RX10 159 "DrumBoatsModel" "tapeN" "I") (List.mem_of_getElem? (i := 1) rfl)) (fun _ h9 => h9) rfl (by decide +kernel) rfl rfl (Nat.le_of_ble_eq_true rfl) dX10_feed_50 (fun H locs hP hD hS => ?_)
        have hP : va_P (dC, dI) vwCl [(h0, .inr (10, [.int 0, .int 0, .int 0, .int 0, .int 3, .int 10, .int 0, .int 0, .ref m_weight, .ref m_strength, .ref m_arm, .ref m_sex, .ref m_age, .ref m_likes, .ref m_rows, .ref m_drummer, .ref m_members, .ref m_beat, .ref m_member, .ref m_seated, .ref m_isSeated, .ref m_tape, .ref m_rTests, .ref m_tField, .ref m_tSign, .ref m_tNumber, .ref m_tNot, .ref m_tOr, .ref m_minute, .ref m_round, .ref m_laneCrew, .ref m_laneTime, .ref m_gone, .ref m_struck, .ref m_wasRun, .ref m_wait, .ref m_current, .ref m_finals, .ref m_bestTime, .ref m_inFinal, .ref m_pick, .ref m_found, .ref m_fresh, .ref m_at, .long 0, .long 0, .int 0, .int 0])), (m_tape, .inl (cm_tape, 120, .inl (upd (upd (fun _ => 0) (0 : Int32).toNatClampNeg z23) (1 : Int32).toNatClampNeg z26)))] H := hP
        have hD : va_D A [(h0, .inr (10, [.int 0, .int 0, .int 0, .int 0, .int 3, .int 10, .int 0, .int 0, .ref m_weight, .ref m_strength, .ref m_arm, .ref m_sex, .ref m_age, .ref m_likes, .ref m_rows, .ref m_drummer, .ref m_members, .ref m_beat, .ref m_member, .ref m_seated, .ref m_isSeated, .ref m_tape, .ref m_rTests, .ref m_tField, .ref m_tSign, .ref m_tNumber, .ref m_tNot, .ref m_tOr, .ref m_minute, .ref m_round, .ref m_laneCrew, .ref m_laneTime, .ref m_gone, .ref m_struck, .ref m_wasRun, .ref m_wait, .ref m_current, .ref m_finals, .ref m_bestTime, .ref m_inFinal, .ref m_pick, .ref m_found, .ref m_fresh, .ref m_at, .long 0, .long 0, .int 0, .int 0])), (m_tape, .inl (cm_tape, 120, .inl (upd (upd (fun _ => 0) (0 : Int32).toNatClampNeg z23) (1 : Int32).toNatClampNeg z26)))] := hD
        refine lv_lload_n hx hb dX10_feed_53 rfl (lv_at hl 2 rfl) ?_
        refine lv_bipush (v := 8) hx hb dX10_feed_54 (by decide +kernel) ?_
        refine lv_iload hx hb dX10_feed_56 (lv_at hl 0 rfl) ?_
        refine lv_imul hx hb dX10_feed_58 ?_
        refine ti_eq (y := 8) (by decide +kernel) ?_
        refine lv_lshr hx hb dX10_feed_59 rfl ?_
        refine lv_topl (fun z27 _ => ?_)
        refine lv_ldc2 (v := 255) hx hb hown (hts (.constantLong RX10 162 (255)) (List.mem_of_getElem? (i := 3) rfl)) dX10_feed_60 ?_
        refine lv_land hx hb dX10_feed_63 ?_
        refine lv_topl (fun z28 _ => ?_)
        refine lv_l2i hx hb dX10_feed_64 rfl ?_
        refine lv_topi (fun z29 _ => ?_)
        refine va_iast hx hb hK hP hD hS 1 0 rfl rfl (by unfold vp_in; decide +kernel) dX10_feed_65 (fun H locs hP hD hS => ?_)
        have hP : va_P (dC, dI) vwCl [(h0, .inr (10, [.int 0, .int 0, .int 0, .int 0, .int 3, .int 10, .int 0, .int 0, .ref m_weight, .ref m_strength, .ref m_arm, .ref m_sex, .ref m_age, .ref m_likes, .ref m_rows, .ref m_drummer, .ref m_members, .ref m_beat, .ref m_member, .ref m_seated, .ref m_isSeated, .ref m_tape, .ref m_rTests, .ref m_tField, .ref m_tSign, .ref m_tNumber, .ref m_tNot, .ref m_tOr, .ref m_minute, .ref m_round, .ref m_laneCrew, .ref m_laneTime, .ref m_gone, .ref m_struck, .ref m_wasRun, .ref m_wait, .ref m_current, .ref m_finals, .ref m_bestTime, .ref m_inFinal, .ref m_pick, .ref m_found, .ref m_fresh, .ref m_at, .long 0, .long 0, .int 0, .int 0])), (m_tape, .inl (cm_tape, 120, .inl (upd (upd (upd (fun _ => 0) (0 : Int32).toNatClampNeg z23) (1 : Int32).toNatClampNeg z26) (2 : Int32).toNatClampNeg z29)))] H := hP
        have hD : va_D A [(h0, .inr (10, [.int 0, .int 0, .int 0, .int 0, .int 3, .int 10, .int 0, .int 0, .ref m_weight, .ref m_strength, .ref m_arm, .ref m_sex, .ref m_age, .ref m_likes, .ref m_rows, .ref m_drummer, .ref m_members, .ref m_beat, .ref m_member, .ref m_seated, .ref m_isSeated, .ref m_tape, .ref m_rTests, .ref m_tField, .ref m_tSign, .ref m_tNumber, .ref m_tNot, .ref m_tOr, .ref m_minute, .ref m_round, .ref m_laneCrew, .ref m_laneTime, .ref m_gone, .ref m_struck, .ref m_wasRun, .ref m_wait, .ref m_current, .ref m_finals, .ref m_bestTime, .ref m_inFinal, .ref m_pick, .ref m_found, .ref m_fresh, .ref m_at, .long 0, .long 0, .int 0, .int 0])), (m_tape, .inl (cm_tape, 120, .inl (upd (upd (upd (fun _ => 0) (0 : Int32).toNatClampNeg z23) (1 : Int32).toNatClampNeg z26) (2 : Int32).toNatClampNeg z29)))] := hD
        refine lv_iinc (v := 0) (lv' := [(4, .int 0), (0, .ref h0), (1, .long w), (3, .int 4)]) hx hb dX10_feed_66 hl (k := 0) rfl (by decide +kernel) (by decide) rfl (fun ls hl => ?_)
        refine lv_goto (tgt := 33) hx hb dX10_feed_69 (by decide) ?_
        refine lv_iload hx hb dX10_feed_33 (lv_at hl 0 rfl) ?_
        refine lv_if_lt (tgt := 72) hx hb dX10_feed_35 (by decide) (fun c9 => absurd c9 (by decide +kernel)) (fun _ => ?_)
        refine lv_aload_n hx hb dX10_feed_38 rfl (lv_at hl 1 rfl) ?_
        refine va_get (D := (dC, dI)) (ci := 10) (v := .ref m_tape) (C := RX10) (T := TX10) (N := 48) hx hb hts (fun _ h => List.mem_cons_of_mem _ (List.mem_append_right _ h)) hown hK hP 0 rfl rfl 21 (by decide) (hts (.fieldLink RX10 56 "DrumBoatsModel" "tape" "[I") (List.mem_of_getElem? (i := 2) rfl)) (fun _ h9 => h9) rfl dX10_feed_39 ?_
        refine lv_aload_n hx hb dX10_feed_42 rfl (lv_at hl 1 rfl) ?_
        refine lv_dup hx hb dX10_feed_43 rfl ?_
        refine va_get (D := (dC, dI)) (ci := 10) (v := .int 3) (C := RX10) (T := TX10) (N := 48) hx hb hts (fun _ h => List.mem_cons_of_mem _ (List.mem_append_right _ h)) hown hK hP 0 rfl rfl 4 (by decide) (hts (.fieldLink RX10 159 "DrumBoatsModel" "tapeN" "I") (List.mem_of_getElem? (i := 1) rfl)) (fun _ h9 => h9) rfl dX10_feed_44 ?_
        refine lv_dup_x1 hx hb dX10_feed_47 rfl rfl ?_
        refine lv_iconst (v := 1) hx hb dX10_feed_48 (by decide +kernel) ?_
        refine lv_iadd hx hb dX10_feed_49 ?_
        refine ti_eq (y := 4) (by decide +kernel) ?_
        refine va_put (D := (dC, dI)) (ci := 10) (v := .int 4) (ty := .int) (C := RX10) (T := TX10) (N := 48) hx hb hts (fun _ h => List.mem_cons_of_mem _ (List.mem_append_right _ h)) tyX10 tyX10_ok nmX10 hown hK hP hD hS 0 rfl rfl 4 (by decide) (hts (.fieldLink RX10 159 "DrumBoatsModel" "tapeN" "I") (List.mem_of_getElem? (i := 1) rfl)) (fun _ h9 => h9) rfl (by decide +kernel) rfl rfl (Nat.le_of_ble_eq_true rfl) dX10_feed_50 (fun H locs hP hD hS => ?_)
        have hP : va_P (dC, dI) vwCl [(h0, .inr (10, [.int 0, .int 0, .int 0, .int 0, .int 4, .int 10, .int 0, .int 0, .ref m_weight, .ref m_strength, .ref m_arm, .ref m_sex, .ref m_age, .ref m_likes, .ref m_rows, .ref m_drummer, .ref m_members, .ref m_beat, .ref m_member, .ref m_seated, .ref m_isSeated, .ref m_tape, .ref m_rTests, .ref m_tField, .ref m_tSign, .ref m_tNumber, .ref m_tNot, .ref m_tOr, .ref m_minute, .ref m_round, .ref m_laneCrew, .ref m_laneTime, .ref m_gone, .ref m_struck, .ref m_wasRun, .ref m_wait, .ref m_current, .ref m_finals, .ref m_bestTime, .ref m_inFinal, .ref m_pick, .ref m_found, .ref m_fresh, .ref m_at, .long 0, .long 0, .int 0, .int 0])), (m_tape, .inl (cm_tape, 120, .inl (upd (upd (upd (fun _ => 0) (0 : Int32).toNatClampNeg z23) (1 : Int32).toNatClampNeg z26) (2 : Int32).toNatClampNeg z29)))] H := hP
        have hD : va_D A [(h0, .inr (10, [.int 0, .int 0, .int 0, .int 0, .int 4, .int 10, .int 0, .int 0, .ref m_weight, .ref m_strength, .ref m_arm, .ref m_sex, .ref m_age, .ref m_likes, .ref m_rows, .ref m_drummer, .ref m_members, .ref m_beat, .ref m_member, .ref m_seated, .ref m_isSeated, .ref m_tape, .ref m_rTests, .ref m_tField, .ref m_tSign, .ref m_tNumber, .ref m_tNot, .ref m_tOr, .ref m_minute, .ref m_round, .ref m_laneCrew, .ref m_laneTime, .ref m_gone, .ref m_struck, .ref m_wasRun, .ref m_wait, .ref m_current, .ref m_finals, .ref m_bestTime, .ref m_inFinal, .ref m_pick, .ref m_found, .ref m_fresh, .ref m_at, .long 0, .long 0, .int 0, .int 0])), (m_tape, .inl (cm_tape, 120, .inl (upd (upd (upd (fun _ => 0) (0 : Int32).toNatClampNeg z23) (1 : Int32).toNatClampNeg z26) (2 : Int32).toNatClampNeg z29)))] := hD
        refine lv_lload_n hx hb dX10_feed_53 rfl (lv_at hl 2 rfl) ?_
        refine lv_bipush (v := 8) hx hb dX10_feed_54 (by decide +kernel) ?_
        refine lv_iload hx hb dX10_feed_56 (lv_at hl 0 rfl) ?_
        refine lv_imul hx hb dX10_feed_58 ?_
        refine ti_eq (y := 0) (by decide +kernel) ?_
        refine lv_lshr hx hb dX10_feed_59 rfl ?_
        refine lv_topl (fun z30 _ => ?_)
        refine lv_ldc2 (v := 255) hx hb hown (hts (.constantLong RX10 162 (255)) (List.mem_of_getElem? (i := 3) rfl)) dX10_feed_60 ?_
        refine lv_land hx hb dX10_feed_63 ?_
        refine lv_topl (fun z31 _ => ?_)
        refine lv_l2i hx hb dX10_feed_64 rfl ?_
        refine lv_topi (fun z32 _ => ?_)
        refine va_iast hx hb hK hP hD hS 1 0 rfl rfl (by unfold vp_in; decide +kernel) dX10_feed_65 (fun H locs hP hD hS => ?_)
        have hP : va_P (dC, dI) vwCl [(h0, .inr (10, [.int 0, .int 0, .int 0, .int 0, .int 4, .int 10, .int 0, .int 0, .ref m_weight, .ref m_strength, .ref m_arm, .ref m_sex, .ref m_age, .ref m_likes, .ref m_rows, .ref m_drummer, .ref m_members, .ref m_beat, .ref m_member, .ref m_seated, .ref m_isSeated, .ref m_tape, .ref m_rTests, .ref m_tField, .ref m_tSign, .ref m_tNumber, .ref m_tNot, .ref m_tOr, .ref m_minute, .ref m_round, .ref m_laneCrew, .ref m_laneTime, .ref m_gone, .ref m_struck, .ref m_wasRun, .ref m_wait, .ref m_current, .ref m_finals, .ref m_bestTime, .ref m_inFinal, .ref m_pick, .ref m_found, .ref m_fresh, .ref m_at, .long 0, .long 0, .int 0, .int 0])), (m_tape, .inl (cm_tape, 120, .inl (upd (upd (upd (upd (fun _ => 0) (0 : Int32).toNatClampNeg z23) (1 : Int32).toNatClampNeg z26) (2 : Int32).toNatClampNeg z29) (3 : Int32).toNatClampNeg z32)))] H := hP
        have hD : va_D A [(h0, .inr (10, [.int 0, .int 0, .int 0, .int 0, .int 4, .int 10, .int 0, .int 0, .ref m_weight, .ref m_strength, .ref m_arm, .ref m_sex, .ref m_age, .ref m_likes, .ref m_rows, .ref m_drummer, .ref m_members, .ref m_beat, .ref m_member, .ref m_seated, .ref m_isSeated, .ref m_tape, .ref m_rTests, .ref m_tField, .ref m_tSign, .ref m_tNumber, .ref m_tNot, .ref m_tOr, .ref m_minute, .ref m_round, .ref m_laneCrew, .ref m_laneTime, .ref m_gone, .ref m_struck, .ref m_wasRun, .ref m_wait, .ref m_current, .ref m_finals, .ref m_bestTime, .ref m_inFinal, .ref m_pick, .ref m_found, .ref m_fresh, .ref m_at, .long 0, .long 0, .int 0, .int 0])), (m_tape, .inl (cm_tape, 120, .inl (upd (upd (upd (upd (fun _ => 0) (0 : Int32).toNatClampNeg z23) (1 : Int32).toNatClampNeg z26) (2 : Int32).toNatClampNeg z29) (3 : Int32).toNatClampNeg z32)))] := hD
        refine lv_iinc (v := (-1)) (lv' := [(4, .int (-1)), (0, .ref h0), (1, .long w), (3, .int 4)]) hx hb dX10_feed_66 hl (k := 0) rfl (by decide +kernel) (by decide) rfl (fun ls hl => ?_)
        refine lv_goto (tgt := 33) hx hb dX10_feed_69 (by decide) ?_
        refine lv_iload hx hb dX10_feed_33 (lv_at hl 0 rfl) ?_
        refine lv_if_lt (tgt := 72) hx hb dX10_feed_35 (by decide) (fun _ => ?_) (fun c9 => absurd c9 (by decide +kernel))
        refine lv_aload_n hx hb dX10_feed_72 rfl (lv_at hl 1 rfl) ?_
        refine va_get (D := (dC, dI)) (ci := 10) (v := .int 4) (C := RX10) (T := TX10) (N := 48) hx hb hts (fun _ h => List.mem_cons_of_mem _ (List.mem_append_right _ h)) hown hK hP 0 rfl rfl 4 (by decide) (hts (.fieldLink RX10 159 "DrumBoatsModel" "tapeN" "I") (List.mem_of_getElem? (i := 1) rfl)) (fun _ h9 => h9) rfl dX10_feed_73 ?_
        refine W.widen (k := 0) (n := 0) (Nat.le_of_ble_eq_true rfl) (Nat.le_of_ble_eq_true rfl) ?_
        exact W.iret (v := 4) hx hb hr (fun t ht hW => ⟨⟨4, (), rfl, (by first | rfl | decide | (unfold f_feed; (repeat' split) <;> first | rfl | omega)), trivial⟩, hS.F ht⟩) hS.2.2 dX10_feed_76
      · refine lv_aload_n hx hb dX10_feed_14 rfl (lv_at hl 0 rfl) ?_
        refine va_get (D := (dC, dI)) (ci := 10) (v := .int 0) (C := RX10) (T := TX10) (N := 48) hx hb hts (fun _ h => List.mem_cons_of_mem _ (List.mem_append_right _ h)) hown hK hP 0 rfl rfl 4 (by decide) (hts (.fieldLink RX10 159 "DrumBoatsModel" "tapeN" "I") (List.mem_of_getElem? (i := 1) rfl)) (fun _ h9 => h9) rfl dX10_feed_15 ?_
        refine lv_iload_n hx hb dX10_feed_18 rfl (lv_at hl 2 rfl) ?_
        refine lv_iadd hx hb dX10_feed_19 ?_
        refine ti_eq (y := 5) (by decide +kernel) ?_
        refine lv_bipush (v := 120) hx hb dX10_feed_20 (by decide +kernel) ?_
        refine lv_icmp_le (tgt := 28) hx hb dX10_feed_22 (by decide) (fun _ => ?_) (fun c9 => absurd c9 (by decide +kernel))
        refine lv_iload_n hx hb dX10_feed_28 rfl (lv_at hl 2 rfl) ?_
        refine lv_iconst (v := 1) hx hb dX10_feed_29 (by decide +kernel) ?_
        refine lv_isub hx hb dX10_feed_30 ?_
        refine ti_eq (y := 4) (by decide +kernel) ?_
        refine lv_istore (lv' := [(4, .int 4), (0, .ref h0), (1, .long w), (3, .int 5)]) hx hb dX10_feed_31 hl (by decide) rfl (fun ls hl => ?_)
        refine lv_iload hx hb dX10_feed_33 (lv_at hl 0 rfl) ?_
        refine lv_if_lt (tgt := 72) hx hb dX10_feed_35 (by decide) (fun c9 => absurd c9 (by decide +kernel)) (fun _ => ?_)
        refine lv_aload_n hx hb dX10_feed_38 rfl (lv_at hl 1 rfl) ?_
        refine va_get (D := (dC, dI)) (ci := 10) (v := .ref m_tape) (C := RX10) (T := TX10) (N := 48) hx hb hts (fun _ h => List.mem_cons_of_mem _ (List.mem_append_right _ h)) hown hK hP 0 rfl rfl 21 (by decide) (hts (.fieldLink RX10 56 "DrumBoatsModel" "tape" "[I") (List.mem_of_getElem? (i := 2) rfl)) (fun _ h9 => h9) rfl dX10_feed_39 ?_
        refine lv_aload_n hx hb dX10_feed_42 rfl (lv_at hl 1 rfl) ?_
        refine lv_dup hx hb dX10_feed_43 rfl ?_
        refine va_get (D := (dC, dI)) (ci := 10) (v := .int 0) (C := RX10) (T := TX10) (N := 48) hx hb hts (fun _ h => List.mem_cons_of_mem _ (List.mem_append_right _ h)) hown hK hP 0 rfl rfl 4 (by decide) (hts (.fieldLink RX10 159 "DrumBoatsModel" "tapeN" "I") (List.mem_of_getElem? (i := 1) rfl)) (fun _ h9 => h9) rfl dX10_feed_44 ?_
        refine lv_dup_x1 hx hb dX10_feed_47 rfl rfl ?_
        refine lv_iconst (v := 1) hx hb dX10_feed_48 (by decide +kernel) ?_
        refine lv_iadd hx hb dX10_feed_49 ?_
        refine ti_eq (y := 1) (by decide +kernel) ?_
        refine va_put (D := (dC, dI)) (ci := 10) (v := .int 1) (ty := .int) (C := RX10) (T := TX10) (N := 48) hx hb hts (fun _ h => List.mem_cons_of_mem _ (List.mem_append_right _ h)) tyX10 tyX10_ok nmX10 hown hK hP hD hS 0 rfl rfl 4 (by decide) (hts (.fieldLink RX10 159 "DrumBoatsModel" "tapeN" "I") (List.mem_of_getElem? (i := 1) rfl)) (fun _ h9 => h9) rfl (by decide +kernel) rfl rfl (Nat.le_of_ble_eq_true rfl) dX10_feed_50 (fun H locs hP hD hS => ?_)
        have hP : va_P (dC, dI) vwCl [(h0, .inr (10, [.int 0, .int 0, .int 0, .int 0, .int 1, .int 10, .int 0, .int 0, .ref m_weight, .ref m_strength, .ref m_arm, .ref m_sex, .ref m_age, .ref m_likes, .ref m_rows, .ref m_drummer, .ref m_members, .ref m_beat, .ref m_member, .ref m_seated, .ref m_isSeated, .ref m_tape, .ref m_rTests, .ref m_tField, .ref m_tSign, .ref m_tNumber, .ref m_tNot, .ref m_tOr, .ref m_minute, .ref m_round, .ref m_laneCrew, .ref m_laneTime, .ref m_gone, .ref m_struck, .ref m_wasRun, .ref m_wait, .ref m_current, .ref m_finals, .ref m_bestTime, .ref m_inFinal, .ref m_pick, .ref m_found, .ref m_fresh, .ref m_at, .long 0, .long 0, .int 0, .int 0])), (m_tape, .inl (cm_tape, 120, .inl (fun _ => 0)))] H := hP
        have hD : va_D A [(h0, .inr (10, [.int 0, .int 0, .int 0, .int 0, .int 1, .int 10, .int 0, .int 0, .ref m_weight, .ref m_strength, .ref m_arm, .ref m_sex, .ref m_age, .ref m_likes, .ref m_rows, .ref m_drummer, .ref m_members, .ref m_beat, .ref m_member, .ref m_seated, .ref m_isSeated, .ref m_tape, .ref m_rTests, .ref m_tField, .ref m_tSign, .ref m_tNumber, .ref m_tNot, .ref m_tOr, .ref m_minute, .ref m_round, .ref m_laneCrew, .ref m_laneTime, .ref m_gone, .ref m_struck, .ref m_wasRun, .ref m_wait, .ref m_current, .ref m_finals, .ref m_bestTime, .ref m_inFinal, .ref m_pick, .ref m_found, .ref m_fresh, .ref m_at, .long 0, .long 0, .int 0, .int 0])), (m_tape, .inl (cm_tape, 120, .inl (fun _ => 0)))] := hD
        refine lv_lload_n hx hb dX10_feed_53 rfl (lv_at hl 2 rfl) ?_
        refine lv_bipush (v := 8) hx hb dX10_feed_54 (by decide +kernel) ?_
        refine lv_iload hx hb dX10_feed_56 (lv_at hl 0 rfl) ?_
        refine lv_imul hx hb dX10_feed_58 ?_
        refine ti_eq (y := 32) (by decide +kernel) ?_
        refine lv_lshr hx hb dX10_feed_59 rfl ?_
        refine lv_topl (fun z33 _ => ?_)
        refine lv_ldc2 (v := 255) hx hb hown (hts (.constantLong RX10 162 (255)) (List.mem_of_getElem? (i := 3) rfl)) dX10_feed_60 ?_
        refine lv_land hx hb dX10_feed_63 ?_
        refine lv_topl (fun z34 _ => ?_)
        refine lv_l2i hx hb dX10_feed_64 rfl ?_
        refine lv_topi (fun z35 _ => ?_)
        refine va_iast hx hb hK hP hD hS 1 0 rfl rfl (by unfold vp_in; decide +kernel) dX10_feed_65 (fun H locs hP hD hS => ?_)
        have hP : va_P (dC, dI) vwCl [(h0, .inr (10, [.int 0, .int 0, .int 0, .int 0, .int 1, .int 10, .int 0, .int 0, .ref m_weight, .ref m_strength, .ref m_arm, .ref m_sex, .ref m_age, .ref m_likes, .ref m_rows, .ref m_drummer, .ref m_members, .ref m_beat, .ref m_member, .ref m_seated, .ref m_isSeated, .ref m_tape, .ref m_rTests, .ref m_tField, .ref m_tSign, .ref m_tNumber, .ref m_tNot, .ref m_tOr, .ref m_minute, .ref m_round, .ref m_laneCrew, .ref m_laneTime, .ref m_gone, .ref m_struck, .ref m_wasRun, .ref m_wait, .ref m_current, .ref m_finals, .ref m_bestTime, .ref m_inFinal, .ref m_pick, .ref m_found, .ref m_fresh, .ref m_at, .long 0, .long 0, .int 0, .int 0])), (m_tape, .inl (cm_tape, 120, .inl (upd (fun _ => 0) (0 : Int32).toNatClampNeg z35)))] H := hP
        have hD : va_D A [(h0, .inr (10, [.int 0, .int 0, .int 0, .int 0, .int 1, .int 10, .int 0, .int 0, .ref m_weight, .ref m_strength, .ref m_arm, .ref m_sex, .ref m_age, .ref m_likes, .ref m_rows, .ref m_drummer, .ref m_members, .ref m_beat, .ref m_member, .ref m_seated, .ref m_isSeated, .ref m_tape, .ref m_rTests, .ref m_tField, .ref m_tSign, .ref m_tNumber, .ref m_tNot, .ref m_tOr, .ref m_minute, .ref m_round, .ref m_laneCrew, .ref m_laneTime, .ref m_gone, .ref m_struck, .ref m_wasRun, .ref m_wait, .ref m_current, .ref m_finals, .ref m_bestTime, .ref m_inFinal, .ref m_pick, .ref m_found, .ref m_fresh, .ref m_at, .long 0, .long 0, .int 0, .int 0])), (m_tape, .inl (cm_tape, 120, .inl (upd (fun _ => 0) (0 : Int32).toNatClampNeg z35)))] := hD
        refine lv_iinc (v := 3) (lv' := [(4, .int 3), (0, .ref h0), (1, .long w), (3, .int 5)]) hx hb dX10_feed_66 hl (k := 0) rfl (by decide +kernel) (by decide) rfl (fun ls hl => ?_)
        refine lv_goto (tgt := 33) hx hb dX10_feed_69 (by decide) ?_
        refine lv_iload hx hb dX10_feed_33 (lv_at hl 0 rfl) ?_
        refine lv_if_lt (tgt := 72) hx hb dX10_feed_35 (by decide) (fun c9 => absurd c9 (by decide +kernel)) (fun _ => ?_)
        refine lv_aload_n hx hb dX10_feed_38 rfl (lv_at hl 1 rfl) ?_
        refine va_get (D := (dC, dI)) (ci := 10) (v := .ref m_tape) (C := RX10) (T := TX10) (N := 48) hx hb hts (fun _ h => List.mem_cons_of_mem _ (List.mem_append_right _ h)) hown hK hP 0 rfl rfl 21 (by decide) (hts (.fieldLink RX10 56 "DrumBoatsModel" "tape" "[I") (List.mem_of_getElem? (i := 2) rfl)) (fun _ h9 => h9) rfl dX10_feed_39 ?_
        refine lv_aload_n hx hb dX10_feed_42 rfl (lv_at hl 1 rfl) ?_
        refine lv_dup hx hb dX10_feed_43 rfl ?_
        refine va_get (D := (dC, dI)) (ci := 10) (v := .int 1) (C := RX10) (T := TX10) (N := 48) hx hb hts (fun _ h => List.mem_cons_of_mem _ (List.mem_append_right _ h)) hown hK hP 0 rfl rfl 4 (by decide) (hts (.fieldLink RX10 159 "DrumBoatsModel" "tapeN" "I") (List.mem_of_getElem? (i := 1) rfl)) (fun _ h9 => h9) rfl dX10_feed_44 ?_
        refine lv_dup_x1 hx hb dX10_feed_47 rfl rfl ?_
        refine lv_iconst (v := 1) hx hb dX10_feed_48 (by decide +kernel) ?_
        refine lv_iadd hx hb dX10_feed_49 ?_
        refine ti_eq (y := 2) (by decide +kernel) ?_
        refine va_put (D := (dC, dI)) (ci := 10) (v := .int 2) (ty := .int) (C := RX10) (T := TX10) (N := 48) hx hb hts (fun _ h => List.mem_cons_of_mem _ (List.mem_append_right _ h)) tyX10 tyX10_ok nmX10 hown hK hP hD hS 0 rfl rfl 4 (by decide) (hts (.fieldLink RX10 159 "DrumBoatsModel" "tapeN" "I") (List.mem_of_getElem? (i := 1) rfl)) (fun _ h9 => h9) rfl (by decide +kernel) rfl rfl (Nat.le_of_ble_eq_true rfl) dX10_feed_50 (fun H locs hP hD hS => ?_)
        have hP : va_P (dC, dI) vwCl [(h0, .inr (10, [.int 0, .int 0, .int 0, .int 0, .int 2, .int 10, .int 0, .int 0, .ref m_weight, .ref m_strength, .ref m_arm, .ref m_sex, .ref m_age, .ref m_likes, .ref m_rows, .ref m_drummer, .ref m_members, .ref m_beat, .ref m_member, .ref m_seated, .ref m_isSeated, .ref m_tape, .ref m_rTests, .ref m_tField, .ref m_tSign, .ref m_tNumber, .ref m_tNot, .ref m_tOr, .ref m_minute, .ref m_round, .ref m_laneCrew, .ref m_laneTime, .ref m_gone, .ref m_struck, .ref m_wasRun, .ref m_wait, .ref m_current, .ref m_finals, .ref m_bestTime, .ref m_inFinal, .ref m_pick, .ref m_found, .ref m_fresh, .ref m_at, .long 0, .long 0, .int 0, .int 0])), (m_tape, .inl (cm_tape, 120, .inl (upd (fun _ => 0) (0 : Int32).toNatClampNeg z35)))] H := hP
        have hD : va_D A [(h0, .inr (10, [.int 0, .int 0, .int 0, .int 0, .int 2, .int 10, .int 0, .int 0, .ref m_weight, .ref m_strength, .ref m_arm, .ref m_sex, .ref m_age, .ref m_likes, .ref m_rows, .ref m_drummer, .ref m_members, .ref m_beat, .ref m_member, .ref m_seated, .ref m_isSeated, .ref m_tape, .ref m_rTests, .ref m_tField, .ref m_tSign, .ref m_tNumber, .ref m_tNot, .ref m_tOr, .ref m_minute, .ref m_round, .ref m_laneCrew, .ref m_laneTime, .ref m_gone, .ref m_struck, .ref m_wasRun, .ref m_wait, .ref m_current, .ref m_finals, .ref m_bestTime, .ref m_inFinal, .ref m_pick, .ref m_found, .ref m_fresh, .ref m_at, .long 0, .long 0, .int 0, .int 0])), (m_tape, .inl (cm_tape, 120, .inl (upd (fun _ => 0) (0 : Int32).toNatClampNeg z35)))] := hD
        refine lv_lload_n hx hb dX10_feed_53 rfl (lv_at hl 2 rfl) ?_
        refine lv_bipush (v := 8) hx hb dX10_feed_54 (by decide +kernel) ?_
        refine lv_iload hx hb dX10_feed_56 (lv_at hl 0 rfl) ?_
        refine lv_imul hx hb dX10_feed_58 ?_
        refine ti_eq (y := 24) (by decide +kernel) ?_
        refine lv_lshr hx hb dX10_feed_59 rfl ?_
        refine lv_topl (fun z36 _ => ?_)
        refine lv_ldc2 (v := 255) hx hb hown (hts (.constantLong RX10 162 (255)) (List.mem_of_getElem? (i := 3) rfl)) dX10_feed_60 ?_
        refine lv_land hx hb dX10_feed_63 ?_
        refine lv_topl (fun z37 _ => ?_)
        refine lv_l2i hx hb dX10_feed_64 rfl ?_
        refine lv_topi (fun z38 _ => ?_)
        refine va_iast hx hb hK hP hD hS 1 0 rfl rfl (by unfold vp_in; decide +kernel) dX10_feed_65 (fun H locs hP hD hS => ?_)
        have hP : va_P (dC, dI) vwCl [(h0, .inr (10, [.int 0, .int 0, .int 0, .int 0, .int 2, .int 10, .int 0, .int 0, .ref m_weight, .ref m_strength, .ref m_arm, .ref m_sex, .ref m_age, .ref m_likes, .ref m_rows, .ref m_drummer, .ref m_members, .ref m_beat, .ref m_member, .ref m_seated, .ref m_isSeated, .ref m_tape, .ref m_rTests, .ref m_tField, .ref m_tSign, .ref m_tNumber, .ref m_tNot, .ref m_tOr, .ref m_minute, .ref m_round, .ref m_laneCrew, .ref m_laneTime, .ref m_gone, .ref m_struck, .ref m_wasRun, .ref m_wait, .ref m_current, .ref m_finals, .ref m_bestTime, .ref m_inFinal, .ref m_pick, .ref m_found, .ref m_fresh, .ref m_at, .long 0, .long 0, .int 0, .int 0])), (m_tape, .inl (cm_tape, 120, .inl (upd (upd (fun _ => 0) (0 : Int32).toNatClampNeg z35) (1 : Int32).toNatClampNeg z38)))] H := hP
        have hD : va_D A [(h0, .inr (10, [.int 0, .int 0, .int 0, .int 0, .int 2, .int 10, .int 0, .int 0, .ref m_weight, .ref m_strength, .ref m_arm, .ref m_sex, .ref m_age, .ref m_likes, .ref m_rows, .ref m_drummer, .ref m_members, .ref m_beat, .ref m_member, .ref m_seated, .ref m_isSeated, .ref m_tape, .ref m_rTests, .ref m_tField, .ref m_tSign, .ref m_tNumber, .ref m_tNot, .ref m_tOr, .ref m_minute, .ref m_round, .ref m_laneCrew, .ref m_laneTime, .ref m_gone, .ref m_struck, .ref m_wasRun, .ref m_wait, .ref m_current, .ref m_finals, .ref m_bestTime, .ref m_inFinal, .ref m_pick, .ref m_found, .ref m_fresh, .ref m_at, .long 0, .long 0, .int 0, .int 0])), (m_tape, .inl (cm_tape, 120, .inl (upd (upd (fun _ => 0) (0 : Int32).toNatClampNeg z35) (1 : Int32).toNatClampNeg z38)))] := hD
        refine lv_iinc (v := 2) (lv' := [(4, .int 2), (0, .ref h0), (1, .long w), (3, .int 5)]) hx hb dX10_feed_66 hl (k := 0) rfl (by decide +kernel) (by decide) rfl (fun ls hl => ?_)
        refine lv_goto (tgt := 33) hx hb dX10_feed_69 (by decide) ?_
        refine lv_iload hx hb dX10_feed_33 (lv_at hl 0 rfl) ?_
        refine lv_if_lt (tgt := 72) hx hb dX10_feed_35 (by decide) (fun c9 => absurd c9 (by decide +kernel)) (fun _ => ?_)
        refine lv_aload_n hx hb dX10_feed_38 rfl (lv_at hl 1 rfl) ?_
        refine va_get (D := (dC, dI)) (ci := 10) (v := .ref m_tape) (C := RX10) (T := TX10) (N := 48) hx hb hts (fun _ h => List.mem_cons_of_mem _ (List.mem_append_right _ h)) hown hK hP 0 rfl rfl 21 (by decide) (hts (.fieldLink RX10 56 "DrumBoatsModel" "tape" "[I") (List.mem_of_getElem? (i := 2) rfl)) (fun _ h9 => h9) rfl dX10_feed_39 ?_
        refine lv_aload_n hx hb dX10_feed_42 rfl (lv_at hl 1 rfl) ?_
        refine lv_dup hx hb dX10_feed_43 rfl ?_
        refine va_get (D := (dC, dI)) (ci := 10) (v := .int 2) (C := RX10) (T := TX10) (N := 48) hx hb hts (fun _ h => List.mem_cons_of_mem _ (List.mem_append_right _ h)) hown hK hP 0 rfl rfl 4 (by decide) (hts (.fieldLink RX10 159 "DrumBoatsModel" "tapeN" "I") (List.mem_of_getElem? (i := 1) rfl)) (fun _ h9 => h9) rfl dX10_feed_44 ?_
        refine lv_dup_x1 hx hb dX10_feed_47 rfl rfl ?_
        refine lv_iconst (v := 1) hx hb dX10_feed_48 (by decide +kernel) ?_
        refine lv_iadd hx hb dX10_feed_49 ?_
        refine ti_eq (y := 3) (by decide +kernel) ?_
        refine va_put (D := (dC, dI)) (ci := 10) (v := .int 3) (ty := .int) (C := RX10) (T := TX10) (N := 48) hx hb hts (fun _ h => List.mem_cons_of_mem _ (List.mem_append_right _ h)) tyX10 tyX10_ok nmX10 hown hK hP hD hS 0 rfl rfl 4 (by decide) (hts (.fieldLink RX10 159 "DrumBoatsModel" "tapeN" "I") (List.mem_of_getElem? (i := 1) rfl)) (fun _ h9 => h9) rfl (by decide +kernel) rfl rfl (Nat.le_of_ble_eq_true rfl) dX10_feed_50 (fun H locs hP hD hS => ?_)
        have hP : va_P (dC, dI) vwCl [(h0, .inr (10, [.int 0, .int 0, .int 0, .int 0, .int 3, .int 10, .int 0, .int 0, .ref m_weight, .ref m_strength, .ref m_arm, .ref m_sex, .ref m_age, .ref m_likes, .ref m_rows, .ref m_drummer, .ref m_members, .ref m_beat, .ref m_member, .ref m_seated, .ref m_isSeated, .ref m_tape, .ref m_rTests, .ref m_tField, .ref m_tSign, .ref m_tNumber, .ref m_tNot, .ref m_tOr, .ref m_minute, .ref m_round, .ref m_laneCrew, .ref m_laneTime, .ref m_gone, .ref m_struck, .ref m_wasRun, .ref m_wait, .ref m_current, .ref m_finals, .ref m_bestTime, .ref m_inFinal, .ref m_pick, .ref m_found, .ref m_fresh, .ref m_at, .long 0, .long 0, .int 0, .int 0])), (m_tape, .inl (cm_tape, 120, .inl (upd (upd (fun _ => 0) (0 : Int32).toNatClampNeg z35) (1 : Int32).toNatClampNeg z38)))] H := hP
        have hD : va_D A [(h0, .inr (10, [.int 0, .int 0, .int 0, .int 0, .int 3, .int 10, .int 0, .int 0, .ref m_weight, .ref m_strength, .ref m_arm, .ref m_sex, .ref m_age, .ref m_likes, .ref m_rows, .ref m_drummer, .ref m_members, .ref m_beat, .ref m_member, .ref m_seated, .ref m_isSeated, .ref m_tape, .ref m_rTests, .ref m_tField, .ref m_tSign, .ref m_tNumber, .ref m_tNot, .ref m_tOr, .ref m_minute, .ref m_round, .ref m_laneCrew, .ref m_laneTime, .ref m_gone, .ref m_struck, .ref m_wasRun, .ref m_wait, .ref m_current, .ref m_finals, .ref m_bestTime, .ref m_inFinal, .ref m_pick, .ref m_found, .ref m_fresh, .ref m_at, .long 0, .long 0, .int 0, .int 0])), (m_tape, .inl (cm_tape, 120, .inl (upd (upd (fun _ => 0) (0 : Int32).toNatClampNeg z35) (1 : Int32).toNatClampNeg z38)))] := hD
        refine lv_lload_n hx hb dX10_feed_53 rfl (lv_at hl 2 rfl) ?_
        refine lv_bipush (v := 8) hx hb dX10_feed_54 (by decide +kernel) ?_
        refine lv_iload hx hb dX10_feed_56 (lv_at hl 0 rfl) ?_
        refine lv_imul hx hb dX10_feed_58 ?_
        refine ti_eq (y := 16) (by decide +kernel) ?_
        refine lv_lshr hx hb dX10_feed_59 rfl ?_
        refine lv_topl (fun z39 _ => ?_)
        refine lv_ldc2 (v := 255) hx hb hown (hts (.constantLong RX10 162 (255)) (List.mem_of_getElem? (i := 3) rfl)) dX10_feed_60 ?_
        refine lv_land hx hb dX10_feed_63 ?_
        refine lv_topl (fun z40 _ => ?_)
        refine lv_l2i hx hb dX10_feed_64 rfl ?_
        refine lv_topi (fun z41 _ => ?_)
        refine va_iast hx hb hK hP hD hS 1 0 rfl rfl (by unfold vp_in; decide +kernel) dX10_feed_65 (fun H locs hP hD hS => ?_)
        have hP : va_P (dC, dI) vwCl [(h0, .inr (10, [.int 0, .int 0, .int 0, .int 0, .int 3, .int 10, .int 0, .int 0, .ref m_weight, .ref m_strength, .ref m_arm, .ref m_sex, .ref m_age, .ref m_likes, .ref m_rows, .ref m_drummer, .ref m_members, .ref m_beat, .ref m_member, .ref m_seated, .ref m_isSeated, .ref m_tape, .ref m_rTests, .ref m_tField, .ref m_tSign, .ref m_tNumber, .ref m_tNot, .ref m_tOr, .ref m_minute, .ref m_round, .ref m_laneCrew, .ref m_laneTime, .ref m_gone, .ref m_struck, .ref m_wasRun, .ref m_wait, .ref m_current, .ref m_finals, .ref m_bestTime, .ref m_inFinal, .ref m_pick, .ref m_found, .ref m_fresh, .ref m_at, .long 0, .long 0, .int 0, .int 0])), (m_tape, .inl (cm_tape, 120, .inl (upd (upd (upd (fun _ => 0) (0 : Int32).toNatClampNeg z35) (1 : Int32).toNatClampNeg z38) (2 : Int32).toNatClampNeg z41)))] H := hP
        have hD : va_D A [(h0, .inr (10, [.int 0, .int 0, .int 0, .int 0, .int 3, .int 10, .int 0, .int 0, .ref m_weight, .ref m_strength, .ref m_arm, .ref m_sex, .ref m_age, .ref m_likes, .ref m_rows, .ref m_drummer, .ref m_members, .ref m_beat, .ref m_member, .ref m_seated, .ref m_isSeated, .ref m_tape, .ref m_rTests, .ref m_tField, .ref m_tSign, .ref m_tNumber, .ref m_tNot, .ref m_tOr, .ref m_minute, .ref m_round, .ref m_laneCrew, .ref m_laneTime, .ref m_gone, .ref m_struck, .ref m_wasRun, .ref m_wait, .ref m_current, .ref m_finals, .ref m_bestTime, .ref m_inFinal, .ref m_pick, .ref m_found, .ref m_fresh, .ref m_at, .long 0, .long 0, .int 0, .int 0])), (m_tape, .inl (cm_tape, 120, .inl (upd (upd (upd (fun _ => 0) (0 : Int32).toNatClampNeg z35) (1 : Int32).toNatClampNeg z38) (2 : Int32).toNatClampNeg z41)))] := hD
        refine lv_iinc (v := 1) (lv' := [(4, .int 1), (0, .ref h0), (1, .long w), (3, .int 5)]) hx hb dX10_feed_66 hl (k := 0) rfl (by decide +kernel) (by decide) rfl (fun ls hl => ?_)
        refine lv_goto (tgt := 33) hx hb dX10_feed_69 (by decide) ?_
        refine lv_iload hx hb dX10_feed_33 (lv_at hl 0 rfl) ?_
        refine lv_if_lt (tgt := 72) hx hb dX10_feed_35 (by decide) (fun c9 => absurd c9 (by decide +kernel)) (fun _ => ?_)
        refine lv_aload_n hx hb dX10_feed_38 rfl (lv_at hl 1 rfl) ?_
        refine va_get (D := (dC, dI)) (ci := 10) (v := .ref m_tape) (C := RX10) (T := TX10) (N := 48) hx hb hts (fun _ h => List.mem_cons_of_mem _ (List.mem_append_right _ h)) hown hK hP 0 rfl rfl 21 (by decide) (hts (.fieldLink RX10 56 "DrumBoatsModel" "tape" "[I") (List.mem_of_getElem? (i := 2) rfl)) (fun _ h9 => h9) rfl dX10_feed_39 ?_
        refine lv_aload_n hx hb dX10_feed_42 rfl (lv_at hl 1 rfl) ?_
        refine lv_dup hx hb dX10_feed_43 rfl ?_
        refine va_get (D := (dC, dI)) (ci := 10) (v := .int 3) (C := RX10) (T := TX10) (N := 48) hx hb hts (fun _ h => List.mem_cons_of_mem _ (List.mem_append_right _ h)) hown hK hP 0 rfl rfl 4 (by decide) (hts (.fieldLink RX10 159 "DrumBoatsModel" "tapeN" "I") (List.mem_of_getElem? (i := 1) rfl)) (fun _ h9 => h9) rfl dX10_feed_44 ?_
        refine lv_dup_x1 hx hb dX10_feed_47 rfl rfl ?_
        refine lv_iconst (v := 1) hx hb dX10_feed_48 (by decide +kernel) ?_
        refine lv_iadd hx hb dX10_feed_49 ?_
        refine ti_eq (y := 4) (by decide +kernel) ?_
        refine va_put (D := (dC, dI)) (ci := 10) (v := .int 4) (ty := .int) (C := RX10) (T := TX10) (N := 48) hx hb hts (fun _ h => List.mem_cons_of_mem _ (List.mem_append_right _ h)) tyX10 tyX10_ok nmX10 hown hK hP hD hS 0 rfl rfl 4 (by decide) (hts (.fieldLink RX10 159 "DrumBoatsModel" "tapeN" "I") (List.mem_of_getElem? (i := 1) rfl)) (fun _ h9 => h9) rfl (by decide +kernel) rfl rfl (Nat.le_of_ble_eq_true rfl) dX10_feed_50 (fun H locs hP hD hS => ?_)
        have hP : va_P (dC, dI) vwCl [(h0, .inr (10, [.int 0, .int 0, .int 0, .int 0, .int 4, .int 10, .int 0, .int 0, .ref m_weight, .ref m_strength, .ref m_arm, .ref m_sex, .ref m_age, .ref m_likes, .ref m_rows, .ref m_drummer, .ref m_members, .ref m_beat, .ref m_member, .ref m_seated, .ref m_isSeated, .ref m_tape, .ref m_rTests, .ref m_tField, .ref m_tSign, .ref m_tNumber, .ref m_tNot, .ref m_tOr, .ref m_minute, .ref m_round, .ref m_laneCrew, .ref m_laneTime, .ref m_gone, .ref m_struck, .ref m_wasRun, .ref m_wait, .ref m_current, .ref m_finals, .ref m_bestTime, .ref m_inFinal, .ref m_pick, .ref m_found, .ref m_fresh, .ref m_at, .long 0, .long 0, .int 0, .int 0])), (m_tape, .inl (cm_tape, 120, .inl (upd (upd (upd (fun _ => 0) (0 : Int32).toNatClampNeg z35) (1 : Int32).toNatClampNeg z38) (2 : Int32).toNatClampNeg z41)))] H := hP
        have hD : va_D A [(h0, .inr (10, [.int 0, .int 0, .int 0, .int 0, .int 4, .int 10, .int 0, .int 0, .ref m_weight, .ref m_strength, .ref m_arm, .ref m_sex, .ref m_age, .ref m_likes, .ref m_rows, .ref m_drummer, .ref m_members, .ref m_beat, .ref m_member, .ref m_seated, .ref m_isSeated, .ref m_tape, .ref m_rTests, .ref m_tField, .ref m_tSign, .ref m_tNumber, .ref m_tNot, .ref m_tOr, .ref m_minute, .ref m_round, .ref m_laneCrew, .ref m_laneTime, .ref m_gone, .ref m_struck, .ref m_wasRun, .ref m_wait, .ref m_current, .ref m_finals, .ref m_bestTime, .ref m_inFinal, .ref m_pick, .ref m_found, .ref m_fresh, .ref m_at, .long 0, .long 0, .int 0, .int 0])), (m_tape, .inl (cm_tape, 120, .inl (upd (upd (upd (fun _ => 0) (0 : Int32).toNatClampNeg z35) (1 : Int32).toNatClampNeg z38) (2 : Int32).toNatClampNeg z41)))] := hD
        refine lv_lload_n hx hb dX10_feed_53 rfl (lv_at hl 2 rfl) ?_
        refine lv_bipush (v := 8) hx hb dX10_feed_54 (by decide +kernel) ?_
        refine lv_iload hx hb dX10_feed_56 (lv_at hl 0 rfl) ?_
        refine lv_imul hx hb dX10_feed_58 ?_
        refine ti_eq (y := 8) (by decide +kernel) ?_
        refine lv_lshr hx hb dX10_feed_59 rfl ?_
        refine lv_topl (fun z42 _ => ?_)
        refine lv_ldc2 (v := 255) hx hb hown (hts (.constantLong RX10 162 (255)) (List.mem_of_getElem? (i := 3) rfl)) dX10_feed_60 ?_
        refine lv_land hx hb dX10_feed_63 ?_
        refine lv_topl (fun z43 _ => ?_)
        refine lv_l2i hx hb dX10_feed_64 rfl ?_
        refine lv_topi (fun z44 _ => ?_)
        refine va_iast hx hb hK hP hD hS 1 0 rfl rfl (by unfold vp_in; decide +kernel) dX10_feed_65 (fun H locs hP hD hS => ?_)
        have hP : va_P (dC, dI) vwCl [(h0, .inr (10, [.int 0, .int 0, .int 0, .int 0, .int 4, .int 10, .int 0, .int 0, .ref m_weight, .ref m_strength, .ref m_arm, .ref m_sex, .ref m_age, .ref m_likes, .ref m_rows, .ref m_drummer, .ref m_members, .ref m_beat, .ref m_member, .ref m_seated, .ref m_isSeated, .ref m_tape, .ref m_rTests, .ref m_tField, .ref m_tSign, .ref m_tNumber, .ref m_tNot, .ref m_tOr, .ref m_minute, .ref m_round, .ref m_laneCrew, .ref m_laneTime, .ref m_gone, .ref m_struck, .ref m_wasRun, .ref m_wait, .ref m_current, .ref m_finals, .ref m_bestTime, .ref m_inFinal, .ref m_pick, .ref m_found, .ref m_fresh, .ref m_at, .long 0, .long 0, .int 0, .int 0])), (m_tape, .inl (cm_tape, 120, .inl (upd (upd (upd (upd (fun _ => 0) (0 : Int32).toNatClampNeg z35) (1 : Int32).toNatClampNeg z38) (2 : Int32).toNatClampNeg z41) (3 : Int32).toNatClampNeg z44)))] H := hP
        have hD : va_D A [(h0, .inr (10, [.int 0, .int 0, .int 0, .int 0, .int 4, .int 10, .int 0, .int 0, .ref m_weight, .ref m_strength, .ref m_arm, .ref m_sex, .ref m_age, .ref m_likes, .ref m_rows, .ref m_drummer, .ref m_members, .ref m_beat, .ref m_member, .ref m_seated, .ref m_isSeated, .ref m_tape, .ref m_rTests, .ref m_tField, .ref m_tSign, .ref m_tNumber, .ref m_tNot, .ref m_tOr, .ref m_minute, .ref m_round, .ref m_laneCrew, .ref m_laneTime, .ref m_gone, .ref m_struck, .ref m_wasRun, .ref m_wait, .ref m_current, .ref m_finals, .ref m_bestTime, .ref m_inFinal, .ref m_pick, .ref m_found, .ref m_fresh, .ref m_at, .long 0, .long 0, .int 0, .int 0])), (m_tape, .inl (cm_tape, 120, .inl (upd (upd (upd (upd (fun _ => 0) (0 : Int32).toNatClampNeg z35) (1 : Int32).toNatClampNeg z38) (2 : Int32).toNatClampNeg z41) (3 : Int32).toNatClampNeg z44)))] := hD
        refine lv_iinc (v := 0) (lv' := [(4, .int 0), (0, .ref h0), (1, .long w), (3, .int 5)]) hx hb dX10_feed_66 hl (k := 0) rfl (by decide +kernel) (by decide) rfl (fun ls hl => ?_)
        refine lv_goto (tgt := 33) hx hb dX10_feed_69 (by decide) ?_
        refine lv_iload hx hb dX10_feed_33 (lv_at hl 0 rfl) ?_
        refine lv_if_lt (tgt := 72) hx hb dX10_feed_35 (by decide) (fun c9 => absurd c9 (by decide +kernel)) (fun _ => ?_)
        refine lv_aload_n hx hb dX10_feed_38 rfl (lv_at hl 1 rfl) ?_
        refine va_get (D := (dC, dI)) (ci := 10) (v := .ref m_tape) (C := RX10) (T := TX10) (N := 48) hx hb hts (fun _ h => List.mem_cons_of_mem _ (List.mem_append_right _ h)) hown hK hP 0 rfl rfl 21 (by decide) (hts (.fieldLink RX10 56 "DrumBoatsModel" "tape" "[I") (List.mem_of_getElem? (i := 2) rfl)) (fun _ h9 => h9) rfl dX10_feed_39 ?_
        refine lv_aload_n hx hb dX10_feed_42 rfl (lv_at hl 1 rfl) ?_
        refine lv_dup hx hb dX10_feed_43 rfl ?_
        refine va_get (D := (dC, dI)) (ci := 10) (v := .int 4) (C := RX10) (T := TX10) (N := 48) hx hb hts (fun _ h => List.mem_cons_of_mem _ (List.mem_append_right _ h)) hown hK hP 0 rfl rfl 4 (by decide) (hts (.fieldLink RX10 159 "DrumBoatsModel" "tapeN" "I") (List.mem_of_getElem? (i := 1) rfl)) (fun _ h9 => h9) rfl dX10_feed_44 ?_
        refine lv_dup_x1 hx hb dX10_feed_47 rfl rfl ?_
        refine lv_iconst (v := 1) hx hb dX10_feed_48 (by decide +kernel) ?_
        refine lv_iadd hx hb dX10_feed_49 ?_
        refine ti_eq (y := 5) (by decide +kernel) ?_
        refine va_put (D := (dC, dI)) (ci := 10) (v := .int 5) (ty := .int) (C := RX10) (T := TX10) (N := 48) hx hb hts (fun _ h => List.mem_cons_of_mem _ (List.mem_append_right _ h)) tyX10 tyX10_ok nmX10 hown hK hP hD hS 0 rfl rfl 4 (by decide) (hts (.fieldLink RX10 159 "DrumBoatsModel" "tapeN" "I") (List.mem_of_getElem? (i := 1) rfl)) (fun _ h9 => h9) rfl (by decide +kernel) rfl rfl (Nat.le_of_ble_eq_true rfl) dX10_feed_50 (fun H locs hP hD hS => ?_)
        have hP : va_P (dC, dI) vwCl [(h0, .inr (10, [.int 0, .int 0, .int 0, .int 0, .int 5, .int 10, .int 0, .int 0, .ref m_weight, .ref m_strength, .ref m_arm, .ref m_sex, .ref m_age, .ref m_likes, .ref m_rows, .ref m_drummer, .ref m_members, .ref m_beat, .ref m_member, .ref m_seated, .ref m_isSeated, .ref m_tape, .ref m_rTests, .ref m_tField, .ref m_tSign, .ref m_tNumber, .ref m_tNot, .ref m_tOr, .ref m_minute, .ref m_round, .ref m_laneCrew, .ref m_laneTime, .ref m_gone, .ref m_struck, .ref m_wasRun, .ref m_wait, .ref m_current, .ref m_finals, .ref m_bestTime, .ref m_inFinal, .ref m_pick, .ref m_found, .ref m_fresh, .ref m_at, .long 0, .long 0, .int 0, .int 0])), (m_tape, .inl (cm_tape, 120, .inl (upd (upd (upd (upd (fun _ => 0) (0 : Int32).toNatClampNeg z35) (1 : Int32).toNatClampNeg z38) (2 : Int32).toNatClampNeg z41) (3 : Int32).toNatClampNeg z44)))] H := hP
        have hD : va_D A [(h0, .inr (10, [.int 0, .int 0, .int 0, .int 0, .int 5, .int 10, .int 0, .int 0, .ref m_weight, .ref m_strength, .ref m_arm, .ref m_sex, .ref m_age, .ref m_likes, .ref m_rows, .ref m_drummer, .ref m_members, .ref m_beat, .ref m_member, .ref m_seated, .ref m_isSeated, .ref m_tape, .ref m_rTests, .ref m_tField, .ref m_tSign, .ref m_tNumber, .ref m_tNot, .ref m_tOr, .ref m_minute, .ref m_round, .ref m_laneCrew, .ref m_laneTime, .ref m_gone, .ref m_struck, .ref m_wasRun, .ref m_wait, .ref m_current, .ref m_finals, .ref m_bestTime, .ref m_inFinal, .ref m_pick, .ref m_found, .ref m_fresh, .ref m_at, .long 0, .long 0, .int 0, .int 0])), (m_tape, .inl (cm_tape, 120, .inl (upd (upd (upd (upd (fun _ => 0) (0 : Int32).toNatClampNeg z35) (1 : Int32).toNatClampNeg z38) (2 : Int32).toNatClampNeg z41) (3 : Int32).toNatClampNeg z44)))] := hD
        refine lv_lload_n hx hb dX10_feed_53 rfl (lv_at hl 2 rfl) ?_
        refine lv_bipush (v := 8) hx hb dX10_feed_54 (by decide +kernel) ?_
        refine lv_iload hx hb dX10_feed_56 (lv_at hl 0 rfl) ?_
        refine lv_imul hx hb dX10_feed_58 ?_
        refine ti_eq (y := 0) (by decide +kernel) ?_
        refine lv_lshr hx hb dX10_feed_59 rfl ?_
        refine lv_topl (fun z45 _ => ?_)
        refine lv_ldc2 (v := 255) hx hb hown (hts (.constantLong RX10 162 (255)) (List.mem_of_getElem? (i := 3) rfl)) dX10_feed_60 ?_
        refine lv_land hx hb dX10_feed_63 ?_
        refine lv_topl (fun z46 _ => ?_)
        refine lv_l2i hx hb dX10_feed_64 rfl ?_
        refine lv_topi (fun z47 _ => ?_)
        refine va_iast hx hb hK hP hD hS 1 0 rfl rfl (by unfold vp_in; decide +kernel) dX10_feed_65 (fun H locs hP hD hS => ?_)
        have hP : va_P (dC, dI) vwCl [(h0, .inr (10, [.int 0, .int 0, .int 0, .int 0, .int 5, .int 10, .int 0, .int 0, .ref m_weight, .ref m_strength, .ref m_arm, .ref m_sex, .ref m_age, .ref m_likes, .ref m_rows, .ref m_drummer, .ref m_members, .ref m_beat, .ref m_member, .ref m_seated, .ref m_isSeated, .ref m_tape, .ref m_rTests, .ref m_tField, .ref m_tSign, .ref m_tNumber, .ref m_tNot, .ref m_tOr, .ref m_minute, .ref m_round, .ref m_laneCrew, .ref m_laneTime, .ref m_gone, .ref m_struck, .ref m_wasRun, .ref m_wait, .ref m_current, .ref m_finals, .ref m_bestTime, .ref m_inFinal, .ref m_pick, .ref m_found, .ref m_fresh, .ref m_at, .long 0, .long 0, .int 0, .int 0])), (m_tape, .inl (cm_tape, 120, .inl (upd (upd (upd (upd (upd (fun _ => 0) (0 : Int32).toNatClampNeg z35) (1 : Int32).toNatClampNeg z38) (2 : Int32).toNatClampNeg z41) (3 : Int32).toNatClampNeg z44) (4 : Int32).toNatClampNeg z47)))] H := hP
        have hD : va_D A [(h0, .inr (10, [.int 0, .int 0, .int 0, .int 0, .int 5, .int 10, .int 0, .int 0, .ref m_weight, .ref m_strength, .ref m_arm, .ref m_sex, .ref m_age, .ref m_likes, .ref m_rows, .ref m_drummer, .ref m_members, .ref m_beat, .ref m_member, .ref m_seated, .ref m_isSeated, .ref m_tape, .ref m_rTests, .ref m_tField, .ref m_tSign, .ref m_tNumber, .ref m_tNot, .ref m_tOr, .ref m_minute, .ref m_round, .ref m_laneCrew, .ref m_laneTime, .ref m_gone, .ref m_struck, .ref m_wasRun, .ref m_wait, .ref m_current, .ref m_finals, .ref m_bestTime, .ref m_inFinal, .ref m_pick, .ref m_found, .ref m_fresh, .ref m_at, .long 0, .long 0, .int 0, .int 0])), (m_tape, .inl (cm_tape, 120, .inl (upd (upd (upd (upd (upd (fun _ => 0) (0 : Int32).toNatClampNeg z35) (1 : Int32).toNatClampNeg z38) (2 : Int32).toNatClampNeg z41) (3 : Int32).toNatClampNeg z44) (4 : Int32).toNatClampNeg z47)))] := hD
        refine lv_iinc (v := (-1)) (lv' := [(4, .int (-1)), (0, .ref h0), (1, .long w), (3, .int 5)]) hx hb dX10_feed_66 hl (k := 0) rfl (by decide +kernel) (by decide) rfl (fun ls hl => ?_)
        refine lv_goto (tgt := 33) hx hb dX10_feed_69 (by decide) ?_
        refine lv_iload hx hb dX10_feed_33 (lv_at hl 0 rfl) ?_
        refine lv_if_lt (tgt := 72) hx hb dX10_feed_35 (by decide) (fun _ => ?_) (fun c9 => absurd c9 (by decide +kernel))
        refine lv_aload_n hx hb dX10_feed_72 rfl (lv_at hl 1 rfl) ?_
        refine va_get (D := (dC, dI)) (ci := 10) (v := .int 5) (C := RX10) (T := TX10) (N := 48) hx hb hts (fun _ h => List.mem_cons_of_mem _ (List.mem_append_right _ h)) hown hK hP 0 rfl rfl 4 (by decide) (hts (.fieldLink RX10 159 "DrumBoatsModel" "tapeN" "I") (List.mem_of_getElem? (i := 1) rfl)) (fun _ h9 => h9) rfl dX10_feed_73 ?_
        refine W.widen (k := 0) (n := 0) (Nat.le_of_ble_eq_true rfl) (Nat.le_of_ble_eq_true rfl) ?_
        exact W.iret (v := 5) hx hb hr (fun t ht hW => ⟨⟨5, (), rfl, (by first | rfl | decide | (unfold f_feed; (repeat' split) <;> first | rfl | omega)), trivial⟩, hS.F ht⟩) hS.2.2 dX10_feed_76
      · refine lv_aload_n hx hb dX10_feed_14 rfl (lv_at hl 0 rfl) ?_
        refine va_get (D := (dC, dI)) (ci := 10) (v := .int 0) (C := RX10) (T := TX10) (N := 48) hx hb hts (fun _ h => List.mem_cons_of_mem _ (List.mem_append_right _ h)) hown hK hP 0 rfl rfl 4 (by decide) (hts (.fieldLink RX10 159 "DrumBoatsModel" "tapeN" "I") (List.mem_of_getElem? (i := 1) rfl)) (fun _ h9 => h9) rfl dX10_feed_15 ?_
        refine lv_iload_n hx hb dX10_feed_18 rfl (lv_at hl 2 rfl) ?_
        refine lv_iadd hx hb dX10_feed_19 ?_
        refine ti_eq (y := 6) (by decide +kernel) ?_
        refine lv_bipush (v := 120) hx hb dX10_feed_20 (by decide +kernel) ?_
        refine lv_icmp_le (tgt := 28) hx hb dX10_feed_22 (by decide) (fun _ => ?_) (fun c9 => absurd c9 (by decide +kernel))
        refine lv_iload_n hx hb dX10_feed_28 rfl (lv_at hl 2 rfl) ?_
        refine lv_iconst (v := 1) hx hb dX10_feed_29 (by decide +kernel) ?_
        refine lv_isub hx hb dX10_feed_30 ?_
        refine ti_eq (y := 5) (by decide +kernel) ?_
        refine lv_istore (lv' := [(4, .int 5), (0, .ref h0), (1, .long w), (3, .int 6)]) hx hb dX10_feed_31 hl (by decide) rfl (fun ls hl => ?_)
        refine lv_iload hx hb dX10_feed_33 (lv_at hl 0 rfl) ?_
        refine lv_if_lt (tgt := 72) hx hb dX10_feed_35 (by decide) (fun c9 => absurd c9 (by decide +kernel)) (fun _ => ?_)
        refine lv_aload_n hx hb dX10_feed_38 rfl (lv_at hl 1 rfl) ?_
        refine va_get (D := (dC, dI)) (ci := 10) (v := .ref m_tape) (C := RX10) (T := TX10) (N := 48) hx hb hts (fun _ h => List.mem_cons_of_mem _ (List.mem_append_right _ h)) hown hK hP 0 rfl rfl 21 (by decide) (hts (.fieldLink RX10 56 "DrumBoatsModel" "tape" "[I") (List.mem_of_getElem? (i := 2) rfl)) (fun _ h9 => h9) rfl dX10_feed_39 ?_
        refine lv_aload_n hx hb dX10_feed_42 rfl (lv_at hl 1 rfl) ?_
        refine lv_dup hx hb dX10_feed_43 rfl ?_
        refine va_get (D := (dC, dI)) (ci := 10) (v := .int 0) (C := RX10) (T := TX10) (N := 48) hx hb hts (fun _ h => List.mem_cons_of_mem _ (List.mem_append_right _ h)) hown hK hP 0 rfl rfl 4 (by decide) (hts (.fieldLink RX10 159 "DrumBoatsModel" "tapeN" "I") (List.mem_of_getElem? (i := 1) rfl)) (fun _ h9 => h9) rfl dX10_feed_44 ?_
        refine lv_dup_x1 hx hb dX10_feed_47 rfl rfl ?_
        refine lv_iconst (v := 1) hx hb dX10_feed_48 (by decide +kernel) ?_
        refine lv_iadd hx hb dX10_feed_49 ?_
        refine ti_eq (y := 1) (by decide +kernel) ?_
        refine va_put (D := (dC, dI)) (ci := 10) (v := .int 1) (ty := .int) (C := RX10) (T := TX10) (N := 48) hx hb hts (fun _ h => List.mem_cons_of_mem _ (List.mem_append_right _ h)) tyX10 tyX10_ok nmX10 hown hK hP hD hS 0 rfl rfl 4 (by decide) (hts (.fieldLink RX10 159 "DrumBoatsModel" "tapeN" "I") (List.mem_of_getElem? (i := 1) rfl)) (fun _ h9 => h9) rfl (by decide +kernel) rfl rfl (Nat.le_of_ble_eq_true rfl) dX10_feed_50 (fun H locs hP hD hS => ?_)
        have hP : va_P (dC, dI) vwCl [(h0, .inr (10, [.int 0, .int 0, .int 0, .int 0, .int 1, .int 10, .int 0, .int 0, .ref m_weight, .ref m_strength, .ref m_arm, .ref m_sex, .ref m_age, .ref m_likes, .ref m_rows, .ref m_drummer, .ref m_members, .ref m_beat, .ref m_member, .ref m_seated, .ref m_isSeated, .ref m_tape, .ref m_rTests, .ref m_tField, .ref m_tSign, .ref m_tNumber, .ref m_tNot, .ref m_tOr, .ref m_minute, .ref m_round, .ref m_laneCrew, .ref m_laneTime, .ref m_gone, .ref m_struck, .ref m_wasRun, .ref m_wait, .ref m_current, .ref m_finals, .ref m_bestTime, .ref m_inFinal, .ref m_pick, .ref m_found, .ref m_fresh, .ref m_at, .long 0, .long 0, .int 0, .int 0])), (m_tape, .inl (cm_tape, 120, .inl (fun _ => 0)))] H := hP
        have hD : va_D A [(h0, .inr (10, [.int 0, .int 0, .int 0, .int 0, .int 1, .int 10, .int 0, .int 0, .ref m_weight, .ref m_strength, .ref m_arm, .ref m_sex, .ref m_age, .ref m_likes, .ref m_rows, .ref m_drummer, .ref m_members, .ref m_beat, .ref m_member, .ref m_seated, .ref m_isSeated, .ref m_tape, .ref m_rTests, .ref m_tField, .ref m_tSign, .ref m_tNumber, .ref m_tNot, .ref m_tOr, .ref m_minute, .ref m_round, .ref m_laneCrew, .ref m_laneTime, .ref m_gone, .ref m_struck, .ref m_wasRun, .ref m_wait, .ref m_current, .ref m_finals, .ref m_bestTime, .ref m_inFinal, .ref m_pick, .ref m_found, .ref m_fresh, .ref m_at, .long 0, .long 0, .int 0, .int 0])), (m_tape, .inl (cm_tape, 120, .inl (fun _ => 0)))] := hD
        refine lv_lload_n hx hb dX10_feed_53 rfl (lv_at hl 2 rfl) ?_
        refine lv_bipush (v := 8) hx hb dX10_feed_54 (by decide +kernel) ?_
        refine lv_iload hx hb dX10_feed_56 (lv_at hl 0 rfl) ?_
        refine lv_imul hx hb dX10_feed_58 ?_
        refine ti_eq (y := 40) (by decide +kernel) ?_
        refine lv_lshr hx hb dX10_feed_59 rfl ?_
        refine lv_topl (fun z48 _ => ?_)
        refine lv_ldc2 (v := 255) hx hb hown (hts (.constantLong RX10 162 (255)) (List.mem_of_getElem? (i := 3) rfl)) dX10_feed_60 ?_
        refine lv_land hx hb dX10_feed_63 ?_
        refine lv_topl (fun z49 _ => ?_)
        refine lv_l2i hx hb dX10_feed_64 rfl ?_
        refine lv_topi (fun z50 _ => ?_)
        refine va_iast hx hb hK hP hD hS 1 0 rfl rfl (by unfold vp_in; decide +kernel) dX10_feed_65 (fun H locs hP hD hS => ?_)
        have hP : va_P (dC, dI) vwCl [(h0, .inr (10, [.int 0, .int 0, .int 0, .int 0, .int 1, .int 10, .int 0, .int 0, .ref m_weight, .ref m_strength, .ref m_arm, .ref m_sex, .ref m_age, .ref m_likes, .ref m_rows, .ref m_drummer, .ref m_members, .ref m_beat, .ref m_member, .ref m_seated, .ref m_isSeated, .ref m_tape, .ref m_rTests, .ref m_tField, .ref m_tSign, .ref m_tNumber, .ref m_tNot, .ref m_tOr, .ref m_minute, .ref m_round, .ref m_laneCrew, .ref m_laneTime, .ref m_gone, .ref m_struck, .ref m_wasRun, .ref m_wait, .ref m_current, .ref m_finals, .ref m_bestTime, .ref m_inFinal, .ref m_pick, .ref m_found, .ref m_fresh, .ref m_at, .long 0, .long 0, .int 0, .int 0])), (m_tape, .inl (cm_tape, 120, .inl (upd (fun _ => 0) (0 : Int32).toNatClampNeg z50)))] H := hP
        have hD : va_D A [(h0, .inr (10, [.int 0, .int 0, .int 0, .int 0, .int 1, .int 10, .int 0, .int 0, .ref m_weight, .ref m_strength, .ref m_arm, .ref m_sex, .ref m_age, .ref m_likes, .ref m_rows, .ref m_drummer, .ref m_members, .ref m_beat, .ref m_member, .ref m_seated, .ref m_isSeated, .ref m_tape, .ref m_rTests, .ref m_tField, .ref m_tSign, .ref m_tNumber, .ref m_tNot, .ref m_tOr, .ref m_minute, .ref m_round, .ref m_laneCrew, .ref m_laneTime, .ref m_gone, .ref m_struck, .ref m_wasRun, .ref m_wait, .ref m_current, .ref m_finals, .ref m_bestTime, .ref m_inFinal, .ref m_pick, .ref m_found, .ref m_fresh, .ref m_at, .long 0, .long 0, .int 0, .int 0])), (m_tape, .inl (cm_tape, 120, .inl (upd (fun _ => 0) (0 : Int32).toNatClampNeg z50)))] := hD
        refine lv_iinc (v := 4) (lv' := [(4, .int 4), (0, .ref h0), (1, .long w), (3, .int 6)]) hx hb dX10_feed_66 hl (k := 0) rfl (by decide +kernel) (by decide) rfl (fun ls hl => ?_)
        refine lv_goto (tgt := 33) hx hb dX10_feed_69 (by decide) ?_
        refine lv_iload hx hb dX10_feed_33 (lv_at hl 0 rfl) ?_
        refine lv_if_lt (tgt := 72) hx hb dX10_feed_35 (by decide) (fun c9 => absurd c9 (by decide +kernel)) (fun _ => ?_)
        refine lv_aload_n hx hb dX10_feed_38 rfl (lv_at hl 1 rfl) ?_
        refine va_get (D := (dC, dI)) (ci := 10) (v := .ref m_tape) (C := RX10) (T := TX10) (N := 48) hx hb hts (fun _ h => List.mem_cons_of_mem _ (List.mem_append_right _ h)) hown hK hP 0 rfl rfl 21 (by decide) (hts (.fieldLink RX10 56 "DrumBoatsModel" "tape" "[I") (List.mem_of_getElem? (i := 2) rfl)) (fun _ h9 => h9) rfl dX10_feed_39 ?_
        refine lv_aload_n hx hb dX10_feed_42 rfl (lv_at hl 1 rfl) ?_
        refine lv_dup hx hb dX10_feed_43 rfl ?_
        refine va_get (D := (dC, dI)) (ci := 10) (v := .int 1) (C := RX10) (T := TX10) (N := 48) hx hb hts (fun _ h => List.mem_cons_of_mem _ (List.mem_append_right _ h)) hown hK hP 0 rfl rfl 4 (by decide) (hts (.fieldLink RX10 159 "DrumBoatsModel" "tapeN" "I") (List.mem_of_getElem? (i := 1) rfl)) (fun _ h9 => h9) rfl dX10_feed_44 ?_
        refine lv_dup_x1 hx hb dX10_feed_47 rfl rfl ?_
        refine lv_iconst (v := 1) hx hb dX10_feed_48 (by decide +kernel) ?_
        refine lv_iadd hx hb dX10_feed_49 ?_
        refine ti_eq (y := 2) (by decide +kernel) ?_
        refine va_put (D := (dC, dI)) (ci := 10) (v := .int 2) (ty := .int) (C := RX10) (T := TX10) (N := 48) hx hb hts (fun _ h => List.mem_cons_of_mem _ (List.mem_append_right _ h)) tyX10 tyX10_ok nmX10 hown hK hP hD hS 0 rfl rfl 4 (by decide) (hts (.fieldLink RX10 159 "DrumBoatsModel" "tapeN" "I") (List.mem_of_getElem? (i := 1) rfl)) (fun _ h9 => h9) rfl (by decide +kernel) rfl rfl (Nat.le_of_ble_eq_true rfl) dX10_feed_50 (fun H locs hP hD hS => ?_)
        have hP : va_P (dC, dI) vwCl [(h0, .inr (10, [.int 0, .int 0, .int 0, .int 0, .int 2, .int 10, .int 0, .int 0, .ref m_weight, .ref m_strength, .ref m_arm, .ref m_sex, .ref m_age, .ref m_likes, .ref m_rows, .ref m_drummer, .ref m_members, .ref m_beat, .ref m_member, .ref m_seated, .ref m_isSeated, .ref m_tape, .ref m_rTests, .ref m_tField, .ref m_tSign, .ref m_tNumber, .ref m_tNot, .ref m_tOr, .ref m_minute, .ref m_round, .ref m_laneCrew, .ref m_laneTime, .ref m_gone, .ref m_struck, .ref m_wasRun, .ref m_wait, .ref m_current, .ref m_finals, .ref m_bestTime, .ref m_inFinal, .ref m_pick, .ref m_found, .ref m_fresh, .ref m_at, .long 0, .long 0, .int 0, .int 0])), (m_tape, .inl (cm_tape, 120, .inl (upd (fun _ => 0) (0 : Int32).toNatClampNeg z50)))] H := hP
        have hD : va_D A [(h0, .inr (10, [.int 0, .int 0, .int 0, .int 0, .int 2, .int 10, .int 0, .int 0, .ref m_weight, .ref m_strength, .ref m_arm, .ref m_sex, .ref m_age, .ref m_likes, .ref m_rows, .ref m_drummer, .ref m_members, .ref m_beat, .ref m_member, .ref m_seated, .ref m_isSeated, .ref m_tape, .ref m_rTests, .ref m_tField, .ref m_tSign, .ref m_tNumber, .ref m_tNot, .ref m_tOr, .ref m_minute, .ref m_round, .ref m_laneCrew, .ref m_laneTime, .ref m_gone, .ref m_struck, .ref m_wasRun, .ref m_wait, .ref m_current, .ref m_finals, .ref m_bestTime, .ref m_inFinal, .ref m_pick, .ref m_found, .ref m_fresh, .ref m_at, .long 0, .long 0, .int 0, .int 0])), (m_tape, .inl (cm_tape, 120, .inl (upd (fun _ => 0) (0 : Int32).toNatClampNeg z50)))] := hD
        refine lv_lload_n hx hb dX10_feed_53 rfl (lv_at hl 2 rfl) ?_
        refine lv_bipush (v := 8) hx hb dX10_feed_54 (by decide +kernel) ?_
        refine lv_iload hx hb dX10_feed_56 (lv_at hl 0 rfl) ?_
        refine lv_imul hx hb dX10_feed_58 ?_
        refine ti_eq (y := 32) (by decide +kernel) ?_
        refine lv_lshr hx hb dX10_feed_59 rfl ?_
        refine lv_topl (fun z51 _ => ?_)
        refine lv_ldc2 (v := 255) hx hb hown (hts (.constantLong RX10 162 (255)) (List.mem_of_getElem? (i := 3) rfl)) dX10_feed_60 ?_
        refine lv_land hx hb dX10_feed_63 ?_
        refine lv_topl (fun z52 _ => ?_)
        refine lv_l2i hx hb dX10_feed_64 rfl ?_
        refine lv_topi (fun z53 _ => ?_)
        refine va_iast hx hb hK hP hD hS 1 0 rfl rfl (by unfold vp_in; decide +kernel) dX10_feed_65 (fun H locs hP hD hS => ?_)
        have hP : va_P (dC, dI) vwCl [(h0, .inr (10, [.int 0, .int 0, .int 0, .int 0, .int 2, .int 10, .int 0, .int 0, .ref m_weight, .ref m_strength, .ref m_arm, .ref m_sex, .ref m_age, .ref m_likes, .ref m_rows, .ref m_drummer, .ref m_members, .ref m_beat, .ref m_member, .ref m_seated, .ref m_isSeated, .ref m_tape, .ref m_rTests, .ref m_tField, .ref m_tSign, .ref m_tNumber, .ref m_tNot, .ref m_tOr, .ref m_minute, .ref m_round, .ref m_laneCrew, .ref m_laneTime, .ref m_gone, .ref m_struck, .ref m_wasRun, .ref m_wait, .ref m_current, .ref m_finals, .ref m_bestTime, .ref m_inFinal, .ref m_pick, .ref m_found, .ref m_fresh, .ref m_at, .long 0, .long 0, .int 0, .int 0])), (m_tape, .inl (cm_tape, 120, .inl (upd (upd (fun _ => 0) (0 : Int32).toNatClampNeg z50) (1 : Int32).toNatClampNeg z53)))] H := hP
        have hD : va_D A [(h0, .inr (10, [.int 0, .int 0, .int 0, .int 0, .int 2, .int 10, .int 0, .int 0, .ref m_weight, .ref m_strength, .ref m_arm, .ref m_sex, .ref m_age, .ref m_likes, .ref m_rows, .ref m_drummer, .ref m_members, .ref m_beat, .ref m_member, .ref m_seated, .ref m_isSeated, .ref m_tape, .ref m_rTests, .ref m_tField, .ref m_tSign, .ref m_tNumber, .ref m_tNot, .ref m_tOr, .ref m_minute, .ref m_round, .ref m_laneCrew, .ref m_laneTime, .ref m_gone, .ref m_struck, .ref m_wasRun, .ref m_wait, .ref m_current, .ref m_finals, .ref m_bestTime, .ref m_inFinal, .ref m_pick, .ref m_found, .ref m_fresh, .ref m_at, .long 0, .long 0, .int 0, .int 0])), (m_tape, .inl (cm_tape, 120, .inl (upd (upd (fun _ => 0) (0 : Int32).toNatClampNeg z50) (1 : Int32).toNatClampNeg z53)))] := hD
        refine lv_iinc (v := 3) (lv' := [(4, .int 3), (0, .ref h0), (1, .long w), (3, .int 6)]) hx hb dX10_feed_66 hl (k := 0) rfl (by decide +kernel) (by decide) rfl (fun ls hl => ?_)
        refine lv_goto (tgt := 33) hx hb dX10_feed_69 (by decide) ?_
        refine lv_iload hx hb dX10_feed_33 (lv_at hl 0 rfl) ?_
        refine lv_if_lt (tgt := 72) hx hb dX10_feed_35 (by decide) (fun c9 => absurd c9 (by decide +kernel)) (fun _ => ?_)
        refine lv_aload_n hx hb dX10_feed_38 rfl (lv_at hl 1 rfl) ?_
        refine va_get (D := (dC, dI)) (ci := 10) (v := .ref m_tape) (C := RX10) (T := TX10) (N := 48) hx hb hts (fun _ h => List.mem_cons_of_mem _ (List.mem_append_right _ h)) hown hK hP 0 rfl rfl 21 (by decide) (hts (.fieldLink RX10 56 "DrumBoatsModel" "tape" "[I") (List.mem_of_getElem? (i := 2) rfl)) (fun _ h9 => h9) rfl dX10_feed_39 ?_
        refine lv_aload_n hx hb dX10_feed_42 rfl (lv_at hl 1 rfl) ?_
        refine lv_dup hx hb dX10_feed_43 rfl ?_
        refine va_get (D := (dC, dI)) (ci := 10) (v := .int 2) (C := RX10) (T := TX10) (N := 48) hx hb hts (fun _ h => List.mem_cons_of_mem _ (List.mem_append_right _ h)) hown hK hP 0 rfl rfl 4 (by decide) (hts (.fieldLink RX10 159 "DrumBoatsModel" "tapeN" "I") (List.mem_of_getElem? (i := 1) rfl)) (fun _ h9 => h9) rfl dX10_feed_44 ?_
        refine lv_dup_x1 hx hb dX10_feed_47 rfl rfl ?_
        refine lv_iconst (v := 1) hx hb dX10_feed_48 (by decide +kernel) ?_
        refine lv_iadd hx hb dX10_feed_49 ?_
        refine ti_eq (y := 3) (by decide +kernel) ?_
        refine va_put (D := (dC, dI)) (ci := 10) (v := .int 3) (ty := .int) (C := RX10) (T := TX10) (N := 48) hx hb hts (fun _ h => List.mem_cons_of_mem _ (List.mem_append_right _ h)) tyX10 tyX10_ok nmX10 hown hK hP hD hS 0 rfl rfl 4 (by decide) (hts (.fieldLink RX10 159 "DrumBoatsModel" "tapeN" "I") (List.mem_of_getElem? (i := 1) rfl)) (fun _ h9 => h9) rfl (by decide +kernel) rfl rfl (Nat.le_of_ble_eq_true rfl) dX10_feed_50 (fun H locs hP hD hS => ?_)
        have hP : va_P (dC, dI) vwCl [(h0, .inr (10, [.int 0, .int 0, .int 0, .int 0, .int 3, .int 10, .int 0, .int 0, .ref m_weight, .ref m_strength, .ref m_arm, .ref m_sex, .ref m_age, .ref m_likes, .ref m_rows, .ref m_drummer, .ref m_members, .ref m_beat, .ref m_member, .ref m_seated, .ref m_isSeated, .ref m_tape, .ref m_rTests, .ref m_tField, .ref m_tSign, .ref m_tNumber, .ref m_tNot, .ref m_tOr, .ref m_minute, .ref m_round, .ref m_laneCrew, .ref m_laneTime, .ref m_gone, .ref m_struck, .ref m_wasRun, .ref m_wait, .ref m_current, .ref m_finals, .ref m_bestTime, .ref m_inFinal, .ref m_pick, .ref m_found, .ref m_fresh, .ref m_at, .long 0, .long 0, .int 0, .int 0])), (m_tape, .inl (cm_tape, 120, .inl (upd (upd (fun _ => 0) (0 : Int32).toNatClampNeg z50) (1 : Int32).toNatClampNeg z53)))] H := hP
        have hD : va_D A [(h0, .inr (10, [.int 0, .int 0, .int 0, .int 0, .int 3, .int 10, .int 0, .int 0, .ref m_weight, .ref m_strength, .ref m_arm, .ref m_sex, .ref m_age, .ref m_likes, .ref m_rows, .ref m_drummer, .ref m_members, .ref m_beat, .ref m_member, .ref m_seated, .ref m_isSeated, .ref m_tape, .ref m_rTests, .ref m_tField, .ref m_tSign, .ref m_tNumber, .ref m_tNot, .ref m_tOr, .ref m_minute, .ref m_round, .ref m_laneCrew, .ref m_laneTime, .ref m_gone, .ref m_struck, .ref m_wasRun, .ref m_wait, .ref m_current, .ref m_finals, .ref m_bestTime, .ref m_inFinal, .ref m_pick, .ref m_found, .ref m_fresh, .ref m_at, .long 0, .long 0, .int 0, .int 0])), (m_tape, .inl (cm_tape, 120, .inl (upd (upd (fun _ => 0) (0 : Int32).toNatClampNeg z50) (1 : Int32).toNatClampNeg z53)))] := hD
        refine lv_lload_n hx hb dX10_feed_53 rfl (lv_at hl 2 rfl) ?_
        refine lv_bipush (v := 8) hx hb dX10_feed_54 (by decide +kernel) ?_
        refine lv_iload hx hb dX10_feed_56 (lv_at hl 0 rfl) ?_
        refine lv_imul hx hb dX10_feed_58 ?_
        refine ti_eq (y := 24) (by decide +kernel) ?_
        refine lv_lshr hx hb dX10_feed_59 rfl ?_
        refine lv_topl (fun z54 _ => ?_)
        refine lv_ldc2 (v := 255) hx hb hown (hts (.constantLong RX10 162 (255)) (List.mem_of_getElem? (i := 3) rfl)) dX10_feed_60 ?_
        refine lv_land hx hb dX10_feed_63 ?_
        refine lv_topl (fun z55 _ => ?_)
        refine lv_l2i hx hb dX10_feed_64 rfl ?_
        refine lv_topi (fun z56 _ => ?_)
        refine va_iast hx hb hK hP hD hS 1 0 rfl rfl (by unfold vp_in; decide +kernel) dX10_feed_65 (fun H locs hP hD hS => ?_)
        have hP : va_P (dC, dI) vwCl [(h0, .inr (10, [.int 0, .int 0, .int 0, .int 0, .int 3, .int 10, .int 0, .int 0, .ref m_weight, .ref m_strength, .ref m_arm, .ref m_sex, .ref m_age, .ref m_likes, .ref m_rows, .ref m_drummer, .ref m_members, .ref m_beat, .ref m_member, .ref m_seated, .ref m_isSeated, .ref m_tape, .ref m_rTests, .ref m_tField, .ref m_tSign, .ref m_tNumber, .ref m_tNot, .ref m_tOr, .ref m_minute, .ref m_round, .ref m_laneCrew, .ref m_laneTime, .ref m_gone, .ref m_struck, .ref m_wasRun, .ref m_wait, .ref m_current, .ref m_finals, .ref m_bestTime, .ref m_inFinal, .ref m_pick, .ref m_found, .ref m_fresh, .ref m_at, .long 0, .long 0, .int 0, .int 0])), (m_tape, .inl (cm_tape, 120, .inl (upd (upd (upd (fun _ => 0) (0 : Int32).toNatClampNeg z50) (1 : Int32).toNatClampNeg z53) (2 : Int32).toNatClampNeg z56)))] H := hP
        have hD : va_D A [(h0, .inr (10, [.int 0, .int 0, .int 0, .int 0, .int 3, .int 10, .int 0, .int 0, .ref m_weight, .ref m_strength, .ref m_arm, .ref m_sex, .ref m_age, .ref m_likes, .ref m_rows, .ref m_drummer, .ref m_members, .ref m_beat, .ref m_member, .ref m_seated, .ref m_isSeated, .ref m_tape, .ref m_rTests, .ref m_tField, .ref m_tSign, .ref m_tNumber, .ref m_tNot, .ref m_tOr, .ref m_minute, .ref m_round, .ref m_laneCrew, .ref m_laneTime, .ref m_gone, .ref m_struck, .ref m_wasRun, .ref m_wait, .ref m_current, .ref m_finals, .ref m_bestTime, .ref m_inFinal, .ref m_pick, .ref m_found, .ref m_fresh, .ref m_at, .long 0, .long 0, .int 0, .int 0])), (m_tape, .inl (cm_tape, 120, .inl (upd (upd (upd (fun _ => 0) (0 : Int32).toNatClampNeg z50) (1 : Int32).toNatClampNeg z53) (2 : Int32).toNatClampNeg z56)))] := hD
        refine lv_iinc (v := 2) (lv' := [(4, .int 2), (0, .ref h0), (1, .long w), (3, .int 6)]) hx hb dX10_feed_66 hl (k := 0) rfl (by decide +kernel) (by decide) rfl (fun ls hl => ?_)
        refine lv_goto (tgt := 33) hx hb dX10_feed_69 (by decide) ?_
        refine lv_iload hx hb dX10_feed_33 (lv_at hl 0 rfl) ?_
        refine lv_if_lt (tgt := 72) hx hb dX10_feed_35 (by decide) (fun c9 => absurd c9 (by decide +kernel)) (fun _ => ?_)
        refine lv_aload_n hx hb dX10_feed_38 rfl (lv_at hl 1 rfl) ?_
        refine va_get (D := (dC, dI)) (ci := 10) (v := .ref m_tape) (C := RX10) (T := TX10) (N := 48) hx hb hts (fun _ h => List.mem_cons_of_mem _ (List.mem_append_right _ h)) hown hK hP 0 rfl rfl 21 (by decide) (hts (.fieldLink RX10 56 "DrumBoatsModel" "tape" "[I") (List.mem_of_getElem? (i := 2) rfl)) (fun _ h9 => h9) rfl dX10_feed_39 ?_
        refine lv_aload_n hx hb dX10_feed_42 rfl (lv_at hl 1 rfl) ?_
        refine lv_dup hx hb dX10_feed_43 rfl ?_
        refine va_get (D := (dC, dI)) (ci := 10) (v := .int 3) (C := RX10) (T := TX10) (N := 48) hx hb hts (fun _ h => List.mem_cons_of_mem _ (List.mem_append_right _ h)) hown hK hP 0 rfl rfl 4 (by decide) (hts (.fieldLink RX10 159 "DrumBoatsModel" "tapeN" "I") (List.mem_of_getElem? (i := 1) rfl)) (fun _ h9 => h9) rfl dX10_feed_44 ?_
        refine lv_dup_x1 hx hb dX10_feed_47 rfl rfl ?_
        refine lv_iconst (v := 1) hx hb dX10_feed_48 (by decide +kernel) ?_
        refine lv_iadd hx hb dX10_feed_49 ?_
        refine ti_eq (y := 4) (by decide +kernel) ?_
        refine va_put (D := (dC, dI)) (ci := 10) (v := .int 4) (ty := .int) (C := RX10) (T := TX10) (N := 48) hx hb hts (fun _ h => List.mem_cons_of_mem _ (List.mem_append_right _ h)) tyX10 tyX10_ok nmX10 hown hK hP hD hS 0 rfl rfl 4 (by decide) (hts (.fieldLink RX10 159 "DrumBoatsModel" "tapeN" "I") (List.mem_of_getElem? (i := 1) rfl)) (fun _ h9 => h9) rfl (by decide +kernel) rfl rfl (Nat.le_of_ble_eq_true rfl) dX10_feed_50 (fun H locs hP hD hS => ?_)
        have hP : va_P (dC, dI) vwCl [(h0, .inr (10, [.int 0, .int 0, .int 0, .int 0, .int 4, .int 10, .int 0, .int 0, .ref m_weight, .ref m_strength, .ref m_arm, .ref m_sex, .ref m_age, .ref m_likes, .ref m_rows, .ref m_drummer, .ref m_members, .ref m_beat, .ref m_member, .ref m_seated, .ref m_isSeated, .ref m_tape, .ref m_rTests, .ref m_tField, .ref m_tSign, .ref m_tNumber, .ref m_tNot, .ref m_tOr, .ref m_minute, .ref m_round, .ref m_laneCrew, .ref m_laneTime, .ref m_gone, .ref m_struck, .ref m_wasRun, .ref m_wait, .ref m_current, .ref m_finals, .ref m_bestTime, .ref m_inFinal, .ref m_pick, .ref m_found, .ref m_fresh, .ref m_at, .long 0, .long 0, .int 0, .int 0])), (m_tape, .inl (cm_tape, 120, .inl (upd (upd (upd (fun _ => 0) (0 : Int32).toNatClampNeg z50) (1 : Int32).toNatClampNeg z53) (2 : Int32).toNatClampNeg z56)))] H := hP
        have hD : va_D A [(h0, .inr (10, [.int 0, .int 0, .int 0, .int 0, .int 4, .int 10, .int 0, .int 0, .ref m_weight, .ref m_strength, .ref m_arm, .ref m_sex, .ref m_age, .ref m_likes, .ref m_rows, .ref m_drummer, .ref m_members, .ref m_beat, .ref m_member, .ref m_seated, .ref m_isSeated, .ref m_tape, .ref m_rTests, .ref m_tField, .ref m_tSign, .ref m_tNumber, .ref m_tNot, .ref m_tOr, .ref m_minute, .ref m_round, .ref m_laneCrew, .ref m_laneTime, .ref m_gone, .ref m_struck, .ref m_wasRun, .ref m_wait, .ref m_current, .ref m_finals, .ref m_bestTime, .ref m_inFinal, .ref m_pick, .ref m_found, .ref m_fresh, .ref m_at, .long 0, .long 0, .int 0, .int 0])), (m_tape, .inl (cm_tape, 120, .inl (upd (upd (upd (fun _ => 0) (0 : Int32).toNatClampNeg z50) (1 : Int32).toNatClampNeg z53) (2 : Int32).toNatClampNeg z56)))] := hD
        refine lv_lload_n hx hb dX10_feed_53 rfl (lv_at hl 2 rfl) ?_
        refine lv_bipush (v := 8) hx hb dX10_feed_54 (by decide +kernel) ?_
        refine lv_iload hx hb dX10_feed_56 (lv_at hl 0 rfl) ?_
        refine lv_imul hx hb dX10_feed_58 ?_
        refine ti_eq (y := 16) (by decide +kernel) ?_
        refine lv_lshr hx hb dX10_feed_59 rfl ?_
        refine lv_topl (fun z57 _ => ?_)
        refine lv_ldc2 (v := 255) hx hb hown (hts (.constantLong RX10 162 (255)) (List.mem_of_getElem? (i := 3) rfl)) dX10_feed_60 ?_
        refine lv_land hx hb dX10_feed_63 ?_
        refine lv_topl (fun z58 _ => ?_)
        refine lv_l2i hx hb dX10_feed_64 rfl ?_
        refine lv_topi (fun z59 _ => ?_)
        refine va_iast hx hb hK hP hD hS 1 0 rfl rfl (by unfold vp_in; decide +kernel) dX10_feed_65 (fun H locs hP hD hS => ?_)
        have hP : va_P (dC, dI) vwCl [(h0, .inr (10, [.int 0, .int 0, .int 0, .int 0, .int 4, .int 10, .int 0, .int 0, .ref m_weight, .ref m_strength, .ref m_arm, .ref m_sex, .ref m_age, .ref m_likes, .ref m_rows, .ref m_drummer, .ref m_members, .ref m_beat, .ref m_member, .ref m_seated, .ref m_isSeated, .ref m_tape, .ref m_rTests, .ref m_tField, .ref m_tSign, .ref m_tNumber, .ref m_tNot, .ref m_tOr, .ref m_minute, .ref m_round, .ref m_laneCrew, .ref m_laneTime, .ref m_gone, .ref m_struck, .ref m_wasRun, .ref m_wait, .ref m_current, .ref m_finals, .ref m_bestTime, .ref m_inFinal, .ref m_pick, .ref m_found, .ref m_fresh, .ref m_at, .long 0, .long 0, .int 0, .int 0])), (m_tape, .inl (cm_tape, 120, .inl (upd (upd (upd (upd (fun _ => 0) (0 : Int32).toNatClampNeg z50) (1 : Int32).toNatClampNeg z53) (2 : Int32).toNatClampNeg z56) (3 : Int32).toNatClampNeg z59)))] H := hP
        have hD : va_D A [(h0, .inr (10, [.int 0, .int 0, .int 0, .int 0, .int 4, .int 10, .int 0, .int 0, .ref m_weight, .ref m_strength, .ref m_arm, .ref m_sex, .ref m_age, .ref m_likes, .ref m_rows, .ref m_drummer, .ref m_members, .ref m_beat, .ref m_member, .ref m_seated, .ref m_isSeated, .ref m_tape, .ref m_rTests, .ref m_tField, .ref m_tSign, .ref m_tNumber, .ref m_tNot, .ref m_tOr, .ref m_minute, .ref m_round, .ref m_laneCrew, .ref m_laneTime, .ref m_gone, .ref m_struck, .ref m_wasRun, .ref m_wait, .ref m_current, .ref m_finals, .ref m_bestTime, .ref m_inFinal, .ref m_pick, .ref m_found, .ref m_fresh, .ref m_at, .long 0, .long 0, .int 0, .int 0])), (m_tape, .inl (cm_tape, 120, .inl (upd (upd (upd (upd (fun _ => 0) (0 : Int32).toNatClampNeg z50) (1 : Int32).toNatClampNeg z53) (2 : Int32).toNatClampNeg z56) (3 : Int32).toNatClampNeg z59)))] := hD
        refine lv_iinc (v := 1) (lv' := [(4, .int 1), (0, .ref h0), (1, .long w), (3, .int 6)]) hx hb dX10_feed_66 hl (k := 0) rfl (by decide +kernel) (by decide) rfl (fun ls hl => ?_)
        refine lv_goto (tgt := 33) hx hb dX10_feed_69 (by decide) ?_
        refine lv_iload hx hb dX10_feed_33 (lv_at hl 0 rfl) ?_
        refine lv_if_lt (tgt := 72) hx hb dX10_feed_35 (by decide) (fun c9 => absurd c9 (by decide +kernel)) (fun _ => ?_)
        refine lv_aload_n hx hb dX10_feed_38 rfl (lv_at hl 1 rfl) ?_
        refine va_get (D := (dC, dI)) (ci := 10) (v := .ref m_tape) (C := RX10) (T := TX10) (N := 48) hx hb hts (fun _ h => List.mem_cons_of_mem _ (List.mem_append_right _ h)) hown hK hP 0 rfl rfl 21 (by decide) (hts (.fieldLink RX10 56 "DrumBoatsModel" "tape" "[I") (List.mem_of_getElem? (i := 2) rfl)) (fun _ h9 => h9) rfl dX10_feed_39 ?_
        refine lv_aload_n hx hb dX10_feed_42 rfl (lv_at hl 1 rfl) ?_
        refine lv_dup hx hb dX10_feed_43 rfl ?_
        refine va_get (D := (dC, dI)) (ci := 10) (v := .int 4) (C := RX10) (T := TX10) (N := 48) hx hb hts (fun _ h => List.mem_cons_of_mem _ (List.mem_append_right _ h)) hown hK hP 0 rfl rfl 4 (by decide) (hts (.fieldLink RX10 159 "DrumBoatsModel" "tapeN" "I") (List.mem_of_getElem? (i := 1) rfl)) (fun _ h9 => h9) rfl dX10_feed_44 ?_
        refine lv_dup_x1 hx hb dX10_feed_47 rfl rfl ?_
        refine lv_iconst (v := 1) hx hb dX10_feed_48 (by decide +kernel) ?_
        refine lv_iadd hx hb dX10_feed_49 ?_
        refine ti_eq (y := 5) (by decide +kernel) ?_
        refine va_put (D := (dC, dI)) (ci := 10) (v := .int 5) (ty := .int) (C := RX10) (T := TX10) (N := 48) hx hb hts (fun _ h => List.mem_cons_of_mem _ (List.mem_append_right _ h)) tyX10 tyX10_ok nmX10 hown hK hP hD hS 0 rfl rfl 4 (by decide) (hts (.fieldLink RX10 159 "DrumBoatsModel" "tapeN" "I") (List.mem_of_getElem? (i := 1) rfl)) (fun _ h9 => h9) rfl (by decide +kernel) rfl rfl (Nat.le_of_ble_eq_true rfl) dX10_feed_50 (fun H locs hP hD hS => ?_)
        have hP : va_P (dC, dI) vwCl [(h0, .inr (10, [.int 0, .int 0, .int 0, .int 0, .int 5, .int 10, .int 0, .int 0, .ref m_weight, .ref m_strength, .ref m_arm, .ref m_sex, .ref m_age, .ref m_likes, .ref m_rows, .ref m_drummer, .ref m_members, .ref m_beat, .ref m_member, .ref m_seated, .ref m_isSeated, .ref m_tape, .ref m_rTests, .ref m_tField, .ref m_tSign, .ref m_tNumber, .ref m_tNot, .ref m_tOr, .ref m_minute, .ref m_round, .ref m_laneCrew, .ref m_laneTime, .ref m_gone, .ref m_struck, .ref m_wasRun, .ref m_wait, .ref m_current, .ref m_finals, .ref m_bestTime, .ref m_inFinal, .ref m_pick, .ref m_found, .ref m_fresh, .ref m_at, .long 0, .long 0, .int 0, .int 0])), (m_tape, .inl (cm_tape, 120, .inl (upd (upd (upd (upd (fun _ => 0) (0 : Int32).toNatClampNeg z50) (1 : Int32).toNatClampNeg z53) (2 : Int32).toNatClampNeg z56) (3 : Int32).toNatClampNeg z59)))] H := hP
        have hD : va_D A [(h0, .inr (10, [.int 0, .int 0, .int 0, .int 0, .int 5, .int 10, .int 0, .int 0, .ref m_weight, .ref m_strength, .ref m_arm, .ref m_sex, .ref m_age, .ref m_likes, .ref m_rows, .ref m_drummer, .ref m_members, .ref m_beat, .ref m_member, .ref m_seated, .ref m_isSeated, .ref m_tape, .ref m_rTests, .ref m_tField, .ref m_tSign, .ref m_tNumber, .ref m_tNot, .ref m_tOr, .ref m_minute, .ref m_round, .ref m_laneCrew, .ref m_laneTime, .ref m_gone, .ref m_struck, .ref m_wasRun, .ref m_wait, .ref m_current, .ref m_finals, .ref m_bestTime, .ref m_inFinal, .ref m_pick, .ref m_found, .ref m_fresh, .ref m_at, .long 0, .long 0, .int 0, .int 0])), (m_tape, .inl (cm_tape, 120, .inl (upd (upd (upd (upd (fun _ => 0) (0 : Int32).toNatClampNeg z50) (1 : Int32).toNatClampNeg z53) (2 : Int32).toNatClampNeg z56) (3 : Int32).toNatClampNeg z59)))] := hD
        refine lv_lload_n hx hb dX10_feed_53 rfl (lv_at hl 2 rfl) ?_
        refine lv_bipush (v := 8) hx hb dX10_feed_54 (by decide +kernel) ?_
        refine lv_iload hx hb dX10_feed_56 (lv_at hl 0 rfl) ?_
        refine lv_imul hx hb dX10_feed_58 ?_
        refine ti_eq (y := 8) (by decide +kernel) ?_
        refine lv_lshr hx hb dX10_feed_59 rfl ?_
        refine lv_topl (fun z60 _ => ?_)
        refine lv_ldc2 (v := 255) hx hb hown (hts (.constantLong RX10 162 (255)) (List.mem_of_getElem? (i := 3) rfl)) dX10_feed_60 ?_
        refine lv_land hx hb dX10_feed_63 ?_
        refine lv_topl (fun z61 _ => ?_)
        refine lv_l2i hx hb dX10_feed_64 rfl ?_
        refine lv_topi (fun z62 _ => ?_)
        refine va_iast hx hb hK hP hD hS 1 0 rfl rfl (by unfold vp_in; decide +kernel) dX10_feed_65 (fun H locs hP hD hS => ?_)
        have hP : va_P (dC, dI) vwCl [(h0, .inr (10, [.int 0, .int 0, .int 0, .int 0, .int 5, .int 10, .int 0, .int 0, .ref m_weight, .ref m_strength, .ref m_arm, .ref m_sex, .ref m_age, .ref m_likes, .ref m_rows, .ref m_drummer, .ref m_members, .ref m_beat, .ref m_member, .ref m_seated, .ref m_isSeated, .ref m_tape, .ref m_rTests, .ref m_tField, .ref m_tSign, .ref m_tNumber, .ref m_tNot, .ref m_tOr, .ref m_minute, .ref m_round, .ref m_laneCrew, .ref m_laneTime, .ref m_gone, .ref m_struck, .ref m_wasRun, .ref m_wait, .ref m_current, .ref m_finals, .ref m_bestTime, .ref m_inFinal, .ref m_pick, .ref m_found, .ref m_fresh, .ref m_at, .long 0, .long 0, .int 0, .int 0])), (m_tape, .inl (cm_tape, 120, .inl (upd (upd (upd (upd (upd (fun _ => 0) (0 : Int32).toNatClampNeg z50) (1 : Int32).toNatClampNeg z53) (2 : Int32).toNatClampNeg z56) (3 : Int32).toNatClampNeg z59) (4 : Int32).toNatClampNeg z62)))] H := hP
        have hD : va_D A [(h0, .inr (10, [.int 0, .int 0, .int 0, .int 0, .int 5, .int 10, .int 0, .int 0, .ref m_weight, .ref m_strength, .ref m_arm, .ref m_sex, .ref m_age, .ref m_likes, .ref m_rows, .ref m_drummer, .ref m_members, .ref m_beat, .ref m_member, .ref m_seated, .ref m_isSeated, .ref m_tape, .ref m_rTests, .ref m_tField, .ref m_tSign, .ref m_tNumber, .ref m_tNot, .ref m_tOr, .ref m_minute, .ref m_round, .ref m_laneCrew, .ref m_laneTime, .ref m_gone, .ref m_struck, .ref m_wasRun, .ref m_wait, .ref m_current, .ref m_finals, .ref m_bestTime, .ref m_inFinal, .ref m_pick, .ref m_found, .ref m_fresh, .ref m_at, .long 0, .long 0, .int 0, .int 0])), (m_tape, .inl (cm_tape, 120, .inl (upd (upd (upd (upd (upd (fun _ => 0) (0 : Int32).toNatClampNeg z50) (1 : Int32).toNatClampNeg z53) (2 : Int32).toNatClampNeg z56) (3 : Int32).toNatClampNeg z59) (4 : Int32).toNatClampNeg z62)))] := hD
        refine lv_iinc (v := 0) (lv' := [(4, .int 0), (0, .ref h0), (1, .long w), (3, .int 6)]) hx hb dX10_feed_66 hl (k := 0) rfl (by decide +kernel) (by decide) rfl (fun ls hl => ?_)
        refine lv_goto (tgt := 33) hx hb dX10_feed_69 (by decide) ?_
        refine lv_iload hx hb dX10_feed_33 (lv_at hl 0 rfl) ?_
        refine lv_if_lt (tgt := 72) hx hb dX10_feed_35 (by decide) (fun c9 => absurd c9 (by decide +kernel)) (fun _ => ?_)
        refine lv_aload_n hx hb dX10_feed_38 rfl (lv_at hl 1 rfl) ?_
        refine va_get (D := (dC, dI)) (ci := 10) (v := .ref m_tape) (C := RX10) (T := TX10) (N := 48) hx hb hts (fun _ h => List.mem_cons_of_mem _ (List.mem_append_right _ h)) hown hK hP 0 rfl rfl 21 (by decide) (hts (.fieldLink RX10 56 "DrumBoatsModel" "tape" "[I") (List.mem_of_getElem? (i := 2) rfl)) (fun _ h9 => h9) rfl dX10_feed_39 ?_
        refine lv_aload_n hx hb dX10_feed_42 rfl (lv_at hl 1 rfl) ?_
        refine lv_dup hx hb dX10_feed_43 rfl ?_
        refine va_get (D := (dC, dI)) (ci := 10) (v := .int 5) (C := RX10) (T := TX10) (N := 48) hx hb hts (fun _ h => List.mem_cons_of_mem _ (List.mem_append_right _ h)) hown hK hP 0 rfl rfl 4 (by decide) (hts (.fieldLink RX10 159 "DrumBoatsModel" "tapeN" "I") (List.mem_of_getElem? (i := 1) rfl)) (fun _ h9 => h9) rfl dX10_feed_44 ?_
        refine lv_dup_x1 hx hb dX10_feed_47 rfl rfl ?_
        refine lv_iconst (v := 1) hx hb dX10_feed_48 (by decide +kernel) ?_
        refine lv_iadd hx hb dX10_feed_49 ?_
        refine ti_eq (y := 6) (by decide +kernel) ?_
        refine va_put (D := (dC, dI)) (ci := 10) (v := .int 6) (ty := .int) (C := RX10) (T := TX10) (N := 48) hx hb hts (fun _ h => List.mem_cons_of_mem _ (List.mem_append_right _ h)) tyX10 tyX10_ok nmX10 hown hK hP hD hS 0 rfl rfl 4 (by decide) (hts (.fieldLink RX10 159 "DrumBoatsModel" "tapeN" "I") (List.mem_of_getElem? (i := 1) rfl)) (fun _ h9 => h9) rfl (by decide +kernel) rfl rfl (Nat.le_of_ble_eq_true rfl) dX10_feed_50 (fun H locs hP hD hS => ?_)
        have hP : va_P (dC, dI) vwCl [(h0, .inr (10, [.int 0, .int 0, .int 0, .int 0, .int 6, .int 10, .int 0, .int 0, .ref m_weight, .ref m_strength, .ref m_arm, .ref m_sex, .ref m_age, .ref m_likes, .ref m_rows, .ref m_drummer, .ref m_members, .ref m_beat, .ref m_member, .ref m_seated, .ref m_isSeated, .ref m_tape, .ref m_rTests, .ref m_tField, .ref m_tSign, .ref m_tNumber, .ref m_tNot, .ref m_tOr, .ref m_minute, .ref m_round, .ref m_laneCrew, .ref m_laneTime, .ref m_gone, .ref m_struck, .ref m_wasRun, .ref m_wait, .ref m_current, .ref m_finals, .ref m_bestTime, .ref m_inFinal, .ref m_pick, .ref m_found, .ref m_fresh, .ref m_at, .long 0, .long 0, .int 0, .int 0])), (m_tape, .inl (cm_tape, 120, .inl (upd (upd (upd (upd (upd (fun _ => 0) (0 : Int32).toNatClampNeg z50) (1 : Int32).toNatClampNeg z53) (2 : Int32).toNatClampNeg z56) (3 : Int32).toNatClampNeg z59) (4 : Int32).toNatClampNeg z62)))] H := hP
        have hD : va_D A [(h0, .inr (10, [.int 0, .int 0, .int 0, .int 0, .int 6, .int 10, .int 0, .int 0, .ref m_weight, .ref m_strength, .ref m_arm, .ref m_sex, .ref m_age, .ref m_likes, .ref m_rows, .ref m_drummer, .ref m_members, .ref m_beat, .ref m_member, .ref m_seated, .ref m_isSeated, .ref m_tape, .ref m_rTests, .ref m_tField, .ref m_tSign, .ref m_tNumber, .ref m_tNot, .ref m_tOr, .ref m_minute, .ref m_round, .ref m_laneCrew, .ref m_laneTime, .ref m_gone, .ref m_struck, .ref m_wasRun, .ref m_wait, .ref m_current, .ref m_finals, .ref m_bestTime, .ref m_inFinal, .ref m_pick, .ref m_found, .ref m_fresh, .ref m_at, .long 0, .long 0, .int 0, .int 0])), (m_tape, .inl (cm_tape, 120, .inl (upd (upd (upd (upd (upd (fun _ => 0) (0 : Int32).toNatClampNeg z50) (1 : Int32).toNatClampNeg z53) (2 : Int32).toNatClampNeg z56) (3 : Int32).toNatClampNeg z59) (4 : Int32).toNatClampNeg z62)))] := hD
        refine lv_lload_n hx hb dX10_feed_53 rfl (lv_at hl 2 rfl) ?_
        refine lv_bipush (v := 8) hx hb dX10_feed_54 (by decide +kernel) ?_
        refine lv_iload hx hb dX10_feed_56 (lv_at hl 0 rfl) ?_
        refine lv_imul hx hb dX10_feed_58 ?_
        refine ti_eq (y := 0) (by decide +kernel) ?_
        refine lv_lshr hx hb dX10_feed_59 rfl ?_
        refine lv_topl (fun z63 _ => ?_)
        refine lv_ldc2 (v := 255) hx hb hown (hts (.constantLong RX10 162 (255)) (List.mem_of_getElem? (i := 3) rfl)) dX10_feed_60 ?_
        refine lv_land hx hb dX10_feed_63 ?_
        refine lv_topl (fun z64 _ => ?_)
        refine lv_l2i hx hb dX10_feed_64 rfl ?_
        refine lv_topi (fun z65 _ => ?_)
        refine va_iast hx hb hK hP hD hS 1 0 rfl rfl (by unfold vp_in; decide +kernel) dX10_feed_65 (fun H locs hP hD hS => ?_)
        have hP : va_P (dC, dI) vwCl [(h0, .inr (10, [.int 0, .int 0, .int 0, .int 0, .int 6, .int 10, .int 0, .int 0, .ref m_weight, .ref m_strength, .ref m_arm, .ref m_sex, .ref m_age, .ref m_likes, .ref m_rows, .ref m_drummer, .ref m_members, .ref m_beat, .ref m_member, .ref m_seated, .ref m_isSeated, .ref m_tape, .ref m_rTests, .ref m_tField, .ref m_tSign, .ref m_tNumber, .ref m_tNot, .ref m_tOr, .ref m_minute, .ref m_round, .ref m_laneCrew, .ref m_laneTime, .ref m_gone, .ref m_struck, .ref m_wasRun, .ref m_wait, .ref m_current, .ref m_finals, .ref m_bestTime, .ref m_inFinal, .ref m_pick, .ref m_found, .ref m_fresh, .ref m_at, .long 0, .long 0, .int 0, .int 0])), (m_tape, .inl (cm_tape, 120, .inl (upd (upd (upd (upd (upd (upd (fun _ => 0) (0 : Int32).toNatClampNeg z50) (1 : Int32).toNatClampNeg z53) (2 : Int32).toNatClampNeg z56) (3 : Int32).toNatClampNeg z59) (4 : Int32).toNatClampNeg z62) (5 : Int32).toNatClampNeg z65)))] H := hP
        have hD : va_D A [(h0, .inr (10, [.int 0, .int 0, .int 0, .int 0, .int 6, .int 10, .int 0, .int 0, .ref m_weight, .ref m_strength, .ref m_arm, .ref m_sex, .ref m_age, .ref m_likes, .ref m_rows, .ref m_drummer, .ref m_members, .ref m_beat, .ref m_member, .ref m_seated, .ref m_isSeated, .ref m_tape, .ref m_rTests, .ref m_tField, .ref m_tSign, .ref m_tNumber, .ref m_tNot, .ref m_tOr, .ref m_minute, .ref m_round, .ref m_laneCrew, .ref m_laneTime, .ref m_gone, .ref m_struck, .ref m_wasRun, .ref m_wait, .ref m_current, .ref m_finals, .ref m_bestTime, .ref m_inFinal, .ref m_pick, .ref m_found, .ref m_fresh, .ref m_at, .long 0, .long 0, .int 0, .int 0])), (m_tape, .inl (cm_tape, 120, .inl (upd (upd (upd (upd (upd (upd (fun _ => 0) (0 : Int32).toNatClampNeg z50) (1 : Int32).toNatClampNeg z53) (2 : Int32).toNatClampNeg z56) (3 : Int32).toNatClampNeg z59) (4 : Int32).toNatClampNeg z62) (5 : Int32).toNatClampNeg z65)))] := hD
        refine lv_iinc (v := (-1)) (lv' := [(4, .int (-1)), (0, .ref h0), (1, .long w), (3, .int 6)]) hx hb dX10_feed_66 hl (k := 0) rfl (by decide +kernel) (by decide) rfl (fun ls hl => ?_)
        refine lv_goto (tgt := 33) hx hb dX10_feed_69 (by decide) ?_
        refine lv_iload hx hb dX10_feed_33 (lv_at hl 0 rfl) ?_
        refine lv_if_lt (tgt := 72) hx hb dX10_feed_35 (by decide) (fun _ => ?_) (fun c9 => absurd c9 (by decide +kernel))
        refine lv_aload_n hx hb dX10_feed_72 rfl (lv_at hl 1 rfl) ?_
        refine va_get (D := (dC, dI)) (ci := 10) (v := .int 6) (C := RX10) (T := TX10) (N := 48) hx hb hts (fun _ h => List.mem_cons_of_mem _ (List.mem_append_right _ h)) hown hK hP 0 rfl rfl 4 (by decide) (hts (.fieldLink RX10 159 "DrumBoatsModel" "tapeN" "I") (List.mem_of_getElem? (i := 1) rfl)) (fun _ h9 => h9) rfl dX10_feed_73 ?_
        refine W.widen (k := 0) (n := 0) (Nat.le_of_ble_eq_true rfl) (Nat.le_of_ble_eq_true rfl) ?_
        exact W.iret (v := 6) hx hb hr (fun t ht hW => ⟨⟨6, (), rfl, (by first | rfl | decide | (unfold f_feed; (repeat' split) <;> first | rfl | omega)), trivial⟩, hS.F ht⟩) hS.2.2 dX10_feed_76
      · refine lv_aload_n hx hb dX10_feed_14 rfl (lv_at hl 0 rfl) ?_
        refine va_get (D := (dC, dI)) (ci := 10) (v := .int 0) (C := RX10) (T := TX10) (N := 48) hx hb hts (fun _ h => List.mem_cons_of_mem _ (List.mem_append_right _ h)) hown hK hP 0 rfl rfl 4 (by decide) (hts (.fieldLink RX10 159 "DrumBoatsModel" "tapeN" "I") (List.mem_of_getElem? (i := 1) rfl)) (fun _ h9 => h9) rfl dX10_feed_15 ?_
        refine lv_iload_n hx hb dX10_feed_18 rfl (lv_at hl 2 rfl) ?_
        refine lv_iadd hx hb dX10_feed_19 ?_
        refine ti_eq (y := 7) (by decide +kernel) ?_
        refine lv_bipush (v := 120) hx hb dX10_feed_20 (by decide +kernel) ?_
        refine lv_icmp_le (tgt := 28) hx hb dX10_feed_22 (by decide) (fun _ => ?_) (fun c9 => absurd c9 (by decide +kernel))
        refine lv_iload_n hx hb dX10_feed_28 rfl (lv_at hl 2 rfl) ?_
        refine lv_iconst (v := 1) hx hb dX10_feed_29 (by decide +kernel) ?_
        refine lv_isub hx hb dX10_feed_30 ?_
        refine ti_eq (y := 6) (by decide +kernel) ?_
        refine lv_istore (lv' := [(4, .int 6), (0, .ref h0), (1, .long w), (3, .int 7)]) hx hb dX10_feed_31 hl (by decide) rfl (fun ls hl => ?_)
        refine lv_iload hx hb dX10_feed_33 (lv_at hl 0 rfl) ?_
        refine lv_if_lt (tgt := 72) hx hb dX10_feed_35 (by decide) (fun c9 => absurd c9 (by decide +kernel)) (fun _ => ?_)
        refine lv_aload_n hx hb dX10_feed_38 rfl (lv_at hl 1 rfl) ?_
        refine va_get (D := (dC, dI)) (ci := 10) (v := .ref m_tape) (C := RX10) (T := TX10) (N := 48) hx hb hts (fun _ h => List.mem_cons_of_mem _ (List.mem_append_right _ h)) hown hK hP 0 rfl rfl 21 (by decide) (hts (.fieldLink RX10 56 "DrumBoatsModel" "tape" "[I") (List.mem_of_getElem? (i := 2) rfl)) (fun _ h9 => h9) rfl dX10_feed_39 ?_
        refine lv_aload_n hx hb dX10_feed_42 rfl (lv_at hl 1 rfl) ?_
        refine lv_dup hx hb dX10_feed_43 rfl ?_
        refine va_get (D := (dC, dI)) (ci := 10) (v := .int 0) (C := RX10) (T := TX10) (N := 48) hx hb hts (fun _ h => List.mem_cons_of_mem _ (List.mem_append_right _ h)) hown hK hP 0 rfl rfl 4 (by decide) (hts (.fieldLink RX10 159 "DrumBoatsModel" "tapeN" "I") (List.mem_of_getElem? (i := 1) rfl)) (fun _ h9 => h9) rfl dX10_feed_44 ?_
        refine lv_dup_x1 hx hb dX10_feed_47 rfl rfl ?_
        refine lv_iconst (v := 1) hx hb dX10_feed_48 (by decide +kernel) ?_
        refine lv_iadd hx hb dX10_feed_49 ?_
        refine ti_eq (y := 1) (by decide +kernel) ?_
        refine va_put (D := (dC, dI)) (ci := 10) (v := .int 1) (ty := .int) (C := RX10) (T := TX10) (N := 48) hx hb hts (fun _ h => List.mem_cons_of_mem _ (List.mem_append_right _ h)) tyX10 tyX10_ok nmX10 hown hK hP hD hS 0 rfl rfl 4 (by decide) (hts (.fieldLink RX10 159 "DrumBoatsModel" "tapeN" "I") (List.mem_of_getElem? (i := 1) rfl)) (fun _ h9 => h9) rfl (by decide +kernel) rfl rfl (Nat.le_of_ble_eq_true rfl) dX10_feed_50 (fun H locs hP hD hS => ?_)
        have hP : va_P (dC, dI) vwCl [(h0, .inr (10, [.int 0, .int 0, .int 0, .int 0, .int 1, .int 10, .int 0, .int 0, .ref m_weight, .ref m_strength, .ref m_arm, .ref m_sex, .ref m_age, .ref m_likes, .ref m_rows, .ref m_drummer, .ref m_members, .ref m_beat, .ref m_member, .ref m_seated, .ref m_isSeated, .ref m_tape, .ref m_rTests, .ref m_tField, .ref m_tSign, .ref m_tNumber, .ref m_tNot, .ref m_tOr, .ref m_minute, .ref m_round, .ref m_laneCrew, .ref m_laneTime, .ref m_gone, .ref m_struck, .ref m_wasRun, .ref m_wait, .ref m_current, .ref m_finals, .ref m_bestTime, .ref m_inFinal, .ref m_pick, .ref m_found, .ref m_fresh, .ref m_at, .long 0, .long 0, .int 0, .int 0])), (m_tape, .inl (cm_tape, 120, .inl (fun _ => 0)))] H := hP
        have hD : va_D A [(h0, .inr (10, [.int 0, .int 0, .int 0, .int 0, .int 1, .int 10, .int 0, .int 0, .ref m_weight, .ref m_strength, .ref m_arm, .ref m_sex, .ref m_age, .ref m_likes, .ref m_rows, .ref m_drummer, .ref m_members, .ref m_beat, .ref m_member, .ref m_seated, .ref m_isSeated, .ref m_tape, .ref m_rTests, .ref m_tField, .ref m_tSign, .ref m_tNumber, .ref m_tNot, .ref m_tOr, .ref m_minute, .ref m_round, .ref m_laneCrew, .ref m_laneTime, .ref m_gone, .ref m_struck, .ref m_wasRun, .ref m_wait, .ref m_current, .ref m_finals, .ref m_bestTime, .ref m_inFinal, .ref m_pick, .ref m_found, .ref m_fresh, .ref m_at, .long 0, .long 0, .int 0, .int 0])), (m_tape, .inl (cm_tape, 120, .inl (fun _ => 0)))] := hD
        refine lv_lload_n hx hb dX10_feed_53 rfl (lv_at hl 2 rfl) ?_
        refine lv_bipush (v := 8) hx hb dX10_feed_54 (by decide +kernel) ?_
        refine lv_iload hx hb dX10_feed_56 (lv_at hl 0 rfl) ?_
        refine lv_imul hx hb dX10_feed_58 ?_
        refine ti_eq (y := 48) (by decide +kernel) ?_
        refine lv_lshr hx hb dX10_feed_59 rfl ?_
        refine lv_topl (fun z66 _ => ?_)
        refine lv_ldc2 (v := 255) hx hb hown (hts (.constantLong RX10 162 (255)) (List.mem_of_getElem? (i := 3) rfl)) dX10_feed_60 ?_
        refine lv_land hx hb dX10_feed_63 ?_
        refine lv_topl (fun z67 _ => ?_)
        refine lv_l2i hx hb dX10_feed_64 rfl ?_
        refine lv_topi (fun z68 _ => ?_)
        refine va_iast hx hb hK hP hD hS 1 0 rfl rfl (by unfold vp_in; decide +kernel) dX10_feed_65 (fun H locs hP hD hS => ?_)
        have hP : va_P (dC, dI) vwCl [(h0, .inr (10, [.int 0, .int 0, .int 0, .int 0, .int 1, .int 10, .int 0, .int 0, .ref m_weight, .ref m_strength, .ref m_arm, .ref m_sex, .ref m_age, .ref m_likes, .ref m_rows, .ref m_drummer, .ref m_members, .ref m_beat, .ref m_member, .ref m_seated, .ref m_isSeated, .ref m_tape, .ref m_rTests, .ref m_tField, .ref m_tSign, .ref m_tNumber, .ref m_tNot, .ref m_tOr, .ref m_minute, .ref m_round, .ref m_laneCrew, .ref m_laneTime, .ref m_gone, .ref m_struck, .ref m_wasRun, .ref m_wait, .ref m_current, .ref m_finals, .ref m_bestTime, .ref m_inFinal, .ref m_pick, .ref m_found, .ref m_fresh, .ref m_at, .long 0, .long 0, .int 0, .int 0])), (m_tape, .inl (cm_tape, 120, .inl (upd (fun _ => 0) (0 : Int32).toNatClampNeg z68)))] H := hP
        have hD : va_D A [(h0, .inr (10, [.int 0, .int 0, .int 0, .int 0, .int 1, .int 10, .int 0, .int 0, .ref m_weight, .ref m_strength, .ref m_arm, .ref m_sex, .ref m_age, .ref m_likes, .ref m_rows, .ref m_drummer, .ref m_members, .ref m_beat, .ref m_member, .ref m_seated, .ref m_isSeated, .ref m_tape, .ref m_rTests, .ref m_tField, .ref m_tSign, .ref m_tNumber, .ref m_tNot, .ref m_tOr, .ref m_minute, .ref m_round, .ref m_laneCrew, .ref m_laneTime, .ref m_gone, .ref m_struck, .ref m_wasRun, .ref m_wait, .ref m_current, .ref m_finals, .ref m_bestTime, .ref m_inFinal, .ref m_pick, .ref m_found, .ref m_fresh, .ref m_at, .long 0, .long 0, .int 0, .int 0])), (m_tape, .inl (cm_tape, 120, .inl (upd (fun _ => 0) (0 : Int32).toNatClampNeg z68)))] := hD
        refine lv_iinc (v := 5) (lv' := [(4, .int 5), (0, .ref h0), (1, .long w), (3, .int 7)]) hx hb dX10_feed_66 hl (k := 0) rfl (by decide +kernel) (by decide) rfl (fun ls hl => ?_)
        refine lv_goto (tgt := 33) hx hb dX10_feed_69 (by decide) ?_
        refine lv_iload hx hb dX10_feed_33 (lv_at hl 0 rfl) ?_
        refine lv_if_lt (tgt := 72) hx hb dX10_feed_35 (by decide) (fun c9 => absurd c9 (by decide +kernel)) (fun _ => ?_)
        refine lv_aload_n hx hb dX10_feed_38 rfl (lv_at hl 1 rfl) ?_
        refine va_get (D := (dC, dI)) (ci := 10) (v := .ref m_tape) (C := RX10) (T := TX10) (N := 48) hx hb hts (fun _ h => List.mem_cons_of_mem _ (List.mem_append_right _ h)) hown hK hP 0 rfl rfl 21 (by decide) (hts (.fieldLink RX10 56 "DrumBoatsModel" "tape" "[I") (List.mem_of_getElem? (i := 2) rfl)) (fun _ h9 => h9) rfl dX10_feed_39 ?_
        refine lv_aload_n hx hb dX10_feed_42 rfl (lv_at hl 1 rfl) ?_
        refine lv_dup hx hb dX10_feed_43 rfl ?_
        refine va_get (D := (dC, dI)) (ci := 10) (v := .int 1) (C := RX10) (T := TX10) (N := 48) hx hb hts (fun _ h => List.mem_cons_of_mem _ (List.mem_append_right _ h)) hown hK hP 0 rfl rfl 4 (by decide) (hts (.fieldLink RX10 159 "DrumBoatsModel" "tapeN" "I") (List.mem_of_getElem? (i := 1) rfl)) (fun _ h9 => h9) rfl dX10_feed_44 ?_
        refine lv_dup_x1 hx hb dX10_feed_47 rfl rfl ?_
        refine lv_iconst (v := 1) hx hb dX10_feed_48 (by decide +kernel) ?_
        refine lv_iadd hx hb dX10_feed_49 ?_
        refine ti_eq (y := 2) (by decide +kernel) ?_
        refine va_put (D := (dC, dI)) (ci := 10) (v := .int 2) (ty := .int) (C := RX10) (T := TX10) (N := 48) hx hb hts (fun _ h => List.mem_cons_of_mem _ (List.mem_append_right _ h)) tyX10 tyX10_ok nmX10 hown hK hP hD hS 0 rfl rfl 4 (by decide) (hts (.fieldLink RX10 159 "DrumBoatsModel" "tapeN" "I") (List.mem_of_getElem? (i := 1) rfl)) (fun _ h9 => h9) rfl (by decide +kernel) rfl rfl (Nat.le_of_ble_eq_true rfl) dX10_feed_50 (fun H locs hP hD hS => ?_)
        have hP : va_P (dC, dI) vwCl [(h0, .inr (10, [.int 0, .int 0, .int 0, .int 0, .int 2, .int 10, .int 0, .int 0, .ref m_weight, .ref m_strength, .ref m_arm, .ref m_sex, .ref m_age, .ref m_likes, .ref m_rows, .ref m_drummer, .ref m_members, .ref m_beat, .ref m_member, .ref m_seated, .ref m_isSeated, .ref m_tape, .ref m_rTests, .ref m_tField, .ref m_tSign, .ref m_tNumber, .ref m_tNot, .ref m_tOr, .ref m_minute, .ref m_round, .ref m_laneCrew, .ref m_laneTime, .ref m_gone, .ref m_struck, .ref m_wasRun, .ref m_wait, .ref m_current, .ref m_finals, .ref m_bestTime, .ref m_inFinal, .ref m_pick, .ref m_found, .ref m_fresh, .ref m_at, .long 0, .long 0, .int 0, .int 0])), (m_tape, .inl (cm_tape, 120, .inl (upd (fun _ => 0) (0 : Int32).toNatClampNeg z68)))] H := hP
        have hD : va_D A [(h0, .inr (10, [.int 0, .int 0, .int 0, .int 0, .int 2, .int 10, .int 0, .int 0, .ref m_weight, .ref m_strength, .ref m_arm, .ref m_sex, .ref m_age, .ref m_likes, .ref m_rows, .ref m_drummer, .ref m_members, .ref m_beat, .ref m_member, .ref m_seated, .ref m_isSeated, .ref m_tape, .ref m_rTests, .ref m_tField, .ref m_tSign, .ref m_tNumber, .ref m_tNot, .ref m_tOr, .ref m_minute, .ref m_round, .ref m_laneCrew, .ref m_laneTime, .ref m_gone, .ref m_struck, .ref m_wasRun, .ref m_wait, .ref m_current, .ref m_finals, .ref m_bestTime, .ref m_inFinal, .ref m_pick, .ref m_found, .ref m_fresh, .ref m_at, .long 0, .long 0, .int 0, .int 0])), (m_tape, .inl (cm_tape, 120, .inl (upd (fun _ => 0) (0 : Int32).toNatClampNeg z68)))] := hD
        refine lv_lload_n hx hb dX10_feed_53 rfl (lv_at hl 2 rfl) ?_
        refine lv_bipush (v := 8) hx hb dX10_feed_54 (by decide +kernel) ?_
        refine lv_iload hx hb dX10_feed_56 (lv_at hl 0 rfl) ?_
        refine lv_imul hx hb dX10_feed_58 ?_
        refine ti_eq (y := 40) (by decide +kernel) ?_
        refine lv_lshr hx hb dX10_feed_59 rfl ?_
        refine lv_topl (fun z69 _ => ?_)
        refine lv_ldc2 (v := 255) hx hb hown (hts (.constantLong RX10 162 (255)) (List.mem_of_getElem? (i := 3) rfl)) dX10_feed_60 ?_
        refine lv_land hx hb dX10_feed_63 ?_
        refine lv_topl (fun z70 _ => ?_)
        refine lv_l2i hx hb dX10_feed_64 rfl ?_
        refine lv_topi (fun z71 _ => ?_)
        refine va_iast hx hb hK hP hD hS 1 0 rfl rfl (by unfold vp_in; decide +kernel) dX10_feed_65 (fun H locs hP hD hS => ?_)
        have hP : va_P (dC, dI) vwCl [(h0, .inr (10, [.int 0, .int 0, .int 0, .int 0, .int 2, .int 10, .int 0, .int 0, .ref m_weight, .ref m_strength, .ref m_arm, .ref m_sex, .ref m_age, .ref m_likes, .ref m_rows, .ref m_drummer, .ref m_members, .ref m_beat, .ref m_member, .ref m_seated, .ref m_isSeated, .ref m_tape, .ref m_rTests, .ref m_tField, .ref m_tSign, .ref m_tNumber, .ref m_tNot, .ref m_tOr, .ref m_minute, .ref m_round, .ref m_laneCrew, .ref m_laneTime, .ref m_gone, .ref m_struck, .ref m_wasRun, .ref m_wait, .ref m_current, .ref m_finals, .ref m_bestTime, .ref m_inFinal, .ref m_pick, .ref m_found, .ref m_fresh, .ref m_at, .long 0, .long 0, .int 0, .int 0])), (m_tape, .inl (cm_tape, 120, .inl (upd (upd (fun _ => 0) (0 : Int32).toNatClampNeg z68) (1 : Int32).toNatClampNeg z71)))] H := hP
        have hD : va_D A [(h0, .inr (10, [.int 0, .int 0, .int 0, .int 0, .int 2, .int 10, .int 0, .int 0, .ref m_weight, .ref m_strength, .ref m_arm, .ref m_sex, .ref m_age, .ref m_likes, .ref m_rows, .ref m_drummer, .ref m_members, .ref m_beat, .ref m_member, .ref m_seated, .ref m_isSeated, .ref m_tape, .ref m_rTests, .ref m_tField, .ref m_tSign, .ref m_tNumber, .ref m_tNot, .ref m_tOr, .ref m_minute, .ref m_round, .ref m_laneCrew, .ref m_laneTime, .ref m_gone, .ref m_struck, .ref m_wasRun, .ref m_wait, .ref m_current, .ref m_finals, .ref m_bestTime, .ref m_inFinal, .ref m_pick, .ref m_found, .ref m_fresh, .ref m_at, .long 0, .long 0, .int 0, .int 0])), (m_tape, .inl (cm_tape, 120, .inl (upd (upd (fun _ => 0) (0 : Int32).toNatClampNeg z68) (1 : Int32).toNatClampNeg z71)))] := hD
        refine lv_iinc (v := 4) (lv' := [(4, .int 4), (0, .ref h0), (1, .long w), (3, .int 7)]) hx hb dX10_feed_66 hl (k := 0) rfl (by decide +kernel) (by decide) rfl (fun ls hl => ?_)
        refine lv_goto (tgt := 33) hx hb dX10_feed_69 (by decide) ?_
        refine lv_iload hx hb dX10_feed_33 (lv_at hl 0 rfl) ?_
        refine lv_if_lt (tgt := 72) hx hb dX10_feed_35 (by decide) (fun c9 => absurd c9 (by decide +kernel)) (fun _ => ?_)
        refine lv_aload_n hx hb dX10_feed_38 rfl (lv_at hl 1 rfl) ?_
        refine va_get (D := (dC, dI)) (ci := 10) (v := .ref m_tape) (C := RX10) (T := TX10) (N := 48) hx hb hts (fun _ h => List.mem_cons_of_mem _ (List.mem_append_right _ h)) hown hK hP 0 rfl rfl 21 (by decide) (hts (.fieldLink RX10 56 "DrumBoatsModel" "tape" "[I") (List.mem_of_getElem? (i := 2) rfl)) (fun _ h9 => h9) rfl dX10_feed_39 ?_
        refine lv_aload_n hx hb dX10_feed_42 rfl (lv_at hl 1 rfl) ?_
        refine lv_dup hx hb dX10_feed_43 rfl ?_
        refine va_get (D := (dC, dI)) (ci := 10) (v := .int 2) (C := RX10) (T := TX10) (N := 48) hx hb hts (fun _ h => List.mem_cons_of_mem _ (List.mem_append_right _ h)) hown hK hP 0 rfl rfl 4 (by decide) (hts (.fieldLink RX10 159 "DrumBoatsModel" "tapeN" "I") (List.mem_of_getElem? (i := 1) rfl)) (fun _ h9 => h9) rfl dX10_feed_44 ?_
        refine lv_dup_x1 hx hb dX10_feed_47 rfl rfl ?_
        refine lv_iconst (v := 1) hx hb dX10_feed_48 (by decide +kernel) ?_
        refine lv_iadd hx hb dX10_feed_49 ?_
        refine ti_eq (y := 3) (by decide +kernel) ?_
        refine va_put (D := (dC, dI)) (ci := 10) (v := .int 3) (ty := .int) (C := RX10) (T := TX10) (N := 48) hx hb hts (fun _ h => List.mem_cons_of_mem _ (List.mem_append_right _ h)) tyX10 tyX10_ok nmX10 hown hK hP hD hS 0 rfl rfl 4 (by decide) (hts (.fieldLink RX10 159 "DrumBoatsModel" "tapeN" "I") (List.mem_of_getElem? (i := 1) rfl)) (fun _ h9 => h9) rfl (by decide +kernel) rfl rfl (Nat.le_of_ble_eq_true rfl) dX10_feed_50 (fun H locs hP hD hS => ?_)
        have hP : va_P (dC, dI) vwCl [(h0, .inr (10, [.int 0, .int 0, .int 0, .int 0, .int 3, .int 10, .int 0, .int 0, .ref m_weight, .ref m_strength, .ref m_arm, .ref m_sex, .ref m_age, .ref m_likes, .ref m_rows, .ref m_drummer, .ref m_members, .ref m_beat, .ref m_member, .ref m_seated, .ref m_isSeated, .ref m_tape, .ref m_rTests, .ref m_tField, .ref m_tSign, .ref m_tNumber, .ref m_tNot, .ref m_tOr, .ref m_minute, .ref m_round, .ref m_laneCrew, .ref m_laneTime, .ref m_gone, .ref m_struck, .ref m_wasRun, .ref m_wait, .ref m_current, .ref m_finals, .ref m_bestTime, .ref m_inFinal, .ref m_pick, .ref m_found, .ref m_fresh, .ref m_at, .long 0, .long 0, .int 0, .int 0])), (m_tape, .inl (cm_tape, 120, .inl (upd (upd (fun _ => 0) (0 : Int32).toNatClampNeg z68) (1 : Int32).toNatClampNeg z71)))] H := hP
        have hD : va_D A [(h0, .inr (10, [.int 0, .int 0, .int 0, .int 0, .int 3, .int 10, .int 0, .int 0, .ref m_weight, .ref m_strength, .ref m_arm, .ref m_sex, .ref m_age, .ref m_likes, .ref m_rows, .ref m_drummer, .ref m_members, .ref m_beat, .ref m_member, .ref m_seated, .ref m_isSeated, .ref m_tape, .ref m_rTests, .ref m_tField, .ref m_tSign, .ref m_tNumber, .ref m_tNot, .ref m_tOr, .ref m_minute, .ref m_round, .ref m_laneCrew, .ref m_laneTime, .ref m_gone, .ref m_struck, .ref m_wasRun, .ref m_wait, .ref m_current, .ref m_finals, .ref m_bestTime, .ref m_inFinal, .ref m_pick, .ref m_found, .ref m_fresh, .ref m_at, .long 0, .long 0, .int 0, .int 0])), (m_tape, .inl (cm_tape, 120, .inl (upd (upd (fun _ => 0) (0 : Int32).toNatClampNeg z68) (1 : Int32).toNatClampNeg z71)))] := hD
        refine lv_lload_n hx hb dX10_feed_53 rfl (lv_at hl 2 rfl) ?_
        refine lv_bipush (v := 8) hx hb dX10_feed_54 (by decide +kernel) ?_
        refine lv_iload hx hb dX10_feed_56 (lv_at hl 0 rfl) ?_
        refine lv_imul hx hb dX10_feed_58 ?_
        refine ti_eq (y := 32) (by decide +kernel) ?_
        refine lv_lshr hx hb dX10_feed_59 rfl ?_
        refine lv_topl (fun z72 _ => ?_)
        refine lv_ldc2 (v := 255) hx hb hown (hts (.constantLong RX10 162 (255)) (List.mem_of_getElem? (i := 3) rfl)) dX10_feed_60 ?_
        refine lv_land hx hb dX10_feed_63 ?_
        refine lv_topl (fun z73 _ => ?_)
        refine lv_l2i hx hb dX10_feed_64 rfl ?_
        refine lv_topi (fun z74 _ => ?_)
        refine va_iast hx hb hK hP hD hS 1 0 rfl rfl (by unfold vp_in; decide +kernel) dX10_feed_65 (fun H locs hP hD hS => ?_)
        have hP : va_P (dC, dI) vwCl [(h0, .inr (10, [.int 0, .int 0, .int 0, .int 0, .int 3, .int 10, .int 0, .int 0, .ref m_weight, .ref m_strength, .ref m_arm, .ref m_sex, .ref m_age, .ref m_likes, .ref m_rows, .ref m_drummer, .ref m_members, .ref m_beat, .ref m_member, .ref m_seated, .ref m_isSeated, .ref m_tape, .ref m_rTests, .ref m_tField, .ref m_tSign, .ref m_tNumber, .ref m_tNot, .ref m_tOr, .ref m_minute, .ref m_round, .ref m_laneCrew, .ref m_laneTime, .ref m_gone, .ref m_struck, .ref m_wasRun, .ref m_wait, .ref m_current, .ref m_finals, .ref m_bestTime, .ref m_inFinal, .ref m_pick, .ref m_found, .ref m_fresh, .ref m_at, .long 0, .long 0, .int 0, .int 0])), (m_tape, .inl (cm_tape, 120, .inl (upd (upd (upd (fun _ => 0) (0 : Int32).toNatClampNeg z68) (1 : Int32).toNatClampNeg z71) (2 : Int32).toNatClampNeg z74)))] H := hP
        have hD : va_D A [(h0, .inr (10, [.int 0, .int 0, .int 0, .int 0, .int 3, .int 10, .int 0, .int 0, .ref m_weight, .ref m_strength, .ref m_arm, .ref m_sex, .ref m_age, .ref m_likes, .ref m_rows, .ref m_drummer, .ref m_members, .ref m_beat, .ref m_member, .ref m_seated, .ref m_isSeated, .ref m_tape, .ref m_rTests, .ref m_tField, .ref m_tSign, .ref m_tNumber, .ref m_tNot, .ref m_tOr, .ref m_minute, .ref m_round, .ref m_laneCrew, .ref m_laneTime, .ref m_gone, .ref m_struck, .ref m_wasRun, .ref m_wait, .ref m_current, .ref m_finals, .ref m_bestTime, .ref m_inFinal, .ref m_pick, .ref m_found, .ref m_fresh, .ref m_at, .long 0, .long 0, .int 0, .int 0])), (m_tape, .inl (cm_tape, 120, .inl (upd (upd (upd (fun _ => 0) (0 : Int32).toNatClampNeg z68) (1 : Int32).toNatClampNeg z71) (2 : Int32).toNatClampNeg z74)))] := hD
        refine lv_iinc (v := 3) (lv' := [(4, .int 3), (0, .ref h0), (1, .long w), (3, .int 7)]) hx hb dX10_feed_66 hl (k := 0) rfl (by decide +kernel) (by decide) rfl (fun ls hl => ?_)
        refine lv_goto (tgt := 33) hx hb dX10_feed_69 (by decide) ?_
        refine lv_iload hx hb dX10_feed_33 (lv_at hl 0 rfl) ?_
        refine lv_if_lt (tgt := 72) hx hb dX10_feed_35 (by decide) (fun c9 => absurd c9 (by decide +kernel)) (fun _ => ?_)
        refine lv_aload_n hx hb dX10_feed_38 rfl (lv_at hl 1 rfl) ?_
        refine va_get (D := (dC, dI)) (ci := 10) (v := .ref m_tape) (C := RX10) (T := TX10) (N := 48) hx hb hts (fun _ h => List.mem_cons_of_mem _ (List.mem_append_right _ h)) hown hK hP 0 rfl rfl 21 (by decide) (hts (.fieldLink RX10 56 "DrumBoatsModel" "tape" "[I") (List.mem_of_getElem? (i := 2) rfl)) (fun _ h9 => h9) rfl dX10_feed_39 ?_
        refine lv_aload_n hx hb dX10_feed_42 rfl (lv_at hl 1 rfl) ?_
        refine lv_dup hx hb dX10_feed_43 rfl ?_
        refine va_get (D := (dC, dI)) (ci := 10) (v := .int 3) (C := RX10) (T := TX10) (N := 48) hx hb hts (fun _ h => List.mem_cons_of_mem _ (List.mem_append_right _ h)) hown hK hP 0 rfl rfl 4 (by decide) (hts (.fieldLink RX10 159 "DrumBoatsModel" "tapeN" "I") (List.mem_of_getElem? (i := 1) rfl)) (fun _ h9 => h9) rfl dX10_feed_44 ?_
        refine lv_dup_x1 hx hb dX10_feed_47 rfl rfl ?_
        refine lv_iconst (v := 1) hx hb dX10_feed_48 (by decide +kernel) ?_
        refine lv_iadd hx hb dX10_feed_49 ?_
        refine ti_eq (y := 4) (by decide +kernel) ?_
        refine va_put (D := (dC, dI)) (ci := 10) (v := .int 4) (ty := .int) (C := RX10) (T := TX10) (N := 48) hx hb hts (fun _ h => List.mem_cons_of_mem _ (List.mem_append_right _ h)) tyX10 tyX10_ok nmX10 hown hK hP hD hS 0 rfl rfl 4 (by decide) (hts (.fieldLink RX10 159 "DrumBoatsModel" "tapeN" "I") (List.mem_of_getElem? (i := 1) rfl)) (fun _ h9 => h9) rfl (by decide +kernel) rfl rfl (Nat.le_of_ble_eq_true rfl) dX10_feed_50 (fun H locs hP hD hS => ?_)
        have hP : va_P (dC, dI) vwCl [(h0, .inr (10, [.int 0, .int 0, .int 0, .int 0, .int 4, .int 10, .int 0, .int 0, .ref m_weight, .ref m_strength, .ref m_arm, .ref m_sex, .ref m_age, .ref m_likes, .ref m_rows, .ref m_drummer, .ref m_members, .ref m_beat, .ref m_member, .ref m_seated, .ref m_isSeated, .ref m_tape, .ref m_rTests, .ref m_tField, .ref m_tSign, .ref m_tNumber, .ref m_tNot, .ref m_tOr, .ref m_minute, .ref m_round, .ref m_laneCrew, .ref m_laneTime, .ref m_gone, .ref m_struck, .ref m_wasRun, .ref m_wait, .ref m_current, .ref m_finals, .ref m_bestTime, .ref m_inFinal, .ref m_pick, .ref m_found, .ref m_fresh, .ref m_at, .long 0, .long 0, .int 0, .int 0])), (m_tape, .inl (cm_tape, 120, .inl (upd (upd (upd (fun _ => 0) (0 : Int32).toNatClampNeg z68) (1 : Int32).toNatClampNeg z71) (2 : Int32).toNatClampNeg z74)))] H := hP
        have hD : va_D A [(h0, .inr (10, [.int 0, .int 0, .int 0, .int 0, .int 4, .int 10, .int 0, .int 0, .ref m_weight, .ref m_strength, .ref m_arm, .ref m_sex, .ref m_age, .ref m_likes, .ref m_rows, .ref m_drummer, .ref m_members, .ref m_beat, .ref m_member, .ref m_seated, .ref m_isSeated, .ref m_tape, .ref m_rTests, .ref m_tField, .ref m_tSign, .ref m_tNumber, .ref m_tNot, .ref m_tOr, .ref m_minute, .ref m_round, .ref m_laneCrew, .ref m_laneTime, .ref m_gone, .ref m_struck, .ref m_wasRun, .ref m_wait, .ref m_current, .ref m_finals, .ref m_bestTime, .ref m_inFinal, .ref m_pick, .ref m_found, .ref m_fresh, .ref m_at, .long 0, .long 0, .int 0, .int 0])), (m_tape, .inl (cm_tape, 120, .inl (upd (upd (upd (fun _ => 0) (0 : Int32).toNatClampNeg z68) (1 : Int32).toNatClampNeg z71) (2 : Int32).toNatClampNeg z74)))] := hD
        refine lv_lload_n hx hb dX10_feed_53 rfl (lv_at hl 2 rfl) ?_
        refine lv_bipush (v := 8) hx hb dX10_feed_54 (by decide +kernel) ?_
        refine lv_iload hx hb dX10_feed_56 (lv_at hl 0 rfl) ?_
        refine lv_imul hx hb dX10_feed_58 ?_
        refine ti_eq (y := 24) (by decide +kernel) ?_
        refine lv_lshr hx hb dX10_feed_59 rfl ?_
        refine lv_topl (fun z75 _ => ?_)
        refine lv_ldc2 (v := 255) hx hb hown (hts (.constantLong RX10 162 (255)) (List.mem_of_getElem? (i := 3) rfl)) dX10_feed_60 ?_
        refine lv_land hx hb dX10_feed_63 ?_
        refine lv_topl (fun z76 _ => ?_)
        refine lv_l2i hx hb dX10_feed_64 rfl ?_
        refine lv_topi (fun z77 _ => ?_)
        refine va_iast hx hb hK hP hD hS 1 0 rfl rfl (by unfold vp_in; decide +kernel) dX10_feed_65 (fun H locs hP hD hS => ?_)
        have hP : va_P (dC, dI) vwCl [(h0, .inr (10, [.int 0, .int 0, .int 0, .int 0, .int 4, .int 10, .int 0, .int 0, .ref m_weight, .ref m_strength, .ref m_arm, .ref m_sex, .ref m_age, .ref m_likes, .ref m_rows, .ref m_drummer, .ref m_members, .ref m_beat, .ref m_member, .ref m_seated, .ref m_isSeated, .ref m_tape, .ref m_rTests, .ref m_tField, .ref m_tSign, .ref m_tNumber, .ref m_tNot, .ref m_tOr, .ref m_minute, .ref m_round, .ref m_laneCrew, .ref m_laneTime, .ref m_gone, .ref m_struck, .ref m_wasRun, .ref m_wait, .ref m_current, .ref m_finals, .ref m_bestTime, .ref m_inFinal, .ref m_pick, .ref m_found, .ref m_fresh, .ref m_at, .long 0, .long 0, .int 0, .int 0])), (m_tape, .inl (cm_tape, 120, .inl (upd (upd (upd (upd (fun _ => 0) (0 : Int32).toNatClampNeg z68) (1 : Int32).toNatClampNeg z71) (2 : Int32).toNatClampNeg z74) (3 : Int32).toNatClampNeg z77)))] H := hP
        have hD : va_D A [(h0, .inr (10, [.int 0, .int 0, .int 0, .int 0, .int 4, .int 10, .int 0, .int 0, .ref m_weight, .ref m_strength, .ref m_arm, .ref m_sex, .ref m_age, .ref m_likes, .ref m_rows, .ref m_drummer, .ref m_members, .ref m_beat, .ref m_member, .ref m_seated, .ref m_isSeated, .ref m_tape, .ref m_rTests, .ref m_tField, .ref m_tSign, .ref m_tNumber, .ref m_tNot, .ref m_tOr, .ref m_minute, .ref m_round, .ref m_laneCrew, .ref m_laneTime, .ref m_gone, .ref m_struck, .ref m_wasRun, .ref m_wait, .ref m_current, .ref m_finals, .ref m_bestTime, .ref m_inFinal, .ref m_pick, .ref m_found, .ref m_fresh, .ref m_at, .long 0, .long 0, .int 0, .int 0])), (m_tape, .inl (cm_tape, 120, .inl (upd (upd (upd (upd (fun _ => 0) (0 : Int32).toNatClampNeg z68) (1 : Int32).toNatClampNeg z71) (2 : Int32).toNatClampNeg z74) (3 : Int32).toNatClampNeg z77)))] := hD
        refine lv_iinc (v := 2) (lv' := [(4, .int 2), (0, .ref h0), (1, .long w), (3, .int 7)]) hx hb dX10_feed_66 hl (k := 0) rfl (by decide +kernel) (by decide) rfl (fun ls hl => ?_)
        refine lv_goto (tgt := 33) hx hb dX10_feed_69 (by decide) ?_
        refine lv_iload hx hb dX10_feed_33 (lv_at hl 0 rfl) ?_
        refine lv_if_lt (tgt := 72) hx hb dX10_feed_35 (by decide) (fun c9 => absurd c9 (by decide +kernel)) (fun _ => ?_)
        refine lv_aload_n hx hb dX10_feed_38 rfl (lv_at hl 1 rfl) ?_
        refine va_get (D := (dC, dI)) (ci := 10) (v := .ref m_tape) (C := RX10) (T := TX10) (N := 48) hx hb hts (fun _ h => List.mem_cons_of_mem _ (List.mem_append_right _ h)) hown hK hP 0 rfl rfl 21 (by decide) (hts (.fieldLink RX10 56 "DrumBoatsModel" "tape" "[I") (List.mem_of_getElem? (i := 2) rfl)) (fun _ h9 => h9) rfl dX10_feed_39 ?_
        refine lv_aload_n hx hb dX10_feed_42 rfl (lv_at hl 1 rfl) ?_
        refine lv_dup hx hb dX10_feed_43 rfl ?_
        refine va_get (D := (dC, dI)) (ci := 10) (v := .int 4) (C := RX10) (T := TX10) (N := 48) hx hb hts (fun _ h => List.mem_cons_of_mem _ (List.mem_append_right _ h)) hown hK hP 0 rfl rfl 4 (by decide) (hts (.fieldLink RX10 159 "DrumBoatsModel" "tapeN" "I") (List.mem_of_getElem? (i := 1) rfl)) (fun _ h9 => h9) rfl dX10_feed_44 ?_
        refine lv_dup_x1 hx hb dX10_feed_47 rfl rfl ?_
        refine lv_iconst (v := 1) hx hb dX10_feed_48 (by decide +kernel) ?_
        refine lv_iadd hx hb dX10_feed_49 ?_
        refine ti_eq (y := 5) (by decide +kernel) ?_
        refine va_put (D := (dC, dI)) (ci := 10) (v := .int 5) (ty := .int) (C := RX10) (T := TX10) (N := 48) hx hb hts (fun _ h => List.mem_cons_of_mem _ (List.mem_append_right _ h)) tyX10 tyX10_ok nmX10 hown hK hP hD hS 0 rfl rfl 4 (by decide) (hts (.fieldLink RX10 159 "DrumBoatsModel" "tapeN" "I") (List.mem_of_getElem? (i := 1) rfl)) (fun _ h9 => h9) rfl (by decide +kernel) rfl rfl (Nat.le_of_ble_eq_true rfl) dX10_feed_50 (fun H locs hP hD hS => ?_)
        have hP : va_P (dC, dI) vwCl [(h0, .inr (10, [.int 0, .int 0, .int 0, .int 0, .int 5, .int 10, .int 0, .int 0, .ref m_weight, .ref m_strength, .ref m_arm, .ref m_sex, .ref m_age, .ref m_likes, .ref m_rows, .ref m_drummer, .ref m_members, .ref m_beat, .ref m_member, .ref m_seated, .ref m_isSeated, .ref m_tape, .ref m_rTests, .ref m_tField, .ref m_tSign, .ref m_tNumber, .ref m_tNot, .ref m_tOr, .ref m_minute, .ref m_round, .ref m_laneCrew, .ref m_laneTime, .ref m_gone, .ref m_struck, .ref m_wasRun, .ref m_wait, .ref m_current, .ref m_finals, .ref m_bestTime, .ref m_inFinal, .ref m_pick, .ref m_found, .ref m_fresh, .ref m_at, .long 0, .long 0, .int 0, .int 0])), (m_tape, .inl (cm_tape, 120, .inl (upd (upd (upd (upd (fun _ => 0) (0 : Int32).toNatClampNeg z68) (1 : Int32).toNatClampNeg z71) (2 : Int32).toNatClampNeg z74) (3 : Int32).toNatClampNeg z77)))] H := hP
        have hD : va_D A [(h0, .inr (10, [.int 0, .int 0, .int 0, .int 0, .int 5, .int 10, .int 0, .int 0, .ref m_weight, .ref m_strength, .ref m_arm, .ref m_sex, .ref m_age, .ref m_likes, .ref m_rows, .ref m_drummer, .ref m_members, .ref m_beat, .ref m_member, .ref m_seated, .ref m_isSeated, .ref m_tape, .ref m_rTests, .ref m_tField, .ref m_tSign, .ref m_tNumber, .ref m_tNot, .ref m_tOr, .ref m_minute, .ref m_round, .ref m_laneCrew, .ref m_laneTime, .ref m_gone, .ref m_struck, .ref m_wasRun, .ref m_wait, .ref m_current, .ref m_finals, .ref m_bestTime, .ref m_inFinal, .ref m_pick, .ref m_found, .ref m_fresh, .ref m_at, .long 0, .long 0, .int 0, .int 0])), (m_tape, .inl (cm_tape, 120, .inl (upd (upd (upd (upd (fun _ => 0) (0 : Int32).toNatClampNeg z68) (1 : Int32).toNatClampNeg z71) (2 : Int32).toNatClampNeg z74) (3 : Int32).toNatClampNeg z77)))] := hD
        refine lv_lload_n hx hb dX10_feed_53 rfl (lv_at hl 2 rfl) ?_
        refine lv_bipush (v := 8) hx hb dX10_feed_54 (by decide +kernel) ?_
        refine lv_iload hx hb dX10_feed_56 (lv_at hl 0 rfl) ?_
        refine lv_imul hx hb dX10_feed_58 ?_
        refine ti_eq (y := 16) (by decide +kernel) ?_
        refine lv_lshr hx hb dX10_feed_59 rfl ?_
        refine lv_topl (fun z78 _ => ?_)
        refine lv_ldc2 (v := 255) hx hb hown (hts (.constantLong RX10 162 (255)) (List.mem_of_getElem? (i := 3) rfl)) dX10_feed_60 ?_
        refine lv_land hx hb dX10_feed_63 ?_
        refine lv_topl (fun z79 _ => ?_)
        refine lv_l2i hx hb dX10_feed_64 rfl ?_
        refine lv_topi (fun z80 _ => ?_)
        refine va_iast hx hb hK hP hD hS 1 0 rfl rfl (by unfold vp_in; decide +kernel) dX10_feed_65 (fun H locs hP hD hS => ?_)
        have hP : va_P (dC, dI) vwCl [(h0, .inr (10, [.int 0, .int 0, .int 0, .int 0, .int 5, .int 10, .int 0, .int 0, .ref m_weight, .ref m_strength, .ref m_arm, .ref m_sex, .ref m_age, .ref m_likes, .ref m_rows, .ref m_drummer, .ref m_members, .ref m_beat, .ref m_member, .ref m_seated, .ref m_isSeated, .ref m_tape, .ref m_rTests, .ref m_tField, .ref m_tSign, .ref m_tNumber, .ref m_tNot, .ref m_tOr, .ref m_minute, .ref m_round, .ref m_laneCrew, .ref m_laneTime, .ref m_gone, .ref m_struck, .ref m_wasRun, .ref m_wait, .ref m_current, .ref m_finals, .ref m_bestTime, .ref m_inFinal, .ref m_pick, .ref m_found, .ref m_fresh, .ref m_at, .long 0, .long 0, .int 0, .int 0])), (m_tape, .inl (cm_tape, 120, .inl (upd (upd (upd (upd (upd (fun _ => 0) (0 : Int32).toNatClampNeg z68) (1 : Int32).toNatClampNeg z71) (2 : Int32).toNatClampNeg z74) (3 : Int32).toNatClampNeg z77) (4 : Int32).toNatClampNeg z80)))] H := hP
        have hD : va_D A [(h0, .inr (10, [.int 0, .int 0, .int 0, .int 0, .int 5, .int 10, .int 0, .int 0, .ref m_weight, .ref m_strength, .ref m_arm, .ref m_sex, .ref m_age, .ref m_likes, .ref m_rows, .ref m_drummer, .ref m_members, .ref m_beat, .ref m_member, .ref m_seated, .ref m_isSeated, .ref m_tape, .ref m_rTests, .ref m_tField, .ref m_tSign, .ref m_tNumber, .ref m_tNot, .ref m_tOr, .ref m_minute, .ref m_round, .ref m_laneCrew, .ref m_laneTime, .ref m_gone, .ref m_struck, .ref m_wasRun, .ref m_wait, .ref m_current, .ref m_finals, .ref m_bestTime, .ref m_inFinal, .ref m_pick, .ref m_found, .ref m_fresh, .ref m_at, .long 0, .long 0, .int 0, .int 0])), (m_tape, .inl (cm_tape, 120, .inl (upd (upd (upd (upd (upd (fun _ => 0) (0 : Int32).toNatClampNeg z68) (1 : Int32).toNatClampNeg z71) (2 : Int32).toNatClampNeg z74) (3 : Int32).toNatClampNeg z77) (4 : Int32).toNatClampNeg z80)))] := hD
        refine lv_iinc (v := 1) (lv' := [(4, .int 1), (0, .ref h0), (1, .long w), (3, .int 7)]) hx hb dX10_feed_66 hl (k := 0) rfl (by decide +kernel) (by decide) rfl (fun ls hl => ?_)
        refine lv_goto (tgt := 33) hx hb dX10_feed_69 (by decide) ?_
        refine lv_iload hx hb dX10_feed_33 (lv_at hl 0 rfl) ?_
        refine lv_if_lt (tgt := 72) hx hb dX10_feed_35 (by decide) (fun c9 => absurd c9 (by decide +kernel)) (fun _ => ?_)
        refine lv_aload_n hx hb dX10_feed_38 rfl (lv_at hl 1 rfl) ?_
        refine va_get (D := (dC, dI)) (ci := 10) (v := .ref m_tape) (C := RX10) (T := TX10) (N := 48) hx hb hts (fun _ h => List.mem_cons_of_mem _ (List.mem_append_right _ h)) hown hK hP 0 rfl rfl 21 (by decide) (hts (.fieldLink RX10 56 "DrumBoatsModel" "tape" "[I") (List.mem_of_getElem? (i := 2) rfl)) (fun _ h9 => h9) rfl dX10_feed_39 ?_
        refine lv_aload_n hx hb dX10_feed_42 rfl (lv_at hl 1 rfl) ?_
        refine lv_dup hx hb dX10_feed_43 rfl ?_
        refine va_get (D := (dC, dI)) (ci := 10) (v := .int 5) (C := RX10) (T := TX10) (N := 48) hx hb hts (fun _ h => List.mem_cons_of_mem _ (List.mem_append_right _ h)) hown hK hP 0 rfl rfl 4 (by decide) (hts (.fieldLink RX10 159 "DrumBoatsModel" "tapeN" "I") (List.mem_of_getElem? (i := 1) rfl)) (fun _ h9 => h9) rfl dX10_feed_44 ?_
        refine lv_dup_x1 hx hb dX10_feed_47 rfl rfl ?_
        refine lv_iconst (v := 1) hx hb dX10_feed_48 (by decide +kernel) ?_
        refine lv_iadd hx hb dX10_feed_49 ?_
        refine ti_eq (y := 6) (by decide +kernel) ?_
        refine va_put (D := (dC, dI)) (ci := 10) (v := .int 6) (ty := .int) (C := RX10) (T := TX10) (N := 48) hx hb hts (fun _ h => List.mem_cons_of_mem _ (List.mem_append_right _ h)) tyX10 tyX10_ok nmX10 hown hK hP hD hS 0 rfl rfl 4 (by decide) (hts (.fieldLink RX10 159 "DrumBoatsModel" "tapeN" "I") (List.mem_of_getElem? (i := 1) rfl)) (fun _ h9 => h9) rfl (by decide +kernel) rfl rfl (Nat.le_of_ble_eq_true rfl) dX10_feed_50 (fun H locs hP hD hS => ?_)
        have hP : va_P (dC, dI) vwCl [(h0, .inr (10, [.int 0, .int 0, .int 0, .int 0, .int 6, .int 10, .int 0, .int 0, .ref m_weight, .ref m_strength, .ref m_arm, .ref m_sex, .ref m_age, .ref m_likes, .ref m_rows, .ref m_drummer, .ref m_members, .ref m_beat, .ref m_member, .ref m_seated, .ref m_isSeated, .ref m_tape, .ref m_rTests, .ref m_tField, .ref m_tSign, .ref m_tNumber, .ref m_tNot, .ref m_tOr, .ref m_minute, .ref m_round, .ref m_laneCrew, .ref m_laneTime, .ref m_gone, .ref m_struck, .ref m_wasRun, .ref m_wait, .ref m_current, .ref m_finals, .ref m_bestTime, .ref m_inFinal, .ref m_pick, .ref m_found, .ref m_fresh, .ref m_at, .long 0, .long 0, .int 0, .int 0])), (m_tape, .inl (cm_tape, 120, .inl (upd (upd (upd (upd (upd (fun _ => 0) (0 : Int32).toNatClampNeg z68) (1 : Int32).toNatClampNeg z71) (2 : Int32).toNatClampNeg z74) (3 : Int32).toNatClampNeg z77) (4 : Int32).toNatClampNeg z80)))] H := hP
        have hD : va_D A [(h0, .inr (10, [.int 0, .int 0, .int 0, .int 0, .int 6, .int 10, .int 0, .int 0, .ref m_weight, .ref m_strength, .ref m_arm, .ref m_sex, .ref m_age, .ref m_likes, .ref m_rows, .ref m_drummer, .ref m_members, .ref m_beat, .ref m_member, .ref m_seated, .ref m_isSeated, .ref m_tape, .ref m_rTests, .ref m_tField, .ref m_tSign, .ref m_tNumber, .ref m_tNot, .ref m_tOr, .ref m_minute, .ref m_round, .ref m_laneCrew, .ref m_laneTime, .ref m_gone, .ref m_struck, .ref m_wasRun, .ref m_wait, .ref m_current, .ref m_finals, .ref m_bestTime, .ref m_inFinal, .ref m_pick, .ref m_found, .ref m_fresh, .ref m_at, .long 0, .long 0, .int 0, .int 0])), (m_tape, .inl (cm_tape, 120, .inl (upd (upd (upd (upd (upd (fun _ => 0) (0 : Int32).toNatClampNeg z68) (1 : Int32).toNatClampNeg z71) (2 : Int32).toNatClampNeg z74) (3 : Int32).toNatClampNeg z77) (4 : Int32).toNatClampNeg z80)))] := hD
        refine lv_lload_n hx hb dX10_feed_53 rfl (lv_at hl 2 rfl) ?_
        refine lv_bipush (v := 8) hx hb dX10_feed_54 (by decide +kernel) ?_
        refine lv_iload hx hb dX10_feed_56 (lv_at hl 0 rfl) ?_
        refine lv_imul hx hb dX10_feed_58 ?_
        refine ti_eq (y := 8) (by decide +kernel) ?_
        refine lv_lshr hx hb dX10_feed_59 rfl ?_
        refine lv_topl (fun z81 _ => ?_)
        refine lv_ldc2 (v := 255) hx hb hown (hts (.constantLong RX10 162 (255)) (List.mem_of_getElem? (i := 3) rfl)) dX10_feed_60 ?_
        refine lv_land hx hb dX10_feed_63 ?_
        refine lv_topl (fun z82 _ => ?_)
        refine lv_l2i hx hb dX10_feed_64 rfl ?_
        refine lv_topi (fun z83 _ => ?_)
        refine va_iast hx hb hK hP hD hS 1 0 rfl rfl (by unfold vp_in; decide +kernel) dX10_feed_65 (fun H locs hP hD hS => ?_)
        have hP : va_P (dC, dI) vwCl [(h0, .inr (10, [.int 0, .int 0, .int 0, .int 0, .int 6, .int 10, .int 0, .int 0, .ref m_weight, .ref m_strength, .ref m_arm, .ref m_sex, .ref m_age, .ref m_likes, .ref m_rows, .ref m_drummer, .ref m_members, .ref m_beat, .ref m_member, .ref m_seated, .ref m_isSeated, .ref m_tape, .ref m_rTests, .ref m_tField, .ref m_tSign, .ref m_tNumber, .ref m_tNot, .ref m_tOr, .ref m_minute, .ref m_round, .ref m_laneCrew, .ref m_laneTime, .ref m_gone, .ref m_struck, .ref m_wasRun, .ref m_wait, .ref m_current, .ref m_finals, .ref m_bestTime, .ref m_inFinal, .ref m_pick, .ref m_found, .ref m_fresh, .ref m_at, .long 0, .long 0, .int 0, .int 0])), (m_tape, .inl (cm_tape, 120, .inl (upd (upd (upd (upd (upd (upd (fun _ => 0) (0 : Int32).toNatClampNeg z68) (1 : Int32).toNatClampNeg z71) (2 : Int32).toNatClampNeg z74) (3 : Int32).toNatClampNeg z77) (4 : Int32).toNatClampNeg z80) (5 : Int32).toNatClampNeg z83)))] H := hP
        have hD : va_D A [(h0, .inr (10, [.int 0, .int 0, .int 0, .int 0, .int 6, .int 10, .int 0, .int 0, .ref m_weight, .ref m_strength, .ref m_arm, .ref m_sex, .ref m_age, .ref m_likes, .ref m_rows, .ref m_drummer, .ref m_members, .ref m_beat, .ref m_member, .ref m_seated, .ref m_isSeated, .ref m_tape, .ref m_rTests, .ref m_tField, .ref m_tSign, .ref m_tNumber, .ref m_tNot, .ref m_tOr, .ref m_minute, .ref m_round, .ref m_laneCrew, .ref m_laneTime, .ref m_gone, .ref m_struck, .ref m_wasRun, .ref m_wait, .ref m_current, .ref m_finals, .ref m_bestTime, .ref m_inFinal, .ref m_pick, .ref m_found, .ref m_fresh, .ref m_at, .long 0, .long 0, .int 0, .int 0])), (m_tape, .inl (cm_tape, 120, .inl (upd (upd (upd (upd (upd (upd (fun _ => 0) (0 : Int32).toNatClampNeg z68) (1 : Int32).toNatClampNeg z71) (2 : Int32).toNatClampNeg z74) (3 : Int32).toNatClampNeg z77) (4 : Int32).toNatClampNeg z80) (5 : Int32).toNatClampNeg z83)))] := hD
        refine lv_iinc (v := 0) (lv' := [(4, .int 0), (0, .ref h0), (1, .long w), (3, .int 7)]) hx hb dX10_feed_66 hl (k := 0) rfl (by decide +kernel) (by decide) rfl (fun ls hl => ?_)
        refine lv_goto (tgt := 33) hx hb dX10_feed_69 (by decide) ?_
        refine lv_iload hx hb dX10_feed_33 (lv_at hl 0 rfl) ?_
        refine lv_if_lt (tgt := 72) hx hb dX10_feed_35 (by decide) (fun c9 => absurd c9 (by decide +kernel)) (fun _ => ?_)
        refine lv_aload_n hx hb dX10_feed_38 rfl (lv_at hl 1 rfl) ?_
        refine va_get (D := (dC, dI)) (ci := 10) (v := .ref m_tape) (C := RX10) (T := TX10) (N := 48) hx hb hts (fun _ h => List.mem_cons_of_mem _ (List.mem_append_right _ h)) hown hK hP 0 rfl rfl 21 (by decide) (hts (.fieldLink RX10 56 "DrumBoatsModel" "tape" "[I") (List.mem_of_getElem? (i := 2) rfl)) (fun _ h9 => h9) rfl dX10_feed_39 ?_
        refine lv_aload_n hx hb dX10_feed_42 rfl (lv_at hl 1 rfl) ?_
        refine lv_dup hx hb dX10_feed_43 rfl ?_
        refine va_get (D := (dC, dI)) (ci := 10) (v := .int 6) (C := RX10) (T := TX10) (N := 48) hx hb hts (fun _ h => List.mem_cons_of_mem _ (List.mem_append_right _ h)) hown hK hP 0 rfl rfl 4 (by decide) (hts (.fieldLink RX10 159 "DrumBoatsModel" "tapeN" "I") (List.mem_of_getElem? (i := 1) rfl)) (fun _ h9 => h9) rfl dX10_feed_44 ?_
        refine lv_dup_x1 hx hb dX10_feed_47 rfl rfl ?_
        refine lv_iconst (v := 1) hx hb dX10_feed_48 (by decide +kernel) ?_
        refine lv_iadd hx hb dX10_feed_49 ?_
        refine ti_eq (y := 7) (by decide +kernel) ?_
        refine va_put (D := (dC, dI)) (ci := 10) (v := .int 7) (ty := .int) (C := RX10) (T := TX10) (N := 48) hx hb hts (fun _ h => List.mem_cons_of_mem _ (List.mem_append_right _ h)) tyX10 tyX10_ok nmX10 hown hK hP hD hS 0 rfl rfl 4 (by decide) (hts (.fieldLink RX10 159 "DrumBoatsModel" "tapeN" "I") (List.mem_of_getElem? (i := 1) rfl)) (fun _ h9 => h9) rfl (by decide +kernel) rfl rfl (Nat.le_of_ble_eq_true rfl) dX10_feed_50 (fun H locs hP hD hS => ?_)
        have hP : va_P (dC, dI) vwCl [(h0, .inr (10, [.int 0, .int 0, .int 0, .int 0, .int 7, .int 10, .int 0, .int 0, .ref m_weight, .ref m_strength, .ref m_arm, .ref m_sex, .ref m_age, .ref m_likes, .ref m_rows, .ref m_drummer, .ref m_members, .ref m_beat, .ref m_member, .ref m_seated, .ref m_isSeated, .ref m_tape, .ref m_rTests, .ref m_tField, .ref m_tSign, .ref m_tNumber, .ref m_tNot, .ref m_tOr, .ref m_minute, .ref m_round, .ref m_laneCrew, .ref m_laneTime, .ref m_gone, .ref m_struck, .ref m_wasRun, .ref m_wait, .ref m_current, .ref m_finals, .ref m_bestTime, .ref m_inFinal, .ref m_pick, .ref m_found, .ref m_fresh, .ref m_at, .long 0, .long 0, .int 0, .int 0])), (m_tape, .inl (cm_tape, 120, .inl (upd (upd (upd (upd (upd (upd (fun _ => 0) (0 : Int32).toNatClampNeg z68) (1 : Int32).toNatClampNeg z71) (2 : Int32).toNatClampNeg z74) (3 : Int32).toNatClampNeg z77) (4 : Int32).toNatClampNeg z80) (5 : Int32).toNatClampNeg z83)))] H := hP
        have hD : va_D A [(h0, .inr (10, [.int 0, .int 0, .int 0, .int 0, .int 7, .int 10, .int 0, .int 0, .ref m_weight, .ref m_strength, .ref m_arm, .ref m_sex, .ref m_age, .ref m_likes, .ref m_rows, .ref m_drummer, .ref m_members, .ref m_beat, .ref m_member, .ref m_seated, .ref m_isSeated, .ref m_tape, .ref m_rTests, .ref m_tField, .ref m_tSign, .ref m_tNumber, .ref m_tNot, .ref m_tOr, .ref m_minute, .ref m_round, .ref m_laneCrew, .ref m_laneTime, .ref m_gone, .ref m_struck, .ref m_wasRun, .ref m_wait, .ref m_current, .ref m_finals, .ref m_bestTime, .ref m_inFinal, .ref m_pick, .ref m_found, .ref m_fresh, .ref m_at, .long 0, .long 0, .int 0, .int 0])), (m_tape, .inl (cm_tape, 120, .inl (upd (upd (upd (upd (upd (upd (fun _ => 0) (0 : Int32).toNatClampNeg z68) (1 : Int32).toNatClampNeg z71) (2 : Int32).toNatClampNeg z74) (3 : Int32).toNatClampNeg z77) (4 : Int32).toNatClampNeg z80) (5 : Int32).toNatClampNeg z83)))] := hD
        refine lv_lload_n hx hb dX10_feed_53 rfl (lv_at hl 2 rfl) ?_
        refine lv_bipush (v := 8) hx hb dX10_feed_54 (by decide +kernel) ?_
        refine lv_iload hx hb dX10_feed_56 (lv_at hl 0 rfl) ?_
        refine lv_imul hx hb dX10_feed_58 ?_
        refine ti_eq (y := 0) (by decide +kernel) ?_
        refine lv_lshr hx hb dX10_feed_59 rfl ?_
        refine lv_topl (fun z84 _ => ?_)
        refine lv_ldc2 (v := 255) hx hb hown (hts (.constantLong RX10 162 (255)) (List.mem_of_getElem? (i := 3) rfl)) dX10_feed_60 ?_
        refine lv_land hx hb dX10_feed_63 ?_
        refine lv_topl (fun z85 _ => ?_)
        refine lv_l2i hx hb dX10_feed_64 rfl ?_
        refine lv_topi (fun z86 _ => ?_)
        refine va_iast hx hb hK hP hD hS 1 0 rfl rfl (by unfold vp_in; decide +kernel) dX10_feed_65 (fun H locs hP hD hS => ?_)
        have hP : va_P (dC, dI) vwCl [(h0, .inr (10, [.int 0, .int 0, .int 0, .int 0, .int 7, .int 10, .int 0, .int 0, .ref m_weight, .ref m_strength, .ref m_arm, .ref m_sex, .ref m_age, .ref m_likes, .ref m_rows, .ref m_drummer, .ref m_members, .ref m_beat, .ref m_member, .ref m_seated, .ref m_isSeated, .ref m_tape, .ref m_rTests, .ref m_tField, .ref m_tSign, .ref m_tNumber, .ref m_tNot, .ref m_tOr, .ref m_minute, .ref m_round, .ref m_laneCrew, .ref m_laneTime, .ref m_gone, .ref m_struck, .ref m_wasRun, .ref m_wait, .ref m_current, .ref m_finals, .ref m_bestTime, .ref m_inFinal, .ref m_pick, .ref m_found, .ref m_fresh, .ref m_at, .long 0, .long 0, .int 0, .int 0])), (m_tape, .inl (cm_tape, 120, .inl (upd (upd (upd (upd (upd (upd (upd (fun _ => 0) (0 : Int32).toNatClampNeg z68) (1 : Int32).toNatClampNeg z71) (2 : Int32).toNatClampNeg z74) (3 : Int32).toNatClampNeg z77) (4 : Int32).toNatClampNeg z80) (5 : Int32).toNatClampNeg z83) (6 : Int32).toNatClampNeg z86)))] H := hP
        have hD : va_D A [(h0, .inr (10, [.int 0, .int 0, .int 0, .int 0, .int 7, .int 10, .int 0, .int 0, .ref m_weight, .ref m_strength, .ref m_arm, .ref m_sex, .ref m_age, .ref m_likes, .ref m_rows, .ref m_drummer, .ref m_members, .ref m_beat, .ref m_member, .ref m_seated, .ref m_isSeated, .ref m_tape, .ref m_rTests, .ref m_tField, .ref m_tSign, .ref m_tNumber, .ref m_tNot, .ref m_tOr, .ref m_minute, .ref m_round, .ref m_laneCrew, .ref m_laneTime, .ref m_gone, .ref m_struck, .ref m_wasRun, .ref m_wait, .ref m_current, .ref m_finals, .ref m_bestTime, .ref m_inFinal, .ref m_pick, .ref m_found, .ref m_fresh, .ref m_at, .long 0, .long 0, .int 0, .int 0])), (m_tape, .inl (cm_tape, 120, .inl (upd (upd (upd (upd (upd (upd (upd (fun _ => 0) (0 : Int32).toNatClampNeg z68) (1 : Int32).toNatClampNeg z71) (2 : Int32).toNatClampNeg z74) (3 : Int32).toNatClampNeg z77) (4 : Int32).toNatClampNeg z80) (5 : Int32).toNatClampNeg z83) (6 : Int32).toNatClampNeg z86)))] := hD
        refine lv_iinc (v := (-1)) (lv' := [(4, .int (-1)), (0, .ref h0), (1, .long w), (3, .int 7)]) hx hb dX10_feed_66 hl (k := 0) rfl (by decide +kernel) (by decide) rfl (fun ls hl => ?_)
        refine lv_goto (tgt := 33) hx hb dX10_feed_69 (by decide) ?_
        refine lv_iload hx hb dX10_feed_33 (lv_at hl 0 rfl) ?_
        refine lv_if_lt (tgt := 72) hx hb dX10_feed_35 (by decide) (fun _ => ?_) (fun c9 => absurd c9 (by decide +kernel))
        refine lv_aload_n hx hb dX10_feed_72 rfl (lv_at hl 1 rfl) ?_
        refine va_get (D := (dC, dI)) (ci := 10) (v := .int 7) (C := RX10) (T := TX10) (N := 48) hx hb hts (fun _ h => List.mem_cons_of_mem _ (List.mem_append_right _ h)) hown hK hP 0 rfl rfl 4 (by decide) (hts (.fieldLink RX10 159 "DrumBoatsModel" "tapeN" "I") (List.mem_of_getElem? (i := 1) rfl)) (fun _ h9 => h9) rfl dX10_feed_73 ?_
        refine W.widen (k := 0) (n := 0) (Nat.le_of_ble_eq_true rfl) (Nat.le_of_ble_eq_true rfl) ?_
        exact W.iret (v := 7) hx hb hr (fun t ht hW => ⟨⟨7, (), rfl, (by first | rfl | decide | (unfold f_feed; (repeat' split) <;> first | rfl | omega)), trivial⟩, hS.F ht⟩) hS.2.2 dX10_feed_76
      · refine lv_aload_n hx hb dX10_feed_14 rfl (lv_at hl 0 rfl) ?_
        refine va_get (D := (dC, dI)) (ci := 10) (v := .int 0) (C := RX10) (T := TX10) (N := 48) hx hb hts (fun _ h => List.mem_cons_of_mem _ (List.mem_append_right _ h)) hown hK hP 0 rfl rfl 4 (by decide) (hts (.fieldLink RX10 159 "DrumBoatsModel" "tapeN" "I") (List.mem_of_getElem? (i := 1) rfl)) (fun _ h9 => h9) rfl dX10_feed_15 ?_
        refine lv_iload_n hx hb dX10_feed_18 rfl (lv_at hl 2 rfl) ?_
        refine lv_iadd hx hb dX10_feed_19 ?_
        refine ti_eq (y := 8) (by decide +kernel) ?_
        refine lv_bipush (v := 120) hx hb dX10_feed_20 (by decide +kernel) ?_
        refine lv_icmp_le (tgt := 28) hx hb dX10_feed_22 (by decide) (fun _ => ?_) (fun c9 => absurd c9 (by decide +kernel))
        refine lv_iload_n hx hb dX10_feed_28 rfl (lv_at hl 2 rfl) ?_
        refine lv_iconst (v := 1) hx hb dX10_feed_29 (by decide +kernel) ?_
        refine lv_isub hx hb dX10_feed_30 ?_
        refine ti_eq (y := 7) (by decide +kernel) ?_
        refine lv_istore (lv' := [(4, .int 7), (0, .ref h0), (1, .long w), (3, .int 8)]) hx hb dX10_feed_31 hl (by decide) rfl (fun ls hl => ?_)
        refine lv_iload hx hb dX10_feed_33 (lv_at hl 0 rfl) ?_
        refine lv_if_lt (tgt := 72) hx hb dX10_feed_35 (by decide) (fun c9 => absurd c9 (by decide +kernel)) (fun _ => ?_)
        refine lv_aload_n hx hb dX10_feed_38 rfl (lv_at hl 1 rfl) ?_
        refine va_get (D := (dC, dI)) (ci := 10) (v := .ref m_tape) (C := RX10) (T := TX10) (N := 48) hx hb hts (fun _ h => List.mem_cons_of_mem _ (List.mem_append_right _ h)) hown hK hP 0 rfl rfl 21 (by decide) (hts (.fieldLink RX10 56 "DrumBoatsModel" "tape" "[I") (List.mem_of_getElem? (i := 2) rfl)) (fun _ h9 => h9) rfl dX10_feed_39 ?_
        refine lv_aload_n hx hb dX10_feed_42 rfl (lv_at hl 1 rfl) ?_
        refine lv_dup hx hb dX10_feed_43 rfl ?_
        refine va_get (D := (dC, dI)) (ci := 10) (v := .int 0) (C := RX10) (T := TX10) (N := 48) hx hb hts (fun _ h => List.mem_cons_of_mem _ (List.mem_append_right _ h)) hown hK hP 0 rfl rfl 4 (by decide) (hts (.fieldLink RX10 159 "DrumBoatsModel" "tapeN" "I") (List.mem_of_getElem? (i := 1) rfl)) (fun _ h9 => h9) rfl dX10_feed_44 ?_
        refine lv_dup_x1 hx hb dX10_feed_47 rfl rfl ?_
        refine lv_iconst (v := 1) hx hb dX10_feed_48 (by decide +kernel) ?_
        refine lv_iadd hx hb dX10_feed_49 ?_
        refine ti_eq (y := 1) (by decide +kernel) ?_
        refine va_put (D := (dC, dI)) (ci := 10) (v := .int 1) (ty := .int) (C := RX10) (T := TX10) (N := 48) hx hb hts (fun _ h => List.mem_cons_of_mem _ (List.mem_append_right _ h)) tyX10 tyX10_ok nmX10 hown hK hP hD hS 0 rfl rfl 4 (by decide) (hts (.fieldLink RX10 159 "DrumBoatsModel" "tapeN" "I") (List.mem_of_getElem? (i := 1) rfl)) (fun _ h9 => h9) rfl (by decide +kernel) rfl rfl (Nat.le_of_ble_eq_true rfl) dX10_feed_50 (fun H locs hP hD hS => ?_)
        have hP : va_P (dC, dI) vwCl [(h0, .inr (10, [.int 0, .int 0, .int 0, .int 0, .int 1, .int 10, .int 0, .int 0, .ref m_weight, .ref m_strength, .ref m_arm, .ref m_sex, .ref m_age, .ref m_likes, .ref m_rows, .ref m_drummer, .ref m_members, .ref m_beat, .ref m_member, .ref m_seated, .ref m_isSeated, .ref m_tape, .ref m_rTests, .ref m_tField, .ref m_tSign, .ref m_tNumber, .ref m_tNot, .ref m_tOr, .ref m_minute, .ref m_round, .ref m_laneCrew, .ref m_laneTime, .ref m_gone, .ref m_struck, .ref m_wasRun, .ref m_wait, .ref m_current, .ref m_finals, .ref m_bestTime, .ref m_inFinal, .ref m_pick, .ref m_found, .ref m_fresh, .ref m_at, .long 0, .long 0, .int 0, .int 0])), (m_tape, .inl (cm_tape, 120, .inl (fun _ => 0)))] H := hP
        have hD : va_D A [(h0, .inr (10, [.int 0, .int 0, .int 0, .int 0, .int 1, .int 10, .int 0, .int 0, .ref m_weight, .ref m_strength, .ref m_arm, .ref m_sex, .ref m_age, .ref m_likes, .ref m_rows, .ref m_drummer, .ref m_members, .ref m_beat, .ref m_member, .ref m_seated, .ref m_isSeated, .ref m_tape, .ref m_rTests, .ref m_tField, .ref m_tSign, .ref m_tNumber, .ref m_tNot, .ref m_tOr, .ref m_minute, .ref m_round, .ref m_laneCrew, .ref m_laneTime, .ref m_gone, .ref m_struck, .ref m_wasRun, .ref m_wait, .ref m_current, .ref m_finals, .ref m_bestTime, .ref m_inFinal, .ref m_pick, .ref m_found, .ref m_fresh, .ref m_at, .long 0, .long 0, .int 0, .int 0])), (m_tape, .inl (cm_tape, 120, .inl (fun _ => 0)))] := hD
        refine lv_lload_n hx hb dX10_feed_53 rfl (lv_at hl 2 rfl) ?_
        refine lv_bipush (v := 8) hx hb dX10_feed_54 (by decide +kernel) ?_
        refine lv_iload hx hb dX10_feed_56 (lv_at hl 0 rfl) ?_
        refine lv_imul hx hb dX10_feed_58 ?_
        refine ti_eq (y := 56) (by decide +kernel) ?_
        refine lv_lshr hx hb dX10_feed_59 rfl ?_
        refine lv_topl (fun z87 _ => ?_)
        refine lv_ldc2 (v := 255) hx hb hown (hts (.constantLong RX10 162 (255)) (List.mem_of_getElem? (i := 3) rfl)) dX10_feed_60 ?_
        refine lv_land hx hb dX10_feed_63 ?_
        refine lv_topl (fun z88 _ => ?_)
        refine lv_l2i hx hb dX10_feed_64 rfl ?_
        refine lv_topi (fun z89 _ => ?_)
        refine va_iast hx hb hK hP hD hS 1 0 rfl rfl (by unfold vp_in; decide +kernel) dX10_feed_65 (fun H locs hP hD hS => ?_)
        have hP : va_P (dC, dI) vwCl [(h0, .inr (10, [.int 0, .int 0, .int 0, .int 0, .int 1, .int 10, .int 0, .int 0, .ref m_weight, .ref m_strength, .ref m_arm, .ref m_sex, .ref m_age, .ref m_likes, .ref m_rows, .ref m_drummer, .ref m_members, .ref m_beat, .ref m_member, .ref m_seated, .ref m_isSeated, .ref m_tape, .ref m_rTests, .ref m_tField, .ref m_tSign, .ref m_tNumber, .ref m_tNot, .ref m_tOr, .ref m_minute, .ref m_round, .ref m_laneCrew, .ref m_laneTime, .ref m_gone, .ref m_struck, .ref m_wasRun, .ref m_wait, .ref m_current, .ref m_finals, .ref m_bestTime, .ref m_inFinal, .ref m_pick, .ref m_found, .ref m_fresh, .ref m_at, .long 0, .long 0, .int 0, .int 0])), (m_tape, .inl (cm_tape, 120, .inl (upd (fun _ => 0) (0 : Int32).toNatClampNeg z89)))] H := hP
        have hD : va_D A [(h0, .inr (10, [.int 0, .int 0, .int 0, .int 0, .int 1, .int 10, .int 0, .int 0, .ref m_weight, .ref m_strength, .ref m_arm, .ref m_sex, .ref m_age, .ref m_likes, .ref m_rows, .ref m_drummer, .ref m_members, .ref m_beat, .ref m_member, .ref m_seated, .ref m_isSeated, .ref m_tape, .ref m_rTests, .ref m_tField, .ref m_tSign, .ref m_tNumber, .ref m_tNot, .ref m_tOr, .ref m_minute, .ref m_round, .ref m_laneCrew, .ref m_laneTime, .ref m_gone, .ref m_struck, .ref m_wasRun, .ref m_wait, .ref m_current, .ref m_finals, .ref m_bestTime, .ref m_inFinal, .ref m_pick, .ref m_found, .ref m_fresh, .ref m_at, .long 0, .long 0, .int 0, .int 0])), (m_tape, .inl (cm_tape, 120, .inl (upd (fun _ => 0) (0 : Int32).toNatClampNeg z89)))] := hD
        refine lv_iinc (v := 6) (lv' := [(4, .int 6), (0, .ref h0), (1, .long w), (3, .int 8)]) hx hb dX10_feed_66 hl (k := 0) rfl (by decide +kernel) (by decide) rfl (fun ls hl => ?_)
        refine lv_goto (tgt := 33) hx hb dX10_feed_69 (by decide) ?_
        refine lv_iload hx hb dX10_feed_33 (lv_at hl 0 rfl) ?_
        refine lv_if_lt (tgt := 72) hx hb dX10_feed_35 (by decide) (fun c9 => absurd c9 (by decide +kernel)) (fun _ => ?_)
        refine lv_aload_n hx hb dX10_feed_38 rfl (lv_at hl 1 rfl) ?_
        refine va_get (D := (dC, dI)) (ci := 10) (v := .ref m_tape) (C := RX10) (T := TX10) (N := 48) hx hb hts (fun _ h => List.mem_cons_of_mem _ (List.mem_append_right _ h)) hown hK hP 0 rfl rfl 21 (by decide) (hts (.fieldLink RX10 56 "DrumBoatsModel" "tape" "[I") (List.mem_of_getElem? (i := 2) rfl)) (fun _ h9 => h9) rfl dX10_feed_39 ?_
        refine lv_aload_n hx hb dX10_feed_42 rfl (lv_at hl 1 rfl) ?_
        refine lv_dup hx hb dX10_feed_43 rfl ?_
        refine va_get (D := (dC, dI)) (ci := 10) (v := .int 1) (C := RX10) (T := TX10) (N := 48) hx hb hts (fun _ h => List.mem_cons_of_mem _ (List.mem_append_right _ h)) hown hK hP 0 rfl rfl 4 (by decide) (hts (.fieldLink RX10 159 "DrumBoatsModel" "tapeN" "I") (List.mem_of_getElem? (i := 1) rfl)) (fun _ h9 => h9) rfl dX10_feed_44 ?_
        refine lv_dup_x1 hx hb dX10_feed_47 rfl rfl ?_
        refine lv_iconst (v := 1) hx hb dX10_feed_48 (by decide +kernel) ?_
        refine lv_iadd hx hb dX10_feed_49 ?_
        refine ti_eq (y := 2) (by decide +kernel) ?_
        refine va_put (D := (dC, dI)) (ci := 10) (v := .int 2) (ty := .int) (C := RX10) (T := TX10) (N := 48) hx hb hts (fun _ h => List.mem_cons_of_mem _ (List.mem_append_right _ h)) tyX10 tyX10_ok nmX10 hown hK hP hD hS 0 rfl rfl 4 (by decide) (hts (.fieldLink RX10 159 "DrumBoatsModel" "tapeN" "I") (List.mem_of_getElem? (i := 1) rfl)) (fun _ h9 => h9) rfl (by decide +kernel) rfl rfl (Nat.le_of_ble_eq_true rfl) dX10_feed_50 (fun H locs hP hD hS => ?_)
        have hP : va_P (dC, dI) vwCl [(h0, .inr (10, [.int 0, .int 0, .int 0, .int 0, .int 2, .int 10, .int 0, .int 0, .ref m_weight, .ref m_strength, .ref m_arm, .ref m_sex, .ref m_age, .ref m_likes, .ref m_rows, .ref m_drummer, .ref m_members, .ref m_beat, .ref m_member, .ref m_seated, .ref m_isSeated, .ref m_tape, .ref m_rTests, .ref m_tField, .ref m_tSign, .ref m_tNumber, .ref m_tNot, .ref m_tOr, .ref m_minute, .ref m_round, .ref m_laneCrew, .ref m_laneTime, .ref m_gone, .ref m_struck, .ref m_wasRun, .ref m_wait, .ref m_current, .ref m_finals, .ref m_bestTime, .ref m_inFinal, .ref m_pick, .ref m_found, .ref m_fresh, .ref m_at, .long 0, .long 0, .int 0, .int 0])), (m_tape, .inl (cm_tape, 120, .inl (upd (fun _ => 0) (0 : Int32).toNatClampNeg z89)))] H := hP
        have hD : va_D A [(h0, .inr (10, [.int 0, .int 0, .int 0, .int 0, .int 2, .int 10, .int 0, .int 0, .ref m_weight, .ref m_strength, .ref m_arm, .ref m_sex, .ref m_age, .ref m_likes, .ref m_rows, .ref m_drummer, .ref m_members, .ref m_beat, .ref m_member, .ref m_seated, .ref m_isSeated, .ref m_tape, .ref m_rTests, .ref m_tField, .ref m_tSign, .ref m_tNumber, .ref m_tNot, .ref m_tOr, .ref m_minute, .ref m_round, .ref m_laneCrew, .ref m_laneTime, .ref m_gone, .ref m_struck, .ref m_wasRun, .ref m_wait, .ref m_current, .ref m_finals, .ref m_bestTime, .ref m_inFinal, .ref m_pick, .ref m_found, .ref m_fresh, .ref m_at, .long 0, .long 0, .int 0, .int 0])), (m_tape, .inl (cm_tape, 120, .inl (upd (fun _ => 0) (0 : Int32).toNatClampNeg z89)))] := hD
        refine lv_lload_n hx hb dX10_feed_53 rfl (lv_at hl 2 rfl) ?_
        refine lv_bipush (v := 8) hx hb dX10_feed_54 (by decide +kernel) ?_
        refine lv_iload hx hb dX10_feed_56 (lv_at hl 0 rfl) ?_
        refine lv_imul hx hb dX10_feed_58 ?_
        refine ti_eq (y := 48) (by decide +kernel) ?_
        refine lv_lshr hx hb dX10_feed_59 rfl ?_
        refine lv_topl (fun z90 _ => ?_)
        refine lv_ldc2 (v := 255) hx hb hown (hts (.constantLong RX10 162 (255)) (List.mem_of_getElem? (i := 3) rfl)) dX10_feed_60 ?_
        refine lv_land hx hb dX10_feed_63 ?_
        refine lv_topl (fun z91 _ => ?_)
        refine lv_l2i hx hb dX10_feed_64 rfl ?_
        refine lv_topi (fun z92 _ => ?_)
        refine va_iast hx hb hK hP hD hS 1 0 rfl rfl (by unfold vp_in; decide +kernel) dX10_feed_65 (fun H locs hP hD hS => ?_)
        have hP : va_P (dC, dI) vwCl [(h0, .inr (10, [.int 0, .int 0, .int 0, .int 0, .int 2, .int 10, .int 0, .int 0, .ref m_weight, .ref m_strength, .ref m_arm, .ref m_sex, .ref m_age, .ref m_likes, .ref m_rows, .ref m_drummer, .ref m_members, .ref m_beat, .ref m_member, .ref m_seated, .ref m_isSeated, .ref m_tape, .ref m_rTests, .ref m_tField, .ref m_tSign, .ref m_tNumber, .ref m_tNot, .ref m_tOr, .ref m_minute, .ref m_round, .ref m_laneCrew, .ref m_laneTime, .ref m_gone, .ref m_struck, .ref m_wasRun, .ref m_wait, .ref m_current, .ref m_finals, .ref m_bestTime, .ref m_inFinal, .ref m_pick, .ref m_found, .ref m_fresh, .ref m_at, .long 0, .long 0, .int 0, .int 0])), (m_tape, .inl (cm_tape, 120, .inl (upd (upd (fun _ => 0) (0 : Int32).toNatClampNeg z89) (1 : Int32).toNatClampNeg z92)))] H := hP
        have hD : va_D A [(h0, .inr (10, [.int 0, .int 0, .int 0, .int 0, .int 2, .int 10, .int 0, .int 0, .ref m_weight, .ref m_strength, .ref m_arm, .ref m_sex, .ref m_age, .ref m_likes, .ref m_rows, .ref m_drummer, .ref m_members, .ref m_beat, .ref m_member, .ref m_seated, .ref m_isSeated, .ref m_tape, .ref m_rTests, .ref m_tField, .ref m_tSign, .ref m_tNumber, .ref m_tNot, .ref m_tOr, .ref m_minute, .ref m_round, .ref m_laneCrew, .ref m_laneTime, .ref m_gone, .ref m_struck, .ref m_wasRun, .ref m_wait, .ref m_current, .ref m_finals, .ref m_bestTime, .ref m_inFinal, .ref m_pick, .ref m_found, .ref m_fresh, .ref m_at, .long 0, .long 0, .int 0, .int 0])), (m_tape, .inl (cm_tape, 120, .inl (upd (upd (fun _ => 0) (0 : Int32).toNatClampNeg z89) (1 : Int32).toNatClampNeg z92)))] := hD
        refine lv_iinc (v := 5) (lv' := [(4, .int 5), (0, .ref h0), (1, .long w), (3, .int 8)]) hx hb dX10_feed_66 hl (k := 0) rfl (by decide +kernel) (by decide) rfl (fun ls hl => ?_)
        refine lv_goto (tgt := 33) hx hb dX10_feed_69 (by decide) ?_
        refine lv_iload hx hb dX10_feed_33 (lv_at hl 0 rfl) ?_
        refine lv_if_lt (tgt := 72) hx hb dX10_feed_35 (by decide) (fun c9 => absurd c9 (by decide +kernel)) (fun _ => ?_)
        refine lv_aload_n hx hb dX10_feed_38 rfl (lv_at hl 1 rfl) ?_
        refine va_get (D := (dC, dI)) (ci := 10) (v := .ref m_tape) (C := RX10) (T := TX10) (N := 48) hx hb hts (fun _ h => List.mem_cons_of_mem _ (List.mem_append_right _ h)) hown hK hP 0 rfl rfl 21 (by decide) (hts (.fieldLink RX10 56 "DrumBoatsModel" "tape" "[I") (List.mem_of_getElem? (i := 2) rfl)) (fun _ h9 => h9) rfl dX10_feed_39 ?_
        refine lv_aload_n hx hb dX10_feed_42 rfl (lv_at hl 1 rfl) ?_
        refine lv_dup hx hb dX10_feed_43 rfl ?_
        refine va_get (D := (dC, dI)) (ci := 10) (v := .int 2) (C := RX10) (T := TX10) (N := 48) hx hb hts (fun _ h => List.mem_cons_of_mem _ (List.mem_append_right _ h)) hown hK hP 0 rfl rfl 4 (by decide) (hts (.fieldLink RX10 159 "DrumBoatsModel" "tapeN" "I") (List.mem_of_getElem? (i := 1) rfl)) (fun _ h9 => h9) rfl dX10_feed_44 ?_
        refine lv_dup_x1 hx hb dX10_feed_47 rfl rfl ?_
        refine lv_iconst (v := 1) hx hb dX10_feed_48 (by decide +kernel) ?_
        refine lv_iadd hx hb dX10_feed_49 ?_
        refine ti_eq (y := 3) (by decide +kernel) ?_
        refine va_put (D := (dC, dI)) (ci := 10) (v := .int 3) (ty := .int) (C := RX10) (T := TX10) (N := 48) hx hb hts (fun _ h => List.mem_cons_of_mem _ (List.mem_append_right _ h)) tyX10 tyX10_ok nmX10 hown hK hP hD hS 0 rfl rfl 4 (by decide) (hts (.fieldLink RX10 159 "DrumBoatsModel" "tapeN" "I") (List.mem_of_getElem? (i := 1) rfl)) (fun _ h9 => h9) rfl (by decide +kernel) rfl rfl (Nat.le_of_ble_eq_true rfl) dX10_feed_50 (fun H locs hP hD hS => ?_)
        have hP : va_P (dC, dI) vwCl [(h0, .inr (10, [.int 0, .int 0, .int 0, .int 0, .int 3, .int 10, .int 0, .int 0, .ref m_weight, .ref m_strength, .ref m_arm, .ref m_sex, .ref m_age, .ref m_likes, .ref m_rows, .ref m_drummer, .ref m_members, .ref m_beat, .ref m_member, .ref m_seated, .ref m_isSeated, .ref m_tape, .ref m_rTests, .ref m_tField, .ref m_tSign, .ref m_tNumber, .ref m_tNot, .ref m_tOr, .ref m_minute, .ref m_round, .ref m_laneCrew, .ref m_laneTime, .ref m_gone, .ref m_struck, .ref m_wasRun, .ref m_wait, .ref m_current, .ref m_finals, .ref m_bestTime, .ref m_inFinal, .ref m_pick, .ref m_found, .ref m_fresh, .ref m_at, .long 0, .long 0, .int 0, .int 0])), (m_tape, .inl (cm_tape, 120, .inl (upd (upd (fun _ => 0) (0 : Int32).toNatClampNeg z89) (1 : Int32).toNatClampNeg z92)))] H := hP
        have hD : va_D A [(h0, .inr (10, [.int 0, .int 0, .int 0, .int 0, .int 3, .int 10, .int 0, .int 0, .ref m_weight, .ref m_strength, .ref m_arm, .ref m_sex, .ref m_age, .ref m_likes, .ref m_rows, .ref m_drummer, .ref m_members, .ref m_beat, .ref m_member, .ref m_seated, .ref m_isSeated, .ref m_tape, .ref m_rTests, .ref m_tField, .ref m_tSign, .ref m_tNumber, .ref m_tNot, .ref m_tOr, .ref m_minute, .ref m_round, .ref m_laneCrew, .ref m_laneTime, .ref m_gone, .ref m_struck, .ref m_wasRun, .ref m_wait, .ref m_current, .ref m_finals, .ref m_bestTime, .ref m_inFinal, .ref m_pick, .ref m_found, .ref m_fresh, .ref m_at, .long 0, .long 0, .int 0, .int 0])), (m_tape, .inl (cm_tape, 120, .inl (upd (upd (fun _ => 0) (0 : Int32).toNatClampNeg z89) (1 : Int32).toNatClampNeg z92)))] := hD
        refine lv_lload_n hx hb dX10_feed_53 rfl (lv_at hl 2 rfl) ?_
        refine lv_bipush (v := 8) hx hb dX10_feed_54 (by decide +kernel) ?_
        refine lv_iload hx hb dX10_feed_56 (lv_at hl 0 rfl) ?_
        refine lv_imul hx hb dX10_feed_58 ?_
        refine ti_eq (y := 40) (by decide +kernel) ?_
        refine lv_lshr hx hb dX10_feed_59 rfl ?_
        refine lv_topl (fun z93 _ => ?_)
        refine lv_ldc2 (v := 255) hx hb hown (hts (.constantLong RX10 162 (255)) (List.mem_of_getElem? (i := 3) rfl)) dX10_feed_60 ?_
        refine lv_land hx hb dX10_feed_63 ?_
        refine lv_topl (fun z94 _ => ?_)
        refine lv_l2i hx hb dX10_feed_64 rfl ?_
        refine lv_topi (fun z95 _ => ?_)
        refine va_iast hx hb hK hP hD hS 1 0 rfl rfl (by unfold vp_in; decide +kernel) dX10_feed_65 (fun H locs hP hD hS => ?_)
        have hP : va_P (dC, dI) vwCl [(h0, .inr (10, [.int 0, .int 0, .int 0, .int 0, .int 3, .int 10, .int 0, .int 0, .ref m_weight, .ref m_strength, .ref m_arm, .ref m_sex, .ref m_age, .ref m_likes, .ref m_rows, .ref m_drummer, .ref m_members, .ref m_beat, .ref m_member, .ref m_seated, .ref m_isSeated, .ref m_tape, .ref m_rTests, .ref m_tField, .ref m_tSign, .ref m_tNumber, .ref m_tNot, .ref m_tOr, .ref m_minute, .ref m_round, .ref m_laneCrew, .ref m_laneTime, .ref m_gone, .ref m_struck, .ref m_wasRun, .ref m_wait, .ref m_current, .ref m_finals, .ref m_bestTime, .ref m_inFinal, .ref m_pick, .ref m_found, .ref m_fresh, .ref m_at, .long 0, .long 0, .int 0, .int 0])), (m_tape, .inl (cm_tape, 120, .inl (upd (upd (upd (fun _ => 0) (0 : Int32).toNatClampNeg z89) (1 : Int32).toNatClampNeg z92) (2 : Int32).toNatClampNeg z95)))] H := hP
        have hD : va_D A [(h0, .inr (10, [.int 0, .int 0, .int 0, .int 0, .int 3, .int 10, .int 0, .int 0, .ref m_weight, .ref m_strength, .ref m_arm, .ref m_sex, .ref m_age, .ref m_likes, .ref m_rows, .ref m_drummer, .ref m_members, .ref m_beat, .ref m_member, .ref m_seated, .ref m_isSeated, .ref m_tape, .ref m_rTests, .ref m_tField, .ref m_tSign, .ref m_tNumber, .ref m_tNot, .ref m_tOr, .ref m_minute, .ref m_round, .ref m_laneCrew, .ref m_laneTime, .ref m_gone, .ref m_struck, .ref m_wasRun, .ref m_wait, .ref m_current, .ref m_finals, .ref m_bestTime, .ref m_inFinal, .ref m_pick, .ref m_found, .ref m_fresh, .ref m_at, .long 0, .long 0, .int 0, .int 0])), (m_tape, .inl (cm_tape, 120, .inl (upd (upd (upd (fun _ => 0) (0 : Int32).toNatClampNeg z89) (1 : Int32).toNatClampNeg z92) (2 : Int32).toNatClampNeg z95)))] := hD
        refine lv_iinc (v := 4) (lv' := [(4, .int 4), (0, .ref h0), (1, .long w), (3, .int 8)]) hx hb dX10_feed_66 hl (k := 0) rfl (by decide +kernel) (by decide) rfl (fun ls hl => ?_)
        refine lv_goto (tgt := 33) hx hb dX10_feed_69 (by decide) ?_
        refine lv_iload hx hb dX10_feed_33 (lv_at hl 0 rfl) ?_
        refine lv_if_lt (tgt := 72) hx hb dX10_feed_35 (by decide) (fun c9 => absurd c9 (by decide +kernel)) (fun _ => ?_)
        refine lv_aload_n hx hb dX10_feed_38 rfl (lv_at hl 1 rfl) ?_
        refine va_get (D := (dC, dI)) (ci := 10) (v := .ref m_tape) (C := RX10) (T := TX10) (N := 48) hx hb hts (fun _ h => List.mem_cons_of_mem _ (List.mem_append_right _ h)) hown hK hP 0 rfl rfl 21 (by decide) (hts (.fieldLink RX10 56 "DrumBoatsModel" "tape" "[I") (List.mem_of_getElem? (i := 2) rfl)) (fun _ h9 => h9) rfl dX10_feed_39 ?_
        refine lv_aload_n hx hb dX10_feed_42 rfl (lv_at hl 1 rfl) ?_
        refine lv_dup hx hb dX10_feed_43 rfl ?_
        refine va_get (D := (dC, dI)) (ci := 10) (v := .int 3) (C := RX10) (T := TX10) (N := 48) hx hb hts (fun _ h => List.mem_cons_of_mem _ (List.mem_append_right _ h)) hown hK hP 0 rfl rfl 4 (by decide) (hts (.fieldLink RX10 159 "DrumBoatsModel" "tapeN" "I") (List.mem_of_getElem? (i := 1) rfl)) (fun _ h9 => h9) rfl dX10_feed_44 ?_
        refine lv_dup_x1 hx hb dX10_feed_47 rfl rfl ?_
        refine lv_iconst (v := 1) hx hb dX10_feed_48 (by decide +kernel) ?_
        refine lv_iadd hx hb dX10_feed_49 ?_
        refine ti_eq (y := 4) (by decide +kernel) ?_
        refine va_put (D := (dC, dI)) (ci := 10) (v := .int 4) (ty := .int) (C := RX10) (T := TX10) (N := 48) hx hb hts (fun _ h => List.mem_cons_of_mem _ (List.mem_append_right _ h)) tyX10 tyX10_ok nmX10 hown hK hP hD hS 0 rfl rfl 4 (by decide) (hts (.fieldLink RX10 159 "DrumBoatsModel" "tapeN" "I") (List.mem_of_getElem? (i := 1) rfl)) (fun _ h9 => h9) rfl (by decide +kernel) rfl rfl (Nat.le_of_ble_eq_true rfl) dX10_feed_50 (fun H locs hP hD hS => ?_)
        have hP : va_P (dC, dI) vwCl [(h0, .inr (10, [.int 0, .int 0, .int 0, .int 0, .int 4, .int 10, .int 0, .int 0, .ref m_weight, .ref m_strength, .ref m_arm, .ref m_sex, .ref m_age, .ref m_likes, .ref m_rows, .ref m_drummer, .ref m_members, .ref m_beat, .ref m_member, .ref m_seated, .ref m_isSeated, .ref m_tape, .ref m_rTests, .ref m_tField, .ref m_tSign, .ref m_tNumber, .ref m_tNot, .ref m_tOr, .ref m_minute, .ref m_round, .ref m_laneCrew, .ref m_laneTime, .ref m_gone, .ref m_struck, .ref m_wasRun, .ref m_wait, .ref m_current, .ref m_finals, .ref m_bestTime, .ref m_inFinal, .ref m_pick, .ref m_found, .ref m_fresh, .ref m_at, .long 0, .long 0, .int 0, .int 0])), (m_tape, .inl (cm_tape, 120, .inl (upd (upd (upd (fun _ => 0) (0 : Int32).toNatClampNeg z89) (1 : Int32).toNatClampNeg z92) (2 : Int32).toNatClampNeg z95)))] H := hP
        have hD : va_D A [(h0, .inr (10, [.int 0, .int 0, .int 0, .int 0, .int 4, .int 10, .int 0, .int 0, .ref m_weight, .ref m_strength, .ref m_arm, .ref m_sex, .ref m_age, .ref m_likes, .ref m_rows, .ref m_drummer, .ref m_members, .ref m_beat, .ref m_member, .ref m_seated, .ref m_isSeated, .ref m_tape, .ref m_rTests, .ref m_tField, .ref m_tSign, .ref m_tNumber, .ref m_tNot, .ref m_tOr, .ref m_minute, .ref m_round, .ref m_laneCrew, .ref m_laneTime, .ref m_gone, .ref m_struck, .ref m_wasRun, .ref m_wait, .ref m_current, .ref m_finals, .ref m_bestTime, .ref m_inFinal, .ref m_pick, .ref m_found, .ref m_fresh, .ref m_at, .long 0, .long 0, .int 0, .int 0])), (m_tape, .inl (cm_tape, 120, .inl (upd (upd (upd (fun _ => 0) (0 : Int32).toNatClampNeg z89) (1 : Int32).toNatClampNeg z92) (2 : Int32).toNatClampNeg z95)))] := hD
        refine lv_lload_n hx hb dX10_feed_53 rfl (lv_at hl 2 rfl) ?_
        refine lv_bipush (v := 8) hx hb dX10_feed_54 (by decide +kernel) ?_
        refine lv_iload hx hb dX10_feed_56 (lv_at hl 0 rfl) ?_
        refine lv_imul hx hb dX10_feed_58 ?_
        refine ti_eq (y := 32) (by decide +kernel) ?_
        refine lv_lshr hx hb dX10_feed_59 rfl ?_
        refine lv_topl (fun z96 _ => ?_)
        refine lv_ldc2 (v := 255) hx hb hown (hts (.constantLong RX10 162 (255)) (List.mem_of_getElem? (i := 3) rfl)) dX10_feed_60 ?_
        refine lv_land hx hb dX10_feed_63 ?_
        refine lv_topl (fun z97 _ => ?_)
        refine lv_l2i hx hb dX10_feed_64 rfl ?_
        refine lv_topi (fun z98 _ => ?_)
        refine va_iast hx hb hK hP hD hS 1 0 rfl rfl (by unfold vp_in; decide +kernel) dX10_feed_65 (fun H locs hP hD hS => ?_)
        have hP : va_P (dC, dI) vwCl [(h0, .inr (10, [.int 0, .int 0, .int 0, .int 0, .int 4, .int 10, .int 0, .int 0, .ref m_weight, .ref m_strength, .ref m_arm, .ref m_sex, .ref m_age, .ref m_likes, .ref m_rows, .ref m_drummer, .ref m_members, .ref m_beat, .ref m_member, .ref m_seated, .ref m_isSeated, .ref m_tape, .ref m_rTests, .ref m_tField, .ref m_tSign, .ref m_tNumber, .ref m_tNot, .ref m_tOr, .ref m_minute, .ref m_round, .ref m_laneCrew, .ref m_laneTime, .ref m_gone, .ref m_struck, .ref m_wasRun, .ref m_wait, .ref m_current, .ref m_finals, .ref m_bestTime, .ref m_inFinal, .ref m_pick, .ref m_found, .ref m_fresh, .ref m_at, .long 0, .long 0, .int 0, .int 0])), (m_tape, .inl (cm_tape, 120, .inl (upd (upd (upd (upd (fun _ => 0) (0 : Int32).toNatClampNeg z89) (1 : Int32).toNatClampNeg z92) (2 : Int32).toNatClampNeg z95) (3 : Int32).toNatClampNeg z98)))] H := hP
        have hD : va_D A [(h0, .inr (10, [.int 0, .int 0, .int 0, .int 0, .int 4, .int 10, .int 0, .int 0, .ref m_weight, .ref m_strength, .ref m_arm, .ref m_sex, .ref m_age, .ref m_likes, .ref m_rows, .ref m_drummer, .ref m_members, .ref m_beat, .ref m_member, .ref m_seated, .ref m_isSeated, .ref m_tape, .ref m_rTests, .ref m_tField, .ref m_tSign, .ref m_tNumber, .ref m_tNot, .ref m_tOr, .ref m_minute, .ref m_round, .ref m_laneCrew, .ref m_laneTime, .ref m_gone, .ref m_struck, .ref m_wasRun, .ref m_wait, .ref m_current, .ref m_finals, .ref m_bestTime, .ref m_inFinal, .ref m_pick, .ref m_found, .ref m_fresh, .ref m_at, .long 0, .long 0, .int 0, .int 0])), (m_tape, .inl (cm_tape, 120, .inl (upd (upd (upd (upd (fun _ => 0) (0 : Int32).toNatClampNeg z89) (1 : Int32).toNatClampNeg z92) (2 : Int32).toNatClampNeg z95) (3 : Int32).toNatClampNeg z98)))] := hD
        refine lv_iinc (v := 3) (lv' := [(4, .int 3), (0, .ref h0), (1, .long w), (3, .int 8)]) hx hb dX10_feed_66 hl (k := 0) rfl (by decide +kernel) (by decide) rfl (fun ls hl => ?_)
        refine lv_goto (tgt := 33) hx hb dX10_feed_69 (by decide) ?_
        refine lv_iload hx hb dX10_feed_33 (lv_at hl 0 rfl) ?_
        refine lv_if_lt (tgt := 72) hx hb dX10_feed_35 (by decide) (fun c9 => absurd c9 (by decide +kernel)) (fun _ => ?_)
        refine lv_aload_n hx hb dX10_feed_38 rfl (lv_at hl 1 rfl) ?_
        refine va_get (D := (dC, dI)) (ci := 10) (v := .ref m_tape) (C := RX10) (T := TX10) (N := 48) hx hb hts (fun _ h => List.mem_cons_of_mem _ (List.mem_append_right _ h)) hown hK hP 0 rfl rfl 21 (by decide) (hts (.fieldLink RX10 56 "DrumBoatsModel" "tape" "[I") (List.mem_of_getElem? (i := 2) rfl)) (fun _ h9 => h9) rfl dX10_feed_39 ?_
        refine lv_aload_n hx hb dX10_feed_42 rfl (lv_at hl 1 rfl) ?_
        refine lv_dup hx hb dX10_feed_43 rfl ?_
        refine va_get (D := (dC, dI)) (ci := 10) (v := .int 4) (C := RX10) (T := TX10) (N := 48) hx hb hts (fun _ h => List.mem_cons_of_mem _ (List.mem_append_right _ h)) hown hK hP 0 rfl rfl 4 (by decide) (hts (.fieldLink RX10 159 "DrumBoatsModel" "tapeN" "I") (List.mem_of_getElem? (i := 1) rfl)) (fun _ h9 => h9) rfl dX10_feed_44 ?_
        refine lv_dup_x1 hx hb dX10_feed_47 rfl rfl ?_
        refine lv_iconst (v := 1) hx hb dX10_feed_48 (by decide +kernel) ?_
        refine lv_iadd hx hb dX10_feed_49 ?_
        refine ti_eq (y := 5) (by decide +kernel) ?_
        refine va_put (D := (dC, dI)) (ci := 10) (v := .int 5) (ty := .int) (C := RX10) (T := TX10) (N := 48) hx hb hts (fun _ h => List.mem_cons_of_mem _ (List.mem_append_right _ h)) tyX10 tyX10_ok nmX10 hown hK hP hD hS 0 rfl rfl 4 (by decide) (hts (.fieldLink RX10 159 "DrumBoatsModel" "tapeN" "I") (List.mem_of_getElem? (i := 1) rfl)) (fun _ h9 => h9) rfl (by decide +kernel) rfl rfl (Nat.le_of_ble_eq_true rfl) dX10_feed_50 (fun H locs hP hD hS => ?_)
        have hP : va_P (dC, dI) vwCl [(h0, .inr (10, [.int 0, .int 0, .int 0, .int 0, .int 5, .int 10, .int 0, .int 0, .ref m_weight, .ref m_strength, .ref m_arm, .ref m_sex, .ref m_age, .ref m_likes, .ref m_rows, .ref m_drummer, .ref m_members, .ref m_beat, .ref m_member, .ref m_seated, .ref m_isSeated, .ref m_tape, .ref m_rTests, .ref m_tField, .ref m_tSign, .ref m_tNumber, .ref m_tNot, .ref m_tOr, .ref m_minute, .ref m_round, .ref m_laneCrew, .ref m_laneTime, .ref m_gone, .ref m_struck, .ref m_wasRun, .ref m_wait, .ref m_current, .ref m_finals, .ref m_bestTime, .ref m_inFinal, .ref m_pick, .ref m_found, .ref m_fresh, .ref m_at, .long 0, .long 0, .int 0, .int 0])), (m_tape, .inl (cm_tape, 120, .inl (upd (upd (upd (upd (fun _ => 0) (0 : Int32).toNatClampNeg z89) (1 : Int32).toNatClampNeg z92) (2 : Int32).toNatClampNeg z95) (3 : Int32).toNatClampNeg z98)))] H := hP
        have hD : va_D A [(h0, .inr (10, [.int 0, .int 0, .int 0, .int 0, .int 5, .int 10, .int 0, .int 0, .ref m_weight, .ref m_strength, .ref m_arm, .ref m_sex, .ref m_age, .ref m_likes, .ref m_rows, .ref m_drummer, .ref m_members, .ref m_beat, .ref m_member, .ref m_seated, .ref m_isSeated, .ref m_tape, .ref m_rTests, .ref m_tField, .ref m_tSign, .ref m_tNumber, .ref m_tNot, .ref m_tOr, .ref m_minute, .ref m_round, .ref m_laneCrew, .ref m_laneTime, .ref m_gone, .ref m_struck, .ref m_wasRun, .ref m_wait, .ref m_current, .ref m_finals, .ref m_bestTime, .ref m_inFinal, .ref m_pick, .ref m_found, .ref m_fresh, .ref m_at, .long 0, .long 0, .int 0, .int 0])), (m_tape, .inl (cm_tape, 120, .inl (upd (upd (upd (upd (fun _ => 0) (0 : Int32).toNatClampNeg z89) (1 : Int32).toNatClampNeg z92) (2 : Int32).toNatClampNeg z95) (3 : Int32).toNatClampNeg z98)))] := hD
        refine lv_lload_n hx hb dX10_feed_53 rfl (lv_at hl 2 rfl) ?_
        refine lv_bipush (v := 8) hx hb dX10_feed_54 (by decide +kernel) ?_
        refine lv_iload hx hb dX10_feed_56 (lv_at hl 0 rfl) ?_
        refine lv_imul hx hb dX10_feed_58 ?_
        refine ti_eq (y := 24) (by decide +kernel) ?_
        refine lv_lshr hx hb dX10_feed_59 rfl ?_
        refine lv_topl (fun z99 _ => ?_)
        refine lv_ldc2 (v := 255) hx hb hown (hts (.constantLong RX10 162 (255)) (List.mem_of_getElem? (i := 3) rfl)) dX10_feed_60 ?_
        refine lv_land hx hb dX10_feed_63 ?_
        refine lv_topl (fun z100 _ => ?_)
        refine lv_l2i hx hb dX10_feed_64 rfl ?_
        refine lv_topi (fun z101 _ => ?_)
        refine va_iast hx hb hK hP hD hS 1 0 rfl rfl (by unfold vp_in; decide +kernel) dX10_feed_65 (fun H locs hP hD hS => ?_)
        have hP : va_P (dC, dI) vwCl [(h0, .inr (10, [.int 0, .int 0, .int 0, .int 0, .int 5, .int 10, .int 0, .int 0, .ref m_weight, .ref m_strength, .ref m_arm, .ref m_sex, .ref m_age, .ref m_likes, .ref m_rows, .ref m_drummer, .ref m_members, .ref m_beat, .ref m_member, .ref m_seated, .ref m_isSeated, .ref m_tape, .ref m_rTests, .ref m_tField, .ref m_tSign, .ref m_tNumber, .ref m_tNot, .ref m_tOr, .ref m_minute, .ref m_round, .ref m_laneCrew, .ref m_laneTime, .ref m_gone, .ref m_struck, .ref m_wasRun, .ref m_wait, .ref m_current, .ref m_finals, .ref m_bestTime, .ref m_inFinal, .ref m_pick, .ref m_found, .ref m_fresh, .ref m_at, .long 0, .long 0, .int 0, .int 0])), (m_tape, .inl (cm_tape, 120, .inl (upd (upd (upd (upd (upd (fun _ => 0) (0 : Int32).toNatClampNeg z89) (1 : Int32).toNatClampNeg z92) (2 : Int32).toNatClampNeg z95) (3 : Int32).toNatClampNeg z98) (4 : Int32).toNatClampNeg z101)))] H := hP
        have hD : va_D A [(h0, .inr (10, [.int 0, .int 0, .int 0, .int 0, .int 5, .int 10, .int 0, .int 0, .ref m_weight, .ref m_strength, .ref m_arm, .ref m_sex, .ref m_age, .ref m_likes, .ref m_rows, .ref m_drummer, .ref m_members, .ref m_beat, .ref m_member, .ref m_seated, .ref m_isSeated, .ref m_tape, .ref m_rTests, .ref m_tField, .ref m_tSign, .ref m_tNumber, .ref m_tNot, .ref m_tOr, .ref m_minute, .ref m_round, .ref m_laneCrew, .ref m_laneTime, .ref m_gone, .ref m_struck, .ref m_wasRun, .ref m_wait, .ref m_current, .ref m_finals, .ref m_bestTime, .ref m_inFinal, .ref m_pick, .ref m_found, .ref m_fresh, .ref m_at, .long 0, .long 0, .int 0, .int 0])), (m_tape, .inl (cm_tape, 120, .inl (upd (upd (upd (upd (upd (fun _ => 0) (0 : Int32).toNatClampNeg z89) (1 : Int32).toNatClampNeg z92) (2 : Int32).toNatClampNeg z95) (3 : Int32).toNatClampNeg z98) (4 : Int32).toNatClampNeg z101)))] := hD
        refine lv_iinc (v := 2) (lv' := [(4, .int 2), (0, .ref h0), (1, .long w), (3, .int 8)]) hx hb dX10_feed_66 hl (k := 0) rfl (by decide +kernel) (by decide) rfl (fun ls hl => ?_)
        refine lv_goto (tgt := 33) hx hb dX10_feed_69 (by decide) ?_
        refine lv_iload hx hb dX10_feed_33 (lv_at hl 0 rfl) ?_
        refine lv_if_lt (tgt := 72) hx hb dX10_feed_35 (by decide) (fun c9 => absurd c9 (by decide +kernel)) (fun _ => ?_)
        refine lv_aload_n hx hb dX10_feed_38 rfl (lv_at hl 1 rfl) ?_
        refine va_get (D := (dC, dI)) (ci := 10) (v := .ref m_tape) (C := RX10) (T := TX10) (N := 48) hx hb hts (fun _ h => List.mem_cons_of_mem _ (List.mem_append_right _ h)) hown hK hP 0 rfl rfl 21 (by decide) (hts (.fieldLink RX10 56 "DrumBoatsModel" "tape" "[I") (List.mem_of_getElem? (i := 2) rfl)) (fun _ h9 => h9) rfl dX10_feed_39 ?_
        refine lv_aload_n hx hb dX10_feed_42 rfl (lv_at hl 1 rfl) ?_
        refine lv_dup hx hb dX10_feed_43 rfl ?_
        refine va_get (D := (dC, dI)) (ci := 10) (v := .int 5) (C := RX10) (T := TX10) (N := 48) hx hb hts (fun _ h => List.mem_cons_of_mem _ (List.mem_append_right _ h)) hown hK hP 0 rfl rfl 4 (by decide) (hts (.fieldLink RX10 159 "DrumBoatsModel" "tapeN" "I") (List.mem_of_getElem? (i := 1) rfl)) (fun _ h9 => h9) rfl dX10_feed_44 ?_
        refine lv_dup_x1 hx hb dX10_feed_47 rfl rfl ?_
        refine lv_iconst (v := 1) hx hb dX10_feed_48 (by decide +kernel) ?_
        refine lv_iadd hx hb dX10_feed_49 ?_
        refine ti_eq (y := 6) (by decide +kernel) ?_
        refine va_put (D := (dC, dI)) (ci := 10) (v := .int 6) (ty := .int) (C := RX10) (T := TX10) (N := 48) hx hb hts (fun _ h => List.mem_cons_of_mem _ (List.mem_append_right _ h)) tyX10 tyX10_ok nmX10 hown hK hP hD hS 0 rfl rfl 4 (by decide) (hts (.fieldLink RX10 159 "DrumBoatsModel" "tapeN" "I") (List.mem_of_getElem? (i := 1) rfl)) (fun _ h9 => h9) rfl (by decide +kernel) rfl rfl (Nat.le_of_ble_eq_true rfl) dX10_feed_50 (fun H locs hP hD hS => ?_)
        have hP : va_P (dC, dI) vwCl [(h0, .inr (10, [.int 0, .int 0, .int 0, .int 0, .int 6, .int 10, .int 0, .int 0, .ref m_weight, .ref m_strength, .ref m_arm, .ref m_sex, .ref m_age, .ref m_likes, .ref m_rows, .ref m_drummer, .ref m_members, .ref m_beat, .ref m_member, .ref m_seated, .ref m_isSeated, .ref m_tape, .ref m_rTests, .ref m_tField, .ref m_tSign, .ref m_tNumber, .ref m_tNot, .ref m_tOr, .ref m_minute, .ref m_round, .ref m_laneCrew, .ref m_laneTime, .ref m_gone, .ref m_struck, .ref m_wasRun, .ref m_wait, .ref m_current, .ref m_finals, .ref m_bestTime, .ref m_inFinal, .ref m_pick, .ref m_found, .ref m_fresh, .ref m_at, .long 0, .long 0, .int 0, .int 0])), (m_tape, .inl (cm_tape, 120, .inl (upd (upd (upd (upd (upd (fun _ => 0) (0 : Int32).toNatClampNeg z89) (1 : Int32).toNatClampNeg z92) (2 : Int32).toNatClampNeg z95) (3 : Int32).toNatClampNeg z98) (4 : Int32).toNatClampNeg z101)))] H := hP
        have hD : va_D A [(h0, .inr (10, [.int 0, .int 0, .int 0, .int 0, .int 6, .int 10, .int 0, .int 0, .ref m_weight, .ref m_strength, .ref m_arm, .ref m_sex, .ref m_age, .ref m_likes, .ref m_rows, .ref m_drummer, .ref m_members, .ref m_beat, .ref m_member, .ref m_seated, .ref m_isSeated, .ref m_tape, .ref m_rTests, .ref m_tField, .ref m_tSign, .ref m_tNumber, .ref m_tNot, .ref m_tOr, .ref m_minute, .ref m_round, .ref m_laneCrew, .ref m_laneTime, .ref m_gone, .ref m_struck, .ref m_wasRun, .ref m_wait, .ref m_current, .ref m_finals, .ref m_bestTime, .ref m_inFinal, .ref m_pick, .ref m_found, .ref m_fresh, .ref m_at, .long 0, .long 0, .int 0, .int 0])), (m_tape, .inl (cm_tape, 120, .inl (upd (upd (upd (upd (upd (fun _ => 0) (0 : Int32).toNatClampNeg z89) (1 : Int32).toNatClampNeg z92) (2 : Int32).toNatClampNeg z95) (3 : Int32).toNatClampNeg z98) (4 : Int32).toNatClampNeg z101)))] := hD
        refine lv_lload_n hx hb dX10_feed_53 rfl (lv_at hl 2 rfl) ?_
        refine lv_bipush (v := 8) hx hb dX10_feed_54 (by decide +kernel) ?_
        refine lv_iload hx hb dX10_feed_56 (lv_at hl 0 rfl) ?_
        refine lv_imul hx hb dX10_feed_58 ?_
        refine ti_eq (y := 16) (by decide +kernel) ?_
        refine lv_lshr hx hb dX10_feed_59 rfl ?_
        refine lv_topl (fun z102 _ => ?_)
        refine lv_ldc2 (v := 255) hx hb hown (hts (.constantLong RX10 162 (255)) (List.mem_of_getElem? (i := 3) rfl)) dX10_feed_60 ?_
        refine lv_land hx hb dX10_feed_63 ?_
        refine lv_topl (fun z103 _ => ?_)
        refine lv_l2i hx hb dX10_feed_64 rfl ?_
        refine lv_topi (fun z104 _ => ?_)
        refine va_iast hx hb hK hP hD hS 1 0 rfl rfl (by unfold vp_in; decide +kernel) dX10_feed_65 (fun H locs hP hD hS => ?_)
        have hP : va_P (dC, dI) vwCl [(h0, .inr (10, [.int 0, .int 0, .int 0, .int 0, .int 6, .int 10, .int 0, .int 0, .ref m_weight, .ref m_strength, .ref m_arm, .ref m_sex, .ref m_age, .ref m_likes, .ref m_rows, .ref m_drummer, .ref m_members, .ref m_beat, .ref m_member, .ref m_seated, .ref m_isSeated, .ref m_tape, .ref m_rTests, .ref m_tField, .ref m_tSign, .ref m_tNumber, .ref m_tNot, .ref m_tOr, .ref m_minute, .ref m_round, .ref m_laneCrew, .ref m_laneTime, .ref m_gone, .ref m_struck, .ref m_wasRun, .ref m_wait, .ref m_current, .ref m_finals, .ref m_bestTime, .ref m_inFinal, .ref m_pick, .ref m_found, .ref m_fresh, .ref m_at, .long 0, .long 0, .int 0, .int 0])), (m_tape, .inl (cm_tape, 120, .inl (upd (upd (upd (upd (upd (upd (fun _ => 0) (0 : Int32).toNatClampNeg z89) (1 : Int32).toNatClampNeg z92) (2 : Int32).toNatClampNeg z95) (3 : Int32).toNatClampNeg z98) (4 : Int32).toNatClampNeg z101) (5 : Int32).toNatClampNeg z104)))] H := hP
        have hD : va_D A [(h0, .inr (10, [.int 0, .int 0, .int 0, .int 0, .int 6, .int 10, .int 0, .int 0, .ref m_weight, .ref m_strength, .ref m_arm, .ref m_sex, .ref m_age, .ref m_likes, .ref m_rows, .ref m_drummer, .ref m_members, .ref m_beat, .ref m_member, .ref m_seated, .ref m_isSeated, .ref m_tape, .ref m_rTests, .ref m_tField, .ref m_tSign, .ref m_tNumber, .ref m_tNot, .ref m_tOr, .ref m_minute, .ref m_round, .ref m_laneCrew, .ref m_laneTime, .ref m_gone, .ref m_struck, .ref m_wasRun, .ref m_wait, .ref m_current, .ref m_finals, .ref m_bestTime, .ref m_inFinal, .ref m_pick, .ref m_found, .ref m_fresh, .ref m_at, .long 0, .long 0, .int 0, .int 0])), (m_tape, .inl (cm_tape, 120, .inl (upd (upd (upd (upd (upd (upd (fun _ => 0) (0 : Int32).toNatClampNeg z89) (1 : Int32).toNatClampNeg z92) (2 : Int32).toNatClampNeg z95) (3 : Int32).toNatClampNeg z98) (4 : Int32).toNatClampNeg z101) (5 : Int32).toNatClampNeg z104)))] := hD
        refine lv_iinc (v := 1) (lv' := [(4, .int 1), (0, .ref h0), (1, .long w), (3, .int 8)]) hx hb dX10_feed_66 hl (k := 0) rfl (by decide +kernel) (by decide) rfl (fun ls hl => ?_)
        refine lv_goto (tgt := 33) hx hb dX10_feed_69 (by decide) ?_
        refine lv_iload hx hb dX10_feed_33 (lv_at hl 0 rfl) ?_
        refine lv_if_lt (tgt := 72) hx hb dX10_feed_35 (by decide) (fun c9 => absurd c9 (by decide +kernel)) (fun _ => ?_)
        refine lv_aload_n hx hb dX10_feed_38 rfl (lv_at hl 1 rfl) ?_
        refine va_get (D := (dC, dI)) (ci := 10) (v := .ref m_tape) (C := RX10) (T := TX10) (N := 48) hx hb hts (fun _ h => List.mem_cons_of_mem _ (List.mem_append_right _ h)) hown hK hP 0 rfl rfl 21 (by decide) (hts (.fieldLink RX10 56 "DrumBoatsModel" "tape" "[I") (List.mem_of_getElem? (i := 2) rfl)) (fun _ h9 => h9) rfl dX10_feed_39 ?_
        refine lv_aload_n hx hb dX10_feed_42 rfl (lv_at hl 1 rfl) ?_
        refine lv_dup hx hb dX10_feed_43 rfl ?_
        refine va_get (D := (dC, dI)) (ci := 10) (v := .int 6) (C := RX10) (T := TX10) (N := 48) hx hb hts (fun _ h => List.mem_cons_of_mem _ (List.mem_append_right _ h)) hown hK hP 0 rfl rfl 4 (by decide) (hts (.fieldLink RX10 159 "DrumBoatsModel" "tapeN" "I") (List.mem_of_getElem? (i := 1) rfl)) (fun _ h9 => h9) rfl dX10_feed_44 ?_
        refine lv_dup_x1 hx hb dX10_feed_47 rfl rfl ?_
        refine lv_iconst (v := 1) hx hb dX10_feed_48 (by decide +kernel) ?_
        refine lv_iadd hx hb dX10_feed_49 ?_
        refine ti_eq (y := 7) (by decide +kernel) ?_
        refine va_put (D := (dC, dI)) (ci := 10) (v := .int 7) (ty := .int) (C := RX10) (T := TX10) (N := 48) hx hb hts (fun _ h => List.mem_cons_of_mem _ (List.mem_append_right _ h)) tyX10 tyX10_ok nmX10 hown hK hP hD hS 0 rfl rfl 4 (by decide) (hts (.fieldLink RX10 159 "DrumBoatsModel" "tapeN" "I") (List.mem_of_getElem? (i := 1) rfl)) (fun _ h9 => h9) rfl (by decide +kernel) rfl rfl (Nat.le_of_ble_eq_true rfl) dX10_feed_50 (fun H locs hP hD hS => ?_)
        have hP : va_P (dC, dI) vwCl [(h0, .inr (10, [.int 0, .int 0, .int 0, .int 0, .int 7, .int 10, .int 0, .int 0, .ref m_weight, .ref m_strength, .ref m_arm, .ref m_sex, .ref m_age, .ref m_likes, .ref m_rows, .ref m_drummer, .ref m_members, .ref m_beat, .ref m_member, .ref m_seated, .ref m_isSeated, .ref m_tape, .ref m_rTests, .ref m_tField, .ref m_tSign, .ref m_tNumber, .ref m_tNot, .ref m_tOr, .ref m_minute, .ref m_round, .ref m_laneCrew, .ref m_laneTime, .ref m_gone, .ref m_struck, .ref m_wasRun, .ref m_wait, .ref m_current, .ref m_finals, .ref m_bestTime, .ref m_inFinal, .ref m_pick, .ref m_found, .ref m_fresh, .ref m_at, .long 0, .long 0, .int 0, .int 0])), (m_tape, .inl (cm_tape, 120, .inl (upd (upd (upd (upd (upd (upd (fun _ => 0) (0 : Int32).toNatClampNeg z89) (1 : Int32).toNatClampNeg z92) (2 : Int32).toNatClampNeg z95) (3 : Int32).toNatClampNeg z98) (4 : Int32).toNatClampNeg z101) (5 : Int32).toNatClampNeg z104)))] H := hP
        have hD : va_D A [(h0, .inr (10, [.int 0, .int 0, .int 0, .int 0, .int 7, .int 10, .int 0, .int 0, .ref m_weight, .ref m_strength, .ref m_arm, .ref m_sex, .ref m_age, .ref m_likes, .ref m_rows, .ref m_drummer, .ref m_members, .ref m_beat, .ref m_member, .ref m_seated, .ref m_isSeated, .ref m_tape, .ref m_rTests, .ref m_tField, .ref m_tSign, .ref m_tNumber, .ref m_tNot, .ref m_tOr, .ref m_minute, .ref m_round, .ref m_laneCrew, .ref m_laneTime, .ref m_gone, .ref m_struck, .ref m_wasRun, .ref m_wait, .ref m_current, .ref m_finals, .ref m_bestTime, .ref m_inFinal, .ref m_pick, .ref m_found, .ref m_fresh, .ref m_at, .long 0, .long 0, .int 0, .int 0])), (m_tape, .inl (cm_tape, 120, .inl (upd (upd (upd (upd (upd (upd (fun _ => 0) (0 : Int32).toNatClampNeg z89) (1 : Int32).toNatClampNeg z92) (2 : Int32).toNatClampNeg z95) (3 : Int32).toNatClampNeg z98) (4 : Int32).toNatClampNeg z101) (5 : Int32).toNatClampNeg z104)))] := hD
        refine lv_lload_n hx hb dX10_feed_53 rfl (lv_at hl 2 rfl) ?_
        refine lv_bipush (v := 8) hx hb dX10_feed_54 (by decide +kernel) ?_
        refine lv_iload hx hb dX10_feed_56 (lv_at hl 0 rfl) ?_
        refine lv_imul hx hb dX10_feed_58 ?_
        refine ti_eq (y := 8) (by decide +kernel) ?_
        refine lv_lshr hx hb dX10_feed_59 rfl ?_
        refine lv_topl (fun z105 _ => ?_)
        refine lv_ldc2 (v := 255) hx hb hown (hts (.constantLong RX10 162 (255)) (List.mem_of_getElem? (i := 3) rfl)) dX10_feed_60 ?_
        refine lv_land hx hb dX10_feed_63 ?_
        refine lv_topl (fun z106 _ => ?_)
        refine lv_l2i hx hb dX10_feed_64 rfl ?_
        refine lv_topi (fun z107 _ => ?_)
        refine va_iast hx hb hK hP hD hS 1 0 rfl rfl (by unfold vp_in; decide +kernel) dX10_feed_65 (fun H locs hP hD hS => ?_)
        have hP : va_P (dC, dI) vwCl [(h0, .inr (10, [.int 0, .int 0, .int 0, .int 0, .int 7, .int 10, .int 0, .int 0, .ref m_weight, .ref m_strength, .ref m_arm, .ref m_sex, .ref m_age, .ref m_likes, .ref m_rows, .ref m_drummer, .ref m_members, .ref m_beat, .ref m_member, .ref m_seated, .ref m_isSeated, .ref m_tape, .ref m_rTests, .ref m_tField, .ref m_tSign, .ref m_tNumber, .ref m_tNot, .ref m_tOr, .ref m_minute, .ref m_round, .ref m_laneCrew, .ref m_laneTime, .ref m_gone, .ref m_struck, .ref m_wasRun, .ref m_wait, .ref m_current, .ref m_finals, .ref m_bestTime, .ref m_inFinal, .ref m_pick, .ref m_found, .ref m_fresh, .ref m_at, .long 0, .long 0, .int 0, .int 0])), (m_tape, .inl (cm_tape, 120, .inl (upd (upd (upd (upd (upd (upd (upd (fun _ => 0) (0 : Int32).toNatClampNeg z89) (1 : Int32).toNatClampNeg z92) (2 : Int32).toNatClampNeg z95) (3 : Int32).toNatClampNeg z98) (4 : Int32).toNatClampNeg z101) (5 : Int32).toNatClampNeg z104) (6 : Int32).toNatClampNeg z107)))] H := hP
        have hD : va_D A [(h0, .inr (10, [.int 0, .int 0, .int 0, .int 0, .int 7, .int 10, .int 0, .int 0, .ref m_weight, .ref m_strength, .ref m_arm, .ref m_sex, .ref m_age, .ref m_likes, .ref m_rows, .ref m_drummer, .ref m_members, .ref m_beat, .ref m_member, .ref m_seated, .ref m_isSeated, .ref m_tape, .ref m_rTests, .ref m_tField, .ref m_tSign, .ref m_tNumber, .ref m_tNot, .ref m_tOr, .ref m_minute, .ref m_round, .ref m_laneCrew, .ref m_laneTime, .ref m_gone, .ref m_struck, .ref m_wasRun, .ref m_wait, .ref m_current, .ref m_finals, .ref m_bestTime, .ref m_inFinal, .ref m_pick, .ref m_found, .ref m_fresh, .ref m_at, .long 0, .long 0, .int 0, .int 0])), (m_tape, .inl (cm_tape, 120, .inl (upd (upd (upd (upd (upd (upd (upd (fun _ => 0) (0 : Int32).toNatClampNeg z89) (1 : Int32).toNatClampNeg z92) (2 : Int32).toNatClampNeg z95) (3 : Int32).toNatClampNeg z98) (4 : Int32).toNatClampNeg z101) (5 : Int32).toNatClampNeg z104) (6 : Int32).toNatClampNeg z107)))] := hD
        refine lv_iinc (v := 0) (lv' := [(4, .int 0), (0, .ref h0), (1, .long w), (3, .int 8)]) hx hb dX10_feed_66 hl (k := 0) rfl (by decide +kernel) (by decide) rfl (fun ls hl => ?_)
        refine lv_goto (tgt := 33) hx hb dX10_feed_69 (by decide) ?_
        refine lv_iload hx hb dX10_feed_33 (lv_at hl 0 rfl) ?_
        refine lv_if_lt (tgt := 72) hx hb dX10_feed_35 (by decide) (fun c9 => absurd c9 (by decide +kernel)) (fun _ => ?_)
        refine lv_aload_n hx hb dX10_feed_38 rfl (lv_at hl 1 rfl) ?_
        refine va_get (D := (dC, dI)) (ci := 10) (v := .ref m_tape) (C := RX10) (T := TX10) (N := 48) hx hb hts (fun _ h => List.mem_cons_of_mem _ (List.mem_append_right _ h)) hown hK hP 0 rfl rfl 21 (by decide) (hts (.fieldLink RX10 56 "DrumBoatsModel" "tape" "[I") (List.mem_of_getElem? (i := 2) rfl)) (fun _ h9 => h9) rfl dX10_feed_39 ?_
        refine lv_aload_n hx hb dX10_feed_42 rfl (lv_at hl 1 rfl) ?_
        refine lv_dup hx hb dX10_feed_43 rfl ?_
        refine va_get (D := (dC, dI)) (ci := 10) (v := .int 7) (C := RX10) (T := TX10) (N := 48) hx hb hts (fun _ h => List.mem_cons_of_mem _ (List.mem_append_right _ h)) hown hK hP 0 rfl rfl 4 (by decide) (hts (.fieldLink RX10 159 "DrumBoatsModel" "tapeN" "I") (List.mem_of_getElem? (i := 1) rfl)) (fun _ h9 => h9) rfl dX10_feed_44 ?_
        refine lv_dup_x1 hx hb dX10_feed_47 rfl rfl ?_
        refine lv_iconst (v := 1) hx hb dX10_feed_48 (by decide +kernel) ?_
        refine lv_iadd hx hb dX10_feed_49 ?_
        refine ti_eq (y := 8) (by decide +kernel) ?_
        refine va_put (D := (dC, dI)) (ci := 10) (v := .int 8) (ty := .int) (C := RX10) (T := TX10) (N := 48) hx hb hts (fun _ h => List.mem_cons_of_mem _ (List.mem_append_right _ h)) tyX10 tyX10_ok nmX10 hown hK hP hD hS 0 rfl rfl 4 (by decide) (hts (.fieldLink RX10 159 "DrumBoatsModel" "tapeN" "I") (List.mem_of_getElem? (i := 1) rfl)) (fun _ h9 => h9) rfl (by decide +kernel) rfl rfl (Nat.le_of_ble_eq_true rfl) dX10_feed_50 (fun H locs hP hD hS => ?_)
        have hP : va_P (dC, dI) vwCl [(h0, .inr (10, [.int 0, .int 0, .int 0, .int 0, .int 8, .int 10, .int 0, .int 0, .ref m_weight, .ref m_strength, .ref m_arm, .ref m_sex, .ref m_age, .ref m_likes, .ref m_rows, .ref m_drummer, .ref m_members, .ref m_beat, .ref m_member, .ref m_seated, .ref m_isSeated, .ref m_tape, .ref m_rTests, .ref m_tField, .ref m_tSign, .ref m_tNumber, .ref m_tNot, .ref m_tOr, .ref m_minute, .ref m_round, .ref m_laneCrew, .ref m_laneTime, .ref m_gone, .ref m_struck, .ref m_wasRun, .ref m_wait, .ref m_current, .ref m_finals, .ref m_bestTime, .ref m_inFinal, .ref m_pick, .ref m_found, .ref m_fresh, .ref m_at, .long 0, .long 0, .int 0, .int 0])), (m_tape, .inl (cm_tape, 120, .inl (upd (upd (upd (upd (upd (upd (upd (fun _ => 0) (0 : Int32).toNatClampNeg z89) (1 : Int32).toNatClampNeg z92) (2 : Int32).toNatClampNeg z95) (3 : Int32).toNatClampNeg z98) (4 : Int32).toNatClampNeg z101) (5 : Int32).toNatClampNeg z104) (6 : Int32).toNatClampNeg z107)))] H := hP
        have hD : va_D A [(h0, .inr (10, [.int 0, .int 0, .int 0, .int 0, .int 8, .int 10, .int 0, .int 0, .ref m_weight, .ref m_strength, .ref m_arm, .ref m_sex, .ref m_age, .ref m_likes, .ref m_rows, .ref m_drummer, .ref m_members, .ref m_beat, .ref m_member, .ref m_seated, .ref m_isSeated, .ref m_tape, .ref m_rTests, .ref m_tField, .ref m_tSign, .ref m_tNumber, .ref m_tNot, .ref m_tOr, .ref m_minute, .ref m_round, .ref m_laneCrew, .ref m_laneTime, .ref m_gone, .ref m_struck, .ref m_wasRun, .ref m_wait, .ref m_current, .ref m_finals, .ref m_bestTime, .ref m_inFinal, .ref m_pick, .ref m_found, .ref m_fresh, .ref m_at, .long 0, .long 0, .int 0, .int 0])), (m_tape, .inl (cm_tape, 120, .inl (upd (upd (upd (upd (upd (upd (upd (fun _ => 0) (0 : Int32).toNatClampNeg z89) (1 : Int32).toNatClampNeg z92) (2 : Int32).toNatClampNeg z95) (3 : Int32).toNatClampNeg z98) (4 : Int32).toNatClampNeg z101) (5 : Int32).toNatClampNeg z104) (6 : Int32).toNatClampNeg z107)))] := hD
        refine lv_lload_n hx hb dX10_feed_53 rfl (lv_at hl 2 rfl) ?_
        refine lv_bipush (v := 8) hx hb dX10_feed_54 (by decide +kernel) ?_
        refine lv_iload hx hb dX10_feed_56 (lv_at hl 0 rfl) ?_
        refine lv_imul hx hb dX10_feed_58 ?_
        refine ti_eq (y := 0) (by decide +kernel) ?_
        refine lv_lshr hx hb dX10_feed_59 rfl ?_
        refine lv_topl (fun z108 _ => ?_)
        refine lv_ldc2 (v := 255) hx hb hown (hts (.constantLong RX10 162 (255)) (List.mem_of_getElem? (i := 3) rfl)) dX10_feed_60 ?_
        refine lv_land hx hb dX10_feed_63 ?_
        refine lv_topl (fun z109 _ => ?_)
        refine lv_l2i hx hb dX10_feed_64 rfl ?_
        refine lv_topi (fun z110 _ => ?_)
        refine va_iast hx hb hK hP hD hS 1 0 rfl rfl (by unfold vp_in; decide +kernel) dX10_feed_65 (fun H locs hP hD hS => ?_)
        have hP : va_P (dC, dI) vwCl [(h0, .inr (10, [.int 0, .int 0, .int 0, .int 0, .int 8, .int 10, .int 0, .int 0, .ref m_weight, .ref m_strength, .ref m_arm, .ref m_sex, .ref m_age, .ref m_likes, .ref m_rows, .ref m_drummer, .ref m_members, .ref m_beat, .ref m_member, .ref m_seated, .ref m_isSeated, .ref m_tape, .ref m_rTests, .ref m_tField, .ref m_tSign, .ref m_tNumber, .ref m_tNot, .ref m_tOr, .ref m_minute, .ref m_round, .ref m_laneCrew, .ref m_laneTime, .ref m_gone, .ref m_struck, .ref m_wasRun, .ref m_wait, .ref m_current, .ref m_finals, .ref m_bestTime, .ref m_inFinal, .ref m_pick, .ref m_found, .ref m_fresh, .ref m_at, .long 0, .long 0, .int 0, .int 0])), (m_tape, .inl (cm_tape, 120, .inl (upd (upd (upd (upd (upd (upd (upd (upd (fun _ => 0) (0 : Int32).toNatClampNeg z89) (1 : Int32).toNatClampNeg z92) (2 : Int32).toNatClampNeg z95) (3 : Int32).toNatClampNeg z98) (4 : Int32).toNatClampNeg z101) (5 : Int32).toNatClampNeg z104) (6 : Int32).toNatClampNeg z107) (7 : Int32).toNatClampNeg z110)))] H := hP
        have hD : va_D A [(h0, .inr (10, [.int 0, .int 0, .int 0, .int 0, .int 8, .int 10, .int 0, .int 0, .ref m_weight, .ref m_strength, .ref m_arm, .ref m_sex, .ref m_age, .ref m_likes, .ref m_rows, .ref m_drummer, .ref m_members, .ref m_beat, .ref m_member, .ref m_seated, .ref m_isSeated, .ref m_tape, .ref m_rTests, .ref m_tField, .ref m_tSign, .ref m_tNumber, .ref m_tNot, .ref m_tOr, .ref m_minute, .ref m_round, .ref m_laneCrew, .ref m_laneTime, .ref m_gone, .ref m_struck, .ref m_wasRun, .ref m_wait, .ref m_current, .ref m_finals, .ref m_bestTime, .ref m_inFinal, .ref m_pick, .ref m_found, .ref m_fresh, .ref m_at, .long 0, .long 0, .int 0, .int 0])), (m_tape, .inl (cm_tape, 120, .inl (upd (upd (upd (upd (upd (upd (upd (upd (fun _ => 0) (0 : Int32).toNatClampNeg z89) (1 : Int32).toNatClampNeg z92) (2 : Int32).toNatClampNeg z95) (3 : Int32).toNatClampNeg z98) (4 : Int32).toNatClampNeg z101) (5 : Int32).toNatClampNeg z104) (6 : Int32).toNatClampNeg z107) (7 : Int32).toNatClampNeg z110)))] := hD
        refine lv_iinc (v := (-1)) (lv' := [(4, .int (-1)), (0, .ref h0), (1, .long w), (3, .int 8)]) hx hb dX10_feed_66 hl (k := 0) rfl (by decide +kernel) (by decide) rfl (fun ls hl => ?_)
        refine lv_goto (tgt := 33) hx hb dX10_feed_69 (by decide) ?_
        refine lv_iload hx hb dX10_feed_33 (lv_at hl 0 rfl) ?_
        refine lv_if_lt (tgt := 72) hx hb dX10_feed_35 (by decide) (fun _ => ?_) (fun c9 => absurd c9 (by decide +kernel))
        refine lv_aload_n hx hb dX10_feed_72 rfl (lv_at hl 1 rfl) ?_
        refine va_get (D := (dC, dI)) (ci := 10) (v := .int 8) (C := RX10) (T := TX10) (N := 48) hx hb hts (fun _ h => List.mem_cons_of_mem _ (List.mem_append_right _ h)) hown hK hP 0 rfl rfl 4 (by decide) (hts (.fieldLink RX10 159 "DrumBoatsModel" "tapeN" "I") (List.mem_of_getElem? (i := 1) rfl)) (fun _ h9 => h9) rfl dX10_feed_73 ?_
        refine W.widen (k := 0) (n := 0) (Nat.le_of_ble_eq_true rfl) (Nat.le_of_ble_eq_true rfl) ?_
        exact W.iret (v := 8) hx hb hr (fun t ht hW => ⟨⟨8, (), rfl, (by first | rfl | decide | (unfold f_feed; (repeat' split) <;> first | rfl | omega)), trivial⟩, hS.F ht⟩) hS.2.2 dX10_feed_76
    · have c_2 : ¬ (p0.toInt ≤ 8) := fun h => c_2 (Int32.le_iff_toInt_le.mpr h)
      refine lv_bipush (v := (-2)) hx hb dX10_feed_11 (by decide +kernel) ?_
      refine W.widen (k := 0) (n := 0) (Nat.le_of_ble_eq_true rfl) (Nat.le_of_ble_eq_true rfl) ?_
      exact W.iret (v := (-2)) hx hb hr (fun t ht hW => ⟨⟨(-2), (), rfl, (by first | rfl | decide | (unfold f_feed; (repeat' split) <;> first | rfl | omega)), trivial⟩, hS.F ht⟩) hS.2.2 dX10_feed_13
