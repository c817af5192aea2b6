set_option maxHeartbeats 4000000 in
set_option maxRecDepth 100000 in
theorem k_X9_paddler (l : Launch) (dC : Nat → ClassId) (dI : Nat → Nat → Nat) (sz : Nat) (h0 : Nat) (p0 : Int32) (p1 : Int32) (p2 : Int32) (p3 : Int32) (p4 : Int32) (aRo : Nat) (aCr : Nat) (aBa : Nat) (aSe : Nat) (aTa : Nat) (aRu : Nat) (aTl : Nat) (aWa : Nat) (aCu : Nat) (aRa : Nat) (aCo : Nat) (aFi : Nat) (aW : Nat) (aS : Nat) (aAr : Nat) (aSx : Nat) (aAg : Nat) (aFb : Nat) (caW : ClassId) (caS : ClassId) (caAr : ClassId) (caSx : ClassId) (caAg : ClassId) : Met l yX9_paddler wsX9_paddler ({ frames := 1, cells := 0, slots := 0, locals := 25 }) (va_Pc [.ref h0, .int p0, .int p1, .int p2, .int p3, .int p4] (fun U => U.heap.size = sz ∧ va_P (dC, dI) vwCl [(h0, .inr (9, [.ref aRo, .ref aCr, .int 0, .ref aBa, .ref aSe, .ref aTa, .ref aRu, .int 0, .ref aTl, .int 10, .ref aWa, .ref aCu, .ref aRa, .int 0, .ref aCo, .ref aFi])), (aRo, .inr (4, [.int 0, .ref aW, .ref aS, .ref aAr, .ref aSx, .ref aAg, .ref aFb])), (aW, .inl (caW, 40, .inl (fun _ => 0))), (aS, .inl (caS, 40, .inl (fun _ => 0))), (aAr, .inl (caAr, 40, .inl (fun _ => 0))), (aSx, .inl (caSx, 40, .inl (fun _ => 0))), (aAg, .inl (caAg, 40, .inl (fun _ => 0)))] U.heap ∧ va_K (dC, dI) vwCl [(caW, .int), (caS, .int), (caAr, .int), (caSx, .int), (caAg, .int)] U ∧ va_D (fun _ => True) [(h0, .inr (9, [.ref aRo, .ref aCr, .int 0, .ref aBa, .ref aSe, .ref aTa, .ref aRu, .int 0, .ref aTl, .int 10, .ref aWa, .ref aCu, .ref aRa, .int 0, .ref aCo, .ref aFi])), (aRo, .inr (4, [.int 0, .ref aW, .ref aS, .ref aAr, .ref aSx, .ref aAg, .ref aFb])), (aW, .inl (caW, 40, .inl (fun _ => 0))), (aS, .inl (caS, 40, .inl (fun _ => 0))), (aAr, .inl (caAr, 40, .inl (fun _ => 0))), (aSx, .inl (caSx, 40, .inl (fun _ => 0))), (aAg, .inl (caAg, 40, .inl (fun _ => 0)))])) (va_Qi (fun (r : Int32) (_ : Unit) => r = f_paddler p0 p1 p2 p3 p4) (fun _ _ => True) (va_A [(h0, .inr (9, [.ref aRo, .ref aCr, .int 0, .ref aBa, .ref aSe, .ref aTa, .ref aRu, .int 0, .ref aTl, .int 10, .ref aWa, .ref aCu, .ref aRa, .int 0, .ref aCo, .ref aFi])), (aRo, .inr (4, [.int 0, .ref aW, .ref aS, .ref aAr, .ref aSx, .ref aAg, .ref aFb])), (aW, .inl (caW, 40, .inl (fun _ => 0))), (aS, .inl (caS, 40, .inl (fun _ => 0))), (aAr, .inl (caAr, 40, .inl (fun _ => 0))), (aSx, .inl (caSx, 40, .inl (fun _ => 0))), (aAg, .inl (caAg, 40, .inl (fun _ => 0)))] sz)) 0 0 (va_A [(h0, .inr (9, [.ref aRo, .ref aCr, .int 0, .ref aBa, .ref aSe, .ref aTa, .ref aRu, .int 0, .ref aTl, .int 10, .ref aWa, .ref aCu, .ref aRa, .int 0, .ref aCo, .ref aFi])), (aRo, .inr (4, [.int 0, .ref aW, .ref aS, .ref aAr, .ref aSx, .ref aAg, .ref aFb])), (aW, .inl (caW, 40, .inl (fun _ => 0))), (aS, .inl (caS, 40, .inl (fun _ => 0))), (aAr, .inl (caAr, 40, .inl (fun _ => 0))), (aSx, .inl (caSx, 40, .inl (fun _ => 0))), (aAg, .inl (caAg, 40, .inl (fun _ => 0)))] sz) := by
  refine Met.ofW (cc := cX9_paddler) (maxL := 6) (ret := (some .int)) (by decide) rfl ?_
  intro p e s m args below meth c s₁ B hml hv
  obtain ⟨rfl, hsz, hP, hK, hD0⟩ := hv
  have hx := B.exec
  have hb := B.bytes
  have hr := B.returns
  have hts := atoms_spec (ws := wsX9_paddler) B.pre
  have hown : s.vm.findClass RX9 = some m.cls := findClass_of_methodNamed B.named
  have hlocks := B.notSynchronized
  subst hsz
  have hD := hD0.self (sz := s.heap.size)
  generalize hAe : va_A [(h0, .inr (9, [.ref aRo, .ref aCr, .int 0, .ref aBa, .ref aSe, .ref aTa, .ref aRu, .int 0, .ref aTl, .int 10, .ref aWa, .ref aCu, .ref aRa, .int 0, .ref aCo, .ref aFi])), (aRo, .inr (4, [.int 0, .ref aW, .ref aS, .ref aAr, .ref aSx, .ref aAg, .ref aFb])), (aW, .inl (caW, 40, .inl (fun _ => 0))), (aS, .inl (caS, 40, .inl (fun _ => 0))), (aAr, .inl (caAr, 40, .inl (fun _ => 0))), (aSx, .inl (caSx, 40, .inl (fun _ => 0))), (aAg, .inl (caAg, 40, .inl (fun _ => 0)))] s.heap.size = A at hD ⊢
  have hA : ∀ q : Nat, s.heap.size ≤ q → A q := fun q h => by rw [← hAe]; exact Or.inr h
  have hS : va_S A s.heap s.heap [] := va_S.rf
  have hl := lv_entry ([.ref h0, .int p0, .int p1, .int p2, .int p3, .int p4]) (n := 6) (Nat.le_of_ble_eq_true rfl)
  rw [lg_entry_eq]
  generalize (lg_sl ([.ref h0, .int p0, .int p1, .int p2, .int p3, .int p4]) ++ List.replicate (6 - (lg_sl ([.ref h0, .int p0, .int p1, .int p2, .int p3, .int p4])).length) Slot.unset).toArray = ls at hl ⊢
  have hl : lv_has ls 6 [(0, .ref h0), (1, .int p0), (2, .int p1), (3, .int p2), (4, .int p3), (5, .int p4)] := hl
  refine lv_iload_n hx hb dX9_paddler_0 rfl (lv_at hl 1 rfl) ?_
  refine lv_bipush (v := 30) hx hb dX9_paddler_1 (by decide +kernel) ?_
  refine lv_sipush (v := 150) hx hb dX9_paddler_3 (by decide +kernel) ?_
  have hPc := hP.sub (ws' := ([] : va_W)) [] rfl
  have hKc := hK.sub (tys' := []) [] rfl
  have hFc := ro_free hS hA
  refine va_calli (va_runS (As := [.int p0, .int 30, .int 150]) (rest := []) ⟨hx, hb, hml, hown, hts⟩ (k_X9_within l dC dI s.heap.size p0 30 150) (va_cwS 3 hts gX9_paddler_X9_within rfl rfl rfl (by decide +kernel) ⟨(Nat.le_of_ble_eq_true rfl), (Nat.le_of_ble_eq_true rfl)⟩) ⟨fun a U g mk q => by obtain ⟨q0, q1, qP, qK⟩ := q; exact ⟨q0, q1, qP, va_K.moved (u := U) (U := U.calling g mk a) (Vm.Alike.refl U.vm) qK⟩, fun U hU hW => ⟨rfl, by rw [hU], by rw [hU]; exact hPc, va_K.moved hW.alike hKc⟩⟩ rfl rfl hl.1 rfl (lv_room (Nat.le_of_ble_eq_true rfl)) dX9_paddler_6 ⟨(Nat.le_of_ble_eq_true rfl), (Nat.le_of_ble_eq_true rfl)⟩) hS (fun q _ h => hFc q h) hFc (fun r u t H1 locs ht hvm hw hB hz1 hk1 hS => ?_)
  refine W.widen (k := 0) (n := 0) (Nat.le_of_ble_eq_true rfl) (Nat.le_of_ble_eq_true rfl) ?_
  have hP := P_ro hP hk1
  generalize H1 = H at hP hS ⊢
  rcases hw with ⟨rfl, e_1⟩ | ⟨rfl, e_1⟩
  · have e_1 : (30 ≤ p0.toInt ∧ p0.toInt ≤ 150) := e_1
    refine lv_if_eq (tgt := 53) hx hb dX9_paddler_9 (by decide) (fun c9 => absurd c9 (by decide +kernel)) (fun _ => ?_)
    refine lv_iload_n hx hb dX9_paddler_12 rfl (lv_at hl 2 rfl) ?_
    refine lv_iconst (v := 1) hx hb dX9_paddler_13 (by decide +kernel) ?_
    refine lv_bipush (v := 99) hx hb dX9_paddler_14 (by decide +kernel) ?_
    have hPc := hP.sub (ws' := ([] : va_W)) [] rfl
    have hKc := hK.sub (tys' := []) [] rfl
    have hFc := ro_free hS hA
    refine va_calli (va_runS (As := [.int p1, .int 1, .int 99]) (rest := []) ⟨hx, hb, hml, hown, hts⟩ (k_X9_within l dC dI H.size p1 1 99) (va_cwS 3 hts gX9_paddler_X9_within rfl rfl rfl (by decide +kernel) ⟨(Nat.le_of_ble_eq_true rfl), (Nat.le_of_ble_eq_true rfl)⟩) ⟨fun a U g mk q => by obtain ⟨q0, q1, qP, qK⟩ := q; exact ⟨q0, q1, qP, va_K.moved (u := U) (U := U.calling g mk a) (Vm.Alike.refl U.vm) qK⟩, fun U hU hW => ⟨rfl, by rw [hU], by rw [hU]; exact hPc, va_K.moved hW.alike hKc⟩⟩ rfl rfl hl.1 rfl (lv_room (Nat.le_of_ble_eq_true rfl)) dX9_paddler_16 ⟨(Nat.le_of_ble_eq_true rfl), (Nat.le_of_ble_eq_true rfl)⟩) hS (fun q _ h => hFc q h) hFc (fun r u t H1 locs ht hvm hw hB hz1 hk1 hS => ?_)
    refine W.widen (k := 0) (n := 0) (Nat.le_of_ble_eq_true rfl) (Nat.le_of_ble_eq_true rfl) ?_
    have hP := P_ro hP hk1
    generalize H1 = H at hP hS ⊢
    rcases hw with ⟨rfl, e_2⟩ | ⟨rfl, e_2⟩
    · have e_2 : (1 ≤ p1.toInt ∧ p1.toInt ≤ 99) := e_2
      refine lv_if_eq (tgt := 53) hx hb dX9_paddler_19 (by decide) (fun c9 => absurd c9 (by decide +kernel)) (fun _ => ?_)
      refine lv_iload_n hx hb dX9_paddler_22 rfl (lv_at hl 3 rfl) ?_
      refine lv_iconst (v := 0) hx hb dX9_paddler_23 (by decide +kernel) ?_
      refine lv_iconst (v := 2) hx hb dX9_paddler_24 (by decide +kernel) ?_
      have hPc := hP.sub (ws' := ([] : va_W)) [] rfl
      have hKc := hK.sub (tys' := []) [] rfl
      have hFc := ro_free hS hA
      refine va_calli (va_runS (As := [.int p2, .int 0, .int 2]) (rest := []) ⟨hx, hb, hml, hown, hts⟩ (k_X9_within l dC dI H.size p2 0 2) (va_cwS 3 hts gX9_paddler_X9_within rfl rfl rfl (by decide +kernel) ⟨(Nat.le_of_ble_eq_true rfl), (Nat.le_of_ble_eq_true rfl)⟩) ⟨fun a U g mk q => by obtain ⟨q0, q1, qP, qK⟩ := q; exact ⟨q0, q1, qP, va_K.moved (u := U) (U := U.calling g mk a) (Vm.Alike.refl U.vm) qK⟩, fun U hU hW => ⟨rfl, by rw [hU], by rw [hU]; exact hPc, va_K.moved hW.alike hKc⟩⟩ rfl rfl hl.1 rfl (lv_room (Nat.le_of_ble_eq_true rfl)) dX9_paddler_25 ⟨(Nat.le_of_ble_eq_true rfl), (Nat.le_of_ble_eq_true rfl)⟩) hS (fun q _ h => hFc q h) hFc (fun r u t H1 locs ht hvm hw hB hz1 hk1 hS => ?_)
      refine W.widen (k := 0) (n := 0) (Nat.le_of_ble_eq_true rfl) (Nat.le_of_ble_eq_true rfl) ?_
      have hP := P_ro hP hk1
      generalize H1 = H at hP hS ⊢
      rcases hw with ⟨rfl, e_3⟩ | ⟨rfl, e_3⟩
      · have e_3 : (0 ≤ p2.toInt ∧ p2.toInt ≤ 2) := e_3
        refine lv_if_eq (tgt := 53) hx hb dX9_paddler_28 (by decide) (fun c9 => absurd c9 (by decide +kernel)) (fun _ => ?_)
        refine lv_iload hx hb dX9_paddler_31 (lv_at hl 4 rfl) ?_
        refine lv_iconst (v := 0) hx hb dX9_paddler_33 (by decide +kernel) ?_
        refine lv_iconst (v := 1) hx hb dX9_paddler_34 (by decide +kernel) ?_
        have hPc := hP.sub (ws' := ([] : va_W)) [] rfl
        have hKc := hK.sub (tys' := []) [] rfl
        have hFc := ro_free hS hA
        refine va_calli (va_runS (As := [.int p3, .int 0, .int 1]) (rest := []) ⟨hx, hb, hml, hown, hts⟩ (k_X9_within l dC dI H.size p3 0 1) (va_cwS 3 hts gX9_paddler_X9_within rfl rfl rfl (by decide +kernel) ⟨(Nat.le_of_ble_eq_true rfl), (Nat.le_of_ble_eq_true rfl)⟩) ⟨fun a U g mk q => by obtain ⟨q0, q1, qP, qK⟩ := q; exact ⟨q0, q1, qP, va_K.moved (u := U) (U := U.calling g mk a) (Vm.Alike.refl U.vm) qK⟩, fun U hU hW => ⟨rfl, by rw [hU], by rw [hU]; exact hPc, va_K.moved hW.alike hKc⟩⟩ rfl rfl hl.1 rfl (lv_room (Nat.le_of_ble_eq_true rfl)) dX9_paddler_35 ⟨(Nat.le_of_ble_eq_true rfl), (Nat.le_of_ble_eq_true rfl)⟩) hS (fun q _ h => hFc q h) hFc (fun r u t H1 locs ht hvm hw hB hz1 hk1 hS => ?_)
        refine W.widen (k := 0) (n := 0) (Nat.le_of_ble_eq_true rfl) (Nat.le_of_ble_eq_true rfl) ?_
        have hP := P_ro hP hk1
        generalize H1 = H at hP hS ⊢
        rcases hw with ⟨rfl, e_4⟩ | ⟨rfl, e_4⟩
        · have e_4 : (0 ≤ p3.toInt ∧ p3.toInt ≤ 1) := e_4
          refine lv_if_eq (tgt := 53) hx hb dX9_paddler_38 (by decide) (fun c9 => absurd c9 (by decide +kernel)) (fun _ => ?_)
          refine lv_iload hx hb dX9_paddler_41 (lv_at hl 5 rfl) ?_
          refine lv_bipush (v := 10) hx hb dX9_paddler_43 (by decide +kernel) ?_
          refine lv_bipush (v := 90) hx hb dX9_paddler_45 (by decide +kernel) ?_
          have hPc := hP.sub (ws' := ([] : va_W)) [] rfl
          have hKc := hK.sub (tys' := []) [] rfl
          have hFc := ro_free hS hA
          refine va_calli (va_runS (As := [.int p4, .int 10, .int 90]) (rest := []) ⟨hx, hb, hml, hown, hts⟩ (k_X9_within l dC dI H.size p4 10 90) (va_cwS 3 hts gX9_paddler_X9_within rfl rfl rfl (by decide +kernel) ⟨(Nat.le_of_ble_eq_true rfl), (Nat.le_of_ble_eq_true rfl)⟩) ⟨fun a U g mk q => by obtain ⟨q0, q1, qP, qK⟩ := q; exact ⟨q0, q1, qP, va_K.moved (u := U) (U := U.calling g mk a) (Vm.Alike.refl U.vm) qK⟩, fun U hU hW => ⟨rfl, by rw [hU], by rw [hU]; exact hPc, va_K.moved hW.alike hKc⟩⟩ rfl rfl hl.1 rfl (lv_room (Nat.le_of_ble_eq_true rfl)) dX9_paddler_47 ⟨(Nat.le_of_ble_eq_true rfl), (Nat.le_of_ble_eq_true rfl)⟩) hS (fun q _ h => hFc q h) hFc (fun r u t H1 locs ht hvm hw hB hz1 hk1 hS => ?_)
          refine W.widen (k := 0) (n := 0) (Nat.le_of_ble_eq_true rfl) (Nat.le_of_ble_eq_true rfl) ?_
          have hP := P_ro hP hk1
          generalize H1 = H at hP hS ⊢
          rcases hw with ⟨rfl, e_5⟩ | ⟨rfl, e_5⟩
          · have e_5 : (10 ≤ p4.toInt ∧ p4.toInt ≤ 90) := e_5
            refine lv_if_ne (tgt := 56) hx hb dX9_paddler_50 (by decide) (fun _ => ?_) (fun c9 => absurd c9 (by decide +kernel))
            refine lv_aload_n hx hb dX9_paddler_56 rfl (lv_at hl 0 rfl) ?_
            refine va_get (D := (dC, dI)) (ci := 9) (v := .ref aRo) (C := RX9) (T := TX9) (N := 16) hx hb hts (fun _ h => List.mem_cons_of_mem _ (List.mem_append_left _ (List.mem_append_right _ h))) hown hK hP 0 rfl rfl 0 (by decide) (hts (.fieldLink RX9 12 "DrumBoats" "roster" "LDrumBoats$Roster;") (List.mem_of_getElem? (i := 1) rfl)) (fun _ h9 => h9) rfl dX9_paddler_57 ?_
            refine va_get (D := (dC, dI)) (ci := 4) (v := .int 0) (C := RX4) (T := TX4) (N := 7) hx hb hts (fun _ h => List.mem_cons_of_mem _ (List.mem_append_right _ h)) hown hK hP 1 rfl rfl 0 (by decide) (hts (.fieldLink RX9 101 "DrumBoats$Roster" "size" "I") (List.mem_of_getElem? (i := 2) rfl)) (fun _ h9 => h9) rfl dX9_paddler_60 ?_
            refine lv_bipush (v := 40) hx hb dX9_paddler_63 (by decide +kernel) ?_
            refine lv_icmp_lt (tgt := 71) hx hb dX9_paddler_65 (by decide) (fun _ => ?_) (fun c9 => absurd c9 (by decide +kernel))
            refine lv_aload_n hx hb dX9_paddler_71 rfl (lv_at hl 0 rfl) ?_
            refine va_get (D := (dC, dI)) (ci := 9) (v := .ref aRo) (C := RX9) (T := TX9) (N := 16) hx hb hts (fun _ h => List.mem_cons_of_mem _ (List.mem_append_left _ (List.mem_append_right _ h))) hown hK hP 0 rfl rfl 0 (by decide) (hts (.fieldLink RX9 12 "DrumBoats" "roster" "LDrumBoats$Roster;") (List.mem_of_getElem? (i := 1) rfl)) (fun _ h9 => h9) rfl dX9_paddler_72 ?_
            refine lv_iload_n hx hb dX9_paddler_75 rfl (lv_at hl 1 rfl) ?_
            refine lv_iload_n hx hb dX9_paddler_76 rfl (lv_at hl 2 rfl) ?_
            refine lv_iload_n hx hb dX9_paddler_77 rfl (lv_at hl 3 rfl) ?_
            refine lv_iload hx hb dX9_paddler_78 (lv_at hl 4 rfl) ?_
            refine lv_iload hx hb dX9_paddler_80 (lv_at hl 5 rfl) ?_
            have hPc := hP.sub (ws' := [(aRo, .inr (4, [.int 0, .ref aW, .ref aS, .ref aAr, .ref aSx, .ref aAg, .ref aFb])), (aW, .inl (caW, 40, .inl (fun _ => 0))), (aS, .inl (caS, 40, .inl (fun _ => 0))), (aAr, .inl (caAr, 40, .inl (fun _ => 0))), (aSx, .inl (caSx, 40, .inl (fun _ => 0))), (aAg, .inl (caAg, 40, .inl (fun _ => 0)))]) [1, 2, 3, 4, 5, 6] rfl
            have hKc := hK.sub (tys' := [(caW, .int), (caS, .int), (caAr, .int), (caSx, .int), (caAg, .int)]) [0, 1, 2, 3, 4] rfl
            have hDc := hD.sub (ws' := [(aRo, .inr (4, [.int 0, .ref aW, .ref aS, .ref aAr, .ref aSx, .ref aAg, .ref aFb])), (aW, .inl (caW, 40, .inl (fun _ => 0))), (aS, .inl (caS, 40, .inl (fun _ => 0))), (aAr, .inl (caAr, 40, .inl (fun _ => 0))), (aSx, .inl (caSx, 40, .inl (fun _ => 0))), (aAg, .inl (caAg, 40, .inl (fun _ => 0)))]) [1, 2, 3, 4, 5, 6] (by decide) rfl
            have hFc := va_free (wc := [(aRo, .inr (4, [.int 0, .ref aW, .ref aS, .ref aAr, .ref aSx, .ref aAg, .ref aFb])), (aW, .inl (caW, 40, .inl (fun _ => 0))), (aS, .inl (caS, 40, .inl (fun _ => 0))), (aAr, .inl (caAr, 40, .inl (fun _ => 0))), (aSx, .inl (caSx, 40, .inl (fun _ => 0))), (aAg, .inl (caAg, 40, .inl (fun _ => 0)))]) hD hS hA [1, 2, 3, 4, 5, 6] rfl
            refine va_calli (va_runV (As := [.int p0, .int p1, .int p2, .int p3, .int p4]) (rest := []) ⟨hx, hb, hml, hown, hts⟩ (k_X4_add l dC dI H.size aRo p0 p1 p2 p3 p4 aW aS aAr aSx aAg aFb caW caS caAr caSx caAg) (cwV 5 hts gX9_paddler_X4_add rfl rfl rfl (by decide +kernel) ⟨(Nat.le_of_ble_eq_true rfl), (Nat.le_of_ble_eq_true rfl)⟩) ⟨fun a U g mk q => by obtain ⟨q0, q1, qP, qK, qD⟩ := q; exact ⟨q0, q1, qP, va_K.moved (u := U) (U := U.calling g mk a) (Vm.Alike.refl U.vm) qK, qD⟩, va_recv hKc hPc (ci := 4) (q0 := 0) rfl rfl, fun U hU hW => ⟨rfl, by rw [hU], by rw [hU]; exact hPc, va_K.moved hW.alike hKc, hDc.weaken (fun _ _ _ _ => trivial)⟩⟩ rfl rfl hl.1 rfl (lv_room (Nat.le_of_ble_eq_true rfl)) dX9_paddler_82 ⟨(Nat.le_of_ble_eq_true rfl), (Nat.le_of_ble_eq_true rfl)⟩) hS (fun q _ h => hFc q h) hFc (fun r u t H1 locs ht hvm hw hB hz1 hk1 hS => ?_)
            refine W.widen (k := 0) (n := 0) (Nat.le_of_ble_eq_true rfl) (Nat.le_of_ble_eq_true rfl) ?_
            obtain ⟨hP, hD⟩ := va_join (wr := [(h0, .inr (9, [.ref aRo, .ref aCr, .int 0, .ref aBa, .ref aSe, .ref aTa, .ref aRu, .int 0, .ref aTl, .int 10, .ref aWa, .ref aCu, .ref aRa, .int 0, .ref aCo, .ref aFi]))]) (w1 := []) hP hD [1, 2, 3, 4, 5, 6] [0] rfl rfl (by decide) (by decide) hk1 hFc P_nil D_nil
            generalize H1 = H at hP hS ⊢
            have hP : va_P (dC, dI) vwCl [(h0, .inr (9, [.ref aRo, .ref aCr, .int 0, .ref aBa, .ref aSe, .ref aTa, .ref aRu, .int 0, .ref aTl, .int 10, .ref aWa, .ref aCu, .ref aRa, .int 0, .ref aCo, .ref aFi]))] H := hP
            have hD : va_D A [(h0, .inr (9, [.ref aRo, .ref aCr, .int 0, .ref aBa, .ref aSe, .ref aTa, .ref aRu, .int 0, .ref aTl, .int 10, .ref aWa, .ref aCu, .ref aRa, .int 0, .ref aCo, .ref aFi]))] := hD
            subst hw
            refine W.widen (k := 0) (n := 0) (Nat.le_of_ble_eq_true rfl) (Nat.le_of_ble_eq_true rfl) ?_
            exact W.iret (v := 0) hx hb hr (fun t ht hW => ⟨⟨0, (), rfl, (by first | rfl | decide | (unfold f_paddler; (repeat' split) <;> first | rfl | omega)), trivial⟩, hS.F ht⟩) hS.2.2 dX9_paddler_85
          · have e_5 : ¬ (10 ≤ p4.toInt ∧ p4.toInt ≤ 90) := e_5
            refine lv_if_ne (tgt := 56) hx hb dX9_paddler_50 (by decide) (fun c9 => absurd c9 (by decide +kernel)) (fun _ => ?_)
            refine lv_bipush (v := (-2)) hx hb dX9_paddler_53 (by decide +kernel) ?_
            refine W.widen (k := 0) (n := 0) (Nat.le_of_ble_eq_true rfl) (Nat.le_of_ble_eq_true rfl) ?_
            exact W.iret (v := (-2)) hx hb hr (fun t ht hW => ⟨⟨(-2), (), rfl, (by first | rfl | decide | (unfold f_paddler; (repeat' split) <;> first | rfl | omega)), trivial⟩, hS.F ht⟩) hS.2.2 dX9_paddler_55
        · have e_4 : ¬ (0 ≤ p3.toInt ∧ p3.toInt ≤ 1) := e_4
          refine lv_if_eq (tgt := 53) hx hb dX9_paddler_38 (by decide) (fun _ => ?_) (fun c9 => absurd c9 (by decide +kernel))
          refine lv_bipush (v := (-2)) hx hb dX9_paddler_53 (by decide +kernel) ?_
          refine W.widen (k := 0) (n := 0) (Nat.le_of_ble_eq_true rfl) (Nat.le_of_ble_eq_true rfl) ?_
          exact W.iret (v := (-2)) hx hb hr (fun t ht hW => ⟨⟨(-2), (), rfl, (by first | rfl | decide | (unfold f_paddler; (repeat' split) <;> first | rfl | omega)), trivial⟩, hS.F ht⟩) hS.2.2 dX9_paddler_55
      · have e_3 : ¬ (0 ≤ p2.toInt ∧ p2.toInt ≤ 2) := e_3
        refine lv_if_eq (tgt := 53) hx hb dX9_paddler_28 (by decide) (fun _ => ?_) (fun c9 => absurd c9 (by decide +kernel))
        refine lv_bipush (v := (-2)) hx hb dX9_paddler_53 (by decide +kernel) ?_
        refine W.widen (k := 0) (n := 0) (Nat.le_of_ble_eq_true rfl) (Nat.le_of_ble_eq_true rfl) ?_
        exact W.iret (v := (-2)) hx hb hr (fun t ht hW => ⟨⟨(-2), (), rfl, (by first | rfl | decide | (unfold f_paddler; (repeat' split) <;> first | rfl | omega)), trivial⟩, hS.F ht⟩) hS.2.2 dX9_paddler_55
    · have e_2 : ¬ (1 ≤ p1.toInt ∧ p1.toInt ≤ 99) := e_2
      refine lv_if_eq (tgt := 53) hx hb dX9_paddler_19 (by decide) (fun _ => ?_) (fun c9 => absurd c9 (by decide +kernel))
      refine lv_bipush (v := (-2)) hx hb dX9_paddler_53 (by decide +kernel) ?_
      refine W.widen (k := 0) (n := 0) (Nat.le_of_ble_eq_true rfl) (Nat.le_of_ble_eq_true rfl) ?_
      exact W.iret (v := (-2)) hx hb hr (fun t ht hW => ⟨⟨(-2), (), rfl, (by first | rfl | decide | (unfold f_paddler; (repeat' split) <;> first | rfl | omega)), trivial⟩, hS.F ht⟩) hS.2.2 dX9_paddler_55
  · have e_1 : ¬ (30 ≤ p0.toInt ∧ p0.toInt ≤ 150) := e_1
    refine lv_if_eq (tgt := 53) hx hb dX9_paddler_9 (by decide) (fun _ => ?_) (fun c9 => absurd c9 (by decide +kernel))
    refine lv_bipush (v := (-2)) hx hb dX9_paddler_53 (by decide +kernel) ?_
    refine W.widen (k := 0) (n := 0) (Nat.le_of_ble_eq_true rfl) (Nat.le_of_ble_eq_true rfl) ?_
    exact W.iret (v := (-2)) hx hb hr (fun t ht hW => ⟨⟨(-2), (), rfl, (by first | rfl | decide | (unfold f_paddler; (repeat' split) <;> first | rfl | omega)), trivial⟩, hS.F ht⟩) hS.2.2 dX9_paddler_55

set_option maxHeartbeats 4000000 in
set_option maxRecDepth 100000 in
theorem k_X9_like (l : Launch) (dC : Nat → ClassId) (dI : Nat → Nat → Nat) (sz : Nat) (h0 : Nat) (p0 : Int32) (p1 : Int32) (p2 : Int32) (aRo : Nat) (aCr : Nat) (aBa : Nat) (aSe : Nat) (aTa : Nat) (aRu : Nat) (aTl : Nat) (aWa : Nat) (aCu : Nat) (aRa : Nat) (aCo : Nat) (aFi : Nat) (aW : Nat) (aS : Nat) (aAr : Nat) (aSx : Nat) (aAg : Nat) (aFb : Nat) : Met l yX9_like wsX9_like ({ frames := 2, cells := 0, slots := 0, locals := 43 }) (va_Pc [.ref h0, .int p0, .int p1, .int p2] (fun U => U.heap.size = sz ∧ va_P (dC, dI) vwCl [(h0, .inr (9, [.ref aRo, .ref aCr, .int 0, .ref aBa, .ref aSe, .ref aTa, .ref aRu, .int 0, .ref aTl, .int 10, .ref aWa, .ref aCu, .ref aRa, .int 0, .ref aCo, .ref aFi])), (aRo, .inr (4, [.int 0, .ref aW, .ref aS, .ref aAr, .ref aSx, .ref aAg, .ref aFb]))] U.heap ∧ va_K (dC, dI) vwCl [] U ∧ va_Nw (.methodLinkNest RX4 35 yX9_within RX9) U)) (va_Qi (fun (r : Int32) (_ : Unit) => r = (-1)) (fun _ _ => True) (va_A ([] : va_W) sz)) 0 0 (va_A ([] : va_W) sz) := by
  refine Met.ofW (cc := cX9_like) (maxL := 5) (ret := (some .int)) (by decide) rfl ?_
  intro p e s m args below meth c s₁ B hml hv
  obtain ⟨rfl, hsz, hP, hK, hNX4_35⟩ := hv
  have hx := B.exec
  have hb := B.bytes
  have hr := B.returns
  have hts := atoms_spec (ws := wsX9_like) B.pre
  have hown : s.vm.findClass RX9 = some m.cls := findClass_of_methodNamed B.named
  have hlocks := B.notSynchronized
  subst hsz
  generalize hAe : va_A ([] : va_W) s.heap.size = A
  have hA : ∀ q : Nat, s.heap.size ≤ q → A q := fun q h => by rw [← hAe]; exact Or.inr h
  have hS : va_S A s.heap s.heap [] := va_S.rf
  have hl := lv_entry ([.ref h0, .int p0, .int p1, .int p2]) (n := 5) (Nat.le_of_ble_eq_true rfl)
  rw [lg_entry_eq]
  generalize (lg_sl ([.ref h0, .int p0, .int p1, .int p2]) ++ List.replicate (5 - (lg_sl ([.ref h0, .int p0, .int p1, .int p2])).length) Slot.unset).toArray = ls at hl ⊢
  have hl : lv_has ls 5 [(0, .ref h0), (1, .int p0), (2, .int p1), (3, .int p2)] := hl
  refine lv_aload_n hx hb dX9_like_0 rfl (lv_at hl 0 rfl) ?_
  refine va_get (D := (dC, dI)) (ci := 9) (v := .ref aRo) (C := RX9) (T := TX9) (N := 16) hx hb hts (fun _ h => List.mem_cons_of_mem _ (List.mem_append_left _ (List.mem_append_right _ h))) hown hK hP 0 rfl rfl 0 (by decide) (hts (.fieldLink RX9 12 "DrumBoats" "roster" "LDrumBoats$Roster;") (List.mem_of_getElem? (i := 1) rfl)) (fun _ h9 => h9) rfl dX9_like_1 ?_
  refine lv_iload_n hx hb dX9_like_4 rfl (lv_at hl 1 rfl) ?_
  have hPc := hP.sub (ws' := [(aRo, .inr (4, [.int 0, .ref aW, .ref aS, .ref aAr, .ref aSx, .ref aAg, .ref aFb]))]) [1] rfl
  have hKc := hK.sub (tys' := []) [] rfl
  have hFc := ro_free hS hA
  refine va_calli (va_runV (As := [.int p0]) (rest := []) ⟨hx, hb, hml, hown, hts⟩ (k_X4_has l dC dI s.heap.size aRo p0 aW aS aAr aSx aAg aFb) (cwV 1 hts gX9_like_X4_has rfl rfl rfl (by decide +kernel) ⟨(Nat.le_of_ble_eq_true rfl), (Nat.le_of_ble_eq_true rfl)⟩) ⟨fun a U g mk q => by obtain ⟨q0, q1, qP, qK, qe0⟩ := q; exact ⟨q0, q1, qP, va_K.moved (u := U) (U := U.calling g mk a) (Vm.Alike.refl U.vm) qK, (va_Nw.same (U := U.calling g mk a) rfl rfl qe0)⟩, va_recv hKc hPc (ci := 4) (q0 := 0) rfl rfl, fun U hU hW => ⟨rfl, by rw [hU], by rw [hU]; exact hPc, va_K.moved hW.alike hKc, (va_Nw.warmM hW hNX4_35)⟩⟩ rfl rfl hl.1 rfl (lv_room (Nat.le_of_ble_eq_true rfl)) dX9_like_5 ⟨(Nat.le_of_ble_eq_true rfl), (Nat.le_of_ble_eq_true rfl)⟩) hS (fun q _ h => hFc q h) hFc (fun r u t H1 locs ht hvm hw hB hz1 hk1 hS => ?_)
  refine W.widen (k := 0) (n := 0) (Nat.le_of_ble_eq_true rfl) (Nat.le_of_ble_eq_true rfl) ?_
  have hP := P_ro hP hk1
  generalize H1 = H at hP hS ⊢
  subst hw
  refine lv_if_eq (tgt := 22) hx hb dX9_like_8 (by decide) (fun _ => ?_) (fun c9 => absurd c9 (by decide +kernel))
  refine lv_iconst (v := (-1)) hx hb dX9_like_22 (by decide +kernel) ?_
  refine W.widen (k := 0) (n := 0) (Nat.le_of_ble_eq_true rfl) (Nat.le_of_ble_eq_true rfl) ?_
  exact W.iret (v := (-1)) hx hb hr (fun t ht hW => ⟨⟨(-1), (), rfl, (by first | rfl | (exfalso; omega)), trivial⟩, hS.F ht⟩) hS.2.2 dX9_like_23

set_option maxHeartbeats 4000000 in
set_option maxRecDepth 100000 in
theorem k_X9_crew (l : Launch) (dC : Nat → ClassId) (dI : Nat → Nat → Nat) (sz : Nat) (h0 : Nat) (p0 : Int32) (p1 : Int32) (aRo : Nat) (aCr : Nat) (aBa : Nat) (aSe : Nat) (aTa : Nat) (aRu : Nat) (aTl : Nat) (aWa : Nat) (aCu : Nat) (aRa : Nat) (aCo : Nat) (aFi : Nat) (caCr : ClassId) (aC0 : Nat) (aC1 : Nat) (aC2 : Nat) (aC3 : Nat) (aC4 : Nat) (aC5 : Nat) (aMe : Nat) (aSt : Nat) : Met l yX9_crew wsX9_crew ({ frames := 1, cells := 0, slots := 0, locals := 22 }) (va_Pc [.ref h0, .int p0, .int p1] (fun U => U.heap.size = sz ∧ va_P (dC, dI) vwCl [(h0, .inr (9, [.ref aRo, .ref aCr, .int 0, .ref aBa, .ref aSe, .ref aTa, .ref aRu, .int 0, .ref aTl, .int 10, .ref aWa, .ref aCu, .ref aRa, .int 0, .ref aCo, .ref aFi])), (aCr, .inl (caCr, 6, .inr (.inr (.inr (.inr (va_up (va_up (va_up (va_up (va_up (va_up (fun _ => none) (0 : Int32).toNatClampNeg (some aC0)) (1 : Int32).toNatClampNeg (some aC1)) (2 : Int32).toNatClampNeg (some aC2)) (3 : Int32).toNatClampNeg (some aC3)) (4 : Int32).toNatClampNeg (some aC4)) (5 : Int32).toNatClampNeg (some aC5))))))), (aC0, .inr (1, [.int 2, .int 0, .int 4, .int 0, .ref aMe, .long 0, .int 0, .ref aSt]))] U.heap ∧ va_K (dC, dI) vwCl [(caCr, .object RX1)] U ∧ va_D (fun _ => True) [(h0, .inr (9, [.ref aRo, .ref aCr, .int 0, .ref aBa, .ref aSe, .ref aTa, .ref aRu, .int 0, .ref aTl, .int 10, .ref aWa, .ref aCu, .ref aRa, .int 0, .ref aCo, .ref aFi])), (aCr, .inl (caCr, 6, .inr (.inr (.inr (.inr (va_up (va_up (va_up (va_up (va_up (va_up (fun _ => none) (0 : Int32).toNatClampNeg (some aC0)) (1 : Int32).toNatClampNeg (some aC1)) (2 : Int32).toNatClampNeg (some aC2)) (3 : Int32).toNatClampNeg (some aC3)) (4 : Int32).toNatClampNeg (some aC4)) (5 : Int32).toNatClampNeg (some aC5))))))), (aC0, .inr (1, [.int 2, .int 0, .int 4, .int 0, .ref aMe, .long 0, .int 0, .ref aSt]))])) (va_Qi (fun (r : Int32) (_ : Unit) => r = f_crew p0 p1) (fun _ _ => True) (va_A [(h0, .inr (9, [.ref aRo, .ref aCr, .int 0, .ref aBa, .ref aSe, .ref aTa, .ref aRu, .int 0, .ref aTl, .int 10, .ref aWa, .ref aCu, .ref aRa, .int 0, .ref aCo, .ref aFi])), (aCr, .inl (caCr, 6, .inr (.inr (.inr (.inr (va_up (va_up (va_up (va_up (va_up (va_up (fun _ => none) (0 : Int32).toNatClampNeg (some aC0)) (1 : Int32).toNatClampNeg (some aC1)) (2 : Int32).toNatClampNeg (some aC2)) (3 : Int32).toNatClampNeg (some aC3)) (4 : Int32).toNatClampNeg (some aC4)) (5 : Int32).toNatClampNeg (some aC5))))))), (aC0, .inr (1, [.int 2, .int 0, .int 4, .int 0, .ref aMe, .long 0, .int 0, .ref aSt]))] sz)) 0 0 (va_A [(h0, .inr (9, [.ref aRo, .ref aCr, .int 0, .ref aBa, .ref aSe, .ref aTa, .ref aRu, .int 0, .ref aTl, .int 10, .ref aWa, .ref aCu, .ref aRa, .int 0, .ref aCo, .ref aFi])), (aCr, .inl (caCr, 6, .inr (.inr (.inr (.inr (va_up (va_up (va_up (va_up (va_up (va_up (fun _ => none) (0 : Int32).toNatClampNeg (some aC0)) (1 : Int32).toNatClampNeg (some aC1)) (2 : Int32).toNatClampNeg (some aC2)) (3 : Int32).toNatClampNeg (some aC3)) (4 : Int32).toNatClampNeg (some aC4)) (5 : Int32).toNatClampNeg (some aC5))))))), (aC0, .inr (1, [.int 2, .int 0, .int 4, .int 0, .ref aMe, .long 0, .int 0, .ref aSt]))] sz) := by
  refine Met.ofW (cc := cX9_crew) (maxL := 3) (ret := (some .int)) (by decide) rfl ?_
  intro p e s m args below meth c s₁ B hml hv
  obtain ⟨rfl, hsz, hP, hK, hD0⟩ := hv
  have hx := B.exec
  have hb := B.bytes
  have hr := B.returns
  have hts := atoms_spec (ws := wsX9_crew) B.pre
  have hown : s.vm.findClass RX9 = some m.cls := findClass_of_methodNamed B.named
  have hlocks := B.notSynchronized
  subst hsz
  have hD := hD0.self (sz := s.heap.size)
  generalize hAe : va_A [(h0, .inr (9, [.ref aRo, .ref aCr, .int 0, .ref aBa, .ref aSe, .ref aTa, .ref aRu, .int 0, .ref aTl, .int 10, .ref aWa, .ref aCu, .ref aRa, .int 0, .ref aCo, .ref aFi])), (aCr, .inl (caCr, 6, .inr (.inr (.inr (.inr (va_up (va_up (va_up (va_up (va_up (va_up (fun _ => none) (0 : Int32).toNatClampNeg (some aC0)) (1 : Int32).toNatClampNeg (some aC1)) (2 : Int32).toNatClampNeg (some aC2)) (3 : Int32).toNatClampNeg (some aC3)) (4 : Int32).toNatClampNeg (some aC4)) (5 : Int32).toNatClampNeg (some aC5))))))), (aC0, .inr (1, [.int 2, .int 0, .int 4, .int 0, .ref aMe, .long 0, .int 0, .ref aSt]))] s.heap.size = A at hD ⊢
  have hA : ∀ q : Nat, s.heap.size ≤ q → A q := fun q h => by rw [← hAe]; exact Or.inr h
  have hS : va_S A s.heap s.heap [] := va_S.rf
  have hl := lv_entry ([.ref h0, .int p0, .int p1]) (n := 3) (Nat.le_of_ble_eq_true rfl)
  rw [lg_entry_eq]
  generalize (lg_sl ([.ref h0, .int p0, .int p1]) ++ List.replicate (3 - (lg_sl ([.ref h0, .int p0, .int p1])).length) Slot.unset).toArray = ls at hl ⊢
  have hl : lv_has ls 3 [(0, .ref h0), (1, .int p0), (2, .int p1)] := hl
  refine lv_iload_n hx hb dX9_crew_0 rfl (lv_at hl 1 rfl) ?_
  refine lv_iconst (v := 2) hx hb dX9_crew_1 (by decide +kernel) ?_
  refine lv_iconst (v := 4) hx hb dX9_crew_2 (by decide +kernel) ?_
  have hPc := hP.sub (ws' := ([] : va_W)) [] rfl
  have hKc := hK.sub (tys' := []) [] rfl
  have hFc := ro_free hS hA
  refine va_calli (va_runS (As := [.int p0, .int 2, .int 4]) (rest := []) ⟨hx, hb, hml, hown, hts⟩ (k_X9_within l dC dI s.heap.size p0 2 4) (va_cwS 3 hts gX9_crew_X9_within rfl rfl rfl (by decide +kernel) ⟨(Nat.le_of_ble_eq_true rfl), (Nat.le_of_ble_eq_true rfl)⟩) ⟨fun a U g mk q => by obtain ⟨q0, q1, qP, qK⟩ := q; exact ⟨q0, q1, qP, va_K.moved (u := U) (U := U.calling g mk a) (Vm.Alike.refl U.vm) qK⟩, fun U hU hW => ⟨rfl, by rw [hU], by rw [hU]; exact hPc, va_K.moved hW.alike hKc⟩⟩ rfl rfl hl.1 rfl (lv_room (Nat.le_of_ble_eq_true rfl)) dX9_crew_3 ⟨(Nat.le_of_ble_eq_true rfl), (Nat.le_of_ble_eq_true rfl)⟩) hS (fun q _ h => hFc q h) hFc (fun r u t H1 locs ht hvm hw hB hz1 hk1 hS => ?_)
  refine W.widen (k := 0) (n := 0) (Nat.le_of_ble_eq_true rfl) (Nat.le_of_ble_eq_true rfl) ?_
  have hP := P_ro hP hk1
  generalize H1 = H at hP hS ⊢
  rcases hw with ⟨rfl, e_1⟩ | ⟨rfl, e_1⟩
  · have e_1 : (2 ≤ p0.toInt ∧ p0.toInt ≤ 4) := e_1
    refine lv_if_eq (tgt := 20) hx hb dX9_crew_6 (by decide) (fun c9 => absurd c9 (by decide +kernel)) (fun _ => ?_)
    refine lv_iload_n hx hb dX9_crew_9 rfl (lv_at hl 2 rfl) ?_
    refine lv_iconst (v := 0) hx hb dX9_crew_10 (by decide +kernel) ?_
    refine lv_sipush (v := 150) hx hb dX9_crew_11 (by decide +kernel) ?_
    have hPc := hP.sub (ws' := ([] : va_W)) [] rfl
    have hKc := hK.sub (tys' := []) [] rfl
    have hFc := ro_free hS hA
    refine va_calli (va_runS (As := [.int p1, .int 0, .int 150]) (rest := []) ⟨hx, hb, hml, hown, hts⟩ (k_X9_within l dC dI H.size p1 0 150) (va_cwS 3 hts gX9_crew_X9_within rfl rfl rfl (by decide +kernel) ⟨(Nat.le_of_ble_eq_true rfl), (Nat.le_of_ble_eq_true rfl)⟩) ⟨fun a U g mk q => by obtain ⟨q0, q1, qP, qK⟩ := q; exact ⟨q0, q1, qP, va_K.moved (u := U) (U := U.calling g mk a) (Vm.Alike.refl U.vm) qK⟩, fun U hU hW => ⟨rfl, by rw [hU], by rw [hU]; exact hPc, va_K.moved hW.alike hKc⟩⟩ rfl rfl hl.1 rfl (lv_room (Nat.le_of_ble_eq_true rfl)) dX9_crew_14 ⟨(Nat.le_of_ble_eq_true rfl), (Nat.le_of_ble_eq_true rfl)⟩) hS (fun q _ h => hFc q h) hFc (fun r u t H1 locs ht hvm hw hB hz1 hk1 hS => ?_)
    refine W.widen (k := 0) (n := 0) (Nat.le_of_ble_eq_true rfl) (Nat.le_of_ble_eq_true rfl) ?_
    have hP := P_ro hP hk1
    generalize H1 = H at hP hS ⊢
    rcases hw with ⟨rfl, e_2⟩ | ⟨rfl, e_2⟩
    · have e_2 : (0 ≤ p1.toInt ∧ p1.toInt ≤ 150) := e_2
      refine lv_if_ne (tgt := 23) hx hb dX9_crew_17 (by decide) (fun _ => ?_) (fun c9 => absurd c9 (by decide +kernel))
      refine lv_aload_n hx hb dX9_crew_23 rfl (lv_at hl 0 rfl) ?_
      refine va_get (D := (dC, dI)) (ci := 9) (v := .int 0) (C := RX9) (T := TX9) (N := 16) hx hb hts (fun _ h => List.mem_cons_of_mem _ (List.mem_append_left _ (List.mem_append_right _ h))) hown hK hP 0 rfl rfl 2 (by decide) (hts (.fieldLink RX9 24 "DrumBoats" "crewCount" "I") (List.mem_of_getElem? (i := 1) rfl)) (fun _ h9 => h9) rfl dX9_crew_24 ?_
      refine lv_bipush (v := 6) hx hb dX9_crew_27 (by decide +kernel) ?_
      refine lv_icmp_lt (tgt := 35) hx hb dX9_crew_29 (by decide) (fun _ => ?_) (fun c9 => absurd c9 (by decide +kernel))
      refine lv_aload_n hx hb dX9_crew_35 rfl (lv_at hl 0 rfl) ?_
      refine va_get (D := (dC, dI)) (ci := 9) (v := .ref aCr) (C := RX9) (T := TX9) (N := 16) hx hb hts (fun _ h => List.mem_cons_of_mem _ (List.mem_append_left _ (List.mem_append_right _ h))) hown hK hP 0 rfl rfl 1 (by decide) (hts (.fieldLink RX9 20 "DrumBoats" "crews" "[LDrumBoats$Crew;") (List.mem_of_getElem? (i := 2) rfl)) (fun _ h9 => h9) rfl dX9_crew_36 ?_
      refine lv_aload_n hx hb dX9_crew_39 rfl (lv_at hl 0 rfl) ?_
      refine va_get (D := (dC, dI)) (ci := 9) (v := .int 0) (C := RX9) (T := TX9) (N := 16) hx hb hts (fun _ h => List.mem_cons_of_mem _ (List.mem_append_left _ (List.mem_append_right _ h))) hown hK hP 0 rfl rfl 2 (by decide) (hts (.fieldLink RX9 24 "DrumBoats" "crewCount" "I") (List.mem_of_getElem? (i := 1) rfl)) (fun _ h9 => h9) rfl dX9_crew_40 ?_
      refine va_aldq hx hb hK hP 1 0 rfl rfl (by unfold vp_in; decide +kernel) dX9_crew_43 ?_
      refine tv_eq (y := .ref aC0) rfl ?_
      refine lv_iload_n hx hb dX9_crew_44 rfl (lv_at hl 1 rfl) ?_
      refine va_put (D := (dC, dI)) (ci := 1) (v := .int p0) (ty := .int) (C := RX1) (T := TX1) (N := 8) hx hb hts (fun _ h => List.mem_cons_of_mem _ (List.mem_append_right _ h)) tyX1 tyX1_ok nmX1 hown hK hP hD hS 2 rfl rfl 0 (by decide) (hts (.fieldLink RX9 120 "DrumBoats$Crew" "rows" "I") (List.mem_of_getElem? (i := 3) rfl)) (fun _ h9 => h9) rfl (by decide +kernel) rfl rfl (Nat.le_of_ble_eq_true rfl) dX9_crew_45 (fun H locs hP hD hS => ?_)
      have hP : va_P (dC, dI) vwCl [(h0, .inr (9, [.ref aRo, .ref aCr, .int 0, .ref aBa, .ref aSe, .ref aTa, .ref aRu, .int 0, .ref aTl, .int 10, .ref aWa, .ref aCu, .ref aRa, .int 0, .ref aCo, .ref aFi])), (aCr, .inl (caCr, 6, .inr (.inr (.inr (.inr (va_up (va_up (va_up (va_up (va_up (va_up (fun _ => none) (0 : Int32).toNatClampNeg (some aC0)) (1 : Int32).toNatClampNeg (some aC1)) (2 : Int32).toNatClampNeg (some aC2)) (3 : Int32).toNatClampNeg (some aC3)) (4 : Int32).toNatClampNeg (some aC4)) (5 : Int32).toNatClampNeg (some aC5))))))), (aC0, .inr (1, [.int p0, .int 0, .int 4, .int 0, .ref aMe, .long 0, .int 0, .ref aSt]))] H := hP
      have hD : va_D A [(h0, .inr (9, [.ref aRo, .ref aCr, .int 0, .ref aBa, .ref aSe, .ref aTa, .ref aRu, .int 0, .ref aTl, .int 10, .ref aWa, .ref aCu, .ref aRa, .int 0, .ref aCo, .ref aFi])), (aCr, .inl (caCr, 6, .inr (.inr (.inr (.inr (va_up (va_up (va_up (va_up (va_up (va_up (fun _ => none) (0 : Int32).toNatClampNeg (some aC0)) (1 : Int32).toNatClampNeg (some aC1)) (2 : Int32).toNatClampNeg (some aC2)) (3 : Int32).toNatClampNeg (some aC3)) (4 : Int32).toNatClampNeg (some aC4)) (5 : Int32).toNatClampNeg (some aC5))))))), (aC0, .inr (1, [.int p0, .int 0, .int 4, .int 0, .ref aMe, .long 0, .int 0, .ref aSt]))] := hD
      refine lv_aload_n hx hb dX9_crew_48 rfl (lv_at hl 0 rfl) ?_
      refine va_get (D := (dC, dI)) (ci := 9) (v := .ref aCr) (C := RX9) (T := TX9) (N := 16) hx hb hts (fun _ h => List.mem_cons_of_mem _ (List.mem_append_left _ (List.mem_append_right _ h))) hown hK hP 0 rfl rfl 1 (by decide) (hts (.fieldLink RX9 20 "DrumBoats" "crews" "[LDrumBoats$Crew;") (List.mem_of_getElem? (i := 2) rfl)) (fun _ h9 => h9) rfl dX9_crew_49 ?_
      refine lv_aload_n hx hb dX9_crew_52 rfl (lv_at hl 0 rfl) ?_
      refine va_get (D := (dC, dI)) (ci := 9) (v := .int 0) (C := RX9) (T := TX9) (N := 16) hx hb hts (fun _ h => List.mem_cons_of_mem _ (List.mem_append_left _ (List.mem_append_right _ h))) hown hK hP 0 rfl rfl 2 (by decide) (hts (.fieldLink RX9 24 "DrumBoats" "crewCount" "I") (List.mem_of_getElem? (i := 1) rfl)) (fun _ h9 => h9) rfl dX9_crew_53 ?_
      refine va_aldq hx hb hK hP 1 0 rfl rfl (by unfold vp_in; decide +kernel) dX9_crew_56 ?_
      refine tv_eq (y := .ref aC0) rfl ?_
      refine lv_iload_n hx hb dX9_crew_57 rfl (lv_at hl 2 rfl) ?_
      refine va_put (D := (dC, dI)) (ci := 1) (v := .int p1) (ty := .int) (C := RX1) (T := TX1) (N := 8) hx hb hts (fun _ h => List.mem_cons_of_mem _ (List.mem_append_right _ h)) tyX1 tyX1_ok nmX1 hown hK hP hD hS 2 rfl rfl 1 (by decide) (hts (.fieldLink RX9 123 "DrumBoats$Crew" "drummer" "I") (List.mem_of_getElem? (i := 4) rfl)) (fun _ h9 => h9) rfl (by decide +kernel) rfl rfl (Nat.le_of_ble_eq_true rfl) dX9_crew_58 (fun H locs hP hD hS => ?_)
      have hP : va_P (dC, dI) vwCl [(h0, .inr (9, [.ref aRo, .ref aCr, .int 0, .ref aBa, .ref aSe, .ref aTa, .ref aRu, .int 0, .ref aTl, .int 10, .ref aWa, .ref aCu, .ref aRa, .int 0, .ref aCo, .ref aFi])), (aCr, .inl (caCr, 6, .inr (.inr (.inr (.inr (va_up (va_up (va_up (va_up (va_up (va_up (fun _ => none) (0 : Int32).toNatClampNeg (some aC0)) (1 : Int32).toNatClampNeg (some aC1)) (2 : Int32).toNatClampNeg (some aC2)) (3 : Int32).toNatClampNeg (some aC3)) (4 : Int32).toNatClampNeg (some aC4)) (5 : Int32).toNatClampNeg (some aC5))))))), (aC0, .inr (1, [.int p0, .int p1, .int 4, .int 0, .ref aMe, .long 0, .int 0, .ref aSt]))] H := hP
      have hD : va_D A [(h0, .inr (9, [.ref aRo, .ref aCr, .int 0, .ref aBa, .ref aSe, .ref aTa, .ref aRu, .int 0, .ref aTl, .int 10, .ref aWa, .ref aCu, .ref aRa, .int 0, .ref aCo, .ref aFi])), (aCr, .inl (caCr, 6, .inr (.inr (.inr (.inr (va_up (va_up (va_up (va_up (va_up (va_up (fun _ => none) (0 : Int32).toNatClampNeg (some aC0)) (1 : Int32).toNatClampNeg (some aC1)) (2 : Int32).toNatClampNeg (some aC2)) (3 : Int32).toNatClampNeg (some aC3)) (4 : Int32).toNatClampNeg (some aC4)) (5 : Int32).toNatClampNeg (some aC5))))))), (aC0, .inr (1, [.int p0, .int p1, .int 4, .int 0, .ref aMe, .long 0, .int 0, .ref aSt]))] := hD
      refine lv_aload_n hx hb dX9_crew_61 rfl (lv_at hl 0 rfl) ?_
      refine lv_dup hx hb dX9_crew_62 rfl ?_
      refine va_get (D := (dC, dI)) (ci := 9) (v := .int 0) (C := RX9) (T := TX9) (N := 16) hx hb hts (fun _ h => List.mem_cons_of_mem _ (List.mem_append_left _ (List.mem_append_right _ h))) hown hK hP 0 rfl rfl 2 (by decide) (hts (.fieldLink RX9 24 "DrumBoats" "crewCount" "I") (List.mem_of_getElem? (i := 1) rfl)) (fun _ h9 => h9) rfl dX9_crew_63 ?_
      refine lv_iconst (v := 1) hx hb dX9_crew_66 (by decide +kernel) ?_
      refine lv_iadd hx hb dX9_crew_67 ?_
      refine ti_eq (y := 1) (by decide +kernel) ?_
      refine va_put (D := (dC, dI)) (ci := 9) (v := .int 1) (ty := .int) (C := RX9) (T := TX9) (N := 16) hx hb hts (fun _ h => List.mem_cons_of_mem _ (List.mem_append_left _ (List.mem_append_right _ h))) tyX9 tyX9_ok nmX9 hown hK hP hD hS 0 rfl rfl 2 (by decide) (hts (.fieldLink RX9 24 "DrumBoats" "crewCount" "I") (List.mem_of_getElem? (i := 1) rfl)) (fun _ h9 => h9) rfl (by decide +kernel) rfl rfl (Nat.le_of_ble_eq_true rfl) dX9_crew_68 (fun H locs hP hD hS => ?_)
      have hP : va_P (dC, dI) vwCl [(h0, .inr (9, [.ref aRo, .ref aCr, .int 1, .ref aBa, .ref aSe, .ref aTa, .ref aRu, .int 0, .ref aTl, .int 10, .ref aWa, .ref aCu, .ref aRa, .int 0, .ref aCo, .ref aFi])), (aCr, .inl (caCr, 6, .inr (.inr (.inr (.inr (va_up (va_up (va_up (va_up (va_up (va_up (fun _ => none) (0 : Int32).toNatClampNeg (some aC0)) (1 : Int32).toNatClampNeg (some aC1)) (2 : Int32).toNatClampNeg (some aC2)) (3 : Int32).toNatClampNeg (some aC3)) (4 : Int32).toNatClampNeg (some aC4)) (5 : Int32).toNatClampNeg (some aC5))))))), (aC0, .inr (1, [.int p0, .int p1, .int 4, .int 0, .ref aMe, .long 0, .int 0, .ref aSt]))] H := hP
      have hD : va_D A [(h0, .inr (9, [.ref aRo, .ref aCr, .int 1, .ref aBa, .ref aSe, .ref aTa, .ref aRu, .int 0, .ref aTl, .int 10, .ref aWa, .ref aCu, .ref aRa, .int 0, .ref aCo, .ref aFi])), (aCr, .inl (caCr, 6, .inr (.inr (.inr (.inr (va_up (va_up (va_up (va_up (va_up (va_up (fun _ => none) (0 : Int32).toNatClampNeg (some aC0)) (1 : Int32).toNatClampNeg (some aC1)) (2 : Int32).toNatClampNeg (some aC2)) (3 : Int32).toNatClampNeg (some aC3)) (4 : Int32).toNatClampNeg (some aC4)) (5 : Int32).toNatClampNeg (some aC5))))))), (aC0, .inr (1, [.int p0, .int p1, .int 4, .int 0, .ref aMe, .long 0, .int 0, .ref aSt]))] := hD
      refine lv_aload_n hx hb dX9_crew_71 rfl (lv_at hl 0 rfl) ?_
      refine va_get (D := (dC, dI)) (ci := 9) (v := .int 1) (C := RX9) (T := TX9) (N := 16) hx hb hts (fun _ h => List.mem_cons_of_mem _ (List.mem_append_left _ (List.mem_append_right _ h))) hown hK hP 0 rfl rfl 2 (by decide) (hts (.fieldLink RX9 24 "DrumBoats" "crewCount" "I") (List.mem_of_getElem? (i := 1) rfl)) (fun _ h9 => h9) rfl dX9_crew_72 ?_
      refine lv_iconst (v := 1) hx hb dX9_crew_75 (by decide +kernel) ?_
      refine lv_isub hx hb dX9_crew_76 ?_
      refine ti_eq (y := 0) (by decide +kernel) ?_
      refine W.widen (k := 0) (n := 0) (Nat.le_of_ble_eq_true rfl) (Nat.le_of_ble_eq_true rfl) ?_
      exact W.iret (v := 0) hx hb hr (fun t ht hW => ⟨⟨0, (), rfl, (by first | rfl | decide | (unfold f_crew; (repeat' split) <;> first | rfl | omega)), trivial⟩, hS.F ht⟩) hS.2.2 dX9_crew_77
    · have e_2 : ¬ (0 ≤ p1.toInt ∧ p1.toInt ≤ 150) := e_2
      refine lv_if_ne (tgt := 23) hx hb dX9_crew_17 (by decide) (fun c9 => absurd c9 (by decide +kernel)) (fun _ => ?_)
      refine lv_bipush (v := (-2)) hx hb dX9_crew_20 (by decide +kernel) ?_
      refine W.widen (k := 0) (n := 0) (Nat.le_of_ble_eq_true rfl) (Nat.le_of_ble_eq_true rfl) ?_
      exact W.iret (v := (-2)) hx hb hr (fun t ht hW => ⟨⟨(-2), (), rfl, (by first | rfl | decide | (unfold f_crew; (repeat' split) <;> first | rfl | omega)), trivial⟩, hS.F ht⟩) hS.2.2 dX9_crew_22
  · have e_1 : ¬ (2 ≤ p0.toInt ∧ p0.toInt ≤ 4) := e_1
    refine lv_if_eq (tgt := 20) hx hb dX9_crew_6 (by decide) (fun _ => ?_) (fun c9 => absurd c9 (by decide +kernel))
    refine lv_bipush (v := (-2)) hx hb dX9_crew_20 (by decide +kernel) ?_
    refine W.widen (k := 0) (n := 0) (Nat.le_of_ble_eq_true rfl) (Nat.le_of_ble_eq_true rfl) ?_
    exact W.iret (v := (-2)) hx hb hr (fun t ht hW => ⟨⟨(-2), (), rfl, (by first | rfl | decide | (unfold f_crew; (repeat' split) <;> first | rfl | omega)), trivial⟩, hS.F ht⟩) hS.2.2 dX9_crew_22

set_option maxHeartbeats 4000000 in
set_option maxRecDepth 100000 in
theorem k_X9_join (l : Launch) (dC : Nat → ClassId) (dI : Nat → Nat → Nat) (sz : Nat) (h0 : Nat) (p0 : Int32) (p1 : Int32) (aRo : Nat) (aCr : Nat) (aBa : Nat) (aSe : Nat) (aTa : Nat) (aRu : Nat) (aTl : Nat) (aWa : Nat) (aCu : Nat) (aRa : Nat) (aCo : Nat) (aFi : Nat) : Met l yX9_join wsX9_join ({ frames := 2, cells := 0, slots := 0, locals := 43 }) (va_Pc [.ref h0, .int p0, .int p1] (fun U => U.heap.size = sz ∧ va_P (dC, dI) vwCl [(h0, .inr (9, [.ref aRo, .ref aCr, .int 0, .ref aBa, .ref aSe, .ref aTa, .ref aRu, .int 0, .ref aTl, .int 10, .ref aWa, .ref aCu, .ref aRa, .int 0, .ref aCo, .ref aFi]))] U.heap ∧ va_K (dC, dI) vwCl [] U)) (va_Qi (fun (r : Int32) (_ : Unit) => r = (-1)) (fun _ _ => True) (va_A ([] : va_W) sz)) 0 0 (va_A ([] : va_W) sz) := by
  refine Met.ofW (cc := cX9_join) (maxL := 4) (ret := (some .int)) (by decide) rfl ?_
  intro p e s m args below meth c s₁ B hml hv
  obtain ⟨rfl, hsz, hP, hK⟩ := hv
  have hx := B.exec
  have hb := B.bytes
  have hr := B.returns
  have hts := atoms_spec (ws := wsX9_join) B.pre
  have hown : s.vm.findClass RX9 = some m.cls := findClass_of_methodNamed B.named
  have hlocks := B.notSynchronized
  subst hsz
  generalize hAe : va_A ([] : va_W) s.heap.size = A
  have hA : ∀ q : Nat, s.heap.size ≤ q → A q := fun q h => by rw [← hAe]; exact Or.inr h
  have hS : va_S A s.heap s.heap [] := va_S.rf
  have hl := lv_entry ([.ref h0, .int p0, .int p1]) (n := 4) (Nat.le_of_ble_eq_true rfl)
  rw [lg_entry_eq]
  generalize (lg_sl ([.ref h0, .int p0, .int p1]) ++ List.replicate (4 - (lg_sl ([.ref h0, .int p0, .int p1])).length) Slot.unset).toArray = ls at hl ⊢
  have hl : lv_has ls 4 [(0, .ref h0), (1, .int p0), (2, .int p1)] := hl
  refine lv_aload_n hx hb dX9_join_0 rfl (lv_at hl 0 rfl) ?_
  refine lv_iload_n hx hb dX9_join_1 rfl (lv_at hl 1 rfl) ?_
  have hPc := hP.sub (ws' := [(h0, .inr (9, [.ref aRo, .ref aCr, .int 0, .ref aBa, .ref aSe, .ref aTa, .ref aRu, .int 0, .ref aTl, .int 10, .ref aWa, .ref aCu, .ref aRa, .int 0, .ref aCo, .ref aFi]))]) [0] rfl
  have hKc := hK.sub (tys' := []) [] rfl
  have hFc := ro_free hS hA
  refine va_calli (va_runV (As := [.int p0]) (rest := []) ⟨hx, hb, hml, hown, hts⟩ (k_X9_isCrew l dC dI s.heap.size h0 p0 aRo aCr aBa aSe aTa aRu aTl aWa aCu aRa aCo aFi) (cwV 1 hts gX9_join_X9_isCrew rfl rfl rfl (by decide +kernel) ⟨(Nat.le_of_ble_eq_true rfl), (Nat.le_of_ble_eq_true rfl)⟩) ⟨fun a U g mk q => by obtain ⟨q0, q1, qP, qK⟩ := q; exact ⟨q0, q1, qP, va_K.moved (u := U) (U := U.calling g mk a) (Vm.Alike.refl U.vm) qK⟩, va_recv hKc hPc (ci := 9) (q0 := 0) rfl rfl, fun U hU hW => ⟨rfl, by rw [hU], by rw [hU]; exact hPc, va_K.moved hW.alike hKc⟩⟩ rfl rfl hl.1 rfl (lv_room (Nat.le_of_ble_eq_true rfl)) dX9_join_2 ⟨(Nat.le_of_ble_eq_true rfl), (Nat.le_of_ble_eq_true rfl)⟩) hS (fun q _ h => hFc q h) hFc (fun r u t H1 locs ht hvm hw hB hz1 hk1 hS => ?_)
  refine W.widen (k := 0) (n := 0) (Nat.le_of_ble_eq_true rfl) (Nat.le_of_ble_eq_true rfl) ?_
  have hP := P_ro hP hk1
  generalize H1 = H at hP hS ⊢
  subst hw
  refine lv_if_eq (tgt := 19) hx hb dX9_join_5 (by decide) (fun _ => ?_) (fun c9 => absurd c9 (by decide +kernel))
  refine lv_iconst (v := (-1)) hx hb dX9_join_19 (by decide +kernel) ?_
  refine W.widen (k := 0) (n := 0) (Nat.le_of_ble_eq_true rfl) (Nat.le_of_ble_eq_true rfl) ?_
  exact W.iret (v := (-1)) hx hb hr (fun t ht hW => ⟨⟨(-1), (), rfl, (by first | rfl | (exfalso; omega)), trivial⟩, hS.F ht⟩) hS.2.2 dX9_join_20

set_option maxHeartbeats 4000000 in
set_option maxRecDepth 100000 in
theorem k_X9_beat (l : Launch) (dC : Nat → ClassId) (dI : Nat → Nat → Nat) (sz : Nat) (h0 : Nat) (p0 : Int32) (p1 : Int32) (aRo : Nat) (aCr : Nat) (aBa : Nat) (aSe : Nat) (aTa : Nat) (aRu : Nat) (aTl : Nat) (aWa : Nat) (aCu : Nat) (aRa : Nat) (aCo : Nat) (aFi : Nat) : Met l yX9_beat wsX9_beat ({ frames := 2, cells := 0, slots := 0, locals := 43 }) (va_Pc [.ref h0, .int p0, .int p1] (fun U => U.heap.size = sz ∧ va_P (dC, dI) vwCl [(h0, .inr (9, [.ref aRo, .ref aCr, .int 0, .ref aBa, .ref aSe, .ref aTa, .ref aRu, .int 0, .ref aTl, .int 10, .ref aWa, .ref aCu, .ref aRa, .int 0, .ref aCo, .ref aFi]))] U.heap ∧ va_K (dC, dI) vwCl [] U)) (va_Qi (fun (r : Int32) (_ : Unit) => r = (-1)) (fun _ _ => True) (va_A ([] : va_W) sz)) 0 0 (va_A ([] : va_W) sz) := by
  refine Met.ofW (cc := cX9_beat) (maxL := 4) (ret := (some .int)) (by decide) rfl ?_
  intro p e s m args below meth c s₁ B hml hv
  obtain ⟨rfl, hsz, hP, hK⟩ := hv
  have hx := B.exec
  have hb := B.bytes
  have hr := B.returns
  have hts := atoms_spec (ws := wsX9_beat) B.pre
  have hown : s.vm.findClass RX9 = some m.cls := findClass_of_methodNamed B.named
  have hlocks := B.notSynchronized
  subst hsz
  generalize hAe : va_A ([] : va_W) s.heap.size = A
  have hA : ∀ q : Nat, s.heap.size ≤ q → A q := fun q h => by rw [← hAe]; exact Or.inr h
  have hS : va_S A s.heap s.heap [] := va_S.rf
  have hl := lv_entry ([.ref h0, .int p0, .int p1]) (n := 4) (Nat.le_of_ble_eq_true rfl)
  rw [lg_entry_eq]
  generalize (lg_sl ([.ref h0, .int p0, .int p1]) ++ List.replicate (4 - (lg_sl ([.ref h0, .int p0, .int p1])).length) Slot.unset).toArray = ls at hl ⊢
  have hl : lv_has ls 4 [(0, .ref h0), (1, .int p0), (2, .int p1)] := hl
  refine lv_aload_n hx hb dX9_beat_0 rfl (lv_at hl 0 rfl) ?_
  refine lv_iload_n hx hb dX9_beat_1 rfl (lv_at hl 1 rfl) ?_
  have hPc := hP.sub (ws' := [(h0, .inr (9, [.ref aRo, .ref aCr, .int 0, .ref aBa, .ref aSe, .ref aTa, .ref aRu, .int 0, .ref aTl, .int 10, .ref aWa, .ref aCu, .ref aRa, .int 0, .ref aCo, .ref aFi]))]) [0] rfl
  have hKc := hK.sub (tys' := []) [] rfl
  have hFc := ro_free hS hA
  refine va_calli (va_runV (As := [.int p0]) (rest := []) ⟨hx, hb, hml, hown, hts⟩ (k_X9_isCrew l dC dI s.heap.size h0 p0 aRo aCr aBa aSe aTa aRu aTl aWa aCu aRa aCo aFi) (cwV 1 hts gX9_beat_X9_isCrew rfl rfl rfl (by decide +kernel) ⟨(Nat.le_of_ble_eq_true rfl), (Nat.le_of_ble_eq_true rfl)⟩) ⟨fun a U g mk q => by obtain ⟨q0, q1, qP, qK⟩ := q; exact ⟨q0, q1, qP, va_K.moved (u := U) (U := U.calling g mk a) (Vm.Alike.refl U.vm) qK⟩, va_recv hKc hPc (ci := 9) (q0 := 0) rfl rfl, fun U hU hW => ⟨rfl, by rw [hU], by rw [hU]; exact hPc, va_K.moved hW.alike hKc⟩⟩ rfl rfl hl.1 rfl (lv_room (Nat.le_of_ble_eq_true rfl)) dX9_beat_2 ⟨(Nat.le_of_ble_eq_true rfl), (Nat.le_of_ble_eq_true rfl)⟩) hS (fun q _ h => hFc q h) hFc (fun r u t H1 locs ht hvm hw hB hz1 hk1 hS => ?_)
  refine W.widen (k := 0) (n := 0) (Nat.le_of_ble_eq_true rfl) (Nat.le_of_ble_eq_true rfl) ?_
  have hP := P_ro hP hk1
  generalize H1 = H at hP hS ⊢
  subst hw
  refine lv_if_ne (tgt := 10) hx hb dX9_beat_5 (by decide) (fun c9 => absurd c9 (by decide +kernel)) (fun _ => ?_)
  refine lv_iconst (v := (-1)) hx hb dX9_beat_8 (by decide +kernel) ?_
  refine W.widen (k := 0) (n := 0) (Nat.le_of_ble_eq_true rfl) (Nat.le_of_ble_eq_true rfl) ?_
  exact W.iret (v := (-1)) hx hb hr (fun t ht hW => ⟨⟨(-1), (), rfl, (by first | rfl | (exfalso; omega)), trivial⟩, hS.F ht⟩) hS.2.2 dX9_beat_9

set_option maxHeartbeats 4000000 in
set_option maxRecDepth 100000 in
theorem k_X9_seat (l : Launch) (dC : Nat → ClassId) (dI : Nat → Nat → Nat) (sz : Nat) (h0 : Nat) (p0 : Int32) (aRo : Nat) (aCr : Nat) (aBa : Nat) (aSe : Nat) (aTa : Nat) (aRu : Nat) (aTl : Nat) (aWa : Nat) (aCu : Nat) (aRa : Nat) (aCo : Nat) (aFi : Nat) : Met l yX9_seat wsX9_seat ({ frames := 2, cells := 0, slots := 0, locals := 43 }) (va_Pc [.ref h0, .int p0] (fun U => U.heap.size = sz ∧ va_P (dC, dI) vwCl [(h0, .inr (9, [.ref aRo, .ref aCr, .int 0, .ref aBa, .ref aSe, .ref aTa, .ref aRu, .int 0, .ref aTl, .int 10, .ref aWa, .ref aCu, .ref aRa, .int 0, .ref aCo, .ref aFi]))] U.heap ∧ va_K (dC, dI) vwCl [] U)) (va_Qi (fun (r : Int32) (_ : Unit) => r = (-100000)) (fun _ _ => True) (va_A ([] : va_W) sz)) 0 0 (va_A ([] : va_W) sz) := by
  refine Met.ofW (cc := cX9_seat) (maxL := 3) (ret := (some .int)) (by decide) rfl ?_
  intro p e s m args below meth c s₁ B hml hv
  obtain ⟨rfl, hsz, hP, hK⟩ := hv
  have hx := B.exec
  have hb := B.bytes
  have hr := B.returns
  have hts := atoms_spec (ws := wsX9_seat) B.pre
  have hown : s.vm.findClass RX9 = some m.cls := findClass_of_methodNamed B.named
  have hlocks := B.notSynchronized
  subst hsz
  generalize hAe : va_A ([] : va_W) s.heap.size = A
  have hA : ∀ q : Nat, s.heap.size ≤ q → A q := fun q h => by rw [← hAe]; exact Or.inr h
  have hS : va_S A s.heap s.heap [] := va_S.rf
  have hl := lv_entry ([.ref h0, .int p0]) (n := 3) (Nat.le_of_ble_eq_true rfl)
  rw [lg_entry_eq]
  generalize (lg_sl ([.ref h0, .int p0]) ++ List.replicate (3 - (lg_sl ([.ref h0, .int p0])).length) Slot.unset).toArray = ls at hl ⊢
  have hl : lv_has ls 3 [(0, .ref h0), (1, .int p0)] := hl
  refine lv_aload_n hx hb dX9_seat_0 rfl (lv_at hl 0 rfl) ?_
  refine lv_iload_n hx hb dX9_seat_1 rfl (lv_at hl 1 rfl) ?_
  have hPc := hP.sub (ws' := [(h0, .inr (9, [.ref aRo, .ref aCr, .int 0, .ref aBa, .ref aSe, .ref aTa, .ref aRu, .int 0, .ref aTl, .int 10, .ref aWa, .ref aCu, .ref aRa, .int 0, .ref aCo, .ref aFi]))]) [0] rfl
  have hKc := hK.sub (tys' := []) [] rfl
  have hFc := ro_free hS hA
  refine va_calli (va_runV (As := [.int p0]) (rest := []) ⟨hx, hb, hml, hown, hts⟩ (k_X9_isCrew l dC dI s.heap.size h0 p0 aRo aCr aBa aSe aTa aRu aTl aWa aCu aRa aCo aFi) (cwV 1 hts gX9_seat_X9_isCrew rfl rfl rfl (by decide +kernel) ⟨(Nat.le_of_ble_eq_true rfl), (Nat.le_of_ble_eq_true rfl)⟩) ⟨fun a U g mk q => by obtain ⟨q0, q1, qP, qK⟩ := q; exact ⟨q0, q1, qP, va_K.moved (u := U) (U := U.calling g mk a) (Vm.Alike.refl U.vm) qK⟩, va_recv hKc hPc (ci := 9) (q0 := 0) rfl rfl, fun U hU hW => ⟨rfl, by rw [hU], by rw [hU]; exact hPc, va_K.moved hW.alike hKc⟩⟩ rfl rfl hl.1 rfl (lv_room (Nat.le_of_ble_eq_true rfl)) dX9_seat_2 ⟨(Nat.le_of_ble_eq_true rfl), (Nat.le_of_ble_eq_true rfl)⟩) hS (fun q _ h => hFc q h) hFc (fun r u t H1 locs ht hvm hw hB hz1 hk1 hS => ?_)
  refine W.widen (k := 0) (n := 0) (Nat.le_of_ble_eq_true rfl) (Nat.le_of_ble_eq_true rfl) ?_
  have hP := P_ro hP hk1
  generalize H1 = H at hP hS ⊢
  subst hw
  refine lv_if_ne (tgt := 11) hx hb dX9_seat_5 (by decide) (fun c9 => absurd c9 (by decide +kernel)) (fun _ => ?_)
  refine lv_ldc (v := (-100000)) hx hb hown (hts (.constant RX9 142 (-100000)) (List.mem_of_getElem? (i := 1) rfl)) dX9_seat_8 ?_
  refine W.widen (k := 0) (n := 0) (Nat.le_of_ble_eq_true rfl) (Nat.le_of_ble_eq_true rfl) ?_
  exact W.iret (v := (-100000)) hx hb hr (fun t ht hW => ⟨⟨(-100000), (), rfl, (by first | rfl | (exfalso; omega)), trivial⟩, hS.F ht⟩) hS.2.2 dX9_seat_10

set_option maxHeartbeats 4000000 in
set_option maxRecDepth 100000 in
theorem k_X9_sits (l : Launch) (dC : Nat → ClassId) (dI : Nat → Nat → Nat) (sz : Nat) (h0 : Nat) (p0 : Int32) (p1 : Int32) (p2 : Int32) (aRo : Nat) (aCr : Nat) (aBa : Nat) (aSe : Nat) (aTa : Nat) (aRu : Nat) (aTl : Nat) (aWa : Nat) (aCu : Nat) (aRa : Nat) (aCo : Nat) (aFi : Nat) : Met l yX9_sits wsX9_sits ({ frames := 2, cells := 0, slots := 0, locals := 43 }) (va_Pc [.ref h0, .int p0, .int p1, .int p2] (fun U => U.heap.size = sz ∧ va_P (dC, dI) vwCl [(h0, .inr (9, [.ref aRo, .ref aCr, .int 0, .ref aBa, .ref aSe, .ref aTa, .ref aRu, .int 0, .ref aTl, .int 10, .ref aWa, .ref aCu, .ref aRa, .int 0, .ref aCo, .ref aFi]))] U.heap ∧ va_K (dC, dI) vwCl [] U)) (va_Qi (fun (r : Int32) (_ : Unit) => r = (-1)) (fun _ _ => True) (va_A ([] : va_W) sz)) 0 0 (va_A ([] : va_W) sz) := by
  refine Met.ofW (cc := cX9_sits) (maxL := 4) (ret := (some .int)) (by decide) rfl ?_
  intro p e s m args below meth c s₁ B hml hv
  obtain ⟨rfl, hsz, hP, hK⟩ := hv
  have hx := B.exec
  have hb := B.bytes
  have hr := B.returns
  have hts := atoms_spec (ws := wsX9_sits) B.pre
  have hown : s.vm.findClass RX9 = some m.cls := findClass_of_methodNamed B.named
  have hlocks := B.notSynchronized
  subst hsz
  generalize hAe : va_A ([] : va_W) s.heap.size = A
  have hA : ∀ q : Nat, s.heap.size ≤ q → A q := fun q h => by rw [← hAe]; exact Or.inr h
  have hS : va_S A s.heap s.heap [] := va_S.rf
  have hl := lv_entry ([.ref h0, .int p0, .int p1, .int p2]) (n := 4) (Nat.le_of_ble_eq_true rfl)
  rw [lg_entry_eq]
  generalize (lg_sl ([.ref h0, .int p0, .int p1, .int p2]) ++ List.replicate (4 - (lg_sl ([.ref h0, .int p0, .int p1, .int p2])).length) Slot.unset).toArray = ls at hl ⊢
  have hl : lv_has ls 4 [(0, .ref h0), (1, .int p0), (2, .int p1), (3, .int p2)] := hl
  refine lv_aload_n hx hb dX9_sits_0 rfl (lv_at hl 0 rfl) ?_
  refine lv_iload_n hx hb dX9_sits_1 rfl (lv_at hl 1 rfl) ?_
  have hPc := hP.sub (ws' := [(h0, .inr (9, [.ref aRo, .ref aCr, .int 0, .ref aBa, .ref aSe, .ref aTa, .ref aRu, .int 0, .ref aTl, .int 10, .ref aWa, .ref aCu, .ref aRa, .int 0, .ref aCo, .ref aFi]))]) [0] rfl
  have hKc := hK.sub (tys' := []) [] rfl
  have hFc := ro_free hS hA
  refine va_calli (va_runV (As := [.int p0]) (rest := []) ⟨hx, hb, hml, hown, hts⟩ (k_X9_isCrew l dC dI s.heap.size h0 p0 aRo aCr aBa aSe aTa aRu aTl aWa aCu aRa aCo aFi) (cwV 1 hts gX9_sits_X9_isCrew rfl rfl rfl (by decide +kernel) ⟨(Nat.le_of_ble_eq_true rfl), (Nat.le_of_ble_eq_true rfl)⟩) ⟨fun a U g mk q => by obtain ⟨q0, q1, qP, qK⟩ := q; exact ⟨q0, q1, qP, va_K.moved (u := U) (U := U.calling g mk a) (Vm.Alike.refl U.vm) qK⟩, va_recv hKc hPc (ci := 9) (q0 := 0) rfl rfl, fun U hU hW => ⟨rfl, by rw [hU], by rw [hU]; exact hPc, va_K.moved hW.alike hKc⟩⟩ rfl rfl hl.1 rfl (lv_room (Nat.le_of_ble_eq_true rfl)) dX9_sits_2 ⟨(Nat.le_of_ble_eq_true rfl), (Nat.le_of_ble_eq_true rfl)⟩) hS (fun q _ h => hFc q h) hFc (fun r u t H1 locs ht hvm hw hB hz1 hk1 hS => ?_)
  refine W.widen (k := 0) (n := 0) (Nat.le_of_ble_eq_true rfl) (Nat.le_of_ble_eq_true rfl) ?_
  have hP := P_ro hP hk1
  generalize H1 = H at hP hS ⊢
  subst hw
  refine lv_if_eq (tgt := 48) hx hb dX9_sits_5 (by decide) (fun _ => ?_) (fun c9 => absurd c9 (by decide +kernel))
  refine lv_iconst (v := (-1)) hx hb dX9_sits_48 (by decide +kernel) ?_
  refine W.widen (k := 0) (n := 0) (Nat.le_of_ble_eq_true rfl) (Nat.le_of_ble_eq_true rfl) ?_
  exact W.iret (v := (-1)) hx hb hr (fun t ht hW => ⟨⟨(-1), (), rfl, (by first | rfl | (exfalso; omega)), trivial⟩, hS.F ht⟩) hS.2.2 dX9_sits_49

set_option maxHeartbeats 4000000 in
set_option maxRecDepth 100000 in
theorem k_X9_trim (l : Launch) (dC : Nat → ClassId) (dI : Nat → Nat → Nat) (sz : Nat) (h0 : Nat) (p0 : Int32) (p1 : Int32) (aRo : Nat) (aCr : Nat) (aBa : Nat) (aSe : Nat) (aTa : Nat) (aRu : Nat) (aTl : Nat) (aWa : Nat) (aCu : Nat) (aRa : Nat) (aCo : Nat) (aFi : Nat) : Met l yX9_trim wsX9_trim ({ frames := 2, cells := 0, slots := 0, locals := 43 }) (va_Pc [.ref h0, .int p0, .int p1] (fun U => U.heap.size = sz ∧ va_P (dC, dI) vwCl [(h0, .inr (9, [.ref aRo, .ref aCr, .int 0, .ref aBa, .ref aSe, .ref aTa, .ref aRu, .int 0, .ref aTl, .int 10, .ref aWa, .ref aCu, .ref aRa, .int 0, .ref aCo, .ref aFi]))] U.heap ∧ va_K (dC, dI) vwCl [] U)) (va_Qi (fun (r : Int32) (_ : Unit) => r = (-1)) (fun _ _ => True) (va_A ([] : va_W) sz)) 0 0 (va_A ([] : va_W) sz) := by
  refine Met.ofW (cc := cX9_trim) (maxL := 3) (ret := (some .int)) (by decide) rfl ?_
  intro p e s m args below meth c s₁ B hml hv
  obtain ⟨rfl, hsz, hP, hK⟩ := hv
  have hx := B.exec
  have hb := B.bytes
  have hr := B.returns
  have hts := atoms_spec (ws := wsX9_trim) B.pre
  have hown : s.vm.findClass RX9 = some m.cls := findClass_of_methodNamed B.named
  have hlocks := B.notSynchronized
  subst hsz
  generalize hAe : va_A ([] : va_W) s.heap.size = A
  have hA : ∀ q : Nat, s.heap.size ≤ q → A q := fun q h => by rw [← hAe]; exact Or.inr h
  have hS : va_S A s.heap s.heap [] := va_S.rf
  have hl := lv_entry ([.ref h0, .int p0, .int p1]) (n := 3) (Nat.le_of_ble_eq_true rfl)
  rw [lg_entry_eq]
  generalize (lg_sl ([.ref h0, .int p0, .int p1]) ++ List.replicate (3 - (lg_sl ([.ref h0, .int p0, .int p1])).length) Slot.unset).toArray = ls at hl ⊢
  have hl : lv_has ls 3 [(0, .ref h0), (1, .int p0), (2, .int p1)] := hl
  refine lv_aload_n hx hb dX9_trim_0 rfl (lv_at hl 0 rfl) ?_
  refine lv_iload_n hx hb dX9_trim_1 rfl (lv_at hl 1 rfl) ?_
  have hPc := hP.sub (ws' := [(h0, .inr (9, [.ref aRo, .ref aCr, .int 0, .ref aBa, .ref aSe, .ref aTa, .ref aRu, .int 0, .ref aTl, .int 10, .ref aWa, .ref aCu, .ref aRa, .int 0, .ref aCo, .ref aFi]))]) [0] rfl
  have hKc := hK.sub (tys' := []) [] rfl
  have hFc := ro_free hS hA
  refine va_calli (va_runV (As := [.int p0]) (rest := []) ⟨hx, hb, hml, hown, hts⟩ (k_X9_isCrew l dC dI s.heap.size h0 p0 aRo aCr aBa aSe aTa aRu aTl aWa aCu aRa aCo aFi) (cwV 1 hts gX9_trim_X9_isCrew rfl rfl rfl (by decide +kernel) ⟨(Nat.le_of_ble_eq_true rfl), (Nat.le_of_ble_eq_true rfl)⟩) ⟨fun a U g mk q => by obtain ⟨q0, q1, qP, qK⟩ := q; exact ⟨q0, q1, qP, va_K.moved (u := U) (U := U.calling g mk a) (Vm.Alike.refl U.vm) qK⟩, va_recv hKc hPc (ci := 9) (q0 := 0) rfl rfl, fun U hU hW => ⟨rfl, by rw [hU], by rw [hU]; exact hPc, va_K.moved hW.alike hKc⟩⟩ rfl rfl hl.1 rfl (lv_room (Nat.le_of_ble_eq_true rfl)) dX9_trim_2 ⟨(Nat.le_of_ble_eq_true rfl), (Nat.le_of_ble_eq_true rfl)⟩) hS (fun q _ h => hFc q h) hFc (fun r u t H1 locs ht hvm hw hB hz1 hk1 hS => ?_)
  refine W.widen (k := 0) (n := 0) (Nat.le_of_ble_eq_true rfl) (Nat.le_of_ble_eq_true rfl) ?_
  have hP := P_ro hP hk1
  generalize H1 = H at hP hS ⊢
  subst hw
  refine lv_if_eq (tgt := 17) hx hb dX9_trim_5 (by decide) (fun _ => ?_) (fun c9 => absurd c9 (by decide +kernel))
  refine lv_iconst (v := (-1)) hx hb dX9_trim_17 (by decide +kernel) ?_
  refine W.widen (k := 0) (n := 0) (Nat.le_of_ble_eq_true rfl) (Nat.le_of_ble_eq_true rfl) ?_
  exact W.iret (v := (-1)) hx hb hr (fun t ht hW => ⟨⟨(-1), (), rfl, (by first | rfl | (exfalso; omega)), trivial⟩, hS.F ht⟩) hS.2.2 dX9_trim_18

set_option maxHeartbeats 4000000 in
set_option maxRecDepth 100000 in
theorem k_X9_change (l : Launch) (dC : Nat → ClassId) (dI : Nat → Nat → Nat) (sz : Nat) (h0 : Nat) (p0 : Int32) (p1 : Int32) (p2 : Int32) (aRo : Nat) (aCr : Nat) (aBa : Nat) (aSe : Nat) (aTa : Nat) (aRu : Nat) (aTl : Nat) (aWa : Nat) (aCu : Nat) (aRa : Nat) (aCo : Nat) (aFi : Nat) : Met l yX9_change wsX9_change ({ frames := 2, cells := 0, slots := 0, locals := 43 }) (va_Pc [.ref h0, .int p0, .int p1, .int p2] (fun U => U.heap.size = sz ∧ va_P (dC, dI) vwCl [(h0, .inr (9, [.ref aRo, .ref aCr, .int 0, .ref aBa, .ref aSe, .ref aTa, .ref aRu, .int 0, .ref aTl, .int 10, .ref aWa, .ref aCu, .ref aRa, .int 0, .ref aCo, .ref aFi]))] U.heap ∧ va_K (dC, dI) vwCl [] U)) (va_Qi (fun (r : Int32) (_ : Unit) => r = (-100000)) (fun _ _ => True) (va_A ([] : va_W) sz)) 0 0 (va_A ([] : va_W) sz) := by
  refine Met.ofW (cc := cX9_change) (maxL := 6) (ret := (some .int)) (by decide) rfl ?_
  intro p e s m args below meth c s₁ B hml hv
  obtain ⟨rfl, hsz, hP, hK⟩ := hv
  have hx := B.exec
  have hb := B.bytes
  have hr := B.returns
  have hts := atoms_spec (ws := wsX9_change) B.pre
  have hown : s.vm.findClass RX9 = some m.cls := findClass_of_methodNamed B.named
  have hlocks := B.notSynchronized
  subst hsz
  generalize hAe : va_A ([] : va_W) s.heap.size = A
  have hA : ∀ q : Nat, s.heap.size ≤ q → A q := fun q h => by rw [← hAe]; exact Or.inr h
  have hS : va_S A s.heap s.heap [] := va_S.rf
  have hl := lv_entry ([.ref h0, .int p0, .int p1, .int p2]) (n := 6) (Nat.le_of_ble_eq_true rfl)
  rw [lg_entry_eq]
  generalize (lg_sl ([.ref h0, .int p0, .int p1, .int p2]) ++ List.replicate (6 - (lg_sl ([.ref h0, .int p0, .int p1, .int p2])).length) Slot.unset).toArray = ls at hl ⊢
  have hl : lv_has ls 6 [(0, .ref h0), (1, .int p0), (2, .int p1), (3, .int p2)] := hl
  refine lv_aload_n hx hb dX9_change_0 rfl (lv_at hl 0 rfl) ?_
  refine lv_iload_n hx hb dX9_change_1 rfl (lv_at hl 1 rfl) ?_
  have hPc := hP.sub (ws' := [(h0, .inr (9, [.ref aRo, .ref aCr, .int 0, .ref aBa, .ref aSe, .ref aTa, .ref aRu, .int 0, .ref aTl, .int 10, .ref aWa, .ref aCu, .ref aRa, .int 0, .ref aCo, .ref aFi]))]) [0] rfl
  have hKc := hK.sub (tys' := []) [] rfl
  have hFc := ro_free hS hA
  refine va_calli (va_runV (As := [.int p0]) (rest := []) ⟨hx, hb, hml, hown, hts⟩ (k_X9_isCrew l dC dI s.heap.size h0 p0 aRo aCr aBa aSe aTa aRu aTl aWa aCu aRa aCo aFi) (cwV 1 hts gX9_change_X9_isCrew rfl rfl rfl (by decide +kernel) ⟨(Nat.le_of_ble_eq_true rfl), (Nat.le_of_ble_eq_true rfl)⟩) ⟨fun a U g mk q => by obtain ⟨q0, q1, qP, qK⟩ := q; exact ⟨q0, q1, qP, va_K.moved (u := U) (U := U.calling g mk a) (Vm.Alike.refl U.vm) qK⟩, va_recv hKc hPc (ci := 9) (q0 := 0) rfl rfl, fun U hU hW => ⟨rfl, by rw [hU], by rw [hU]; exact hPc, va_K.moved hW.alike hKc⟩⟩ rfl rfl hl.1 rfl (lv_room (Nat.le_of_ble_eq_true rfl)) dX9_change_2 ⟨(Nat.le_of_ble_eq_true rfl), (Nat.le_of_ble_eq_true rfl)⟩) hS (fun q _ h => hFc q h) hFc (fun r u t H1 locs ht hvm hw hB hz1 hk1 hS => ?_)
  refine W.widen (k := 0) (n := 0) (Nat.le_of_ble_eq_true rfl) (Nat.le_of_ble_eq_true rfl) ?_
  have hP := P_ro hP hk1
  generalize H1 = H at hP hS ⊢
  subst hw
  refine lv_if_ne (tgt := 11) hx hb dX9_change_5 (by decide) (fun c9 => absurd c9 (by decide +kernel)) (fun _ => ?_)
  refine lv_ldc (v := (-100000)) hx hb hown (hts (.constant RX9 142 (-100000)) (List.mem_of_getElem? (i := 1) rfl)) dX9_change_8 ?_
  refine W.widen (k := 0) (n := 0) (Nat.le_of_ble_eq_true rfl) (Nat.le_of_ble_eq_true rfl) ?_
  exact W.iret (v := (-100000)) hx hb hr (fun t ht hW => ⟨⟨(-100000), (), rfl, (by first | rfl | (exfalso; omega)), trivial⟩, hS.F ht⟩) hS.2.2 dX9_change_10

set_option maxHeartbeats 4000000 in
set_option maxRecDepth 100000 in
theorem k_X9_keeps (l : Launch) (dC : Nat → ClassId) (dI : Nat → Nat → Nat) (sz : Nat) (h0 : Nat) (p0 : Int32) (p1 : Int32) (aRo : Nat) (aCr : Nat) (aBa : Nat) (aSe : Nat) (aTa : Nat) (aRu : Nat) (aTl : Nat) (aWa : Nat) (aCu : Nat) (aRa : Nat) (aCo : Nat) (aFi : Nat) : Met l yX9_keeps wsX9_keeps ({ frames := 2, cells := 0, slots := 0, locals := 43 }) (va_Pc [.ref h0, .int p0, .int p1] (fun U => U.heap.size = sz ∧ va_P (dC, dI) vwCl [(h0, .inr (9, [.ref aRo, .ref aCr, .int 0, .ref aBa, .ref aSe, .ref aTa, .ref aRu, .int 0, .ref aTl, .int 10, .ref aWa, .ref aCu, .ref aRa, .int 0, .ref aCo, .ref aFi]))] U.heap ∧ va_K (dC, dI) vwCl [] U)) (va_Qi (fun (r : Int32) (_ : Unit) => r = (-1)) (fun _ _ => True) (va_A ([] : va_W) sz)) 0 0 (va_A ([] : va_W) sz) := by
  refine Met.ofW (cc := cX9_keeps) (maxL := 3) (ret := (some .int)) (by decide) rfl ?_
  intro p e s m args below meth c s₁ B hml hv
  obtain ⟨rfl, hsz, hP, hK⟩ := hv
  have hx := B.exec
  have hb := B.bytes
  have hr := B.returns
  have hts := atoms_spec (ws := wsX9_keeps) B.pre
  have hown : s.vm.findClass RX9 = some m.cls := findClass_of_methodNamed B.named
  have hlocks := B.notSynchronized
  subst hsz
  generalize hAe : va_A ([] : va_W) s.heap.size = A
  have hA : ∀ q : Nat, s.heap.size ≤ q → A q := fun q h => by rw [← hAe]; exact Or.inr h
  have hS : va_S A s.heap s.heap [] := va_S.rf
  have hl := lv_entry ([.ref h0, .int p0, .int p1]) (n := 3) (Nat.le_of_ble_eq_true rfl)
  rw [lg_entry_eq]
  generalize (lg_sl ([.ref h0, .int p0, .int p1]) ++ List.replicate (3 - (lg_sl ([.ref h0, .int p0, .int p1])).length) Slot.unset).toArray = ls at hl ⊢
  have hl : lv_has ls 3 [(0, .ref h0), (1, .int p0), (2, .int p1)] := hl
  refine lv_aload_n hx hb dX9_keeps_0 rfl (lv_at hl 0 rfl) ?_
  refine lv_iload_n hx hb dX9_keeps_1 rfl (lv_at hl 1 rfl) ?_
  have hPc := hP.sub (ws' := [(h0, .inr (9, [.ref aRo, .ref aCr, .int 0, .ref aBa, .ref aSe, .ref aTa, .ref aRu, .int 0, .ref aTl, .int 10, .ref aWa, .ref aCu, .ref aRa, .int 0, .ref aCo, .ref aFi]))]) [0] rfl
  have hKc := hK.sub (tys' := []) [] rfl
  have hFc := ro_free hS hA
  refine va_calli (va_runV (As := [.int p0]) (rest := []) ⟨hx, hb, hml, hown, hts⟩ (k_X9_isCrew l dC dI s.heap.size h0 p0 aRo aCr aBa aSe aTa aRu aTl aWa aCu aRa aCo aFi) (cwV 1 hts gX9_keeps_X9_isCrew rfl rfl rfl (by decide +kernel) ⟨(Nat.le_of_ble_eq_true rfl), (Nat.le_of_ble_eq_true rfl)⟩) ⟨fun a U g mk q => by obtain ⟨q0, q1, qP, qK⟩ := q; exact ⟨q0, q1, qP, va_K.moved (u := U) (U := U.calling g mk a) (Vm.Alike.refl U.vm) qK⟩, va_recv hKc hPc (ci := 9) (q0 := 0) rfl rfl, fun U hU hW => ⟨rfl, by rw [hU], by rw [hU]; exact hPc, va_K.moved hW.alike hKc⟩⟩ rfl rfl hl.1 rfl (lv_room (Nat.le_of_ble_eq_true rfl)) dX9_keeps_2 ⟨(Nat.le_of_ble_eq_true rfl), (Nat.le_of_ble_eq_true rfl)⟩) hS (fun q _ h => hFc q h) hFc (fun r u t H1 locs ht hvm hw hB hz1 hk1 hS => ?_)
  refine W.widen (k := 0) (n := 0) (Nat.le_of_ble_eq_true rfl) (Nat.le_of_ble_eq_true rfl) ?_
  have hP := P_ro hP hk1
  generalize H1 = H at hP hS ⊢
  subst hw
  refine lv_if_eq (tgt := 22) hx hb dX9_keeps_5 (by decide) (fun _ => ?_) (fun c9 => absurd c9 (by decide +kernel))
  refine lv_iconst (v := (-1)) hx hb dX9_keeps_22 (by decide +kernel) ?_
  refine W.widen (k := 0) (n := 0) (Nat.le_of_ble_eq_true rfl) (Nat.le_of_ble_eq_true rfl) ?_
  exact W.iret (v := (-1)) hx hb hr (fun t ht hW => ⟨⟨(-1), (), rfl, (by first | rfl | (exfalso; omega)), trivial⟩, hS.F ht⟩) hS.2.2 dX9_keeps_23

set_option maxHeartbeats 4000000 in
set_option maxRecDepth 100000 in
theorem k_X9_lane (l : Launch) (dC : Nat → ClassId) (dI : Nat → Nat → Nat) (sz : Nat) (h0 : Nat) (p0 : Int32) (p1 : Int32) (aRo : Nat) (aCr : Nat) (aBa : Nat) (aSe : Nat) (aTa : Nat) (aRu : Nat) (aTl : Nat) (aWa : Nat) (aCu : Nat) (aRa : Nat) (aCo : Nat) (aFi : Nat) : Met l yX9_lane wsX9_lane ({ frames := 2, cells := 0, slots := 0, locals := 43 }) (va_Pc [.ref h0, .int p0, .int p1] (fun U => U.heap.size = sz ∧ va_P (dC, dI) vwCl [(h0, .inr (9, [.ref aRo, .ref aCr, .int 0, .ref aBa, .ref aSe, .ref aTa, .ref aRu, .int 0, .ref aTl, .int 10, .ref aWa, .ref aCu, .ref aRa, .int 0, .ref aCo, .ref aFi]))] U.heap ∧ va_K (dC, dI) vwCl [] U)) (va_Qi (fun (r : Int32) (_ : Unit) => r = (-1)) (fun _ _ => True) (va_A ([] : va_W) sz)) 0 0 (va_A ([] : va_W) sz) := by
  refine Met.ofW (cc := cX9_lane) (maxL := 3) (ret := (some .int)) (by decide) rfl ?_
  intro p e s m args below meth c s₁ B hml hv
  obtain ⟨rfl, hsz, hP, hK⟩ := hv
  have hx := B.exec
  have hb := B.bytes
  have hr := B.returns
  have hts := atoms_spec (ws := wsX9_lane) B.pre
  have hown : s.vm.findClass RX9 = some m.cls := findClass_of_methodNamed B.named
  have hlocks := B.notSynchronized
  subst hsz
  generalize hAe : va_A ([] : va_W) s.heap.size = A
  have hA : ∀ q : Nat, s.heap.size ≤ q → A q := fun q h => by rw [← hAe]; exact Or.inr h
  have hS : va_S A s.heap s.heap [] := va_S.rf
  have hl := lv_entry ([.ref h0, .int p0, .int p1]) (n := 3) (Nat.le_of_ble_eq_true rfl)
  rw [lg_entry_eq]
  generalize (lg_sl ([.ref h0, .int p0, .int p1]) ++ List.replicate (3 - (lg_sl ([.ref h0, .int p0, .int p1])).length) Slot.unset).toArray = ls at hl ⊢
  have hl : lv_has ls 3 [(0, .ref h0), (1, .int p0), (2, .int p1)] := hl
  refine lv_aload_n hx hb dX9_lane_0 rfl (lv_at hl 0 rfl) ?_
  refine lv_iload_n hx hb dX9_lane_1 rfl (lv_at hl 1 rfl) ?_
  have hPc := hP.sub (ws' := [(h0, .inr (9, [.ref aRo, .ref aCr, .int 0, .ref aBa, .ref aSe, .ref aTa, .ref aRu, .int 0, .ref aTl, .int 10, .ref aWa, .ref aCu, .ref aRa, .int 0, .ref aCo, .ref aFi]))]) [0] rfl
  have hKc := hK.sub (tys' := []) [] rfl
  have hFc := ro_free hS hA
  refine va_calli (va_runV (As := [.int p0]) (rest := []) ⟨hx, hb, hml, hown, hts⟩ (k_X9_isCrew l dC dI s.heap.size h0 p0 aRo aCr aBa aSe aTa aRu aTl aWa aCu aRa aCo aFi) (cwV 1 hts gX9_lane_X9_isCrew rfl rfl rfl (by decide +kernel) ⟨(Nat.le_of_ble_eq_true rfl), (Nat.le_of_ble_eq_true rfl)⟩) ⟨fun a U g mk q => by obtain ⟨q0, q1, qP, qK⟩ := q; exact ⟨q0, q1, qP, va_K.moved (u := U) (U := U.calling g mk a) (Vm.Alike.refl U.vm) qK⟩, va_recv hKc hPc (ci := 9) (q0 := 0) rfl rfl, fun U hU hW => ⟨rfl, by rw [hU], by rw [hU]; exact hPc, va_K.moved hW.alike hKc⟩⟩ rfl rfl hl.1 rfl (lv_room (Nat.le_of_ble_eq_true rfl)) dX9_lane_2 ⟨(Nat.le_of_ble_eq_true rfl), (Nat.le_of_ble_eq_true rfl)⟩) hS (fun q _ h => hFc q h) hFc (fun r u t H1 locs ht hvm hw hB hz1 hk1 hS => ?_)
  refine W.widen (k := 0) (n := 0) (Nat.le_of_ble_eq_true rfl) (Nat.le_of_ble_eq_true rfl) ?_
  have hP := P_ro hP hk1
  generalize H1 = H at hP hS ⊢
  subst hw
  refine lv_if_eq (tgt := 15) hx hb dX9_lane_5 (by decide) (fun _ => ?_) (fun c9 => absurd c9 (by decide +kernel))
  refine lv_iconst (v := (-1)) hx hb dX9_lane_15 (by decide +kernel) ?_
  refine W.widen (k := 0) (n := 0) (Nat.le_of_ble_eq_true rfl) (Nat.le_of_ble_eq_true rfl) ?_
  exact W.iret (v := (-1)) hx hb hr (fun t ht hW => ⟨⟨(-1), (), rfl, (by first | rfl | (exfalso; omega)), trivial⟩, hS.F ht⟩) hS.2.2 dX9_lane_16

set_option maxHeartbeats 4000000 in
set_option maxRecDepth 100000 in
theorem k_X9_run (l : Launch) (dC : Nat → ClassId) (dI : Nat → Nat → Nat) (sz : Nat) (h0 : Nat) (p0 : Int32) (p1 : Int32) (aRo : Nat) (aCr : Nat) (aBa : Nat) (aSe : Nat) (aTa : Nat) (aRu : Nat) (aTl : Nat) (aWa : Nat) (aCu : Nat) (aRa : Nat) (aCo : Nat) (aFi : Nat) : Met l yX9_run wsX9_run ({ frames := 2, cells := 0, slots := 0, locals := 43 }) (va_Pc [.ref h0, .int p0, .int p1] (fun U => U.heap.size = sz ∧ va_P (dC, dI) vwCl [(h0, .inr (9, [.ref aRo, .ref aCr, .int 0, .ref aBa, .ref aSe, .ref aTa, .ref aRu, .int 0, .ref aTl, .int 10, .ref aWa, .ref aCu, .ref aRa, .int 0, .ref aCo, .ref aFi]))] U.heap ∧ va_K (dC, dI) vwCl [] U)) (va_Qi (fun (r : Int32) (_ : Unit) => r = (-1)) (fun _ _ => True) (va_A ([] : va_W) sz)) 0 0 (va_A ([] : va_W) sz) := by
  refine Met.ofW (cc := cX9_run) (maxL := 5) (ret := (some .int)) (by decide) rfl ?_
  intro p e s m args below meth c s₁ B hml hv
  obtain ⟨rfl, hsz, hP, hK⟩ := hv
  have hx := B.exec
  have hb := B.bytes
  have hr := B.returns
  have hts := atoms_spec (ws := wsX9_run) B.pre
  have hown : s.vm.findClass RX9 = some m.cls := findClass_of_methodNamed B.named
  have hlocks := B.notSynchronized
  subst hsz
  generalize hAe : va_A ([] : va_W) s.heap.size = A
  have hA : ∀ q : Nat, s.heap.size ≤ q → A q := fun q h => by rw [← hAe]; exact Or.inr h
  have hS : va_S A s.heap s.heap [] := va_S.rf
  have hl := lv_entry ([.ref h0, .int p0, .int p1]) (n := 5) (Nat.le_of_ble_eq_true rfl)
  rw [lg_entry_eq]
  generalize (lg_sl ([.ref h0, .int p0, .int p1]) ++ List.replicate (5 - (lg_sl ([.ref h0, .int p0, .int p1])).length) Slot.unset).toArray = ls at hl ⊢
  have hl : lv_has ls 5 [(0, .ref h0), (1, .int p0), (2, .int p1)] := hl
  refine lv_aload_n hx hb dX9_run_0 rfl (lv_at hl 0 rfl) ?_
  refine lv_iload_n hx hb dX9_run_1 rfl (lv_at hl 1 rfl) ?_
  have hPc := hP.sub (ws' := [(h0, .inr (9, [.ref aRo, .ref aCr, .int 0, .ref aBa, .ref aSe, .ref aTa, .ref aRu, .int 0, .ref aTl, .int 10, .ref aWa, .ref aCu, .ref aRa, .int 0, .ref aCo, .ref aFi]))]) [0] rfl
  have hKc := hK.sub (tys' := []) [] rfl
  have hFc := ro_free hS hA
  refine va_calli (va_runV (As := [.int p0]) (rest := []) ⟨hx, hb, hml, hown, hts⟩ (k_X9_isRace l dC dI s.heap.size h0 p0 aRo aCr aBa aSe aTa aRu aTl aWa aCu aRa aCo aFi) (cwV 1 hts gX9_run_X9_isRace rfl rfl rfl (by decide +kernel) ⟨(Nat.le_of_ble_eq_true rfl), (Nat.le_of_ble_eq_true rfl)⟩) ⟨fun a U g mk q => by obtain ⟨q0, q1, qP, qK⟩ := q; exact ⟨q0, q1, qP, va_K.moved (u := U) (U := U.calling g mk a) (Vm.Alike.refl U.vm) qK⟩, va_recv hKc hPc (ci := 9) (q0 := 0) rfl rfl, fun U hU hW => ⟨rfl, by rw [hU], by rw [hU]; exact hPc, va_K.moved hW.alike hKc⟩⟩ rfl rfl hl.1 rfl (lv_room (Nat.le_of_ble_eq_true rfl)) dX9_run_2 ⟨(Nat.le_of_ble_eq_true rfl), (Nat.le_of_ble_eq_true rfl)⟩) hS (fun q _ h => hFc q h) hFc (fun r u t H1 locs ht hvm hw hB hz1 hk1 hS => ?_)
  refine W.widen (k := 0) (n := 0) (Nat.le_of_ble_eq_true rfl) (Nat.le_of_ble_eq_true rfl) ?_
  have hP := P_ro hP hk1
  generalize H1 = H at hP hS ⊢
  subst hw
  refine lv_if_ne (tgt := 10) hx hb dX9_run_5 (by decide) (fun c9 => absurd c9 (by decide +kernel)) (fun _ => ?_)
  refine lv_iconst (v := (-1)) hx hb dX9_run_8 (by decide +kernel) ?_
  refine W.widen (k := 0) (n := 0) (Nat.le_of_ble_eq_true rfl) (Nat.le_of_ble_eq_true rfl) ?_
  exact W.iret (v := (-1)) hx hb hr (fun t ht hW => ⟨⟨(-1), (), rfl, (by first | rfl | (exfalso; omega)), trivial⟩, hS.F ht⟩) hS.2.2 dX9_run_9

set_option maxHeartbeats 4000000 in
set_option maxRecDepth 100000 in
theorem k_X9_time (l : Launch) (dC : Nat → ClassId) (dI : Nat → Nat → Nat) (sz : Nat) (h0 : Nat) (p0 : Int32) (p1 : Int32) (p2 : Int32) (aRo : Nat) (aCr : Nat) (aBa : Nat) (aSe : Nat) (aTa : Nat) (aRu : Nat) (aTl : Nat) (aWa : Nat) (aCu : Nat) (aRa : Nat) (aCo : Nat) (aFi : Nat) : Met l yX9_time wsX9_time ({ frames := 2, cells := 0, slots := 0, locals := 43 }) (va_Pc [.ref h0, .int p0, .int p1, .int p2] (fun U => U.heap.size = sz ∧ va_P (dC, dI) vwCl [(h0, .inr (9, [.ref aRo, .ref aCr, .int 0, .ref aBa, .ref aSe, .ref aTa, .ref aRu, .int 0, .ref aTl, .int 10, .ref aWa, .ref aCu, .ref aRa, .int 0, .ref aCo, .ref aFi]))] U.heap ∧ va_K (dC, dI) vwCl [] U)) (va_Qi (fun (r : Int32) (_ : Unit) => r = (-1)) (fun _ _ => True) (va_A ([] : va_W) sz)) 0 0 (va_A ([] : va_W) sz) := by
  refine Met.ofW (cc := cX9_time) (maxL := 6) (ret := (some .int)) (by decide) rfl ?_
  intro p e s m args below meth c s₁ B hml hv
  obtain ⟨rfl, hsz, hP, hK⟩ := hv
  have hx := B.exec
  have hb := B.bytes
  have hr := B.returns
  have hts := atoms_spec (ws := wsX9_time) B.pre
  have hown : s.vm.findClass RX9 = some m.cls := findClass_of_methodNamed B.named
  have hlocks := B.notSynchronized
  subst hsz
  generalize hAe : va_A ([] : va_W) s.heap.size = A
  have hA : ∀ q : Nat, s.heap.size ≤ q → A q := fun q h => by rw [← hAe]; exact Or.inr h
  have hS : va_S A s.heap s.heap [] := va_S.rf
  have hl := lv_entry ([.ref h0, .int p0, .int p1, .int p2]) (n := 6) (Nat.le_of_ble_eq_true rfl)
  rw [lg_entry_eq]
  generalize (lg_sl ([.ref h0, .int p0, .int p1, .int p2]) ++ List.replicate (6 - (lg_sl ([.ref h0, .int p0, .int p1, .int p2])).length) Slot.unset).toArray = ls at hl ⊢
  have hl : lv_has ls 6 [(0, .ref h0), (1, .int p0), (2, .int p1), (3, .int p2)] := hl
  refine lv_aload_n hx hb dX9_time_0 rfl (lv_at hl 0 rfl) ?_
  refine lv_iload_n hx hb dX9_time_1 rfl (lv_at hl 1 rfl) ?_
  have hPc := hP.sub (ws' := [(h0, .inr (9, [.ref aRo, .ref aCr, .int 0, .ref aBa, .ref aSe, .ref aTa, .ref aRu, .int 0, .ref aTl, .int 10, .ref aWa, .ref aCu, .ref aRa, .int 0, .ref aCo, .ref aFi]))]) [0] rfl
  have hKc := hK.sub (tys' := []) [] rfl
  have hFc := ro_free hS hA
  refine va_calli (va_runV (As := [.int p0]) (rest := []) ⟨hx, hb, hml, hown, hts⟩ (k_X9_isRace l dC dI s.heap.size h0 p0 aRo aCr aBa aSe aTa aRu aTl aWa aCu aRa aCo aFi) (cwV 1 hts gX9_time_X9_isRace rfl rfl rfl (by decide +kernel) ⟨(Nat.le_of_ble_eq_true rfl), (Nat.le_of_ble_eq_true rfl)⟩) ⟨fun a U g mk q => by obtain ⟨q0, q1, qP, qK⟩ := q; exact ⟨q0, q1, qP, va_K.moved (u := U) (U := U.calling g mk a) (Vm.Alike.refl U.vm) qK⟩, va_recv hKc hPc (ci := 9) (q0 := 0) rfl rfl, fun U hU hW => ⟨rfl, by rw [hU], by rw [hU]; exact hPc, va_K.moved hW.alike hKc⟩⟩ rfl rfl hl.1 rfl (lv_room (Nat.le_of_ble_eq_true rfl)) dX9_time_2 ⟨(Nat.le_of_ble_eq_true rfl), (Nat.le_of_ble_eq_true rfl)⟩) hS (fun q _ h => hFc q h) hFc (fun r u t H1 locs ht hvm hw hB hz1 hk1 hS => ?_)
  refine W.widen (k := 0) (n := 0) (Nat.le_of_ble_eq_true rfl) (Nat.le_of_ble_eq_true rfl) ?_
  have hP := P_ro hP hk1
  generalize H1 = H at hP hS ⊢
  subst hw
  refine lv_if_eq (tgt := 30) hx hb dX9_time_5 (by decide) (fun _ => ?_) (fun c9 => absurd c9 (by decide +kernel))
  refine lv_iconst (v := (-1)) hx hb dX9_time_30 (by decide +kernel) ?_
  refine W.widen (k := 0) (n := 0) (Nat.le_of_ble_eq_true rfl) (Nat.le_of_ble_eq_true rfl) ?_
  exact W.iret (v := (-1)) hx hb hr (fun t ht hW => ⟨⟨(-1), (), rfl, (by first | rfl | (exfalso; omega)), trivial⟩, hS.F ht⟩) hS.2.2 dX9_time_31

set_option maxHeartbeats 4000000 in
set_option maxRecDepth 100000 in
theorem k_X9_told (l : Launch) (dC : Nat → ClassId) (dI : Nat → Nat → Nat) (sz : Nat) (h0 : Nat) (p0 : Int32) (p1 : Int32) (p2 : Int32) (aRo : Nat) (aCr : Nat) (aBa : Nat) (aSe : Nat) (aTa : Nat) (aRu : Nat) (aTl : Nat) (aWa : Nat) (aCu : Nat) (aRa : Nat) (aCo : Nat) (aFi : Nat) : Met l yX9_told wsX9_told ({ frames := 2, cells := 0, slots := 0, locals := 43 }) (va_Pc [.ref h0, .int p0, .int p1, .int p2] (fun U => U.heap.size = sz ∧ va_P (dC, dI) vwCl [(h0, .inr (9, [.ref aRo, .ref aCr, .int 0, .ref aBa, .ref aSe, .ref aTa, .ref aRu, .int 0, .ref aTl, .int 10, .ref aWa, .ref aCu, .ref aRa, .int 0, .ref aCo, .ref aFi]))] U.heap ∧ va_K (dC, dI) vwCl [] U)) (va_Qi (fun (r : Int32) (_ : Unit) => r = (-1)) (fun _ _ => True) (va_A ([] : va_W) sz)) 0 0 (va_A ([] : va_W) sz) := by
  refine Met.ofW (cc := cX9_told) (maxL := 4) (ret := (some .int)) (by decide) rfl ?_
  intro p e s m args below meth c s₁ B hml hv
  obtain ⟨rfl, hsz, hP, hK⟩ := hv
  have hx := B.exec
  have hb := B.bytes
  have hr := B.returns
  have hts := atoms_spec (ws := wsX9_told) B.pre
  have hown : s.vm.findClass RX9 = some m.cls := findClass_of_methodNamed B.named
  have hlocks := B.notSynchronized
  subst hsz
  generalize hAe : va_A ([] : va_W) s.heap.size = A
  have hA : ∀ q : Nat, s.heap.size ≤ q → A q := fun q h => by rw [← hAe]; exact Or.inr h
  have hS : va_S A s.heap s.heap [] := va_S.rf
  have hl := lv_entry ([.ref h0, .int p0, .int p1, .int p2]) (n := 4) (Nat.le_of_ble_eq_true rfl)
  rw [lg_entry_eq]
  generalize (lg_sl ([.ref h0, .int p0, .int p1, .int p2]) ++ List.replicate (4 - (lg_sl ([.ref h0, .int p0, .int p1, .int p2])).length) Slot.unset).toArray = ls at hl ⊢
  have hl : lv_has ls 4 [(0, .ref h0), (1, .int p0), (2, .int p1), (3, .int p2)] := hl
  refine lv_aload_n hx hb dX9_told_0 rfl (lv_at hl 0 rfl) ?_
  refine lv_iload_n hx hb dX9_told_1 rfl (lv_at hl 1 rfl) ?_
  have hPc := hP.sub (ws' := [(h0, .inr (9, [.ref aRo, .ref aCr, .int 0, .ref aBa, .ref aSe, .ref aTa, .ref aRu, .int 0, .ref aTl, .int 10, .ref aWa, .ref aCu, .ref aRa, .int 0, .ref aCo, .ref aFi]))]) [0] rfl
  have hKc := hK.sub (tys' := []) [] rfl
  have hFc := ro_free hS hA
  refine va_calli (va_runV (As := [.int p0]) (rest := []) ⟨hx, hb, hml, hown, hts⟩ (k_X9_isRace l dC dI s.heap.size h0 p0 aRo aCr aBa aSe aTa aRu aTl aWa aCu aRa aCo aFi) (cwV 1 hts gX9_told_X9_isRace rfl rfl rfl (by decide +kernel) ⟨(Nat.le_of_ble_eq_true rfl), (Nat.le_of_ble_eq_true rfl)⟩) ⟨fun a U g mk q => by obtain ⟨q0, q1, qP, qK⟩ := q; exact ⟨q0, q1, qP, va_K.moved (u := U) (U := U.calling g mk a) (Vm.Alike.refl U.vm) qK⟩, va_recv hKc hPc (ci := 9) (q0 := 0) rfl rfl, fun U hU hW => ⟨rfl, by rw [hU], by rw [hU]; exact hPc, va_K.moved hW.alike hKc⟩⟩ rfl rfl hl.1 rfl (lv_room (Nat.le_of_ble_eq_true rfl)) dX9_told_2 ⟨(Nat.le_of_ble_eq_true rfl), (Nat.le_of_ble_eq_true rfl)⟩) hS (fun q _ h => hFc q h) hFc (fun r u t H1 locs ht hvm hw hB hz1 hk1 hS => ?_)
  refine W.widen (k := 0) (n := 0) (Nat.le_of_ble_eq_true rfl) (Nat.le_of_ble_eq_true rfl) ?_
  have hP := P_ro hP hk1
  generalize H1 = H at hP hS ⊢
  subst hw
  refine lv_if_eq (tgt := 30) hx hb dX9_told_5 (by decide) (fun _ => ?_) (fun c9 => absurd c9 (by decide +kernel))
  refine lv_iconst (v := (-1)) hx hb dX9_told_30 (by decide +kernel) ?_
  refine W.widen (k := 0) (n := 0) (Nat.le_of_ble_eq_true rfl) (Nat.le_of_ble_eq_true rfl) ?_
  exact W.iret (v := (-1)) hx hb hr (fun t ht hW => ⟨⟨(-1), (), rfl, (by first | rfl | (exfalso; omega)), trivial⟩, hS.F ht⟩) hS.2.2 dX9_told_31

set_option maxHeartbeats 4000000 in
set_option maxRecDepth 100000 in
theorem k_X9_again (l : Launch) (dC : Nat → ClassId) (dI : Nat → Nat → Nat) (sz : Nat) (h0 : Nat) (p0 : Int32) (aRo : Nat) (aCr : Nat) (aBa : Nat) (aSe : Nat) (aTa : Nat) (aRu : Nat) (aTl : Nat) (aWa : Nat) (aCu : Nat) (aRa : Nat) (aCo : Nat) (aFi : Nat) : Met l yX9_again wsX9_again ({ frames := 2, cells := 0, slots := 0, locals := 43 }) (va_Pc [.ref h0, .int p0] (fun U => U.heap.size = sz ∧ va_P (dC, dI) vwCl [(h0, .inr (9, [.ref aRo, .ref aCr, .int 0, .ref aBa, .ref aSe, .ref aTa, .ref aRu, .int 0, .ref aTl, .int 10, .ref aWa, .ref aCu, .ref aRa, .int 0, .ref aCo, .ref aFi]))] U.heap ∧ va_K (dC, dI) vwCl [] U)) (va_Qi (fun (r : Int32) (_ : Unit) => r = (-1)) (fun _ _ => True) (va_A ([] : va_W) sz)) 0 0 (va_A ([] : va_W) sz) := by
  refine Met.ofW (cc := cX9_again) (maxL := 3) (ret := (some .int)) (by decide) rfl ?_
  intro p e s m args below meth c s₁ B hml hv
  obtain ⟨rfl, hsz, hP, hK⟩ := hv
  have hx := B.exec
  have hb := B.bytes
  have hr := B.returns
  have hts := atoms_spec (ws := wsX9_again) B.pre
  have hown : s.vm.findClass RX9 = some m.cls := findClass_of_methodNamed B.named
  have hlocks := B.notSynchronized
  subst hsz
  generalize hAe : va_A ([] : va_W) s.heap.size = A
  have hA : ∀ q : Nat, s.heap.size ≤ q → A q := fun q h => by rw [← hAe]; exact Or.inr h
  have hS : va_S A s.heap s.heap [] := va_S.rf
  have hl := lv_entry ([.ref h0, .int p0]) (n := 3) (Nat.le_of_ble_eq_true rfl)
  rw [lg_entry_eq]
  generalize (lg_sl ([.ref h0, .int p0]) ++ List.replicate (3 - (lg_sl ([.ref h0, .int p0])).length) Slot.unset).toArray = ls at hl ⊢
  have hl : lv_has ls 3 [(0, .ref h0), (1, .int p0)] := hl
  refine lv_aload_n hx hb dX9_again_0 rfl (lv_at hl 0 rfl) ?_
  refine lv_iload_n hx hb dX9_again_1 rfl (lv_at hl 1 rfl) ?_
  have hPc := hP.sub (ws' := [(h0, .inr (9, [.ref aRo, .ref aCr, .int 0, .ref aBa, .ref aSe, .ref aTa, .ref aRu, .int 0, .ref aTl, .int 10, .ref aWa, .ref aCu, .ref aRa, .int 0, .ref aCo, .ref aFi]))]) [0] rfl
  have hKc := hK.sub (tys' := []) [] rfl
  have hFc := ro_free hS hA
  refine va_calli (va_runV (As := [.int p0]) (rest := []) ⟨hx, hb, hml, hown, hts⟩ (k_X9_isRace l dC dI s.heap.size h0 p0 aRo aCr aBa aSe aTa aRu aTl aWa aCu aRa aCo aFi) (cwV 1 hts gX9_again_X9_isRace rfl rfl rfl (by decide +kernel) ⟨(Nat.le_of_ble_eq_true rfl), (Nat.le_of_ble_eq_true rfl)⟩) ⟨fun a U g mk q => by obtain ⟨q0, q1, qP, qK⟩ := q; exact ⟨q0, q1, qP, va_K.moved (u := U) (U := U.calling g mk a) (Vm.Alike.refl U.vm) qK⟩, va_recv hKc hPc (ci := 9) (q0 := 0) rfl rfl, fun U hU hW => ⟨rfl, by rw [hU], by rw [hU]; exact hPc, va_K.moved hW.alike hKc⟩⟩ rfl rfl hl.1 rfl (lv_room (Nat.le_of_ble_eq_true rfl)) dX9_again_2 ⟨(Nat.le_of_ble_eq_true rfl), (Nat.le_of_ble_eq_true rfl)⟩) hS (fun q _ h => hFc q h) hFc (fun r u t H1 locs ht hvm hw hB hz1 hk1 hS => ?_)
  refine W.widen (k := 0) (n := 0) (Nat.le_of_ble_eq_true rfl) (Nat.le_of_ble_eq_true rfl) ?_
  have hP := P_ro hP hk1
  generalize H1 = H at hP hS ⊢
  subst hw
  refine lv_if_ne (tgt := 10) hx hb dX9_again_5 (by decide) (fun c9 => absurd c9 (by decide +kernel)) (fun _ => ?_)
  refine lv_iconst (v := (-1)) hx hb dX9_again_8 (by decide +kernel) ?_
  refine W.widen (k := 0) (n := 0) (Nat.le_of_ble_eq_true rfl) (Nat.le_of_ble_eq_true rfl) ?_
  exact W.iret (v := (-1)) hx hb hr (fun t ht hW => ⟨⟨(-1), (), rfl, (by first | rfl | (exfalso; omega)), trivial⟩, hS.F ht⟩) hS.2.2 dX9_again_9

set_option maxHeartbeats 4000000 in
set_option maxRecDepth 100000 in
theorem k_X9_strike (l : Launch) (dC : Nat → ClassId) (dI : Nat → Nat → Nat) (sz : Nat) (h0 : Nat) (p0 : Int32) (p1 : Int32) (aRo : Nat) (aCr : Nat) (aBa : Nat) (aSe : Nat) (aTa : Nat) (aRu : Nat) (aTl : Nat) (aWa : Nat) (aCu : Nat) (aRa : Nat) (aCo : Nat) (aFi : Nat) : Met l yX9_strike wsX9_strike ({ frames := 2, cells := 0, slots := 0, locals := 43 }) (va_Pc [.ref h0, .int p0, .int p1] (fun U => U.heap.size = sz ∧ va_P (dC, dI) vwCl [(h0, .inr (9, [.ref aRo, .ref aCr, .int 0, .ref aBa, .ref aSe, .ref aTa, .ref aRu, .int 0, .ref aTl, .int 10, .ref aWa, .ref aCu, .ref aRa, .int 0, .ref aCo, .ref aFi]))] U.heap ∧ va_K (dC, dI) vwCl [] U)) (va_Qi (fun (r : Int32) (_ : Unit) => r = (-1)) (fun _ _ => True) (va_A ([] : va_W) sz)) 0 0 (va_A ([] : va_W) sz) := by
  refine Met.ofW (cc := cX9_strike) (maxL := 6) (ret := (some .int)) (by decide) rfl ?_
  intro p e s m args below meth c s₁ B hml hv
  obtain ⟨rfl, hsz, hP, hK⟩ := hv
  have hx := B.exec
  have hb := B.bytes
  have hr := B.returns
  have hts := atoms_spec (ws := wsX9_strike) B.pre
  have hown : s.vm.findClass RX9 = some m.cls := findClass_of_methodNamed B.named
  have hlocks := B.notSynchronized
  subst hsz
  generalize hAe : va_A ([] : va_W) s.heap.size = A
  have hA : ∀ q : Nat, s.heap.size ≤ q → A q := fun q h => by rw [← hAe]; exact Or.inr h
  have hS : va_S A s.heap s.heap [] := va_S.rf
  have hl := lv_entry ([.ref h0, .int p0, .int p1]) (n := 6) (Nat.le_of_ble_eq_true rfl)
  rw [lg_entry_eq]
  generalize (lg_sl ([.ref h0, .int p0, .int p1]) ++ List.replicate (6 - (lg_sl ([.ref h0, .int p0, .int p1])).length) Slot.unset).toArray = ls at hl ⊢
  have hl : lv_has ls 6 [(0, .ref h0), (1, .int p0), (2, .int p1)] := hl
  refine lv_aload_n hx hb dX9_strike_0 rfl (lv_at hl 0 rfl) ?_
  refine lv_iload_n hx hb dX9_strike_1 rfl (lv_at hl 1 rfl) ?_
  have hPc := hP.sub (ws' := [(h0, .inr (9, [.ref aRo, .ref aCr, .int 0, .ref aBa, .ref aSe, .ref aTa, .ref aRu, .int 0, .ref aTl, .int 10, .ref aWa, .ref aCu, .ref aRa, .int 0, .ref aCo, .ref aFi]))]) [0] rfl
  have hKc := hK.sub (tys' := []) [] rfl
  have hFc := ro_free hS hA
  refine va_calli (va_runV (As := [.int p0]) (rest := []) ⟨hx, hb, hml, hown, hts⟩ (k_X9_isRace l dC dI s.heap.size h0 p0 aRo aCr aBa aSe aTa aRu aTl aWa aCu aRa aCo aFi) (cwV 1 hts gX9_strike_X9_isRace rfl rfl rfl (by decide +kernel) ⟨(Nat.le_of_ble_eq_true rfl), (Nat.le_of_ble_eq_true rfl)⟩) ⟨fun a U g mk q => by obtain ⟨q0, q1, qP, qK⟩ := q; exact ⟨q0, q1, qP, va_K.moved (u := U) (U := U.calling g mk a) (Vm.Alike.refl U.vm) qK⟩, va_recv hKc hPc (ci := 9) (q0 := 0) rfl rfl, fun U hU hW => ⟨rfl, by rw [hU], by rw [hU]; exact hPc, va_K.moved hW.alike hKc⟩⟩ rfl rfl hl.1 rfl (lv_room (Nat.le_of_ble_eq_true rfl)) dX9_strike_2 ⟨(Nat.le_of_ble_eq_true rfl), (Nat.le_of_ble_eq_true rfl)⟩) hS (fun q _ h => hFc q h) hFc (fun r u t H1 locs ht hvm hw hB hz1 hk1 hS => ?_)
  refine W.widen (k := 0) (n := 0) (Nat.le_of_ble_eq_true rfl) (Nat.le_of_ble_eq_true rfl) ?_
  have hP := P_ro hP hk1
  generalize H1 = H at hP hS ⊢
  subst hw
  refine lv_if_eq (tgt := 16) hx hb dX9_strike_5 (by decide) (fun _ => ?_) (fun c9 => absurd c9 (by decide +kernel))
  refine lv_iconst (v := (-1)) hx hb dX9_strike_16 (by decide +kernel) ?_
  refine W.widen (k := 0) (n := 0) (Nat.le_of_ble_eq_true rfl) (Nat.le_of_ble_eq_true rfl) ?_
  exact W.iret (v := (-1)) hx hb hr (fun t ht hW => ⟨⟨(-1), (), rfl, (by first | rfl | (exfalso; omega)), trivial⟩, hS.F ht⟩) hS.2.2 dX9_strike_17

set_option maxHeartbeats 4000000 in
set_option maxRecDepth 100000 in
theorem k_X9_points (l : Launch) (dC : Nat → ClassId) (dI : Nat → Nat → Nat) (sz : Nat) (h0 : Nat) (p0 : Int32) (aRo : Nat) (aCr : Nat) (aBa : Nat) (aSe : Nat) (aTa : Nat) (aRu : Nat) (aTl : Nat) (aWa : Nat) (aCu : Nat) (aRa : Nat) (aCo : Nat) (aFi : Nat) : Met l yX9_points wsX9_points ({ frames := 2, cells := 0, slots := 0, locals := 43 }) (va_Pc [.ref h0, .int p0] (fun U => U.heap.size = sz ∧ va_P (dC, dI) vwCl [(h0, .inr (9, [.ref aRo, .ref aCr, .int 0, .ref aBa, .ref aSe, .ref aTa, .ref aRu, .int 0, .ref aTl, .int 10, .ref aWa, .ref aCu, .ref aRa, .int 0, .ref aCo, .ref aFi]))] U.heap ∧ va_K (dC, dI) vwCl [] U)) (va_Qi (fun (r : Int32) (_ : Unit) => r = (-1)) (fun _ _ => True) (va_A ([] : va_W) sz)) 0 0 (va_A ([] : va_W) sz) := by
  refine Met.ofW (cc := cX9_points) (maxL := 2) (ret := (some .int)) (by decide) rfl ?_
  intro p e s m args below meth c s₁ B hml hv
  obtain ⟨rfl, hsz, hP, hK⟩ := hv
  have hx := B.exec
  have hb := B.bytes
  have hr := B.returns
  have hts := atoms_spec (ws := wsX9_points) B.pre
  have hown : s.vm.findClass RX9 = some m.cls := findClass_of_methodNamed B.named
  have hlocks := B.notSynchronized
  subst hsz
  generalize hAe : va_A ([] : va_W) s.heap.size = A
  have hA : ∀ q : Nat, s.heap.size ≤ q → A q := fun q h => by rw [← hAe]; exact Or.inr h
  have hS : va_S A s.heap s.heap [] := va_S.rf
  have hl := lv_entry ([.ref h0, .int p0]) (n := 2) (Nat.le_of_ble_eq_true rfl)
  rw [lg_entry_eq]
  generalize (lg_sl ([.ref h0, .int p0]) ++ List.replicate (2 - (lg_sl ([.ref h0, .int p0])).length) Slot.unset).toArray = ls at hl ⊢
  have hl : lv_has ls 2 [(0, .ref h0), (1, .int p0)] := hl
  refine lv_aload_n hx hb dX9_points_0 rfl (lv_at hl 0 rfl) ?_
  refine lv_iload_n hx hb dX9_points_1 rfl (lv_at hl 1 rfl) ?_
  have hPc := hP.sub (ws' := [(h0, .inr (9, [.ref aRo, .ref aCr, .int 0, .ref aBa, .ref aSe, .ref aTa, .ref aRu, .int 0, .ref aTl, .int 10, .ref aWa, .ref aCu, .ref aRa, .int 0, .ref aCo, .ref aFi]))]) [0] rfl
  have hKc := hK.sub (tys' := []) [] rfl
  have hFc := ro_free hS hA
  refine va_calli (va_runV (As := [.int p0]) (rest := []) ⟨hx, hb, hml, hown, hts⟩ (k_X9_isCrew l dC dI s.heap.size h0 p0 aRo aCr aBa aSe aTa aRu aTl aWa aCu aRa aCo aFi) (cwV 1 hts gX9_points_X9_isCrew rfl rfl rfl (by decide +kernel) ⟨(Nat.le_of_ble_eq_true rfl), (Nat.le_of_ble_eq_true rfl)⟩) ⟨fun a U g mk q => by obtain ⟨q0, q1, qP, qK⟩ := q; exact ⟨q0, q1, qP, va_K.moved (u := U) (U := U.calling g mk a) (Vm.Alike.refl U.vm) qK⟩, va_recv hKc hPc (ci := 9) (q0 := 0) rfl rfl, fun U hU hW => ⟨rfl, by rw [hU], by rw [hU]; exact hPc, va_K.moved hW.alike hKc⟩⟩ rfl rfl hl.1 rfl (lv_room (Nat.le_of_ble_eq_true rfl)) dX9_points_2 ⟨(Nat.le_of_ble_eq_true rfl), (Nat.le_of_ble_eq_true rfl)⟩) hS (fun q _ h => hFc q h) hFc (fun r u t H1 locs ht hvm hw hB hz1 hk1 hS => ?_)
  refine W.widen (k := 0) (n := 0) (Nat.le_of_ble_eq_true rfl) (Nat.le_of_ble_eq_true rfl) ?_
  have hP := P_ro hP hk1
  generalize H1 = H at hP hS ⊢
  subst hw
  refine lv_if_eq (tgt := 16) hx hb dX9_points_5 (by decide) (fun _ => ?_) (fun c9 => absurd c9 (by decide +kernel))
  refine lv_iconst (v := (-1)) hx hb dX9_points_16 (by decide +kernel) ?_
  refine W.widen (k := 0) (n := 0) (Nat.le_of_ble_eq_true rfl) (Nat.le_of_ble_eq_true rfl) ?_
  exact W.iret (v := (-1)) hx hb hr (fun t ht hW => ⟨⟨(-1), (), rfl, (by first | rfl | (exfalso; omega)), trivial⟩, hS.F ht⟩) hS.2.2 dX9_points_17

set_option maxHeartbeats 4000000 in
set_option maxRecDepth 100000 in
theorem k_X9_table (l : Launch) (dC : Nat → ClassId) (dI : Nat → Nat → Nat) (sz : Nat) (h0 : Nat) (p0 : Int32) (aRo : Nat) (aCr : Nat) (aBa : Nat) (aSe : Nat) (aTa : Nat) (aRu : Nat) (aTl : Nat) (aWa : Nat) (aCu : Nat) (aRa : Nat) (aCo : Nat) (aFi : Nat) : Met l yX9_table wsX9_table ({ frames := 0, cells := 0, slots := 0, locals := 0 }) (va_Pc [.ref h0, .int p0] (fun U => U.heap.size = sz ∧ va_P (dC, dI) vwCl [(h0, .inr (9, [.ref aRo, .ref aCr, .int 0, .ref aBa, .ref aSe, .ref aTa, .ref aRu, .int 0, .ref aTl, .int 10, .ref aWa, .ref aCu, .ref aRa, .int 0, .ref aCo, .ref aFi]))] U.heap ∧ va_K (dC, dI) vwCl [] U)) (va_Qi (fun (r : Int32) (_ : Unit) => r = (-1)) (fun _ _ => True) (va_A ([] : va_W) sz)) 0 0 (va_A ([] : va_W) sz) := by
  refine Met.ofW (cc := cX9_table) (maxL := 3) (ret := (some .int)) (by decide) rfl ?_
  intro p e s m args below meth c s₁ B hml hv
  obtain ⟨rfl, hsz, hP, hK⟩ := hv
  have hx := B.exec
  have hb := B.bytes
  have hr := B.returns
  have hts := atoms_spec (ws := wsX9_table) B.pre
  have hown : s.vm.findClass RX9 = some m.cls := findClass_of_methodNamed B.named
  have hlocks := B.notSynchronized
  subst hsz
  generalize hAe : va_A ([] : va_W) s.heap.size = A
  have hA : ∀ q : Nat, s.heap.size ≤ q → A q := fun q h => by rw [← hAe]; exact Or.inr h
  have hS : va_S A s.heap s.heap [] := va_S.rf
  have hl := lv_entry ([.ref h0, .int p0]) (n := 3) (Nat.le_of_ble_eq_true rfl)
  rw [lg_entry_eq]
  generalize (lg_sl ([.ref h0, .int p0]) ++ List.replicate (3 - (lg_sl ([.ref h0, .int p0])).length) Slot.unset).toArray = ls at hl ⊢
  have hl : lv_has ls 3 [(0, .ref h0), (1, .int p0)] := hl
  refine lv_iconst (v := 0) hx hb dX9_table_0 (by decide +kernel) ?_
  refine lv_istore_n (lv' := [(2, .int 0), (0, .ref h0), (1, .int p0)]) hx hb dX9_table_1 rfl hl (by decide) rfl (fun ls hl => ?_)
  refine lv_iload_n hx hb dX9_table_2 rfl (lv_at hl 0 rfl) ?_
  refine lv_aload_n hx hb dX9_table_3 rfl (lv_at hl 1 rfl) ?_
  refine va_get (D := (dC, dI)) (ci := 9) (v := .int 0) (C := RX9) (T := TX9) (N := 16) hx hb hts (fun _ h => List.mem_cons_of_mem _ (List.mem_append_left _ (List.mem_append_right _ h))) hown hK hP 0 rfl rfl 2 (by decide) (hts (.fieldLink RX9 24 "DrumBoats" "crewCount" "I") (List.mem_of_getElem? (i := 1) rfl)) (fun _ h9 => h9) rfl dX9_table_4 ?_
  refine lv_icmp_ge (tgt := 27) hx hb dX9_table_7 (by decide) (fun _ => ?_) (fun c9 => absurd c9 (by decide +kernel))
  refine lv_iconst (v := (-1)) hx hb dX9_table_27 (by decide +kernel) ?_
  refine W.widen (k := 0) (n := 0) (Nat.le_of_ble_eq_true rfl) (Nat.le_of_ble_eq_true rfl) ?_
  exact W.iret (v := (-1)) hx hb hr (fun t ht hW => ⟨⟨(-1), (), rfl, (by first | rfl | (exfalso; omega)), trivial⟩, hS.F ht⟩) hS.2.2 dX9_table_28

set_option maxHeartbeats 4000000 in
set_option maxRecDepth 100000 in
theorem k_X9_slack (l : Launch) (dC : Nat → ClassId) (dI : Nat → Nat → Nat) (sz : Nat) (h0 : Nat) (aRo : Nat) (aCr : Nat) (aBa : Nat) (aSe : Nat) (aTa : Nat) (aRu : Nat) (aTl : Nat) (aWa : Nat) (aCu : Nat) (aRa : Nat) (aCo : Nat) (aFi : Nat) : Met l yX9_slack wsX9_slack ({ frames := 0, cells := 0, slots := 0, locals := 0 }) (va_Pc [.ref h0] (fun U => U.heap.size = sz ∧ va_P (dC, dI) vwCl [(h0, .inr (9, [.ref aRo, .ref aCr, .int 0, .ref aBa, .ref aSe, .ref aTa, .ref aRu, .int 0, .ref aTl, .int 10, .ref aWa, .ref aCu, .ref aRa, .int 0, .ref aCo, .ref aFi]))] U.heap ∧ va_K (dC, dI) vwCl [] U)) (va_Qi (fun (r : Int32) (_ : Unit) => r = (-1)) (fun _ _ => True) (va_A ([] : va_W) sz)) 0 0 (va_A ([] : va_W) sz) := by
  refine Met.ofW (cc := cX9_slack) (maxL := 5) (ret := (some .int)) (by decide) rfl ?_
  intro p e s m args below meth c s₁ B hml hv
  obtain ⟨rfl, hsz, hP, hK⟩ := hv
  have hx := B.exec
  have hb := B.bytes
  have hr := B.returns
  have hts := atoms_spec (ws := wsX9_slack) B.pre
  have hown : s.vm.findClass RX9 = some m.cls := findClass_of_methodNamed B.named
  have hlocks := B.notSynchronized
  subst hsz
  generalize hAe : va_A ([] : va_W) s.heap.size = A
  have hA : ∀ q : Nat, s.heap.size ≤ q → A q := fun q h => by rw [← hAe]; exact Or.inr h
  have hS : va_S A s.heap s.heap [] := va_S.rf
  have hl := lv_entry ([.ref h0]) (n := 5) (Nat.le_of_ble_eq_true rfl)
  rw [lg_entry_eq]
  generalize (lg_sl ([.ref h0]) ++ List.replicate (5 - (lg_sl ([.ref h0])).length) Slot.unset).toArray = ls at hl ⊢
  have hl : lv_has ls 5 [(0, .ref h0)] := hl
  refine lv_iconst (v := (-1)) hx hb dX9_slack_0 (by decide +kernel) ?_
  refine lv_istore_n (lv' := [(1, .int (-1)), (0, .ref h0)]) hx hb dX9_slack_1 rfl hl (by decide) rfl (fun ls hl => ?_)
  refine lv_iconst (v := 0) hx hb dX9_slack_2 (by decide +kernel) ?_
  refine lv_istore_n (lv' := [(2, .int 0), (1, .int (-1)), (0, .ref h0)]) hx hb dX9_slack_3 rfl hl (by decide) rfl (fun ls hl => ?_)
  refine lv_iload_n hx hb dX9_slack_4 rfl (lv_at hl 0 rfl) ?_
  refine lv_aload_n hx hb dX9_slack_5 rfl (lv_at hl 2 rfl) ?_
  refine va_get (D := (dC, dI)) (ci := 9) (v := .int 0) (C := RX9) (T := TX9) (N := 16) hx hb hts (fun _ h => List.mem_cons_of_mem _ (List.mem_append_left _ (List.mem_append_left _ (List.mem_append_right _ h)))) hown hK hP 0 rfl rfl 13 (by decide) (hts (.fieldLink RX9 77 "DrumBoats" "raceCount" "I") (List.mem_of_getElem? (i := 1) rfl)) (fun _ h9 => h9) rfl dX9_slack_6 ?_
  refine lv_icmp_ge (tgt := 81) hx hb dX9_slack_9 (by decide) (fun _ => ?_) (fun c9 => absurd c9 (by decide +kernel))
  refine lv_iload_n hx hb dX9_slack_81 rfl (lv_at hl 1 rfl) ?_
  refine W.widen (k := 0) (n := 0) (Nat.le_of_ble_eq_true rfl) (Nat.le_of_ble_eq_true rfl) ?_
  exact W.iret (v := (-1)) hx hb hr (fun t ht hW => ⟨⟨(-1), (), rfl, (by first | rfl | (exfalso; omega)), trivial⟩, hS.F ht⟩) hS.2.2 dX9_slack_82

set_option maxHeartbeats 4000000 in
set_option maxRecDepth 100000 in
theorem k_X9_rest (l : Launch) (dC : Nat → ClassId) (dI : Nat → Nat → Nat) (sz : Nat) (h0 : Nat) (p0 : Int32) (aRo : Nat) (aCr : Nat) (aBa : Nat) (aSe : Nat) (aTa : Nat) (aRu : Nat) (aTl : Nat) (aWa : Nat) (aCu : Nat) (aRa : Nat) (aCo : Nat) (aFi : Nat) : Met l yX9_rest wsX9_rest ({ frames := 1, cells := 0, slots := 0, locals := 22 }) (va_Pc [.ref h0, .int p0] (fun U => U.heap.size = sz ∧ va_P (dC, dI) vwCl [(h0, .inr (9, [.ref aRo, .ref aCr, .int 0, .ref aBa, .ref aSe, .ref aTa, .ref aRu, .int 0, .ref aTl, .int 10, .ref aWa, .ref aCu, .ref aRa, .int 0, .ref aCo, .ref aFi]))] U.heap ∧ va_K (dC, dI) vwCl [] U ∧ va_D (fun _ => True) [(h0, .inr (9, [.ref aRo, .ref aCr, .int 0, .ref aBa, .ref aSe, .ref aTa, .ref aRu, .int 0, .ref aTl, .int 10, .ref aWa, .ref aCu, .ref aRa, .int 0, .ref aCo, .ref aFi]))])) (va_Qi (fun (r : Int32) (_ : Unit) => r = f_rest p0) (fun _ _ => True) (va_A [(h0, .inr (9, [.ref aRo, .ref aCr, .int 0, .ref aBa, .ref aSe, .ref aTa, .ref aRu, .int 0, .ref aTl, .int 10, .ref aWa, .ref aCu, .ref aRa, .int 0, .ref aCo, .ref aFi]))] sz)) 0 0 (va_A [(h0, .inr (9, [.ref aRo, .ref aCr, .int 0, .ref aBa, .ref aSe, .ref aTa, .ref aRu, .int 0, .ref aTl, .int 10, .ref aWa, .ref aCu, .ref aRa, .int 0, .ref aCo, .ref aFi]))] sz) := by
  refine Met.ofW (cc := cX9_rest) (maxL := 3) (ret := (some .int)) (by decide) rfl ?_
  intro p e s m args below meth c s₁ B hml hv
  obtain ⟨rfl, hsz, hP, hK, hD0⟩ := hv
  have hx := B.exec
  have hb := B.bytes
  have hr := B.returns
  have hts := atoms_spec (ws := wsX9_rest) B.pre
  have hown : s.vm.findClass RX9 = some m.cls := findClass_of_methodNamed B.named
  have hlocks := B.notSynchronized
  subst hsz
  have hD := hD0.self (sz := s.heap.size)
  generalize hAe : va_A [(h0, .inr (9, [.ref aRo, .ref aCr, .int 0, .ref aBa, .ref aSe, .ref aTa, .ref aRu, .int 0, .ref aTl, .int 10, .ref aWa, .ref aCu, .ref aRa, .int 0, .ref aCo, .ref aFi]))] s.heap.size = A at hD ⊢
  have hA : ∀ q : Nat, s.heap.size ≤ q → A q := fun q h => by rw [← hAe]; exact Or.inr h
  have hS : va_S A s.heap s.heap [] := va_S.rf
  have hl := lv_entry ([.ref h0, .int p0]) (n := 3) (Nat.le_of_ble_eq_true rfl)
  rw [lg_entry_eq]
  generalize (lg_sl ([.ref h0, .int p0]) ++ List.replicate (3 - (lg_sl ([.ref h0, .int p0])).length) Slot.unset).toArray = ls at hl ⊢
  have hl : lv_has ls 3 [(0, .ref h0), (1, .int p0)] := hl
  refine lv_iload_n hx hb dX9_rest_0 rfl (lv_at hl 1 rfl) ?_
  refine lv_iconst (v := 0) hx hb dX9_rest_1 (by decide +kernel) ?_
  refine lv_bipush (v := 99) hx hb dX9_rest_2 (by decide +kernel) ?_
  have hPc := hP.sub (ws' := ([] : va_W)) [] rfl
  have hKc := hK.sub (tys' := []) [] rfl
  have hFc := ro_free hS hA
  refine va_calli (va_runS (As := [.int p0, .int 0, .int 99]) (rest := []) ⟨hx, hb, hml, hown, hts⟩ (k_X9_within l dC dI s.heap.size p0 0 99) (va_cwS 3 hts gX9_rest_X9_within rfl rfl rfl (by decide +kernel) ⟨(Nat.le_of_ble_eq_true rfl), (Nat.le_of_ble_eq_true rfl)⟩) ⟨fun a U g mk q => by obtain ⟨q0, q1, qP, qK⟩ := q; exact ⟨q0, q1, qP, va_K.moved (u := U) (U := U.calling g mk a) (Vm.Alike.refl U.vm) qK⟩, fun U hU hW => ⟨rfl, by rw [hU], by rw [hU]; exact hPc, va_K.moved hW.alike hKc⟩⟩ rfl rfl hl.1 rfl (lv_room (Nat.le_of_ble_eq_true rfl)) dX9_rest_4 ⟨(Nat.le_of_ble_eq_true rfl), (Nat.le_of_ble_eq_true rfl)⟩) hS (fun q _ h => hFc q h) hFc (fun r u t H1 locs ht hvm hw hB hz1 hk1 hS => ?_)
  refine W.widen (k := 0) (n := 0) (Nat.le_of_ble_eq_true rfl) (Nat.le_of_ble_eq_true rfl) ?_
  have hP := P_ro hP hk1
  generalize H1 = H at hP hS ⊢
  rcases hw with ⟨rfl, e_1⟩ | ⟨rfl, e_1⟩
  · have e_1 : (0 ≤ p0.toInt ∧ p0.toInt ≤ 99) := e_1
    refine lv_if_ne (tgt := 13) hx hb dX9_rest_7 (by decide) (fun _ => ?_) (fun c9 => absurd c9 (by decide +kernel))
    refine lv_aload_n hx hb dX9_rest_13 rfl (lv_at hl 0 rfl) ?_
    refine va_get (D := (dC, dI)) (ci := 9) (v := .int 10) (C := RX9) (T := TX9) (N := 16) hx hb hts (fun _ h => List.mem_cons_of_mem _ (List.mem_append_right _ h)) hown hK hP 0 rfl rfl 9 (by decide) (hts (.fieldLink RX9 62 "DrumBoats" "restMinutes" "I") (List.mem_of_getElem? (i := 1) rfl)) (fun _ h9 => h9) rfl dX9_rest_14 ?_
    refine lv_istore_n (lv' := [(2, .int 10), (0, .ref h0), (1, .int p0)]) hx hb dX9_rest_17 rfl hl (by decide) rfl (fun ls hl => ?_)
    refine lv_aload_n hx hb dX9_rest_18 rfl (lv_at hl 1 rfl) ?_
    refine lv_iload_n hx hb dX9_rest_19 rfl (lv_at hl 2 rfl) ?_
    refine va_put (D := (dC, dI)) (ci := 9) (v := .int p0) (ty := .int) (C := RX9) (T := TX9) (N := 16) hx hb hts (fun _ h => List.mem_cons_of_mem _ (List.mem_append_right _ h)) tyX9 tyX9_ok nmX9 hown hK hP hD hS 0 rfl rfl 9 (by decide) (hts (.fieldLink RX9 62 "DrumBoats" "restMinutes" "I") (List.mem_of_getElem? (i := 1) rfl)) (fun _ h9 => h9) rfl (by decide +kernel) rfl rfl (Nat.le_of_ble_eq_true rfl) dX9_rest_20 (fun H locs hP hD hS => ?_)
    have hP : va_P (dC, dI) vwCl [(h0, .inr (9, [.ref aRo, .ref aCr, .int 0, .ref aBa, .ref aSe, .ref aTa, .ref aRu, .int 0, .ref aTl, .int p0, .ref aWa, .ref aCu, .ref aRa, .int 0, .ref aCo, .ref aFi]))] H := hP
    have hD : va_D A [(h0, .inr (9, [.ref aRo, .ref aCr, .int 0, .ref aBa, .ref aSe, .ref aTa, .ref aRu, .int 0, .ref aTl, .int p0, .ref aWa, .ref aCu, .ref aRa, .int 0, .ref aCo, .ref aFi]))] := hD
    refine lv_iload_n hx hb dX9_rest_23 rfl (lv_at hl 0 rfl) ?_
    refine W.widen (k := 0) (n := 0) (Nat.le_of_ble_eq_true rfl) (Nat.le_of_ble_eq_true rfl) ?_
    exact W.iret (v := 10) hx hb hr (fun t ht hW => ⟨⟨10, (), rfl, (by first | rfl | decide | (unfold f_rest; (repeat' split) <;> first | rfl | omega)), trivial⟩, hS.F ht⟩) hS.2.2 dX9_rest_24
  · have e_1 : ¬ (0 ≤ p0.toInt ∧ p0.toInt ≤ 99) := e_1
    refine lv_if_ne (tgt := 13) hx hb dX9_rest_7 (by decide) (fun c9 => absurd c9 (by decide +kernel)) (fun _ => ?_)
    refine lv_bipush (v := (-2)) hx hb dX9_rest_10 (by decide +kernel) ?_
    refine W.widen (k := 0) (n := 0) (Nat.le_of_ble_eq_true rfl) (Nat.le_of_ble_eq_true rfl) ?_
    exact W.iret (v := (-2)) hx hb hr (fun t ht hW => ⟨⟨(-2), (), rfl, (by first | rfl | decide | (unfold f_rest; (repeat' split) <;> first | rfl | omega)), trivial⟩, hS.F ht⟩) hS.2.2 dX9_rest_12

set_option maxHeartbeats 4000000 in
set_option maxRecDepth 100000 in
theorem k_X9_race (l : Launch) (dC : Nat → ClassId) (dI : Nat → Nat → Nat) (sz : Nat) (h0 : Nat) (p0 : Int32) (p1 : Int32) (aRo : Nat) (aCr : Nat) (aBa : Nat) (aSe : Nat) (aTa : Nat) (aRu : Nat) (aTl : Nat) (aWa : Nat) (aCu : Nat) (aRa : Nat) (aCo : Nat) (aFi : Nat) (caWa : ClassId) : Met l yX9_race wsX9_race ({ frames := 1, cells := 0, slots := 0, locals := 22 }) (va_Pc [.ref h0, .int p0, .int p1] (fun U => U.heap.size = sz ∧ va_P (dC, dI) vwCl [(h0, .inr (9, [.ref aRo, .ref aCr, .int 0, .ref aBa, .ref aSe, .ref aTa, .ref aRu, .int 0, .ref aTl, .int 10, .ref aWa, .ref aCu, .ref aRa, .int 0, .ref aCo, .ref aFi])), (aWa, .inl (caWa, 4, .inl (upd (upd (upd (upd (fun _ => 0) (0 : Int32).toNatClampNeg (-1)) (1 : Int32).toNatClampNeg (-1)) (2 : Int32).toNatClampNeg (-1)) (3 : Int32).toNatClampNeg (-1))))] U.heap ∧ va_K (dC, dI) vwCl [(caWa, .int)] U)) (va_Qi (fun (r : Int32) (_ : Unit) => r = f_race p0 p1) (fun _ _ => True) (va_A ([] : va_W) sz)) 0 0 (va_A ([] : va_W) sz) := by
  refine Met.ofW (cc := cX9_race) (maxL := 5) (ret := (some .int)) (by decide) rfl ?_
  intro p e s m args below meth c s₁ B hml hv
  obtain ⟨rfl, hsz, hP, hK⟩ := hv
  have hx := B.exec
  have hb := B.bytes
  have hr := B.returns
  have hts := atoms_spec (ws := wsX9_race) B.pre
  have hown : s.vm.findClass RX9 = some m.cls := findClass_of_methodNamed B.named
  have hlocks := B.notSynchronized
  subst hsz
  generalize hAe : va_A ([] : va_W) s.heap.size = A
  have hA : ∀ q : Nat, s.heap.size ≤ q → A q := fun q h => by rw [← hAe]; exact Or.inr h
  have hS : va_S A s.heap s.heap [] := va_S.rf
  have hl := lv_entry ([.ref h0, .int p0, .int p1]) (n := 5) (Nat.le_of_ble_eq_true rfl)
  rw [lg_entry_eq]
  generalize (lg_sl ([.ref h0, .int p0, .int p1]) ++ List.replicate (5 - (lg_sl ([.ref h0, .int p0, .int p1])).length) Slot.unset).toArray = ls at hl ⊢
  have hl : lv_has ls 5 [(0, .ref h0), (1, .int p0), (2, .int p1)] := hl
  refine lv_iload_n hx hb dX9_race_0 rfl (lv_at hl 1 rfl) ?_
  refine lv_iconst (v := 0) hx hb dX9_race_1 (by decide +kernel) ?_
  refine lv_sipush (v := 999) hx hb dX9_race_2 (by decide +kernel) ?_
  have hPc := hP.sub (ws' := ([] : va_W)) [] rfl
  have hKc := hK.sub (tys' := []) [] rfl
  have hFc := ro_free hS hA
  refine va_calli (va_runS (As := [.int p0, .int 0, .int 999]) (rest := []) ⟨hx, hb, hml, hown, hts⟩ (k_X9_within l dC dI s.heap.size p0 0 999) (va_cwS 3 hts gX9_race_X9_within rfl rfl rfl (by decide +kernel) ⟨(Nat.le_of_ble_eq_true rfl), (Nat.le_of_ble_eq_true rfl)⟩) ⟨fun a U g mk q => by obtain ⟨q0, q1, qP, qK⟩ := q; exact ⟨q0, q1, qP, va_K.moved (u := U) (U := U.calling g mk a) (Vm.Alike.refl U.vm) qK⟩, fun U hU hW => ⟨rfl, by rw [hU], by rw [hU]; exact hPc, va_K.moved hW.alike hKc⟩⟩ rfl rfl hl.1 rfl (lv_room (Nat.le_of_ble_eq_true rfl)) dX9_race_5 ⟨(Nat.le_of_ble_eq_true rfl), (Nat.le_of_ble_eq_true rfl)⟩) hS (fun q _ h => hFc q h) hFc (fun r u t H1 locs ht hvm hw hB hz1 hk1 hS => ?_)
  refine W.widen (k := 0) (n := 0) (Nat.le_of_ble_eq_true rfl) (Nat.le_of_ble_eq_true rfl) ?_
  have hP := P_ro hP hk1
  generalize H1 = H at hP hS ⊢
  rcases hw with ⟨rfl, e_1⟩ | ⟨rfl, e_1⟩
  · have e_1 : (0 ≤ p0.toInt ∧ p0.toInt ≤ 999) := e_1
    refine lv_if_eq (tgt := 20) hx hb dX9_race_8 (by decide) (fun c9 => absurd c9 (by decide +kernel)) (fun _ => ?_)
    refine lv_iload_n hx hb dX9_race_11 rfl (lv_at hl 2 rfl) ?_
    refine lv_iconst (v := 0) hx hb dX9_race_12 (by decide +kernel) ?_
    refine lv_iconst (v := 1) hx hb dX9_race_13 (by decide +kernel) ?_
    have hPc := hP.sub (ws' := ([] : va_W)) [] rfl
    have hKc := hK.sub (tys' := []) [] rfl
    have hFc := ro_free hS hA
    refine va_calli (va_runS (As := [.int p1, .int 0, .int 1]) (rest := []) ⟨hx, hb, hml, hown, hts⟩ (k_X9_within l dC dI H.size p1 0 1) (va_cwS 3 hts gX9_race_X9_within rfl rfl rfl (by decide +kernel) ⟨(Nat.le_of_ble_eq_true rfl), (Nat.le_of_ble_eq_true rfl)⟩) ⟨fun a U g mk q => by obtain ⟨q0, q1, qP, qK⟩ := q; exact ⟨q0, q1, qP, va_K.moved (u := U) (U := U.calling g mk a) (Vm.Alike.refl U.vm) qK⟩, fun U hU hW => ⟨rfl, by rw [hU], by rw [hU]; exact hPc, va_K.moved hW.alike hKc⟩⟩ rfl rfl hl.1 rfl (lv_room (Nat.le_of_ble_eq_true rfl)) dX9_race_14 ⟨(Nat.le_of_ble_eq_true rfl), (Nat.le_of_ble_eq_true rfl)⟩) hS (fun q _ h => hFc q h) hFc (fun r u t H1 locs ht hvm hw hB hz1 hk1 hS => ?_)
    refine W.widen (k := 0) (n := 0) (Nat.le_of_ble_eq_true rfl) (Nat.le_of_ble_eq_true rfl) ?_
    have hP := P_ro hP hk1
    generalize H1 = H at hP hS ⊢
    rcases hw with ⟨rfl, e_2⟩ | ⟨rfl, e_2⟩
    · have e_2 : (0 ≤ p1.toInt ∧ p1.toInt ≤ 1) := e_2
      refine lv_if_ne (tgt := 23) hx hb dX9_race_17 (by decide) (fun _ => ?_) (fun c9 => absurd c9 (by decide +kernel))
      refine lv_aload_n hx hb dX9_race_23 rfl (lv_at hl 0 rfl) ?_
      have hPc := hP.sub (ws' := [(h0, .inr (9, [.ref aRo, .ref aCr, .int 0, .ref aBa, .ref aSe, .ref aTa, .ref aRu, .int 0, .ref aTl, .int 10, .ref aWa, .ref aCu, .ref aRa, .int 0, .ref aCo, .ref aFi])), (aWa, .inl (caWa, 4, .inl (upd (upd (upd (upd (fun _ => 0) (0 : Int32).toNatClampNeg (-1)) (1 : Int32).toNatClampNeg (-1)) (2 : Int32).toNatClampNeg (-1)) (3 : Int32).toNatClampNeg (-1))))]) [0, 1] rfl
      have hKc := hK.sub (tys' := [(caWa, .int)]) [0] rfl
      have hFc := ro_free hS hA
      refine va_calli (va_runV (As := []) (rest := []) ⟨hx, hb, hml, hown, hts⟩ (k_X9_howManyWait l dC dI H.size h0 aRo aCr aBa aSe aTa aRu aTl aWa aCu aRa aCo aFi caWa) (cwV 0 hts gX9_race_X9_howManyWait rfl rfl rfl (by decide +kernel) ⟨(Nat.le_of_ble_eq_true rfl), (Nat.le_of_ble_eq_true rfl)⟩) ⟨fun a U g mk q => by obtain ⟨q0, q1, qP, qK⟩ := q; exact ⟨q0, q1, qP, va_K.moved (u := U) (U := U.calling g mk a) (Vm.Alike.refl U.vm) qK⟩, va_recv hKc hPc (ci := 9) (q0 := 0) rfl rfl, fun U hU hW => ⟨rfl, by rw [hU], by rw [hU]; exact hPc, va_K.moved hW.alike hKc⟩⟩ rfl rfl hl.1 rfl (lv_room (Nat.le_of_ble_eq_true rfl)) dX9_race_24 ⟨(Nat.le_of_ble_eq_true rfl), (Nat.le_of_ble_eq_true rfl)⟩) hS (fun q _ h => hFc q h) hFc (fun r u t H1 locs ht hvm hw hB hz1 hk1 hS => ?_)
      refine W.widen (k := 0) (n := 0) (Nat.le_of_ble_eq_true rfl) (Nat.le_of_ble_eq_true rfl) ?_
      have hP := P_ro hP hk1
      generalize H1 = H at hP hS ⊢
      subst hw
      refine lv_iconst (v := 2) hx hb dX9_race_27 (by decide +kernel) ?_
      refine lv_icmp_ge (tgt := 34) hx hb dX9_race_28 (by decide) (fun c9 => absurd c9 (by decide +kernel)) (fun _ => ?_)
      refine lv_bipush (v := (-3)) hx hb dX9_race_31 (by decide +kernel) ?_
      refine W.widen (k := 0) (n := 0) (Nat.le_of_ble_eq_true rfl) (Nat.le_of_ble_eq_true rfl) ?_
      exact W.iret (v := (-3)) hx hb hr (fun t ht hW => ⟨⟨(-3), (), rfl, (by first | rfl | decide | (unfold f_race; (repeat' split) <;> first | rfl | omega)), trivial⟩, hS.F ht⟩) hS.2.2 dX9_race_33
    · have e_2 : ¬ (0 ≤ p1.toInt ∧ p1.toInt ≤ 1) := e_2
      refine lv_if_ne (tgt := 23) hx hb dX9_race_17 (by decide) (fun c9 => absurd c9 (by decide +kernel)) (fun _ => ?_)
      refine lv_bipush (v := (-2)) hx hb dX9_race_20 (by decide +kernel) ?_
      refine W.widen (k := 0) (n := 0) (Nat.le_of_ble_eq_true rfl) (Nat.le_of_ble_eq_true rfl) ?_
      exact W.iret (v := (-2)) hx hb hr (fun t ht hW => ⟨⟨(-2), (), rfl, (by first | rfl | decide | (unfold f_race; (repeat' split) <;> first | rfl | omega)), trivial⟩, hS.F ht⟩) hS.2.2 dX9_race_22
  · have e_1 : ¬ (0 ≤ p0.toInt ∧ p0.toInt ≤ 999) := e_1
    refine lv_if_eq (tgt := 20) hx hb dX9_race_8 (by decide) (fun _ => ?_) (fun c9 => absurd c9 (by decide +kernel))
    refine lv_bipush (v := (-2)) hx hb dX9_race_20 (by decide +kernel) ?_
    refine W.widen (k := 0) (n := 0) (Nat.le_of_ble_eq_true rfl) (Nat.le_of_ble_eq_true rfl) ?_
    exact W.iret (v := (-2)) hx hb hr (fun t ht hW => ⟨⟨(-2), (), rfl, (by first | rfl | decide | (unfold f_race; (repeat' split) <;> first | rfl | omega)), trivial⟩, hS.F ht⟩) hS.2.2 dX9_race_22

set_option maxHeartbeats 4000000 in
set_option maxRecDepth 100000 in
theorem k_X9_current (l : Launch) (dC : Nat → ClassId) (dI : Nat → Nat → Nat) (sz : Nat) (h0 : Nat) (p0 : Int32) (p1 : Int32) (aRo : Nat) (aCr : Nat) (aBa : Nat) (aSe : Nat) (aTa : Nat) (aRu : Nat) (aTl : Nat) (aWa : Nat) (aCu : Nat) (aRa : Nat) (aCo : Nat) (aFi : Nat) (caCu : ClassId) : Met l yX9_current wsX9_current ({ frames := 2, cells := 0, slots := 0, locals := 42 }) (va_Pc [.ref h0, .int p0, .int p1] (fun U => U.heap.size = sz ∧ va_P (dC, dI) vwCl [(h0, .inr (9, [.ref aRo, .ref aCr, .int 0, .ref aBa, .ref aSe, .ref aTa, .ref aRu, .int 0, .ref aTl, .int 10, .ref aWa, .ref aCu, .ref aRa, .int 0, .ref aCo, .ref aFi])), (aCu, .inl (caCu, 4, .inl (fun _ => 0)))] U.heap ∧ va_K (dC, dI) vwCl [(caCu, .int)] U ∧ va_D (fun _ => True) [(h0, .inr (9, [.ref aRo, .ref aCr, .int 0, .ref aBa, .ref aSe, .ref aTa, .ref aRu, .int 0, .ref aTl, .int 10, .ref aWa, .ref aCu, .ref aRa, .int 0, .ref aCo, .ref aFi])), (aCu, .inl (caCu, 4, .inl (fun _ => 0)))])) (va_Qi (fun (r : Int32) (_ : Unit) => r = f_current p0 p1) (fun _ _ => True) (va_A [(h0, .inr (9, [.ref aRo, .ref aCr, .int 0, .ref aBa, .ref aSe, .ref aTa, .ref aRu, .int 0, .ref aTl, .int 10, .ref aWa, .ref aCu, .ref aRa, .int 0, .ref aCo, .ref aFi])), (aCu, .inl (caCu, 4, .inl (fun _ => 0)))] sz)) 0 0 (va_A [(h0, .inr (9, [.ref aRo, .ref aCr, .int 0, .ref aBa, .ref aSe, .ref aTa, .ref aRu, .int 0, .ref aTl, .int 10, .ref aWa, .ref aCu, .ref aRa, .int 0, .ref aCo, .ref aFi])), (aCu, .inl (caCu, 4, .inl (fun _ => 0)))] sz) := by
  refine Met.ofW (cc := cX9_current) (maxL := 4) (ret := (some .int)) (by decide) rfl ?_
  intro p e s m args below meth c s₁ B hml hv
  obtain ⟨rfl, hsz, hP, hK, hD0⟩ := hv
  have hx := B.exec
  have hb := B.bytes
  have hr := B.returns
  have hts := atoms_spec (ws := wsX9_current) B.pre
  have hown : s.vm.findClass RX9 = some m.cls := findClass_of_methodNamed B.named
  have hlocks := B.notSynchronized
  subst hsz
  have hD := hD0.self (sz := s.heap.size)
  generalize hAe : va_A [(h0, .inr (9, [.ref aRo, .ref aCr, .int 0, .ref aBa, .ref aSe, .ref aTa, .ref aRu, .int 0, .ref aTl, .int 10, .ref aWa, .ref aCu, .ref aRa, .int 0, .ref aCo, .ref aFi])), (aCu, .inl (caCu, 4, .inl (fun _ => 0)))] s.heap.size = A at hD ⊢
  have hA : ∀ q : Nat, s.heap.size ≤ q → A q := fun q h => by rw [← hAe]; exact Or.inr h
  have hS : va_S A s.heap s.heap [] := va_S.rf
  have hl := lv_entry ([.ref h0, .int p0, .int p1]) (n := 4) (Nat.le_of_ble_eq_true rfl)
  rw [lg_entry_eq]
  generalize (lg_sl ([.ref h0, .int p0, .int p1]) ++ List.replicate (4 - (lg_sl ([.ref h0, .int p0, .int p1])).length) Slot.unset).toArray = ls at hl ⊢
  have hl : lv_has ls 4 [(0, .ref h0), (1, .int p0), (2, .int p1)] := hl
  refine lv_iload_n hx hb dX9_current_0 rfl (lv_at hl 1 rfl) ?_
  have hPc := hP.sub (ws' := ([] : va_W)) [] rfl
  have hKc := hK.sub (tys' := []) [] rfl
  have hFc := ro_free hS hA
  refine va_calli (va_runS (As := [.int p0]) (rest := []) ⟨hx, hb, hml, hown, hts⟩ (k_X9_isLane l dC dI s.heap.size p0) (va_cwS 1 hts gX9_current_X9_isLane rfl rfl rfl (by decide +kernel) ⟨(Nat.le_of_ble_eq_true rfl), (Nat.le_of_ble_eq_true rfl)⟩) ⟨fun a U g mk q => by obtain ⟨q0, q1, qP, qK⟩ := q; exact ⟨q0, q1, qP, va_K.moved (u := U) (U := U.calling g mk a) (Vm.Alike.refl U.vm) qK⟩, fun U hU hW => ⟨rfl, by rw [hU], by rw [hU]; exact hPc, va_K.moved hW.alike hKc⟩⟩ rfl rfl hl.1 rfl (lv_room (Nat.le_of_ble_eq_true rfl)) dX9_current_1 ⟨(Nat.le_of_ble_eq_true rfl), (Nat.le_of_ble_eq_true rfl)⟩) hS (fun q _ h => hFc q h) hFc (fun r u t H1 locs ht hvm hw hB hz1 hk1 hS => ?_)
  refine W.widen (k := 0) (n := 0) (Nat.le_of_ble_eq_true rfl) (Nat.le_of_ble_eq_true rfl) ?_
  have hP := P_ro hP hk1
  generalize H1 = H at hP hS ⊢
  rcases hw with ⟨rfl, e_1⟩ | ⟨rfl, e_1⟩
  · have e_1 : (0 ≤ p0.toInt ∧ p0.toInt ≤ 3) := e_1
    refine lv_if_ne (tgt := 10) hx hb dX9_current_4 (by decide) (fun _ => ?_) (fun c9 => absurd c9 (by decide +kernel))
    refine lv_iload_n hx hb dX9_current_10 rfl (lv_at hl 2 rfl) ?_
    refine lv_bipush (v := (-9)) hx hb dX9_current_11 (by decide +kernel) ?_
    refine lv_bipush (v := 9) hx hb dX9_current_13 (by decide +kernel) ?_
    have hPc := hP.sub (ws' := ([] : va_W)) [] rfl
    have hKc := hK.sub (tys' := []) [] rfl
    have hFc := ro_free hS hA
    refine va_calli (va_runS (As := [.int p1, .int (-9), .int 9]) (rest := []) ⟨hx, hb, hml, hown, hts⟩ (k_X9_within l dC dI H.size p1 (-9) 9) (va_cwS 3 hts gX9_current_X9_within rfl rfl rfl (by decide +kernel) ⟨(Nat.le_of_ble_eq_true rfl), (Nat.le_of_ble_eq_true rfl)⟩) ⟨fun a U g mk q => by obtain ⟨q0, q1, qP, qK⟩ := q; exact ⟨q0, q1, qP, va_K.moved (u := U) (U := U.calling g mk a) (Vm.Alike.refl U.vm) qK⟩, fun U hU hW => ⟨rfl, by rw [hU], by rw [hU]; exact hPc, va_K.moved hW.alike hKc⟩⟩ rfl rfl hl.1 rfl (lv_room (Nat.le_of_ble_eq_true rfl)) dX9_current_15 ⟨(Nat.le_of_ble_eq_true rfl), (Nat.le_of_ble_eq_true rfl)⟩) hS (fun q _ h => hFc q h) hFc (fun r u t H1 locs ht hvm hw hB hz1 hk1 hS => ?_)
    refine W.widen (k := 0) (n := 0) (Nat.le_of_ble_eq_true rfl) (Nat.le_of_ble_eq_true rfl) ?_
    have hP := P_ro hP hk1
    generalize H1 = H at hP hS ⊢
    rcases hw with ⟨rfl, e_2⟩ | ⟨rfl, e_2⟩
    · have e_2 : ((-9) ≤ p1.toInt ∧ p1.toInt ≤ 9) := e_2
      refine lv_if_ne (tgt := 24) hx hb dX9_current_18 (by decide) (fun _ => ?_) (fun c9 => absurd c9 (by decide +kernel))
      refine lv_aload_n hx hb dX9_current_24 rfl (lv_at hl 0 rfl) ?_
      refine va_get (D := (dC, dI)) (ci := 9) (v := .ref aCu) (C := RX9) (T := TX9) (N := 16) hx hb hts (fun _ h => List.mem_cons_of_mem _ (List.mem_append_right _ h)) hown hK hP 0 rfl rfl 11 (by decide) (hts (.fieldLink RX9 68 "DrumBoats" "currents" "[I") (List.mem_of_getElem? (i := 1) rfl)) (fun _ h9 => h9) rfl dX9_current_25 ?_
      refine lv_iload_n hx hb dX9_current_28 rfl (lv_at hl 1 rfl) ?_
      refine va_iald hx hb hK hP 1 0 rfl rfl (vp_in_iff.mpr (by omega)) dX9_current_29 ?_
      refine ti_eq (y := 0) rfl ?_
      refine lv_istore_n (lv' := [(3, .int 0), (0, .ref h0), (1, .int p0), (2, .int p1)]) hx hb dX9_current_30 rfl hl (by decide) rfl (fun ls hl => ?_)
      refine lv_aload_n hx hb dX9_current_31 rfl (lv_at hl 1 rfl) ?_
      refine va_get (D := (dC, dI)) (ci := 9) (v := .ref aCu) (C := RX9) (T := TX9) (N := 16) hx hb hts (fun _ h => List.mem_cons_of_mem _ (List.mem_append_right _ h)) hown hK hP 0 rfl rfl 11 (by decide) (hts (.fieldLink RX9 68 "DrumBoats" "currents" "[I") (List.mem_of_getElem? (i := 1) rfl)) (fun _ h9 => h9) rfl dX9_current_32 ?_
      refine lv_iload_n hx hb dX9_current_35 rfl (lv_at hl 2 rfl) ?_
      refine lv_iload_n hx hb dX9_current_36 rfl (lv_at hl 3 rfl) ?_
      refine va_iast hx hb hK hP hD hS 1 0 rfl rfl (vp_in_iff.mpr (by omega)) dX9_current_37 (fun H locs hP hD hS => ?_)
      have hP : va_P (dC, dI) vwCl [(h0, .inr (9, [.ref aRo, .ref aCr, .int 0, .ref aBa, .ref aSe, .ref aTa, .ref aRu, .int 0, .ref aTl, .int 10, .ref aWa, .ref aCu, .ref aRa, .int 0, .ref aCo, .ref aFi])), (aCu, .inl (caCu, 4, .inl (upd (fun _ => 0) (p0 : Int32).toNatClampNeg p1)))] H := hP
      have hD : va_D A [(h0, .inr (9, [.ref aRo, .ref aCr, .int 0, .ref aBa, .ref aSe, .ref aTa, .ref aRu, .int 0, .ref aTl, .int 10, .ref aWa, .ref aCu, .ref aRa, .int 0, .ref aCo, .ref aFi])), (aCu, .inl (caCu, 4, .inl (upd (fun _ => 0) (p0 : Int32).toNatClampNeg p1)))] := hD
      refine lv_iload_n hx hb dX9_current_38 rfl (lv_at hl 0 rfl) ?_
      refine W.widen (k := 0) (n := 0) (Nat.le_of_ble_eq_true rfl) (Nat.le_of_ble_eq_true rfl) ?_
      exact W.iret (v := 0) hx hb hr (fun t ht hW => ⟨⟨0, (), rfl, (by first | rfl | decide | (unfold f_current; (repeat' split) <;> first | rfl | omega)), trivial⟩, hS.F ht⟩) hS.2.2 dX9_current_39
    · have e_2 : ¬ ((-9) ≤ p1.toInt ∧ p1.toInt ≤ 9) := e_2
      refine lv_if_ne (tgt := 24) hx hb dX9_current_18 (by decide) (fun c9 => absurd c9 (by decide +kernel)) (fun _ => ?_)
      refine lv_bipush (v := (-101)) hx hb dX9_current_21 (by decide +kernel) ?_
      refine W.widen (k := 0) (n := 0) (Nat.le_of_ble_eq_true rfl) (Nat.le_of_ble_eq_true rfl) ?_
      exact W.iret (v := (-101)) hx hb hr (fun t ht hW => ⟨⟨(-101), (), rfl, (by first | rfl | decide | (unfold f_current; (repeat' split) <;> first | rfl | omega)), trivial⟩, hS.F ht⟩) hS.2.2 dX9_current_23
  · have e_1 : ¬ (0 ≤ p0.toInt ∧ p0.toInt ≤ 3) := e_1
    refine lv_if_ne (tgt := 10) hx hb dX9_current_4 (by decide) (fun c9 => absurd c9 (by decide +kernel)) (fun _ => ?_)
    refine lv_bipush (v := (-100)) hx hb dX9_current_7 (by decide +kernel) ?_
    refine W.widen (k := 0) (n := 0) (Nat.le_of_ble_eq_true rfl) (Nat.le_of_ble_eq_true rfl) ?_
    exact W.iret (v := (-100)) hx hb hr (fun t ht hW => ⟨⟨(-100), (), rfl, (by first | rfl | decide | (unfold f_current; (repeat' split) <;> first | rfl | omega)), trivial⟩, hS.F ht⟩) hS.2.2 dX9_current_9

set_option maxHeartbeats 4000000 in
set_option maxRecDepth 100000 in
theorem k_X9_finalists (l : Launch) (dC : Nat → ClassId) (dI : Nat → Nat → Nat) (sz : Nat) (h0 : Nat) (p0 : Int32) (p1 : Int32) (aRo : Nat) (aCr : Nat) (aBa : Nat) (aSe : Nat) (aTa : Nat) (aRu : Nat) (aTl : Nat) (aWa : Nat) (aCu : Nat) (aRa : Nat) (aCo : Nat) (aFi : Nat) (aLi : Nat) (aBt : Nat) (aBp : Nat) (aCh : Nat) (caBt : ClassId) (caBp : ClassId) (caCh : ClassId) : Met l yX9_finalists wsX9_finalists ({ frames := 2, cells := 0, slots := 0, locals := 46 }) (va_Pc [.ref h0, .int p0, .int p1] (fun U => U.heap.size = sz ∧ va_P (dC, dI) vwCl [(h0, .inr (9, [.ref aRo, .ref aCr, .int 0, .ref aBa, .ref aSe, .ref aTa, .ref aRu, .int 0, .ref aTl, .int 10, .ref aWa, .ref aCu, .ref aRa, .int 0, .ref aCo, .ref aFi])), (aFi, .inr (2, [.int 0, .ref aLi, .ref aBt, .ref aBp, .ref aCh])), (aBt, .inl (caBt, 6, .inl (fun _ => 0))), (aBp, .inl (caBp, 6, .inl (fun _ => 0))), (aCh, .inl (caCh, 6, .inl (fun _ => 0)))] U.heap ∧ va_K (dC, dI) vwCl [(caBt, .int), (caBp, .boolean), (caCh, .boolean)] U ∧ va_D (fun _ => True) [(h0, .inr (9, [.ref aRo, .ref aCr, .int 0, .ref aBa, .ref aSe, .ref aTa, .ref aRu, .int 0, .ref aTl, .int 10, .ref aWa, .ref aCu, .ref aRa, .int 0, .ref aCo, .ref aFi])), (aFi, .inr (2, [.int 0, .ref aLi, .ref aBt, .ref aBp, .ref aCh])), (aBt, .inl (caBt, 6, .inl (fun _ => 0))), (aBp, .inl (caBp, 6, .inl (fun _ => 0))), (aCh, .inl (caCh, 6, .inl (fun _ => 0)))])) (va_Qi (fun (r : Int32) (_ : Unit) => r = f_finalists p0 p1) (fun _ _ => True) (va_A [(h0, .inr (9, [.ref aRo, .ref aCr, .int 0, .ref aBa, .ref aSe, .ref aTa, .ref aRu, .int 0, .ref aTl, .int 10, .ref aWa, .ref aCu, .ref aRa, .int 0, .ref aCo, .ref aFi])), (aFi, .inr (2, [.int 0, .ref aLi, .ref aBt, .ref aBp, .ref aCh])), (aBt, .inl (caBt, 6, .inl (fun _ => 0))), (aBp, .inl (caBp, 6, .inl (fun _ => 0))), (aCh, .inl (caCh, 6, .inl (fun _ => 0)))] sz)) 0 0 (va_A [(h0, .inr (9, [.ref aRo, .ref aCr, .int 0, .ref aBa, .ref aSe, .ref aTa, .ref aRu, .int 0, .ref aTl, .int 10, .ref aWa, .ref aCu, .ref aRa, .int 0, .ref aCo, .ref aFi])), (aFi, .inr (2, [.int 0, .ref aLi, .ref aBt, .ref aBp, .ref aCh])), (aBt, .inl (caBt, 6, .inl (fun _ => 0))), (aBp, .inl (caBp, 6, .inl (fun _ => 0))), (aCh, .inl (caCh, 6, .inl (fun _ => 0)))] sz) := by
  refine Met.ofW (cc := cX9_finalists) (maxL := 3) (ret := (some .int)) (by decide) rfl ?_
  intro p e s m args below meth c s₁ B hml hv
  obtain ⟨rfl, hsz, hP, hK, hD0⟩ := hv
  have hx := B.exec
  have hb := B.bytes
  have hr := B.returns
  have hts := atoms_spec (ws := wsX9_finalists) B.pre
  have hown : s.vm.findClass RX9 = some m.cls := findClass_of_methodNamed B.named
  have hlocks := B.notSynchronized
  subst hsz
  have hD := hD0.self (sz := s.heap.size)
  generalize hAe : va_A [(h0, .inr (9, [.ref aRo, .ref aCr, .int 0, .ref aBa, .ref aSe, .ref aTa, .ref aRu, .int 0, .ref aTl, .int 10, .ref aWa, .ref aCu, .ref aRa, .int 0, .ref aCo, .ref aFi])), (aFi, .inr (2, [.int 0, .ref aLi, .ref aBt, .ref aBp, .ref aCh])), (aBt, .inl (caBt, 6, .inl (fun _ => 0))), (aBp, .inl (caBp, 6, .inl (fun _ => 0))), (aCh, .inl (caCh, 6, .inl (fun _ => 0)))] s.heap.size = A at hD ⊢
  have hA : ∀ q : Nat, s.heap.size ≤ q → A q := fun q h => by rw [← hAe]; exact Or.inr h
  have hS : va_S A s.heap s.heap [] := va_S.rf
  have hl := lv_entry ([.ref h0, .int p0, .int p1]) (n := 3) (Nat.le_of_ble_eq_true rfl)
  rw [lg_entry_eq]
  generalize (lg_sl ([.ref h0, .int p0, .int p1]) ++ List.replicate (3 - (lg_sl ([.ref h0, .int p0, .int p1])).length) Slot.unset).toArray = ls at hl ⊢
  have hl : lv_has ls 3 [(0, .ref h0), (1, .int p0), (2, .int p1)] := hl
  refine lv_iload_n hx hb dX9_finalists_0 rfl (lv_at hl 1 rfl) ?_
  refine lv_iconst (v := 0) hx hb dX9_finalists_1 (by decide +kernel) ?_
  refine lv_bipush (v := 9) hx hb dX9_finalists_2 (by decide +kernel) ?_
  have hPc := hP.sub (ws' := ([] : va_W)) [] rfl
  have hKc := hK.sub (tys' := []) [] rfl
  have hFc := ro_free hS hA
  refine va_calli (va_runS (As := [.int p0, .int 0, .int 9]) (rest := []) ⟨hx, hb, hml, hown, hts⟩ (k_X9_within l dC dI s.heap.size p0 0 9) (va_cwS 3 hts gX9_finalists_X9_within rfl rfl rfl (by decide +kernel) ⟨(Nat.le_of_ble_eq_true rfl), (Nat.le_of_ble_eq_true rfl)⟩) ⟨fun a U g mk q => by obtain ⟨q0, q1, qP, qK⟩ := q; exact ⟨q0, q1, qP, va_K.moved (u := U) (U := U.calling g mk a) (Vm.Alike.refl U.vm) qK⟩, fun U hU hW => ⟨rfl, by rw [hU], by rw [hU]; exact hPc, va_K.moved hW.alike hKc⟩⟩ rfl rfl hl.1 rfl (lv_room (Nat.le_of_ble_eq_true rfl)) dX9_finalists_4 ⟨(Nat.le_of_ble_eq_true rfl), (Nat.le_of_ble_eq_true rfl)⟩) hS (fun q _ h => hFc q h) hFc (fun r u t H1 locs ht hvm hw hB hz1 hk1 hS => ?_)
  refine W.widen (k := 0) (n := 0) (Nat.le_of_ble_eq_true rfl) (Nat.le_of_ble_eq_true rfl) ?_
  have hP := P_ro hP hk1
  generalize H1 = H at hP hS ⊢
  rcases hw with ⟨rfl, e_1⟩ | ⟨rfl, e_1⟩
  · have e_1 : (0 ≤ p0.toInt ∧ p0.toInt ≤ 9) := e_1
    refine lv_if_eq (tgt := 20) hx hb dX9_finalists_7 (by decide) (fun c9 => absurd c9 (by decide +kernel)) (fun _ => ?_)
    refine lv_iload_n hx hb dX9_finalists_10 rfl (lv_at hl 2 rfl) ?_
    refine lv_iconst (v := 0) hx hb dX9_finalists_11 (by decide +kernel) ?_
    refine lv_bipush (v := 9) hx hb dX9_finalists_12 (by decide +kernel) ?_
    have hPc := hP.sub (ws' := ([] : va_W)) [] rfl
    have hKc := hK.sub (tys' := []) [] rfl
    have hFc := ro_free hS hA
    refine va_calli (va_runS (As := [.int p1, .int 0, .int 9]) (rest := []) ⟨hx, hb, hml, hown, hts⟩ (k_X9_within l dC dI H.size p1 0 9) (va_cwS 3 hts gX9_finalists_X9_within rfl rfl rfl (by decide +kernel) ⟨(Nat.le_of_ble_eq_true rfl), (Nat.le_of_ble_eq_true rfl)⟩) ⟨fun a U g mk q => by obtain ⟨q0, q1, qP, qK⟩ := q; exact ⟨q0, q1, qP, va_K.moved (u := U) (U := U.calling g mk a) (Vm.Alike.refl U.vm) qK⟩, fun U hU hW => ⟨rfl, by rw [hU], by rw [hU]; exact hPc, va_K.moved hW.alike hKc⟩⟩ rfl rfl hl.1 rfl (lv_room (Nat.le_of_ble_eq_true rfl)) dX9_finalists_14 ⟨(Nat.le_of_ble_eq_true rfl), (Nat.le_of_ble_eq_true rfl)⟩) hS (fun q _ h => hFc q h) hFc (fun r u t H1 locs ht hvm hw hB hz1 hk1 hS => ?_)
    refine W.widen (k := 0) (n := 0) (Nat.le_of_ble_eq_true rfl) (Nat.le_of_ble_eq_true rfl) ?_
    have hP := P_ro hP hk1
    generalize H1 = H at hP hS ⊢
    rcases hw with ⟨rfl, e_2⟩ | ⟨rfl, e_2⟩
    · have e_2 : (0 ≤ p1.toInt ∧ p1.toInt ≤ 9) := e_2
      refine lv_if_ne (tgt := 23) hx hb dX9_finalists_17 (by decide) (fun _ => ?_) (fun c9 => absurd c9 (by decide +kernel))
      refine lv_aload_n hx hb dX9_finalists_23 rfl (lv_at hl 0 rfl) ?_
      refine va_get (D := (dC, dI)) (ci := 9) (v := .ref aFi) (C := RX9) (T := TX9) (N := 16) hx hb hts (fun _ h => List.mem_cons_of_mem _ (List.mem_append_left _ (List.mem_append_left _ (List.mem_append_right _ h)))) hown hK hP 0 rfl rfl 15 (by decide) (hts (.fieldLink RX9 90 "DrumBoats" "finals" "LDrumBoats$FinalList;") (List.mem_of_getElem? (i := 1) rfl)) (fun _ h9 => h9) rfl dX9_finalists_24 ?_
      refine lv_aload_n hx hb dX9_finalists_27 rfl (lv_at hl 0 rfl) ?_
      refine va_get (D := (dC, dI)) (ci := 9) (v := .ref aRa) (C := RX9) (T := TX9) (N := 16) hx hb hts (fun _ h => List.mem_cons_of_mem _ (List.mem_append_left _ (List.mem_append_left _ (List.mem_append_right _ h)))) hown hK hP 0 rfl rfl 12 (by decide) (hts (.fieldLink RX9 73 "DrumBoats" "races" "[LDrumBoats$Race;") (List.mem_of_getElem? (i := 2) rfl)) (fun _ h9 => h9) rfl dX9_finalists_28 ?_
      refine lv_aload_n hx hb dX9_finalists_31 rfl (lv_at hl 0 rfl) ?_
      refine va_get (D := (dC, dI)) (ci := 9) (v := .int 0) (C := RX9) (T := TX9) (N := 16) hx hb hts (fun _ h => List.mem_cons_of_mem _ (List.mem_append_left _ (List.mem_append_left _ (List.mem_append_right _ h)))) hown hK hP 0 rfl rfl 13 (by decide) (hts (.fieldLink RX9 77 "DrumBoats" "raceCount" "I") (List.mem_of_getElem? (i := 3) rfl)) (fun _ h9 => h9) rfl dX9_finalists_32 ?_
      refine lv_iload_n hx hb dX9_finalists_35 rfl (lv_at hl 1 rfl) ?_
      refine lv_iload_n hx hb dX9_finalists_36 rfl (lv_at hl 2 rfl) ?_
      have hPc := hP.sub (ws' := [(aFi, .inr (2, [.int 0, .ref aLi, .ref aBt, .ref aBp, .ref aCh])), (aBt, .inl (caBt, 6, .inl (fun _ => 0))), (aBp, .inl (caBp, 6, .inl (fun _ => 0))), (aCh, .inl (caCh, 6, .inl (fun _ => 0)))]) [1, 2, 3, 4] rfl
      have hKc := hK.sub (tys' := [(caBt, .int), (caBp, .boolean), (caCh, .boolean)]) [0, 1, 2] rfl
      have hDc := hD.sub (ws' := [(aFi, .inr (2, [.int 0, .ref aLi, .ref aBt, .ref aBp, .ref aCh])), (aBt, .inl (caBt, 6, .inl (fun _ => 0))), (aBp, .inl (caBp, 6, .inl (fun _ => 0))), (aCh, .inl (caCh, 6, .inl (fun _ => 0)))]) [1, 2, 3, 4] (by decide) rfl
      have hFc := va_free (wc := [(aFi, .inr (2, [.int 0, .ref aLi, .ref aBt, .ref aBp, .ref aCh])), (aBt, .inl (caBt, 6, .inl (fun _ => 0))), (aBp, .inl (caBp, 6, .inl (fun _ => 0))), (aCh, .inl (caCh, 6, .inl (fun _ => 0)))]) hD hS hA [1, 2, 3, 4] rfl
      refine va_callv (va_runV (As := [.ref aRa, .int 0, .int p0, .int p1]) (rest := []) ⟨hx, hb, hml, hown, hts⟩ (k_X2_choose l dC dI H.size aFi aRa p0 p1 aLi aBt aBp aCh caBt caBp caCh) (cwV 4 hts gX9_finalists_X2_choose rfl rfl rfl (by decide +kernel) ⟨(Nat.le_of_ble_eq_true rfl), (Nat.le_of_ble_eq_true rfl)⟩) ⟨fun a U g mk q => by obtain ⟨q0, q1, qP, qK, qD⟩ := q; exact ⟨q0, q1, qP, va_K.moved (u := U) (U := U.calling g mk a) (Vm.Alike.refl U.vm) qK, qD⟩, va_recv hKc hPc (ci := 2) (q0 := 0) rfl rfl, fun U hU hW => ⟨rfl, by rw [hU], by rw [hU]; exact hPc, va_K.moved hW.alike hKc, hDc.weaken (fun _ _ _ _ => trivial)⟩⟩ rfl rfl hl.1 rfl (lv_room (Nat.le_of_ble_eq_true rfl)) dX9_finalists_37 ⟨(Nat.le_of_ble_eq_true rfl), (Nat.le_of_ble_eq_true rfl)⟩) hS (fun q _ h => hFc q h) hFc (fun u t H1 locs ht hvm hw hB hz1 hk1 hS => ?_)
      refine W.widen (k := 0) (n := 0) (Nat.le_of_ble_eq_true rfl) (Nat.le_of_ble_eq_true rfl) ?_
      obtain ⟨hP1, hK1, hD1⟩ := hB
      rw [ht] at hP1
      have hK1 := va_K.moved hvm.symm hK1
      obtain ⟨hP, hD⟩ := va_join (wr := [(h0, .inr (9, [.ref aRo, .ref aCr, .int 0, .ref aBa, .ref aSe, .ref aTa, .ref aRu, .int 0, .ref aTl, .int 10, .ref aWa, .ref aCu, .ref aRa, .int 0, .ref aCo, .ref aFi]))]) (w1 := [(aFi, .inr (2, [.int 0, .ref aLi, .ref aBt, .ref aBp, .ref aCh]))]) hP hD [1, 2, 3, 4] [0] rfl rfl (by decide) (by decide) hk1 hFc hP1 hD1
      have hK := hK.app hK1
      generalize H1 = H at hP hS ⊢
      have hP : va_P (dC, dI) vwCl [(h0, .inr (9, [.ref aRo, .ref aCr, .int 0, .ref aBa, .ref aSe, .ref aTa, .ref aRu, .int 0, .ref aTl, .int 10, .ref aWa, .ref aCu, .ref aRa, .int 0, .ref aCo, .ref aFi])), (aFi, .inr (2, [.int 0, .ref aLi, .ref aBt, .ref aBp, .ref aCh]))] H := hP
      have hD : va_D A [(h0, .inr (9, [.ref aRo, .ref aCr, .int 0, .ref aBa, .ref aSe, .ref aTa, .ref aRu, .int 0, .ref aTl, .int 10, .ref aWa, .ref aCu, .ref aRa, .int 0, .ref aCo, .ref aFi])), (aFi, .inr (2, [.int 0, .ref aLi, .ref aBt, .ref aBp, .ref aCh]))] := hD
      have hK : va_K (dC, dI) vwCl [(caBt, .int), (caBp, .boolean), (caCh, .boolean)] s := hK
      refine lv_aload_n hx hb dX9_finalists_40 rfl (lv_at hl 0 rfl) ?_
      refine va_get (D := (dC, dI)) (ci := 9) (v := .ref aFi) (C := RX9) (T := TX9) (N := 16) hx hb hts (fun _ h => List.mem_cons_of_mem _ (List.mem_append_left _ (List.mem_append_left _ (List.mem_append_right _ h)))) hown hK hP 0 rfl rfl 15 (by decide) (hts (.fieldLink RX9 90 "DrumBoats" "finals" "LDrumBoats$FinalList;") (List.mem_of_getElem? (i := 1) rfl)) (fun _ h9 => h9) rfl dX9_finalists_41 ?_
      refine va_get (D := (dC, dI)) (ci := 2) (v := .int 0) (C := RX2) (T := TX2) (N := 5) hx hb hts (fun _ h => List.mem_cons_of_mem _ (List.mem_append_left _ (List.mem_append_right _ h))) hown hK hP 1 rfl rfl 0 (by decide) (hts (.fieldLink RX9 268 "DrumBoats$FinalList" "size" "I") (List.mem_of_getElem? (i := 4) rfl)) (fun _ h9 => h9) rfl dX9_finalists_44 ?_
      refine W.widen (k := 0) (n := 0) (Nat.le_of_ble_eq_true rfl) (Nat.le_of_ble_eq_true rfl) ?_
      exact W.iret (v := 0) hx hb hr (fun t ht hW => ⟨⟨0, (), rfl, (by first | rfl | decide | (unfold f_finalists; (repeat' split) <;> first | rfl | omega)), trivial⟩, hS.F ht⟩) hS.2.2 dX9_finalists_47
    · have e_2 : ¬ (0 ≤ p1.toInt ∧ p1.toInt ≤ 9) := e_2
      refine lv_if_ne (tgt := 23) hx hb dX9_finalists_17 (by decide) (fun c9 => absurd c9 (by decide +kernel)) (fun _ => ?_)
      refine lv_bipush (v := (-2)) hx hb dX9_finalists_20 (by decide +kernel) ?_
      refine W.widen (k := 0) (n := 0) (Nat.le_of_ble_eq_true rfl) (Nat.le_of_ble_eq_true rfl) ?_
      exact W.iret (v := (-2)) hx hb hr (fun t ht hW => ⟨⟨(-2), (), rfl, (by first | rfl | decide | (unfold f_finalists; (repeat' split) <;> first | rfl | omega)), trivial⟩, hS.F ht⟩) hS.2.2 dX9_finalists_22
  · have e_1 : ¬ (0 ≤ p0.toInt ∧ p0.toInt ≤ 9) := e_1
    refine lv_if_eq (tgt := 20) hx hb dX9_finalists_7 (by decide) (fun _ => ?_) (fun c9 => absurd c9 (by decide +kernel))
    refine lv_bipush (v := (-2)) hx hb dX9_finalists_20 (by decide +kernel) ?_
    refine W.widen (k := 0) (n := 0) (Nat.le_of_ble_eq_true rfl) (Nat.le_of_ble_eq_true rfl) ?_
    exact W.iret (v := (-2)) hx hb hr (fun t ht hW => ⟨⟨(-2), (), rfl, (by first | rfl | decide | (unfold f_finalists; (repeat' split) <;> first | rfl | omega)), trivial⟩, hS.F ht⟩) hS.2.2 dX9_finalists_22

set_option maxHeartbeats 4000000 in
set_option maxRecDepth 100000 in
theorem k_X9_finalist (l : Launch) (dC : Nat → ClassId) (dI : Nat → Nat → Nat) (sz : Nat) (h0 : Nat) (p0 : Int32) (aRo : Nat) (aCr : Nat) (aBa : Nat) (aSe : Nat) (aTa : Nat) (aRu : Nat) (aTl : Nat) (aWa : Nat) (aCu : Nat) (aRa : Nat) (aCo : Nat) (aFi : Nat) (aLi : Nat) (aBt : Nat) (aBp : Nat) (aCh : Nat) : Met l yX9_finalist wsX9_finalist ({ frames := 1, cells := 0, slots := 0, locals := 22 }) (va_Pc [.ref h0, .int p0] (fun U => U.heap.size = sz ∧ va_P (dC, dI) vwCl [(h0, .inr (9, [.ref aRo, .ref aCr, .int 0, .ref aBa, .ref aSe, .ref aTa, .ref aRu, .int 0, .ref aTl, .int 10, .ref aWa, .ref aCu, .ref aRa, .int 0, .ref aCo, .ref aFi])), (aFi, .inr (2, [.int 0, .ref aLi, .ref aBt, .ref aBp, .ref aCh]))] U.heap ∧ va_K (dC, dI) vwCl [] U)) (va_Qi (fun (r : Int32) (_ : Unit) => r = (-1)) (fun _ _ => True) (va_A ([] : va_W) sz)) 0 0 (va_A ([] : va_W) sz) := by
  refine Met.ofW (cc := cX9_finalist) (maxL := 2) (ret := (some .int)) (by decide) rfl ?_
  intro p e s m args below meth c s₁ B hml hv
  obtain ⟨rfl, hsz, hP, hK⟩ := hv
  have hx := B.exec
  have hb := B.bytes
  have hr := B.returns
  have hts := atoms_spec (ws := wsX9_finalist) B.pre
  have hown : s.vm.findClass RX9 = some m.cls := findClass_of_methodNamed B.named
  have hlocks := B.notSynchronized
  subst hsz
  generalize hAe : va_A ([] : va_W) s.heap.size = A
  have hA : ∀ q : Nat, s.heap.size ≤ q → A q := fun q h => by rw [← hAe]; exact Or.inr h
  have hS : va_S A s.heap s.heap [] := va_S.rf
  have hl := lv_entry ([.ref h0, .int p0]) (n := 2) (Nat.le_of_ble_eq_true rfl)
  rw [lg_entry_eq]
  generalize (lg_sl ([.ref h0, .int p0]) ++ List.replicate (2 - (lg_sl ([.ref h0, .int p0])).length) Slot.unset).toArray = ls at hl ⊢
  have hl : lv_has ls 2 [(0, .ref h0), (1, .int p0)] := hl
  refine lv_iload_n hx hb dX9_finalist_0 rfl (lv_at hl 1 rfl) ?_
  refine lv_iconst (v := 0) hx hb dX9_finalist_1 (by decide +kernel) ?_
  refine lv_aload_n hx hb dX9_finalist_2 rfl (lv_at hl 0 rfl) ?_
  refine va_get (D := (dC, dI)) (ci := 9) (v := .ref aFi) (C := RX9) (T := TX9) (N := 16) hx hb hts (fun _ h => List.mem_cons_of_mem _ (List.mem_append_left _ (List.mem_append_right _ h))) hown hK hP 0 rfl rfl 15 (by decide) (hts (.fieldLink RX9 90 "DrumBoats" "finals" "LDrumBoats$FinalList;") (List.mem_of_getElem? (i := 1) rfl)) (fun _ h9 => h9) rfl dX9_finalist_3 ?_
  refine va_get (D := (dC, dI)) (ci := 2) (v := .int 0) (C := RX2) (T := TX2) (N := 5) hx hb hts (fun _ h => List.mem_cons_of_mem _ (List.mem_append_right _ h)) hown hK hP 1 rfl rfl 0 (by decide) (hts (.fieldLink RX9 268 "DrumBoats$FinalList" "size" "I") (List.mem_of_getElem? (i := 2) rfl)) (fun _ h9 => h9) rfl dX9_finalist_6 ?_
  refine lv_iconst (v := 1) hx hb dX9_finalist_9 (by decide +kernel) ?_
  refine lv_isub hx hb dX9_finalist_10 ?_
  refine ti_eq (y := (-1)) (by decide +kernel) ?_
  have hPc := hP.sub (ws' := ([] : va_W)) [] rfl
  have hKc := hK.sub (tys' := []) [] rfl
  have hFc := ro_free hS hA
  refine va_calli (va_runS (As := [.int p0, .int 0, .int (-1)]) (rest := []) ⟨hx, hb, hml, hown, hts⟩ (k_X9_within l dC dI s.heap.size p0 0 (-1)) (va_cwS 3 hts gX9_finalist_X9_within rfl rfl rfl (by decide +kernel) ⟨(Nat.le_of_ble_eq_true rfl), (Nat.le_of_ble_eq_true rfl)⟩) ⟨fun a U g mk q => by obtain ⟨q0, q1, qP, qK⟩ := q; exact ⟨q0, q1, qP, va_K.moved (u := U) (U := U.calling g mk a) (Vm.Alike.refl U.vm) qK⟩, fun U hU hW => ⟨rfl, by rw [hU], by rw [hU]; exact hPc, va_K.moved hW.alike hKc⟩⟩ rfl rfl hl.1 rfl (lv_room (Nat.le_of_ble_eq_true rfl)) dX9_finalist_11 ⟨(Nat.le_of_ble_eq_true rfl), (Nat.le_of_ble_eq_true rfl)⟩) hS (fun q _ h => hFc q h) hFc (fun r u t H1 locs ht hvm hw hB hz1 hk1 hS => ?_)
  refine W.widen (k := 0) (n := 0) (Nat.le_of_ble_eq_true rfl) (Nat.le_of_ble_eq_true rfl) ?_
  have hP := P_ro hP hk1
  generalize H1 = H at hP hS ⊢
  rcases hw with ⟨rfl, e_1⟩ | ⟨rfl, e_1⟩
  · have e_1 : (0 ≤ p0.toInt ∧ p0.toInt ≤ (-1)) := e_1
    exact absurd e_1 (by omega)
  · have e_1 : ¬ (0 ≤ p0.toInt ∧ p0.toInt ≤ (-1)) := e_1
    refine lv_if_eq (tgt := 29) hx hb dX9_finalist_14 (by decide) (fun _ => ?_) (fun c9 => absurd c9 (by decide +kernel))
    refine lv_iconst (v := (-1)) hx hb dX9_finalist_29 (by decide +kernel) ?_
    refine W.widen (k := 0) (n := 0) (Nat.le_of_ble_eq_true rfl) (Nat.le_of_ble_eq_true rfl) ?_
    exact W.iret (v := (-1)) hx hb hr (fun t ht hW => ⟨⟨(-1), (), rfl, (by first | rfl | (exfalso; omega)), trivial⟩, hS.F ht⟩) hS.2.2 dX9_finalist_30

set_option maxHeartbeats 4000000 in
set_option maxRecDepth 100000 in
theorem k_X9_level (l : Launch) (dC : Nat → ClassId) (dI : Nat → Nat → Nat) (sz : Nat) (h0 : Nat) (p0 : Int32) (p1 : Int32) (p2 : Int32) (aRo : Nat) (aCr : Nat) (aBa : Nat) (aSe : Nat) (aTa : Nat) (aRu : Nat) (aTl : Nat) (aWa : Nat) (aCu : Nat) (aRa : Nat) (aCo : Nat) (aFi : Nat) : Met l yX9_level wsX9_level ({ frames := 2, cells := 0, slots := 0, locals := 42 }) (va_Pc [.ref h0, .int p0, .int p1, .int p2] (fun U => U.heap.size = sz ∧ va_P (dC, dI) vwCl [(h0, .inr (9, [.ref aRo, .ref aCr, .int 0, .ref aBa, .ref aSe, .ref aTa, .ref aRu, .int 0, .ref aTl, .int 10, .ref aWa, .ref aCu, .ref aRa, .int 0, .ref aCo, .ref aFi]))] U.heap ∧ va_K (dC, dI) vwCl [] U)) (va_Ql (fun (r : Int64) (_ : Unit) => r = (-9223372036854775808)) (fun _ _ => True) (va_A ([] : va_W) sz)) 0 0 (va_A ([] : va_W) sz) := by
  refine Met.ofW (cc := cX9_level) (maxL := 11) (ret := (some .long)) (by decide) rfl ?_
  intro p e s m args below meth c s₁ B hml hv
  obtain ⟨rfl, hsz, hP, hK⟩ := hv
  have hx := B.exec
  have hb := B.bytes
  have hr := B.returns
  have hts := atoms_spec (ws := wsX9_level) B.pre
  have hown : s.vm.findClass RX9 = some m.cls := findClass_of_methodNamed B.named
  have hlocks := B.notSynchronized
  subst hsz
  generalize hAe : va_A ([] : va_W) s.heap.size = A
  have hA : ∀ q : Nat, s.heap.size ≤ q → A q := fun q h => by rw [← hAe]; exact Or.inr h
  have hS : va_S A s.heap s.heap [] := va_S.rf
  have hl := lv_entry ([.ref h0, .int p0, .int p1, .int p2]) (n := 11) (Nat.le_of_ble_eq_true rfl)
  rw [lg_entry_eq]
  generalize (lg_sl ([.ref h0, .int p0, .int p1, .int p2]) ++ List.replicate (11 - (lg_sl ([.ref h0, .int p0, .int p1, .int p2])).length) Slot.unset).toArray = ls at hl ⊢
  have hl : lv_has ls 11 [(0, .ref h0), (1, .int p0), (2, .int p1), (3, .int p2)] := hl
  refine lv_iload_n hx hb dX9_level_0 rfl (lv_at hl 1 rfl) ?_
  have hPc := hP.sub (ws' := ([] : va_W)) [] rfl
  have hKc := hK.sub (tys' := []) [] rfl
  have hFc := ro_free hS hA
  refine va_calli (va_runS (As := [.int p0]) (rest := []) ⟨hx, hb, hml, hown, hts⟩ (k_X9_isLane l dC dI s.heap.size p0) (va_cwS 1 hts gX9_level_X9_isLane rfl rfl rfl (by decide +kernel) ⟨(Nat.le_of_ble_eq_true rfl), (Nat.le_of_ble_eq_true rfl)⟩) ⟨fun a U g mk q => by obtain ⟨q0, q1, qP, qK⟩ := q; exact ⟨q0, q1, qP, va_K.moved (u := U) (U := U.calling g mk a) (Vm.Alike.refl U.vm) qK⟩, fun U hU hW => ⟨rfl, by rw [hU], by rw [hU]; exact hPc, va_K.moved hW.alike hKc⟩⟩ rfl rfl hl.1 rfl (lv_room (Nat.le_of_ble_eq_true rfl)) dX9_level_1 ⟨(Nat.le_of_ble_eq_true rfl), (Nat.le_of_ble_eq_true rfl)⟩) hS (fun q _ h => hFc q h) hFc (fun r u t H1 locs ht hvm hw hB hz1 hk1 hS => ?_)
  refine W.widen (k := 0) (n := 0) (Nat.le_of_ble_eq_true rfl) (Nat.le_of_ble_eq_true rfl) ?_
  have hP := P_ro hP hk1
  generalize H1 = H at hP hS ⊢
  rcases hw with ⟨rfl, e_1⟩ | ⟨rfl, e_1⟩
  · have e_1 : (0 ≤ p0.toInt ∧ p0.toInt ≤ 3) := e_1
    refine lv_if_eq (tgt := 28) hx hb dX9_level_4 (by decide) (fun c9 => absurd c9 (by decide +kernel)) (fun _ => ?_)
    refine lv_iload_n hx hb dX9_level_7 rfl (lv_at hl 2 rfl) ?_
    have hPc := hP.sub (ws' := ([] : va_W)) [] rfl
    have hKc := hK.sub (tys' := []) [] rfl
    have hFc := ro_free hS hA
    refine va_calli (va_runS (As := [.int p1]) (rest := []) ⟨hx, hb, hml, hown, hts⟩ (k_X9_isLane l dC dI H.size p1) (va_cwS 1 hts gX9_level_X9_isLane rfl rfl rfl (by decide +kernel) ⟨(Nat.le_of_ble_eq_true rfl), (Nat.le_of_ble_eq_true rfl)⟩) ⟨fun a U g mk q => by obtain ⟨q0, q1, qP, qK⟩ := q; exact ⟨q0, q1, qP, va_K.moved (u := U) (U := U.calling g mk a) (Vm.Alike.refl U.vm) qK⟩, fun U hU hW => ⟨rfl, by rw [hU], by rw [hU]; exact hPc, va_K.moved hW.alike hKc⟩⟩ rfl rfl hl.1 rfl (lv_room (Nat.le_of_ble_eq_true rfl)) dX9_level_8 ⟨(Nat.le_of_ble_eq_true rfl), (Nat.le_of_ble_eq_true rfl)⟩) hS (fun q _ h => hFc q h) hFc (fun r u t H1 locs ht hvm hw hB hz1 hk1 hS => ?_)
    refine W.widen (k := 0) (n := 0) (Nat.le_of_ble_eq_true rfl) (Nat.le_of_ble_eq_true rfl) ?_
    have hP := P_ro hP hk1
    generalize H1 = H at hP hS ⊢
    rcases hw with ⟨rfl, e_2⟩ | ⟨rfl, e_2⟩
    · have e_2 : (0 ≤ p1.toInt ∧ p1.toInt ≤ 3) := e_2
      refine lv_if_eq (tgt := 28) hx hb dX9_level_11 (by decide) (fun c9 => absurd c9 (by decide +kernel)) (fun _ => ?_)
      refine lv_iload_n hx hb dX9_level_14 rfl (lv_at hl 1 rfl) ?_
      refine lv_iload_n hx hb dX9_level_15 rfl (lv_at hl 2 rfl) ?_
      refine lv_icmp_eq (tgt := 28) hx hb dX9_level_16 (by decide) (fun c_3 => ?_) (fun c_3 => ?_)
      · have c_3 : p0.toInt = p1.toInt := congrArg Int32.toInt c_3
        refine lv_ldc2 (v := (-9223372036854775808)) hx hb hown (hts (.constantLong RX9 280 (-9223372036854775808)) (List.mem_of_getElem? (i := 1) rfl)) dX9_level_28 ?_
        refine W.widen (k := 0) (n := 0) (Nat.le_of_ble_eq_true rfl) (Nat.le_of_ble_eq_true rfl) ?_
        exact W.lret (v := (-9223372036854775808)) hx hb hr (fun t ht hW => ⟨⟨(-9223372036854775808), (), rfl, (by first | rfl | (exfalso; omega)), trivial⟩, hS.F ht⟩) hS.2.2 dX9_level_31
      · have c_3 : ¬ (p0.toInt = p1.toInt) := fun h => c_3 (Int32.toInt_inj.mp h)
        refine lv_iload_n hx hb dX9_level_19 rfl (lv_at hl 3 rfl) ?_
        refine lv_iconst (v := 0) hx hb dX9_level_20 (by decide +kernel) ?_
        refine lv_iconst (v := 1) hx hb dX9_level_21 (by decide +kernel) ?_
        have hPc := hP.sub (ws' := ([] : va_W)) [] rfl
        have hKc := hK.sub (tys' := []) [] rfl
        have hFc := ro_free hS hA
        refine va_calli (va_runS (As := [.int p2, .int 0, .int 1]) (rest := []) ⟨hx, hb, hml, hown, hts⟩ (k_X9_within l dC dI H.size p2 0 1) (va_cwS 3 hts gX9_level_X9_within rfl rfl rfl (by decide +kernel) ⟨(Nat.le_of_ble_eq_true rfl), (Nat.le_of_ble_eq_true rfl)⟩) ⟨fun a U g mk q => by obtain ⟨q0, q1, qP, qK⟩ := q; exact ⟨q0, q1, qP, va_K.moved (u := U) (U := U.calling g mk a) (Vm.Alike.refl U.vm) qK⟩, fun U hU hW => ⟨rfl, by rw [hU], by rw [hU]; exact hPc, va_K.moved hW.alike hKc⟩⟩ rfl rfl hl.1 rfl (lv_room (Nat.le_of_ble_eq_true rfl)) dX9_level_22 ⟨(Nat.le_of_ble_eq_true rfl), (Nat.le_of_ble_eq_true rfl)⟩) hS (fun q _ h => hFc q h) hFc (fun r u t H1 locs ht hvm hw hB hz1 hk1 hS => ?_)
        refine W.widen (k := 0) (n := 0) (Nat.le_of_ble_eq_true rfl) (Nat.le_of_ble_eq_true rfl) ?_
        have hP := P_ro hP hk1
        generalize H1 = H at hP hS ⊢
        rcases hw with ⟨rfl, e_4⟩ | ⟨rfl, e_4⟩
        · have e_4 : (0 ≤ p2.toInt ∧ p2.toInt ≤ 1) := e_4
          refine lv_if_ne (tgt := 32) hx hb dX9_level_25 (by decide) (fun _ => ?_) (fun c9 => absurd c9 (by decide +kernel))
          refine lv_lconst (v := 0) hx hb dX9_level_32 (by decide +kernel) ?_
          refine lv_lstore (lv' := [(4, .long 0), (0, .ref h0), (1, .int p0), (2, .int p1), (3, .int p2)]) hx hb dX9_level_33 hl (by decide) rfl (fun ls hl => ?_)
          refine lv_lconst (v := 0) hx hb dX9_level_35 (by decide +kernel) ?_
          refine lv_lstore (lv' := [(6, .long 0), (4, .long 0), (0, .ref h0), (1, .int p0), (2, .int p1), (3, .int p2)]) hx hb dX9_level_36 hl (by decide) rfl (fun ls hl => ?_)
          refine lv_iconst (v := 0) hx hb dX9_level_38 (by decide +kernel) ?_
          refine lv_istore (lv' := [(8, .int 0), (6, .long 0), (4, .long 0), (0, .ref h0), (1, .int p0), (2, .int p1), (3, .int p2)]) hx hb dX9_level_39 hl (by decide) rfl (fun ls hl => ?_)
          refine lv_iload hx hb dX9_level_41 (lv_at hl 0 rfl) ?_
          refine lv_aload_n hx hb dX9_level_43 rfl (lv_at hl 3 rfl) ?_
          refine va_get (D := (dC, dI)) (ci := 9) (v := .int 0) (C := RX9) (T := TX9) (N := 16) hx hb hts (fun _ h => List.mem_cons_of_mem _ (List.mem_append_left _ (List.mem_append_right _ h))) hown hK hP 0 rfl rfl 2 (by decide) (hts (.fieldLink RX9 24 "DrumBoats" "crewCount" "I") (List.mem_of_getElem? (i := 2) rfl)) (fun _ h9 => h9) rfl dX9_level_44 ?_
          refine lv_icmp_ge (tgt := 101) hx hb dX9_level_47 (by decide) (fun _ => ?_) (fun c9 => absurd c9 (by decide +kernel))
          refine lv_lload hx hb dX9_level_101 (lv_at hl 2 rfl) ?_
          refine va_mabs_long hx hb (by rw [hml]; exact hl.1.symm) hown (hts (.methodLink RX9 286 Lib.MathLoose.abs_long.x) (List.mem_of_getElem? (i := 3) rfl)) (hts (.static Lib.MathLoose.abs_long.x) (List.mem_of_getElem? (i := 4) rfl)) (hts (.initialized "java/lang/Math") (List.mem_of_getElem? (i := 5) rfl)) (hts (.code Lib.MathLoose.abs_long.x Lib.MathLoose.abs_long.code 2 (some .long)) (List.mem_of_getElem? (i := 6) rfl)) (Nat.le_of_ble_eq_true rfl) (Nat.le_of_ble_eq_true rfl) (Nat.le_of_ble_eq_true rfl) (Nat.le_of_ble_eq_true rfl) dX9_level_103 ?_
          refine tj_eq (y := 0) (by decide +kernel) ?_
          refine lv_lload hx hb dX9_level_106 (lv_at hl 1 rfl) ?_
          have hPc := hP.sub (ws' := ([] : va_W)) [] rfl
          have hKc := hK.sub (tys' := []) [] rfl
          have hFc := ro_free hS hA
          refine va_calll (va_runS (As := [.long 0, .long 0]) (rest := []) ⟨hx, hb, hml, hown, hts⟩ (k_X9_commonDivisor l dC dI H.size ) (va_cwS 2 hts gX9_level_X9_commonDivisor rfl rfl rfl (by decide +kernel) ⟨(Nat.le_of_ble_eq_true rfl), (Nat.le_of_ble_eq_true rfl)⟩) ⟨fun a U g mk q => by obtain ⟨q0, q1, qP, qK⟩ := q; exact ⟨q0, q1, qP, va_K.moved (u := U) (U := U.calling g mk a) (Vm.Alike.refl U.vm) qK⟩, fun U hU hW => ⟨rfl, by rw [hU], by rw [hU]; exact hPc, va_K.moved hW.alike hKc⟩⟩ rfl rfl hl.1 rfl (lv_room (Nat.le_of_ble_eq_true rfl)) dX9_level_108 ⟨(Nat.le_of_ble_eq_true rfl), (Nat.le_of_ble_eq_true rfl)⟩) hS (fun q _ h => hFc q h) hFc (fun r u t H1 locs ht hvm hw hB hz1 hk1 hS => ?_)
          refine W.widen (k := 0) (n := 0) (Nat.le_of_ble_eq_true rfl) (Nat.le_of_ble_eq_true rfl) ?_
          have hP := P_ro hP hk1
          generalize H1 = H at hP hS ⊢
          subst hw
          refine lv_lstore (lv' := [(8, .long 0), (6, .long 0), (4, .long 0), (0, .ref h0), (1, .int p0), (2, .int p1), (3, .int p2)]) hx hb dX9_level_111 hl (by decide) rfl (fun ls hl => ?_)
          refine lv_lload hx hb dX9_level_113 (lv_at hl 1 rfl) ?_
          refine lv_lconst (v := 0) hx hb dX9_level_115 (by decide +kernel) ?_
          refine W.lcmp hx hb dX9_level_116 ?_
          refine ti_eq (y := 0) (by decide +kernel) ?_
          refine lv_if_eq (tgt := 127) hx hb dX9_level_117 (by decide) (fun _ => ?_) (fun c9 => absurd c9 (by decide +kernel))
          refine lv_ldc2 (v := (-9223372036854775808)) hx hb hown (hts (.constantLong RX9 280 (-9223372036854775808)) (List.mem_of_getElem? (i := 1) rfl)) dX9_level_127 ?_
          refine W.widen (k := 0) (n := 0) (Nat.le_of_ble_eq_true rfl) (Nat.le_of_ble_eq_true rfl) ?_
          exact W.lret (v := (-9223372036854775808)) hx hb hr (fun t ht hW => ⟨⟨(-9223372036854775808), (), rfl, (by first | rfl | (exfalso; omega)), trivial⟩, hS.F ht⟩) hS.2.2 dX9_level_130
        · have e_4 : ¬ (0 ≤ p2.toInt ∧ p2.toInt ≤ 1) := e_4
          refine lv_if_ne (tgt := 32) hx hb dX9_level_25 (by decide) (fun c9 => absurd c9 (by decide +kernel)) (fun _ => ?_)
          refine lv_ldc2 (v := (-9223372036854775808)) hx hb hown (hts (.constantLong RX9 280 (-9223372036854775808)) (List.mem_of_getElem? (i := 1) rfl)) dX9_level_28 ?_
          refine W.widen (k := 0) (n := 0) (Nat.le_of_ble_eq_true rfl) (Nat.le_of_ble_eq_true rfl) ?_
          exact W.lret (v := (-9223372036854775808)) hx hb hr (fun t ht hW => ⟨⟨(-9223372036854775808), (), rfl, (by first | rfl | (exfalso; omega)), trivial⟩, hS.F ht⟩) hS.2.2 dX9_level_31
    · have e_2 : ¬ (0 ≤ p1.toInt ∧ p1.toInt ≤ 3) := e_2
      refine lv_if_eq (tgt := 28) hx hb dX9_level_11 (by decide) (fun _ => ?_) (fun c9 => absurd c9 (by decide +kernel))
      refine lv_ldc2 (v := (-9223372036854775808)) hx hb hown (hts (.constantLong RX9 280 (-9223372036854775808)) (List.mem_of_getElem? (i := 1) rfl)) dX9_level_28 ?_
      refine W.widen (k := 0) (n := 0) (Nat.le_of_ble_eq_true rfl) (Nat.le_of_ble_eq_true rfl) ?_
      exact W.lret (v := (-9223372036854775808)) hx hb hr (fun t ht hW => ⟨⟨(-9223372036854775808), (), rfl, (by first | rfl | (exfalso; omega)), trivial⟩, hS.F ht⟩) hS.2.2 dX9_level_31
  · have e_1 : ¬ (0 ≤ p0.toInt ∧ p0.toInt ≤ 3) := e_1
    refine lv_if_eq (tgt := 28) hx hb dX9_level_4 (by decide) (fun _ => ?_) (fun c9 => absurd c9 (by decide +kernel))
    refine lv_ldc2 (v := (-9223372036854775808)) hx hb hown (hts (.constantLong RX9 280 (-9223372036854775808)) (List.mem_of_getElem? (i := 1) rfl)) dX9_level_28 ?_
    refine W.widen (k := 0) (n := 0) (Nat.le_of_ble_eq_true rfl) (Nat.le_of_ble_eq_true rfl) ?_
    exact W.lret (v := (-9223372036854775808)) hx hb hr (fun t ht hW => ⟨⟨(-9223372036854775808), (), rfl, (by first | rfl | (exfalso; omega)), trivial⟩, hS.F ht⟩) hS.2.2 dX9_level_31

set_option maxHeartbeats 4000000 in
set_option maxRecDepth 100000 in
theorem k_X9_count (l : Launch) (dC : Nat → ClassId) (dI : Nat → Nat → Nat) (sz : Nat) (h0 : Nat) (p0 : Int32) (aRo : Nat) (aCr : Nat) (aBa : Nat) (aSe : Nat) (aTa : Nat) (aRu : Nat) (aTl : Nat) (aWa : Nat) (aCu : Nat) (aRa : Nat) (aCo : Nat) (aFi : Nat) (aW : Nat) (aS : Nat) (aAr : Nat) (aSx : Nat) (aAg : Nat) (aFb : Nat) (aBy : Nat) (caWa : ClassId) : Met l yX9_count wsX9_count ({ frames := 1, cells := 0, slots := 0, locals := 22 }) (va_Pc [.ref h0, .int p0] (fun U => U.heap.size = sz ∧ va_P (dC, dI) vwCl [(h0, .inr (9, [.ref aRo, .ref aCr, .int 0, .ref aBa, .ref aSe, .ref aTa, .ref aRu, .int 0, .ref aTl, .int 10, .ref aWa, .ref aCu, .ref aRa, .int 0, .ref aCo, .ref aFi])), (aRo, .inr (4, [.int 0, .ref aW, .ref aS, .ref aAr, .ref aSx, .ref aAg, .ref aFb])), (aTa, .inr (7, [.int 0, .int 0, .ref aBy])), (aWa, .inl (caWa, 4, .inl (upd (upd (upd (upd (fun _ => 0) (0 : Int32).toNatClampNeg (-1)) (1 : Int32).toNatClampNeg (-1)) (2 : Int32).toNatClampNeg (-1)) (3 : Int32).toNatClampNeg (-1))))] U.heap ∧ va_K (dC, dI) vwCl [(caWa, .int)] U)) (va_Qi (fun (r : Int32) (_ : Unit) => r = f_count p0) (fun _ _ => True) (va_A ([] : va_W) sz)) 0 0 (va_A ([] : va_W) sz) := by
  refine Met.ofW (cc := cX9_count) (maxL := 2) (ret := (some .int)) (by decide) rfl ?_
  intro p e s m args below meth c s₁ B hml hv
  obtain ⟨rfl, hsz, hP, hK⟩ := hv
  have hx := B.exec
  have hb := B.bytes
  have hr := B.returns
  have hts := atoms_spec (ws := wsX9_count) B.pre
  have hown : s.vm.findClass RX9 = some m.cls := findClass_of_methodNamed B.named
  have hlocks := B.notSynchronized
  subst hsz
  generalize hAe : va_A ([] : va_W) s.heap.size = A
  have hA : ∀ q : Nat, s.heap.size ≤ q → A q := fun q h => by rw [← hAe]; exact Or.inr h
  have hS : va_S A s.heap s.heap [] := va_S.rf
  have hl := lv_entry ([.ref h0, .int p0]) (n := 2) (Nat.le_of_ble_eq_true rfl)
  rw [lg_entry_eq]
  generalize (lg_sl ([.ref h0, .int p0]) ++ List.replicate (2 - (lg_sl ([.ref h0, .int p0])).length) Slot.unset).toArray = ls at hl ⊢
  have hl : lv_has ls 2 [(0, .ref h0), (1, .int p0)] := hl
  refine lv_iload_n hx hb dX9_count_0 rfl (lv_at hl 1 rfl) ?_
  rcases sw8 p0 with h | rfl | rfl | rfl | rfl | rfl | rfl | rfl | rfl | rfl
  · refine lv_tableOut (tgt := 103) hx hb dX9_count_1 h (by decide) ?_
    refine lv_iconst (v := (-1)) hx hb dX9_count_103 (by decide +kernel) ?_
    refine W.widen (k := 0) (n := 0) (Nat.le_of_ble_eq_true rfl) (Nat.le_of_ble_eq_true rfl) ?_
    exact W.iret (v := (-1)) hx hb hr (fun t ht hW => ⟨⟨(-1), (), rfl, (by first | rfl | decide | (unfold f_count; (repeat' split) <;> first | rfl | omega)), trivial⟩, hS.F ht⟩) hS.2.2 dX9_count_104
  · refine lv_tableIn (tgt := 52) hx hb dX9_count_1 (by decide +kernel) (by decide +kernel) rfl (by decide) ?_
    refine lv_aload_n hx hb dX9_count_52 rfl (lv_at hl 0 rfl) ?_
    refine va_get (D := (dC, dI)) (ci := 9) (v := .ref aRo) (C := RX9) (T := TX9) (N := 16) hx hb hts (fun _ h => List.mem_cons_of_mem _ (List.mem_append_left _ (List.mem_append_left _ (List.mem_append_left _ (List.mem_append_left _ (List.mem_append_right _ h)))))) hown hK hP 0 rfl rfl 0 (by decide) (hts (.fieldLink RX9 12 "DrumBoats" "roster" "LDrumBoats$Roster;") (List.mem_of_getElem? (i := 1) rfl)) (fun _ h9 => h9) rfl dX9_count_53 ?_
    refine va_get (D := (dC, dI)) (ci := 4) (v := .int 0) (C := RX4) (T := TX4) (N := 7) hx hb hts (fun _ h => List.mem_cons_of_mem _ (List.mem_append_left _ (List.mem_append_left _ (List.mem_append_left _ (List.mem_append_right _ h))))) hown hK hP 1 rfl rfl 0 (by decide) (hts (.fieldLink RX9 101 "DrumBoats$Roster" "size" "I") (List.mem_of_getElem? (i := 2) rfl)) (fun _ h9 => h9) rfl dX9_count_56 ?_
    refine W.widen (k := 0) (n := 0) (Nat.le_of_ble_eq_true rfl) (Nat.le_of_ble_eq_true rfl) ?_
    exact W.iret (v := 0) hx hb hr (fun t ht hW => ⟨⟨0, (), rfl, (by first | rfl | decide | (unfold f_count; (repeat' split) <;> first | rfl | omega)), trivial⟩, hS.F ht⟩) hS.2.2 dX9_count_59
  · refine lv_tableIn (tgt := 60) hx hb dX9_count_1 (by decide +kernel) (by decide +kernel) rfl (by decide) ?_
    refine lv_aload_n hx hb dX9_count_60 rfl (lv_at hl 0 rfl) ?_
    refine va_get (D := (dC, dI)) (ci := 9) (v := .int 0) (C := RX9) (T := TX9) (N := 16) hx hb hts (fun _ h => List.mem_cons_of_mem _ (List.mem_append_left _ (List.mem_append_left _ (List.mem_append_left _ (List.mem_append_left _ (List.mem_append_right _ h)))))) hown hK hP 0 rfl rfl 2 (by decide) (hts (.fieldLink RX9 24 "DrumBoats" "crewCount" "I") (List.mem_of_getElem? (i := 3) rfl)) (fun _ h9 => h9) rfl dX9_count_61 ?_
    refine W.widen (k := 0) (n := 0) (Nat.le_of_ble_eq_true rfl) (Nat.le_of_ble_eq_true rfl) ?_
    exact W.iret (v := 0) hx hb hr (fun t ht hW => ⟨⟨0, (), rfl, (by first | rfl | decide | (unfold f_count; (repeat' split) <;> first | rfl | omega)), trivial⟩, hS.F ht⟩) hS.2.2 dX9_count_64
  · refine lv_tableIn (tgt := 65) hx hb dX9_count_1 (by decide +kernel) (by decide +kernel) rfl (by decide) ?_
    refine lv_aload_n hx hb dX9_count_65 rfl (lv_at hl 0 rfl) ?_
    refine va_get (D := (dC, dI)) (ci := 9) (v := .int 0) (C := RX9) (T := TX9) (N := 16) hx hb hts (fun _ h => List.mem_cons_of_mem _ (List.mem_append_left _ (List.mem_append_left _ (List.mem_append_left _ (List.mem_append_left _ (List.mem_append_right _ h)))))) hown hK hP 0 rfl rfl 7 (by decide) (hts (.fieldLink RX9 55 "DrumBoats" "ruleCount" "I") (List.mem_of_getElem? (i := 4) rfl)) (fun _ h9 => h9) rfl dX9_count_66 ?_
    refine W.widen (k := 0) (n := 0) (Nat.le_of_ble_eq_true rfl) (Nat.le_of_ble_eq_true rfl) ?_
    exact W.iret (v := 0) hx hb hr (fun t ht hW => ⟨⟨0, (), rfl, (by first | rfl | decide | (unfold f_count; (repeat' split) <;> first | rfl | omega)), trivial⟩, hS.F ht⟩) hS.2.2 dX9_count_69
  · refine lv_tableIn (tgt := 70) hx hb dX9_count_1 (by decide +kernel) (by decide +kernel) rfl (by decide) ?_
    refine lv_aload_n hx hb dX9_count_70 rfl (lv_at hl 0 rfl) ?_
    refine va_get (D := (dC, dI)) (ci := 9) (v := .int 0) (C := RX9) (T := TX9) (N := 16) hx hb hts (fun _ h => List.mem_cons_of_mem _ (List.mem_append_left _ (List.mem_append_left _ (List.mem_append_left _ (List.mem_append_left _ (List.mem_append_right _ h)))))) hown hK hP 0 rfl rfl 13 (by decide) (hts (.fieldLink RX9 77 "DrumBoats" "raceCount" "I") (List.mem_of_getElem? (i := 5) rfl)) (fun _ h9 => h9) rfl dX9_count_71 ?_
    refine W.widen (k := 0) (n := 0) (Nat.le_of_ble_eq_true rfl) (Nat.le_of_ble_eq_true rfl) ?_
    exact W.iret (v := 0) hx hb hr (fun t ht hW => ⟨⟨0, (), rfl, (by first | rfl | decide | (unfold f_count; (repeat' split) <;> first | rfl | omega)), trivial⟩, hS.F ht⟩) hS.2.2 dX9_count_74
  · refine lv_tableIn (tgt := 75) hx hb dX9_count_1 (by decide +kernel) (by decide +kernel) rfl (by decide) ?_
    refine lv_aload_n hx hb dX9_count_75 rfl (lv_at hl 0 rfl) ?_
    have hPc := hP.sub (ws' := [(h0, .inr (9, [.ref aRo, .ref aCr, .int 0, .ref aBa, .ref aSe, .ref aTa, .ref aRu, .int 0, .ref aTl, .int 10, .ref aWa, .ref aCu, .ref aRa, .int 0, .ref aCo, .ref aFi])), (aWa, .inl (caWa, 4, .inl (upd (upd (upd (upd (fun _ => 0) (0 : Int32).toNatClampNeg (-1)) (1 : Int32).toNatClampNeg (-1)) (2 : Int32).toNatClampNeg (-1)) (3 : Int32).toNatClampNeg (-1))))]) [0, 3] rfl
    have hKc := hK.sub (tys' := [(caWa, .int)]) [0] rfl
    have hFc := ro_free hS hA
    refine va_calli (va_runV (As := []) (rest := []) ⟨hx, hb, hml, hown, hts⟩ (k_X9_howManyWait l dC dI s.heap.size h0 aRo aCr aBa aSe aTa aRu aTl aWa aCu aRa aCo aFi caWa) (cwV 0 hts gX9_count_X9_howManyWait rfl rfl rfl (by decide +kernel) ⟨(Nat.le_of_ble_eq_true rfl), (Nat.le_of_ble_eq_true rfl)⟩) ⟨fun a U g mk q => by obtain ⟨q0, q1, qP, qK⟩ := q; exact ⟨q0, q1, qP, va_K.moved (u := U) (U := U.calling g mk a) (Vm.Alike.refl U.vm) qK⟩, va_recv hKc hPc (ci := 9) (q0 := 0) rfl rfl, fun U hU hW => ⟨rfl, by rw [hU], by rw [hU]; exact hPc, va_K.moved hW.alike hKc⟩⟩ rfl rfl hl.1 rfl (lv_room (Nat.le_of_ble_eq_true rfl)) dX9_count_76 ⟨(Nat.le_of_ble_eq_true rfl), (Nat.le_of_ble_eq_true rfl)⟩) hS (fun q _ h => hFc q h) hFc (fun r u t H1 locs ht hvm hw hB hz1 hk1 hS => ?_)
    refine W.widen (k := 0) (n := 0) (Nat.le_of_ble_eq_true rfl) (Nat.le_of_ble_eq_true rfl) ?_
    have hP := P_ro hP hk1
    generalize H1 = H at hP hS ⊢
    subst hw
    refine W.widen (k := 0) (n := 0) (Nat.le_of_ble_eq_true rfl) (Nat.le_of_ble_eq_true rfl) ?_
    exact W.iret (v := 0) hx hb hr (fun t ht hW => ⟨⟨0, (), rfl, (by first | rfl | decide | (unfold f_count; (repeat' split) <;> first | rfl | omega)), trivial⟩, hS.F ht⟩) hS.2.2 dX9_count_79
  · refine lv_tableIn (tgt := 80) hx hb dX9_count_1 (by decide +kernel) (by decide +kernel) rfl (by decide) ?_
    refine lv_aload_n hx hb dX9_count_80 rfl (lv_at hl 0 rfl) ?_
    refine va_get (D := (dC, dI)) (ci := 9) (v := .ref aTa) (C := RX9) (T := TX9) (N := 16) hx hb hts (fun _ h => List.mem_cons_of_mem _ (List.mem_append_left _ (List.mem_append_left _ (List.mem_append_left _ (List.mem_append_left _ (List.mem_append_right _ h)))))) hown hK hP 0 rfl rfl 5 (by decide) (hts (.fieldLink RX9 45 "DrumBoats" "tape" "LDrumBoats$Tape;") (List.mem_of_getElem? (i := 6) rfl)) (fun _ h9 => h9) rfl dX9_count_81 ?_
    refine va_get (D := (dC, dI)) (ci := 7) (v := .int 0) (C := RX7) (T := TX7) (N := 3) hx hb hts (fun _ h => List.mem_cons_of_mem _ (List.mem_append_left _ (List.mem_append_left _ (List.mem_append_right _ h)))) hown hK hP 2 rfl rfl 0 (by decide) (hts (.fieldLink RX9 192 "DrumBoats$Tape" "size" "I") (List.mem_of_getElem? (i := 7) rfl)) (fun _ h9 => h9) rfl dX9_count_84 ?_
    refine W.widen (k := 0) (n := 0) (Nat.le_of_ble_eq_true rfl) (Nat.le_of_ble_eq_true rfl) ?_
    exact W.iret (v := 0) hx hb hr (fun t ht hW => ⟨⟨0, (), rfl, (by first | rfl | decide | (unfold f_count; (repeat' split) <;> first | rfl | omega)), trivial⟩, hS.F ht⟩) hS.2.2 dX9_count_87
  · refine lv_tableIn (tgt := 88) hx hb dX9_count_1 (by decide +kernel) (by decide +kernel) rfl (by decide) ?_
    refine lv_aload_n hx hb dX9_count_88 rfl (lv_at hl 0 rfl) ?_
    refine va_get (D := (dC, dI)) (ci := 9) (v := .int 10) (C := RX9) (T := TX9) (N := 16) hx hb hts (fun _ h => List.mem_cons_of_mem _ (List.mem_append_left _ (List.mem_append_left _ (List.mem_append_left _ (List.mem_append_left _ (List.mem_append_right _ h)))))) hown hK hP 0 rfl rfl 9 (by decide) (hts (.fieldLink RX9 62 "DrumBoats" "restMinutes" "I") (List.mem_of_getElem? (i := 8) rfl)) (fun _ h9 => h9) rfl dX9_count_89 ?_
    refine W.widen (k := 0) (n := 0) (Nat.le_of_ble_eq_true rfl) (Nat.le_of_ble_eq_true rfl) ?_
    exact W.iret (v := 10) hx hb hr (fun t ht hW => ⟨⟨10, (), rfl, (by first | rfl | decide | (unfold f_count; (repeat' split) <;> first | rfl | omega)), trivial⟩, hS.F ht⟩) hS.2.2 dX9_count_92
  · refine lv_tableIn (tgt := 93) hx hb dX9_count_1 (by decide +kernel) (by decide +kernel) rfl (by decide) ?_
    refine lv_aload_n hx hb dX9_count_93 rfl (lv_at hl 0 rfl) ?_
    have hPc := hP.sub (ws' := [(h0, .inr (9, [.ref aRo, .ref aCr, .int 0, .ref aBa, .ref aSe, .ref aTa, .ref aRu, .int 0, .ref aTl, .int 10, .ref aWa, .ref aCu, .ref aRa, .int 0, .ref aCo, .ref aFi]))]) [0] rfl
    have hKc := hK.sub (tys' := []) [] rfl
    have hFc := ro_free hS hA
    refine va_calli (va_runV (As := []) (rest := []) ⟨hx, hb, hml, hown, hts⟩ (k_X9_howManyAreSeated l dC dI s.heap.size h0 aRo aCr aBa aSe aTa aRu aTl aWa aCu aRa aCo aFi) (cwV 0 hts gX9_count_X9_howManyAreSeated rfl rfl rfl (by decide +kernel) ⟨(Nat.le_of_ble_eq_true rfl), (Nat.le_of_ble_eq_true rfl)⟩) ⟨fun a U g mk q => by obtain ⟨q0, q1, qP, qK⟩ := q; exact ⟨q0, q1, qP, va_K.moved (u := U) (U := U.calling g mk a) (Vm.Alike.refl U.vm) qK⟩, va_recv hKc hPc (ci := 9) (q0 := 0) rfl rfl, fun U hU hW => ⟨rfl, by rw [hU], by rw [hU]; exact hPc, va_K.moved hW.alike hKc⟩⟩ rfl rfl hl.1 rfl (lv_room (Nat.le_of_ble_eq_true rfl)) dX9_count_94 ⟨(Nat.le_of_ble_eq_true rfl), (Nat.le_of_ble_eq_true rfl)⟩) hS (fun q _ h => hFc q h) hFc (fun r u t H1 locs ht hvm hw hB hz1 hk1 hS => ?_)
    refine W.widen (k := 0) (n := 0) (Nat.le_of_ble_eq_true rfl) (Nat.le_of_ble_eq_true rfl) ?_
    have hP := P_ro hP hk1
    generalize H1 = H at hP hS ⊢
    subst hw
    refine W.widen (k := 0) (n := 0) (Nat.le_of_ble_eq_true rfl) (Nat.le_of_ble_eq_true rfl) ?_
    exact W.iret (v := 0) hx hb hr (fun t ht hW => ⟨⟨0, (), rfl, (by first | rfl | decide | (unfold f_count; (repeat' split) <;> first | rfl | omega)), trivial⟩, hS.F ht⟩) hS.2.2 dX9_count_97
  · refine lv_tableIn (tgt := 98) hx hb dX9_count_1 (by decide +kernel) (by decide +kernel) rfl (by decide) ?_
    refine lv_aload_n hx hb dX9_count_98 rfl (lv_at hl 0 rfl) ?_
    have hPc := hP.sub (ws' := [(h0, .inr (9, [.ref aRo, .ref aCr, .int 0, .ref aBa, .ref aSe, .ref aTa, .ref aRu, .int 0, .ref aTl, .int 10, .ref aWa, .ref aCu, .ref aRa, .int 0, .ref aCo, .ref aFi]))]) [0] rfl
    have hKc := hK.sub (tys' := []) [] rfl
    have hFc := ro_free hS hA
    refine va_calli (va_runV (As := []) (rest := []) ⟨hx, hb, hml, hown, hts⟩ (k_X9_howManyTimes l dC dI s.heap.size h0 aRo aCr aBa aSe aTa aRu aTl aWa aCu aRa aCo aFi) (cwV 0 hts gX9_count_X9_howManyTimes rfl rfl rfl (by decide +kernel) ⟨(Nat.le_of_ble_eq_true rfl), (Nat.le_of_ble_eq_true rfl)⟩) ⟨fun a U g mk q => by obtain ⟨q0, q1, qP, qK⟩ := q; exact ⟨q0, q1, qP, va_K.moved (u := U) (U := U.calling g mk a) (Vm.Alike.refl U.vm) qK⟩, va_recv hKc hPc (ci := 9) (q0 := 0) rfl rfl, fun U hU hW => ⟨rfl, by rw [hU], by rw [hU]; exact hPc, va_K.moved hW.alike hKc⟩⟩ rfl rfl hl.1 rfl (lv_room (Nat.le_of_ble_eq_true rfl)) dX9_count_99 ⟨(Nat.le_of_ble_eq_true rfl), (Nat.le_of_ble_eq_true rfl)⟩) hS (fun q _ h => hFc q h) hFc (fun r u t H1 locs ht hvm hw hB hz1 hk1 hS => ?_)
    refine W.widen (k := 0) (n := 0) (Nat.le_of_ble_eq_true rfl) (Nat.le_of_ble_eq_true rfl) ?_
    have hP := P_ro hP hk1
    generalize H1 = H at hP hS ⊢
    subst hw
    refine W.widen (k := 0) (n := 0) (Nat.le_of_ble_eq_true rfl) (Nat.le_of_ble_eq_true rfl) ?_
    exact W.iret (v := 0) hx hb hr (fun t ht hW => ⟨⟨0, (), rfl, (by first | rfl | decide | (unfold f_count; (repeat' split) <;> first | rfl | omega)), trivial⟩, hS.F ht⟩) hS.2.2 dX9_count_102
