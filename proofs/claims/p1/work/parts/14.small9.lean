set_option maxHeartbeats 4000000 in
set_option maxRecDepth 100000 in
theorem k_X9_isCrew (l : Launch) (dC : Nat → ClassId) (dI : Nat → Nat → Nat) (sz : Nat) (h0 : Nat) (p0 : Int32) (aRo : Nat) (aCr : Nat) (aBa : Nat) (aSe : Nat) (aTa : Nat) (aRu : Nat) (aTl : Nat) (aWa : Nat) (aCu : Nat) (aRa : Nat) (aCo : Nat) (aFi : Nat) : Met l yX9_isCrew wsX9_isCrew ({ frames := 1, cells := 0, slots := 0, locals := 22 }) (va_Pc [.ref h0, .int p0] (fun U => U.heap.size = sz ∧ va_P (dC, dI) vwCl [(h0, .inr (9, [.ref aRo, .ref aCr, .int 0, .ref aBa, .ref aSe, .ref aTa, .ref aRu, .int 0, .ref aTl, .int 10, .ref aWa, .ref aCu, .ref aRa, .int 0, .ref aCo, .ref aFi]))] U.heap ∧ va_K (dC, dI) vwCl [] U)) (va_Qi (fun (r : Int32) (_ : Unit) => r = 0) (fun _ _ => True) (va_A ([] : va_W) sz)) 0 0 (va_A ([] : va_W) sz) := by
  refine Met.ofW (cc := cX9_isCrew) (maxL := 2) (ret := (some .boolean)) (by decide) rfl ?_
  intro p e s m args below meth c s₁ B hml hv
  obtain ⟨rfl, hsz, hP, hK⟩ := hv
  have hx := B.exec
  have hb := B.bytes
  have hr := B.returns
  have hts := atoms_spec (ws := wsX9_isCrew) B.pre
  have hown : s.vm.findClass RX9 = some m.cls := findClass_of_methodNamed B.named
  have hlocks := B.notSynchronized
  subst hsz
  generalize hAe : va_A ([] : va_W) s.heap.size = A
  have hA : ∀ q : Nat, s.heap.size ≤ q → A q := fun q h => by rw [← hAe]; exact Or.inr h
  have hS : va_S A s.heap s.heap [] := va_S.rf
  have hl := lv_entry ([.ref h0, .int p0]) (n := 2) (Nat.le_of_ble_eq_true rfl)
  rw [lg_entry_eq]
  generalize (lg_sl ([.ref h0, .int p0]) ++ List.replicate (2 - (lg_sl ([.ref h0, .int p0])).length) Slot.unset).toArray = ls at hl ⊢
  have hl : lv_has ls 2 [(0, .ref h0), (1, .int p0)] := hl
  refine lv_iload_n hx hb dX9_isCrew_0 rfl (lv_at hl 1 rfl) ?_
  refine lv_iconst (v := 0) hx hb dX9_isCrew_1 (by decide +kernel) ?_
  refine lv_aload_n hx hb dX9_isCrew_2 rfl (lv_at hl 0 rfl) ?_
  refine va_get (D := (dC, dI)) (ci := 9) (v := .int 0) (C := RX9) (T := TX9) (N := 16) hx hb hts (fun _ h => List.mem_cons_of_mem _ (List.mem_append_right _ h)) hown hK hP 0 rfl rfl 2 (by decide) (hts (.fieldLink RX9 24 "DrumBoats" "crewCount" "I") (List.mem_of_getElem? (i := 1) rfl)) (fun _ h9 => h9) rfl dX9_isCrew_3 ?_
  refine lv_iconst (v := 1) hx hb dX9_isCrew_6 (by decide +kernel) ?_
  refine lv_isub hx hb dX9_isCrew_7 ?_
  refine ti_eq (y := (-1)) (by decide +kernel) ?_
  have hPc := hP.sub (ws' := ([] : va_W)) [] rfl
  have hKc := hK.sub (tys' := []) [] rfl
  have hFc := ro_free hS hA
  refine va_calli (va_runS (As := [.int p0, .int 0, .int (-1)]) (rest := []) ⟨hx, hb, hml, hown, hts⟩ (k_X9_within l dC dI s.heap.size p0 0 (-1)) (va_cwS 3 hts gX9_isCrew_X9_within rfl rfl rfl (by decide +kernel) ⟨(Nat.le_of_ble_eq_true rfl), (Nat.le_of_ble_eq_true rfl)⟩) ⟨fun a U g mk q => by obtain ⟨q0, q1, qP, qK⟩ := q; exact ⟨q0, q1, qP, va_K.moved (u := U) (U := U.calling g mk a) (Vm.Alike.refl U.vm) qK⟩, fun U hU hW => ⟨rfl, by rw [hU], by rw [hU]; exact hPc, va_K.moved hW.alike hKc⟩⟩ rfl rfl hl.1 rfl (lv_room (Nat.le_of_ble_eq_true rfl)) dX9_isCrew_8 ⟨(Nat.le_of_ble_eq_true rfl), (Nat.le_of_ble_eq_true rfl)⟩) hS (fun q _ h => hFc q h) hFc (fun r u t H1 locs ht hvm hw hB hz1 hk1 hS => ?_)
  refine W.widen (k := 0) (n := 0) (Nat.le_of_ble_eq_true rfl) (Nat.le_of_ble_eq_true rfl) ?_
  have hP := P_ro hP hk1
  generalize H1 = H at hP hS ⊢
  rcases hw with ⟨rfl, e_1⟩ | ⟨rfl, e_1⟩
  · have e_1 : (0 ≤ p0.toInt ∧ p0.toInt ≤ (-1)) := e_1
    exact absurd e_1 (by omega)
  · have e_1 : ¬ (0 ≤ p0.toInt ∧ p0.toInt ≤ (-1)) := e_1
    refine W.widen (k := 0) (n := 0) (Nat.le_of_ble_eq_true rfl) (Nat.le_of_ble_eq_true rfl) ?_
    exact W.zret (v := 0) hx hb hr (by decide) (fun t ht hW => ⟨⟨0, (), rfl, (by first | rfl | (exfalso; omega)), trivial⟩, hS.F ht⟩) hS.2.2 dX9_isCrew_11

set_option maxHeartbeats 4000000 in
set_option maxRecDepth 100000 in
theorem k_X9_isRace (l : Launch) (dC : Nat → ClassId) (dI : Nat → Nat → Nat) (sz : Nat) (h0 : Nat) (p0 : Int32) (aRo : Nat) (aCr : Nat) (aBa : Nat) (aSe : Nat) (aTa : Nat) (aRu : Nat) (aTl : Nat) (aWa : Nat) (aCu : Nat) (aRa : Nat) (aCo : Nat) (aFi : Nat) : Met l yX9_isRace wsX9_isRace ({ frames := 1, cells := 0, slots := 0, locals := 22 }) (va_Pc [.ref h0, .int p0] (fun U => U.heap.size = sz ∧ va_P (dC, dI) vwCl [(h0, .inr (9, [.ref aRo, .ref aCr, .int 0, .ref aBa, .ref aSe, .ref aTa, .ref aRu, .int 0, .ref aTl, .int 10, .ref aWa, .ref aCu, .ref aRa, .int 0, .ref aCo, .ref aFi]))] U.heap ∧ va_K (dC, dI) vwCl [] U)) (va_Qi (fun (r : Int32) (_ : Unit) => r = 0) (fun _ _ => True) (va_A ([] : va_W) sz)) 0 0 (va_A ([] : va_W) sz) := by
  refine Met.ofW (cc := cX9_isRace) (maxL := 2) (ret := (some .boolean)) (by decide) rfl ?_
  intro p e s m args below meth c s₁ B hml hv
  obtain ⟨rfl, hsz, hP, hK⟩ := hv
  have hx := B.exec
  have hb := B.bytes
  have hr := B.returns
  have hts := atoms_spec (ws := wsX9_isRace) B.pre
  have hown : s.vm.findClass RX9 = some m.cls := findClass_of_methodNamed B.named
  have hlocks := B.notSynchronized
  subst hsz
  generalize hAe : va_A ([] : va_W) s.heap.size = A
  have hA : ∀ q : Nat, s.heap.size ≤ q → A q := fun q h => by rw [← hAe]; exact Or.inr h
  have hS : va_S A s.heap s.heap [] := va_S.rf
  have hl := lv_entry ([.ref h0, .int p0]) (n := 2) (Nat.le_of_ble_eq_true rfl)
  rw [lg_entry_eq]
  generalize (lg_sl ([.ref h0, .int p0]) ++ List.replicate (2 - (lg_sl ([.ref h0, .int p0])).length) Slot.unset).toArray = ls at hl ⊢
  have hl : lv_has ls 2 [(0, .ref h0), (1, .int p0)] := hl
  refine lv_iload_n hx hb dX9_isRace_0 rfl (lv_at hl 1 rfl) ?_
  refine lv_iconst (v := 0) hx hb dX9_isRace_1 (by decide +kernel) ?_
  refine lv_aload_n hx hb dX9_isRace_2 rfl (lv_at hl 0 rfl) ?_
  refine va_get (D := (dC, dI)) (ci := 9) (v := .int 0) (C := RX9) (T := TX9) (N := 16) hx hb hts (fun _ h => List.mem_cons_of_mem _ (List.mem_append_right _ h)) hown hK hP 0 rfl rfl 13 (by decide) (hts (.fieldLink RX9 77 "DrumBoats" "raceCount" "I") (List.mem_of_getElem? (i := 1) rfl)) (fun _ h9 => h9) rfl dX9_isRace_3 ?_
  refine lv_iconst (v := 1) hx hb dX9_isRace_6 (by decide +kernel) ?_
  refine lv_isub hx hb dX9_isRace_7 ?_
  refine ti_eq (y := (-1)) (by decide +kernel) ?_
  have hPc := hP.sub (ws' := ([] : va_W)) [] rfl
  have hKc := hK.sub (tys' := []) [] rfl
  have hFc := ro_free hS hA
  refine va_calli (va_runS (As := [.int p0, .int 0, .int (-1)]) (rest := []) ⟨hx, hb, hml, hown, hts⟩ (k_X9_within l dC dI s.heap.size p0 0 (-1)) (va_cwS 3 hts gX9_isRace_X9_within rfl rfl rfl (by decide +kernel) ⟨(Nat.le_of_ble_eq_true rfl), (Nat.le_of_ble_eq_true rfl)⟩) ⟨fun a U g mk q => by obtain ⟨q0, q1, qP, qK⟩ := q; exact ⟨q0, q1, qP, va_K.moved (u := U) (U := U.calling g mk a) (Vm.Alike.refl U.vm) qK⟩, fun U hU hW => ⟨rfl, by rw [hU], by rw [hU]; exact hPc, va_K.moved hW.alike hKc⟩⟩ rfl rfl hl.1 rfl (lv_room (Nat.le_of_ble_eq_true rfl)) dX9_isRace_8 ⟨(Nat.le_of_ble_eq_true rfl), (Nat.le_of_ble_eq_true rfl)⟩) hS (fun q _ h => hFc q h) hFc (fun r u t H1 locs ht hvm hw hB hz1 hk1 hS => ?_)
  refine W.widen (k := 0) (n := 0) (Nat.le_of_ble_eq_true rfl) (Nat.le_of_ble_eq_true rfl) ?_
  have hP := P_ro hP hk1
  generalize H1 = H at hP hS ⊢
  rcases hw with ⟨rfl, e_1⟩ | ⟨rfl, e_1⟩
  · have e_1 : (0 ≤ p0.toInt ∧ p0.toInt ≤ (-1)) := e_1
    exact absurd e_1 (by omega)
  · have e_1 : ¬ (0 ≤ p0.toInt ∧ p0.toInt ≤ (-1)) := e_1
    refine W.widen (k := 0) (n := 0) (Nat.le_of_ble_eq_true rfl) (Nat.le_of_ble_eq_true rfl) ?_
    exact W.zret (v := 0) hx hb hr (by decide) (fun t ht hW => ⟨⟨0, (), rfl, (by first | rfl | (exfalso; omega)), trivial⟩, hS.F ht⟩) hS.2.2 dX9_isRace_11

set_option maxHeartbeats 4000000 in
set_option maxRecDepth 100000 in
theorem k_X9_howManyWait (l : Launch) (dC : Nat → ClassId) (dI : Nat → Nat → Nat) (sz : Nat) (h0 : Nat) (aRo : Nat) (aCr : Nat) (aBa : Nat) (aSe : Nat) (aTa : Nat) (aRu : Nat) (aTl : Nat) (aWa : Nat) (aCu : Nat) (aRa : Nat) (aCo : Nat) (aFi : Nat) (caWa : ClassId) : Met l yX9_howManyWait wsX9_howManyWait ({ frames := 0, cells := 0, slots := 0, locals := 0 }) (va_Pc [.ref h0] (fun U => U.heap.size = sz ∧ va_P (dC, dI) vwCl [(h0, .inr (9, [.ref aRo, .ref aCr, .int 0, .ref aBa, .ref aSe, .ref aTa, .ref aRu, .int 0, .ref aTl, .int 10, .ref aWa, .ref aCu, .ref aRa, .int 0, .ref aCo, .ref aFi])), (aWa, .inl (caWa, 4, .inl (upd (upd (upd (upd (fun _ => 0) (0 : Int32).toNatClampNeg (-1)) (1 : Int32).toNatClampNeg (-1)) (2 : Int32).toNatClampNeg (-1)) (3 : Int32).toNatClampNeg (-1))))] U.heap ∧ va_K (dC, dI) vwCl [(caWa, .int)] U)) (va_Qi (fun (r : Int32) (_ : Unit) => r = 0) (fun _ _ => True) (va_A ([] : va_W) sz)) 0 0 (va_A ([] : va_W) sz) := by
  refine Met.ofW (cc := cX9_howManyWait) (maxL := 3) (ret := (some .int)) (by decide) rfl ?_
  intro p e s m args below meth c s₁ B hml hv
  obtain ⟨rfl, hsz, hP, hK⟩ := hv
  have hx := B.exec
  have hb := B.bytes
  have hr := B.returns
  have hts := atoms_spec (ws := wsX9_howManyWait) B.pre
  have hown : s.vm.findClass RX9 = some m.cls := findClass_of_methodNamed B.named
  have hlocks := B.notSynchronized
  subst hsz
  generalize hAe : va_A ([] : va_W) s.heap.size = A
  have hA : ∀ q : Nat, s.heap.size ≤ q → A q := fun q h => by rw [← hAe]; exact Or.inr h
  have hS : va_S A s.heap s.heap [] := va_S.rf
  have hl := lv_entry ([.ref h0]) (n := 3) (Nat.le_of_ble_eq_true rfl)
  rw [lg_entry_eq]
  generalize (lg_sl ([.ref h0]) ++ List.replicate (3 - (lg_sl ([.ref h0])).length) Slot.unset).toArray = ls at hl ⊢
  have hl : lv_has ls 3 [(0, .ref h0)] := hl
  refine lv_iconst (v := 0) hx hb dX9_howManyWait_0 (by decide +kernel) ?_
  refine lv_istore_n (lv' := [(1, .int 0), (0, .ref h0)]) hx hb dX9_howManyWait_1 rfl hl (by decide) rfl (fun ls hl => ?_)
  refine lv_iconst (v := 0) hx hb dX9_howManyWait_2 (by decide +kernel) ?_
  refine lv_istore_n (lv' := [(2, .int 0), (1, .int 0), (0, .ref h0)]) hx hb dX9_howManyWait_3 rfl hl (by decide) rfl (fun ls hl => ?_)
  refine lv_iload_n hx hb dX9_howManyWait_4 rfl (lv_at hl 0 rfl) ?_
  refine lv_iconst (v := 4) hx hb dX9_howManyWait_5 (by decide +kernel) ?_
  refine lv_icmp_ge (tgt := 33) hx hb dX9_howManyWait_6 (by decide) (fun c9 => absurd c9 (by decide +kernel)) (fun _ => ?_)
  refine lv_iload_n hx hb dX9_howManyWait_9 rfl (lv_at hl 1 rfl) ?_
  refine lv_aload_n hx hb dX9_howManyWait_10 rfl (lv_at hl 2 rfl) ?_
  refine va_get (D := (dC, dI)) (ci := 9) (v := .ref aWa) (C := RX9) (T := TX9) (N := 16) hx hb hts (fun _ h => List.mem_cons_of_mem _ (List.mem_append_right _ h)) hown hK hP 0 rfl rfl 10 (by decide) (hts (.fieldLink RX9 65 "DrumBoats" "waiting" "[I") (List.mem_of_getElem? (i := 1) rfl)) (fun _ h9 => h9) rfl dX9_howManyWait_11 ?_
  refine lv_iload_n hx hb dX9_howManyWait_14 rfl (lv_at hl 0 rfl) ?_
  refine va_iald hx hb hK hP 1 0 rfl rfl (by unfold vp_in; decide +kernel) dX9_howManyWait_15 ?_
  refine ti_eq (y := (-1)) (by decide +kernel) ?_
  refine lv_iconst (v := (-1)) hx hb dX9_howManyWait_16 (by decide +kernel) ?_
  refine lv_icmp_eq (tgt := 24) hx hb dX9_howManyWait_17 (by decide) (fun _ => ?_) (fun c9 => absurd c9 (by decide +kernel))
  refine lv_iconst (v := 0) hx hb dX9_howManyWait_24 (by decide +kernel) ?_
  refine lv_iadd hx hb dX9_howManyWait_25 ?_
  refine ti_eq (y := 0) (by decide +kernel) ?_
  refine lv_istore_n (lv' := [(1, .int 0), (2, .int 0), (0, .ref h0)]) hx hb dX9_howManyWait_26 rfl hl (by decide) rfl (fun ls hl => ?_)
  refine lv_iinc (v := 1) (lv' := [(2, .int 1), (1, .int 0), (0, .ref h0)]) hx hb dX9_howManyWait_27 hl (k := 1) rfl (by decide +kernel) (by decide) rfl (fun ls hl => ?_)
  refine lv_goto (tgt := 4) hx hb dX9_howManyWait_30 (by decide) ?_
  refine lv_iload_n hx hb dX9_howManyWait_4 rfl (lv_at hl 0 rfl) ?_
  refine lv_iconst (v := 4) hx hb dX9_howManyWait_5 (by decide +kernel) ?_
  refine lv_icmp_ge (tgt := 33) hx hb dX9_howManyWait_6 (by decide) (fun c9 => absurd c9 (by decide +kernel)) (fun _ => ?_)
  refine lv_iload_n hx hb dX9_howManyWait_9 rfl (lv_at hl 1 rfl) ?_
  refine lv_aload_n hx hb dX9_howManyWait_10 rfl (lv_at hl 2 rfl) ?_
  refine va_get (D := (dC, dI)) (ci := 9) (v := .ref aWa) (C := RX9) (T := TX9) (N := 16) hx hb hts (fun _ h => List.mem_cons_of_mem _ (List.mem_append_right _ h)) hown hK hP 0 rfl rfl 10 (by decide) (hts (.fieldLink RX9 65 "DrumBoats" "waiting" "[I") (List.mem_of_getElem? (i := 1) rfl)) (fun _ h9 => h9) rfl dX9_howManyWait_11 ?_
  refine lv_iload_n hx hb dX9_howManyWait_14 rfl (lv_at hl 0 rfl) ?_
  refine va_iald hx hb hK hP 1 0 rfl rfl (by unfold vp_in; decide +kernel) dX9_howManyWait_15 ?_
  refine ti_eq (y := (-1)) (by decide +kernel) ?_
  refine lv_iconst (v := (-1)) hx hb dX9_howManyWait_16 (by decide +kernel) ?_
  refine lv_icmp_eq (tgt := 24) hx hb dX9_howManyWait_17 (by decide) (fun _ => ?_) (fun c9 => absurd c9 (by decide +kernel))
  refine lv_iconst (v := 0) hx hb dX9_howManyWait_24 (by decide +kernel) ?_
  refine lv_iadd hx hb dX9_howManyWait_25 ?_
  refine ti_eq (y := 0) (by decide +kernel) ?_
  refine lv_istore_n (lv' := [(1, .int 0), (2, .int 1), (0, .ref h0)]) hx hb dX9_howManyWait_26 rfl hl (by decide) rfl (fun ls hl => ?_)
  refine lv_iinc (v := 2) (lv' := [(2, .int 2), (1, .int 0), (0, .ref h0)]) hx hb dX9_howManyWait_27 hl (k := 1) rfl (by decide +kernel) (by decide) rfl (fun ls hl => ?_)
  refine lv_goto (tgt := 4) hx hb dX9_howManyWait_30 (by decide) ?_
  refine lv_iload_n hx hb dX9_howManyWait_4 rfl (lv_at hl 0 rfl) ?_
  refine lv_iconst (v := 4) hx hb dX9_howManyWait_5 (by decide +kernel) ?_
  refine lv_icmp_ge (tgt := 33) hx hb dX9_howManyWait_6 (by decide) (fun c9 => absurd c9 (by decide +kernel)) (fun _ => ?_)
  refine lv_iload_n hx hb dX9_howManyWait_9 rfl (lv_at hl 1 rfl) ?_
  refine lv_aload_n hx hb dX9_howManyWait_10 rfl (lv_at hl 2 rfl) ?_
  refine va_get (D := (dC, dI)) (ci := 9) (v := .ref aWa) (C := RX9) (T := TX9) (N := 16) hx hb hts (fun _ h => List.mem_cons_of_mem _ (List.mem_append_right _ h)) hown hK hP 0 rfl rfl 10 (by decide) (hts (.fieldLink RX9 65 "DrumBoats" "waiting" "[I") (List.mem_of_getElem? (i := 1) rfl)) (fun _ h9 => h9) rfl dX9_howManyWait_11 ?_
  refine lv_iload_n hx hb dX9_howManyWait_14 rfl (lv_at hl 0 rfl) ?_
  refine va_iald hx hb hK hP 1 0 rfl rfl (by unfold vp_in; decide +kernel) dX9_howManyWait_15 ?_
  refine ti_eq (y := (-1)) (by decide +kernel) ?_
  refine lv_iconst (v := (-1)) hx hb dX9_howManyWait_16 (by decide +kernel) ?_
  refine lv_icmp_eq (tgt := 24) hx hb dX9_howManyWait_17 (by decide) (fun _ => ?_) (fun c9 => absurd c9 (by decide +kernel))
  refine lv_iconst (v := 0) hx hb dX9_howManyWait_24 (by decide +kernel) ?_
  refine lv_iadd hx hb dX9_howManyWait_25 ?_
  refine ti_eq (y := 0) (by decide +kernel) ?_
  refine lv_istore_n (lv' := [(1, .int 0), (2, .int 2), (0, .ref h0)]) hx hb dX9_howManyWait_26 rfl hl (by decide) rfl (fun ls hl => ?_)
  refine lv_iinc (v := 3) (lv' := [(2, .int 3), (1, .int 0), (0, .ref h0)]) hx hb dX9_howManyWait_27 hl (k := 1) rfl (by decide +kernel) (by decide) rfl (fun ls hl => ?_)
  refine lv_goto (tgt := 4) hx hb dX9_howManyWait_30 (by decide) ?_
  refine lv_iload_n hx hb dX9_howManyWait_4 rfl (lv_at hl 0 rfl) ?_
  refine lv_iconst (v := 4) hx hb dX9_howManyWait_5 (by decide +kernel) ?_
  refine lv_icmp_ge (tgt := 33) hx hb dX9_howManyWait_6 (by decide) (fun c9 => absurd c9 (by decide +kernel)) (fun _ => ?_)
  refine lv_iload_n hx hb dX9_howManyWait_9 rfl (lv_at hl 1 rfl) ?_
  refine lv_aload_n hx hb dX9_howManyWait_10 rfl (lv_at hl 2 rfl) ?_
  refine va_get (D := (dC, dI)) (ci := 9) (v := .ref aWa) (C := RX9) (T := TX9) (N := 16) hx hb hts (fun _ h => List.mem_cons_of_mem _ (List.mem_append_right _ h)) hown hK hP 0 rfl rfl 10 (by decide) (hts (.fieldLink RX9 65 "DrumBoats" "waiting" "[I") (List.mem_of_getElem? (i := 1) rfl)) (fun _ h9 => h9) rfl dX9_howManyWait_11 ?_
  refine lv_iload_n hx hb dX9_howManyWait_14 rfl (lv_at hl 0 rfl) ?_
  refine va_iald hx hb hK hP 1 0 rfl rfl (by unfold vp_in; decide +kernel) dX9_howManyWait_15 ?_
  refine ti_eq (y := (-1)) (by decide +kernel) ?_
  refine lv_iconst (v := (-1)) hx hb dX9_howManyWait_16 (by decide +kernel) ?_
  refine lv_icmp_eq (tgt := 24) hx hb dX9_howManyWait_17 (by decide) (fun _ => ?_) (fun c9 => absurd c9 (by decide +kernel))
  refine lv_iconst (v := 0) hx hb dX9_howManyWait_24 (by decide +kernel) ?_
  refine lv_iadd hx hb dX9_howManyWait_25 ?_
  refine ti_eq (y := 0) (by decide +kernel) ?_
  refine lv_istore_n (lv' := [(1, .int 0), (2, .int 3), (0, .ref h0)]) hx hb dX9_howManyWait_26 rfl hl (by decide) rfl (fun ls hl => ?_)
  refine lv_iinc (v := 4) (lv' := [(2, .int 4), (1, .int 0), (0, .ref h0)]) hx hb dX9_howManyWait_27 hl (k := 1) rfl (by decide +kernel) (by decide) rfl (fun ls hl => ?_)
  refine lv_goto (tgt := 4) hx hb dX9_howManyWait_30 (by decide) ?_
  refine lv_iload_n hx hb dX9_howManyWait_4 rfl (lv_at hl 0 rfl) ?_
  refine lv_iconst (v := 4) hx hb dX9_howManyWait_5 (by decide +kernel) ?_
  refine lv_icmp_ge (tgt := 33) hx hb dX9_howManyWait_6 (by decide) (fun _ => ?_) (fun c9 => absurd c9 (by decide +kernel))
  refine lv_iload_n hx hb dX9_howManyWait_33 rfl (lv_at hl 1 rfl) ?_
  refine W.widen (k := 0) (n := 0) (Nat.le_of_ble_eq_true rfl) (Nat.le_of_ble_eq_true rfl) ?_
  exact W.iret (v := 0) hx hb hr (fun t ht hW => ⟨⟨0, (), rfl, (by first | rfl | (exfalso; omega)), trivial⟩, hS.F ht⟩) hS.2.2 dX9_howManyWait_34

set_option maxHeartbeats 4000000 in
set_option maxRecDepth 100000 in
theorem k_X9_howManyAreSeated (l : Launch) (dC : Nat → ClassId) (dI : Nat → Nat → Nat) (sz : Nat) (h0 : Nat) (aRo : Nat) (aCr : Nat) (aBa : Nat) (aSe : Nat) (aTa : Nat) (aRu : Nat) (aTl : Nat) (aWa : Nat) (aCu : Nat) (aRa : Nat) (aCo : Nat) (aFi : Nat) : Met l yX9_howManyAreSeated wsX9_howManyAreSeated ({ frames := 0, cells := 0, slots := 0, locals := 0 }) (va_Pc [.ref h0] (fun U => U.heap.size = sz ∧ va_P (dC, dI) vwCl [(h0, .inr (9, [.ref aRo, .ref aCr, .int 0, .ref aBa, .ref aSe, .ref aTa, .ref aRu, .int 0, .ref aTl, .int 10, .ref aWa, .ref aCu, .ref aRa, .int 0, .ref aCo, .ref aFi]))] U.heap ∧ va_K (dC, dI) vwCl [] U)) (va_Qi (fun (r : Int32) (_ : Unit) => r = 0) (fun _ _ => True) (va_A ([] : va_W) sz)) 0 0 (va_A ([] : va_W) sz) := by
  refine Met.ofW (cc := cX9_howManyAreSeated) (maxL := 3) (ret := (some .int)) (by decide) rfl ?_
  intro p e s m args below meth c s₁ B hml hv
  obtain ⟨rfl, hsz, hP, hK⟩ := hv
  have hx := B.exec
  have hb := B.bytes
  have hr := B.returns
  have hts := atoms_spec (ws := wsX9_howManyAreSeated) B.pre
  have hown : s.vm.findClass RX9 = some m.cls := findClass_of_methodNamed B.named
  have hlocks := B.notSynchronized
  subst hsz
  generalize hAe : va_A ([] : va_W) s.heap.size = A
  have hA : ∀ q : Nat, s.heap.size ≤ q → A q := fun q h => by rw [← hAe]; exact Or.inr h
  have hS : va_S A s.heap s.heap [] := va_S.rf
  have hl := lv_entry ([.ref h0]) (n := 3) (Nat.le_of_ble_eq_true rfl)
  rw [lg_entry_eq]
  generalize (lg_sl ([.ref h0]) ++ List.replicate (3 - (lg_sl ([.ref h0])).length) Slot.unset).toArray = ls at hl ⊢
  have hl : lv_has ls 3 [(0, .ref h0)] := hl
  refine lv_iconst (v := 0) hx hb dX9_howManyAreSeated_0 (by decide +kernel) ?_
  refine lv_istore_n (lv' := [(1, .int 0), (0, .ref h0)]) hx hb dX9_howManyAreSeated_1 rfl hl (by decide) rfl (fun ls hl => ?_)
  refine lv_iconst (v := 0) hx hb dX9_howManyAreSeated_2 (by decide +kernel) ?_
  refine lv_istore_n (lv' := [(2, .int 0), (1, .int 0), (0, .ref h0)]) hx hb dX9_howManyAreSeated_3 rfl hl (by decide) rfl (fun ls hl => ?_)
  refine lv_iload_n hx hb dX9_howManyAreSeated_4 rfl (lv_at hl 0 rfl) ?_
  refine lv_aload_n hx hb dX9_howManyAreSeated_5 rfl (lv_at hl 2 rfl) ?_
  refine va_get (D := (dC, dI)) (ci := 9) (v := .int 0) (C := RX9) (T := TX9) (N := 16) hx hb hts (fun _ h => List.mem_cons_of_mem _ (List.mem_append_left _ (List.mem_append_right _ h))) hown hK hP 0 rfl rfl 2 (by decide) (hts (.fieldLink RX9 24 "DrumBoats" "crewCount" "I") (List.mem_of_getElem? (i := 1) rfl)) (fun _ h9 => h9) rfl dX9_howManyAreSeated_6 ?_
  refine lv_icmp_ge (tgt := 38) hx hb dX9_howManyAreSeated_9 (by decide) (fun _ => ?_) (fun c9 => absurd c9 (by decide +kernel))
  refine lv_iload_n hx hb dX9_howManyAreSeated_38 rfl (lv_at hl 1 rfl) ?_
  refine W.widen (k := 0) (n := 0) (Nat.le_of_ble_eq_true rfl) (Nat.le_of_ble_eq_true rfl) ?_
  exact W.iret (v := 0) hx hb hr (fun t ht hW => ⟨⟨0, (), rfl, (by first | rfl | (exfalso; omega)), trivial⟩, hS.F ht⟩) hS.2.2 dX9_howManyAreSeated_39

set_option maxHeartbeats 4000000 in
set_option maxRecDepth 100000 in
theorem k_X9_howManyTimes (l : Launch) (dC : Nat → ClassId) (dI : Nat → Nat → Nat) (sz : Nat) (h0 : Nat) (aRo : Nat) (aCr : Nat) (aBa : Nat) (aSe : Nat) (aTa : Nat) (aRu : Nat) (aTl : Nat) (aWa : Nat) (aCu : Nat) (aRa : Nat) (aCo : Nat) (aFi : Nat) : Met l yX9_howManyTimes wsX9_howManyTimes ({ frames := 0, cells := 0, slots := 0, locals := 0 }) (va_Pc [.ref h0] (fun U => U.heap.size = sz ∧ va_P (dC, dI) vwCl [(h0, .inr (9, [.ref aRo, .ref aCr, .int 0, .ref aBa, .ref aSe, .ref aTa, .ref aRu, .int 0, .ref aTl, .int 10, .ref aWa, .ref aCu, .ref aRa, .int 0, .ref aCo, .ref aFi]))] U.heap ∧ va_K (dC, dI) vwCl [] U)) (va_Qi (fun (r : Int32) (_ : Unit) => r = 0) (fun _ _ => True) (va_A ([] : va_W) sz)) 0 0 (va_A ([] : va_W) sz) := by
  refine Met.ofW (cc := cX9_howManyTimes) (maxL := 3) (ret := (some .int)) (by decide) rfl ?_
  intro p e s m args below meth c s₁ B hml hv
  obtain ⟨rfl, hsz, hP, hK⟩ := hv
  have hx := B.exec
  have hb := B.bytes
  have hr := B.returns
  have hts := atoms_spec (ws := wsX9_howManyTimes) B.pre
  have hown : s.vm.findClass RX9 = some m.cls := findClass_of_methodNamed B.named
  have hlocks := B.notSynchronized
  subst hsz
  generalize hAe : va_A ([] : va_W) s.heap.size = A
  have hA : ∀ q : Nat, s.heap.size ≤ q → A q := fun q h => by rw [← hAe]; exact Or.inr h
  have hS : va_S A s.heap s.heap [] := va_S.rf
  have hl := lv_entry ([.ref h0]) (n := 3) (Nat.le_of_ble_eq_true rfl)
  rw [lg_entry_eq]
  generalize (lg_sl ([.ref h0]) ++ List.replicate (3 - (lg_sl ([.ref h0])).length) Slot.unset).toArray = ls at hl ⊢
  have hl : lv_has ls 3 [(0, .ref h0)] := hl
  refine lv_iconst (v := 0) hx hb dX9_howManyTimes_0 (by decide +kernel) ?_
  refine lv_istore_n (lv' := [(1, .int 0), (0, .ref h0)]) hx hb dX9_howManyTimes_1 rfl hl (by decide) rfl (fun ls hl => ?_)
  refine lv_iconst (v := 0) hx hb dX9_howManyTimes_2 (by decide +kernel) ?_
  refine lv_istore_n (lv' := [(2, .int 0), (1, .int 0), (0, .ref h0)]) hx hb dX9_howManyTimes_3 rfl hl (by decide) rfl (fun ls hl => ?_)
  refine lv_iload_n hx hb dX9_howManyTimes_4 rfl (lv_at hl 0 rfl) ?_
  refine lv_aload_n hx hb dX9_howManyTimes_5 rfl (lv_at hl 2 rfl) ?_
  refine va_get (D := (dC, dI)) (ci := 9) (v := .int 0) (C := RX9) (T := TX9) (N := 16) hx hb hts (fun _ h => List.mem_cons_of_mem _ (List.mem_append_left _ (List.mem_append_right _ h))) hown hK hP 0 rfl rfl 13 (by decide) (hts (.fieldLink RX9 77 "DrumBoats" "raceCount" "I") (List.mem_of_getElem? (i := 1) rfl)) (fun _ h9 => h9) rfl dX9_howManyTimes_6 ?_
  refine lv_icmp_ge (tgt := 30) hx hb dX9_howManyTimes_9 (by decide) (fun _ => ?_) (fun c9 => absurd c9 (by decide +kernel))
  refine lv_iload_n hx hb dX9_howManyTimes_30 rfl (lv_at hl 1 rfl) ?_
  refine W.widen (k := 0) (n := 0) (Nat.le_of_ble_eq_true rfl) (Nat.le_of_ble_eq_true rfl) ?_
  exact W.iret (v := 0) hx hb hr (fun t ht hW => ⟨⟨0, (), rfl, (by first | rfl | (exfalso; omega)), trivial⟩, hS.F ht⟩) hS.2.2 dX9_howManyTimes_31

set_option maxHeartbeats 4000000 in
set_option maxRecDepth 100000 in
theorem k_X4_has (l : Launch) (dC : Nat → ClassId) (dI : Nat → Nat → Nat) (sz : Nat) (h0 : Nat) (p0 : Int32) (aW : Nat) (aS : Nat) (aAr : Nat) (aSx : Nat) (aAg : Nat) (aFb : Nat) : Met l yX4_has wsX4_has ({ frames := 1, cells := 0, slots := 0, locals := 22 }) (va_Pc [.ref h0, .int p0] (fun U => U.heap.size = sz ∧ va_P (dC, dI) vwCl [(h0, .inr (4, [.int 0, .ref aW, .ref aS, .ref aAr, .ref aSx, .ref aAg, .ref aFb]))] U.heap ∧ va_K (dC, dI) vwCl [] U ∧ va_Nw (.methodLinkNest RX4 35 yX9_within RX9) U)) (va_Qi (fun (r : Int32) (_ : Unit) => r = 0) (fun _ _ => True) (va_A ([] : va_W) sz)) 0 0 (va_A ([] : va_W) sz) := by
  refine Met.ofW (cc := cX4_has) (maxL := 2) (ret := (some .boolean)) (by decide) rfl ?_
  intro p e s m args below meth c s₁ B hml hv
  obtain ⟨rfl, hsz, hP, hK, hNX4_35⟩ := hv
  have hx := B.exec
  have hb := B.bytes
  have hr := B.returns
  have hts := atoms_spec (ws := wsX4_has) B.pre
  have hown : s.vm.findClass RX4 = some m.cls := findClass_of_methodNamed B.named
  have hlocks := B.notSynchronized
  subst hsz
  generalize hAe : va_A ([] : va_W) s.heap.size = A
  have hA : ∀ q : Nat, s.heap.size ≤ q → A q := fun q h => by rw [← hAe]; exact Or.inr h
  have hS : va_S A s.heap s.heap [] := va_S.rf
  have hl := lv_entry ([.ref h0, .int p0]) (n := 2) (Nat.le_of_ble_eq_true rfl)
  rw [lg_entry_eq]
  generalize (lg_sl ([.ref h0, .int p0]) ++ List.replicate (2 - (lg_sl ([.ref h0, .int p0])).length) Slot.unset).toArray = ls at hl ⊢
  have hl : lv_has ls 2 [(0, .ref h0), (1, .int p0)] := hl
  refine lv_iload_n hx hb dX4_has_0 rfl (lv_at hl 1 rfl) ?_
  refine lv_iconst (v := 0) hx hb dX4_has_1 (by decide +kernel) ?_
  refine lv_aload_n hx hb dX4_has_2 rfl (lv_at hl 0 rfl) ?_
  refine va_get (D := (dC, dI)) (ci := 4) (v := .int 0) (C := RX4) (T := TX4) (N := 7) hx hb hts (fun _ h => List.mem_cons_of_mem _ (List.mem_append_right _ h)) hown hK hP 0 rfl rfl 0 (by decide) (hts (.fieldLink RX4 9 "DrumBoats$Roster" "size" "I") (List.mem_of_getElem? (i := 1) rfl)) (fun _ h9 => h9) rfl dX4_has_3 ?_
  refine lv_iconst (v := 1) hx hb dX4_has_6 (by decide +kernel) ?_
  refine lv_isub hx hb dX4_has_7 ?_
  refine ti_eq (y := (-1)) (by decide +kernel) ?_
  have hPc := hP.sub (ws' := ([] : va_W)) [] rfl
  have hKc := hK.sub (tys' := []) [] rfl
  have hFc := ro_free hS hA
  refine va_calli (va_runSN (As := [.int p0, .int 0, .int (-1)]) (rest := []) ⟨hx, hb, hml, hown, hts⟩ (k_X9_within l dC dI s.heap.size p0 0 (-1)) ⟨va_cnB 3 hts gX4_has_X9_within_n35 rfl rfl rfl hNX4_35 (hts (.initialized RX9) (List.mem_of_getElem? (i := 3) rfl)) (by decide +kernel) ⟨(Nat.le_of_ble_eq_true rfl), (Nat.le_of_ble_eq_true rfl)⟩, (hts (.static yX9_within) (List.mem_of_getElem? (i := 2) rfl)), trivial⟩ ⟨fun a U g mk q => by obtain ⟨q0, q1, qP, qK⟩ := q; exact ⟨q0, q1, qP, va_K.moved (u := U) (U := U.calling g mk a) (Vm.Alike.refl U.vm) qK⟩, fun U hU hW => ⟨rfl, by rw [hU], by rw [hU]; exact hPc, va_K.moved hW.alike hKc⟩⟩ rfl rfl hl.1 rfl (lv_room (Nat.le_of_ble_eq_true rfl)) dX4_has_8 ⟨(Nat.le_of_ble_eq_true rfl), (Nat.le_of_ble_eq_true rfl)⟩) hS (fun q _ h => hFc q h) hFc (fun r u t H1 locs ht hvm hw hB hz1 hk1 hS => ?_)
  refine W.widen (k := 0) (n := 0) (Nat.le_of_ble_eq_true rfl) (Nat.le_of_ble_eq_true rfl) ?_
  have hP := P_ro hP hk1
  generalize H1 = H at hP hS ⊢
  rcases hw with ⟨rfl, e_1⟩ | ⟨rfl, e_1⟩
  · have e_1 : (0 ≤ p0.toInt ∧ p0.toInt ≤ (-1)) := e_1
    exact absurd e_1 (by omega)
  · have e_1 : ¬ (0 ≤ p0.toInt ∧ p0.toInt ≤ (-1)) := e_1
    refine W.widen (k := 0) (n := 0) (Nat.le_of_ble_eq_true rfl) (Nat.le_of_ble_eq_true rfl) ?_
    exact W.zret (v := 0) hx hb hr (by decide) (fun t ht hW => ⟨⟨0, (), rfl, (by first | rfl | (exfalso; omega)), trivial⟩, hS.F ht⟩) hS.2.2 dX4_has_11

set_option maxHeartbeats 4000000 in
set_option maxRecDepth 100000 in
theorem k_X4_add (l : Launch) (dC : Nat → ClassId) (dI : Nat → Nat → Nat) (sz : Nat) (h0 : Nat) (p0 : Int32) (p1 : Int32) (p2 : Int32) (p3 : Int32) (p4 : Int32) (aW : Nat) (aS : Nat) (aAr : Nat) (aSx : Nat) (aAg : Nat) (aFb : Nat) (caW : ClassId) (caS : ClassId) (caAr : ClassId) (caSx : ClassId) (caAg : ClassId) : Met l yX4_add wsX4_add ({ frames := 0, cells := 0, slots := 0, locals := 0 }) (va_Pc [.ref h0, .int p0, .int p1, .int p2, .int p3, .int p4] (fun U => U.heap.size = sz ∧ va_P (dC, dI) vwCl [(h0, .inr (4, [.int 0, .ref aW, .ref aS, .ref aAr, .ref aSx, .ref aAg, .ref aFb])), (aW, .inl (caW, 40, .inl (fun _ => 0))), (aS, .inl (caS, 40, .inl (fun _ => 0))), (aAr, .inl (caAr, 40, .inl (fun _ => 0))), (aSx, .inl (caSx, 40, .inl (fun _ => 0))), (aAg, .inl (caAg, 40, .inl (fun _ => 0)))] U.heap ∧ va_K (dC, dI) vwCl [(caW, .int), (caS, .int), (caAr, .int), (caSx, .int), (caAg, .int)] U ∧ va_D (fun _ => True) [(h0, .inr (4, [.int 0, .ref aW, .ref aS, .ref aAr, .ref aSx, .ref aAg, .ref aFb])), (aW, .inl (caW, 40, .inl (fun _ => 0))), (aS, .inl (caS, 40, .inl (fun _ => 0))), (aAr, .inl (caAr, 40, .inl (fun _ => 0))), (aSx, .inl (caSx, 40, .inl (fun _ => 0))), (aAg, .inl (caAg, 40, .inl (fun _ => 0)))])) (va_Qi (fun (r : Int32) (_ : Unit) => r = 0) (fun _ _ => True) (va_A [(h0, .inr (4, [.int 0, .ref aW, .ref aS, .ref aAr, .ref aSx, .ref aAg, .ref aFb])), (aW, .inl (caW, 40, .inl (fun _ => 0))), (aS, .inl (caS, 40, .inl (fun _ => 0))), (aAr, .inl (caAr, 40, .inl (fun _ => 0))), (aSx, .inl (caSx, 40, .inl (fun _ => 0))), (aAg, .inl (caAg, 40, .inl (fun _ => 0)))] sz)) 0 0 (va_A [(h0, .inr (4, [.int 0, .ref aW, .ref aS, .ref aAr, .ref aSx, .ref aAg, .ref aFb])), (aW, .inl (caW, 40, .inl (fun _ => 0))), (aS, .inl (caS, 40, .inl (fun _ => 0))), (aAr, .inl (caAr, 40, .inl (fun _ => 0))), (aSx, .inl (caSx, 40, .inl (fun _ => 0))), (aAg, .inl (caAg, 40, .inl (fun _ => 0)))] sz) := by
  refine Met.ofW (cc := cX4_add) (maxL := 6) (ret := (some .int)) (by decide) rfl ?_
  intro p e s m args below meth c s₁ B hml hv
  obtain ⟨rfl, hsz, hP, hK, hD0⟩ := hv
  have hx := B.exec
  have hb := B.bytes
  have hr := B.returns
  have hts := atoms_spec (ws := wsX4_add) B.pre
  have hown : s.vm.findClass RX4 = some m.cls := findClass_of_methodNamed B.named
  have hlocks := B.notSynchronized
  subst hsz
  have hD := hD0.self (sz := s.heap.size)
  generalize hAe : va_A [(h0, .inr (4, [.int 0, .ref aW, .ref aS, .ref aAr, .ref aSx, .ref aAg, .ref aFb])), (aW, .inl (caW, 40, .inl (fun _ => 0))), (aS, .inl (caS, 40, .inl (fun _ => 0))), (aAr, .inl (caAr, 40, .inl (fun _ => 0))), (aSx, .inl (caSx, 40, .inl (fun _ => 0))), (aAg, .inl (caAg, 40, .inl (fun _ => 0)))] s.heap.size = A at hD ⊢
  have hA : ∀ q : Nat, s.heap.size ≤ q → A q := fun q h => by rw [← hAe]; exact Or.inr h
  have hS : va_S A s.heap s.heap [] := va_S.rf
  have hl := lv_entry ([.ref h0, .int p0, .int p1, .int p2, .int p3, .int p4]) (n := 6) (Nat.le_of_ble_eq_true rfl)
  rw [lg_entry_eq]
  generalize (lg_sl ([.ref h0, .int p0, .int p1, .int p2, .int p3, .int p4]) ++ List.replicate (6 - (lg_sl ([.ref h0, .int p0, .int p1, .int p2, .int p3, .int p4])).length) Slot.unset).toArray = ls at hl ⊢
  have hl : lv_has ls 6 [(0, .ref h0), (1, .int p0), (2, .int p1), (3, .int p2), (4, .int p3), (5, .int p4)] := hl
  refine lv_aload_n hx hb dX4_add_0 rfl (lv_at hl 0 rfl) ?_
  refine va_get (D := (dC, dI)) (ci := 4) (v := .ref aW) (C := RX4) (T := TX4) (N := 7) hx hb hts (fun _ h => List.mem_cons_of_mem _ (List.mem_append_right _ h)) hown hK hP 0 rfl rfl 1 (by decide) (hts (.fieldLink RX4 15 "DrumBoats$Roster" "weight" "[I") (List.mem_of_getElem? (i := 1) rfl)) (fun _ h9 => h9) rfl dX4_add_1 ?_
  refine lv_aload_n hx hb dX4_add_4 rfl (lv_at hl 0 rfl) ?_
  refine va_get (D := (dC, dI)) (ci := 4) (v := .int 0) (C := RX4) (T := TX4) (N := 7) hx hb hts (fun _ h => List.mem_cons_of_mem _ (List.mem_append_right _ h)) hown hK hP 0 rfl rfl 0 (by decide) (hts (.fieldLink RX4 9 "DrumBoats$Roster" "size" "I") (List.mem_of_getElem? (i := 2) rfl)) (fun _ h9 => h9) rfl dX4_add_5 ?_
  refine lv_iload_n hx hb dX4_add_8 rfl (lv_at hl 1 rfl) ?_
  refine va_iast hx hb hK hP hD hS 1 0 rfl rfl (by unfold vp_in; decide +kernel) dX4_add_9 (fun H locs hP hD hS => ?_)
  have hP : va_P (dC, dI) vwCl [(h0, .inr (4, [.int 0, .ref aW, .ref aS, .ref aAr, .ref aSx, .ref aAg, .ref aFb])), (aW, .inl (caW, 40, .inl (upd (fun _ => 0) (0 : Int32).toNatClampNeg p0))), (aS, .inl (caS, 40, .inl (fun _ => 0))), (aAr, .inl (caAr, 40, .inl (fun _ => 0))), (aSx, .inl (caSx, 40, .inl (fun _ => 0))), (aAg, .inl (caAg, 40, .inl (fun _ => 0)))] H := hP
  have hD : va_D A [(h0, .inr (4, [.int 0, .ref aW, .ref aS, .ref aAr, .ref aSx, .ref aAg, .ref aFb])), (aW, .inl (caW, 40, .inl (upd (fun _ => 0) (0 : Int32).toNatClampNeg p0))), (aS, .inl (caS, 40, .inl (fun _ => 0))), (aAr, .inl (caAr, 40, .inl (fun _ => 0))), (aSx, .inl (caSx, 40, .inl (fun _ => 0))), (aAg, .inl (caAg, 40, .inl (fun _ => 0)))] := hD
  refine lv_aload_n hx hb dX4_add_10 rfl (lv_at hl 0 rfl) ?_
  refine va_get (D := (dC, dI)) (ci := 4) (v := .ref aS) (C := RX4) (T := TX4) (N := 7) hx hb hts (fun _ h => List.mem_cons_of_mem _ (List.mem_append_right _ h)) hown hK hP 0 rfl rfl 2 (by decide) (hts (.fieldLink RX4 19 "DrumBoats$Roster" "strength" "[I") (List.mem_of_getElem? (i := 3) rfl)) (fun _ h9 => h9) rfl dX4_add_11 ?_
  refine lv_aload_n hx hb dX4_add_14 rfl (lv_at hl 0 rfl) ?_
  refine va_get (D := (dC, dI)) (ci := 4) (v := .int 0) (C := RX4) (T := TX4) (N := 7) hx hb hts (fun _ h => List.mem_cons_of_mem _ (List.mem_append_right _ h)) hown hK hP 0 rfl rfl 0 (by decide) (hts (.fieldLink RX4 9 "DrumBoats$Roster" "size" "I") (List.mem_of_getElem? (i := 2) rfl)) (fun _ h9 => h9) rfl dX4_add_15 ?_
  refine lv_iload_n hx hb dX4_add_18 rfl (lv_at hl 2 rfl) ?_
  refine va_iast hx hb hK hP hD hS 2 1 rfl rfl (by unfold vp_in; decide +kernel) dX4_add_19 (fun H locs hP hD hS => ?_)
  have hP : va_P (dC, dI) vwCl [(h0, .inr (4, [.int 0, .ref aW, .ref aS, .ref aAr, .ref aSx, .ref aAg, .ref aFb])), (aW, .inl (caW, 40, .inl (upd (fun _ => 0) (0 : Int32).toNatClampNeg p0))), (aS, .inl (caS, 40, .inl (upd (fun _ => 0) (0 : Int32).toNatClampNeg p1))), (aAr, .inl (caAr, 40, .inl (fun _ => 0))), (aSx, .inl (caSx, 40, .inl (fun _ => 0))), (aAg, .inl (caAg, 40, .inl (fun _ => 0)))] H := hP
  have hD : va_D A [(h0, .inr (4, [.int 0, .ref aW, .ref aS, .ref aAr, .ref aSx, .ref aAg, .ref aFb])), (aW, .inl (caW, 40, .inl (upd (fun _ => 0) (0 : Int32).toNatClampNeg p0))), (aS, .inl (caS, 40, .inl (upd (fun _ => 0) (0 : Int32).toNatClampNeg p1))), (aAr, .inl (caAr, 40, .inl (fun _ => 0))), (aSx, .inl (caSx, 40, .inl (fun _ => 0))), (aAg, .inl (caAg, 40, .inl (fun _ => 0)))] := hD
  refine lv_aload_n hx hb dX4_add_20 rfl (lv_at hl 0 rfl) ?_
  refine va_get (D := (dC, dI)) (ci := 4) (v := .ref aAr) (C := RX4) (T := TX4) (N := 7) hx hb hts (fun _ h => List.mem_cons_of_mem _ (List.mem_append_right _ h)) hown hK hP 0 rfl rfl 3 (by decide) (hts (.fieldLink RX4 22 "DrumBoats$Roster" "arm" "[I") (List.mem_of_getElem? (i := 4) rfl)) (fun _ h9 => h9) rfl dX4_add_21 ?_
  refine lv_aload_n hx hb dX4_add_24 rfl (lv_at hl 0 rfl) ?_
  refine va_get (D := (dC, dI)) (ci := 4) (v := .int 0) (C := RX4) (T := TX4) (N := 7) hx hb hts (fun _ h => List.mem_cons_of_mem _ (List.mem_append_right _ h)) hown hK hP 0 rfl rfl 0 (by decide) (hts (.fieldLink RX4 9 "DrumBoats$Roster" "size" "I") (List.mem_of_getElem? (i := 2) rfl)) (fun _ h9 => h9) rfl dX4_add_25 ?_
  refine lv_iload_n hx hb dX4_add_28 rfl (lv_at hl 3 rfl) ?_
  refine va_iast hx hb hK hP hD hS 3 2 rfl rfl (by unfold vp_in; decide +kernel) dX4_add_29 (fun H locs hP hD hS => ?_)
  have hP : va_P (dC, dI) vwCl [(h0, .inr (4, [.int 0, .ref aW, .ref aS, .ref aAr, .ref aSx, .ref aAg, .ref aFb])), (aW, .inl (caW, 40, .inl (upd (fun _ => 0) (0 : Int32).toNatClampNeg p0))), (aS, .inl (caS, 40, .inl (upd (fun _ => 0) (0 : Int32).toNatClampNeg p1))), (aAr, .inl (caAr, 40, .inl (upd (fun _ => 0) (0 : Int32).toNatClampNeg p2))), (aSx, .inl (caSx, 40, .inl (fun _ => 0))), (aAg, .inl (caAg, 40, .inl (fun _ => 0)))] H := hP
  have hD : va_D A [(h0, .inr (4, [.int 0, .ref aW, .ref aS, .ref aAr, .ref aSx, .ref aAg, .ref aFb])), (aW, .inl (caW, 40, .inl (upd (fun _ => 0) (0 : Int32).toNatClampNeg p0))), (aS, .inl (caS, 40, .inl (upd (fun _ => 0) (0 : Int32).toNatClampNeg p1))), (aAr, .inl (caAr, 40, .inl (upd (fun _ => 0) (0 : Int32).toNatClampNeg p2))), (aSx, .inl (caSx, 40, .inl (fun _ => 0))), (aAg, .inl (caAg, 40, .inl (fun _ => 0)))] := hD
  refine lv_aload_n hx hb dX4_add_30 rfl (lv_at hl 0 rfl) ?_
  refine va_get (D := (dC, dI)) (ci := 4) (v := .ref aSx) (C := RX4) (T := TX4) (N := 7) hx hb hts (fun _ h => List.mem_cons_of_mem _ (List.mem_append_right _ h)) hown hK hP 0 rfl rfl 4 (by decide) (hts (.fieldLink RX4 25 "DrumBoats$Roster" "sex" "[I") (List.mem_of_getElem? (i := 5) rfl)) (fun _ h9 => h9) rfl dX4_add_31 ?_
  refine lv_aload_n hx hb dX4_add_34 rfl (lv_at hl 0 rfl) ?_
  refine va_get (D := (dC, dI)) (ci := 4) (v := .int 0) (C := RX4) (T := TX4) (N := 7) hx hb hts (fun _ h => List.mem_cons_of_mem _ (List.mem_append_right _ h)) hown hK hP 0 rfl rfl 0 (by decide) (hts (.fieldLink RX4 9 "DrumBoats$Roster" "size" "I") (List.mem_of_getElem? (i := 2) rfl)) (fun _ h9 => h9) rfl dX4_add_35 ?_
  refine lv_iload hx hb dX4_add_38 (lv_at hl 4 rfl) ?_
  refine va_iast hx hb hK hP hD hS 4 3 rfl rfl (by unfold vp_in; decide +kernel) dX4_add_40 (fun H locs hP hD hS => ?_)
  have hP : va_P (dC, dI) vwCl [(h0, .inr (4, [.int 0, .ref aW, .ref aS, .ref aAr, .ref aSx, .ref aAg, .ref aFb])), (aW, .inl (caW, 40, .inl (upd (fun _ => 0) (0 : Int32).toNatClampNeg p0))), (aS, .inl (caS, 40, .inl (upd (fun _ => 0) (0 : Int32).toNatClampNeg p1))), (aAr, .inl (caAr, 40, .inl (upd (fun _ => 0) (0 : Int32).toNatClampNeg p2))), (aSx, .inl (caSx, 40, .inl (upd (fun _ => 0) (0 : Int32).toNatClampNeg p3))), (aAg, .inl (caAg, 40, .inl (fun _ => 0)))] H := hP
  have hD : va_D A [(h0, .inr (4, [.int 0, .ref aW, .ref aS, .ref aAr, .ref aSx, .ref aAg, .ref aFb])), (aW, .inl (caW, 40, .inl (upd (fun _ => 0) (0 : Int32).toNatClampNeg p0))), (aS, .inl (caS, 40, .inl (upd (fun _ => 0) (0 : Int32).toNatClampNeg p1))), (aAr, .inl (caAr, 40, .inl (upd (fun _ => 0) (0 : Int32).toNatClampNeg p2))), (aSx, .inl (caSx, 40, .inl (upd (fun _ => 0) (0 : Int32).toNatClampNeg p3))), (aAg, .inl (caAg, 40, .inl (fun _ => 0)))] := hD
  refine lv_aload_n hx hb dX4_add_41 rfl (lv_at hl 0 rfl) ?_
  refine va_get (D := (dC, dI)) (ci := 4) (v := .ref aAg) (C := RX4) (T := TX4) (N := 7) hx hb hts (fun _ h => List.mem_cons_of_mem _ (List.mem_append_right _ h)) hown hK hP 0 rfl rfl 5 (by decide) (hts (.fieldLink RX4 28 "DrumBoats$Roster" "age" "[I") (List.mem_of_getElem? (i := 6) rfl)) (fun _ h9 => h9) rfl dX4_add_42 ?_
  refine lv_aload_n hx hb dX4_add_45 rfl (lv_at hl 0 rfl) ?_
  refine va_get (D := (dC, dI)) (ci := 4) (v := .int 0) (C := RX4) (T := TX4) (N := 7) hx hb hts (fun _ h => List.mem_cons_of_mem _ (List.mem_append_right _ h)) hown hK hP 0 rfl rfl 0 (by decide) (hts (.fieldLink RX4 9 "DrumBoats$Roster" "size" "I") (List.mem_of_getElem? (i := 2) rfl)) (fun _ h9 => h9) rfl dX4_add_46 ?_
  refine lv_iload hx hb dX4_add_49 (lv_at hl 5 rfl) ?_
  refine va_iast hx hb hK hP hD hS 5 4 rfl rfl (by unfold vp_in; decide +kernel) dX4_add_51 (fun H locs hP hD hS => ?_)
  have hP : va_P (dC, dI) vwCl [(h0, .inr (4, [.int 0, .ref aW, .ref aS, .ref aAr, .ref aSx, .ref aAg, .ref aFb])), (aW, .inl (caW, 40, .inl (upd (fun _ => 0) (0 : Int32).toNatClampNeg p0))), (aS, .inl (caS, 40, .inl (upd (fun _ => 0) (0 : Int32).toNatClampNeg p1))), (aAr, .inl (caAr, 40, .inl (upd (fun _ => 0) (0 : Int32).toNatClampNeg p2))), (aSx, .inl (caSx, 40, .inl (upd (fun _ => 0) (0 : Int32).toNatClampNeg p3))), (aAg, .inl (caAg, 40, .inl (upd (fun _ => 0) (0 : Int32).toNatClampNeg p4)))] H := hP
  have hD : va_D A [(h0, .inr (4, [.int 0, .ref aW, .ref aS, .ref aAr, .ref aSx, .ref aAg, .ref aFb])), (aW, .inl (caW, 40, .inl (upd (fun _ => 0) (0 : Int32).toNatClampNeg p0))), (aS, .inl (caS, 40, .inl (upd (fun _ => 0) (0 : Int32).toNatClampNeg p1))), (aAr, .inl (caAr, 40, .inl (upd (fun _ => 0) (0 : Int32).toNatClampNeg p2))), (aSx, .inl (caSx, 40, .inl (upd (fun _ => 0) (0 : Int32).toNatClampNeg p3))), (aAg, .inl (caAg, 40, .inl (upd (fun _ => 0) (0 : Int32).toNatClampNeg p4)))] := hD
  refine lv_aload_n hx hb dX4_add_52 rfl (lv_at hl 0 rfl) ?_
  refine lv_dup hx hb dX4_add_53 rfl ?_
  refine va_get (D := (dC, dI)) (ci := 4) (v := .int 0) (C := RX4) (T := TX4) (N := 7) hx hb hts (fun _ h => List.mem_cons_of_mem _ (List.mem_append_right _ h)) hown hK hP 0 rfl rfl 0 (by decide) (hts (.fieldLink RX4 9 "DrumBoats$Roster" "size" "I") (List.mem_of_getElem? (i := 2) rfl)) (fun _ h9 => h9) rfl dX4_add_54 ?_
  refine lv_iconst (v := 1) hx hb dX4_add_57 (by decide +kernel) ?_
  refine lv_iadd hx hb dX4_add_58 ?_
  refine ti_eq (y := 1) (by decide +kernel) ?_
  refine va_put (D := (dC, dI)) (ci := 4) (v := .int 1) (ty := .int) (C := RX4) (T := TX4) (N := 7) hx hb hts (fun _ h => List.mem_cons_of_mem _ (List.mem_append_right _ h)) tyX4 tyX4_ok nmX4 hown hK hP hD hS 0 rfl rfl 0 (by decide) (hts (.fieldLink RX4 9 "DrumBoats$Roster" "size" "I") (List.mem_of_getElem? (i := 2) rfl)) (fun _ h9 => h9) rfl (by decide +kernel) rfl rfl (Nat.le_of_ble_eq_true rfl) dX4_add_59 (fun H locs hP hD hS => ?_)
  have hP : va_P (dC, dI) vwCl [(h0, .inr (4, [.int 1, .ref aW, .ref aS, .ref aAr, .ref aSx, .ref aAg, .ref aFb])), (aW, .inl (caW, 40, .inl (upd (fun _ => 0) (0 : Int32).toNatClampNeg p0))), (aS, .inl (caS, 40, .inl (upd (fun _ => 0) (0 : Int32).toNatClampNeg p1))), (aAr, .inl (caAr, 40, .inl (upd (fun _ => 0) (0 : Int32).toNatClampNeg p2))), (aSx, .inl (caSx, 40, .inl (upd (fun _ => 0) (0 : Int32).toNatClampNeg p3))), (aAg, .inl (caAg, 40, .inl (upd (fun _ => 0) (0 : Int32).toNatClampNeg p4)))] H := hP
  have hD : va_D A [(h0, .inr (4, [.int 1, .ref aW, .ref aS, .ref aAr, .ref aSx, .ref aAg, .ref aFb])), (aW, .inl (caW, 40, .inl (upd (fun _ => 0) (0 : Int32).toNatClampNeg p0))), (aS, .inl (caS, 40, .inl (upd (fun _ => 0) (0 : Int32).toNatClampNeg p1))), (aAr, .inl (caAr, 40, .inl (upd (fun _ => 0) (0 : Int32).toNatClampNeg p2))), (aSx, .inl (caSx, 40, .inl (upd (fun _ => 0) (0 : Int32).toNatClampNeg p3))), (aAg, .inl (caAg, 40, .inl (upd (fun _ => 0) (0 : Int32).toNatClampNeg p4)))] := hD
  refine lv_aload_n hx hb dX4_add_62 rfl (lv_at hl 0 rfl) ?_
  refine va_get (D := (dC, dI)) (ci := 4) (v := .int 1) (C := RX4) (T := TX4) (N := 7) hx hb hts (fun _ h => List.mem_cons_of_mem _ (List.mem_append_right _ h)) hown hK hP 0 rfl rfl 0 (by decide) (hts (.fieldLink RX4 9 "DrumBoats$Roster" "size" "I") (List.mem_of_getElem? (i := 2) rfl)) (fun _ h9 => h9) rfl dX4_add_63 ?_
  refine lv_iconst (v := 1) hx hb dX4_add_66 (by decide +kernel) ?_
  refine lv_isub hx hb dX4_add_67 ?_
  refine ti_eq (y := 0) (by decide +kernel) ?_
  refine W.widen (k := 0) (n := 0) (Nat.le_of_ble_eq_true rfl) (Nat.le_of_ble_eq_true rfl) ?_
  exact W.iret (v := 0) hx hb hr (fun t ht hW => ⟨⟨0, (), rfl, (by first | rfl | (exfalso; omega)), trivial⟩, hS.F ht⟩) hS.2.2 dX4_add_68

set_option maxHeartbeats 4000000 in
set_option maxRecDepth 100000 in
theorem k_X9_commonDivisor (l : Launch) (dC : Nat → ClassId) (dI : Nat → Nat → Nat) (sz : Nat) : Met l yX9_commonDivisor wsX9_commonDivisor ({ frames := 0, cells := 0, slots := 0, locals := 0 }) (va_Pc [.long 0, .long 0] (fun U => U.heap.size = sz ∧ va_P (dC, dI) vwCl ([] : va_W) U.heap ∧ va_K (dC, dI) vwCl [] U)) (va_Ql (fun (r : Int64) (_ : Unit) => r = 0) (fun _ _ => True) (va_A ([] : va_W) sz)) 0 0 (va_A ([] : va_W) sz) := by
  refine Met.ofW (cc := cX9_commonDivisor) (maxL := 11) (ret := (some .long)) (by decide) rfl ?_
  intro p e s m args below meth c s₁ B hml hv
  obtain ⟨rfl, hsz, hP, hK⟩ := hv
  have hx := B.exec
  have hb := B.bytes
  have hr := B.returns
  have hts := atoms_spec (ws := wsX9_commonDivisor) B.pre
  have hown : s.vm.findClass RX9 = some m.cls := findClass_of_methodNamed B.named
  have hlocks := B.notSynchronized
  subst hsz
  generalize hAe : va_A ([] : va_W) s.heap.size = A
  have hA : ∀ q : Nat, s.heap.size ≤ q → A q := fun q h => by rw [← hAe]; exact Or.inr h
  have hS : va_S A s.heap s.heap [] := va_S.rf
  have hl := lv_entry ([.long 0, .long 0]) (n := 11) (Nat.le_of_ble_eq_true rfl)
  rw [lg_entry_eq]
  generalize (lg_sl ([.long 0, .long 0]) ++ List.replicate (11 - (lg_sl ([.long 0, .long 0])).length) Slot.unset).toArray = ls at hl ⊢
  have hl : lv_has ls 11 [(0, .long 0), (2, .long 0)] := hl
  refine lv_lload_n hx hb dX9_commonDivisor_0 rfl (lv_at hl 0 rfl) ?_
  refine lv_lstore (lv' := [(4, .long 0), (0, .long 0), (2, .long 0)]) hx hb dX9_commonDivisor_1 hl (by decide) rfl (fun ls hl => ?_)
  refine lv_lload_n hx hb dX9_commonDivisor_3 rfl (lv_at hl 2 rfl) ?_
  refine lv_lstore (lv' := [(6, .long 0), (4, .long 0), (0, .long 0), (2, .long 0)]) hx hb dX9_commonDivisor_4 hl (by decide) rfl (fun ls hl => ?_)
  refine lv_iconst (v := 0) hx hb dX9_commonDivisor_6 (by decide +kernel) ?_
  refine lv_istore (lv' := [(8, .int 0), (6, .long 0), (4, .long 0), (0, .long 0), (2, .long 0)]) hx hb dX9_commonDivisor_7 hl (by decide) rfl (fun ls hl => ?_)
  refine lv_iload hx hb dX9_commonDivisor_9 (lv_at hl 0 rfl) ?_
  refine lv_sipush (v := 200) hx hb dX9_commonDivisor_11 (by decide +kernel) ?_
  refine lv_icmp_ge (tgt := 45) hx hb dX9_commonDivisor_14 (by decide) (fun c9 => absurd c9 (by decide +kernel)) (fun _ => ?_)
  refine lv_lload hx hb dX9_commonDivisor_17 (lv_at hl 1 rfl) ?_
  refine lv_lconst (v := 0) hx hb dX9_commonDivisor_19 (by decide +kernel) ?_
  refine W.lcmp hx hb dX9_commonDivisor_20 ?_
  refine ti_eq (y := 0) (by decide +kernel) ?_
  refine lv_if_eq (tgt := 45) hx hb dX9_commonDivisor_21 (by decide) (fun _ => ?_) (fun c9 => absurd c9 (by decide +kernel))
  refine lv_lload hx hb dX9_commonDivisor_45 (lv_at hl 2 rfl) ?_
  refine W.widen (k := 0) (n := 0) (Nat.le_of_ble_eq_true rfl) (Nat.le_of_ble_eq_true rfl) ?_
  exact W.lret (v := 0) hx hb hr (fun t ht hW => ⟨⟨0, (), rfl, (by first | rfl | (exfalso; omega)), trivial⟩, hS.F ht⟩) hS.2.2 dX9_commonDivisor_47

set_option maxHeartbeats 4000000 in
set_option maxRecDepth 100000 in
theorem k_X2_putInOrder (l : Launch) (dC : Nat → ClassId) (dI : Nat → Nat → Nat) (sz : Nat) (h0 : Nat) (aLi : Nat) (aBt : Nat) (aBp : Nat) (aCh : Nat) (caCh : ClassId) : Met l yX2_putInOrder wsX2_putInOrder ({ frames := 0, cells := 0, slots := 0, locals := 0 }) (va_Pc [.ref h0] (fun U => U.heap.size = sz ∧ va_P (dC, dI) vwCl [(h0, .inr (2, [.int 0, .ref aLi, .ref aBt, .ref aBp, .ref aCh])), (aCh, .inl (caCh, 6, .inl (upd (upd (upd (upd (upd (upd (fun _ => 0) (0 : Int32).toNatClampNeg (vp_nar .boolean 0)) (1 : Int32).toNatClampNeg (vp_nar .boolean 0)) (2 : Int32).toNatClampNeg (vp_nar .boolean 0)) (3 : Int32).toNatClampNeg (vp_nar .boolean 0)) (4 : Int32).toNatClampNeg (vp_nar .boolean 0)) (5 : Int32).toNatClampNeg (vp_nar .boolean 0))))] U.heap ∧ va_K (dC, dI) vwCl [(caCh, .boolean)] U ∧ va_D (fun _ => True) [(h0, .inr (2, [.int 0, .ref aLi, .ref aBt, .ref aBp, .ref aCh])), (aCh, .inl (caCh, 6, .inl (upd (upd (upd (upd (upd (upd (fun _ => 0) (0 : Int32).toNatClampNeg (vp_nar .boolean 0)) (1 : Int32).toNatClampNeg (vp_nar .boolean 0)) (2 : Int32).toNatClampNeg (vp_nar .boolean 0)) (3 : Int32).toNatClampNeg (vp_nar .boolean 0)) (4 : Int32).toNatClampNeg (vp_nar .boolean 0)) (5 : Int32).toNatClampNeg (vp_nar .boolean 0))))])) (va_Qv (fun _ : Unit => True) (fun _ t => va_P (dC, dI) vwCl [(h0, .inr (2, [.int 0, .ref aLi, .ref aBt, .ref aBp, .ref aCh]))] t.heap ∧ va_K (dC, dI) vwCl [] t ∧ va_D (va_A [(h0, .inr (2, [.int 0, .ref aLi, .ref aBt, .ref aBp, .ref aCh])), (aCh, .inl (caCh, 6, .inl (upd (upd (upd (upd (upd (upd (fun _ => 0) (0 : Int32).toNatClampNeg (vp_nar .boolean 0)) (1 : Int32).toNatClampNeg (vp_nar .boolean 0)) (2 : Int32).toNatClampNeg (vp_nar .boolean 0)) (3 : Int32).toNatClampNeg (vp_nar .boolean 0)) (4 : Int32).toNatClampNeg (vp_nar .boolean 0)) (5 : Int32).toNatClampNeg (vp_nar .boolean 0))))] sz) [(h0, .inr (2, [.int 0, .ref aLi, .ref aBt, .ref aBp, .ref aCh]))]) (va_A [(h0, .inr (2, [.int 0, .ref aLi, .ref aBt, .ref aBp, .ref aCh])), (aCh, .inl (caCh, 6, .inl (upd (upd (upd (upd (upd (upd (fun _ => 0) (0 : Int32).toNatClampNeg (vp_nar .boolean 0)) (1 : Int32).toNatClampNeg (vp_nar .boolean 0)) (2 : Int32).toNatClampNeg (vp_nar .boolean 0)) (3 : Int32).toNatClampNeg (vp_nar .boolean 0)) (4 : Int32).toNatClampNeg (vp_nar .boolean 0)) (5 : Int32).toNatClampNeg (vp_nar .boolean 0))))] sz)) 0 0 (va_A [(h0, .inr (2, [.int 0, .ref aLi, .ref aBt, .ref aBp, .ref aCh])), (aCh, .inl (caCh, 6, .inl (upd (upd (upd (upd (upd (upd (fun _ => 0) (0 : Int32).toNatClampNeg (vp_nar .boolean 0)) (1 : Int32).toNatClampNeg (vp_nar .boolean 0)) (2 : Int32).toNatClampNeg (vp_nar .boolean 0)) (3 : Int32).toNatClampNeg (vp_nar .boolean 0)) (4 : Int32).toNatClampNeg (vp_nar .boolean 0)) (5 : Int32).toNatClampNeg (vp_nar .boolean 0))))] sz) := by
  refine Met.ofW (cc := cX2_putInOrder) (maxL := 2) (ret := none) (by decide) rfl ?_
  intro p e s m args below meth c s₁ B hml hv
  obtain ⟨rfl, hsz, hP, hK, hD0⟩ := hv
  have hx := B.exec
  have hb := B.bytes
  have hr := B.returns
  have hts := atoms_spec (ws := wsX2_putInOrder) B.pre
  have hown : s.vm.findClass RX2 = some m.cls := findClass_of_methodNamed B.named
  have hlocks := B.notSynchronized
  subst hsz
  have hD := hD0.self (sz := s.heap.size)
  generalize hAe : va_A [(h0, .inr (2, [.int 0, .ref aLi, .ref aBt, .ref aBp, .ref aCh])), (aCh, .inl (caCh, 6, .inl (upd (upd (upd (upd (upd (upd (fun _ => 0) (0 : Int32).toNatClampNeg (vp_nar .boolean 0)) (1 : Int32).toNatClampNeg (vp_nar .boolean 0)) (2 : Int32).toNatClampNeg (vp_nar .boolean 0)) (3 : Int32).toNatClampNeg (vp_nar .boolean 0)) (4 : Int32).toNatClampNeg (vp_nar .boolean 0)) (5 : Int32).toNatClampNeg (vp_nar .boolean 0))))] s.heap.size = A at hD ⊢
  have hA : ∀ q : Nat, s.heap.size ≤ q → A q := fun q h => by rw [← hAe]; exact Or.inr h
  have hS : va_S A s.heap s.heap [] := va_S.rf
  have hl := lv_entry ([.ref h0]) (n := 2) (Nat.le_of_ble_eq_true rfl)
  rw [lg_entry_eq]
  generalize (lg_sl ([.ref h0]) ++ List.replicate (2 - (lg_sl ([.ref h0])).length) Slot.unset).toArray = ls at hl ⊢
  have hl : lv_has ls 2 [(0, .ref h0)] := hl
  refine lv_aload_n hx hb dX2_putInOrder_0 rfl (lv_at hl 0 rfl) ?_
  refine lv_iconst (v := 0) hx hb dX2_putInOrder_1 (by decide +kernel) ?_
  refine va_put (D := (dC, dI)) (ci := 2) (v := .int 0) (ty := .int) (C := RX2) (T := TX2) (N := 5) hx hb hts (fun _ h => List.mem_cons_of_mem _ (List.mem_append_right _ h)) tyX2 tyX2_ok nmX2 hown hK hP hD hS 0 rfl rfl 0 (by decide) (hts (.fieldLink RX2 9 "DrumBoats$FinalList" "size" "I") (List.mem_of_getElem? (i := 1) rfl)) (fun _ h9 => h9) rfl (by decide +kernel) rfl rfl (Nat.le_of_ble_eq_true rfl) dX2_putInOrder_2 (fun H locs hP hD hS => ?_)
  have hP : va_P (dC, dI) vwCl [(h0, .inr (2, [.int 0, .ref aLi, .ref aBt, .ref aBp, .ref aCh])), (aCh, .inl (caCh, 6, .inl (upd (upd (upd (upd (upd (upd (fun _ => 0) (0 : Int32).toNatClampNeg (vp_nar .boolean 0)) (1 : Int32).toNatClampNeg (vp_nar .boolean 0)) (2 : Int32).toNatClampNeg (vp_nar .boolean 0)) (3 : Int32).toNatClampNeg (vp_nar .boolean 0)) (4 : Int32).toNatClampNeg (vp_nar .boolean 0)) (5 : Int32).toNatClampNeg (vp_nar .boolean 0))))] H := hP
  have hD : va_D A [(h0, .inr (2, [.int 0, .ref aLi, .ref aBt, .ref aBp, .ref aCh])), (aCh, .inl (caCh, 6, .inl (upd (upd (upd (upd (upd (upd (fun _ => 0) (0 : Int32).toNatClampNeg (vp_nar .boolean 0)) (1 : Int32).toNatClampNeg (vp_nar .boolean 0)) (2 : Int32).toNatClampNeg (vp_nar .boolean 0)) (3 : Int32).toNatClampNeg (vp_nar .boolean 0)) (4 : Int32).toNatClampNeg (vp_nar .boolean 0)) (5 : Int32).toNatClampNeg (vp_nar .boolean 0))))] := hD
  refine lv_iconst (v := 0) hx hb dX2_putInOrder_5 (by decide +kernel) ?_
  refine lv_istore_n (lv' := [(1, .int 0), (0, .ref h0)]) hx hb dX2_putInOrder_6 rfl hl (by decide) rfl (fun ls hl => ?_)
  refine lv_iload_n hx hb dX2_putInOrder_7 rfl (lv_at hl 0 rfl) ?_
  refine lv_bipush (v := 6) hx hb dX2_putInOrder_8 (by decide +kernel) ?_
  refine lv_icmp_ge (tgt := 49) hx hb dX2_putInOrder_10 (by decide) (fun c9 => absurd c9 (by decide +kernel)) (fun _ => ?_)
  refine lv_aload_n hx hb dX2_putInOrder_13 rfl (lv_at hl 1 rfl) ?_
  refine va_get (D := (dC, dI)) (ci := 2) (v := .ref aCh) (C := RX2) (T := TX2) (N := 5) hx hb hts (fun _ h => List.mem_cons_of_mem _ (List.mem_append_right _ h)) hown hK hP 0 rfl rfl 4 (by decide) (hts (.fieldLink RX2 26 "DrumBoats$FinalList" "chosen" "[Z") (List.mem_of_getElem? (i := 2) rfl)) (fun _ h9 => h9) rfl dX2_putInOrder_14 ?_
  refine lv_iload_n hx hb dX2_putInOrder_17 rfl (lv_at hl 0 rfl) ?_
  refine va_zald hx hb hK hP 1 0 rfl rfl (by unfold vp_in; decide +kernel) dX2_putInOrder_18 ?_
  refine ti_eq (y := 0) (by decide +kernel) ?_
  refine lv_if_eq (tgt := 43) hx hb dX2_putInOrder_19 (by decide) (fun _ => ?_) (fun c9 => absurd c9 (by decide +kernel))
  refine lv_iinc (v := 1) (lv' := [(1, .int 1), (0, .ref h0)]) hx hb dX2_putInOrder_43 hl (k := 0) rfl (by decide +kernel) (by decide) rfl (fun ls hl => ?_)
  refine lv_goto (tgt := 7) hx hb dX2_putInOrder_46 (by decide) ?_
  refine lv_iload_n hx hb dX2_putInOrder_7 rfl (lv_at hl 0 rfl) ?_
  refine lv_bipush (v := 6) hx hb dX2_putInOrder_8 (by decide +kernel) ?_
  refine lv_icmp_ge (tgt := 49) hx hb dX2_putInOrder_10 (by decide) (fun c9 => absurd c9 (by decide +kernel)) (fun _ => ?_)
  refine lv_aload_n hx hb dX2_putInOrder_13 rfl (lv_at hl 1 rfl) ?_
  refine va_get (D := (dC, dI)) (ci := 2) (v := .ref aCh) (C := RX2) (T := TX2) (N := 5) hx hb hts (fun _ h => List.mem_cons_of_mem _ (List.mem_append_right _ h)) hown hK hP 0 rfl rfl 4 (by decide) (hts (.fieldLink RX2 26 "DrumBoats$FinalList" "chosen" "[Z") (List.mem_of_getElem? (i := 2) rfl)) (fun _ h9 => h9) rfl dX2_putInOrder_14 ?_
  refine lv_iload_n hx hb dX2_putInOrder_17 rfl (lv_at hl 0 rfl) ?_
  refine va_zald hx hb hK hP 1 0 rfl rfl (by unfold vp_in; decide +kernel) dX2_putInOrder_18 ?_
  refine ti_eq (y := 0) (by decide +kernel) ?_
  refine lv_if_eq (tgt := 43) hx hb dX2_putInOrder_19 (by decide) (fun _ => ?_) (fun c9 => absurd c9 (by decide +kernel))
  refine lv_iinc (v := 2) (lv' := [(1, .int 2), (0, .ref h0)]) hx hb dX2_putInOrder_43 hl (k := 0) rfl (by decide +kernel) (by decide) rfl (fun ls hl => ?_)
  refine lv_goto (tgt := 7) hx hb dX2_putInOrder_46 (by decide) ?_
  refine lv_iload_n hx hb dX2_putInOrder_7 rfl (lv_at hl 0 rfl) ?_
  refine lv_bipush (v := 6) hx hb dX2_putInOrder_8 (by decide +kernel) ?_
  refine lv_icmp_ge (tgt := 49) hx hb dX2_putInOrder_10 (by decide) (fun c9 => absurd c9 (by decide +kernel)) (fun _ => ?_)
  refine lv_aload_n hx hb dX2_putInOrder_13 rfl (lv_at hl 1 rfl) ?_
  refine va_get (D := (dC, dI)) (ci := 2) (v := .ref aCh) (C := RX2) (T := TX2) (N := 5) hx hb hts (fun _ h => List.mem_cons_of_mem _ (List.mem_append_right _ h)) hown hK hP 0 rfl rfl 4 (by decide) (hts (.fieldLink RX2 26 "DrumBoats$FinalList" "chosen" "[Z") (List.mem_of_getElem? (i := 2) rfl)) (fun _ h9 => h9) rfl dX2_putInOrder_14 ?_
  refine lv_iload_n hx hb dX2_putInOrder_17 rfl (lv_at hl 0 rfl) ?_
  refine va_zald hx hb hK hP 1 0 rfl rfl (by unfold vp_in; decide +kernel) dX2_putInOrder_18 ?_
  refine ti_eq (y := 0) (by decide +kernel) ?_
  refine lv_if_eq (tgt := 43) hx hb dX2_putInOrder_19 (by decide) (fun _ => ?_) (fun c9 => absurd c9 (by decide +kernel))
  refine lv_iinc (v := 3) (lv' := [(1, .int 3), (0, .ref h0)]) hx hb dX2_putInOrder_43 hl (k := 0) rfl (by decide +kernel) (by decide) rfl (fun ls hl => ?_)
  refine lv_goto (tgt := 7) hx hb dX2_putInOrder_46 (by decide) ?_
  refine lv_iload_n hx hb dX2_putInOrder_7 rfl (lv_at hl 0 rfl) ?_
  refine lv_bipush (v := 6) hx hb dX2_putInOrder_8 (by decide +kernel) ?_
  refine lv_icmp_ge (tgt := 49) hx hb dX2_putInOrder_10 (by decide) (fun c9 => absurd c9 (by decide +kernel)) (fun _ => ?_)
  refine lv_aload_n hx hb dX2_putInOrder_13 rfl (lv_at hl 1 rfl) ?_
  refine va_get (D := (dC, dI)) (ci := 2) (v := .ref aCh) (C := RX2) (T := TX2) (N := 5) hx hb hts (fun _ h => List.mem_cons_of_mem _ (List.mem_append_right _ h)) hown hK hP 0 rfl rfl 4 (by decide) (hts (.fieldLink RX2 26 "DrumBoats$FinalList" "chosen" "[Z") (List.mem_of_getElem? (i := 2) rfl)) (fun _ h9 => h9) rfl dX2_putInOrder_14 ?_
  refine lv_iload_n hx hb dX2_putInOrder_17 rfl (lv_at hl 0 rfl) ?_
  refine va_zald hx hb hK hP 1 0 rfl rfl (by unfold vp_in; decide +kernel) dX2_putInOrder_18 ?_
  refine ti_eq (y := 0) (by decide +kernel) ?_
  refine lv_if_eq (tgt := 43) hx hb dX2_putInOrder_19 (by decide) (fun _ => ?_) (fun c9 => absurd c9 (by decide +kernel))
  refine lv_iinc (v := 4) (lv' := [(1, .int 4), (0, .ref h0)]) hx hb dX2_putInOrder_43 hl (k := 0) rfl (by decide +kernel) (by decide) rfl (fun ls hl => ?_)
  refine lv_goto (tgt := 7) hx hb dX2_putInOrder_46 (by decide) ?_
  refine lv_iload_n hx hb dX2_putInOrder_7 rfl (lv_at hl 0 rfl) ?_
  refine lv_bipush (v := 6) hx hb dX2_putInOrder_8 (by decide +kernel) ?_
  refine lv_icmp_ge (tgt := 49) hx hb dX2_putInOrder_10 (by decide) (fun c9 => absurd c9 (by decide +kernel)) (fun _ => ?_)
  refine lv_aload_n hx hb dX2_putInOrder_13 rfl (lv_at hl 1 rfl) ?_
  refine va_get (D := (dC, dI)) (ci := 2) (v := .ref aCh) (C := RX2) (T := TX2) (N := 5) hx hb hts (fun _ h => List.mem_cons_of_mem _ (List.mem_append_right _ h)) hown hK hP 0 rfl rfl 4 (by decide) (hts (.fieldLink RX2 26 "DrumBoats$FinalList" "chosen" "[Z") (List.mem_of_getElem? (i := 2) rfl)) (fun _ h9 => h9) rfl dX2_putInOrder_14 ?_
  refine lv_iload_n hx hb dX2_putInOrder_17 rfl (lv_at hl 0 rfl) ?_
  refine va_zald hx hb hK hP 1 0 rfl rfl (by unfold vp_in; decide +kernel) dX2_putInOrder_18 ?_
  refine ti_eq (y := 0) (by decide +kernel) ?_
  refine lv_if_eq (tgt := 43) hx hb dX2_putInOrder_19 (by decide) (fun _ => ?_) (fun c9 => absurd c9 (by decide +kernel))
  refine lv_iinc (v := 5) (lv' := [(1, .int 5), (0, .ref h0)]) hx hb dX2_putInOrder_43 hl (k := 0) rfl (by decide +kernel) (by decide) rfl (fun ls hl => ?_)
  refine lv_goto (tgt := 7) hx hb dX2_putInOrder_46 (by decide) ?_
  refine lv_iload_n hx hb dX2_putInOrder_7 rfl (lv_at hl 0 rfl) ?_
  refine lv_bipush (v := 6) hx hb dX2_putInOrder_8 (by decide +kernel) ?_
  refine lv_icmp_ge (tgt := 49) hx hb dX2_putInOrder_10 (by decide) (fun c9 => absurd c9 (by decide +kernel)) (fun _ => ?_)
  refine lv_aload_n hx hb dX2_putInOrder_13 rfl (lv_at hl 1 rfl) ?_
  refine va_get (D := (dC, dI)) (ci := 2) (v := .ref aCh) (C := RX2) (T := TX2) (N := 5) hx hb hts (fun _ h => List.mem_cons_of_mem _ (List.mem_append_right _ h)) hown hK hP 0 rfl rfl 4 (by decide) (hts (.fieldLink RX2 26 "DrumBoats$FinalList" "chosen" "[Z") (List.mem_of_getElem? (i := 2) rfl)) (fun _ h9 => h9) rfl dX2_putInOrder_14 ?_
  refine lv_iload_n hx hb dX2_putInOrder_17 rfl (lv_at hl 0 rfl) ?_
  refine va_zald hx hb hK hP 1 0 rfl rfl (by unfold vp_in; decide +kernel) dX2_putInOrder_18 ?_
  refine ti_eq (y := 0) (by decide +kernel) ?_
  refine lv_if_eq (tgt := 43) hx hb dX2_putInOrder_19 (by decide) (fun _ => ?_) (fun c9 => absurd c9 (by decide +kernel))
  refine lv_iinc (v := 6) (lv' := [(1, .int 6), (0, .ref h0)]) hx hb dX2_putInOrder_43 hl (k := 0) rfl (by decide +kernel) (by decide) rfl (fun ls hl => ?_)
  refine lv_goto (tgt := 7) hx hb dX2_putInOrder_46 (by decide) ?_
  refine lv_iload_n hx hb dX2_putInOrder_7 rfl (lv_at hl 0 rfl) ?_
  refine lv_bipush (v := 6) hx hb dX2_putInOrder_8 (by decide +kernel) ?_
  refine lv_icmp_ge (tgt := 49) hx hb dX2_putInOrder_10 (by decide) (fun _ => ?_) (fun c9 => absurd c9 (by decide +kernel))
  have hP9 := hP.sub (ws' := [(h0, .inr (2, [.int 0, .ref aLi, .ref aBt, .ref aBp, .ref aCh]))]) [0] rfl
  have hD9 := hD.sub (ws' := [(h0, .inr (2, [.int 0, .ref aLi, .ref aBt, .ref aBp, .ref aCh]))]) [0] (by decide) rfl
  have hK9 := hK.sub (tys' := []) [] rfl
  refine W.widen (k := 0) (n := 0) (Nat.le_of_ble_eq_true rfl) (Nat.le_of_ble_eq_true rfl) ?_
  exact W.vret hx hb hr (fun t ht hW => ⟨⟨(), rfl, trivial, by rw [ht]; exact hP9, va_K.moved hW.alike hK9, hD9⟩, hS.F ht⟩) hS.2.2 dX2_putInOrder_49
