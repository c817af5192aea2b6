set_option maxHeartbeats 4000000 in
set_option maxRecDepth 100000 in
theorem k_J3_checkIndex_n3 (l : Launch) (dC : Nat → ClassId) (dI : Nat → Nat → Nat) (sz : Nat) : Met l yJ3_checkIndex_8e157 wsJ3_checkIndex_8e157 ({ frames := 0, cells := 0, slots := 0, locals := 0 }) (va_Pc [.int 0, .int 3, .null] (fun U => U.heap.size = sz ∧ va_P (dC, dI) vwCl ([] : va_W) U.heap ∧ va_K (dC, dI) vwCl [] U)) (va_Qi (fun (r : Int32) (_ : Unit) => r = 0) (fun _ _ => True) (va_A ([] : va_W) sz)) 0 0 (va_A ([] : va_W) sz) := by
  refine Met.ofW (cc := cJ3_checkIndex_8e157) (maxL := 3) (ret := (some .int)) (by decide) rfl ?_
  intro p e s m args below meth c s₁ B hml hv
  obtain ⟨rfl, hsz, hP, hK⟩ := hv
  have hx := B.exec
  have hb := B.bytes
  have hr := B.returns
  have hts := atoms_spec (ws := wsJ3_checkIndex_8e157) B.pre
  have hown : s.vm.findClass RJ3 = some m.cls := findClass_of_methodNamed B.named
  have hlocks := B.notSynchronized
  subst hsz
  generalize hAe : va_A ([] : va_W) s.heap.size = A at ⊢
  have hA : ∀ q : Nat, s.heap.size ≤ q → A q := fun q h => by rw [← hAe]; exact Or.inr h
  have hS : va_S A s.heap s.heap [] := va_S.rf
  have hl := lv_entry ([.int 0, .int 3, .null]) (n := 3) (Nat.le_of_ble_eq_true rfl)
  rw [lg_entry_eq]
  generalize (lg_sl ([.int 0, .int 3, .null]) ++ List.replicate (3 - (lg_sl ([.int 0, .int 3, .null])).length) Slot.unset).toArray = ls at hl ⊢
  have hl : lv_has ls 3 [(0, .int 0), (1, .int 3), (2, .null)] := hl
  refine lv_iload_n hx hb dJ3_checkIndex_8e157_0 rfl (lv_at hl 0 rfl) ?_
  refine lv_if_lt (tgt := 9) hx hb dJ3_checkIndex_8e157_1 (by decide) (fun c9 => absurd c9 (by decide +kernel)) (fun _ => ?_)
  refine lv_iload_n hx hb dJ3_checkIndex_8e157_4 rfl (lv_at hl 0 rfl) ?_
  refine lv_iload_n hx hb dJ3_checkIndex_8e157_5 rfl (lv_at hl 1 rfl) ?_
  refine lv_icmp_lt (tgt := 16) hx hb dJ3_checkIndex_8e157_6 (by decide) (fun _ => ?_) (fun c9 => absurd c9 (by decide +kernel))
  refine lv_iload_n hx hb dJ3_checkIndex_8e157_16 rfl (lv_at hl 0 rfl) ?_
  refine W.widen (k := 0) (n := 0) (Nat.le_of_ble_eq_true rfl) (Nat.le_of_ble_eq_true rfl) ?_
  exact W.iret (v := 0) hx hb hr (fun t ht hW => ⟨⟨0, (), rfl, (by first | rfl | (exfalso; omega)), trivial⟩, hS.F ht⟩) hS.2.2 dJ3_checkIndex_8e157_17

set_option maxHeartbeats 4000000 in
set_option maxRecDepth 100000 in
theorem k_J0_checkIndex_q3 (l : Launch) (dC : Nat → ClassId) (dI : Nat → Nat → Nat) (sz : Nat) : Met l yJ0_checkIndex_df160 wsJ0_checkIndex_df160 ({ frames := 1, cells := 0, slots := 0, locals := 22 }) (va_Pc [.int 0, .int 3] (fun U => U.heap.size = sz ∧ va_P (dC, dI) vwCl ([] : va_W) U.heap ∧ va_K (dC, dI) vwCl [] U ∧ va_Zq "jdk/internal/util/Preconditions" "SIOOBE_FORMATTER" "Ljava/util/function/BiFunction;" (va_A ([] : va_W) sz) U U.heap)) (va_Qv (fun _ : Unit => True) (fun _ _ => True) (va_A ([] : va_W) sz)) 0 0 (va_A ([] : va_W) sz) := by
  refine Met.ofW (cc := cJ0_checkIndex_df160) (maxL := 2) (ret := none) (by decide) rfl ?_
  intro p e s m args below meth c s₁ B hml hv
  obtain ⟨rfl, hsz, hP, hK, hZq_SIOOBE_FORMATTER⟩ := hv
  have hx := B.exec
  have hb := B.bytes
  have hr := B.returns
  have hts := atoms_spec (ws := wsJ0_checkIndex_df160) B.pre
  have hown : s.vm.findClass RJ0 = some m.cls := findClass_of_methodNamed B.named
  have hlocks := B.notSynchronized
  subst hsz
  generalize hAe : va_A ([] : va_W) s.heap.size = A at hZq_SIOOBE_FORMATTER ⊢
  have hA : ∀ q : Nat, s.heap.size ≤ q → A q := fun q h => by rw [← hAe]; exact Or.inr h
  have hS : va_S A s.heap s.heap [] := va_S.rf
  have hl := lv_entry ([.int 0, .int 3]) (n := 2) (Nat.le_of_ble_eq_true rfl)
  rw [lg_entry_eq]
  generalize (lg_sl ([.int 0, .int 3]) ++ List.replicate (2 - (lg_sl ([.int 0, .int 3])).length) Slot.unset).toArray = ls at hl ⊢
  have hl : lv_has ls 2 [(0, .int 0), (1, .int 3)] := hl
  refine lv_iload_n hx hb dJ0_checkIndex_df160_0 rfl (lv_at hl 0 rfl) ?_
  refine lv_iload_n hx hb dJ0_checkIndex_df160_1 rfl (lv_at hl 1 rfl) ?_
  rcases hZq_SIOOBE_FORMATTER with hZ0 | ⟨sf, hZ0⟩
  · refine va_gets hx hb hZ0 hS hown (hts (.fieldLink RJ0 1053 "jdk/internal/util/Preconditions" "SIOOBE_FORMATTER" "Ljava/util/function/BiFunction;") (List.mem_of_getElem? (i := 1) rfl)) (fun _ h9 => h9) dJ0_checkIndex_df160_2 ?_
    have hPc := hP.sub (ws' := ([] : va_W)) [] rfl
    have hKc := hK.sub (tys' := []) [] rfl
    have hFc := ro_free hS hA
    refine va_calli (va_runS (As := [.int 0, .int 3, .null]) (rest := []) ⟨hx, hb, hml, hown, hts⟩ (k_J3_checkIndex_n3 l dC dI s.heap.size ) (va_cwS 3 hts gJ0_checkIndex_df160_J3_checkIndex_8e157 rfl rfl rfl (by decide +kernel) ⟨(Nat.le_of_ble_eq_true rfl), (Nat.le_of_ble_eq_true rfl)⟩) ⟨fun a U g mk q => by obtain ⟨q0, q1, qP, qK⟩ := q; exact ⟨q0, q1, qP, va_K.moved (u := U) (U := U.calling g mk a) (Vm.Alike.refl U.vm) qK⟩, fun U hU hW => ⟨rfl, by rw [hU], by rw [hU]; exact hPc, va_K.moved hW.alike hKc⟩⟩ rfl rfl hl.1 rfl (lv_room (Nat.le_of_ble_eq_true rfl)) dJ0_checkIndex_df160_5 ⟨(Nat.le_of_ble_eq_true rfl), (Nat.le_of_ble_eq_true rfl)⟩) hS (fun q _ h => hFc q h) hFc (fun r u t H1 locs ht hvm hw hB hz1 hk1 hS => ?_)
    refine W.widen (k := 0) (n := 0) (Nat.le_of_ble_eq_true rfl) (Nat.le_of_ble_eq_true rfl) ?_
    have hP := P_ro hP hk1
    generalize H1 = H at hP hS ⊢
    subst hw
    refine lv_pop hx hb dJ0_checkIndex_df160_8 rfl ?_
    refine W.widen (k := 0) (n := 0) (Nat.le_of_ble_eq_true rfl) (Nat.le_of_ble_eq_true rfl) ?_
    exact W.vret hx hb hr (fun t ht hW => ⟨⟨(), rfl, trivial, trivial⟩, hS.F ht⟩) hS.2.2 dJ0_checkIndex_df160_9
  · refine va_gets hx hb hZ0 hS hown (hts (.fieldLink RJ0 1053 "jdk/internal/util/Preconditions" "SIOOBE_FORMATTER" "Ljava/util/function/BiFunction;") (List.mem_of_getElem? (i := 1) rfl)) (fun _ h9 => h9) dJ0_checkIndex_df160_2 ?_
    have hPc := hP.sub (ws' := ([] : va_W)) [] rfl
    have hKc := hK.sub (tys' := []) [] rfl
    have hFc := ro_free hS hA
    refine va_calli (va_runS (As := [.int 0, .int 3, .ref sf]) (rest := []) ⟨hx, hb, hml, hown, hts⟩ (k_J3_checkIndex_3 l dC dI s.heap.size sf) (va_cwS 3 hts gJ0_checkIndex_df160_J3_checkIndex_8e157 rfl rfl rfl (by decide +kernel) ⟨(Nat.le_of_ble_eq_true rfl), (Nat.le_of_ble_eq_true rfl)⟩) ⟨fun a U g mk q => by obtain ⟨q0, q1, qP, qK⟩ := q; exact ⟨q0, q1, qP, va_K.moved (u := U) (U := U.calling g mk a) (Vm.Alike.refl U.vm) qK⟩, fun U hU hW => ⟨rfl, by rw [hU], by rw [hU]; exact hPc, va_K.moved hW.alike hKc⟩⟩ rfl rfl hl.1 rfl (lv_room (Nat.le_of_ble_eq_true rfl)) dJ0_checkIndex_df160_5 ⟨(Nat.le_of_ble_eq_true rfl), (Nat.le_of_ble_eq_true rfl)⟩) hS (fun q _ h => hFc q h) hFc (fun r u t H1 locs ht hvm hw hB hz1 hk1 hS => ?_)
    refine W.widen (k := 0) (n := 0) (Nat.le_of_ble_eq_true rfl) (Nat.le_of_ble_eq_true rfl) ?_
    have hP := P_ro hP hk1
    generalize H1 = H at hP hS ⊢
    subst hw
    refine lv_pop hx hb dJ0_checkIndex_df160_8 rfl ?_
    refine W.widen (k := 0) (n := 0) (Nat.le_of_ble_eq_true rfl) (Nat.le_of_ble_eq_true rfl) ?_
    exact W.vret hx hb hr (fun t ht hW => ⟨⟨(), rfl, trivial, trivial⟩, hS.F ht⟩) hS.2.2 dJ0_checkIndex_df160_9

set_option maxHeartbeats 4000000 in
set_option maxRecDepth 100000 in
theorem k_J3_checkIndex_n4 (l : Launch) (dC : Nat → ClassId) (dI : Nat → Nat → Nat) (sz : Nat) : Met l yJ3_checkIndex_8e157 wsJ3_checkIndex_8e157 ({ frames := 0, cells := 0, slots := 0, locals := 0 }) (va_Pc [.int 0, .int 4, .null] (fun U => U.heap.size = sz ∧ va_P (dC, dI) vwCl ([] : va_W) U.heap ∧ va_K (dC, dI) vwCl [] U)) (va_Qi (fun (r : Int32) (_ : Unit) => r = 0) (fun _ _ => True) (va_A ([] : va_W) sz)) 0 0 (va_A ([] : va_W) sz) := by
  refine Met.ofW (cc := cJ3_checkIndex_8e157) (maxL := 3) (ret := (some .int)) (by decide) rfl ?_
  intro p e s m args below meth c s₁ B hml hv
  obtain ⟨rfl, hsz, hP, hK⟩ := hv
  have hx := B.exec
  have hb := B.bytes
  have hr := B.returns
  have hts := atoms_spec (ws := wsJ3_checkIndex_8e157) B.pre
  have hown : s.vm.findClass RJ3 = some m.cls := findClass_of_methodNamed B.named
  have hlocks := B.notSynchronized
  subst hsz
  generalize hAe : va_A ([] : va_W) s.heap.size = A at ⊢
  have hA : ∀ q : Nat, s.heap.size ≤ q → A q := fun q h => by rw [← hAe]; exact Or.inr h
  have hS : va_S A s.heap s.heap [] := va_S.rf
  have hl := lv_entry ([.int 0, .int 4, .null]) (n := 3) (Nat.le_of_ble_eq_true rfl)
  rw [lg_entry_eq]
  generalize (lg_sl ([.int 0, .int 4, .null]) ++ List.replicate (3 - (lg_sl ([.int 0, .int 4, .null])).length) Slot.unset).toArray = ls at hl ⊢
  have hl : lv_has ls 3 [(0, .int 0), (1, .int 4), (2, .null)] := hl
  refine lv_iload_n hx hb dJ3_checkIndex_8e157_0 rfl (lv_at hl 0 rfl) ?_
  refine lv_if_lt (tgt := 9) hx hb dJ3_checkIndex_8e157_1 (by decide) (fun c9 => absurd c9 (by decide +kernel)) (fun _ => ?_)
  refine lv_iload_n hx hb dJ3_checkIndex_8e157_4 rfl (lv_at hl 0 rfl) ?_
  refine lv_iload_n hx hb dJ3_checkIndex_8e157_5 rfl (lv_at hl 1 rfl) ?_
  refine lv_icmp_lt (tgt := 16) hx hb dJ3_checkIndex_8e157_6 (by decide) (fun _ => ?_) (fun c9 => absurd c9 (by decide +kernel))
  refine lv_iload_n hx hb dJ3_checkIndex_8e157_16 rfl (lv_at hl 0 rfl) ?_
  refine W.widen (k := 0) (n := 0) (Nat.le_of_ble_eq_true rfl) (Nat.le_of_ble_eq_true rfl) ?_
  exact W.iret (v := 0) hx hb hr (fun t ht hW => ⟨⟨0, (), rfl, (by first | rfl | (exfalso; omega)), trivial⟩, hS.F ht⟩) hS.2.2 dJ3_checkIndex_8e157_17

set_option maxHeartbeats 4000000 in
set_option maxRecDepth 100000 in
theorem k_J0_checkIndex_q4 (l : Launch) (dC : Nat → ClassId) (dI : Nat → Nat → Nat) (sz : Nat) : Met l yJ0_checkIndex_df160 wsJ0_checkIndex_df160 ({ frames := 1, cells := 0, slots := 0, locals := 22 }) (va_Pc [.int 0, .int 4] (fun U => U.heap.size = sz ∧ va_P (dC, dI) vwCl ([] : va_W) U.heap ∧ va_K (dC, dI) vwCl [] U ∧ va_Zq "jdk/internal/util/Preconditions" "SIOOBE_FORMATTER" "Ljava/util/function/BiFunction;" (va_A ([] : va_W) sz) U U.heap)) (va_Qv (fun _ : Unit => True) (fun _ _ => True) (va_A ([] : va_W) sz)) 0 0 (va_A ([] : va_W) sz) := by
  refine Met.ofW (cc := cJ0_checkIndex_df160) (maxL := 2) (ret := none) (by decide) rfl ?_
  intro p e s m args below meth c s₁ B hml hv
  obtain ⟨rfl, hsz, hP, hK, hZq_SIOOBE_FORMATTER⟩ := hv
  have hx := B.exec
  have hb := B.bytes
  have hr := B.returns
  have hts := atoms_spec (ws := wsJ0_checkIndex_df160) B.pre
  have hown : s.vm.findClass RJ0 = some m.cls := findClass_of_methodNamed B.named
  have hlocks := B.notSynchronized
  subst hsz
  generalize hAe : va_A ([] : va_W) s.heap.size = A at hZq_SIOOBE_FORMATTER ⊢
  have hA : ∀ q : Nat, s.heap.size ≤ q → A q := fun q h => by rw [← hAe]; exact Or.inr h
  have hS : va_S A s.heap s.heap [] := va_S.rf
  have hl := lv_entry ([.int 0, .int 4]) (n := 2) (Nat.le_of_ble_eq_true rfl)
  rw [lg_entry_eq]
  generalize (lg_sl ([.int 0, .int 4]) ++ List.replicate (2 - (lg_sl ([.int 0, .int 4])).length) Slot.unset).toArray = ls at hl ⊢
  have hl : lv_has ls 2 [(0, .int 0), (1, .int 4)] := hl
  refine lv_iload_n hx hb dJ0_checkIndex_df160_0 rfl (lv_at hl 0 rfl) ?_
  refine lv_iload_n hx hb dJ0_checkIndex_df160_1 rfl (lv_at hl 1 rfl) ?_
  rcases hZq_SIOOBE_FORMATTER with hZ0 | ⟨sf, hZ0⟩
  · refine va_gets hx hb hZ0 hS hown (hts (.fieldLink RJ0 1053 "jdk/internal/util/Preconditions" "SIOOBE_FORMATTER" "Ljava/util/function/BiFunction;") (List.mem_of_getElem? (i := 1) rfl)) (fun _ h9 => h9) dJ0_checkIndex_df160_2 ?_
    have hPc := hP.sub (ws' := ([] : va_W)) [] rfl
    have hKc := hK.sub (tys' := []) [] rfl
    have hFc := ro_free hS hA
    refine va_calli (va_runS (As := [.int 0, .int 4, .null]) (rest := []) ⟨hx, hb, hml, hown, hts⟩ (k_J3_checkIndex_n4 l dC dI s.heap.size ) (va_cwS 3 hts gJ0_checkIndex_df160_J3_checkIndex_8e157 rfl rfl rfl (by decide +kernel) ⟨(Nat.le_of_ble_eq_true rfl), (Nat.le_of_ble_eq_true rfl)⟩) ⟨fun a U g mk q => by obtain ⟨q0, q1, qP, qK⟩ := q; exact ⟨q0, q1, qP, va_K.moved (u := U) (U := U.calling g mk a) (Vm.Alike.refl U.vm) qK⟩, fun U hU hW => ⟨rfl, by rw [hU], by rw [hU]; exact hPc, va_K.moved hW.alike hKc⟩⟩ rfl rfl hl.1 rfl (lv_room (Nat.le_of_ble_eq_true rfl)) dJ0_checkIndex_df160_5 ⟨(Nat.le_of_ble_eq_true rfl), (Nat.le_of_ble_eq_true rfl)⟩) hS (fun q _ h => hFc q h) hFc (fun r u t H1 locs ht hvm hw hB hz1 hk1 hS => ?_)
    refine W.widen (k := 0) (n := 0) (Nat.le_of_ble_eq_true rfl) (Nat.le_of_ble_eq_true rfl) ?_
    have hP := P_ro hP hk1
    generalize H1 = H at hP hS ⊢
    subst hw
    refine lv_pop hx hb dJ0_checkIndex_df160_8 rfl ?_
    refine W.widen (k := 0) (n := 0) (Nat.le_of_ble_eq_true rfl) (Nat.le_of_ble_eq_true rfl) ?_
    exact W.vret hx hb hr (fun t ht hW => ⟨⟨(), rfl, trivial, trivial⟩, hS.F ht⟩) hS.2.2 dJ0_checkIndex_df160_9
  · refine va_gets hx hb hZ0 hS hown (hts (.fieldLink RJ0 1053 "jdk/internal/util/Preconditions" "SIOOBE_FORMATTER" "Ljava/util/function/BiFunction;") (List.mem_of_getElem? (i := 1) rfl)) (fun _ h9 => h9) dJ0_checkIndex_df160_2 ?_
    have hPc := hP.sub (ws' := ([] : va_W)) [] rfl
    have hKc := hK.sub (tys' := []) [] rfl
    have hFc := ro_free hS hA
    refine va_calli (va_runS (As := [.int 0, .int 4, .ref sf]) (rest := []) ⟨hx, hb, hml, hown, hts⟩ (k_J3_checkIndex_4 l dC dI s.heap.size sf) (va_cwS 3 hts gJ0_checkIndex_df160_J3_checkIndex_8e157 rfl rfl rfl (by decide +kernel) ⟨(Nat.le_of_ble_eq_true rfl), (Nat.le_of_ble_eq_true rfl)⟩) ⟨fun a U g mk q => by obtain ⟨q0, q1, qP, qK⟩ := q; exact ⟨q0, q1, qP, va_K.moved (u := U) (U := U.calling g mk a) (Vm.Alike.refl U.vm) qK⟩, fun U hU hW => ⟨rfl, by rw [hU], by rw [hU]; exact hPc, va_K.moved hW.alike hKc⟩⟩ rfl rfl hl.1 rfl (lv_room (Nat.le_of_ble_eq_true rfl)) dJ0_checkIndex_df160_5 ⟨(Nat.le_of_ble_eq_true rfl), (Nat.le_of_ble_eq_true rfl)⟩) hS (fun q _ h => hFc q h) hFc (fun r u t H1 locs ht hvm hw hB hz1 hk1 hS => ?_)
    refine W.widen (k := 0) (n := 0) (Nat.le_of_ble_eq_true rfl) (Nat.le_of_ble_eq_true rfl) ?_
    have hP := P_ro hP hk1
    generalize H1 = H at hP hS ⊢
    subst hw
    refine lv_pop hx hb dJ0_checkIndex_df160_8 rfl ?_
    refine W.widen (k := 0) (n := 0) (Nat.le_of_ble_eq_true rfl) (Nat.le_of_ble_eq_true rfl) ?_
    exact W.vret hx hb hr (fun t ht hW => ⟨⟨(), rfl, trivial, trivial⟩, hS.F ht⟩) hS.2.2 dJ0_checkIndex_df160_9

set_option maxHeartbeats 4000000 in
set_option maxRecDepth 100000 in
theorem k_J3_checkIndex_n5 (l : Launch) (dC : Nat → ClassId) (dI : Nat → Nat → Nat) (sz : Nat) : Met l yJ3_checkIndex_8e157 wsJ3_checkIndex_8e157 ({ frames := 0, cells := 0, slots := 0, locals := 0 }) (va_Pc [.int 0, .int 5, .null] (fun U => U.heap.size = sz ∧ va_P (dC, dI) vwCl ([] : va_W) U.heap ∧ va_K (dC, dI) vwCl [] U)) (va_Qi (fun (r : Int32) (_ : Unit) => r = 0) (fun _ _ => True) (va_A ([] : va_W) sz)) 0 0 (va_A ([] : va_W) sz) := by
  refine Met.ofW (cc := cJ3_checkIndex_8e157) (maxL := 3) (ret := (some .int)) (by decide) rfl ?_
  intro p e s m args below meth c s₁ B hml hv
  obtain ⟨rfl, hsz, hP, hK⟩ := hv
  have hx := B.exec
  have hb := B.bytes
  have hr := B.returns
  have hts := atoms_spec (ws := wsJ3_checkIndex_8e157) B.pre
  have hown : s.vm.findClass RJ3 = some m.cls := findClass_of_methodNamed B.named
  have hlocks := B.notSynchronized
  subst hsz
  generalize hAe : va_A ([] : va_W) s.heap.size = A at ⊢
  have hA : ∀ q : Nat, s.heap.size ≤ q → A q := fun q h => by rw [← hAe]; exact Or.inr h
  have hS : va_S A s.heap s.heap [] := va_S.rf
  have hl := lv_entry ([.int 0, .int 5, .null]) (n := 3) (Nat.le_of_ble_eq_true rfl)
  rw [lg_entry_eq]
  generalize (lg_sl ([.int 0, .int 5, .null]) ++ List.replicate (3 - (lg_sl ([.int 0, .int 5, .null])).length) Slot.unset).toArray = ls at hl ⊢
  have hl : lv_has ls 3 [(0, .int 0), (1, .int 5), (2, .null)] := hl
  refine lv_iload_n hx hb dJ3_checkIndex_8e157_0 rfl (lv_at hl 0 rfl) ?_
  refine lv_if_lt (tgt := 9) hx hb dJ3_checkIndex_8e157_1 (by decide) (fun c9 => absurd c9 (by decide +kernel)) (fun _ => ?_)
  refine lv_iload_n hx hb dJ3_checkIndex_8e157_4 rfl (lv_at hl 0 rfl) ?_
  refine lv_iload_n hx hb dJ3_checkIndex_8e157_5 rfl (lv_at hl 1 rfl) ?_
  refine lv_icmp_lt (tgt := 16) hx hb dJ3_checkIndex_8e157_6 (by decide) (fun _ => ?_) (fun c9 => absurd c9 (by decide +kernel))
  refine lv_iload_n hx hb dJ3_checkIndex_8e157_16 rfl (lv_at hl 0 rfl) ?_
  refine W.widen (k := 0) (n := 0) (Nat.le_of_ble_eq_true rfl) (Nat.le_of_ble_eq_true rfl) ?_
  exact W.iret (v := 0) hx hb hr (fun t ht hW => ⟨⟨0, (), rfl, (by first | rfl | (exfalso; omega)), trivial⟩, hS.F ht⟩) hS.2.2 dJ3_checkIndex_8e157_17

set_option maxHeartbeats 4000000 in
set_option maxRecDepth 100000 in
theorem k_J0_checkIndex_q5 (l : Launch) (dC : Nat → ClassId) (dI : Nat → Nat → Nat) (sz : Nat) : Met l yJ0_checkIndex_df160 wsJ0_checkIndex_df160 ({ frames := 1, cells := 0, slots := 0, locals := 22 }) (va_Pc [.int 0, .int 5] (fun U => U.heap.size = sz ∧ va_P (dC, dI) vwCl ([] : va_W) U.heap ∧ va_K (dC, dI) vwCl [] U ∧ va_Zq "jdk/internal/util/Preconditions" "SIOOBE_FORMATTER" "Ljava/util/function/BiFunction;" (va_A ([] : va_W) sz) U U.heap)) (va_Qv (fun _ : Unit => True) (fun _ _ => True) (va_A ([] : va_W) sz)) 0 0 (va_A ([] : va_W) sz) := by
  refine Met.ofW (cc := cJ0_checkIndex_df160) (maxL := 2) (ret := none) (by decide) rfl ?_
  intro p e s m args below meth c s₁ B hml hv
  obtain ⟨rfl, hsz, hP, hK, hZq_SIOOBE_FORMATTER⟩ := hv
  have hx := B.exec
  have hb := B.bytes
  have hr := B.returns
  have hts := atoms_spec (ws := wsJ0_checkIndex_df160) B.pre
  have hown : s.vm.findClass RJ0 = some m.cls := findClass_of_methodNamed B.named
  have hlocks := B.notSynchronized
  subst hsz
  generalize hAe : va_A ([] : va_W) s.heap.size = A at hZq_SIOOBE_FORMATTER ⊢
  have hA : ∀ q : Nat, s.heap.size ≤ q → A q := fun q h => by rw [← hAe]; exact Or.inr h
  have hS : va_S A s.heap s.heap [] := va_S.rf
  have hl := lv_entry ([.int 0, .int 5]) (n := 2) (Nat.le_of_ble_eq_true rfl)
  rw [lg_entry_eq]
  generalize (lg_sl ([.int 0, .int 5]) ++ List.replicate (2 - (lg_sl ([.int 0, .int 5])).length) Slot.unset).toArray = ls at hl ⊢
  have hl : lv_has ls 2 [(0, .int 0), (1, .int 5)] := hl
  refine lv_iload_n hx hb dJ0_checkIndex_df160_0 rfl (lv_at hl 0 rfl) ?_
  refine lv_iload_n hx hb dJ0_checkIndex_df160_1 rfl (lv_at hl 1 rfl) ?_
  rcases hZq_SIOOBE_FORMATTER with hZ0 | ⟨sf, hZ0⟩
  · refine va_gets hx hb hZ0 hS hown (hts (.fieldLink RJ0 1053 "jdk/internal/util/Preconditions" "SIOOBE_FORMATTER" "Ljava/util/function/BiFunction;") (List.mem_of_getElem? (i := 1) rfl)) (fun _ h9 => h9) dJ0_checkIndex_df160_2 ?_
    have hPc := hP.sub (ws' := ([] : va_W)) [] rfl
    have hKc := hK.sub (tys' := []) [] rfl
    have hFc := ro_free hS hA
    refine va_calli (va_runS (As := [.int 0, .int 5, .null]) (rest := []) ⟨hx, hb, hml, hown, hts⟩ (k_J3_checkIndex_n5 l dC dI s.heap.size ) (va_cwS 3 hts gJ0_checkIndex_df160_J3_checkIndex_8e157 rfl rfl rfl (by decide +kernel) ⟨(Nat.le_of_ble_eq_true rfl), (Nat.le_of_ble_eq_true rfl)⟩) ⟨fun a U g mk q => by obtain ⟨q0, q1, qP, qK⟩ := q; exact ⟨q0, q1, qP, va_K.moved (u := U) (U := U.calling g mk a) (Vm.Alike.refl U.vm) qK⟩, fun U hU hW => ⟨rfl, by rw [hU], by rw [hU]; exact hPc, va_K.moved hW.alike hKc⟩⟩ rfl rfl hl.1 rfl (lv_room (Nat.le_of_ble_eq_true rfl)) dJ0_checkIndex_df160_5 ⟨(Nat.le_of_ble_eq_true rfl), (Nat.le_of_ble_eq_true rfl)⟩) hS (fun q _ h => hFc q h) hFc (fun r u t H1 locs ht hvm hw hB hz1 hk1 hS => ?_)
    refine W.widen (k := 0) (n := 0) (Nat.le_of_ble_eq_true rfl) (Nat.le_of_ble_eq_true rfl) ?_
    have hP := P_ro hP hk1
    generalize H1 = H at hP hS ⊢
    subst hw
    refine lv_pop hx hb dJ0_checkIndex_df160_8 rfl ?_
    refine W.widen (k := 0) (n := 0) (Nat.le_of_ble_eq_true rfl) (Nat.le_of_ble_eq_true rfl) ?_
    exact W.vret hx hb hr (fun t ht hW => ⟨⟨(), rfl, trivial, trivial⟩, hS.F ht⟩) hS.2.2 dJ0_checkIndex_df160_9
  · refine va_gets hx hb hZ0 hS hown (hts (.fieldLink RJ0 1053 "jdk/internal/util/Preconditions" "SIOOBE_FORMATTER" "Ljava/util/function/BiFunction;") (List.mem_of_getElem? (i := 1) rfl)) (fun _ h9 => h9) dJ0_checkIndex_df160_2 ?_
    have hPc := hP.sub (ws' := ([] : va_W)) [] rfl
    have hKc := hK.sub (tys' := []) [] rfl
    have hFc := ro_free hS hA
    refine va_calli (va_runS (As := [.int 0, .int 5, .ref sf]) (rest := []) ⟨hx, hb, hml, hown, hts⟩ (k_J3_checkIndex_5 l dC dI s.heap.size sf) (va_cwS 3 hts gJ0_checkIndex_df160_J3_checkIndex_8e157 rfl rfl rfl (by decide +kernel) ⟨(Nat.le_of_ble_eq_true rfl), (Nat.le_of_ble_eq_true rfl)⟩) ⟨fun a U g mk q => by obtain ⟨q0, q1, qP, qK⟩ := q; exact ⟨q0, q1, qP, va_K.moved (u := U) (U := U.calling g mk a) (Vm.Alike.refl U.vm) qK⟩, fun U hU hW => ⟨rfl, by rw [hU], by rw [hU]; exact hPc, va_K.moved hW.alike hKc⟩⟩ rfl rfl hl.1 rfl (lv_room (Nat.le_of_ble_eq_true rfl)) dJ0_checkIndex_df160_5 ⟨(Nat.le_of_ble_eq_true rfl), (Nat.le_of_ble_eq_true rfl)⟩) hS (fun q _ h => hFc q h) hFc (fun r u t H1 locs ht hvm hw hB hz1 hk1 hS => ?_)
    refine W.widen (k := 0) (n := 0) (Nat.le_of_ble_eq_true rfl) (Nat.le_of_ble_eq_true rfl) ?_
    have hP := P_ro hP hk1
    generalize H1 = H at hP hS ⊢
    subst hw
    refine lv_pop hx hb dJ0_checkIndex_df160_8 rfl ?_
    refine W.widen (k := 0) (n := 0) (Nat.le_of_ble_eq_true rfl) (Nat.le_of_ble_eq_true rfl) ?_
    exact W.vret hx hb hr (fun t ht hW => ⟨⟨(), rfl, trivial, trivial⟩, hS.F ht⟩) hS.2.2 dJ0_checkIndex_df160_9

set_option maxHeartbeats 4000000 in
set_option maxRecDepth 100000 in
theorem k_J3_checkIndex_n6 (l : Launch) (dC : Nat → ClassId) (dI : Nat → Nat → Nat) (sz : Nat) : Met l yJ3_checkIndex_8e157 wsJ3_checkIndex_8e157 ({ frames := 0, cells := 0, slots := 0, locals := 0 }) (va_Pc [.int 0, .int 6, .null] (fun U => U.heap.size = sz ∧ va_P (dC, dI) vwCl ([] : va_W) U.heap ∧ va_K (dC, dI) vwCl [] U)) (va_Qi (fun (r : Int32) (_ : Unit) => r = 0) (fun _ _ => True) (va_A ([] : va_W) sz)) 0 0 (va_A ([] : va_W) sz) := by
  refine Met.ofW (cc := cJ3_checkIndex_8e157) (maxL := 3) (ret := (some .int)) (by decide) rfl ?_
  intro p e s m args below meth c s₁ B hml hv
  obtain ⟨rfl, hsz, hP, hK⟩ := hv
  have hx := B.exec
  have hb := B.bytes
  have hr := B.returns
  have hts := atoms_spec (ws := wsJ3_checkIndex_8e157) B.pre
  have hown : s.vm.findClass RJ3 = some m.cls := findClass_of_methodNamed B.named
  have hlocks := B.notSynchronized
  subst hsz
  generalize hAe : va_A ([] : va_W) s.heap.size = A at ⊢
  have hA : ∀ q : Nat, s.heap.size ≤ q → A q := fun q h => by rw [← hAe]; exact Or.inr h
  have hS : va_S A s.heap s.heap [] := va_S.rf
  have hl := lv_entry ([.int 0, .int 6, .null]) (n := 3) (Nat.le_of_ble_eq_true rfl)
  rw [lg_entry_eq]
  generalize (lg_sl ([.int 0, .int 6, .null]) ++ List.replicate (3 - (lg_sl ([.int 0, .int 6, .null])).length) Slot.unset).toArray = ls at hl ⊢
  have hl : lv_has ls 3 [(0, .int 0), (1, .int 6), (2, .null)] := hl
  refine lv_iload_n hx hb dJ3_checkIndex_8e157_0 rfl (lv_at hl 0 rfl) ?_
  refine lv_if_lt (tgt := 9) hx hb dJ3_checkIndex_8e157_1 (by decide) (fun c9 => absurd c9 (by decide +kernel)) (fun _ => ?_)
  refine lv_iload_n hx hb dJ3_checkIndex_8e157_4 rfl (lv_at hl 0 rfl) ?_
  refine lv_iload_n hx hb dJ3_checkIndex_8e157_5 rfl (lv_at hl 1 rfl) ?_
  refine lv_icmp_lt (tgt := 16) hx hb dJ3_checkIndex_8e157_6 (by decide) (fun _ => ?_) (fun c9 => absurd c9 (by decide +kernel))
  refine lv_iload_n hx hb dJ3_checkIndex_8e157_16 rfl (lv_at hl 0 rfl) ?_
  refine W.widen (k := 0) (n := 0) (Nat.le_of_ble_eq_true rfl) (Nat.le_of_ble_eq_true rfl) ?_
  exact W.iret (v := 0) hx hb hr (fun t ht hW => ⟨⟨0, (), rfl, (by first | rfl | (exfalso; omega)), trivial⟩, hS.F ht⟩) hS.2.2 dJ3_checkIndex_8e157_17

set_option maxHeartbeats 4000000 in
set_option maxRecDepth 100000 in
theorem k_J0_checkIndex_q6 (l : Launch) (dC : Nat → ClassId) (dI : Nat → Nat → Nat) (sz : Nat) : Met l yJ0_checkIndex_df160 wsJ0_checkIndex_df160 ({ frames := 1, cells := 0, slots := 0, locals := 22 }) (va_Pc [.int 0, .int 6] (fun U => U.heap.size = sz ∧ va_P (dC, dI) vwCl ([] : va_W) U.heap ∧ va_K (dC, dI) vwCl [] U ∧ va_Zq "jdk/internal/util/Preconditions" "SIOOBE_FORMATTER" "Ljava/util/function/BiFunction;" (va_A ([] : va_W) sz) U U.heap)) (va_Qv (fun _ : Unit => True) (fun _ _ => True) (va_A ([] : va_W) sz)) 0 0 (va_A ([] : va_W) sz) := by
  refine Met.ofW (cc := cJ0_checkIndex_df160) (maxL := 2) (ret := none) (by decide) rfl ?_
  intro p e s m args below meth c s₁ B hml hv
  obtain ⟨rfl, hsz, hP, hK, hZq_SIOOBE_FORMATTER⟩ := hv
  have hx := B.exec
  have hb := B.bytes
  have hr := B.returns
  have hts := atoms_spec (ws := wsJ0_checkIndex_df160) B.pre
  have hown : s.vm.findClass RJ0 = some m.cls := findClass_of_methodNamed B.named
  have hlocks := B.notSynchronized
  subst hsz
  generalize hAe : va_A ([] : va_W) s.heap.size = A at hZq_SIOOBE_FORMATTER ⊢
  have hA : ∀ q : Nat, s.heap.size ≤ q → A q := fun q h => by rw [← hAe]; exact Or.inr h
  have hS : va_S A s.heap s.heap [] := va_S.rf
  have hl := lv_entry ([.int 0, .int 6]) (n := 2) (Nat.le_of_ble_eq_true rfl)
  rw [lg_entry_eq]
  generalize (lg_sl ([.int 0, .int 6]) ++ List.replicate (2 - (lg_sl ([.int 0, .int 6])).length) Slot.unset).toArray = ls at hl ⊢
  have hl : lv_has ls 2 [(0, .int 0), (1, .int 6)] := hl
  refine lv_iload_n hx hb dJ0_checkIndex_df160_0 rfl (lv_at hl 0 rfl) ?_
  refine lv_iload_n hx hb dJ0_checkIndex_df160_1 rfl (lv_at hl 1 rfl) ?_
  rcases hZq_SIOOBE_FORMATTER with hZ0 | ⟨sf, hZ0⟩
  · refine va_gets hx hb hZ0 hS hown (hts (.fieldLink RJ0 1053 "jdk/internal/util/Preconditions" "SIOOBE_FORMATTER" "Ljava/util/function/BiFunction;") (List.mem_of_getElem? (i := 1) rfl)) (fun _ h9 => h9) dJ0_checkIndex_df160_2 ?_
    have hPc := hP.sub (ws' := ([] : va_W)) [] rfl
    have hKc := hK.sub (tys' := []) [] rfl
    have hFc := ro_free hS hA
    refine va_calli (va_runS (As := [.int 0, .int 6, .null]) (rest := []) ⟨hx, hb, hml, hown, hts⟩ (k_J3_checkIndex_n6 l dC dI s.heap.size ) (va_cwS 3 hts gJ0_checkIndex_df160_J3_checkIndex_8e157 rfl rfl rfl (by decide +kernel) ⟨(Nat.le_of_ble_eq_true rfl), (Nat.le_of_ble_eq_true rfl)⟩) ⟨fun a U g mk q => by obtain ⟨q0, q1, qP, qK⟩ := q; exact ⟨q0, q1, qP, va_K.moved (u := U) (U := U.calling g mk a) (Vm.Alike.refl U.vm) qK⟩, fun U hU hW => ⟨rfl, by rw [hU], by rw [hU]; exact hPc, va_K.moved hW.alike hKc⟩⟩ rfl rfl hl.1 rfl (lv_room (Nat.le_of_ble_eq_true rfl)) dJ0_checkIndex_df160_5 ⟨(Nat.le_of_ble_eq_true rfl), (Nat.le_of_ble_eq_true rfl)⟩) hS (fun q _ h => hFc q h) hFc (fun r u t H1 locs ht hvm hw hB hz1 hk1 hS => ?_)
    refine W.widen (k := 0) (n := 0) (Nat.le_of_ble_eq_true rfl) (Nat.le_of_ble_eq_true rfl) ?_
    have hP := P_ro hP hk1
    generalize H1 = H at hP hS ⊢
    subst hw
    refine lv_pop hx hb dJ0_checkIndex_df160_8 rfl ?_
    refine W.widen (k := 0) (n := 0) (Nat.le_of_ble_eq_true rfl) (Nat.le_of_ble_eq_true rfl) ?_
    exact W.vret hx hb hr (fun t ht hW => ⟨⟨(), rfl, trivial, trivial⟩, hS.F ht⟩) hS.2.2 dJ0_checkIndex_df160_9
  · refine va_gets hx hb hZ0 hS hown (hts (.fieldLink RJ0 1053 "jdk/internal/util/Preconditions" "SIOOBE_FORMATTER" "Ljava/util/function/BiFunction;") (List.mem_of_getElem? (i := 1) rfl)) (fun _ h9 => h9) dJ0_checkIndex_df160_2 ?_
    have hPc := hP.sub (ws' := ([] : va_W)) [] rfl
    have hKc := hK.sub (tys' := []) [] rfl
    have hFc := ro_free hS hA
    refine va_calli (va_runS (As := [.int 0, .int 6, .ref sf]) (rest := []) ⟨hx, hb, hml, hown, hts⟩ (k_J3_checkIndex_6 l dC dI s.heap.size sf) (va_cwS 3 hts gJ0_checkIndex_df160_J3_checkIndex_8e157 rfl rfl rfl (by decide +kernel) ⟨(Nat.le_of_ble_eq_true rfl), (Nat.le_of_ble_eq_true rfl)⟩) ⟨fun a U g mk q => by obtain ⟨q0, q1, qP, qK⟩ := q; exact ⟨q0, q1, qP, va_K.moved (u := U) (U := U.calling g mk a) (Vm.Alike.refl U.vm) qK⟩, fun U hU hW => ⟨rfl, by rw [hU], by rw [hU]; exact hPc, va_K.moved hW.alike hKc⟩⟩ rfl rfl hl.1 rfl (lv_room (Nat.le_of_ble_eq_true rfl)) dJ0_checkIndex_df160_5 ⟨(Nat.le_of_ble_eq_true rfl), (Nat.le_of_ble_eq_true rfl)⟩) hS (fun q _ h => hFc q h) hFc (fun r u t H1 locs ht hvm hw hB hz1 hk1 hS => ?_)
    refine W.widen (k := 0) (n := 0) (Nat.le_of_ble_eq_true rfl) (Nat.le_of_ble_eq_true rfl) ?_
    have hP := P_ro hP hk1
    generalize H1 = H at hP hS ⊢
    subst hw
    refine lv_pop hx hb dJ0_checkIndex_df160_8 rfl ?_
    refine W.widen (k := 0) (n := 0) (Nat.le_of_ble_eq_true rfl) (Nat.le_of_ble_eq_true rfl) ?_
    exact W.vret hx hb hr (fun t ht hW => ⟨⟨(), rfl, trivial, trivial⟩, hS.F ht⟩) hS.2.2 dJ0_checkIndex_df160_9

set_option maxHeartbeats 4000000 in
set_option maxRecDepth 100000 in
theorem k_J1_charAt_qmen (l : Launch) (dC : Nat → ClassId) (dI : Nat → Nat → Nat) (sz : Nat) (sv : Nat) : Met l yJ1_charAt_3b067 wsJ1_charAt_3b067 ({ frames := 2, cells := 0, slots := 0, locals := 43 }) (va_Pc [.ref sv, .int 0] (fun U => U.heap.size = sz ∧ va_P (dC, dI) vwCl ([] : va_W) U.heap ∧ va_K (dC, dI) vwCl [] U ∧ va_Zq "jdk/internal/util/Preconditions" "SIOOBE_FORMATTER" "Ljava/util/function/BiFunction;" (va_A ([] : va_W) sz) U U.heap ∧ va_T .byte sv 3 (sb [109, 101, 110]) (va_A ([] : va_W) sz) U U.heap)) (va_Qi (fun (r : Int32) (_ : Unit) => r = 109) (fun _ _ => True) (va_A ([] : va_W) sz)) 0 0 (va_A ([] : va_W) sz) := by
  refine Met.ofW (cc := cJ1_charAt_3b067) (maxL := 2) (ret := (some .char)) (by decide) rfl ?_
  intro p e s m args below meth c s₁ B hml hv
  obtain ⟨rfl, hsz, hP, hK, hZq_SIOOBE_FORMATTER, hT_sv⟩ := hv
  have hx := B.exec
  have hb := B.bytes
  have hr := B.returns
  have hts := atoms_spec (ws := wsJ1_charAt_3b067) B.pre
  have hown : s.vm.findClass RJ1 = some m.cls := findClass_of_methodNamed B.named
  have hlocks := B.notSynchronized
  subst hsz
  generalize hAe : va_A ([] : va_W) s.heap.size = A at hZq_SIOOBE_FORMATTER hT_sv ⊢
  have hA : ∀ q : Nat, s.heap.size ≤ q → A q := fun q h => by rw [← hAe]; exact Or.inr h
  have hS : va_S A s.heap s.heap [] := va_S.rf
  have hl := lv_entry ([.ref sv, .int 0]) (n := 2) (Nat.le_of_ble_eq_true rfl)
  rw [lg_entry_eq]
  generalize (lg_sl ([.ref sv, .int 0]) ++ List.replicate (2 - (lg_sl ([.ref sv, .int 0])).length) Slot.unset).toArray = ls at hl ⊢
  have hl : lv_has ls 2 [(0, .ref sv), (1, .int 0)] := hl
  refine lv_iload_n hx hb dJ1_charAt_3b067_0 rfl (lv_at hl 1 rfl) ?_
  refine lv_aload_n hx hb dJ1_charAt_3b067_1 rfl (lv_at hl 0 rfl) ?_
  refine va_tlen (v := 3) hx hb hT_sv hS (by decide +kernel) dJ1_charAt_3b067_2 ?_
  have hPc := hP.sub (ws' := ([] : va_W)) [] rfl
  have hKc := hK.sub (tys' := []) [] rfl
  have hFc := ro_free hS hA
  refine va_callv (va_runS (As := [.int 0, .int 3]) (rest := []) ⟨hx, hb, hml, hown, hts⟩ (k_J0_checkIndex_q3 l dC dI s.heap.size ) (va_cwS 2 hts gJ1_charAt_3b067_J0_checkIndex_df160 rfl rfl rfl (by decide +kernel) ⟨(Nat.le_of_ble_eq_true rfl), (Nat.le_of_ble_eq_true rfl)⟩) ⟨fun a U g mk q => by obtain ⟨q0, q1, qP, qK, qe0⟩ := q; exact ⟨q0, q1, qP, va_K.moved (u := U) (U := U.calling g mk a) (Vm.Alike.refl U.vm) qK, (va_Zq.moved (U := U.calling g mk a) (Vm.Alike.refl U.vm) qe0)⟩, fun U hU hW => ⟨rfl, by rw [hU], by rw [hU]; exact hPc, va_K.moved hW.alike hKc, (by rw [hU]; exact va_Zq.moved hW.alike ((hZq_SIOOBE_FORMATTER.kept hS.2.1).narrow hFc))⟩⟩ rfl rfl hl.1 rfl (lv_room (Nat.le_of_ble_eq_true rfl)) dJ1_charAt_3b067_3 ⟨(Nat.le_of_ble_eq_true rfl), (Nat.le_of_ble_eq_true rfl)⟩) hS (fun q _ h => hFc q h) hFc (fun u t H1 locs ht hvm hw hB hz1 hk1 hS => ?_)
  refine W.widen (k := 0) (n := 0) (Nat.le_of_ble_eq_true rfl) (Nat.le_of_ble_eq_true rfl) ?_
  have hP := P_ro hP hk1
  generalize H1 = H at hP hS ⊢
  refine lv_aload_n hx hb dJ1_charAt_3b067_6 rfl (lv_at hl 0 rfl) ?_
  refine lv_iload_n hx hb dJ1_charAt_3b067_7 rfl (lv_at hl 1 rfl) ?_
  refine va_tb (v := .int 109) hx hb hT_sv hS (by unfold vp_in; decide +kernel) rfl dJ1_charAt_3b067_8 ?_
  refine lv_sipush (v := 255) hx hb dJ1_charAt_3b067_9 (by decide +kernel) ?_
  refine lv_iand hx hb dJ1_charAt_3b067_12 ?_
  refine ti_eq (y := 109) (by decide +kernel) ?_
  refine lv_i2c (v := 109) hx hb dJ1_charAt_3b067_13 (by decide +kernel) ?_
  refine W.widen (k := 0) (n := 0) (Nat.le_of_ble_eq_true rfl) (Nat.le_of_ble_eq_true rfl) ?_
  exact W.zret (v := 109) hx hb hr (by decide +kernel) (fun t ht hW => ⟨⟨109, (), rfl, (by first | rfl | (exfalso; omega)), trivial⟩, hS.F ht⟩) hS.2.2 dJ1_charAt_3b067_14

set_option maxHeartbeats 4000000 in
set_option maxRecDepth 100000 in
theorem k_J0_charAt_qmen (l : Launch) (dC : Nat → ClassId) (dI : Nat → Nat → Nat) (sz : Nat) (sa : Nat) (sv : Nat) : Met l yJ0_charAt_5068e wsJ0_charAt_5068e ({ frames := 3, cells := 0, slots := 0, locals := 64 }) (va_Pc [.ref sa, .int 0] (fun U => U.heap.size = sz ∧ va_P (dC, dI) vwCl ([] : va_W) U.heap ∧ va_K (dC, dI) vwCl [] U ∧ va_Z "java/lang/String" "COMPACT_STRINGS" "Z" (.int 1) (va_A ([] : va_W) sz) U U.heap ∧ va_Zq "jdk/internal/util/Preconditions" "SIOOBE_FORMATTER" "Ljava/util/function/BiFunction;" (va_A ([] : va_W) sz) U U.heap ∧ va_O "java/lang/String" sa (va_A ([] : va_W) sz) U U.heap ∧ va_OF "java/lang/String" "coder" "B" (.int 0) sa (va_A ([] : va_W) sz) U U.heap ∧ va_OF "java/lang/String" "value" "[B" (.ref sv) sa (va_A ([] : va_W) sz) U U.heap ∧ va_T .byte sv 3 (sb [109, 101, 110]) (va_A ([] : va_W) sz) U U.heap)) (va_Qi (fun (r : Int32) (_ : Unit) => r = 109) (fun _ _ => True) (va_A ([] : va_W) sz)) 0 0 (va_A ([] : va_W) sz) := by
  refine Met.ofW (cc := cJ0_charAt_5068e) (maxL := 2) (ret := (some .char)) (by decide) rfl ?_
  intro p e s m args below meth c s₁ B hml hv
  obtain ⟨rfl, hsz, hP, hK, hZ_COMPACT_STRINGS, hZq_SIOOBE_FORMATTER, hO_sa, hOc_sa, hOv_sa, hT_sv⟩ := hv
  have hx := B.exec
  have hb := B.bytes
  have hr := B.returns
  have hts := atoms_spec (ws := wsJ0_charAt_5068e) B.pre
  have hown : s.vm.findClass RJ0 = some m.cls := findClass_of_methodNamed B.named
  have hlocks := B.notSynchronized
  subst hsz
  generalize hAe : va_A ([] : va_W) s.heap.size = A at hZ_COMPACT_STRINGS hZq_SIOOBE_FORMATTER hO_sa hOc_sa hOv_sa hT_sv ⊢
  have hA : ∀ q : Nat, s.heap.size ≤ q → A q := fun q h => by rw [← hAe]; exact Or.inr h
  have hS : va_S A s.heap s.heap [] := va_S.rf
  have hl := lv_entry ([.ref sa, .int 0]) (n := 2) (Nat.le_of_ble_eq_true rfl)
  rw [lg_entry_eq]
  generalize (lg_sl ([.ref sa, .int 0]) ++ List.replicate (2 - (lg_sl ([.ref sa, .int 0])).length) Slot.unset).toArray = ls at hl ⊢
  have hl : lv_has ls 2 [(0, .ref sa), (1, .int 0)] := hl
  refine lv_aload_n hx hb dJ0_charAt_5068e_0 rfl (lv_at hl 0 rfl) ?_
  have hPc := hP.sub (ws' := ([] : va_W)) [] rfl
  have hKc := hK.sub (tys' := []) [] rfl
  have hFc := ro_free hS hA
  refine va_calli (va_runV (As := []) (rest := []) ⟨hx, hb, hml, hown, hts⟩ (k_J0_isLatin1_aae02 l dC dI s.heap.size sa) (cwV 0 hts gJ0_charAt_5068e_J0_isLatin1_aae02 rfl rfl rfl (by decide +kernel) ⟨(Nat.le_of_ble_eq_true rfl), (Nat.le_of_ble_eq_true rfl)⟩) ⟨fun a U g mk q => by obtain ⟨q0, q1, qP, qK, qe0, qe1⟩ := q; exact ⟨q0, q1, qP, va_K.moved (u := U) (U := U.calling g mk a) (Vm.Alike.refl U.vm) qK, (va_Z.moved (U := U.calling g mk a) (Vm.Alike.refl U.vm) qe0), (va_OF.moved (U := U.calling g mk a) (Vm.Alike.refl U.vm) qe1)⟩, va_Orecv hO_sa hS, fun U hU hW => ⟨rfl, by rw [hU], by rw [hU]; exact hPc, va_K.moved hW.alike hKc, (by rw [hU]; exact va_Z.moved hW.alike ((hZ_COMPACT_STRINGS.kept hS.2.1).narrow hFc)), (by rw [hU]; exact va_OF.moved hW.alike ((hOc_sa.kept hS.2.1).narrow hFc))⟩⟩ rfl rfl hl.1 rfl (lv_room (Nat.le_of_ble_eq_true rfl)) dJ0_charAt_5068e_1 ⟨(Nat.le_of_ble_eq_true rfl), (Nat.le_of_ble_eq_true rfl)⟩) hS (fun q _ h => hFc q h) hFc (fun r u t H1 locs ht hvm hw hB hz1 hk1 hS => ?_)
  refine W.widen (k := 0) (n := 0) (Nat.le_of_ble_eq_true rfl) (Nat.le_of_ble_eq_true rfl) ?_
  have hP := P_ro hP hk1
  generalize H1 = H at hP hS ⊢
  subst hw
  refine lv_if_eq (tgt := 16) hx hb dJ0_charAt_5068e_4 (by decide) (fun c9 => absurd c9 (by decide +kernel)) (fun _ => ?_)
  refine lv_aload_n hx hb dJ0_charAt_5068e_7 rfl (lv_at hl 0 rfl) ?_
  refine vk_getf hx hb hOv_sa hS hown (hts (.fieldLink RJ0 9 "java/lang/String" "value" "[B") (List.mem_of_getElem? (i := 1) rfl)) (fun _ h9 => h9) dJ0_charAt_5068e_8 ?_
  refine lv_iload_n hx hb dJ0_charAt_5068e_11 rfl (lv_at hl 1 rfl) ?_
  have hPc := hP.sub (ws' := ([] : va_W)) [] rfl
  have hKc := hK.sub (tys' := []) [] rfl
  have hFc := ro_free hS hA
  refine va_calli (va_runS (As := [.ref sv, .int 0]) (rest := []) ⟨hx, hb, hml, hown, hts⟩ (k_J1_charAt_qmen l dC dI H.size sv) (va_cwS 2 hts gJ0_charAt_5068e_J1_charAt_3b067 rfl rfl rfl (by decide +kernel) ⟨(Nat.le_of_ble_eq_true rfl), (Nat.le_of_ble_eq_true rfl)⟩) ⟨fun a U g mk q => by obtain ⟨q0, q1, qP, qK, qe0, qe1⟩ := q; exact ⟨q0, q1, qP, va_K.moved (u := U) (U := U.calling g mk a) (Vm.Alike.refl U.vm) qK, (va_Zq.moved (U := U.calling g mk a) (Vm.Alike.refl U.vm) qe0), (va_T.moved (U := U.calling g mk a) (Vm.Alike.refl U.vm) qe1)⟩, fun U hU hW => ⟨rfl, by rw [hU], by rw [hU]; exact hPc, va_K.moved hW.alike hKc, (by rw [hU]; exact va_Zq.moved hW.alike ((hZq_SIOOBE_FORMATTER.kept hS.2.1).narrow hFc)), (by rw [hU]; exact va_T.moved hW.alike ((hT_sv.kept hS.2.1).narrow hFc))⟩⟩ rfl rfl hl.1 rfl (lv_room (Nat.le_of_ble_eq_true rfl)) dJ0_charAt_5068e_12 ⟨(Nat.le_of_ble_eq_true rfl), (Nat.le_of_ble_eq_true rfl)⟩) hS (fun q _ h => hFc q h) hFc (fun r u t H1 locs ht hvm hw hB hz1 hk1 hS => ?_)
  refine W.widen (k := 0) (n := 0) (Nat.le_of_ble_eq_true rfl) (Nat.le_of_ble_eq_true rfl) ?_
  have hP := P_ro hP hk1
  generalize H1 = H at hP hS ⊢
  subst hw
  refine W.widen (k := 0) (n := 0) (Nat.le_of_ble_eq_true rfl) (Nat.le_of_ble_eq_true rfl) ?_
  exact W.zret (v := 109) hx hb hr (by decide +kernel) (fun t ht hW => ⟨⟨109, (), rfl, (by first | rfl | (exfalso; omega)), trivial⟩, hS.F ht⟩) hS.2.2 dJ0_charAt_5068e_15

set_option maxHeartbeats 4000000 in
set_option maxRecDepth 100000 in
theorem k_X7_hasSign_qmen (l : Launch) (dC : Nat → ClassId) (dI : Nat → Nat → Nat) (sz : Nat) (sa : Nat) (sv : Nat) : Met l yX7_hasSign wsX7_hasSign ({ frames := 4, cells := 0, slots := 0, locals := 85 }) (va_Pc [.ref sa, .int 0, .int (-1)] (fun U => U.heap.size = sz ∧ va_P (dC, dI) vwCl ([] : va_W) U.heap ∧ va_K (dC, dI) vwCl [] U ∧ va_Z "java/lang/String" "COMPACT_STRINGS" "Z" (.int 1) (va_A ([] : va_W) sz) U U.heap ∧ va_Zq "jdk/internal/util/Preconditions" "SIOOBE_FORMATTER" "Ljava/util/function/BiFunction;" (va_A ([] : va_W) sz) U U.heap ∧ va_O "java/lang/String" sa (va_A ([] : va_W) sz) U U.heap ∧ va_OF "java/lang/String" "coder" "B" (.int 0) sa (va_A ([] : va_W) sz) U U.heap ∧ va_OF "java/lang/String" "value" "[B" (.ref sv) sa (va_A ([] : va_W) sz) U U.heap ∧ va_T .byte sv 3 (sb [109, 101, 110]) (va_A ([] : va_W) sz) U U.heap)) (va_Qi (fun (r : Int32) (_ : Unit) => r = 0) (fun _ _ => True) (va_A ([] : va_W) sz)) 0 0 (va_A ([] : va_W) sz) := by
  refine Met.ofW (cc := cX7_hasSign) (maxL := 3) (ret := (some .boolean)) (by decide) rfl ?_
  intro p e s m args below meth c s₁ B hml hv
  obtain ⟨rfl, hsz, hP, hK, hZ_COMPACT_STRINGS, hZq_SIOOBE_FORMATTER, hO_sa, hOc_sa, hOv_sa, hT_sv⟩ := hv
  have hx := B.exec
  have hb := B.bytes
  have hr := B.returns
  have hts := atoms_spec (ws := wsX7_hasSign) B.pre
  have hown : s.vm.findClass RX7 = some m.cls := findClass_of_methodNamed B.named
  have hlocks := B.notSynchronized
  subst hsz
  generalize hAe : va_A ([] : va_W) s.heap.size = A at hZ_COMPACT_STRINGS hZq_SIOOBE_FORMATTER hO_sa hOc_sa hOv_sa hT_sv ⊢
  have hA : ∀ q : Nat, s.heap.size ≤ q → A q := fun q h => by rw [← hAe]; exact Or.inr h
  have hS : va_S A s.heap s.heap [] := va_S.rf
  have hl := lv_entry ([.ref sa, .int 0, .int (-1)]) (n := 3) (Nat.le_of_ble_eq_true rfl)
  rw [lg_entry_eq]
  generalize (lg_sl ([.ref sa, .int 0, .int (-1)]) ++ List.replicate (3 - (lg_sl ([.ref sa, .int 0, .int (-1)])).length) Slot.unset).toArray = ls at hl ⊢
  have hl : lv_has ls 3 [(0, .ref sa), (1, .int 0), (2, .int (-1))] := hl
  refine lv_iload_n hx hb dX7_hasSign_0 rfl (lv_at hl 1 rfl) ?_
  refine lv_aload_n hx hb dX7_hasSign_1 rfl (lv_at hl 0 rfl) ?_
  have hPc := hP.sub (ws' := ([] : va_W)) [] rfl
  have hKc := hK.sub (tys' := []) [] rfl
  have hFc := ro_free hS hA
  refine va_calli (va_runV (As := []) (rest := [.int 0]) ⟨hx, hb, hml, hown, hts⟩ (k_J0_length_men l dC dI s.heap.size sa sv) (cwV 0 hts gX7_hasSign_J0_length_8abf5 rfl rfl rfl (by decide +kernel) ⟨(Nat.le_of_ble_eq_true rfl), (Nat.le_of_ble_eq_true rfl)⟩) ⟨fun a U g mk q => by obtain ⟨q0, q1, qP, qK, qe0, qe1, qe2, qe3, qe4⟩ := q; exact ⟨q0, q1, qP, va_K.moved (u := U) (U := U.calling g mk a) (Vm.Alike.refl U.vm) qK, (va_Z.moved (U := U.calling g mk a) (Vm.Alike.refl U.vm) qe0), (va_O.moved (U := U.calling g mk a) (Vm.Alike.refl U.vm) qe1), (va_OF.moved (U := U.calling g mk a) (Vm.Alike.refl U.vm) qe2), (va_OF.moved (U := U.calling g mk a) (Vm.Alike.refl U.vm) qe3), (va_T.moved (U := U.calling g mk a) (Vm.Alike.refl U.vm) qe4)⟩, va_Orecv hO_sa hS, fun U hU hW => ⟨rfl, by rw [hU], by rw [hU]; exact hPc, va_K.moved hW.alike hKc, (by rw [hU]; exact va_Z.moved hW.alike ((hZ_COMPACT_STRINGS.kept hS.2.1).narrow hFc)), (by rw [hU]; exact va_O.moved hW.alike ((hO_sa.kept hS.2.1).narrow hFc)), (by rw [hU]; exact va_OF.moved hW.alike ((hOc_sa.kept hS.2.1).narrow hFc)), (by rw [hU]; exact va_OF.moved hW.alike ((hOv_sa.kept hS.2.1).narrow hFc)), (by rw [hU]; exact va_T.moved hW.alike ((hT_sv.kept hS.2.1).narrow hFc))⟩⟩ rfl rfl hl.1 rfl (lv_room (Nat.le_of_ble_eq_true rfl)) dX7_hasSign_2 ⟨(Nat.le_of_ble_eq_true rfl), (Nat.le_of_ble_eq_true rfl)⟩) hS (fun q _ h => hFc q h) hFc (fun r u t H1 locs ht hvm hw hB hz1 hk1 hS => ?_)
  refine W.widen (k := 0) (n := 0) (Nat.le_of_ble_eq_true rfl) (Nat.le_of_ble_eq_true rfl) ?_
  have hP := P_ro hP hk1
  generalize H1 = H at hP hS ⊢
  subst hw
  refine lv_icmp_ge (tgt := 21) hx hb dX7_hasSign_5 (by decide) (fun c9 => absurd c9 (by decide +kernel)) (fun _ => ?_)
  refine lv_aload_n hx hb dX7_hasSign_8 rfl (lv_at hl 0 rfl) ?_
  refine lv_iload_n hx hb dX7_hasSign_9 rfl (lv_at hl 1 rfl) ?_
  have hPc := hP.sub (ws' := ([] : va_W)) [] rfl
  have hKc := hK.sub (tys' := []) [] rfl
  have hFc := ro_free hS hA
  refine va_calli (va_runV (As := [.int 0]) (rest := []) ⟨hx, hb, hml, hown, hts⟩ (k_J0_charAt_qmen l dC dI H.size sa sv) (cwV 1 hts gX7_hasSign_J0_charAt_5068e rfl rfl rfl (by decide +kernel) ⟨(Nat.le_of_ble_eq_true rfl), (Nat.le_of_ble_eq_true rfl)⟩) ⟨fun a U g mk q => by obtain ⟨q0, q1, qP, qK, qe0, qe1, qe2, qe3, qe4, qe5⟩ := q; exact ⟨q0, q1, qP, va_K.moved (u := U) (U := U.calling g mk a) (Vm.Alike.refl U.vm) qK, (va_Z.moved (U := U.calling g mk a) (Vm.Alike.refl U.vm) qe0), (va_Zq.moved (U := U.calling g mk a) (Vm.Alike.refl U.vm) qe1), (va_O.moved (U := U.calling g mk a) (Vm.Alike.refl U.vm) qe2), (va_OF.moved (U := U.calling g mk a) (Vm.Alike.refl U.vm) qe3), (va_OF.moved (U := U.calling g mk a) (Vm.Alike.refl U.vm) qe4), (va_T.moved (U := U.calling g mk a) (Vm.Alike.refl U.vm) qe5)⟩, va_Orecv hO_sa hS, fun U hU hW => ⟨rfl, by rw [hU], by rw [hU]; exact hPc, va_K.moved hW.alike hKc, (by rw [hU]; exact va_Z.moved hW.alike ((hZ_COMPACT_STRINGS.kept hS.2.1).narrow hFc)), (by rw [hU]; exact va_Zq.moved hW.alike ((hZq_SIOOBE_FORMATTER.kept hS.2.1).narrow hFc)), (by rw [hU]; exact va_O.moved hW.alike ((hO_sa.kept hS.2.1).narrow hFc)), (by rw [hU]; exact va_OF.moved hW.alike ((hOc_sa.kept hS.2.1).narrow hFc)), (by rw [hU]; exact va_OF.moved hW.alike ((hOv_sa.kept hS.2.1).narrow hFc)), (by rw [hU]; exact va_T.moved hW.alike ((hT_sv.kept hS.2.1).narrow hFc))⟩⟩ rfl rfl hl.1 rfl (lv_room (Nat.le_of_ble_eq_true rfl)) dX7_hasSign_10 ⟨(Nat.le_of_ble_eq_true rfl), (Nat.le_of_ble_eq_true rfl)⟩) hS (fun q _ h => hFc q h) hFc (fun r u t H1 locs ht hvm hw hB hz1 hk1 hS => ?_)
  refine W.widen (k := 0) (n := 0) (Nat.le_of_ble_eq_true rfl) (Nat.le_of_ble_eq_true rfl) ?_
  have hP := P_ro hP hk1
  generalize H1 = H at hP hS ⊢
  subst hw
  refine lv_iload_n hx hb dX7_hasSign_13 rfl (lv_at hl 2 rfl) ?_
  refine lv_icmp_ne (tgt := 21) hx hb dX7_hasSign_14 (by decide) (fun _ => ?_) (fun c9 => absurd c9 (by decide +kernel))
  refine lv_iconst (v := 0) hx hb dX7_hasSign_21 (by decide +kernel) ?_
  refine W.widen (k := 0) (n := 0) (Nat.le_of_ble_eq_true rfl) (Nat.le_of_ble_eq_true rfl) ?_
  exact W.zret (v := 0) hx hb hr (by decide +kernel) (fun t ht hW => ⟨⟨0, (), rfl, (by first | rfl | (exfalso; omega)), trivial⟩, hS.F ht⟩) hS.2.2 dX7_hasSign_22

set_option maxHeartbeats 4000000 in
set_option maxRecDepth 100000 in
theorem k_J1_charAt_qwomen (l : Launch) (dC : Nat → ClassId) (dI : Nat → Nat → Nat) (sz : Nat) (sv : Nat) : Met l yJ1_charAt_3b067 wsJ1_charAt_3b067 ({ frames := 2, cells := 0, slots := 0, locals := 43 }) (va_Pc [.ref sv, .int 0] (fun U => U.heap.size = sz ∧ va_P (dC, dI) vwCl ([] : va_W) U.heap ∧ va_K (dC, dI) vwCl [] U ∧ va_Zq "jdk/internal/util/Preconditions" "SIOOBE_FORMATTER" "Ljava/util/function/BiFunction;" (va_A ([] : va_W) sz) U U.heap ∧ va_T .byte sv 5 (sb [119, 111, 109, 101, 110]) (va_A ([] : va_W) sz) U U.heap)) (va_Qi (fun (r : Int32) (_ : Unit) => r = 119) (fun _ _ => True) (va_A ([] : va_W) sz)) 0 0 (va_A ([] : va_W) sz) := by
  refine Met.ofW (cc := cJ1_charAt_3b067) (maxL := 2) (ret := (some .char)) (by decide) rfl ?_
  intro p e s m args below meth c s₁ B hml hv
  obtain ⟨rfl, hsz, hP, hK, hZq_SIOOBE_FORMATTER, hT_sv⟩ := hv
  have hx := B.exec
  have hb := B.bytes
  have hr := B.returns
  have hts := atoms_spec (ws := wsJ1_charAt_3b067) B.pre
  have hown : s.vm.findClass RJ1 = some m.cls := findClass_of_methodNamed B.named
  have hlocks := B.notSynchronized
  subst hsz
  generalize hAe : va_A ([] : va_W) s.heap.size = A at hZq_SIOOBE_FORMATTER hT_sv ⊢
  have hA : ∀ q : Nat, s.heap.size ≤ q → A q := fun q h => by rw [← hAe]; exact Or.inr h
  have hS : va_S A s.heap s.heap [] := va_S.rf
  have hl := lv_entry ([.ref sv, .int 0]) (n := 2) (Nat.le_of_ble_eq_true rfl)
  rw [lg_entry_eq]
  generalize (lg_sl ([.ref sv, .int 0]) ++ List.replicate (2 - (lg_sl ([.ref sv, .int 0])).length) Slot.unset).toArray = ls at hl ⊢
  have hl : lv_has ls 2 [(0, .ref sv), (1, .int 0)] := hl
  refine lv_iload_n hx hb dJ1_charAt_3b067_0 rfl (lv_at hl 1 rfl) ?_
  refine lv_aload_n hx hb dJ1_charAt_3b067_1 rfl (lv_at hl 0 rfl) ?_
  refine va_tlen (v := 5) hx hb hT_sv hS (by decide +kernel) dJ1_charAt_3b067_2 ?_
  have hPc := hP.sub (ws' := ([] : va_W)) [] rfl
  have hKc := hK.sub (tys' := []) [] rfl
  have hFc := ro_free hS hA
  refine va_callv (va_runS (As := [.int 0, .int 5]) (rest := []) ⟨hx, hb, hml, hown, hts⟩ (k_J0_checkIndex_q5 l dC dI s.heap.size ) (va_cwS 2 hts gJ1_charAt_3b067_J0_checkIndex_df160 rfl rfl rfl (by decide +kernel) ⟨(Nat.le_of_ble_eq_true rfl), (Nat.le_of_ble_eq_true rfl)⟩) ⟨fun a U g mk q => by obtain ⟨q0, q1, qP, qK, qe0⟩ := q; exact ⟨q0, q1, qP, va_K.moved (u := U) (U := U.calling g mk a) (Vm.Alike.refl U.vm) qK, (va_Zq.moved (U := U.calling g mk a) (Vm.Alike.refl U.vm) qe0)⟩, fun U hU hW => ⟨rfl, by rw [hU], by rw [hU]; exact hPc, va_K.moved hW.alike hKc, (by rw [hU]; exact va_Zq.moved hW.alike ((hZq_SIOOBE_FORMATTER.kept hS.2.1).narrow hFc))⟩⟩ rfl rfl hl.1 rfl (lv_room (Nat.le_of_ble_eq_true rfl)) dJ1_charAt_3b067_3 ⟨(Nat.le_of_ble_eq_true rfl), (Nat.le_of_ble_eq_true rfl)⟩) hS (fun q _ h => hFc q h) hFc (fun u t H1 locs ht hvm hw hB hz1 hk1 hS => ?_)
  refine W.widen (k := 0) (n := 0) (Nat.le_of_ble_eq_true rfl) (Nat.le_of_ble_eq_true rfl) ?_
  have hP := P_ro hP hk1
  generalize H1 = H at hP hS ⊢
  refine lv_aload_n hx hb dJ1_charAt_3b067_6 rfl (lv_at hl 0 rfl) ?_
  refine lv_iload_n hx hb dJ1_charAt_3b067_7 rfl (lv_at hl 1 rfl) ?_
  refine va_tb (v := .int 119) hx hb hT_sv hS (by unfold vp_in; decide +kernel) rfl dJ1_charAt_3b067_8 ?_
  refine lv_sipush (v := 255) hx hb dJ1_charAt_3b067_9 (by decide +kernel) ?_
  refine lv_iand hx hb dJ1_charAt_3b067_12 ?_
  refine ti_eq (y := 119) (by decide +kernel) ?_
  refine lv_i2c (v := 119) hx hb dJ1_charAt_3b067_13 (by decide +kernel) ?_
  refine W.widen (k := 0) (n := 0) (Nat.le_of_ble_eq_true rfl) (Nat.le_of_ble_eq_true rfl) ?_
  exact W.zret (v := 119) hx hb hr (by decide +kernel) (fun t ht hW => ⟨⟨119, (), rfl, (by first | rfl | (exfalso; omega)), trivial⟩, hS.F ht⟩) hS.2.2 dJ1_charAt_3b067_14

set_option maxHeartbeats 4000000 in
set_option maxRecDepth 100000 in
theorem k_J0_charAt_qwomen (l : Launch) (dC : Nat → ClassId) (dI : Nat → Nat → Nat) (sz : Nat) (sa : Nat) (sv : Nat) : Met l yJ0_charAt_5068e wsJ0_charAt_5068e ({ frames := 3, cells := 0, slots := 0, locals := 64 }) (va_Pc [.ref sa, .int 0] (fun U => U.heap.size = sz ∧ va_P (dC, dI) vwCl ([] : va_W) U.heap ∧ va_K (dC, dI) vwCl [] U ∧ va_Z "java/lang/String" "COMPACT_STRINGS" "Z" (.int 1) (va_A ([] : va_W) sz) U U.heap ∧ va_Zq "jdk/internal/util/Preconditions" "SIOOBE_FORMATTER" "Ljava/util/function/BiFunction;" (va_A ([] : va_W) sz) U U.heap ∧ va_O "java/lang/String" sa (va_A ([] : va_W) sz) U U.heap ∧ va_OF "java/lang/String" "coder" "B" (.int 0) sa (va_A ([] : va_W) sz) U U.heap ∧ va_OF "java/lang/String" "value" "[B" (.ref sv) sa (va_A ([] : va_W) sz) U U.heap ∧ va_T .byte sv 5 (sb [119, 111, 109, 101, 110]) (va_A ([] : va_W) sz) U U.heap)) (va_Qi (fun (r : Int32) (_ : Unit) => r = 119) (fun _ _ => True) (va_A ([] : va_W) sz)) 0 0 (va_A ([] : va_W) sz) := by
  refine Met.ofW (cc := cJ0_charAt_5068e) (maxL := 2) (ret := (some .char)) (by decide) rfl ?_
  intro p e s m args below meth c s₁ B hml hv
  obtain ⟨rfl, hsz, hP, hK, hZ_COMPACT_STRINGS, hZq_SIOOBE_FORMATTER, hO_sa, hOc_sa, hOv_sa, hT_sv⟩ := hv
  have hx := B.exec
  have hb := B.bytes
  have hr := B.returns
  have hts := atoms_spec (ws := wsJ0_charAt_5068e) B.pre
  have hown : s.vm.findClass RJ0 = some m.cls := findClass_of_methodNamed B.named
  have hlocks := B.notSynchronized
  subst hsz
  generalize hAe : va_A ([] : va_W) s.heap.size = A at hZ_COMPACT_STRINGS hZq_SIOOBE_FORMATTER hO_sa hOc_sa hOv_sa hT_sv ⊢
  have hA : ∀ q : Nat, s.heap.size ≤ q → A q := fun q h => by rw [← hAe]; exact Or.inr h
  have hS : va_S A s.heap s.heap [] := va_S.rf
  have hl := lv_entry ([.ref sa, .int 0]) (n := 2) (Nat.le_of_ble_eq_true rfl)
  rw [lg_entry_eq]
  generalize (lg_sl ([.ref sa, .int 0]) ++ List.replicate (2 - (lg_sl ([.ref sa, .int 0])).length) Slot.unset).toArray = ls at hl ⊢
  have hl : lv_has ls 2 [(0, .ref sa), (1, .int 0)] := hl
  refine lv_aload_n hx hb dJ0_charAt_5068e_0 rfl (lv_at hl 0 rfl) ?_
  have hPc := hP.sub (ws' := ([] : va_W)) [] rfl
  have hKc := hK.sub (tys' := []) [] rfl
  have hFc := ro_free hS hA
  refine va_calli (va_runV (As := []) (rest := []) ⟨hx, hb, hml, hown, hts⟩ (k_J0_isLatin1_aae02 l dC dI s.heap.size sa) (cwV 0 hts gJ0_charAt_5068e_J0_isLatin1_aae02 rfl rfl rfl (by decide +kernel) ⟨(Nat.le_of_ble_eq_true rfl), (Nat.le_of_ble_eq_true rfl)⟩) ⟨fun a U g mk q => by obtain ⟨q0, q1, qP, qK, qe0, qe1⟩ := q; exact ⟨q0, q1, qP, va_K.moved (u := U) (U := U.calling g mk a) (Vm.Alike.refl U.vm) qK, (va_Z.moved (U := U.calling g mk a) (Vm.Alike.refl U.vm) qe0), (va_OF.moved (U := U.calling g mk a) (Vm.Alike.refl U.vm) qe1)⟩, va_Orecv hO_sa hS, fun U hU hW => ⟨rfl, by rw [hU], by rw [hU]; exact hPc, va_K.moved hW.alike hKc, (by rw [hU]; exact va_Z.moved hW.alike ((hZ_COMPACT_STRINGS.kept hS.2.1).narrow hFc)), (by rw [hU]; exact va_OF.moved hW.alike ((hOc_sa.kept hS.2.1).narrow hFc))⟩⟩ rfl rfl hl.1 rfl (lv_room (Nat.le_of_ble_eq_true rfl)) dJ0_charAt_5068e_1 ⟨(Nat.le_of_ble_eq_true rfl), (Nat.le_of_ble_eq_true rfl)⟩) hS (fun q _ h => hFc q h) hFc (fun r u t H1 locs ht hvm hw hB hz1 hk1 hS => ?_)
  refine W.widen (k := 0) (n := 0) (Nat.le_of_ble_eq_true rfl) (Nat.le_of_ble_eq_true rfl) ?_
  have hP := P_ro hP hk1
  generalize H1 = H at hP hS ⊢
  subst hw
  refine lv_if_eq (tgt := 16) hx hb dJ0_charAt_5068e_4 (by decide) (fun c9 => absurd c9 (by decide +kernel)) (fun _ => ?_)
  refine lv_aload_n hx hb dJ0_charAt_5068e_7 rfl (lv_at hl 0 rfl) ?_
  refine vk_getf hx hb hOv_sa hS hown (hts (.fieldLink RJ0 9 "java/lang/String" "value" "[B") (List.mem_of_getElem? (i := 1) rfl)) (fun _ h9 => h9) dJ0_charAt_5068e_8 ?_
  refine lv_iload_n hx hb dJ0_charAt_5068e_11 rfl (lv_at hl 1 rfl) ?_
  have hPc := hP.sub (ws' := ([] : va_W)) [] rfl
  have hKc := hK.sub (tys' := []) [] rfl
  have hFc := ro_free hS hA
  refine va_calli (va_runS (As := [.ref sv, .int 0]) (rest := []) ⟨hx, hb, hml, hown, hts⟩ (k_J1_charAt_qwomen l dC dI H.size sv) (va_cwS 2 hts gJ0_charAt_5068e_J1_charAt_3b067 rfl rfl rfl (by decide +kernel) ⟨(Nat.le_of_ble_eq_true rfl), (Nat.le_of_ble_eq_true rfl)⟩) ⟨fun a U g mk q => by obtain ⟨q0, q1, qP, qK, qe0, qe1⟩ := q; exact ⟨q0, q1, qP, va_K.moved (u := U) (U := U.calling g mk a) (Vm.Alike.refl U.vm) qK, (va_Zq.moved (U := U.calling g mk a) (Vm.Alike.refl U.vm) qe0), (va_T.moved (U := U.calling g mk a) (Vm.Alike.refl U.vm) qe1)⟩, fun U hU hW => ⟨rfl, by rw [hU], by rw [hU]; exact hPc, va_K.moved hW.alike hKc, (by rw [hU]; exact va_Zq.moved hW.alike ((hZq_SIOOBE_FORMATTER.kept hS.2.1).narrow hFc)), (by rw [hU]; exact va_T.moved hW.alike ((hT_sv.kept hS.2.1).narrow hFc))⟩⟩ rfl rfl hl.1 rfl (lv_room (Nat.le_of_ble_eq_true rfl)) dJ0_charAt_5068e_12 ⟨(Nat.le_of_ble_eq_true rfl), (Nat.le_of_ble_eq_true rfl)⟩) hS (fun q _ h => hFc q h) hFc (fun r u t H1 locs ht hvm hw hB hz1 hk1 hS => ?_)
  refine W.widen (k := 0) (n := 0) (Nat.le_of_ble_eq_true rfl) (Nat.le_of_ble_eq_true rfl) ?_
  have hP := P_ro hP hk1
  generalize H1 = H at hP hS ⊢
  subst hw
  refine W.widen (k := 0) (n := 0) (Nat.le_of_ble_eq_true rfl) (Nat.le_of_ble_eq_true rfl) ?_
  exact W.zret (v := 119) hx hb hr (by decide +kernel) (fun t ht hW => ⟨⟨119, (), rfl, (by first | rfl | (exfalso; omega)), trivial⟩, hS.F ht⟩) hS.2.2 dJ0_charAt_5068e_15

set_option maxHeartbeats 4000000 in
set_option maxRecDepth 100000 in
theorem k_X7_hasSign_qwomen (l : Launch) (dC : Nat → ClassId) (dI : Nat → Nat → Nat) (sz : Nat) (sa : Nat) (sv : Nat) : Met l yX7_hasSign wsX7_hasSign ({ frames := 4, cells := 0, slots := 0, locals := 85 }) (va_Pc [.ref sa, .int 0, .int (-1)] (fun U => U.heap.size = sz ∧ va_P (dC, dI) vwCl ([] : va_W) U.heap ∧ va_K (dC, dI) vwCl [] U ∧ va_Z "java/lang/String" "COMPACT_STRINGS" "Z" (.int 1) (va_A ([] : va_W) sz) U U.heap ∧ va_Zq "jdk/internal/util/Preconditions" "SIOOBE_FORMATTER" "Ljava/util/function/BiFunction;" (va_A ([] : va_W) sz) U U.heap ∧ va_O "java/lang/String" sa (va_A ([] : va_W) sz) U U.heap ∧ va_OF "java/lang/String" "coder" "B" (.int 0) sa (va_A ([] : va_W) sz) U U.heap ∧ va_OF "java/lang/String" "value" "[B" (.ref sv) sa (va_A ([] : va_W) sz) U U.heap ∧ va_T .byte sv 5 (sb [119, 111, 109, 101, 110]) (va_A ([] : va_W) sz) U U.heap)) (va_Qi (fun (r : Int32) (_ : Unit) => r = 0) (fun _ _ => True) (va_A ([] : va_W) sz)) 0 0 (va_A ([] : va_W) sz) := by
  refine Met.ofW (cc := cX7_hasSign) (maxL := 3) (ret := (some .boolean)) (by decide) rfl ?_
  intro p e s m args below meth c s₁ B hml hv
  obtain ⟨rfl, hsz, hP, hK, hZ_COMPACT_STRINGS, hZq_SIOOBE_FORMATTER, hO_sa, hOc_sa, hOv_sa, hT_sv⟩ := hv
  have hx := B.exec
  have hb := B.bytes
  have hr := B.returns
  have hts := atoms_spec (ws := wsX7_hasSign) B.pre
  have hown : s.vm.findClass RX7 = some m.cls := findClass_of_methodNamed B.named
  have hlocks := B.notSynchronized
  subst hsz
  generalize hAe : va_A ([] : va_W) s.heap.size = A at hZ_COMPACT_STRINGS hZq_SIOOBE_FORMATTER hO_sa hOc_sa hOv_sa hT_sv ⊢
  have hA : ∀ q : Nat, s.heap.size ≤ q → A q := fun q h => by rw [← hAe]; exact Or.inr h
  have hS : va_S A s.heap s.heap [] := va_S.rf
  have hl := lv_entry ([.ref sa, .int 0, .int (-1)]) (n := 3) (Nat.le_of_ble_eq_true rfl)
  rw [lg_entry_eq]
  generalize (lg_sl ([.ref sa, .int 0, .int (-1)]) ++ List.replicate (3 - (lg_sl ([.ref sa, .int 0, .int (-1)])).length) Slot.unset).toArray = ls at hl ⊢
  have hl : lv_has ls 3 [(0, .ref sa), (1, .int 0), (2, .int (-1))] := hl
  refine lv_iload_n hx hb dX7_hasSign_0 rfl (lv_at hl 1 rfl) ?_
  refine lv_aload_n hx hb dX7_hasSign_1 rfl (lv_at hl 0 rfl) ?_
  have hPc := hP.sub (ws' := ([] : va_W)) [] rfl
  have hKc := hK.sub (tys' := []) [] rfl
  have hFc := ro_free hS hA
  refine va_calli (va_runV (As := []) (rest := [.int 0]) ⟨hx, hb, hml, hown, hts⟩ (k_J0_length_women l dC dI s.heap.size sa sv) (cwV 0 hts gX7_hasSign_J0_length_8abf5 rfl rfl rfl (by decide +kernel) ⟨(Nat.le_of_ble_eq_true rfl), (Nat.le_of_ble_eq_true rfl)⟩) ⟨fun a U g mk q => by obtain ⟨q0, q1, qP, qK, qe0, qe1, qe2, qe3, qe4⟩ := q; exact ⟨q0, q1, qP, va_K.moved (u := U) (U := U.calling g mk a) (Vm.Alike.refl U.vm) qK, (va_Z.moved (U := U.calling g mk a) (Vm.Alike.refl U.vm) qe0), (va_O.moved (U := U.calling g mk a) (Vm.Alike.refl U.vm) qe1), (va_OF.moved (U := U.calling g mk a) (Vm.Alike.refl U.vm) qe2), (va_OF.moved (U := U.calling g mk a) (Vm.Alike.refl U.vm) qe3), (va_T.moved (U := U.calling g mk a) (Vm.Alike.refl U.vm) qe4)⟩, va_Orecv hO_sa hS, fun U hU hW => ⟨rfl, by rw [hU], by rw [hU]; exact hPc, va_K.moved hW.alike hKc, (by rw [hU]; exact va_Z.moved hW.alike ((hZ_COMPACT_STRINGS.kept hS.2.1).narrow hFc)), (by rw [hU]; exact va_O.moved hW.alike ((hO_sa.kept hS.2.1).narrow hFc)), (by rw [hU]; exact va_OF.moved hW.alike ((hOc_sa.kept hS.2.1).narrow hFc)), (by rw [hU]; exact va_OF.moved hW.alike ((hOv_sa.kept hS.2.1).narrow hFc)), (by rw [hU]; exact va_T.moved hW.alike ((hT_sv.kept hS.2.1).narrow hFc))⟩⟩ rfl rfl hl.1 rfl (lv_room (Nat.le_of_ble_eq_true rfl)) dX7_hasSign_2 ⟨(Nat.le_of_ble_eq_true rfl), (Nat.le_of_ble_eq_true rfl)⟩) hS (fun q _ h => hFc q h) hFc (fun r u t H1 locs ht hvm hw hB hz1 hk1 hS => ?_)
  refine W.widen (k := 0) (n := 0) (Nat.le_of_ble_eq_true rfl) (Nat.le_of_ble_eq_true rfl) ?_
  have hP := P_ro hP hk1
  generalize H1 = H at hP hS ⊢
  subst hw
  refine lv_icmp_ge (tgt := 21) hx hb dX7_hasSign_5 (by decide) (fun c9 => absurd c9 (by decide +kernel)) (fun _ => ?_)
  refine lv_aload_n hx hb dX7_hasSign_8 rfl (lv_at hl 0 rfl) ?_
  refine lv_iload_n hx hb dX7_hasSign_9 rfl (lv_at hl 1 rfl) ?_
  have hPc := hP.sub (ws' := ([] : va_W)) [] rfl
  have hKc := hK.sub (tys' := []) [] rfl
  have hFc := ro_free hS hA
  refine va_calli (va_runV (As := [.int 0]) (rest := []) ⟨hx, hb, hml, hown, hts⟩ (k_J0_charAt_qwomen l dC dI H.size sa sv) (cwV 1 hts gX7_hasSign_J0_charAt_5068e rfl rfl rfl (by decide +kernel) ⟨(Nat.le_of_ble_eq_true rfl), (Nat.le_of_ble_eq_true rfl)⟩) ⟨fun a U g mk q => by obtain ⟨q0, q1, qP, qK, qe0, qe1, qe2, qe3, qe4, qe5⟩ := q; exact ⟨q0, q1, qP, va_K.moved (u := U) (U := U.calling g mk a) (Vm.Alike.refl U.vm) qK, (va_Z.moved (U := U.calling g mk a) (Vm.Alike.refl U.vm) qe0), (va_Zq.moved (U := U.calling g mk a) (Vm.Alike.refl U.vm) qe1), (va_O.moved (U := U.calling g mk a) (Vm.Alike.refl U.vm) qe2), (va_OF.moved (U := U.calling g mk a) (Vm.Alike.refl U.vm) qe3), (va_OF.moved (U := U.calling g mk a) (Vm.Alike.refl U.vm) qe4), (va_T.moved (U := U.calling g mk a) (Vm.Alike.refl U.vm) qe5)⟩, va_Orecv hO_sa hS, fun U hU hW => ⟨rfl, by rw [hU], by rw [hU]; exact hPc, va_K.moved hW.alike hKc, (by rw [hU]; exact va_Z.moved hW.alike ((hZ_COMPACT_STRINGS.kept hS.2.1).narrow hFc)), (by rw [hU]; exact va_Zq.moved hW.alike ((hZq_SIOOBE_FORMATTER.kept hS.2.1).narrow hFc)), (by rw [hU]; exact va_O.moved hW.alike ((hO_sa.kept hS.2.1).narrow hFc)), (by rw [hU]; exact va_OF.moved hW.alike ((hOc_sa.kept hS.2.1).narrow hFc)), (by rw [hU]; exact va_OF.moved hW.alike ((hOv_sa.kept hS.2.1).narrow hFc)), (by rw [hU]; exact va_T.moved hW.alike ((hT_sv.kept hS.2.1).narrow hFc))⟩⟩ rfl rfl hl.1 rfl (lv_room (Nat.le_of_ble_eq_true rfl)) dX7_hasSign_10 ⟨(Nat.le_of_ble_eq_true rfl), (Nat.le_of_ble_eq_true rfl)⟩) hS (fun q _ h => hFc q h) hFc (fun r u t H1 locs ht hvm hw hB hz1 hk1 hS => ?_)
  refine W.widen (k := 0) (n := 0) (Nat.le_of_ble_eq_true rfl) (Nat.le_of_ble_eq_true rfl) ?_
  have hP := P_ro hP hk1
  generalize H1 = H at hP hS ⊢
  subst hw
  refine lv_iload_n hx hb dX7_hasSign_13 rfl (lv_at hl 2 rfl) ?_
  refine lv_icmp_ne (tgt := 21) hx hb dX7_hasSign_14 (by decide) (fun _ => ?_) (fun c9 => absurd c9 (by decide +kernel))
  refine lv_iconst (v := 0) hx hb dX7_hasSign_21 (by decide +kernel) ?_
  refine W.widen (k := 0) (n := 0) (Nat.le_of_ble_eq_true rfl) (Nat.le_of_ble_eq_true rfl) ?_
  exact W.zret (v := 0) hx hb hr (by decide +kernel) (fun t ht hW => ⟨⟨0, (), rfl, (by first | rfl | (exfalso; omega)), trivial⟩, hS.F ht⟩) hS.2.2 dX7_hasSign_22

set_option maxHeartbeats 4000000 in
set_option maxRecDepth 100000 in
theorem k_J1_charAt_qold (l : Launch) (dC : Nat → ClassId) (dI : Nat → Nat → Nat) (sz : Nat) (sv : Nat) : Met l yJ1_charAt_3b067 wsJ1_charAt_3b067 ({ frames := 2, cells := 0, slots := 0, locals := 43 }) (va_Pc [.ref sv, .int 0] (fun U => U.heap.size = sz ∧ va_P (dC, dI) vwCl ([] : va_W) U.heap ∧ va_K (dC, dI) vwCl [] U ∧ va_Zq "jdk/internal/util/Preconditions" "SIOOBE_FORMATTER" "Ljava/util/function/BiFunction;" (va_A ([] : va_W) sz) U U.heap ∧ va_T .byte sv 3 (sb [111, 108, 100]) (va_A ([] : va_W) sz) U U.heap)) (va_Qi (fun (r : Int32) (_ : Unit) => r = 111) (fun _ _ => True) (va_A ([] : va_W) sz)) 0 0 (va_A ([] : va_W) sz) := by
  refine Met.ofW (cc := cJ1_charAt_3b067) (maxL := 2) (ret := (some .char)) (by decide) rfl ?_
  intro p e s m args below meth c s₁ B hml hv
  obtain ⟨rfl, hsz, hP, hK, hZq_SIOOBE_FORMATTER, hT_sv⟩ := hv
  have hx := B.exec
  have hb := B.bytes
  have hr := B.returns
  have hts := atoms_spec (ws := wsJ1_charAt_3b067) B.pre
  have hown : s.vm.findClass RJ1 = some m.cls := findClass_of_methodNamed B.named
  have hlocks := B.notSynchronized
  subst hsz
  generalize hAe : va_A ([] : va_W) s.heap.size = A at hZq_SIOOBE_FORMATTER hT_sv ⊢
  have hA : ∀ q : Nat, s.heap.size ≤ q → A q := fun q h => by rw [← hAe]; exact Or.inr h
  have hS : va_S A s.heap s.heap [] := va_S.rf
  have hl := lv_entry ([.ref sv, .int 0]) (n := 2) (Nat.le_of_ble_eq_true rfl)
  rw [lg_entry_eq]
  generalize (lg_sl ([.ref sv, .int 0]) ++ List.replicate (2 - (lg_sl ([.ref sv, .int 0])).length) Slot.unset).toArray = ls at hl ⊢
  have hl : lv_has ls 2 [(0, .ref sv), (1, .int 0)] := hl
  refine lv_iload_n hx hb dJ1_charAt_3b067_0 rfl (lv_at hl 1 rfl) ?_
  refine lv_aload_n hx hb dJ1_charAt_3b067_1 rfl (lv_at hl 0 rfl) ?_
  refine va_tlen (v := 3) hx hb hT_sv hS (by decide +kernel) dJ1_charAt_3b067_2 ?_
  have hPc := hP.sub (ws' := ([] : va_W)) [] rfl
  have hKc := hK.sub (tys' := []) [] rfl
  have hFc := ro_free hS hA
  refine va_callv (va_runS (As := [.int 0, .int 3]) (rest := []) ⟨hx, hb, hml, hown, hts⟩ (k_J0_checkIndex_q3 l dC dI s.heap.size ) (va_cwS 2 hts gJ1_charAt_3b067_J0_checkIndex_df160 rfl rfl rfl (by decide +kernel) ⟨(Nat.le_of_ble_eq_true rfl), (Nat.le_of_ble_eq_true rfl)⟩) ⟨fun a U g mk q => by obtain ⟨q0, q1, qP, qK, qe0⟩ := q; exact ⟨q0, q1, qP, va_K.moved (u := U) (U := U.calling g mk a) (Vm.Alike.refl U.vm) qK, (va_Zq.moved (U := U.calling g mk a) (Vm.Alike.refl U.vm) qe0)⟩, fun U hU hW => ⟨rfl, by rw [hU], by rw [hU]; exact hPc, va_K.moved hW.alike hKc, (by rw [hU]; exact va_Zq.moved hW.alike ((hZq_SIOOBE_FORMATTER.kept hS.2.1).narrow hFc))⟩⟩ rfl rfl hl.1 rfl (lv_room (Nat.le_of_ble_eq_true rfl)) dJ1_charAt_3b067_3 ⟨(Nat.le_of_ble_eq_true rfl), (Nat.le_of_ble_eq_true rfl)⟩) hS (fun q _ h => hFc q h) hFc (fun u t H1 locs ht hvm hw hB hz1 hk1 hS => ?_)
  refine W.widen (k := 0) (n := 0) (Nat.le_of_ble_eq_true rfl) (Nat.le_of_ble_eq_true rfl) ?_
  have hP := P_ro hP hk1
  generalize H1 = H at hP hS ⊢
  refine lv_aload_n hx hb dJ1_charAt_3b067_6 rfl (lv_at hl 0 rfl) ?_
  refine lv_iload_n hx hb dJ1_charAt_3b067_7 rfl (lv_at hl 1 rfl) ?_
  refine va_tb (v := .int 111) hx hb hT_sv hS (by unfold vp_in; decide +kernel) rfl dJ1_charAt_3b067_8 ?_
  refine lv_sipush (v := 255) hx hb dJ1_charAt_3b067_9 (by decide +kernel) ?_
  refine lv_iand hx hb dJ1_charAt_3b067_12 ?_
  refine ti_eq (y := 111) (by decide +kernel) ?_
  refine lv_i2c (v := 111) hx hb dJ1_charAt_3b067_13 (by decide +kernel) ?_
  refine W.widen (k := 0) (n := 0) (Nat.le_of_ble_eq_true rfl) (Nat.le_of_ble_eq_true rfl) ?_
  exact W.zret (v := 111) hx hb hr (by decide +kernel) (fun t ht hW => ⟨⟨111, (), rfl, (by first | rfl | (exfalso; omega)), trivial⟩, hS.F ht⟩) hS.2.2 dJ1_charAt_3b067_14

set_option maxHeartbeats 4000000 in
set_option maxRecDepth 100000 in
theorem k_J0_charAt_qold (l : Launch) (dC : Nat → ClassId) (dI : Nat → Nat → Nat) (sz : Nat) (sa : Nat) (sv : Nat) : Met l yJ0_charAt_5068e wsJ0_charAt_5068e ({ frames := 3, cells := 0, slots := 0, locals := 64 }) (va_Pc [.ref sa, .int 0] (fun U => U.heap.size = sz ∧ va_P (dC, dI) vwCl ([] : va_W) U.heap ∧ va_K (dC, dI) vwCl [] U ∧ va_Z "java/lang/String" "COMPACT_STRINGS" "Z" (.int 1) (va_A ([] : va_W) sz) U U.heap ∧ va_Zq "jdk/internal/util/Preconditions" "SIOOBE_FORMATTER" "Ljava/util/function/BiFunction;" (va_A ([] : va_W) sz) U U.heap ∧ va_O "java/lang/String" sa (va_A ([] : va_W) sz) U U.heap ∧ va_OF "java/lang/String" "coder" "B" (.int 0) sa (va_A ([] : va_W) sz) U U.heap ∧ va_OF "java/lang/String" "value" "[B" (.ref sv) sa (va_A ([] : va_W) sz) U U.heap ∧ va_T .byte sv 3 (sb [111, 108, 100]) (va_A ([] : va_W) sz) U U.heap)) (va_Qi (fun (r : Int32) (_ : Unit) => r = 111) (fun _ _ => True) (va_A ([] : va_W) sz)) 0 0 (va_A ([] : va_W) sz) := by
  refine Met.ofW (cc := cJ0_charAt_5068e) (maxL := 2) (ret := (some .char)) (by decide) rfl ?_
  intro p e s m args below meth c s₁ B hml hv
  obtain ⟨rfl, hsz, hP, hK, hZ_COMPACT_STRINGS, hZq_SIOOBE_FORMATTER, hO_sa, hOc_sa, hOv_sa, hT_sv⟩ := hv
  have hx := B.exec
  have hb := B.bytes
  have hr := B.returns
  have hts := atoms_spec (ws := wsJ0_charAt_5068e) B.pre
  have hown : s.vm.findClass RJ0 = some m.cls := findClass_of_methodNamed B.named
  have hlocks := B.notSynchronized
  subst hsz
  generalize hAe : va_A ([] : va_W) s.heap.size = A at hZ_COMPACT_STRINGS hZq_SIOOBE_FORMATTER hO_sa hOc_sa hOv_sa hT_sv ⊢
  have hA : ∀ q : Nat, s.heap.size ≤ q → A q := fun q h => by rw [← hAe]; exact Or.inr h
  have hS : va_S A s.heap s.heap [] := va_S.rf
  have hl := lv_entry ([.ref sa, .int 0]) (n := 2) (Nat.le_of_ble_eq_true rfl)
  rw [lg_entry_eq]
  generalize (lg_sl ([.ref sa, .int 0]) ++ List.replicate (2 - (lg_sl ([.ref sa, .int 0])).length) Slot.unset).toArray = ls at hl ⊢
  have hl : lv_has ls 2 [(0, .ref sa), (1, .int 0)] := hl
  refine lv_aload_n hx hb dJ0_charAt_5068e_0 rfl (lv_at hl 0 rfl) ?_
  have hPc := hP.sub (ws' := ([] : va_W)) [] rfl
  have hKc := hK.sub (tys' := []) [] rfl
  have hFc := ro_free hS hA
  refine va_calli (va_runV (As := []) (rest := []) ⟨hx, hb, hml, hown, hts⟩ (k_J0_isLatin1_aae02 l dC dI s.heap.size sa) (cwV 0 hts gJ0_charAt_5068e_J0_isLatin1_aae02 rfl rfl rfl (by decide +kernel) ⟨(Nat.le_of_ble_eq_true rfl), (Nat.le_of_ble_eq_true rfl)⟩) ⟨fun a U g mk q => by obtain ⟨q0, q1, qP, qK, qe0, qe1⟩ := q; exact ⟨q0, q1, qP, va_K.moved (u := U) (U := U.calling g mk a) (Vm.Alike.refl U.vm) qK, (va_Z.moved (U := U.calling g mk a) (Vm.Alike.refl U.vm) qe0), (va_OF.moved (U := U.calling g mk a) (Vm.Alike.refl U.vm) qe1)⟩, va_Orecv hO_sa hS, fun U hU hW => ⟨rfl, by rw [hU], by rw [hU]; exact hPc, va_K.moved hW.alike hKc, (by rw [hU]; exact va_Z.moved hW.alike ((hZ_COMPACT_STRINGS.kept hS.2.1).narrow hFc)), (by rw [hU]; exact va_OF.moved hW.alike ((hOc_sa.kept hS.2.1).narrow hFc))⟩⟩ rfl rfl hl.1 rfl (lv_room (Nat.le_of_ble_eq_true rfl)) dJ0_charAt_5068e_1 ⟨(Nat.le_of_ble_eq_true rfl), (Nat.le_of_ble_eq_true rfl)⟩) hS (fun q _ h => hFc q h) hFc (fun r u t H1 locs ht hvm hw hB hz1 hk1 hS => ?_)
  refine W.widen (k := 0) (n := 0) (Nat.le_of_ble_eq_true rfl) (Nat.le_of_ble_eq_true rfl) ?_
  have hP := P_ro hP hk1
  generalize H1 = H at hP hS ⊢
  subst hw
  refine lv_if_eq (tgt := 16) hx hb dJ0_charAt_5068e_4 (by decide) (fun c9 => absurd c9 (by decide +kernel)) (fun _ => ?_)
  refine lv_aload_n hx hb dJ0_charAt_5068e_7 rfl (lv_at hl 0 rfl) ?_
  refine vk_getf hx hb hOv_sa hS hown (hts (.fieldLink RJ0 9 "java/lang/String" "value" "[B") (List.mem_of_getElem? (i := 1) rfl)) (fun _ h9 => h9) dJ0_charAt_5068e_8 ?_
  refine lv_iload_n hx hb dJ0_charAt_5068e_11 rfl (lv_at hl 1 rfl) ?_
  have hPc := hP.sub (ws' := ([] : va_W)) [] rfl
  have hKc := hK.sub (tys' := []) [] rfl
  have hFc := ro_free hS hA
  refine va_calli (va_runS (As := [.ref sv, .int 0]) (rest := []) ⟨hx, hb, hml, hown, hts⟩ (k_J1_charAt_qold l dC dI H.size sv) (va_cwS 2 hts gJ0_charAt_5068e_J1_charAt_3b067 rfl rfl rfl (by decide +kernel) ⟨(Nat.le_of_ble_eq_true rfl), (Nat.le_of_ble_eq_true rfl)⟩) ⟨fun a U g mk q => by obtain ⟨q0, q1, qP, qK, qe0, qe1⟩ := q; exact ⟨q0, q1, qP, va_K.moved (u := U) (U := U.calling g mk a) (Vm.Alike.refl U.vm) qK, (va_Zq.moved (U := U.calling g mk a) (Vm.Alike.refl U.vm) qe0), (va_T.moved (U := U.calling g mk a) (Vm.Alike.refl U.vm) qe1)⟩, fun U hU hW => ⟨rfl, by rw [hU], by rw [hU]; exact hPc, va_K.moved hW.alike hKc, (by rw [hU]; exact va_Zq.moved hW.alike ((hZq_SIOOBE_FORMATTER.kept hS.2.1).narrow hFc)), (by rw [hU]; exact va_T.moved hW.alike ((hT_sv.kept hS.2.1).narrow hFc))⟩⟩ rfl rfl hl.1 rfl (lv_room (Nat.le_of_ble_eq_true rfl)) dJ0_charAt_5068e_12 ⟨(Nat.le_of_ble_eq_true rfl), (Nat.le_of_ble_eq_true rfl)⟩) hS (fun q _ h => hFc q h) hFc (fun r u t H1 locs ht hvm hw hB hz1 hk1 hS => ?_)
  refine W.widen (k := 0) (n := 0) (Nat.le_of_ble_eq_true rfl) (Nat.le_of_ble_eq_true rfl) ?_
  have hP := P_ro hP hk1
  generalize H1 = H at hP hS ⊢
  subst hw
  refine W.widen (k := 0) (n := 0) (Nat.le_of_ble_eq_true rfl) (Nat.le_of_ble_eq_true rfl) ?_
  exact W.zret (v := 111) hx hb hr (by decide +kernel) (fun t ht hW => ⟨⟨111, (), rfl, (by first | rfl | (exfalso; omega)), trivial⟩, hS.F ht⟩) hS.2.2 dJ0_charAt_5068e_15

set_option maxHeartbeats 4000000 in
set_option maxRecDepth 100000 in
theorem k_X7_hasSign_qold (l : Launch) (dC : Nat → ClassId) (dI : Nat → Nat → Nat) (sz : Nat) (sa : Nat) (sv : Nat) : Met l yX7_hasSign wsX7_hasSign ({ frames := 4, cells := 0, slots := 0, locals := 85 }) (va_Pc [.ref sa, .int 0, .int (-1)] (fun U => U.heap.size = sz ∧ va_P (dC, dI) vwCl ([] : va_W) U.heap ∧ va_K (dC, dI) vwCl [] U ∧ va_Z "java/lang/String" "COMPACT_STRINGS" "Z" (.int 1) (va_A ([] : va_W) sz) U U.heap ∧ va_Zq "jdk/internal/util/Preconditions" "SIOOBE_FORMATTER" "Ljava/util/function/BiFunction;" (va_A ([] : va_W) sz) U U.heap ∧ va_O "java/lang/String" sa (va_A ([] : va_W) sz) U U.heap ∧ va_OF "java/lang/String" "coder" "B" (.int 0) sa (va_A ([] : va_W) sz) U U.heap ∧ va_OF "java/lang/String" "value" "[B" (.ref sv) sa (va_A ([] : va_W) sz) U U.heap ∧ va_T .byte sv 3 (sb [111, 108, 100]) (va_A ([] : va_W) sz) U U.heap)) (va_Qi (fun (r : Int32) (_ : Unit) => r = 0) (fun _ _ => True) (va_A ([] : va_W) sz)) 0 0 (va_A ([] : va_W) sz) := by
  refine Met.ofW (cc := cX7_hasSign) (maxL := 3) (ret := (some .boolean)) (by decide) rfl ?_
  intro p e s m args below meth c s₁ B hml hv
  obtain ⟨rfl, hsz, hP, hK, hZ_COMPACT_STRINGS, hZq_SIOOBE_FORMATTER, hO_sa, hOc_sa, hOv_sa, hT_sv⟩ := hv
  have hx := B.exec
  have hb := B.bytes
  have hr := B.returns
  have hts := atoms_spec (ws := wsX7_hasSign) B.pre
  have hown : s.vm.findClass RX7 = some m.cls := findClass_of_methodNamed B.named
  have hlocks := B.notSynchronized
  subst hsz
  generalize hAe : va_A ([] : va_W) s.heap.size = A at hZ_COMPACT_STRINGS hZq_SIOOBE_FORMATTER hO_sa hOc_sa hOv_sa hT_sv ⊢
  have hA : ∀ q : Nat, s.heap.size ≤ q → A q := fun q h => by rw [← hAe]; exact Or.inr h
  have hS : va_S A s.heap s.heap [] := va_S.rf
  have hl := lv_entry ([.ref sa, .int 0, .int (-1)]) (n := 3) (Nat.le_of_ble_eq_true rfl)
  rw [lg_entry_eq]
  generalize (lg_sl ([.ref sa, .int 0, .int (-1)]) ++ List.replicate (3 - (lg_sl ([.ref sa, .int 0, .int (-1)])).length) Slot.unset).toArray = ls at hl ⊢
  have hl : lv_has ls 3 [(0, .ref sa), (1, .int 0), (2, .int (-1))] := hl
  refine lv_iload_n hx hb dX7_hasSign_0 rfl (lv_at hl 1 rfl) ?_
  refine lv_aload_n hx hb dX7_hasSign_1 rfl (lv_at hl 0 rfl) ?_
  have hPc := hP.sub (ws' := ([] : va_W)) [] rfl
  have hKc := hK.sub (tys' := []) [] rfl
  have hFc := ro_free hS hA
  refine va_calli (va_runV (As := []) (rest := [.int 0]) ⟨hx, hb, hml, hown, hts⟩ (k_J0_length_old l dC dI s.heap.size sa sv) (cwV 0 hts gX7_hasSign_J0_length_8abf5 rfl rfl rfl (by decide +kernel) ⟨(Nat.le_of_ble_eq_true rfl), (Nat.le_of_ble_eq_true rfl)⟩) ⟨fun a U g mk q => by obtain ⟨q0, q1, qP, qK, qe0, qe1, qe2, qe3, qe4⟩ := q; exact ⟨q0, q1, qP, va_K.moved (u := U) (U := U.calling g mk a) (Vm.Alike.refl U.vm) qK, (va_Z.moved (U := U.calling g mk a) (Vm.Alike.refl U.vm) qe0), (va_O.moved (U := U.calling g mk a) (Vm.Alike.refl U.vm) qe1), (va_OF.moved (U := U.calling g mk a) (Vm.Alike.refl U.vm) qe2), (va_OF.moved (U := U.calling g mk a) (Vm.Alike.refl U.vm) qe3), (va_T.moved (U := U.calling g mk a) (Vm.Alike.refl U.vm) qe4)⟩, va_Orecv hO_sa hS, fun U hU hW => ⟨rfl, by rw [hU], by rw [hU]; exact hPc, va_K.moved hW.alike hKc, (by rw [hU]; exact va_Z.moved hW.alike ((hZ_COMPACT_STRINGS.kept hS.2.1).narrow hFc)), (by rw [hU]; exact va_O.moved hW.alike ((hO_sa.kept hS.2.1).narrow hFc)), (by rw [hU]; exact va_OF.moved hW.alike ((hOc_sa.kept hS.2.1).narrow hFc)), (by rw [hU]; exact va_OF.moved hW.alike ((hOv_sa.kept hS.2.1).narrow hFc)), (by rw [hU]; exact va_T.moved hW.alike ((hT_sv.kept hS.2.1).narrow hFc))⟩⟩ rfl rfl hl.1 rfl (lv_room (Nat.le_of_ble_eq_true rfl)) dX7_hasSign_2 ⟨(Nat.le_of_ble_eq_true rfl), (Nat.le_of_ble_eq_true rfl)⟩) hS (fun q _ h => hFc q h) hFc (fun r u t H1 locs ht hvm hw hB hz1 hk1 hS => ?_)
  refine W.widen (k := 0) (n := 0) (Nat.le_of_ble_eq_true rfl) (Nat.le_of_ble_eq_true rfl) ?_
  have hP := P_ro hP hk1
  generalize H1 = H at hP hS ⊢
  subst hw
  refine lv_icmp_ge (tgt := 21) hx hb dX7_hasSign_5 (by decide) (fun c9 => absurd c9 (by decide +kernel)) (fun _ => ?_)
  refine lv_aload_n hx hb dX7_hasSign_8 rfl (lv_at hl 0 rfl) ?_
  refine lv_iload_n hx hb dX7_hasSign_9 rfl (lv_at hl 1 rfl) ?_
  have hPc := hP.sub (ws' := ([] : va_W)) [] rfl
  have hKc := hK.sub (tys' := []) [] rfl
  have hFc := ro_free hS hA
  refine va_calli (va_runV (As := [.int 0]) (rest := []) ⟨hx, hb, hml, hown, hts⟩ (k_J0_charAt_qold l dC dI H.size sa sv) (cwV 1 hts gX7_hasSign_J0_charAt_5068e rfl rfl rfl (by decide +kernel) ⟨(Nat.le_of_ble_eq_true rfl), (Nat.le_of_ble_eq_true rfl)⟩) ⟨fun a U g mk q => by obtain ⟨q0, q1, qP, qK, qe0, qe1, qe2, qe3, qe4, qe5⟩ := q; exact ⟨q0, q1, qP, va_K.moved (u := U) (U := U.calling g mk a) (Vm.Alike.refl U.vm) qK, (va_Z.moved (U := U.calling g mk a) (Vm.Alike.refl U.vm) qe0), (va_Zq.moved (U := U.calling g mk a) (Vm.Alike.refl U.vm) qe1), (va_O.moved (U := U.calling g mk a) (Vm.Alike.refl U.vm) qe2), (va_OF.moved (U := U.calling g mk a) (Vm.Alike.refl U.vm) qe3), (va_OF.moved (U := U.calling g mk a) (Vm.Alike.refl U.vm) qe4), (va_T.moved (U := U.calling g mk a) (Vm.Alike.refl U.vm) qe5)⟩, va_Orecv hO_sa hS, fun U hU hW => ⟨rfl, by rw [hU], by rw [hU]; exact hPc, va_K.moved hW.alike hKc, (by rw [hU]; exact va_Z.moved hW.alike ((hZ_COMPACT_STRINGS.kept hS.2.1).narrow hFc)), (by rw [hU]; exact va_Zq.moved hW.alike ((hZq_SIOOBE_FORMATTER.kept hS.2.1).narrow hFc)), (by rw [hU]; exact va_O.moved hW.alike ((hO_sa.kept hS.2.1).narrow hFc)), (by rw [hU]; exact va_OF.moved hW.alike ((hOc_sa.kept hS.2.1).narrow hFc)), (by rw [hU]; exact va_OF.moved hW.alike ((hOv_sa.kept hS.2.1).narrow hFc)), (by rw [hU]; exact va_T.moved hW.alike ((hT_sv.kept hS.2.1).narrow hFc))⟩⟩ rfl rfl hl.1 rfl (lv_room (Nat.le_of_ble_eq_true rfl)) dX7_hasSign_10 ⟨(Nat.le_of_ble_eq_true rfl), (Nat.le_of_ble_eq_true rfl)⟩) hS (fun q _ h => hFc q h) hFc (fun r u t H1 locs ht hvm hw hB hz1 hk1 hS => ?_)
  refine W.widen (k := 0) (n := 0) (Nat.le_of_ble_eq_true rfl) (Nat.le_of_ble_eq_true rfl) ?_
  have hP := P_ro hP hk1
  generalize H1 = H at hP hS ⊢
  subst hw
  refine lv_iload_n hx hb dX7_hasSign_13 rfl (lv_at hl 2 rfl) ?_
  refine lv_icmp_ne (tgt := 21) hx hb dX7_hasSign_14 (by decide) (fun _ => ?_) (fun c9 => absurd c9 (by decide +kernel))
  refine lv_iconst (v := 0) hx hb dX7_hasSign_21 (by decide +kernel) ?_
  refine W.widen (k := 0) (n := 0) (Nat.le_of_ble_eq_true rfl) (Nat.le_of_ble_eq_true rfl) ?_
  exact W.zret (v := 0) hx hb hr (by decide +kernel) (fun t ht hW => ⟨⟨0, (), rfl, (by first | rfl | (exfalso; omega)), trivial⟩, hS.F ht⟩) hS.2.2 dX7_hasSign_22

set_option maxHeartbeats 4000000 in
set_option maxRecDepth 100000 in
theorem k_J1_charAt_qyoung (l : Launch) (dC : Nat → ClassId) (dI : Nat → Nat → Nat) (sz : Nat) (sv : Nat) : Met l yJ1_charAt_3b067 wsJ1_charAt_3b067 ({ frames := 2, cells := 0, slots := 0, locals := 43 }) (va_Pc [.ref sv, .int 0] (fun U => U.heap.size = sz ∧ va_P (dC, dI) vwCl ([] : va_W) U.heap ∧ va_K (dC, dI) vwCl [] U ∧ va_Zq "jdk/internal/util/Preconditions" "SIOOBE_FORMATTER" "Ljava/util/function/BiFunction;" (va_A ([] : va_W) sz) U U.heap ∧ va_T .byte sv 5 (sb [121, 111, 117, 110, 103]) (va_A ([] : va_W) sz) U U.heap)) (va_Qi (fun (r : Int32) (_ : Unit) => r = 121) (fun _ _ => True) (va_A ([] : va_W) sz)) 0 0 (va_A ([] : va_W) sz) := by
  refine Met.ofW (cc := cJ1_charAt_3b067) (maxL := 2) (ret := (some .char)) (by decide) rfl ?_
  intro p e s m args below meth c s₁ B hml hv
  obtain ⟨rfl, hsz, hP, hK, hZq_SIOOBE_FORMATTER, hT_sv⟩ := hv
  have hx := B.exec
  have hb := B.bytes
  have hr := B.returns
  have hts := atoms_spec (ws := wsJ1_charAt_3b067) B.pre
  have hown : s.vm.findClass RJ1 = some m.cls := findClass_of_methodNamed B.named
  have hlocks := B.notSynchronized
  subst hsz
  generalize hAe : va_A ([] : va_W) s.heap.size = A at hZq_SIOOBE_FORMATTER hT_sv ⊢
  have hA : ∀ q : Nat, s.heap.size ≤ q → A q := fun q h => by rw [← hAe]; exact Or.inr h
  have hS : va_S A s.heap s.heap [] := va_S.rf
  have hl := lv_entry ([.ref sv, .int 0]) (n := 2) (Nat.le_of_ble_eq_true rfl)
  rw [lg_entry_eq]
  generalize (lg_sl ([.ref sv, .int 0]) ++ List.replicate (2 - (lg_sl ([.ref sv, .int 0])).length) Slot.unset).toArray = ls at hl ⊢
  have hl : lv_has ls 2 [(0, .ref sv), (1, .int 0)] := hl
  refine lv_iload_n hx hb dJ1_charAt_3b067_0 rfl (lv_at hl 1 rfl) ?_
  refine lv_aload_n hx hb dJ1_charAt_3b067_1 rfl (lv_at hl 0 rfl) ?_
  refine va_tlen (v := 5) hx hb hT_sv hS (by decide +kernel) dJ1_charAt_3b067_2 ?_
  have hPc := hP.sub (ws' := ([] : va_W)) [] rfl
  have hKc := hK.sub (tys' := []) [] rfl
  have hFc := ro_free hS hA
  refine va_callv (va_runS (As := [.int 0, .int 5]) (rest := []) ⟨hx, hb, hml, hown, hts⟩ (k_J0_checkIndex_q5 l dC dI s.heap.size ) (va_cwS 2 hts gJ1_charAt_3b067_J0_checkIndex_df160 rfl rfl rfl (by decide +kernel) ⟨(Nat.le_of_ble_eq_true rfl), (Nat.le_of_ble_eq_true rfl)⟩) ⟨fun a U g mk q => by obtain ⟨q0, q1, qP, qK, qe0⟩ := q; exact ⟨q0, q1, qP, va_K.moved (u := U) (U := U.calling g mk a) (Vm.Alike.refl U.vm) qK, (va_Zq.moved (U := U.calling g mk a) (Vm.Alike.refl U.vm) qe0)⟩, fun U hU hW => ⟨rfl, by rw [hU], by rw [hU]; exact hPc, va_K.moved hW.alike hKc, (by rw [hU]; exact va_Zq.moved hW.alike ((hZq_SIOOBE_FORMATTER.kept hS.2.1).narrow hFc))⟩⟩ rfl rfl hl.1 rfl (lv_room (Nat.le_of_ble_eq_true rfl)) dJ1_charAt_3b067_3 ⟨(Nat.le_of_ble_eq_true rfl), (Nat.le_of_ble_eq_true rfl)⟩) hS (fun q _ h => hFc q h) hFc (fun u t H1 locs ht hvm hw hB hz1 hk1 hS => ?_)
  refine W.widen (k := 0) (n := 0) (Nat.le_of_ble_eq_true rfl) (Nat.le_of_ble_eq_true rfl) ?_
  have hP := P_ro hP hk1
  generalize H1 = H at hP hS ⊢
  refine lv_aload_n hx hb dJ1_charAt_3b067_6 rfl (lv_at hl 0 rfl) ?_
  refine lv_iload_n hx hb dJ1_charAt_3b067_7 rfl (lv_at hl 1 rfl) ?_
  refine va_tb (v := .int 121) hx hb hT_sv hS (by unfold vp_in; decide +kernel) rfl dJ1_charAt_3b067_8 ?_
  refine lv_sipush (v := 255) hx hb dJ1_charAt_3b067_9 (by decide +kernel) ?_
  refine lv_iand hx hb dJ1_charAt_3b067_12 ?_
  refine ti_eq (y := 121) (by decide +kernel) ?_
  refine lv_i2c (v := 121) hx hb dJ1_charAt_3b067_13 (by decide +kernel) ?_
  refine W.widen (k := 0) (n := 0) (Nat.le_of_ble_eq_true rfl) (Nat.le_of_ble_eq_true rfl) ?_
  exact W.zret (v := 121) hx hb hr (by decide +kernel) (fun t ht hW => ⟨⟨121, (), rfl, (by first | rfl | (exfalso; omega)), trivial⟩, hS.F ht⟩) hS.2.2 dJ1_charAt_3b067_14

set_option maxHeartbeats 4000000 in
set_option maxRecDepth 100000 in
theorem k_J0_charAt_qyoung (l : Launch) (dC : Nat → ClassId) (dI : Nat → Nat → Nat) (sz : Nat) (sa : Nat) (sv : Nat) : Met l yJ0_charAt_5068e wsJ0_charAt_5068e ({ frames := 3, cells := 0, slots := 0, locals := 64 }) (va_Pc [.ref sa, .int 0] (fun U => U.heap.size = sz ∧ va_P (dC, dI) vwCl ([] : va_W) U.heap ∧ va_K (dC, dI) vwCl [] U ∧ va_Z "java/lang/String" "COMPACT_STRINGS" "Z" (.int 1) (va_A ([] : va_W) sz) U U.heap ∧ va_Zq "jdk/internal/util/Preconditions" "SIOOBE_FORMATTER" "Ljava/util/function/BiFunction;" (va_A ([] : va_W) sz) U U.heap ∧ va_O "java/lang/String" sa (va_A ([] : va_W) sz) U U.heap ∧ va_OF "java/lang/String" "coder" "B" (.int 0) sa (va_A ([] : va_W) sz) U U.heap ∧ va_OF "java/lang/String" "value" "[B" (.ref sv) sa (va_A ([] : va_W) sz) U U.heap ∧ va_T .byte sv 5 (sb [121, 111, 117, 110, 103]) (va_A ([] : va_W) sz) U U.heap)) (va_Qi (fun (r : Int32) (_ : Unit) => r = 121) (fun _ _ => True) (va_A ([] : va_W) sz)) 0 0 (va_A ([] : va_W) sz) := by
  refine Met.ofW (cc := cJ0_charAt_5068e) (maxL := 2) (ret := (some .char)) (by decide) rfl ?_
  intro p e s m args below meth c s₁ B hml hv
  obtain ⟨rfl, hsz, hP, hK, hZ_COMPACT_STRINGS, hZq_SIOOBE_FORMATTER, hO_sa, hOc_sa, hOv_sa, hT_sv⟩ := hv
  have hx := B.exec
  have hb := B.bytes
  have hr := B.returns
  have hts := atoms_spec (ws := wsJ0_charAt_5068e) B.pre
  have hown : s.vm.findClass RJ0 = some m.cls := findClass_of_methodNamed B.named
  have hlocks := B.notSynchronized
  subst hsz
  generalize hAe : va_A ([] : va_W) s.heap.size = A at hZ_COMPACT_STRINGS hZq_SIOOBE_FORMATTER hO_sa hOc_sa hOv_sa hT_sv ⊢
  have hA : ∀ q : Nat, s.heap.size ≤ q → A q := fun q h => by rw [← hAe]; exact Or.inr h
  have hS : va_S A s.heap s.heap [] := va_S.rf
  have hl := lv_entry ([.ref sa, .int 0]) (n := 2) (Nat.le_of_ble_eq_true rfl)
  rw [lg_entry_eq]
  generalize (lg_sl ([.ref sa, .int 0]) ++ List.replicate (2 - (lg_sl ([.ref sa, .int 0])).length) Slot.unset).toArray = ls at hl ⊢
  have hl : lv_has ls 2 [(0, .ref sa), (1, .int 0)] := hl
  refine lv_aload_n hx hb dJ0_charAt_5068e_0 rfl (lv_at hl 0 rfl) ?_
  have hPc := hP.sub (ws' := ([] : va_W)) [] rfl
  have hKc := hK.sub (tys' := []) [] rfl
  have hFc := ro_free hS hA
  refine va_calli (va_runV (As := []) (rest := []) ⟨hx, hb, hml, hown, hts⟩ (k_J0_isLatin1_aae02 l dC dI s.heap.size sa) (cwV 0 hts gJ0_charAt_5068e_J0_isLatin1_aae02 rfl rfl rfl (by decide +kernel) ⟨(Nat.le_of_ble_eq_true rfl), (Nat.le_of_ble_eq_true rfl)⟩) ⟨fun a U g mk q => by obtain ⟨q0, q1, qP, qK, qe0, qe1⟩ := q; exact ⟨q0, q1, qP, va_K.moved (u := U) (U := U.calling g mk a) (Vm.Alike.refl U.vm) qK, (va_Z.moved (U := U.calling g mk a) (Vm.Alike.refl U.vm) qe0), (va_OF.moved (U := U.calling g mk a) (Vm.Alike.refl U.vm) qe1)⟩, va_Orecv hO_sa hS, fun U hU hW => ⟨rfl, by rw [hU], by rw [hU]; exact hPc, va_K.moved hW.alike hKc, (by rw [hU]; exact va_Z.moved hW.alike ((hZ_COMPACT_STRINGS.kept hS.2.1).narrow hFc)), (by rw [hU]; exact va_OF.moved hW.alike ((hOc_sa.kept hS.2.1).narrow hFc))⟩⟩ rfl rfl hl.1 rfl (lv_room (Nat.le_of_ble_eq_true rfl)) dJ0_charAt_5068e_1 ⟨(Nat.le_of_ble_eq_true rfl), (Nat.le_of_ble_eq_true rfl)⟩) hS (fun q _ h => hFc q h) hFc (fun r u t H1 locs ht hvm hw hB hz1 hk1 hS => ?_)
  refine W.widen (k := 0) (n := 0) (Nat.le_of_ble_eq_true rfl) (Nat.le_of_ble_eq_true rfl) ?_
  have hP := P_ro hP hk1
  generalize H1 = H at hP hS ⊢
  subst hw
  refine lv_if_eq (tgt := 16) hx hb dJ0_charAt_5068e_4 (by decide) (fun c9 => absurd c9 (by decide +kernel)) (fun _ => ?_)
  refine lv_aload_n hx hb dJ0_charAt_5068e_7 rfl (lv_at hl 0 rfl) ?_
  refine vk_getf hx hb hOv_sa hS hown (hts (.fieldLink RJ0 9 "java/lang/String" "value" "[B") (List.mem_of_getElem? (i := 1) rfl)) (fun _ h9 => h9) dJ0_charAt_5068e_8 ?_
  refine lv_iload_n hx hb dJ0_charAt_5068e_11 rfl (lv_at hl 1 rfl) ?_
  have hPc := hP.sub (ws' := ([] : va_W)) [] rfl
  have hKc := hK.sub (tys' := []) [] rfl
  have hFc := ro_free hS hA
  refine va_calli (va_runS (As := [.ref sv, .int 0]) (rest := []) ⟨hx, hb, hml, hown, hts⟩ (k_J1_charAt_qyoung l dC dI H.size sv) (va_cwS 2 hts gJ0_charAt_5068e_J1_charAt_3b067 rfl rfl rfl (by decide +kernel) ⟨(Nat.le_of_ble_eq_true rfl), (Nat.le_of_ble_eq_true rfl)⟩) ⟨fun a U g mk q => by obtain ⟨q0, q1, qP, qK, qe0, qe1⟩ := q; exact ⟨q0, q1, qP, va_K.moved (u := U) (U := U.calling g mk a) (Vm.Alike.refl U.vm) qK, (va_Zq.moved (U := U.calling g mk a) (Vm.Alike.refl U.vm) qe0), (va_T.moved (U := U.calling g mk a) (Vm.Alike.refl U.vm) qe1)⟩, fun U hU hW => ⟨rfl, by rw [hU], by rw [hU]; exact hPc, va_K.moved hW.alike hKc, (by rw [hU]; exact va_Zq.moved hW.alike ((hZq_SIOOBE_FORMATTER.kept hS.2.1).narrow hFc)), (by rw [hU]; exact va_T.moved hW.alike ((hT_sv.kept hS.2.1).narrow hFc))⟩⟩ rfl rfl hl.1 rfl (lv_room (Nat.le_of_ble_eq_true rfl)) dJ0_charAt_5068e_12 ⟨(Nat.le_of_ble_eq_true rfl), (Nat.le_of_ble_eq_true rfl)⟩) hS (fun q _ h => hFc q h) hFc (fun r u t H1 locs ht hvm hw hB hz1 hk1 hS => ?_)
  refine W.widen (k := 0) (n := 0) (Nat.le_of_ble_eq_true rfl) (Nat.le_of_ble_eq_true rfl) ?_
  have hP := P_ro hP hk1
  generalize H1 = H at hP hS ⊢
  subst hw
  refine W.widen (k := 0) (n := 0) (Nat.le_of_ble_eq_true rfl) (Nat.le_of_ble_eq_true rfl) ?_
  exact W.zret (v := 121) hx hb hr (by decide +kernel) (fun t ht hW => ⟨⟨121, (), rfl, (by first | rfl | (exfalso; omega)), trivial⟩, hS.F ht⟩) hS.2.2 dJ0_charAt_5068e_15

set_option maxHeartbeats 4000000 in
set_option maxRecDepth 100000 in
theorem k_X7_hasSign_qyoung (l : Launch) (dC : Nat → ClassId) (dI : Nat → Nat → Nat) (sz : Nat) (sa : Nat) (sv : Nat) : Met l yX7_hasSign wsX7_hasSign ({ frames := 4, cells := 0, slots := 0, locals := 85 }) (va_Pc [.ref sa, .int 0, .int (-1)] (fun U => U.heap.size = sz ∧ va_P (dC, dI) vwCl ([] : va_W) U.heap ∧ va_K (dC, dI) vwCl [] U ∧ va_Z "java/lang/String" "COMPACT_STRINGS" "Z" (.int 1) (va_A ([] : va_W) sz) U U.heap ∧ va_Zq "jdk/internal/util/Preconditions" "SIOOBE_FORMATTER" "Ljava/util/function/BiFunction;" (va_A ([] : va_W) sz) U U.heap ∧ va_O "java/lang/String" sa (va_A ([] : va_W) sz) U U.heap ∧ va_OF "java/lang/String" "coder" "B" (.int 0) sa (va_A ([] : va_W) sz) U U.heap ∧ va_OF "java/lang/String" "value" "[B" (.ref sv) sa (va_A ([] : va_W) sz) U U.heap ∧ va_T .byte sv 5 (sb [121, 111, 117, 110, 103]) (va_A ([] : va_W) sz) U U.heap)) (va_Qi (fun (r : Int32) (_ : Unit) => r = 0) (fun _ _ => True) (va_A ([] : va_W) sz)) 0 0 (va_A ([] : va_W) sz) := by
  refine Met.ofW (cc := cX7_hasSign) (maxL := 3) (ret := (some .boolean)) (by decide) rfl ?_
  intro p e s m args below meth c s₁ B hml hv
  obtain ⟨rfl, hsz, hP, hK, hZ_COMPACT_STRINGS, hZq_SIOOBE_FORMATTER, hO_sa, hOc_sa, hOv_sa, hT_sv⟩ := hv
  have hx := B.exec
  have hb := B.bytes
  have hr := B.returns
  have hts := atoms_spec (ws := wsX7_hasSign) B.pre
  have hown : s.vm.findClass RX7 = some m.cls := findClass_of_methodNamed B.named
  have hlocks := B.notSynchronized
  subst hsz
  generalize hAe : va_A ([] : va_W) s.heap.size = A at hZ_COMPACT_STRINGS hZq_SIOOBE_FORMATTER hO_sa hOc_sa hOv_sa hT_sv ⊢
  have hA : ∀ q : Nat, s.heap.size ≤ q → A q := fun q h => by rw [← hAe]; exact Or.inr h
  have hS : va_S A s.heap s.heap [] := va_S.rf
  have hl := lv_entry ([.ref sa, .int 0, .int (-1)]) (n := 3) (Nat.le_of_ble_eq_true rfl)
  rw [lg_entry_eq]
  generalize (lg_sl ([.ref sa, .int 0, .int (-1)]) ++ List.replicate (3 - (lg_sl ([.ref sa, .int 0, .int (-1)])).length) Slot.unset).toArray = ls at hl ⊢
  have hl : lv_has ls 3 [(0, .ref sa), (1, .int 0), (2, .int (-1))] := hl
  refine lv_iload_n hx hb dX7_hasSign_0 rfl (lv_at hl 1 rfl) ?_
  refine lv_aload_n hx hb dX7_hasSign_1 rfl (lv_at hl 0 rfl) ?_
  have hPc := hP.sub (ws' := ([] : va_W)) [] rfl
  have hKc := hK.sub (tys' := []) [] rfl
  have hFc := ro_free hS hA
  refine va_calli (va_runV (As := []) (rest := [.int 0]) ⟨hx, hb, hml, hown, hts⟩ (k_J0_length_young l dC dI s.heap.size sa sv) (cwV 0 hts gX7_hasSign_J0_length_8abf5 rfl rfl rfl (by decide +kernel) ⟨(Nat.le_of_ble_eq_true rfl), (Nat.le_of_ble_eq_true rfl)⟩) ⟨fun a U g mk q => by obtain ⟨q0, q1, qP, qK, qe0, qe1, qe2, qe3, qe4⟩ := q; exact ⟨q0, q1, qP, va_K.moved (u := U) (U := U.calling g mk a) (Vm.Alike.refl U.vm) qK, (va_Z.moved (U := U.calling g mk a) (Vm.Alike.refl U.vm) qe0), (va_O.moved (U := U.calling g mk a) (Vm.Alike.refl U.vm) qe1), (va_OF.moved (U := U.calling g mk a) (Vm.Alike.refl U.vm) qe2), (va_OF.moved (U := U.calling g mk a) (Vm.Alike.refl U.vm) qe3), (va_T.moved (U := U.calling g mk a) (Vm.Alike.refl U.vm) qe4)⟩, va_Orecv hO_sa hS, fun U hU hW => ⟨rfl, by rw [hU], by rw [hU]; exact hPc, va_K.moved hW.alike hKc, (by rw [hU]; exact va_Z.moved hW.alike ((hZ_COMPACT_STRINGS.kept hS.2.1).narrow hFc)), (by rw [hU]; exact va_O.moved hW.alike ((hO_sa.kept hS.2.1).narrow hFc)), (by rw [hU]; exact va_OF.moved hW.alike ((hOc_sa.kept hS.2.1).narrow hFc)), (by rw [hU]; exact va_OF.moved hW.alike ((hOv_sa.kept hS.2.1).narrow hFc)), (by rw [hU]; exact va_T.moved hW.alike ((hT_sv.kept hS.2.1).narrow hFc))⟩⟩ rfl rfl hl.1 rfl (lv_room (Nat.le_of_ble_eq_true rfl)) dX7_hasSign_2 ⟨(Nat.le_of_ble_eq_true rfl), (Nat.le_of_ble_eq_true rfl)⟩) hS (fun q _ h => hFc q h) hFc (fun r u t H1 locs ht hvm hw hB hz1 hk1 hS => ?_)
  refine W.widen (k := 0) (n := 0) (Nat.le_of_ble_eq_true rfl) (Nat.le_of_ble_eq_true rfl) ?_
  have hP := P_ro hP hk1
  generalize H1 = H at hP hS ⊢
  subst hw
  refine lv_icmp_ge (tgt := 21) hx hb dX7_hasSign_5 (by decide) (fun c9 => absurd c9 (by decide +kernel)) (fun _ => ?_)
  refine lv_aload_n hx hb dX7_hasSign_8 rfl (lv_at hl 0 rfl) ?_
  refine lv_iload_n hx hb dX7_hasSign_9 rfl (lv_at hl 1 rfl) ?_
  have hPc := hP.sub (ws' := ([] : va_W)) [] rfl
  have hKc := hK.sub (tys' := []) [] rfl
  have hFc := ro_free hS hA
  refine va_calli (va_runV (As := [.int 0]) (rest := []) ⟨hx, hb, hml, hown, hts⟩ (k_J0_charAt_qyoung l dC dI H.size sa sv) (cwV 1 hts gX7_hasSign_J0_charAt_5068e rfl rfl rfl (by decide +kernel) ⟨(Nat.le_of_ble_eq_true rfl), (Nat.le_of_ble_eq_true rfl)⟩) ⟨fun a U g mk q => by obtain ⟨q0, q1, qP, qK, qe0, qe1, qe2, qe3, qe4, qe5⟩ := q; exact ⟨q0, q1, qP, va_K.moved (u := U) (U := U.calling g mk a) (Vm.Alike.refl U.vm) qK, (va_Z.moved (U := U.calling g mk a) (Vm.Alike.refl U.vm) qe0), (va_Zq.moved (U := U.calling g mk a) (Vm.Alike.refl U.vm) qe1), (va_O.moved (U := U.calling g mk a) (Vm.Alike.refl U.vm) qe2), (va_OF.moved (U := U.calling g mk a) (Vm.Alike.refl U.vm) qe3), (va_OF.moved (U := U.calling g mk a) (Vm.Alike.refl U.vm) qe4), (va_T.moved (U := U.calling g mk a) (Vm.Alike.refl U.vm) qe5)⟩, va_Orecv hO_sa hS, fun U hU hW => ⟨rfl, by rw [hU], by rw [hU]; exact hPc, va_K.moved hW.alike hKc, (by rw [hU]; exact va_Z.moved hW.alike ((hZ_COMPACT_STRINGS.kept hS.2.1).narrow hFc)), (by rw [hU]; exact va_Zq.moved hW.alike ((hZq_SIOOBE_FORMATTER.kept hS.2.1).narrow hFc)), (by rw [hU]; exact va_O.moved hW.alike ((hO_sa.kept hS.2.1).narrow hFc)), (by rw [hU]; exact va_OF.moved hW.alike ((hOc_sa.kept hS.2.1).narrow hFc)), (by rw [hU]; exact va_OF.moved hW.alike ((hOv_sa.kept hS.2.1).narrow hFc)), (by rw [hU]; exact va_T.moved hW.alike ((hT_sv.kept hS.2.1).narrow hFc))⟩⟩ rfl rfl hl.1 rfl (lv_room (Nat.le_of_ble_eq_true rfl)) dX7_hasSign_10 ⟨(Nat.le_of_ble_eq_true rfl), (Nat.le_of_ble_eq_true rfl)⟩) hS (fun q _ h => hFc q h) hFc (fun r u t H1 locs ht hvm hw hB hz1 hk1 hS => ?_)
  refine W.widen (k := 0) (n := 0) (Nat.le_of_ble_eq_true rfl) (Nat.le_of_ble_eq_true rfl) ?_
  have hP := P_ro hP hk1
  generalize H1 = H at hP hS ⊢
  subst hw
  refine lv_iload_n hx hb dX7_hasSign_13 rfl (lv_at hl 2 rfl) ?_
  refine lv_icmp_ne (tgt := 21) hx hb dX7_hasSign_14 (by decide) (fun _ => ?_) (fun c9 => absurd c9 (by decide +kernel))
  refine lv_iconst (v := 0) hx hb dX7_hasSign_21 (by decide +kernel) ?_
  refine W.widen (k := 0) (n := 0) (Nat.le_of_ble_eq_true rfl) (Nat.le_of_ble_eq_true rfl) ?_
  exact W.zret (v := 0) hx hb hr (by decide +kernel) (fun t ht hW => ⟨⟨0, (), rfl, (by first | rfl | (exfalso; omega)), trivial⟩, hS.F ht⟩) hS.2.2 dX7_hasSign_22

set_option maxHeartbeats 4000000 in
set_option maxRecDepth 100000 in
theorem k_J1_charAt_qweight (l : Launch) (dC : Nat → ClassId) (dI : Nat → Nat → Nat) (sz : Nat) (sv : Nat) : Met l yJ1_charAt_3b067 wsJ1_charAt_3b067 ({ frames := 2, cells := 0, slots := 0, locals := 43 }) (va_Pc [.ref sv, .int 0] (fun U => U.heap.size = sz ∧ va_P (dC, dI) vwCl ([] : va_W) U.heap ∧ va_K (dC, dI) vwCl [] U ∧ va_Zq "jdk/internal/util/Preconditions" "SIOOBE_FORMATTER" "Ljava/util/function/BiFunction;" (va_A ([] : va_W) sz) U U.heap ∧ va_T .byte sv 6 (sb [119, 101, 105, 103, 104, 116]) (va_A ([] : va_W) sz) U U.heap)) (va_Qi (fun (r : Int32) (_ : Unit) => r = 119) (fun _ _ => True) (va_A ([] : va_W) sz)) 0 0 (va_A ([] : va_W) sz) := by
  refine Met.ofW (cc := cJ1_charAt_3b067) (maxL := 2) (ret := (some .char)) (by decide) rfl ?_
  intro p e s m args below meth c s₁ B hml hv
  obtain ⟨rfl, hsz, hP, hK, hZq_SIOOBE_FORMATTER, hT_sv⟩ := hv
  have hx := B.exec
  have hb := B.bytes
  have hr := B.returns
  have hts := atoms_spec (ws := wsJ1_charAt_3b067) B.pre
  have hown : s.vm.findClass RJ1 = some m.cls := findClass_of_methodNamed B.named
  have hlocks := B.notSynchronized
  subst hsz
  generalize hAe : va_A ([] : va_W) s.heap.size = A at hZq_SIOOBE_FORMATTER hT_sv ⊢
  have hA : ∀ q : Nat, s.heap.size ≤ q → A q := fun q h => by rw [← hAe]; exact Or.inr h
  have hS : va_S A s.heap s.heap [] := va_S.rf
  have hl := lv_entry ([.ref sv, .int 0]) (n := 2) (Nat.le_of_ble_eq_true rfl)
  rw [lg_entry_eq]
  generalize (lg_sl ([.ref sv, .int 0]) ++ List.replicate (2 - (lg_sl ([.ref sv, .int 0])).length) Slot.unset).toArray = ls at hl ⊢
  have hl : lv_has ls 2 [(0, .ref sv), (1, .int 0)] := hl
  refine lv_iload_n hx hb dJ1_charAt_3b067_0 rfl (lv_at hl 1 rfl) ?_
  refine lv_aload_n hx hb dJ1_charAt_3b067_1 rfl (lv_at hl 0 rfl) ?_
  refine va_tlen (v := 6) hx hb hT_sv hS (by decide +kernel) dJ1_charAt_3b067_2 ?_
  have hPc := hP.sub (ws' := ([] : va_W)) [] rfl
  have hKc := hK.sub (tys' := []) [] rfl
  have hFc := ro_free hS hA
  refine va_callv (va_runS (As := [.int 0, .int 6]) (rest := []) ⟨hx, hb, hml, hown, hts⟩ (k_J0_checkIndex_q6 l dC dI s.heap.size ) (va_cwS 2 hts gJ1_charAt_3b067_J0_checkIndex_df160 rfl rfl rfl (by decide +kernel) ⟨(Nat.le_of_ble_eq_true rfl), (Nat.le_of_ble_eq_true rfl)⟩) ⟨fun a U g mk q => by obtain ⟨q0, q1, qP, qK, qe0⟩ := q; exact ⟨q0, q1, qP, va_K.moved (u := U) (U := U.calling g mk a) (Vm.Alike.refl U.vm) qK, (va_Zq.moved (U := U.calling g mk a) (Vm.Alike.refl U.vm) qe0)⟩, fun U hU hW => ⟨rfl, by rw [hU], by rw [hU]; exact hPc, va_K.moved hW.alike hKc, (by rw [hU]; exact va_Zq.moved hW.alike ((hZq_SIOOBE_FORMATTER.kept hS.2.1).narrow hFc))⟩⟩ rfl rfl hl.1 rfl (lv_room (Nat.le_of_ble_eq_true rfl)) dJ1_charAt_3b067_3 ⟨(Nat.le_of_ble_eq_true rfl), (Nat.le_of_ble_eq_true rfl)⟩) hS (fun q _ h => hFc q h) hFc (fun u t H1 locs ht hvm hw hB hz1 hk1 hS => ?_)
  refine W.widen (k := 0) (n := 0) (Nat.le_of_ble_eq_true rfl) (Nat.le_of_ble_eq_true rfl) ?_
  have hP := P_ro hP hk1
  generalize H1 = H at hP hS ⊢
  refine lv_aload_n hx hb dJ1_charAt_3b067_6 rfl (lv_at hl 0 rfl) ?_
  refine lv_iload_n hx hb dJ1_charAt_3b067_7 rfl (lv_at hl 1 rfl) ?_
  refine va_tb (v := .int 119) hx hb hT_sv hS (by unfold vp_in; decide +kernel) rfl dJ1_charAt_3b067_8 ?_
  refine lv_sipush (v := 255) hx hb dJ1_charAt_3b067_9 (by decide +kernel) ?_
  refine lv_iand hx hb dJ1_charAt_3b067_12 ?_
  refine ti_eq (y := 119) (by decide +kernel) ?_
  refine lv_i2c (v := 119) hx hb dJ1_charAt_3b067_13 (by decide +kernel) ?_
  refine W.widen (k := 0) (n := 0) (Nat.le_of_ble_eq_true rfl) (Nat.le_of_ble_eq_true rfl) ?_
  exact W.zret (v := 119) hx hb hr (by decide +kernel) (fun t ht hW => ⟨⟨119, (), rfl, (by first | rfl | (exfalso; omega)), trivial⟩, hS.F ht⟩) hS.2.2 dJ1_charAt_3b067_14

set_option maxHeartbeats 4000000 in
set_option maxRecDepth 100000 in
theorem k_J0_charAt_qweight (l : Launch) (dC : Nat → ClassId) (dI : Nat → Nat → Nat) (sz : Nat) (sa : Nat) (sv : Nat) : Met l yJ0_charAt_5068e wsJ0_charAt_5068e ({ frames := 3, cells := 0, slots := 0, locals := 64 }) (va_Pc [.ref sa, .int 0] (fun U => U.heap.size = sz ∧ va_P (dC, dI) vwCl ([] : va_W) U.heap ∧ va_K (dC, dI) vwCl [] U ∧ va_Z "java/lang/String" "COMPACT_STRINGS" "Z" (.int 1) (va_A ([] : va_W) sz) U U.heap ∧ va_Zq "jdk/internal/util/Preconditions" "SIOOBE_FORMATTER" "Ljava/util/function/BiFunction;" (va_A ([] : va_W) sz) U U.heap ∧ va_O "java/lang/String" sa (va_A ([] : va_W) sz) U U.heap ∧ va_OF "java/lang/String" "coder" "B" (.int 0) sa (va_A ([] : va_W) sz) U U.heap ∧ va_OF "java/lang/String" "value" "[B" (.ref sv) sa (va_A ([] : va_W) sz) U U.heap ∧ va_T .byte sv 6 (sb [119, 101, 105, 103, 104, 116]) (va_A ([] : va_W) sz) U U.heap)) (va_Qi (fun (r : Int32) (_ : Unit) => r = 119) (fun _ _ => True) (va_A ([] : va_W) sz)) 0 0 (va_A ([] : va_W) sz) := by
  refine Met.ofW (cc := cJ0_charAt_5068e) (maxL := 2) (ret := (some .char)) (by decide) rfl ?_
  intro p e s m args below meth c s₁ B hml hv
  obtain ⟨rfl, hsz, hP, hK, hZ_COMPACT_STRINGS, hZq_SIOOBE_FORMATTER, hO_sa, hOc_sa, hOv_sa, hT_sv⟩ := hv
  have hx := B.exec
  have hb := B.bytes
  have hr := B.returns
  have hts := atoms_spec (ws := wsJ0_charAt_5068e) B.pre
  have hown : s.vm.findClass RJ0 = some m.cls := findClass_of_methodNamed B.named
  have hlocks := B.notSynchronized
  subst hsz
  generalize hAe : va_A ([] : va_W) s.heap.size = A at hZ_COMPACT_STRINGS hZq_SIOOBE_FORMATTER hO_sa hOc_sa hOv_sa hT_sv ⊢
  have hA : ∀ q : Nat, s.heap.size ≤ q → A q := fun q h => by rw [← hAe]; exact Or.inr h
  have hS : va_S A s.heap s.heap [] := va_S.rf
  have hl := lv_entry ([.ref sa, .int 0]) (n := 2) (Nat.le_of_ble_eq_true rfl)
  rw [lg_entry_eq]
  generalize (lg_sl ([.ref sa, .int 0]) ++ List.replicate (2 - (lg_sl ([.ref sa, .int 0])).length) Slot.unset).toArray = ls at hl ⊢
  have hl : lv_has ls 2 [(0, .ref sa), (1, .int 0)] := hl
  refine lv_aload_n hx hb dJ0_charAt_5068e_0 rfl (lv_at hl 0 rfl) ?_
  have hPc := hP.sub (ws' := ([] : va_W)) [] rfl
  have hKc := hK.sub (tys' := []) [] rfl
  have hFc := ro_free hS hA
  refine va_calli (va_runV (As := []) (rest := []) ⟨hx, hb, hml, hown, hts⟩ (k_J0_isLatin1_aae02 l dC dI s.heap.size sa) (cwV 0 hts gJ0_charAt_5068e_J0_isLatin1_aae02 rfl rfl rfl (by decide +kernel) ⟨(Nat.le_of_ble_eq_true rfl), (Nat.le_of_ble_eq_true rfl)⟩) ⟨fun a U g mk q => by obtain ⟨q0, q1, qP, qK, qe0, qe1⟩ := q; exact ⟨q0, q1, qP, va_K.moved (u := U) (U := U.calling g mk a) (Vm.Alike.refl U.vm) qK, (va_Z.moved (U := U.calling g mk a) (Vm.Alike.refl U.vm) qe0), (va_OF.moved (U := U.calling g mk a) (Vm.Alike.refl U.vm) qe1)⟩, va_Orecv hO_sa hS, fun U hU hW => ⟨rfl, by rw [hU], by rw [hU]; exact hPc, va_K.moved hW.alike hKc, (by rw [hU]; exact va_Z.moved hW.alike ((hZ_COMPACT_STRINGS.kept hS.2.1).narrow hFc)), (by rw [hU]; exact va_OF.moved hW.alike ((hOc_sa.kept hS.2.1).narrow hFc))⟩⟩ rfl rfl hl.1 rfl (lv_room (Nat.le_of_ble_eq_true rfl)) dJ0_charAt_5068e_1 ⟨(Nat.le_of_ble_eq_true rfl), (Nat.le_of_ble_eq_true rfl)⟩) hS (fun q _ h => hFc q h) hFc (fun r u t H1 locs ht hvm hw hB hz1 hk1 hS => ?_)
  refine W.widen (k := 0) (n := 0) (Nat.le_of_ble_eq_true rfl) (Nat.le_of_ble_eq_true rfl) ?_
  have hP := P_ro hP hk1
  generalize H1 = H at hP hS ⊢
  subst hw
  refine lv_if_eq (tgt := 16) hx hb dJ0_charAt_5068e_4 (by decide) (fun c9 => absurd c9 (by decide +kernel)) (fun _ => ?_)
  refine lv_aload_n hx hb dJ0_charAt_5068e_7 rfl (lv_at hl 0 rfl) ?_
  refine vk_getf hx hb hOv_sa hS hown (hts (.fieldLink RJ0 9 "java/lang/String" "value" "[B") (List.mem_of_getElem? (i := 1) rfl)) (fun _ h9 => h9) dJ0_charAt_5068e_8 ?_
  refine lv_iload_n hx hb dJ0_charAt_5068e_11 rfl (lv_at hl 1 rfl) ?_
  have hPc := hP.sub (ws' := ([] : va_W)) [] rfl
  have hKc := hK.sub (tys' := []) [] rfl
  have hFc := ro_free hS hA
  refine va_calli (va_runS (As := [.ref sv, .int 0]) (rest := []) ⟨hx, hb, hml, hown, hts⟩ (k_J1_charAt_qweight l dC dI H.size sv) (va_cwS 2 hts gJ0_charAt_5068e_J1_charAt_3b067 rfl rfl rfl (by decide +kernel) ⟨(Nat.le_of_ble_eq_true rfl), (Nat.le_of_ble_eq_true rfl)⟩) ⟨fun a U g mk q => by obtain ⟨q0, q1, qP, qK, qe0, qe1⟩ := q; exact ⟨q0, q1, qP, va_K.moved (u := U) (U := U.calling g mk a) (Vm.Alike.refl U.vm) qK, (va_Zq.moved (U := U.calling g mk a) (Vm.Alike.refl U.vm) qe0), (va_T.moved (U := U.calling g mk a) (Vm.Alike.refl U.vm) qe1)⟩, fun U hU hW => ⟨rfl, by rw [hU], by rw [hU]; exact hPc, va_K.moved hW.alike hKc, (by rw [hU]; exact va_Zq.moved hW.alike ((hZq_SIOOBE_FORMATTER.kept hS.2.1).narrow hFc)), (by rw [hU]; exact va_T.moved hW.alike ((hT_sv.kept hS.2.1).narrow hFc))⟩⟩ rfl rfl hl.1 rfl (lv_room (Nat.le_of_ble_eq_true rfl)) dJ0_charAt_5068e_12 ⟨(Nat.le_of_ble_eq_true rfl), (Nat.le_of_ble_eq_true rfl)⟩) hS (fun q _ h => hFc q h) hFc (fun r u t H1 locs ht hvm hw hB hz1 hk1 hS => ?_)
  refine W.widen (k := 0) (n := 0) (Nat.le_of_ble_eq_true rfl) (Nat.le_of_ble_eq_true rfl) ?_
  have hP := P_ro hP hk1
  generalize H1 = H at hP hS ⊢
  subst hw
  refine W.widen (k := 0) (n := 0) (Nat.le_of_ble_eq_true rfl) (Nat.le_of_ble_eq_true rfl) ?_
  exact W.zret (v := 119) hx hb hr (by decide +kernel) (fun t ht hW => ⟨⟨119, (), rfl, (by first | rfl | (exfalso; omega)), trivial⟩, hS.F ht⟩) hS.2.2 dJ0_charAt_5068e_15

set_option maxHeartbeats 4000000 in
set_option maxRecDepth 100000 in
theorem k_X7_hasSign_qweight (l : Launch) (dC : Nat → ClassId) (dI : Nat → Nat → Nat) (sz : Nat) (sa : Nat) (sv : Nat) : Met l yX7_hasSign wsX7_hasSign ({ frames := 4, cells := 0, slots := 0, locals := 85 }) (va_Pc [.ref sa, .int 0, .int (-1)] (fun U => U.heap.size = sz ∧ va_P (dC, dI) vwCl ([] : va_W) U.heap ∧ va_K (dC, dI) vwCl [] U ∧ va_Z "java/lang/String" "COMPACT_STRINGS" "Z" (.int 1) (va_A ([] : va_W) sz) U U.heap ∧ va_Zq "jdk/internal/util/Preconditions" "SIOOBE_FORMATTER" "Ljava/util/function/BiFunction;" (va_A ([] : va_W) sz) U U.heap ∧ va_O "java/lang/String" sa (va_A ([] : va_W) sz) U U.heap ∧ va_OF "java/lang/String" "coder" "B" (.int 0) sa (va_A ([] : va_W) sz) U U.heap ∧ va_OF "java/lang/String" "value" "[B" (.ref sv) sa (va_A ([] : va_W) sz) U U.heap ∧ va_T .byte sv 6 (sb [119, 101, 105, 103, 104, 116]) (va_A ([] : va_W) sz) U U.heap)) (va_Qi (fun (r : Int32) (_ : Unit) => r = 0) (fun _ _ => True) (va_A ([] : va_W) sz)) 0 0 (va_A ([] : va_W) sz) := by
  refine Met.ofW (cc := cX7_hasSign) (maxL := 3) (ret := (some .boolean)) (by decide) rfl ?_
  intro p e s m args below meth c s₁ B hml hv
  obtain ⟨rfl, hsz, hP, hK, hZ_COMPACT_STRINGS, hZq_SIOOBE_FORMATTER, hO_sa, hOc_sa, hOv_sa, hT_sv⟩ := hv
  have hx := B.exec
  have hb := B.bytes
  have hr := B.returns
  have hts := atoms_spec (ws := wsX7_hasSign) B.pre
  have hown : s.vm.findClass RX7 = some m.cls := findClass_of_methodNamed B.named
  have hlocks := B.notSynchronized
  subst hsz
  generalize hAe : va_A ([] : va_W) s.heap.size = A at hZ_COMPACT_STRINGS hZq_SIOOBE_FORMATTER hO_sa hOc_sa hOv_sa hT_sv ⊢
  have hA : ∀ q : Nat, s.heap.size ≤ q → A q := fun q h => by rw [← hAe]; exact Or.inr h
  have hS : va_S A s.heap s.heap [] := va_S.rf
  have hl := lv_entry ([.ref sa, .int 0, .int (-1)]) (n := 3) (Nat.le_of_ble_eq_true rfl)
  rw [lg_entry_eq]
  generalize (lg_sl ([.ref sa, .int 0, .int (-1)]) ++ List.replicate (3 - (lg_sl ([.ref sa, .int 0, .int (-1)])).length) Slot.unset).toArray = ls at hl ⊢
  have hl : lv_has ls 3 [(0, .ref sa), (1, .int 0), (2, .int (-1))] := hl
  refine lv_iload_n hx hb dX7_hasSign_0 rfl (lv_at hl 1 rfl) ?_
  refine lv_aload_n hx hb dX7_hasSign_1 rfl (lv_at hl 0 rfl) ?_
  have hPc := hP.sub (ws' := ([] : va_W)) [] rfl
  have hKc := hK.sub (tys' := []) [] rfl
  have hFc := ro_free hS hA
  refine va_calli (va_runV (As := []) (rest := [.int 0]) ⟨hx, hb, hml, hown, hts⟩ (k_J0_length_weight l dC dI s.heap.size sa sv) (cwV 0 hts gX7_hasSign_J0_length_8abf5 rfl rfl rfl (by decide +kernel) ⟨(Nat.le_of_ble_eq_true rfl), (Nat.le_of_ble_eq_true rfl)⟩) ⟨fun a U g mk q => by obtain ⟨q0, q1, qP, qK, qe0, qe1, qe2, qe3, qe4⟩ := q; exact ⟨q0, q1, qP, va_K.moved (u := U) (U := U.calling g mk a) (Vm.Alike.refl U.vm) qK, (va_Z.moved (U := U.calling g mk a) (Vm.Alike.refl U.vm) qe0), (va_O.moved (U := U.calling g mk a) (Vm.Alike.refl U.vm) qe1), (va_OF.moved (U := U.calling g mk a) (Vm.Alike.refl U.vm) qe2), (va_OF.moved (U := U.calling g mk a) (Vm.Alike.refl U.vm) qe3), (va_T.moved (U := U.calling g mk a) (Vm.Alike.refl U.vm) qe4)⟩, va_Orecv hO_sa hS, fun U hU hW => ⟨rfl, by rw [hU], by rw [hU]; exact hPc, va_K.moved hW.alike hKc, (by rw [hU]; exact va_Z.moved hW.alike ((hZ_COMPACT_STRINGS.kept hS.2.1).narrow hFc)), (by rw [hU]; exact va_O.moved hW.alike ((hO_sa.kept hS.2.1).narrow hFc)), (by rw [hU]; exact va_OF.moved hW.alike ((hOc_sa.kept hS.2.1).narrow hFc)), (by rw [hU]; exact va_OF.moved hW.alike ((hOv_sa.kept hS.2.1).narrow hFc)), (by rw [hU]; exact va_T.moved hW.alike ((hT_sv.kept hS.2.1).narrow hFc))⟩⟩ rfl rfl hl.1 rfl (lv_room (Nat.le_of_ble_eq_true rfl)) dX7_hasSign_2 ⟨(Nat.le_of_ble_eq_true rfl), (Nat.le_of_ble_eq_true rfl)⟩) hS (fun q _ h => hFc q h) hFc (fun r u t H1 locs ht hvm hw hB hz1 hk1 hS => ?_)
  refine W.widen (k := 0) (n := 0) (Nat.le_of_ble_eq_true rfl) (Nat.le_of_ble_eq_true rfl) ?_
  have hP := P_ro hP hk1
  generalize H1 = H at hP hS ⊢
  subst hw
  refine lv_icmp_ge (tgt := 21) hx hb dX7_hasSign_5 (by decide) (fun c9 => absurd c9 (by decide +kernel)) (fun _ => ?_)
  refine lv_aload_n hx hb dX7_hasSign_8 rfl (lv_at hl 0 rfl) ?_
  refine lv_iload_n hx hb dX7_hasSign_9 rfl (lv_at hl 1 rfl) ?_
  have hPc := hP.sub (ws' := ([] : va_W)) [] rfl
  have hKc := hK.sub (tys' := []) [] rfl
  have hFc := ro_free hS hA
  refine va_calli (va_runV (As := [.int 0]) (rest := []) ⟨hx, hb, hml, hown, hts⟩ (k_J0_charAt_qweight l dC dI H.size sa sv) (cwV 1 hts gX7_hasSign_J0_charAt_5068e rfl rfl rfl (by decide +kernel) ⟨(Nat.le_of_ble_eq_true rfl), (Nat.le_of_ble_eq_true rfl)⟩) ⟨fun a U g mk q => by obtain ⟨q0, q1, qP, qK, qe0, qe1, qe2, qe3, qe4, qe5⟩ := q; exact ⟨q0, q1, qP, va_K.moved (u := U) (U := U.calling g mk a) (Vm.Alike.refl U.vm) qK, (va_Z.moved (U := U.calling g mk a) (Vm.Alike.refl U.vm) qe0), (va_Zq.moved (U := U.calling g mk a) (Vm.Alike.refl U.vm) qe1), (va_O.moved (U := U.calling g mk a) (Vm.Alike.refl U.vm) qe2), (va_OF.moved (U := U.calling g mk a) (Vm.Alike.refl U.vm) qe3), (va_OF.moved (U := U.calling g mk a) (Vm.Alike.refl U.vm) qe4), (va_T.moved (U := U.calling g mk a) (Vm.Alike.refl U.vm) qe5)⟩, va_Orecv hO_sa hS, fun U hU hW => ⟨rfl, by rw [hU], by rw [hU]; exact hPc, va_K.moved hW.alike hKc, (by rw [hU]; exact va_Z.moved hW.alike ((hZ_COMPACT_STRINGS.kept hS.2.1).narrow hFc)), (by rw [hU]; exact va_Zq.moved hW.alike ((hZq_SIOOBE_FORMATTER.kept hS.2.1).narrow hFc)), (by rw [hU]; exact va_O.moved hW.alike ((hO_sa.kept hS.2.1).narrow hFc)), (by rw [hU]; exact va_OF.moved hW.alike ((hOc_sa.kept hS.2.1).narrow hFc)), (by rw [hU]; exact va_OF.moved hW.alike ((hOv_sa.kept hS.2.1).narrow hFc)), (by rw [hU]; exact va_T.moved hW.alike ((hT_sv.kept hS.2.1).narrow hFc))⟩⟩ rfl rfl hl.1 rfl (lv_room (Nat.le_of_ble_eq_true rfl)) dX7_hasSign_10 ⟨(Nat.le_of_ble_eq_true rfl), (Nat.le_of_ble_eq_true rfl)⟩) hS (fun q _ h => hFc q h) hFc (fun r u t H1 locs ht hvm hw hB hz1 hk1 hS => ?_)
  refine W.widen (k := 0) (n := 0) (Nat.le_of_ble_eq_true rfl) (Nat.le_of_ble_eq_true rfl) ?_
  have hP := P_ro hP hk1
  generalize H1 = H at hP hS ⊢
  subst hw
  refine lv_iload_n hx hb dX7_hasSign_13 rfl (lv_at hl 2 rfl) ?_
  refine lv_icmp_ne (tgt := 21) hx hb dX7_hasSign_14 (by decide) (fun _ => ?_) (fun c9 => absurd c9 (by decide +kernel))
  refine lv_iconst (v := 0) hx hb dX7_hasSign_21 (by decide +kernel) ?_
  refine W.widen (k := 0) (n := 0) (Nat.le_of_ble_eq_true rfl) (Nat.le_of_ble_eq_true rfl) ?_
  exact W.zret (v := 0) hx hb hr (by decide +kernel) (fun t ht hW => ⟨⟨0, (), rfl, (by first | rfl | (exfalso; omega)), trivial⟩, hS.F ht⟩) hS.2.2 dX7_hasSign_22

set_option maxHeartbeats 4000000 in
set_option maxRecDepth 100000 in
theorem k_J1_charAt_qcrew (l : Launch) (dC : Nat → ClassId) (dI : Nat → Nat → Nat) (sz : Nat) (sv : Nat) : Met l yJ1_charAt_3b067 wsJ1_charAt_3b067 ({ frames := 2, cells := 0, slots := 0, locals := 43 }) (va_Pc [.ref sv, .int 0] (fun U => U.heap.size = sz ∧ va_P (dC, dI) vwCl ([] : va_W) U.heap ∧ va_K (dC, dI) vwCl [] U ∧ va_Zq "jdk/internal/util/Preconditions" "SIOOBE_FORMATTER" "Ljava/util/function/BiFunction;" (va_A ([] : va_W) sz) U U.heap ∧ va_T .byte sv 4 (sb [99, 114, 101, 119]) (va_A ([] : va_W) sz) U U.heap)) (va_Qi (fun (r : Int32) (_ : Unit) => r = 99) (fun _ _ => True) (va_A ([] : va_W) sz)) 0 0 (va_A ([] : va_W) sz) := by
  refine Met.ofW (cc := cJ1_charAt_3b067) (maxL := 2) (ret := (some .char)) (by decide) rfl ?_
  intro p e s m args below meth c s₁ B hml hv
  obtain ⟨rfl, hsz, hP, hK, hZq_SIOOBE_FORMATTER, hT_sv⟩ := hv
  have hx := B.exec
  have hb := B.bytes
  have hr := B.returns
  have hts := atoms_spec (ws := wsJ1_charAt_3b067) B.pre
  have hown : s.vm.findClass RJ1 = some m.cls := findClass_of_methodNamed B.named
  have hlocks := B.notSynchronized
  subst hsz
  generalize hAe : va_A ([] : va_W) s.heap.size = A at hZq_SIOOBE_FORMATTER hT_sv ⊢
  have hA : ∀ q : Nat, s.heap.size ≤ q → A q := fun q h => by rw [← hAe]; exact Or.inr h
  have hS : va_S A s.heap s.heap [] := va_S.rf
  have hl := lv_entry ([.ref sv, .int 0]) (n := 2) (Nat.le_of_ble_eq_true rfl)
  rw [lg_entry_eq]
  generalize (lg_sl ([.ref sv, .int 0]) ++ List.replicate (2 - (lg_sl ([.ref sv, .int 0])).length) Slot.unset).toArray = ls at hl ⊢
  have hl : lv_has ls 2 [(0, .ref sv), (1, .int 0)] := hl
  refine lv_iload_n hx hb dJ1_charAt_3b067_0 rfl (lv_at hl 1 rfl) ?_
  refine lv_aload_n hx hb dJ1_charAt_3b067_1 rfl (lv_at hl 0 rfl) ?_
  refine va_tlen (v := 4) hx hb hT_sv hS (by decide +kernel) dJ1_charAt_3b067_2 ?_
  have hPc := hP.sub (ws' := ([] : va_W)) [] rfl
  have hKc := hK.sub (tys' := []) [] rfl
  have hFc := ro_free hS hA
  refine va_callv (va_runS (As := [.int 0, .int 4]) (rest := []) ⟨hx, hb, hml, hown, hts⟩ (k_J0_checkIndex_q4 l dC dI s.heap.size ) (va_cwS 2 hts gJ1_charAt_3b067_J0_checkIndex_df160 rfl rfl rfl (by decide +kernel) ⟨(Nat.le_of_ble_eq_true rfl), (Nat.le_of_ble_eq_true rfl)⟩) ⟨fun a U g mk q => by obtain ⟨q0, q1, qP, qK, qe0⟩ := q; exact ⟨q0, q1, qP, va_K.moved (u := U) (U := U.calling g mk a) (Vm.Alike.refl U.vm) qK, (va_Zq.moved (U := U.calling g mk a) (Vm.Alike.refl U.vm) qe0)⟩, fun U hU hW => ⟨rfl, by rw [hU], by rw [hU]; exact hPc, va_K.moved hW.alike hKc, (by rw [hU]; exact va_Zq.moved hW.alike ((hZq_SIOOBE_FORMATTER.kept hS.2.1).narrow hFc))⟩⟩ rfl rfl hl.1 rfl (lv_room (Nat.le_of_ble_eq_true rfl)) dJ1_charAt_3b067_3 ⟨(Nat.le_of_ble_eq_true rfl), (Nat.le_of_ble_eq_true rfl)⟩) hS (fun q _ h => hFc q h) hFc (fun u t H1 locs ht hvm hw hB hz1 hk1 hS => ?_)
  refine W.widen (k := 0) (n := 0) (Nat.le_of_ble_eq_true rfl) (Nat.le_of_ble_eq_true rfl) ?_
  have hP := P_ro hP hk1
  generalize H1 = H at hP hS ⊢
  refine lv_aload_n hx hb dJ1_charAt_3b067_6 rfl (lv_at hl 0 rfl) ?_
  refine lv_iload_n hx hb dJ1_charAt_3b067_7 rfl (lv_at hl 1 rfl) ?_
  refine va_tb (v := .int 99) hx hb hT_sv hS (by unfold vp_in; decide +kernel) rfl dJ1_charAt_3b067_8 ?_
  refine lv_sipush (v := 255) hx hb dJ1_charAt_3b067_9 (by decide +kernel) ?_
  refine lv_iand hx hb dJ1_charAt_3b067_12 ?_
  refine ti_eq (y := 99) (by decide +kernel) ?_
  refine lv_i2c (v := 99) hx hb dJ1_charAt_3b067_13 (by decide +kernel) ?_
  refine W.widen (k := 0) (n := 0) (Nat.le_of_ble_eq_true rfl) (Nat.le_of_ble_eq_true rfl) ?_
  exact W.zret (v := 99) hx hb hr (by decide +kernel) (fun t ht hW => ⟨⟨99, (), rfl, (by first | rfl | (exfalso; omega)), trivial⟩, hS.F ht⟩) hS.2.2 dJ1_charAt_3b067_14

set_option maxHeartbeats 4000000 in
set_option maxRecDepth 100000 in
theorem k_J0_charAt_qcrew (l : Launch) (dC : Nat → ClassId) (dI : Nat → Nat → Nat) (sz : Nat) (sa : Nat) (sv : Nat) : Met l yJ0_charAt_5068e wsJ0_charAt_5068e ({ frames := 3, cells := 0, slots := 0, locals := 64 }) (va_Pc [.ref sa, .int 0] (fun U => U.heap.size = sz ∧ va_P (dC, dI) vwCl ([] : va_W) U.heap ∧ va_K (dC, dI) vwCl [] U ∧ va_Z "java/lang/String" "COMPACT_STRINGS" "Z" (.int 1) (va_A ([] : va_W) sz) U U.heap ∧ va_Zq "jdk/internal/util/Preconditions" "SIOOBE_FORMATTER" "Ljava/util/function/BiFunction;" (va_A ([] : va_W) sz) U U.heap ∧ va_O "java/lang/String" sa (va_A ([] : va_W) sz) U U.heap ∧ va_OF "java/lang/String" "coder" "B" (.int 0) sa (va_A ([] : va_W) sz) U U.heap ∧ va_OF "java/lang/String" "value" "[B" (.ref sv) sa (va_A ([] : va_W) sz) U U.heap ∧ va_T .byte sv 4 (sb [99, 114, 101, 119]) (va_A ([] : va_W) sz) U U.heap)) (va_Qi (fun (r : Int32) (_ : Unit) => r = 99) (fun _ _ => True) (va_A ([] : va_W) sz)) 0 0 (va_A ([] : va_W) sz) := by
  refine Met.ofW (cc := cJ0_charAt_5068e) (maxL := 2) (ret := (some .char)) (by decide) rfl ?_
  intro p e s m args below meth c s₁ B hml hv
  obtain ⟨rfl, hsz, hP, hK, hZ_COMPACT_STRINGS, hZq_SIOOBE_FORMATTER, hO_sa, hOc_sa, hOv_sa, hT_sv⟩ := hv
  have hx := B.exec
  have hb := B.bytes
  have hr := B.returns
  have hts := atoms_spec (ws := wsJ0_charAt_5068e) B.pre
  have hown : s.vm.findClass RJ0 = some m.cls := findClass_of_methodNamed B.named
  have hlocks := B.notSynchronized
  subst hsz
  generalize hAe : va_A ([] : va_W) s.heap.size = A at hZ_COMPACT_STRINGS hZq_SIOOBE_FORMATTER hO_sa hOc_sa hOv_sa hT_sv ⊢
  have hA : ∀ q : Nat, s.heap.size ≤ q → A q := fun q h => by rw [← hAe]; exact Or.inr h
  have hS : va_S A s.heap s.heap [] := va_S.rf
  have hl := lv_entry ([.ref sa, .int 0]) (n := 2) (Nat.le_of_ble_eq_true rfl)
  rw [lg_entry_eq]
  generalize (lg_sl ([.ref sa, .int 0]) ++ List.replicate (2 - (lg_sl ([.ref sa, .int 0])).length) Slot.unset).toArray = ls at hl ⊢
  have hl : lv_has ls 2 [(0, .ref sa), (1, .int 0)] := hl
  refine lv_aload_n hx hb dJ0_charAt_5068e_0 rfl (lv_at hl 0 rfl) ?_
  have hPc := hP.sub (ws' := ([] : va_W)) [] rfl
  have hKc := hK.sub (tys' := []) [] rfl
  have hFc := ro_free hS hA
  refine va_calli (va_runV (As := []) (rest := []) ⟨hx, hb, hml, hown, hts⟩ (k_J0_isLatin1_aae02 l dC dI s.heap.size sa) (cwV 0 hts gJ0_charAt_5068e_J0_isLatin1_aae02 rfl rfl rfl (by decide +kernel) ⟨(Nat.le_of_ble_eq_true rfl), (Nat.le_of_ble_eq_true rfl)⟩) ⟨fun a U g mk q => by obtain ⟨q0, q1, qP, qK, qe0, qe1⟩ := q; exact ⟨q0, q1, qP, va_K.moved (u := U) (U := U.calling g mk a) (Vm.Alike.refl U.vm) qK, (va_Z.moved (U := U.calling g mk a) (Vm.Alike.refl U.vm) qe0), (va_OF.moved (U := U.calling g mk a) (Vm.Alike.refl U.vm) qe1)⟩, va_Orecv hO_sa hS, fun U hU hW => ⟨rfl, by rw [hU], by rw [hU]; exact hPc, va_K.moved hW.alike hKc, (by rw [hU]; exact va_Z.moved hW.alike ((hZ_COMPACT_STRINGS.kept hS.2.1).narrow hFc)), (by rw [hU]; exact va_OF.moved hW.alike ((hOc_sa.kept hS.2.1).narrow hFc))⟩⟩ rfl rfl hl.1 rfl (lv_room (Nat.le_of_ble_eq_true rfl)) dJ0_charAt_5068e_1 ⟨(Nat.le_of_ble_eq_true rfl), (Nat.le_of_ble_eq_true rfl)⟩) hS (fun q _ h => hFc q h) hFc (fun r u t H1 locs ht hvm hw hB hz1 hk1 hS => ?_)
  refine W.widen (k := 0) (n := 0) (Nat.le_of_ble_eq_true rfl) (Nat.le_of_ble_eq_true rfl) ?_
  have hP := P_ro hP hk1
  generalize H1 = H at hP hS ⊢
  subst hw
  refine lv_if_eq (tgt := 16) hx hb dJ0_charAt_5068e_4 (by decide) (fun c9 => absurd c9 (by decide +kernel)) (fun _ => ?_)
  refine lv_aload_n hx hb dJ0_charAt_5068e_7 rfl (lv_at hl 0 rfl) ?_
  refine vk_getf hx hb hOv_sa hS hown (hts (.fieldLink RJ0 9 "java/lang/String" "value" "[B") (List.mem_of_getElem? (i := 1) rfl)) (fun _ h9 => h9) dJ0_charAt_5068e_8 ?_
  refine lv_iload_n hx hb dJ0_charAt_5068e_11 rfl (lv_at hl 1 rfl) ?_
  have hPc := hP.sub (ws' := ([] : va_W)) [] rfl
  have hKc := hK.sub (tys' := []) [] rfl
  have hFc := ro_free hS hA
  refine va_calli (va_runS (As := [.ref sv, .int 0]) (rest := []) ⟨hx, hb, hml, hown, hts⟩ (k_J1_charAt_qcrew l dC dI H.size sv) (va_cwS 2 hts gJ0_charAt_5068e_J1_charAt_3b067 rfl rfl rfl (by decide +kernel) ⟨(Nat.le_of_ble_eq_true rfl), (Nat.le_of_ble_eq_true rfl)⟩) ⟨fun a U g mk q => by obtain ⟨q0, q1, qP, qK, qe0, qe1⟩ := q; exact ⟨q0, q1, qP, va_K.moved (u := U) (U := U.calling g mk a) (Vm.Alike.refl U.vm) qK, (va_Zq.moved (U := U.calling g mk a) (Vm.Alike.refl U.vm) qe0), (va_T.moved (U := U.calling g mk a) (Vm.Alike.refl U.vm) qe1)⟩, fun U hU hW => ⟨rfl, by rw [hU], by rw [hU]; exact hPc, va_K.moved hW.alike hKc, (by rw [hU]; exact va_Zq.moved hW.alike ((hZq_SIOOBE_FORMATTER.kept hS.2.1).narrow hFc)), (by rw [hU]; exact va_T.moved hW.alike ((hT_sv.kept hS.2.1).narrow hFc))⟩⟩ rfl rfl hl.1 rfl (lv_room (Nat.le_of_ble_eq_true rfl)) dJ0_charAt_5068e_12 ⟨(Nat.le_of_ble_eq_true rfl), (Nat.le_of_ble_eq_true rfl)⟩) hS (fun q _ h => hFc q h) hFc (fun r u t H1 locs ht hvm hw hB hz1 hk1 hS => ?_)
  refine W.widen (k := 0) (n := 0) (Nat.le_of_ble_eq_true rfl) (Nat.le_of_ble_eq_true rfl) ?_
  have hP := P_ro hP hk1
  generalize H1 = H at hP hS ⊢
  subst hw
  refine W.widen (k := 0) (n := 0) (Nat.le_of_ble_eq_true rfl) (Nat.le_of_ble_eq_true rfl) ?_
  exact W.zret (v := 99) hx hb hr (by decide +kernel) (fun t ht hW => ⟨⟨99, (), rfl, (by first | rfl | (exfalso; omega)), trivial⟩, hS.F ht⟩) hS.2.2 dJ0_charAt_5068e_15

set_option maxHeartbeats 4000000 in
set_option maxRecDepth 100000 in
theorem k_X7_hasSign_qcrew (l : Launch) (dC : Nat → ClassId) (dI : Nat → Nat → Nat) (sz : Nat) (sa : Nat) (sv : Nat) : Met l yX7_hasSign wsX7_hasSign ({ frames := 4, cells := 0, slots := 0, locals := 85 }) (va_Pc [.ref sa, .int 0, .int (-1)] (fun U => U.heap.size = sz ∧ va_P (dC, dI) vwCl ([] : va_W) U.heap ∧ va_K (dC, dI) vwCl [] U ∧ va_Z "java/lang/String" "COMPACT_STRINGS" "Z" (.int 1) (va_A ([] : va_W) sz) U U.heap ∧ va_Zq "jdk/internal/util/Preconditions" "SIOOBE_FORMATTER" "Ljava/util/function/BiFunction;" (va_A ([] : va_W) sz) U U.heap ∧ va_O "java/lang/String" sa (va_A ([] : va_W) sz) U U.heap ∧ va_OF "java/lang/String" "coder" "B" (.int 0) sa (va_A ([] : va_W) sz) U U.heap ∧ va_OF "java/lang/String" "value" "[B" (.ref sv) sa (va_A ([] : va_W) sz) U U.heap ∧ va_T .byte sv 4 (sb [99, 114, 101, 119]) (va_A ([] : va_W) sz) U U.heap)) (va_Qi (fun (r : Int32) (_ : Unit) => r = 0) (fun _ _ => True) (va_A ([] : va_W) sz)) 0 0 (va_A ([] : va_W) sz) := by
  refine Met.ofW (cc := cX7_hasSign) (maxL := 3) (ret := (some .boolean)) (by decide) rfl ?_
  intro p e s m args below meth c s₁ B hml hv
  obtain ⟨rfl, hsz, hP, hK, hZ_COMPACT_STRINGS, hZq_SIOOBE_FORMATTER, hO_sa, hOc_sa, hOv_sa, hT_sv⟩ := hv
  have hx := B.exec
  have hb := B.bytes
  have hr := B.returns
  have hts := atoms_spec (ws := wsX7_hasSign) B.pre
  have hown : s.vm.findClass RX7 = some m.cls := findClass_of_methodNamed B.named
  have hlocks := B.notSynchronized
  subst hsz
  generalize hAe : va_A ([] : va_W) s.heap.size = A at hZ_COMPACT_STRINGS hZq_SIOOBE_FORMATTER hO_sa hOc_sa hOv_sa hT_sv ⊢
  have hA : ∀ q : Nat, s.heap.size ≤ q → A q := fun q h => by rw [← hAe]; exact Or.inr h
  have hS : va_S A s.heap s.heap [] := va_S.rf
  have hl := lv_entry ([.ref sa, .int 0, .int (-1)]) (n := 3) (Nat.le_of_ble_eq_true rfl)
  rw [lg_entry_eq]
  generalize (lg_sl ([.ref sa, .int 0, .int (-1)]) ++ List.replicate (3 - (lg_sl ([.ref sa, .int 0, .int (-1)])).length) Slot.unset).toArray = ls at hl ⊢
  have hl : lv_has ls 3 [(0, .ref sa), (1, .int 0), (2, .int (-1))] := hl
  refine lv_iload_n hx hb dX7_hasSign_0 rfl (lv_at hl 1 rfl) ?_
  refine lv_aload_n hx hb dX7_hasSign_1 rfl (lv_at hl 0 rfl) ?_
  have hPc := hP.sub (ws' := ([] : va_W)) [] rfl
  have hKc := hK.sub (tys' := []) [] rfl
  have hFc := ro_free hS hA
  refine va_calli (va_runV (As := []) (rest := [.int 0]) ⟨hx, hb, hml, hown, hts⟩ (k_J0_length_crew l dC dI s.heap.size sa sv) (cwV 0 hts gX7_hasSign_J0_length_8abf5 rfl rfl rfl (by decide +kernel) ⟨(Nat.le_of_ble_eq_true rfl), (Nat.le_of_ble_eq_true rfl)⟩) ⟨fun a U g mk q => by obtain ⟨q0, q1, qP, qK, qe0, qe1, qe2, qe3, qe4⟩ := q; exact ⟨q0, q1, qP, va_K.moved (u := U) (U := U.calling g mk a) (Vm.Alike.refl U.vm) qK, (va_Z.moved (U := U.calling g mk a) (Vm.Alike.refl U.vm) qe0), (va_O.moved (U := U.calling g mk a) (Vm.Alike.refl U.vm) qe1), (va_OF.moved (U := U.calling g mk a) (Vm.Alike.refl U.vm) qe2), (va_OF.moved (U := U.calling g mk a) (Vm.Alike.refl U.vm) qe3), (va_T.moved (U := U.calling g mk a) (Vm.Alike.refl U.vm) qe4)⟩, va_Orecv hO_sa hS, fun U hU hW => ⟨rfl, by rw [hU], by rw [hU]; exact hPc, va_K.moved hW.alike hKc, (by rw [hU]; exact va_Z.moved hW.alike ((hZ_COMPACT_STRINGS.kept hS.2.1).narrow hFc)), (by rw [hU]; exact va_O.moved hW.alike ((hO_sa.kept hS.2.1).narrow hFc)), (by rw [hU]; exact va_OF.moved hW.alike ((hOc_sa.kept hS.2.1).narrow hFc)), (by rw [hU]; exact va_OF.moved hW.alike ((hOv_sa.kept hS.2.1).narrow hFc)), (by rw [hU]; exact va_T.moved hW.alike ((hT_sv.kept hS.2.1).narrow hFc))⟩⟩ rfl rfl hl.1 rfl (lv_room (Nat.le_of_ble_eq_true rfl)) dX7_hasSign_2 ⟨(Nat.le_of_ble_eq_true rfl), (Nat.le_of_ble_eq_true rfl)⟩) hS (fun q _ h => hFc q h) hFc (fun r u t H1 locs ht hvm hw hB hz1 hk1 hS => ?_)
  refine W.widen (k := 0) (n := 0) (Nat.le_of_ble_eq_true rfl) (Nat.le_of_ble_eq_true rfl) ?_
  have hP := P_ro hP hk1
  generalize H1 = H at hP hS ⊢
  subst hw
  refine lv_icmp_ge (tgt := 21) hx hb dX7_hasSign_5 (by decide) (fun c9 => absurd c9 (by decide +kernel)) (fun _ => ?_)
  refine lv_aload_n hx hb dX7_hasSign_8 rfl (lv_at hl 0 rfl) ?_
  refine lv_iload_n hx hb dX7_hasSign_9 rfl (lv_at hl 1 rfl) ?_
  have hPc := hP.sub (ws' := ([] : va_W)) [] rfl
  have hKc := hK.sub (tys' := []) [] rfl
  have hFc := ro_free hS hA
  refine va_calli (va_runV (As := [.int 0]) (rest := []) ⟨hx, hb, hml, hown, hts⟩ (k_J0_charAt_qcrew l dC dI H.size sa sv) (cwV 1 hts gX7_hasSign_J0_charAt_5068e rfl rfl rfl (by decide +kernel) ⟨(Nat.le_of_ble_eq_true rfl), (Nat.le_of_ble_eq_true rfl)⟩) ⟨fun a U g mk q => by obtain ⟨q0, q1, qP, qK, qe0, qe1, qe2, qe3, qe4, qe5⟩ := q; exact ⟨q0, q1, qP, va_K.moved (u := U) (U := U.calling g mk a) (Vm.Alike.refl U.vm) qK, (va_Z.moved (U := U.calling g mk a) (Vm.Alike.refl U.vm) qe0), (va_Zq.moved (U := U.calling g mk a) (Vm.Alike.refl U.vm) qe1), (va_O.moved (U := U.calling g mk a) (Vm.Alike.refl U.vm) qe2), (va_OF.moved (U := U.calling g mk a) (Vm.Alike.refl U.vm) qe3), (va_OF.moved (U := U.calling g mk a) (Vm.Alike.refl U.vm) qe4), (va_T.moved (U := U.calling g mk a) (Vm.Alike.refl U.vm) qe5)⟩, va_Orecv hO_sa hS, fun U hU hW => ⟨rfl, by rw [hU], by rw [hU]; exact hPc, va_K.moved hW.alike hKc, (by rw [hU]; exact va_Z.moved hW.alike ((hZ_COMPACT_STRINGS.kept hS.2.1).narrow hFc)), (by rw [hU]; exact va_Zq.moved hW.alike ((hZq_SIOOBE_FORMATTER.kept hS.2.1).narrow hFc)), (by rw [hU]; exact va_O.moved hW.alike ((hO_sa.kept hS.2.1).narrow hFc)), (by rw [hU]; exact va_OF.moved hW.alike ((hOc_sa.kept hS.2.1).narrow hFc)), (by rw [hU]; exact va_OF.moved hW.alike ((hOv_sa.kept hS.2.1).narrow hFc)), (by rw [hU]; exact va_T.moved hW.alike ((hT_sv.kept hS.2.1).narrow hFc))⟩⟩ rfl rfl hl.1 rfl (lv_room (Nat.le_of_ble_eq_true rfl)) dX7_hasSign_10 ⟨(Nat.le_of_ble_eq_true rfl), (Nat.le_of_ble_eq_true rfl)⟩) hS (fun q _ h => hFc q h) hFc (fun r u t H1 locs ht hvm hw hB hz1 hk1 hS => ?_)
  refine W.widen (k := 0) (n := 0) (Nat.le_of_ble_eq_true rfl) (Nat.le_of_ble_eq_true rfl) ?_
  have hP := P_ro hP hk1
  generalize H1 = H at hP hS ⊢
  subst hw
  refine lv_iload_n hx hb dX7_hasSign_13 rfl (lv_at hl 2 rfl) ?_
  refine lv_icmp_ne (tgt := 21) hx hb dX7_hasSign_14 (by decide) (fun _ => ?_) (fun c9 => absurd c9 (by decide +kernel))
  refine lv_iconst (v := 0) hx hb dX7_hasSign_21 (by decide +kernel) ?_
  refine W.widen (k := 0) (n := 0) (Nat.le_of_ble_eq_true rfl) (Nat.le_of_ble_eq_true rfl) ?_
  exact W.zret (v := 0) hx hb hr (by decide +kernel) (fun t ht hW => ⟨⟨0, (), rfl, (by first | rfl | (exfalso; omega)), trivial⟩, hS.F ht⟩) hS.2.2 dX7_hasSign_22

set_option maxHeartbeats 4000000 in
set_option maxRecDepth 100000 in
theorem k_J1_charAt_qnot (l : Launch) (dC : Nat → ClassId) (dI : Nat → Nat → Nat) (sz : Nat) (sv : Nat) : Met l yJ1_charAt_3b067 wsJ1_charAt_3b067 ({ frames := 2, cells := 0, slots := 0, locals := 43 }) (va_Pc [.ref sv, .int 0] (fun U => U.heap.size = sz ∧ va_P (dC, dI) vwCl ([] : va_W) U.heap ∧ va_K (dC, dI) vwCl [] U ∧ va_Zq "jdk/internal/util/Preconditions" "SIOOBE_FORMATTER" "Ljava/util/function/BiFunction;" (va_A ([] : va_W) sz) U U.heap ∧ va_T .byte sv 3 (sb [110, 111, 116]) (va_A ([] : va_W) sz) U U.heap)) (va_Qi (fun (r : Int32) (_ : Unit) => r = 110) (fun _ _ => True) (va_A ([] : va_W) sz)) 0 0 (va_A ([] : va_W) sz) := by
  refine Met.ofW (cc := cJ1_charAt_3b067) (maxL := 2) (ret := (some .char)) (by decide) rfl ?_
  intro p e s m args below meth c s₁ B hml hv
  obtain ⟨rfl, hsz, hP, hK, hZq_SIOOBE_FORMATTER, hT_sv⟩ := hv
  have hx := B.exec
  have hb := B.bytes
  have hr := B.returns
  have hts := atoms_spec (ws := wsJ1_charAt_3b067) B.pre
  have hown : s.vm.findClass RJ1 = some m.cls := findClass_of_methodNamed B.named
  have hlocks := B.notSynchronized
  subst hsz
  generalize hAe : va_A ([] : va_W) s.heap.size = A at hZq_SIOOBE_FORMATTER hT_sv ⊢
  have hA : ∀ q : Nat, s.heap.size ≤ q → A q := fun q h => by rw [← hAe]; exact Or.inr h
  have hS : va_S A s.heap s.heap [] := va_S.rf
  have hl := lv_entry ([.ref sv, .int 0]) (n := 2) (Nat.le_of_ble_eq_true rfl)
  rw [lg_entry_eq]
  generalize (lg_sl ([.ref sv, .int 0]) ++ List.replicate (2 - (lg_sl ([.ref sv, .int 0])).length) Slot.unset).toArray = ls at hl ⊢
  have hl : lv_has ls 2 [(0, .ref sv), (1, .int 0)] := hl
  refine lv_iload_n hx hb dJ1_charAt_3b067_0 rfl (lv_at hl 1 rfl) ?_
  refine lv_aload_n hx hb dJ1_charAt_3b067_1 rfl (lv_at hl 0 rfl) ?_
  refine va_tlen (v := 3) hx hb hT_sv hS (by decide +kernel) dJ1_charAt_3b067_2 ?_
  have hPc := hP.sub (ws' := ([] : va_W)) [] rfl
  have hKc := hK.sub (tys' := []) [] rfl
  have hFc := ro_free hS hA
  refine va_callv (va_runS (As := [.int 0, .int 3]) (rest := []) ⟨hx, hb, hml, hown, hts⟩ (k_J0_checkIndex_q3 l dC dI s.heap.size ) (va_cwS 2 hts gJ1_charAt_3b067_J0_checkIndex_df160 rfl rfl rfl (by decide +kernel) ⟨(Nat.le_of_ble_eq_true rfl), (Nat.le_of_ble_eq_true rfl)⟩) ⟨fun a U g mk q => by obtain ⟨q0, q1, qP, qK, qe0⟩ := q; exact ⟨q0, q1, qP, va_K.moved (u := U) (U := U.calling g mk a) (Vm.Alike.refl U.vm) qK, (va_Zq.moved (U := U.calling g mk a) (Vm.Alike.refl U.vm) qe0)⟩, fun U hU hW => ⟨rfl, by rw [hU], by rw [hU]; exact hPc, va_K.moved hW.alike hKc, (by rw [hU]; exact va_Zq.moved hW.alike ((hZq_SIOOBE_FORMATTER.kept hS.2.1).narrow hFc))⟩⟩ rfl rfl hl.1 rfl (lv_room (Nat.le_of_ble_eq_true rfl)) dJ1_charAt_3b067_3 ⟨(Nat.le_of_ble_eq_true rfl), (Nat.le_of_ble_eq_true rfl)⟩) hS (fun q _ h => hFc q h) hFc (fun u t H1 locs ht hvm hw hB hz1 hk1 hS => ?_)
  refine W.widen (k := 0) (n := 0) (Nat.le_of_ble_eq_true rfl) (Nat.le_of_ble_eq_true rfl) ?_
  have hP := P_ro hP hk1
  generalize H1 = H at hP hS ⊢
  refine lv_aload_n hx hb dJ1_charAt_3b067_6 rfl (lv_at hl 0 rfl) ?_
  refine lv_iload_n hx hb dJ1_charAt_3b067_7 rfl (lv_at hl 1 rfl) ?_
  refine va_tb (v := .int 110) hx hb hT_sv hS (by unfold vp_in; decide +kernel) rfl dJ1_charAt_3b067_8 ?_
  refine lv_sipush (v := 255) hx hb dJ1_charAt_3b067_9 (by decide +kernel) ?_
  refine lv_iand hx hb dJ1_charAt_3b067_12 ?_
  refine ti_eq (y := 110) (by decide +kernel) ?_
  refine lv_i2c (v := 110) hx hb dJ1_charAt_3b067_13 (by decide +kernel) ?_
  refine W.widen (k := 0) (n := 0) (Nat.le_of_ble_eq_true rfl) (Nat.le_of_ble_eq_true rfl) ?_
  exact W.zret (v := 110) hx hb hr (by decide +kernel) (fun t ht hW => ⟨⟨110, (), rfl, (by first | rfl | (exfalso; omega)), trivial⟩, hS.F ht⟩) hS.2.2 dJ1_charAt_3b067_14

set_option maxHeartbeats 4000000 in
set_option maxRecDepth 100000 in
theorem k_J0_charAt_qnot (l : Launch) (dC : Nat → ClassId) (dI : Nat → Nat → Nat) (sz : Nat) (sa : Nat) (sv : Nat) : Met l yJ0_charAt_5068e wsJ0_charAt_5068e ({ frames := 3, cells := 0, slots := 0, locals := 64 }) (va_Pc [.ref sa, .int 0] (fun U => U.heap.size = sz ∧ va_P (dC, dI) vwCl ([] : va_W) U.heap ∧ va_K (dC, dI) vwCl [] U ∧ va_Z "java/lang/String" "COMPACT_STRINGS" "Z" (.int 1) (va_A ([] : va_W) sz) U U.heap ∧ va_Zq "jdk/internal/util/Preconditions" "SIOOBE_FORMATTER" "Ljava/util/function/BiFunction;" (va_A ([] : va_W) sz) U U.heap ∧ va_O "java/lang/String" sa (va_A ([] : va_W) sz) U U.heap ∧ va_OF "java/lang/String" "coder" "B" (.int 0) sa (va_A ([] : va_W) sz) U U.heap ∧ va_OF "java/lang/String" "value" "[B" (.ref sv) sa (va_A ([] : va_W) sz) U U.heap ∧ va_T .byte sv 3 (sb [110, 111, 116]) (va_A ([] : va_W) sz) U U.heap)) (va_Qi (fun (r : Int32) (_ : Unit) => r = 110) (fun _ _ => True) (va_A ([] : va_W) sz)) 0 0 (va_A ([] : va_W) sz) := by
  refine Met.ofW (cc := cJ0_charAt_5068e) (maxL := 2) (ret := (some .char)) (by decide) rfl ?_
  intro p e s m args below meth c s₁ B hml hv
  obtain ⟨rfl, hsz, hP, hK, hZ_COMPACT_STRINGS, hZq_SIOOBE_FORMATTER, hO_sa, hOc_sa, hOv_sa, hT_sv⟩ := hv
  have hx := B.exec
  have hb := B.bytes
  have hr := B.returns
  have hts := atoms_spec (ws := wsJ0_charAt_5068e) B.pre
  have hown : s.vm.findClass RJ0 = some m.cls := findClass_of_methodNamed B.named
  have hlocks := B.notSynchronized
  subst hsz
  generalize hAe : va_A ([] : va_W) s.heap.size = A at hZ_COMPACT_STRINGS hZq_SIOOBE_FORMATTER hO_sa hOc_sa hOv_sa hT_sv ⊢
  have hA : ∀ q : Nat, s.heap.size ≤ q → A q := fun q h => by rw [← hAe]; exact Or.inr h
  have hS : va_S A s.heap s.heap [] := va_S.rf
  have hl := lv_entry ([.ref sa, .int 0]) (n := 2) (Nat.le_of_ble_eq_true rfl)
  rw [lg_entry_eq]
  generalize (lg_sl ([.ref sa, .int 0]) ++ List.replicate (2 - (lg_sl ([.ref sa, .int 0])).length) Slot.unset).toArray = ls at hl ⊢
  have hl : lv_has ls 2 [(0, .ref sa), (1, .int 0)] := hl
  refine lv_aload_n hx hb dJ0_charAt_5068e_0 rfl (lv_at hl 0 rfl) ?_
  have hPc := hP.sub (ws' := ([] : va_W)) [] rfl
  have hKc := hK.sub (tys' := []) [] rfl
  have hFc := ro_free hS hA
  refine va_calli (va_runV (As := []) (rest := []) ⟨hx, hb, hml, hown, hts⟩ (k_J0_isLatin1_aae02 l dC dI s.heap.size sa) (cwV 0 hts gJ0_charAt_5068e_J0_isLatin1_aae02 rfl rfl rfl (by decide +kernel) ⟨(Nat.le_of_ble_eq_true rfl), (Nat.le_of_ble_eq_true rfl)⟩) ⟨fun a U g mk q => by obtain ⟨q0, q1, qP, qK, qe0, qe1⟩ := q; exact ⟨q0, q1, qP, va_K.moved (u := U) (U := U.calling g mk a) (Vm.Alike.refl U.vm) qK, (va_Z.moved (U := U.calling g mk a) (Vm.Alike.refl U.vm) qe0), (va_OF.moved (U := U.calling g mk a) (Vm.Alike.refl U.vm) qe1)⟩, va_Orecv hO_sa hS, fun U hU hW => ⟨rfl, by rw [hU], by rw [hU]; exact hPc, va_K.moved hW.alike hKc, (by rw [hU]; exact va_Z.moved hW.alike ((hZ_COMPACT_STRINGS.kept hS.2.1).narrow hFc)), (by rw [hU]; exact va_OF.moved hW.alike ((hOc_sa.kept hS.2.1).narrow hFc))⟩⟩ rfl rfl hl.1 rfl (lv_room (Nat.le_of_ble_eq_true rfl)) dJ0_charAt_5068e_1 ⟨(Nat.le_of_ble_eq_true rfl), (Nat.le_of_ble_eq_true rfl)⟩) hS (fun q _ h => hFc q h) hFc (fun r u t H1 locs ht hvm hw hB hz1 hk1 hS => ?_)
  refine W.widen (k := 0) (n := 0) (Nat.le_of_ble_eq_true rfl) (Nat.le_of_ble_eq_true rfl) ?_
  have hP := P_ro hP hk1
  generalize H1 = H at hP hS ⊢
  subst hw
  refine lv_if_eq (tgt := 16) hx hb dJ0_charAt_5068e_4 (by decide) (fun c9 => absurd c9 (by decide +kernel)) (fun _ => ?_)
  refine lv_aload_n hx hb dJ0_charAt_5068e_7 rfl (lv_at hl 0 rfl) ?_
  refine vk_getf hx hb hOv_sa hS hown (hts (.fieldLink RJ0 9 "java/lang/String" "value" "[B") (List.mem_of_getElem? (i := 1) rfl)) (fun _ h9 => h9) dJ0_charAt_5068e_8 ?_
  refine lv_iload_n hx hb dJ0_charAt_5068e_11 rfl (lv_at hl 1 rfl) ?_
  have hPc := hP.sub (ws' := ([] : va_W)) [] rfl
  have hKc := hK.sub (tys' := []) [] rfl
  have hFc := ro_free hS hA
  refine va_calli (va_runS (As := [.ref sv, .int 0]) (rest := []) ⟨hx, hb, hml, hown, hts⟩ (k_J1_charAt_qnot l dC dI H.size sv) (va_cwS 2 hts gJ0_charAt_5068e_J1_charAt_3b067 rfl rfl rfl (by decide +kernel) ⟨(Nat.le_of_ble_eq_true rfl), (Nat.le_of_ble_eq_true rfl)⟩) ⟨fun a U g mk q => by obtain ⟨q0, q1, qP, qK, qe0, qe1⟩ := q; exact ⟨q0, q1, qP, va_K.moved (u := U) (U := U.calling g mk a) (Vm.Alike.refl U.vm) qK, (va_Zq.moved (U := U.calling g mk a) (Vm.Alike.refl U.vm) qe0), (va_T.moved (U := U.calling g mk a) (Vm.Alike.refl U.vm) qe1)⟩, fun U hU hW => ⟨rfl, by rw [hU], by rw [hU]; exact hPc, va_K.moved hW.alike hKc, (by rw [hU]; exact va_Zq.moved hW.alike ((hZq_SIOOBE_FORMATTER.kept hS.2.1).narrow hFc)), (by rw [hU]; exact va_T.moved hW.alike ((hT_sv.kept hS.2.1).narrow hFc))⟩⟩ rfl rfl hl.1 rfl (lv_room (Nat.le_of_ble_eq_true rfl)) dJ0_charAt_5068e_12 ⟨(Nat.le_of_ble_eq_true rfl), (Nat.le_of_ble_eq_true rfl)⟩) hS (fun q _ h => hFc q h) hFc (fun r u t H1 locs ht hvm hw hB hz1 hk1 hS => ?_)
  refine W.widen (k := 0) (n := 0) (Nat.le_of_ble_eq_true rfl) (Nat.le_of_ble_eq_true rfl) ?_
  have hP := P_ro hP hk1
  generalize H1 = H at hP hS ⊢
  subst hw
  refine W.widen (k := 0) (n := 0) (Nat.le_of_ble_eq_true rfl) (Nat.le_of_ble_eq_true rfl) ?_
  exact W.zret (v := 110) hx hb hr (by decide +kernel) (fun t ht hW => ⟨⟨110, (), rfl, (by first | rfl | (exfalso; omega)), trivial⟩, hS.F ht⟩) hS.2.2 dJ0_charAt_5068e_15

set_option maxHeartbeats 4000000 in
set_option maxRecDepth 100000 in
theorem k_X7_hasSign_qnot (l : Launch) (dC : Nat → ClassId) (dI : Nat → Nat → Nat) (sz : Nat) (sa : Nat) (sv : Nat) : Met l yX7_hasSign wsX7_hasSign ({ frames := 4, cells := 0, slots := 0, locals := 85 }) (va_Pc [.ref sa, .int 0, .int (-1)] (fun U => U.heap.size = sz ∧ va_P (dC, dI) vwCl ([] : va_W) U.heap ∧ va_K (dC, dI) vwCl [] U ∧ va_Z "java/lang/String" "COMPACT_STRINGS" "Z" (.int 1) (va_A ([] : va_W) sz) U U.heap ∧ va_Zq "jdk/internal/util/Preconditions" "SIOOBE_FORMATTER" "Ljava/util/function/BiFunction;" (va_A ([] : va_W) sz) U U.heap ∧ va_O "java/lang/String" sa (va_A ([] : va_W) sz) U U.heap ∧ va_OF "java/lang/String" "coder" "B" (.int 0) sa (va_A ([] : va_W) sz) U U.heap ∧ va_OF "java/lang/String" "value" "[B" (.ref sv) sa (va_A ([] : va_W) sz) U U.heap ∧ va_T .byte sv 3 (sb [110, 111, 116]) (va_A ([] : va_W) sz) U U.heap)) (va_Qi (fun (r : Int32) (_ : Unit) => r = 0) (fun _ _ => True) (va_A ([] : va_W) sz)) 0 0 (va_A ([] : va_W) sz) := by
  refine Met.ofW (cc := cX7_hasSign) (maxL := 3) (ret := (some .boolean)) (by decide) rfl ?_
  intro p e s m args below meth c s₁ B hml hv
  obtain ⟨rfl, hsz, hP, hK, hZ_COMPACT_STRINGS, hZq_SIOOBE_FORMATTER, hO_sa, hOc_sa, hOv_sa, hT_sv⟩ := hv
  have hx := B.exec
  have hb := B.bytes
  have hr := B.returns
  have hts := atoms_spec (ws := wsX7_hasSign) B.pre
  have hown : s.vm.findClass RX7 = some m.cls := findClass_of_methodNamed B.named
  have hlocks := B.notSynchronized
  subst hsz
  generalize hAe : va_A ([] : va_W) s.heap.size = A at hZ_COMPACT_STRINGS hZq_SIOOBE_FORMATTER hO_sa hOc_sa hOv_sa hT_sv ⊢
  have hA : ∀ q : Nat, s.heap.size ≤ q → A q := fun q h => by rw [← hAe]; exact Or.inr h
  have hS : va_S A s.heap s.heap [] := va_S.rf
  have hl := lv_entry ([.ref sa, .int 0, .int (-1)]) (n := 3) (Nat.le_of_ble_eq_true rfl)
  rw [lg_entry_eq]
  generalize (lg_sl ([.ref sa, .int 0, .int (-1)]) ++ List.replicate (3 - (lg_sl ([.ref sa, .int 0, .int (-1)])).length) Slot.unset).toArray = ls at hl ⊢
  have hl : lv_has ls 3 [(0, .ref sa), (1, .int 0), (2, .int (-1))] := hl
  refine lv_iload_n hx hb dX7_hasSign_0 rfl (lv_at hl 1 rfl) ?_
  refine lv_aload_n hx hb dX7_hasSign_1 rfl (lv_at hl 0 rfl) ?_
  have hPc := hP.sub (ws' := ([] : va_W)) [] rfl
  have hKc := hK.sub (tys' := []) [] rfl
  have hFc := ro_free hS hA
  refine va_calli (va_runV (As := []) (rest := [.int 0]) ⟨hx, hb, hml, hown, hts⟩ (k_J0_length_not l dC dI s.heap.size sa sv) (cwV 0 hts gX7_hasSign_J0_length_8abf5 rfl rfl rfl (by decide +kernel) ⟨(Nat.le_of_ble_eq_true rfl), (Nat.le_of_ble_eq_true rfl)⟩) ⟨fun a U g mk q => by obtain ⟨q0, q1, qP, qK, qe0, qe1, qe2, qe3, qe4⟩ := q; exact ⟨q0, q1, qP, va_K.moved (u := U) (U := U.calling g mk a) (Vm.Alike.refl U.vm) qK, (va_Z.moved (U := U.calling g mk a) (Vm.Alike.refl U.vm) qe0), (va_O.moved (U := U.calling g mk a) (Vm.Alike.refl U.vm) qe1), (va_OF.moved (U := U.calling g mk a) (Vm.Alike.refl U.vm) qe2), (va_OF.moved (U := U.calling g mk a) (Vm.Alike.refl U.vm) qe3), (va_T.moved (U := U.calling g mk a) (Vm.Alike.refl U.vm) qe4)⟩, va_Orecv hO_sa hS, fun U hU hW => ⟨rfl, by rw [hU], by rw [hU]; exact hPc, va_K.moved hW.alike hKc, (by rw [hU]; exact va_Z.moved hW.alike ((hZ_COMPACT_STRINGS.kept hS.2.1).narrow hFc)), (by rw [hU]; exact va_O.moved hW.alike ((hO_sa.kept hS.2.1).narrow hFc)), (by rw [hU]; exact va_OF.moved hW.alike ((hOc_sa.kept hS.2.1).narrow hFc)), (by rw [hU]; exact va_OF.moved hW.alike ((hOv_sa.kept hS.2.1).narrow hFc)), (by rw [hU]; exact va_T.moved hW.alike ((hT_sv.kept hS.2.1).narrow hFc))⟩⟩ rfl rfl hl.1 rfl (lv_room (Nat.le_of_ble_eq_true rfl)) dX7_hasSign_2 ⟨(Nat.le_of_ble_eq_true rfl), (Nat.le_of_ble_eq_true rfl)⟩) hS (fun q _ h => hFc q h) hFc (fun r u t H1 locs ht hvm hw hB hz1 hk1 hS => ?_)
  refine W.widen (k := 0) (n := 0) (Nat.le_of_ble_eq_true rfl) (Nat.le_of_ble_eq_true rfl) ?_
  have hP := P_ro hP hk1
  generalize H1 = H at hP hS ⊢
  subst hw
  refine lv_icmp_ge (tgt := 21) hx hb dX7_hasSign_5 (by decide) (fun c9 => absurd c9 (by decide +kernel)) (fun _ => ?_)
  refine lv_aload_n hx hb dX7_hasSign_8 rfl (lv_at hl 0 rfl) ?_
  refine lv_iload_n hx hb dX7_hasSign_9 rfl (lv_at hl 1 rfl) ?_
  have hPc := hP.sub (ws' := ([] : va_W)) [] rfl
  have hKc := hK.sub (tys' := []) [] rfl
  have hFc := ro_free hS hA
  refine va_calli (va_runV (As := [.int 0]) (rest := []) ⟨hx, hb, hml, hown, hts⟩ (k_J0_charAt_qnot l dC dI H.size sa sv) (cwV 1 hts gX7_hasSign_J0_charAt_5068e rfl rfl rfl (by decide +kernel) ⟨(Nat.le_of_ble_eq_true rfl), (Nat.le_of_ble_eq_true rfl)⟩) ⟨fun a U g mk q => by obtain ⟨q0, q1, qP, qK, qe0, qe1, qe2, qe3, qe4, qe5⟩ := q; exact ⟨q0, q1, qP, va_K.moved (u := U) (U := U.calling g mk a) (Vm.Alike.refl U.vm) qK, (va_Z.moved (U := U.calling g mk a) (Vm.Alike.refl U.vm) qe0), (va_Zq.moved (U := U.calling g mk a) (Vm.Alike.refl U.vm) qe1), (va_O.moved (U := U.calling g mk a) (Vm.Alike.refl U.vm) qe2), (va_OF.moved (U := U.calling g mk a) (Vm.Alike.refl U.vm) qe3), (va_OF.moved (U := U.calling g mk a) (Vm.Alike.refl U.vm) qe4), (va_T.moved (U := U.calling g mk a) (Vm.Alike.refl U.vm) qe5)⟩, va_Orecv hO_sa hS, fun U hU hW => ⟨rfl, by rw [hU], by rw [hU]; exact hPc, va_K.moved hW.alike hKc, (by rw [hU]; exact va_Z.moved hW.alike ((hZ_COMPACT_STRINGS.kept hS.2.1).narrow hFc)), (by rw [hU]; exact va_Zq.moved hW.alike ((hZq_SIOOBE_FORMATTER.kept hS.2.1).narrow hFc)), (by rw [hU]; exact va_O.moved hW.alike ((hO_sa.kept hS.2.1).narrow hFc)), (by rw [hU]; exact va_OF.moved hW.alike ((hOc_sa.kept hS.2.1).narrow hFc)), (by rw [hU]; exact va_OF.moved hW.alike ((hOv_sa.kept hS.2.1).narrow hFc)), (by rw [hU]; exact va_T.moved hW.alike ((hT_sv.kept hS.2.1).narrow hFc))⟩⟩ rfl rfl hl.1 rfl (lv_room (Nat.le_of_ble_eq_true rfl)) dX7_hasSign_10 ⟨(Nat.le_of_ble_eq_true rfl), (Nat.le_of_ble_eq_true rfl)⟩) hS (fun q _ h => hFc q h) hFc (fun r u t H1 locs ht hvm hw hB hz1 hk1 hS => ?_)
  refine W.widen (k := 0) (n := 0) (Nat.le_of_ble_eq_true rfl) (Nat.le_of_ble_eq_true rfl) ?_
  have hP := P_ro hP hk1
  generalize H1 = H at hP hS ⊢
  subst hw
  refine lv_iload_n hx hb dX7_hasSign_13 rfl (lv_at hl 2 rfl) ?_
  refine lv_icmp_ne (tgt := 21) hx hb dX7_hasSign_14 (by decide) (fun _ => ?_) (fun c9 => absurd c9 (by decide +kernel))
  refine lv_iconst (v := 0) hx hb dX7_hasSign_21 (by decide +kernel) ?_
  refine W.widen (k := 0) (n := 0) (Nat.le_of_ble_eq_true rfl) (Nat.le_of_ble_eq_true rfl) ?_
  exact W.zret (v := 0) hx hb hr (by decide +kernel) (fun t ht hW => ⟨⟨0, (), rfl, (by first | rfl | (exfalso; omega)), trivial⟩, hS.F ht⟩) hS.2.2 dX7_hasSign_22
