set_option maxHeartbeats 4000000 in
set_option maxRecDepth 100000 in
/-- new DrumBoats$Roster, all its cells kept -/
theorem kf_X4_init (l : Launch) (dC : Nat → ClassId) (dI : Nat → Nat → Nat) (sz : Nat) (h0 : Nat) : Met l yX4_init (.code yX4_init cX4_init 1 none :: GW) ({ frames := 1, cells := 6, slots := 240, locals := 12 }) (va_Pc [.ref h0] (fun U => U.heap.size = sz ∧ va_P (dC, dI) vwCl [(h0, .inr (4, [.int 0, .null, .null, .null, .null, .null, .null]))] U.heap ∧ va_K (dC, dI) vwCl [] U ∧ va_D (fun _ => True) [(h0, .inr (4, [.int 0, .null, .null, .null, .null, .null, .null]))])) (va_Qv (fun _ : Unit => True) (fun _ t => ∃ (q1 : Nat), ∃ (q2 : Nat), ∃ (q3 : Nat), ∃ (q4 : Nat), ∃ (q5 : Nat), ∃ (q6 : Nat), ∃ (cq1 : ClassId), ∃ (cq2 : ClassId), ∃ (cq3 : ClassId), ∃ (cq4 : ClassId), ∃ (cq5 : ClassId), ∃ (cq6 : ClassId), va_P (dC, dI) vwCl [(h0, .inr (4, [.int 0, .ref q1, .ref q2, .ref q3, .ref q4, .ref q5, .ref q6])), (q1, .inl (cq1, 40, .inl (fun _ => 0))), (q2, .inl (cq2, 40, .inl (fun _ => 0))), (q3, .inl (cq3, 40, .inl (fun _ => 0))), (q4, .inl (cq4, 40, .inl (fun _ => 0))), (q5, .inl (cq5, 40, .inl (fun _ => 0))), (q6, .inl (cq6, 40, .inr (.inl (fun _ => 0))))] t.heap ∧ va_K (dC, dI) vwCl [(cq1, .int), (cq2, .int), (cq3, .int), (cq4, .int), (cq5, .int), (cq6, .long)] t ∧ va_D (va_A [(h0, .inr (4, [.int 0, .null, .null, .null, .null, .null, .null]))] sz) [(h0, .inr (4, [.int 0, .ref q1, .ref q2, .ref q3, .ref q4, .ref q5, .ref q6])), (q1, .inl (cq1, 40, .inl (fun _ => 0))), (q2, .inl (cq2, 40, .inl (fun _ => 0))), (q3, .inl (cq3, 40, .inl (fun _ => 0))), (q4, .inl (cq4, 40, .inl (fun _ => 0))), (q5, .inl (cq5, 40, .inl (fun _ => 0))), (q6, .inl (cq6, 40, .inr (.inl (fun _ => 0))))]) (va_A [(h0, .inr (4, [.int 0, .null, .null, .null, .null, .null, .null]))] sz)) 6 240 (va_A [(h0, .inr (4, [.int 0, .null, .null, .null, .null, .null, .null]))] sz) := by
  refine Met.ofW (cc := cX4_init) (maxL := 1) (ret := none) (by decide) rfl ?_
  intro p e s m args below meth c s₁ B hml hv
  obtain ⟨rfl, hsz, hP, hK, hD0⟩ := hv
  have hx := B.exec
  have hb := B.bytes
  have hr := B.returns
  have hts0 := atoms_spec (ws := .code yX4_init cX4_init 1 none :: GW) B.pre
  have hts := fun w (h : w ∈ GW) => hts0 w (List.mem_cons_of_mem _ h)
  have hown : s.vm.findClass RX4 = some m.cls := findClass_of_methodNamed B.named
  have hlocks := B.notSynchronized
  have hin : meth.name = "<init>" := (name_of_methodNamed B.named B.method).1
  subst hsz
  have hD := hD0.self (sz := s.heap.size)
  generalize hAe : va_A [(h0, .inr (4, [.int 0, .null, .null, .null, .null, .null, .null]))] s.heap.size = A at hD ⊢
  have hA : ∀ q : Nat, s.heap.size ≤ q → A q := fun q h => by rw [← hAe]; exact Or.inr h
  have hS : va_S A s.heap s.heap [] := va_S.rf
  have hl := lv_entry ([.ref h0]) (n := 1) (Nat.le_of_ble_eq_true rfl)
  rw [lg_entry_eq]
  generalize (lg_sl ([.ref h0]) ++ List.replicate (1 - (lg_sl ([.ref h0])).length) Slot.unset).toArray = ls at hl ⊢
  have hl : lv_has ls 1 [(0, .ref h0)] := hl
  refine lv_aload_n hx hb dX4_init_0 rfl (lv_at hl 0 rfl) ?_
  refine W.objInit hx hb hown (hts _ mw_77) (hts _ mw_70) (hts _ mw_71) rfl (by rw [hml]; exact hl.1) rfl dX4_init_1 (Nat.le_of_ble_eq_true rfl) (Nat.le_of_ble_eq_true rfl) ?_
  refine W.eq (g2 := F0 m 4 ls []) rfl ?_
  refine lv_aload_n hx hb dX4_init_4 rfl (lv_at hl 0 rfl) ?_
  refine lv_iconst (v := 0) hx hb dX4_init_5 (by decide +kernel) ?_
  refine va_put (D := (dC, dI)) (ci := 4) (v := .int 0) (ty := .int) (C := RX4) (T := TX4) (N := 7) hx hb hts inX4 tyX4 tyX4_ok nmX4 hown hK hP hD hS 0 rfl rfl 0 (by decide) (hts _ mw_78) (fun _ h9 => h9) rfl (by decide +kernel) rfl rfl (Nat.le_of_ble_eq_true rfl) dX4_init_6 (fun H locs hP hD hS => ?_)
  have hP : va_P (dC, dI) vwCl [(h0, .inr (4, [.int 0, .null, .null, .null, .null, .null, .null]))] H := hP
  have hD : va_D A [(h0, .inr (4, [.int 0, .null, .null, .null, .null, .null, .null]))] := hD
  refine lv_aload_n hx hb dX4_init_9 rfl (lv_at hl 0 rfl) ?_
  refine lv_bipush (v := 40) hx hb dX4_init_10 (by decide +kernel) ?_
  refine va_newa (atype := .int) (ty := .int) (a0 := (40, .inl (fun _ => 0))) hx hb (hts _ mw_110) rfl hK hP hD hS hA (za_int 40) (by decide +kernel) (by decide +kernel) (by decide +kernel) (Nat.le_of_ble_eq_true rfl) (Nat.le_of_ble_eq_true rfl) dX4_init_12 (fun q1 cq1 H hK hP hD hS => ?_)
  refine W.widen (k := 1) (n := 40) (Nat.le_of_ble_eq_true rfl) (Nat.le_of_ble_eq_true rfl) ?_
  have hP : va_P (dC, dI) vwCl [(h0, .inr (4, [.int 0, .null, .null, .null, .null, .null, .null])), (q1, .inl (cq1, 40, .inl (fun _ => 0)))] H := hP
  have hD : va_D A [(h0, .inr (4, [.int 0, .null, .null, .null, .null, .null, .null])), (q1, .inl (cq1, 40, .inl (fun _ => 0)))] := hD
  have hK : va_K (dC, dI) vwCl [(cq1, .int)] s := hK
  refine va_putF (D := (dC, dI)) (ci := 4) (v := .ref q1) (ty := (.array .int)) (C := RX4) (T := TX4) (N := 7) hx hb hts inX4 tyX4 tyX4_ok nmX4 hown hK hP hD hS 0 rfl rfl 1 (by decide) (hts _ mw_80) (fun _ h9 => h9) rfl hin rfl (by decide +kernel) rfl rfl (Nat.le_of_ble_eq_true rfl) dX4_init_14 (fun H locs hP hD hS => ?_)
  have hP : va_P (dC, dI) vwCl [(h0, .inr (4, [.int 0, .ref q1, .null, .null, .null, .null, .null])), (q1, .inl (cq1, 40, .inl (fun _ => 0)))] H := hP
  have hD : va_D A [(h0, .inr (4, [.int 0, .ref q1, .null, .null, .null, .null, .null])), (q1, .inl (cq1, 40, .inl (fun _ => 0)))] := hD
  refine lv_aload_n hx hb dX4_init_17 rfl (lv_at hl 0 rfl) ?_
  refine lv_bipush (v := 40) hx hb dX4_init_18 (by decide +kernel) ?_
  refine va_newa (atype := .int) (ty := .int) (a0 := (40, .inl (fun _ => 0))) hx hb (hts _ mw_110) rfl hK hP hD hS hA (za_int 40) (by decide +kernel) (by decide +kernel) (by decide +kernel) (Nat.le_of_ble_eq_true rfl) (Nat.le_of_ble_eq_true rfl) dX4_init_20 (fun q2 cq2 H hK hP hD hS => ?_)
  refine W.widen (k := 2) (n := 80) (Nat.le_of_ble_eq_true rfl) (Nat.le_of_ble_eq_true rfl) ?_
  have hP : va_P (dC, dI) vwCl [(h0, .inr (4, [.int 0, .ref q1, .null, .null, .null, .null, .null])), (q1, .inl (cq1, 40, .inl (fun _ => 0))), (q2, .inl (cq2, 40, .inl (fun _ => 0)))] H := hP
  have hD : va_D A [(h0, .inr (4, [.int 0, .ref q1, .null, .null, .null, .null, .null])), (q1, .inl (cq1, 40, .inl (fun _ => 0))), (q2, .inl (cq2, 40, .inl (fun _ => 0)))] := hD
  have hK : va_K (dC, dI) vwCl [(cq1, .int), (cq2, .int)] s := hK
  refine va_putF (D := (dC, dI)) (ci := 4) (v := .ref q2) (ty := (.array .int)) (C := RX4) (T := TX4) (N := 7) hx hb hts inX4 tyX4 tyX4_ok nmX4 hown hK hP hD hS 0 rfl rfl 2 (by decide) (hts _ mw_84) (fun _ h9 => h9) rfl hin rfl (by decide +kernel) rfl rfl (Nat.le_of_ble_eq_true rfl) dX4_init_22 (fun H locs hP hD hS => ?_)
  have hP : va_P (dC, dI) vwCl [(h0, .inr (4, [.int 0, .ref q1, .ref q2, .null, .null, .null, .null])), (q1, .inl (cq1, 40, .inl (fun _ => 0))), (q2, .inl (cq2, 40, .inl (fun _ => 0)))] H := hP
  have hD : va_D A [(h0, .inr (4, [.int 0, .ref q1, .ref q2, .null, .null, .null, .null])), (q1, .inl (cq1, 40, .inl (fun _ => 0))), (q2, .inl (cq2, 40, .inl (fun _ => 0)))] := hD
  refine lv_aload_n hx hb dX4_init_25 rfl (lv_at hl 0 rfl) ?_
  refine lv_bipush (v := 40) hx hb dX4_init_26 (by decide +kernel) ?_
  refine va_newa (atype := .int) (ty := .int) (a0 := (40, .inl (fun _ => 0))) hx hb (hts _ mw_110) rfl hK hP hD hS hA (za_int 40) (by decide +kernel) (by decide +kernel) (by decide +kernel) (Nat.le_of_ble_eq_true rfl) (Nat.le_of_ble_eq_true rfl) dX4_init_28 (fun q3 cq3 H hK hP hD hS => ?_)
  refine W.widen (k := 3) (n := 120) (Nat.le_of_ble_eq_true rfl) (Nat.le_of_ble_eq_true rfl) ?_
  have hP : va_P (dC, dI) vwCl [(h0, .inr (4, [.int 0, .ref q1, .ref q2, .null, .null, .null, .null])), (q1, .inl (cq1, 40, .inl (fun _ => 0))), (q2, .inl (cq2, 40, .inl (fun _ => 0))), (q3, .inl (cq3, 40, .inl (fun _ => 0)))] H := hP
  have hD : va_D A [(h0, .inr (4, [.int 0, .ref q1, .ref q2, .null, .null, .null, .null])), (q1, .inl (cq1, 40, .inl (fun _ => 0))), (q2, .inl (cq2, 40, .inl (fun _ => 0))), (q3, .inl (cq3, 40, .inl (fun _ => 0)))] := hD
  have hK : va_K (dC, dI) vwCl [(cq1, .int), (cq2, .int), (cq3, .int)] s := hK
  refine va_putF (D := (dC, dI)) (ci := 4) (v := .ref q3) (ty := (.array .int)) (C := RX4) (T := TX4) (N := 7) hx hb hts inX4 tyX4 tyX4_ok nmX4 hown hK hP hD hS 0 rfl rfl 3 (by decide) (hts _ mw_88) (fun _ h9 => h9) rfl hin rfl (by decide +kernel) rfl rfl (Nat.le_of_ble_eq_true rfl) dX4_init_30 (fun H locs hP hD hS => ?_)
  have hP : va_P (dC, dI) vwCl [(h0, .inr (4, [.int 0, .ref q1, .ref q2, .ref q3, .null, .null, .null])), (q1, .inl (cq1, 40, .inl (fun _ => 0))), (q2, .inl (cq2, 40, .inl (fun _ => 0))), (q3, .inl (cq3, 40, .inl (fun _ => 0)))] H := hP
  have hD : va_D A [(h0, .inr (4, [.int 0, .ref q1, .ref q2, .ref q3, .null, .null, .null])), (q1, .inl (cq1, 40, .inl (fun _ => 0))), (q2, .inl (cq2, 40, .inl (fun _ => 0))), (q3, .inl (cq3, 40, .inl (fun _ => 0)))] := hD
  refine lv_aload_n hx hb dX4_init_33 rfl (lv_at hl 0 rfl) ?_
  refine lv_bipush (v := 40) hx hb dX4_init_34 (by decide +kernel) ?_
  refine va_newa (atype := .int) (ty := .int) (a0 := (40, .inl (fun _ => 0))) hx hb (hts _ mw_110) rfl hK hP hD hS hA (za_int 40) (by decide +kernel) (by decide +kernel) (by decide +kernel) (Nat.le_of_ble_eq_true rfl) (Nat.le_of_ble_eq_true rfl) dX4_init_36 (fun q4 cq4 H hK hP hD hS => ?_)
  refine W.widen (k := 4) (n := 160) (Nat.le_of_ble_eq_true rfl) (Nat.le_of_ble_eq_true rfl) ?_
  have hP : va_P (dC, dI) vwCl [(h0, .inr (4, [.int 0, .ref q1, .ref q2, .ref q3, .null, .null, .null])), (q1, .inl (cq1, 40, .inl (fun _ => 0))), (q2, .inl (cq2, 40, .inl (fun _ => 0))), (q3, .inl (cq3, 40, .inl (fun _ => 0))), (q4, .inl (cq4, 40, .inl (fun _ => 0)))] H := hP
  have hD : va_D A [(h0, .inr (4, [.int 0, .ref q1, .ref q2, .ref q3, .null, .null, .null])), (q1, .inl (cq1, 40, .inl (fun _ => 0))), (q2, .inl (cq2, 40, .inl (fun _ => 0))), (q3, .inl (cq3, 40, .inl (fun _ => 0))), (q4, .inl (cq4, 40, .inl (fun _ => 0)))] := hD
  have hK : va_K (dC, dI) vwCl [(cq1, .int), (cq2, .int), (cq3, .int), (cq4, .int)] s := hK
  refine va_putF (D := (dC, dI)) (ci := 4) (v := .ref q4) (ty := (.array .int)) (C := RX4) (T := TX4) (N := 7) hx hb hts inX4 tyX4 tyX4_ok nmX4 hown hK hP hD hS 0 rfl rfl 4 (by decide) (hts _ mw_90) (fun _ h9 => h9) rfl hin rfl (by decide +kernel) rfl rfl (Nat.le_of_ble_eq_true rfl) dX4_init_38 (fun H locs hP hD hS => ?_)
  have hP : va_P (dC, dI) vwCl [(h0, .inr (4, [.int 0, .ref q1, .ref q2, .ref q3, .ref q4, .null, .null])), (q1, .inl (cq1, 40, .inl (fun _ => 0))), (q2, .inl (cq2, 40, .inl (fun _ => 0))), (q3, .inl (cq3, 40, .inl (fun _ => 0))), (q4, .inl (cq4, 40, .inl (fun _ => 0)))] H := hP
  have hD : va_D A [(h0, .inr (4, [.int 0, .ref q1, .ref q2, .ref q3, .ref q4, .null, .null])), (q1, .inl (cq1, 40, .inl (fun _ => 0))), (q2, .inl (cq2, 40, .inl (fun _ => 0))), (q3, .inl (cq3, 40, .inl (fun _ => 0))), (q4, .inl (cq4, 40, .inl (fun _ => 0)))] := hD
  refine lv_aload_n hx hb dX4_init_41 rfl (lv_at hl 0 rfl) ?_
  refine lv_bipush (v := 40) hx hb dX4_init_42 (by decide +kernel) ?_
  refine va_newa (atype := .int) (ty := .int) (a0 := (40, .inl (fun _ => 0))) hx hb (hts _ mw_110) rfl hK hP hD hS hA (za_int 40) (by decide +kernel) (by decide +kernel) (by decide +kernel) (Nat.le_of_ble_eq_true rfl) (Nat.le_of_ble_eq_true rfl) dX4_init_44 (fun q5 cq5 H hK hP hD hS => ?_)
  refine W.widen (k := 5) (n := 200) (Nat.le_of_ble_eq_true rfl) (Nat.le_of_ble_eq_true rfl) ?_
  have hP : va_P (dC, dI) vwCl [(h0, .inr (4, [.int 0, .ref q1, .ref q2, .ref q3, .ref q4, .null, .null])), (q1, .inl (cq1, 40, .inl (fun _ => 0))), (q2, .inl (cq2, 40, .inl (fun _ => 0))), (q3, .inl (cq3, 40, .inl (fun _ => 0))), (q4, .inl (cq4, 40, .inl (fun _ => 0))), (q5, .inl (cq5, 40, .inl (fun _ => 0)))] H := hP
  have hD : va_D A [(h0, .inr (4, [.int 0, .ref q1, .ref q2, .ref q3, .ref q4, .null, .null])), (q1, .inl (cq1, 40, .inl (fun _ => 0))), (q2, .inl (cq2, 40, .inl (fun _ => 0))), (q3, .inl (cq3, 40, .inl (fun _ => 0))), (q4, .inl (cq4, 40, .inl (fun _ => 0))), (q5, .inl (cq5, 40, .inl (fun _ => 0)))] := hD
  have hK : va_K (dC, dI) vwCl [(cq1, .int), (cq2, .int), (cq3, .int), (cq4, .int), (cq5, .int)] s := hK
  refine va_putF (D := (dC, dI)) (ci := 4) (v := .ref q5) (ty := (.array .int)) (C := RX4) (T := TX4) (N := 7) hx hb hts inX4 tyX4 tyX4_ok nmX4 hown hK hP hD hS 0 rfl rfl 5 (by decide) (hts _ mw_92) (fun _ h9 => h9) rfl hin rfl (by decide +kernel) rfl rfl (Nat.le_of_ble_eq_true rfl) dX4_init_46 (fun H locs hP hD hS => ?_)
  have hP : va_P (dC, dI) vwCl [(h0, .inr (4, [.int 0, .ref q1, .ref q2, .ref q3, .ref q4, .ref q5, .null])), (q1, .inl (cq1, 40, .inl (fun _ => 0))), (q2, .inl (cq2, 40, .inl (fun _ => 0))), (q3, .inl (cq3, 40, .inl (fun _ => 0))), (q4, .inl (cq4, 40, .inl (fun _ => 0))), (q5, .inl (cq5, 40, .inl (fun _ => 0)))] H := hP
  have hD : va_D A [(h0, .inr (4, [.int 0, .ref q1, .ref q2, .ref q3, .ref q4, .ref q5, .null])), (q1, .inl (cq1, 40, .inl (fun _ => 0))), (q2, .inl (cq2, 40, .inl (fun _ => 0))), (q3, .inl (cq3, 40, .inl (fun _ => 0))), (q4, .inl (cq4, 40, .inl (fun _ => 0))), (q5, .inl (cq5, 40, .inl (fun _ => 0)))] := hD
  refine lv_aload_n hx hb dX4_init_49 rfl (lv_at hl 0 rfl) ?_
  refine lv_bipush (v := 40) hx hb dX4_init_50 (by decide +kernel) ?_
  refine va_newa (atype := .long) (ty := .long) (a0 := (40, .inr (.inl (fun _ => 0)))) hx hb (hts _ mw_111) rfl hK hP hD hS hA (za_long 40) (by decide +kernel) (by decide +kernel) (by decide +kernel) (Nat.le_of_ble_eq_true rfl) (Nat.le_of_ble_eq_true rfl) dX4_init_52 (fun q6 cq6 H hK hP hD hS => ?_)
  refine W.widen (k := 6) (n := 240) (Nat.le_of_ble_eq_true rfl) (Nat.le_of_ble_eq_true rfl) ?_
  have hP : va_P (dC, dI) vwCl [(h0, .inr (4, [.int 0, .ref q1, .ref q2, .ref q3, .ref q4, .ref q5, .null])), (q1, .inl (cq1, 40, .inl (fun _ => 0))), (q2, .inl (cq2, 40, .inl (fun _ => 0))), (q3, .inl (cq3, 40, .inl (fun _ => 0))), (q4, .inl (cq4, 40, .inl (fun _ => 0))), (q5, .inl (cq5, 40, .inl (fun _ => 0))), (q6, .inl (cq6, 40, .inr (.inl (fun _ => 0))))] H := hP
  have hD : va_D A [(h0, .inr (4, [.int 0, .ref q1, .ref q2, .ref q3, .ref q4, .ref q5, .null])), (q1, .inl (cq1, 40, .inl (fun _ => 0))), (q2, .inl (cq2, 40, .inl (fun _ => 0))), (q3, .inl (cq3, 40, .inl (fun _ => 0))), (q4, .inl (cq4, 40, .inl (fun _ => 0))), (q5, .inl (cq5, 40, .inl (fun _ => 0))), (q6, .inl (cq6, 40, .inr (.inl (fun _ => 0))))] := hD
  have hK : va_K (dC, dI) vwCl [(cq1, .int), (cq2, .int), (cq3, .int), (cq4, .int), (cq5, .int), (cq6, .long)] s := hK
  refine va_putF (D := (dC, dI)) (ci := 4) (v := .ref q6) (ty := (.array .long)) (C := RX4) (T := TX4) (N := 7) hx hb hts inX4 tyX4 tyX4_ok nmX4 hown hK hP hD hS 0 rfl rfl 6 (by decide) (hts _ mw_94) (fun _ h9 => h9) rfl hin rfl (by decide +kernel) rfl rfl (Nat.le_of_ble_eq_true rfl) dX4_init_54 (fun H locs hP hD hS => ?_)
  have hP : va_P (dC, dI) vwCl [(h0, .inr (4, [.int 0, .ref q1, .ref q2, .ref q3, .ref q4, .ref q5, .ref q6])), (q1, .inl (cq1, 40, .inl (fun _ => 0))), (q2, .inl (cq2, 40, .inl (fun _ => 0))), (q3, .inl (cq3, 40, .inl (fun _ => 0))), (q4, .inl (cq4, 40, .inl (fun _ => 0))), (q5, .inl (cq5, 40, .inl (fun _ => 0))), (q6, .inl (cq6, 40, .inr (.inl (fun _ => 0))))] H := hP
  have hD : va_D A [(h0, .inr (4, [.int 0, .ref q1, .ref q2, .ref q3, .ref q4, .ref q5, .ref q6])), (q1, .inl (cq1, 40, .inl (fun _ => 0))), (q2, .inl (cq2, 40, .inl (fun _ => 0))), (q3, .inl (cq3, 40, .inl (fun _ => 0))), (q4, .inl (cq4, 40, .inl (fun _ => 0))), (q5, .inl (cq5, 40, .inl (fun _ => 0))), (q6, .inl (cq6, 40, .inr (.inl (fun _ => 0))))] := hD
  have hP9 := hP.sub (ws' := [(h0, .inr (4, [.int 0, .ref q1, .ref q2, .ref q3, .ref q4, .ref q5, .ref q6])), (q1, .inl (cq1, 40, .inl (fun _ => 0))), (q2, .inl (cq2, 40, .inl (fun _ => 0))), (q3, .inl (cq3, 40, .inl (fun _ => 0))), (q4, .inl (cq4, 40, .inl (fun _ => 0))), (q5, .inl (cq5, 40, .inl (fun _ => 0))), (q6, .inl (cq6, 40, .inr (.inl (fun _ => 0))))]) [0, 1, 2, 3, 4, 5, 6] rfl
  have hD9 := hD.sub (ws' := [(h0, .inr (4, [.int 0, .ref q1, .ref q2, .ref q3, .ref q4, .ref q5, .ref q6])), (q1, .inl (cq1, 40, .inl (fun _ => 0))), (q2, .inl (cq2, 40, .inl (fun _ => 0))), (q3, .inl (cq3, 40, .inl (fun _ => 0))), (q4, .inl (cq4, 40, .inl (fun _ => 0))), (q5, .inl (cq5, 40, .inl (fun _ => 0))), (q6, .inl (cq6, 40, .inr (.inl (fun _ => 0))))]) [0, 1, 2, 3, 4, 5, 6] (by decide) rfl
  have hK9 := hK.sub (tys' := [(cq1, .int), (cq2, .int), (cq3, .int), (cq4, .int), (cq5, .int), (cq6, .long)]) [0, 1, 2, 3, 4, 5] rfl
  refine W.widen (k := 6) (n := 240) (Nat.le_of_ble_eq_true rfl) (Nat.le_of_ble_eq_true rfl) ?_
  exact W.vret hx hb hr (fun t ht hW => ⟨⟨(), rfl, trivial, q1, q2, q3, q4, q5, q6, cq1, cq2, cq3, cq4, cq5, cq6, by rw [ht]; exact hP9, va_K.moved hW.alike hK9, hD9⟩, hS.F ht⟩) hS.2.2 dX4_init_57

set_option maxHeartbeats 4000000 in
set_option maxRecDepth 100000 in
/-- new DrumBoats$Trim, all its cells kept -/
theorem kf_X8_init (l : Launch) (dC : Nat → ClassId) (dI : Nat → Nat → Nat) (sz : Nat) (h0 : Nat) : Met l yX8_init (.code yX8_init cX8_init 1 none :: GW) ({ frames := 1, cells := 0, slots := 0, locals := 12 }) (va_Pc [.ref h0] (fun U => U.heap.size = sz ∧ va_P (dC, dI) vwCl [(h0, .inr (8, [.int 0, .int 0, .int 0, .int 0]))] U.heap ∧ va_K (dC, dI) vwCl [] U ∧ va_D (fun _ => True) [(h0, .inr (8, [.int 0, .int 0, .int 0, .int 0]))])) (va_Qv (fun _ : Unit => True) (fun _ t => va_P (dC, dI) vwCl [(h0, .inr (8, [.int 0, .int 0, .int 0, .int 0]))] t.heap ∧ va_K (dC, dI) vwCl [] t ∧ va_D (va_A [(h0, .inr (8, [.int 0, .int 0, .int 0, .int 0]))] sz) [(h0, .inr (8, [.int 0, .int 0, .int 0, .int 0]))]) (va_A [(h0, .inr (8, [.int 0, .int 0, .int 0, .int 0]))] sz)) 0 0 (va_A [(h0, .inr (8, [.int 0, .int 0, .int 0, .int 0]))] sz) := by
  refine Met.ofW (cc := cX8_init) (maxL := 1) (ret := none) (by decide) rfl ?_
  intro p e s m args below meth c s₁ B hml hv
  obtain ⟨rfl, hsz, hP, hK, hD0⟩ := hv
  have hx := B.exec
  have hb := B.bytes
  have hr := B.returns
  have hts0 := atoms_spec (ws := .code yX8_init cX8_init 1 none :: GW) B.pre
  have hts := fun w (h : w ∈ GW) => hts0 w (List.mem_cons_of_mem _ h)
  have hown : s.vm.findClass RX8 = some m.cls := findClass_of_methodNamed B.named
  have hlocks := B.notSynchronized
  have hin : meth.name = "<init>" := (name_of_methodNamed B.named B.method).1
  subst hsz
  have hD := hD0.self (sz := s.heap.size)
  generalize hAe : va_A [(h0, .inr (8, [.int 0, .int 0, .int 0, .int 0]))] s.heap.size = A at hD ⊢
  have hA : ∀ q : Nat, s.heap.size ≤ q → A q := fun q h => by rw [← hAe]; exact Or.inr h
  have hS : va_S A s.heap s.heap [] := va_S.rf
  have hl := lv_entry ([.ref h0]) (n := 1) (Nat.le_of_ble_eq_true rfl)
  rw [lg_entry_eq]
  generalize (lg_sl ([.ref h0]) ++ List.replicate (1 - (lg_sl ([.ref h0])).length) Slot.unset).toArray = ls at hl ⊢
  have hl : lv_has ls 1 [(0, .ref h0)] := hl
  refine lv_aload_n hx hb dX8_init_0 rfl (lv_at hl 0 rfl) ?_
  refine W.objInit hx hb hown (hts _ mw_119) (hts _ mw_70) (hts _ mw_71) rfl (by rw [hml]; exact hl.1) rfl dX8_init_1 (Nat.le_of_ble_eq_true rfl) (Nat.le_of_ble_eq_true rfl) ?_
  refine W.eq (g2 := F0 m 4 ls []) rfl ?_
  refine lv_aload_n hx hb dX8_init_4 rfl (lv_at hl 0 rfl) ?_
  refine lv_iconst (v := 0) hx hb dX8_init_5 (by decide +kernel) ?_
  refine va_put (D := (dC, dI)) (ci := 8) (v := .int 0) (ty := .int) (C := RX8) (T := TX8) (N := 4) hx hb hts inX8 tyX8 tyX8_ok nmX8 hown hK hP hD hS 0 rfl rfl 0 (by decide) (hts _ mw_120) (fun _ h9 => h9) rfl (by decide +kernel) rfl rfl (Nat.le_of_ble_eq_true rfl) dX8_init_6 (fun H locs hP hD hS => ?_)
  have hP : va_P (dC, dI) vwCl [(h0, .inr (8, [.int 0, .int 0, .int 0, .int 0]))] H := hP
  have hD : va_D A [(h0, .inr (8, [.int 0, .int 0, .int 0, .int 0]))] := hD
  refine lv_aload_n hx hb dX8_init_9 rfl (lv_at hl 0 rfl) ?_
  refine lv_iconst (v := 0) hx hb dX8_init_10 (by decide +kernel) ?_
  refine va_put (D := (dC, dI)) (ci := 8) (v := .int 0) (ty := .int) (C := RX8) (T := TX8) (N := 4) hx hb hts inX8 tyX8 tyX8_ok nmX8 hown hK hP hD hS 0 rfl rfl 1 (by decide) (hts _ mw_122) (fun _ h9 => h9) rfl (by decide +kernel) rfl rfl (Nat.le_of_ble_eq_true rfl) dX8_init_11 (fun H locs hP hD hS => ?_)
  have hP : va_P (dC, dI) vwCl [(h0, .inr (8, [.int 0, .int 0, .int 0, .int 0]))] H := hP
  have hD : va_D A [(h0, .inr (8, [.int 0, .int 0, .int 0, .int 0]))] := hD
  refine lv_aload_n hx hb dX8_init_14 rfl (lv_at hl 0 rfl) ?_
  refine lv_iconst (v := 0) hx hb dX8_init_15 (by decide +kernel) ?_
  refine va_put (D := (dC, dI)) (ci := 8) (v := .int 0) (ty := .int) (C := RX8) (T := TX8) (N := 4) hx hb hts inX8 tyX8 tyX8_ok nmX8 hown hK hP hD hS 0 rfl rfl 2 (by decide) (hts _ mw_124) (fun _ h9 => h9) rfl (by decide +kernel) rfl rfl (Nat.le_of_ble_eq_true rfl) dX8_init_16 (fun H locs hP hD hS => ?_)
  have hP : va_P (dC, dI) vwCl [(h0, .inr (8, [.int 0, .int 0, .int 0, .int 0]))] H := hP
  have hD : va_D A [(h0, .inr (8, [.int 0, .int 0, .int 0, .int 0]))] := hD
  refine lv_aload_n hx hb dX8_init_19 rfl (lv_at hl 0 rfl) ?_
  refine lv_iconst (v := 0) hx hb dX8_init_20 (by decide +kernel) ?_
  refine va_put (D := (dC, dI)) (ci := 8) (v := .int 0) (ty := .int) (C := RX8) (T := TX8) (N := 4) hx hb hts inX8 tyX8 tyX8_ok nmX8 hown hK hP hD hS 0 rfl rfl 3 (by decide) (hts _ mw_126) (fun _ h9 => h9) rfl (by decide +kernel) rfl rfl (Nat.le_of_ble_eq_true rfl) dX8_init_21 (fun H locs hP hD hS => ?_)
  have hP : va_P (dC, dI) vwCl [(h0, .inr (8, [.int 0, .int 0, .int 0, .int 0]))] H := hP
  have hD : va_D A [(h0, .inr (8, [.int 0, .int 0, .int 0, .int 0]))] := hD
  have hP9 := hP.sub (ws' := [(h0, .inr (8, [.int 0, .int 0, .int 0, .int 0]))]) [0] rfl
  have hD9 := hD.sub (ws' := [(h0, .inr (8, [.int 0, .int 0, .int 0, .int 0]))]) [0] (by decide) rfl
  have hK9 := hK.sub (tys' := []) [] rfl
  refine W.widen (k := 0) (n := 0) (Nat.le_of_ble_eq_true rfl) (Nat.le_of_ble_eq_true rfl) ?_
  exact W.vret hx hb hr (fun t ht hW => ⟨⟨(), rfl, trivial, by rw [ht]; exact hP9, va_K.moved hW.alike hK9, hD9⟩, hS.F ht⟩) hS.2.2 dX8_init_24

set_option maxHeartbeats 4000000 in
set_option maxRecDepth 100000 in
/-- new DrumBoats$SeatSearch, all its cells kept -/
theorem kf_X6_init (l : Launch) (dC : Nat → ClassId) (dI : Nat → Nat → Nat) (sz : Nat) (h0 : Nat) : Met l yX6_init (.code yX6_init cX6_init 1 none :: GW) ({ frames := 1, cells := 13, slots := 109, locals := 12 }) (va_Pc [.ref h0] (fun U => U.heap.size = sz ∧ va_P (dC, dI) vwCl [(h0, .inr (6, [.int 0, .int 0, .int 0, .int 0, .null, .null, .null, .null, .null, .null, .null, .null, .null, .null, .null, .null, .null]))] U.heap ∧ va_K (dC, dI) vwCl [] U ∧ va_D (fun _ => True) [(h0, .inr (6, [.int 0, .int 0, .int 0, .int 0, .null, .null, .null, .null, .null, .null, .null, .null, .null, .null, .null, .null, .null]))])) (va_Qv (fun _ : Unit => True) (fun _ t => ∃ (q1 : Nat), ∃ (q2 : Nat), ∃ (q3 : Nat), ∃ (q4 : Nat), ∃ (q5 : Nat), ∃ (q6 : Nat), ∃ (q7 : Nat), ∃ (q8 : Nat), ∃ (q9 : Nat), ∃ (q10 : Nat), ∃ (q11 : Nat), ∃ (q12 : Nat), ∃ (q13 : Nat), ∃ (cq1 : ClassId), ∃ (cq2 : ClassId), ∃ (cq3 : ClassId), ∃ (cq4 : ClassId), ∃ (cq5 : ClassId), ∃ (cq6 : ClassId), ∃ (cq7 : ClassId), ∃ (cq8 : ClassId), ∃ (cq9 : ClassId), ∃ (cq10 : ClassId), ∃ (cq11 : ClassId), ∃ (cq12 : ClassId), ∃ (cq13 : ClassId), va_P (dC, dI) vwCl [(h0, .inr (6, [.int 0, .int 0, .int 0, .int 0, .ref q1, .ref q2, .ref q3, .ref q4, .ref q5, .ref q6, .ref q7, .ref q8, .ref q9, .ref q10, .ref q11, .ref q12, .ref q13])), (q1, .inl (cq1, 8, .inl (fun _ => 0))), (q2, .inl (cq2, 8, .inl (fun _ => 0))), (q3, .inl (cq3, 8, .inl (fun _ => 0))), (q4, .inl (cq4, 8, .inl (fun _ => 0))), (q5, .inl (cq5, 8, .inl (fun _ => 0))), (q6, .inl (cq6, 8, .inl (fun _ => 0))), (q7, .inl (cq7, 8, .inl (fun _ => 0))), (q8, .inl (cq8, 8, .inl (fun _ => 0))), (q9, .inl (cq9, 9, .inl (fun _ => 0))), (q10, .inl (cq10, 9, .inl (fun _ => 0))), (q11, .inl (cq11, 9, .inl (fun _ => 0))), (q12, .inl (cq12, 9, .inl (fun _ => 0))), (q13, .inl (cq13, 9, .inl (fun _ => 0)))] t.heap ∧ va_K (dC, dI) vwCl [(cq1, .int), (cq2, .int), (cq3, .int), (cq4, .int), (cq5, .int), (cq6, .int), (cq7, .int), (cq8, .int), (cq9, .int), (cq10, .int), (cq11, .int), (cq12, .int), (cq13, .int)] t ∧ va_D (va_A [(h0, .inr (6, [.int 0, .int 0, .int 0, .int 0, .null, .null, .null, .null, .null, .null, .null, .null, .null, .null, .null, .null, .null]))] sz) [(h0, .inr (6, [.int 0, .int 0, .int 0, .int 0, .ref q1, .ref q2, .ref q3, .ref q4, .ref q5, .ref q6, .ref q7, .ref q8, .ref q9, .ref q10, .ref q11, .ref q12, .ref q13])), (q1, .inl (cq1, 8, .inl (fun _ => 0))), (q2, .inl (cq2, 8, .inl (fun _ => 0))), (q3, .inl (cq3, 8, .inl (fun _ => 0))), (q4, .inl (cq4, 8, .inl (fun _ => 0))), (q5, .inl (cq5, 8, .inl (fun _ => 0))), (q6, .inl (cq6, 8, .inl (fun _ => 0))), (q7, .inl (cq7, 8, .inl (fun _ => 0))), (q8, .inl (cq8, 8, .inl (fun _ => 0))), (q9, .inl (cq9, 9, .inl (fun _ => 0))), (q10, .inl (cq10, 9, .inl (fun _ => 0))), (q11, .inl (cq11, 9, .inl (fun _ => 0))), (q12, .inl (cq12, 9, .inl (fun _ => 0))), (q13, .inl (cq13, 9, .inl (fun _ => 0)))]) (va_A [(h0, .inr (6, [.int 0, .int 0, .int 0, .int 0, .null, .null, .null, .null, .null, .null, .null, .null, .null, .null, .null, .null, .null]))] sz)) 13 109 (va_A [(h0, .inr (6, [.int 0, .int 0, .int 0, .int 0, .null, .null, .null, .null, .null, .null, .null, .null, .null, .null, .null, .null, .null]))] sz) := by
  refine Met.ofW (cc := cX6_init) (maxL := 1) (ret := none) (by decide) rfl ?_
  intro p e s m args below meth c s₁ B hml hv
  obtain ⟨rfl, hsz, hP, hK, hD0⟩ := hv
  have hx := B.exec
  have hb := B.bytes
  have hr := B.returns
  have hts0 := atoms_spec (ws := .code yX6_init cX6_init 1 none :: GW) B.pre
  have hts := fun w (h : w ∈ GW) => hts0 w (List.mem_cons_of_mem _ h)
  have hown : s.vm.findClass RX6 = some m.cls := findClass_of_methodNamed B.named
  have hlocks := B.notSynchronized
  have hin : meth.name = "<init>" := (name_of_methodNamed B.named B.method).1
  subst hsz
  have hD := hD0.self (sz := s.heap.size)
  generalize hAe : va_A [(h0, .inr (6, [.int 0, .int 0, .int 0, .int 0, .null, .null, .null, .null, .null, .null, .null, .null, .null, .null, .null, .null, .null]))] s.heap.size = A at hD ⊢
  have hA : ∀ q : Nat, s.heap.size ≤ q → A q := fun q h => by rw [← hAe]; exact Or.inr h
  have hS : va_S A s.heap s.heap [] := va_S.rf
  have hl := lv_entry ([.ref h0]) (n := 1) (Nat.le_of_ble_eq_true rfl)
  rw [lg_entry_eq]
  generalize (lg_sl ([.ref h0]) ++ List.replicate (1 - (lg_sl ([.ref h0])).length) Slot.unset).toArray = ls at hl ⊢
  have hl : lv_has ls 1 [(0, .ref h0)] := hl
  refine lv_aload_n hx hb dX6_init_0 rfl (lv_at hl 0 rfl) ?_
  refine W.objInit hx hb hown (hts _ mw_142) (hts _ mw_70) (hts _ mw_71) rfl (by rw [hml]; exact hl.1) rfl dX6_init_1 (Nat.le_of_ble_eq_true rfl) (Nat.le_of_ble_eq_true rfl) ?_
  refine W.eq (g2 := F0 m 4 ls []) rfl ?_
  refine lv_aload_n hx hb dX6_init_4 rfl (lv_at hl 0 rfl) ?_
  refine lv_iconst (v := 0) hx hb dX6_init_5 (by decide +kernel) ?_
  refine va_put (D := (dC, dI)) (ci := 6) (v := .int 0) (ty := .int) (C := RX6) (T := TX6) (N := 17) hx hb hts inX6 tyX6 tyX6_ok nmX6 hown hK hP hD hS 0 rfl rfl 0 (by decide) (hts _ mw_143) (fun _ h9 => h9) rfl (by decide +kernel) rfl rfl (Nat.le_of_ble_eq_true rfl) dX6_init_6 (fun H locs hP hD hS => ?_)
  have hP : va_P (dC, dI) vwCl [(h0, .inr (6, [.int 0, .int 0, .int 0, .int 0, .null, .null, .null, .null, .null, .null, .null, .null, .null, .null, .null, .null, .null]))] H := hP
  have hD : va_D A [(h0, .inr (6, [.int 0, .int 0, .int 0, .int 0, .null, .null, .null, .null, .null, .null, .null, .null, .null, .null, .null, .null, .null]))] := hD
  refine lv_aload_n hx hb dX6_init_9 rfl (lv_at hl 0 rfl) ?_
  refine lv_iconst (v := 0) hx hb dX6_init_10 (by decide +kernel) ?_
  refine va_put (D := (dC, dI)) (ci := 6) (v := .int 0) (ty := .boolean) (C := RX6) (T := TX6) (N := 17) hx hb hts inX6 tyX6 tyX6_ok nmX6 hown hK hP hD hS 0 rfl rfl 1 (by decide) (hts _ mw_145) (fun _ h9 => h9) rfl (by decide +kernel) rfl rfl (Nat.le_of_ble_eq_true rfl) dX6_init_11 (fun H locs hP hD hS => ?_)
  have hP : va_P (dC, dI) vwCl [(h0, .inr (6, [.int 0, .int 0, .int 0, .int 0, .null, .null, .null, .null, .null, .null, .null, .null, .null, .null, .null, .null, .null]))] H := hP
  have hD : va_D A [(h0, .inr (6, [.int 0, .int 0, .int 0, .int 0, .null, .null, .null, .null, .null, .null, .null, .null, .null, .null, .null, .null, .null]))] := hD
  refine lv_aload_n hx hb dX6_init_14 rfl (lv_at hl 0 rfl) ?_
  refine lv_iconst (v := 0) hx hb dX6_init_15 (by decide +kernel) ?_
  refine va_put (D := (dC, dI)) (ci := 6) (v := .int 0) (ty := .int) (C := RX6) (T := TX6) (N := 17) hx hb hts inX6 tyX6 tyX6_ok nmX6 hown hK hP hD hS 0 rfl rfl 2 (by decide) (hts _ mw_146) (fun _ h9 => h9) rfl (by decide +kernel) rfl rfl (Nat.le_of_ble_eq_true rfl) dX6_init_16 (fun H locs hP hD hS => ?_)
  have hP : va_P (dC, dI) vwCl [(h0, .inr (6, [.int 0, .int 0, .int 0, .int 0, .null, .null, .null, .null, .null, .null, .null, .null, .null, .null, .null, .null, .null]))] H := hP
  have hD : va_D A [(h0, .inr (6, [.int 0, .int 0, .int 0, .int 0, .null, .null, .null, .null, .null, .null, .null, .null, .null, .null, .null, .null, .null]))] := hD
  refine lv_aload_n hx hb dX6_init_19 rfl (lv_at hl 0 rfl) ?_
  refine lv_iconst (v := 0) hx hb dX6_init_20 (by decide +kernel) ?_
  refine va_put (D := (dC, dI)) (ci := 6) (v := .int 0) (ty := .int) (C := RX6) (T := TX6) (N := 17) hx hb hts inX6 tyX6 tyX6_ok nmX6 hown hK hP hD hS 0 rfl rfl 3 (by decide) (hts _ mw_147) (fun _ h9 => h9) rfl (by decide +kernel) rfl rfl (Nat.le_of_ble_eq_true rfl) dX6_init_21 (fun H locs hP hD hS => ?_)
  have hP : va_P (dC, dI) vwCl [(h0, .inr (6, [.int 0, .int 0, .int 0, .int 0, .null, .null, .null, .null, .null, .null, .null, .null, .null, .null, .null, .null, .null]))] H := hP
  have hD : va_D A [(h0, .inr (6, [.int 0, .int 0, .int 0, .int 0, .null, .null, .null, .null, .null, .null, .null, .null, .null, .null, .null, .null, .null]))] := hD
  refine lv_aload_n hx hb dX6_init_24 rfl (lv_at hl 0 rfl) ?_
  refine lv_bipush (v := 8) hx hb dX6_init_25 (by decide +kernel) ?_
  refine va_newa (atype := .int) (ty := .int) (a0 := (8, .inl (fun _ => 0))) hx hb (hts _ mw_110) rfl hK hP hD hS hA (za_int 8) (by decide +kernel) (by decide +kernel) (by decide +kernel) (Nat.le_of_ble_eq_true rfl) (Nat.le_of_ble_eq_true rfl) dX6_init_27 (fun q1 cq1 H hK hP hD hS => ?_)
  refine W.widen (k := 1) (n := 8) (Nat.le_of_ble_eq_true rfl) (Nat.le_of_ble_eq_true rfl) ?_
  have hP : va_P (dC, dI) vwCl [(h0, .inr (6, [.int 0, .int 0, .int 0, .int 0, .null, .null, .null, .null, .null, .null, .null, .null, .null, .null, .null, .null, .null])), (q1, .inl (cq1, 8, .inl (fun _ => 0)))] H := hP
  have hD : va_D A [(h0, .inr (6, [.int 0, .int 0, .int 0, .int 0, .null, .null, .null, .null, .null, .null, .null, .null, .null, .null, .null, .null, .null])), (q1, .inl (cq1, 8, .inl (fun _ => 0)))] := hD
  have hK : va_K (dC, dI) vwCl [(cq1, .int)] s := hK
  refine va_putF (D := (dC, dI)) (ci := 6) (v := .ref q1) (ty := (.array .int)) (C := RX6) (T := TX6) (N := 17) hx hb hts inX6 tyX6 tyX6_ok nmX6 hown hK hP hD hS 0 rfl rfl 4 (by decide) (hts _ mw_148) (fun _ h9 => h9) rfl hin rfl (by decide +kernel) rfl rfl (Nat.le_of_ble_eq_true rfl) dX6_init_29 (fun H locs hP hD hS => ?_)
  have hP : va_P (dC, dI) vwCl [(h0, .inr (6, [.int 0, .int 0, .int 0, .int 0, .ref q1, .null, .null, .null, .null, .null, .null, .null, .null, .null, .null, .null, .null])), (q1, .inl (cq1, 8, .inl (fun _ => 0)))] H := hP
  have hD : va_D A [(h0, .inr (6, [.int 0, .int 0, .int 0, .int 0, .ref q1, .null, .null, .null, .null, .null, .null, .null, .null, .null, .null, .null, .null])), (q1, .inl (cq1, 8, .inl (fun _ => 0)))] := hD
  refine lv_aload_n hx hb dX6_init_32 rfl (lv_at hl 0 rfl) ?_
  refine lv_bipush (v := 8) hx hb dX6_init_33 (by decide +kernel) ?_
  refine va_newa (atype := .int) (ty := .int) (a0 := (8, .inl (fun _ => 0))) hx hb (hts _ mw_110) rfl hK hP hD hS hA (za_int 8) (by decide +kernel) (by decide +kernel) (by decide +kernel) (Nat.le_of_ble_eq_true rfl) (Nat.le_of_ble_eq_true rfl) dX6_init_35 (fun q2 cq2 H hK hP hD hS => ?_)
  refine W.widen (k := 2) (n := 16) (Nat.le_of_ble_eq_true rfl) (Nat.le_of_ble_eq_true rfl) ?_
  have hP : va_P (dC, dI) vwCl [(h0, .inr (6, [.int 0, .int 0, .int 0, .int 0, .ref q1, .null, .null, .null, .null, .null, .null, .null, .null, .null, .null, .null, .null])), (q1, .inl (cq1, 8, .inl (fun _ => 0))), (q2, .inl (cq2, 8, .inl (fun _ => 0)))] H := hP
  have hD : va_D A [(h0, .inr (6, [.int 0, .int 0, .int 0, .int 0, .ref q1, .null, .null, .null, .null, .null, .null, .null, .null, .null, .null, .null, .null])), (q1, .inl (cq1, 8, .inl (fun _ => 0))), (q2, .inl (cq2, 8, .inl (fun _ => 0)))] := hD
  have hK : va_K (dC, dI) vwCl [(cq1, .int), (cq2, .int)] s := hK
  refine va_putF (D := (dC, dI)) (ci := 6) (v := .ref q2) (ty := (.array .int)) (C := RX6) (T := TX6) (N := 17) hx hb hts inX6 tyX6 tyX6_ok nmX6 hown hK hP hD hS 0 rfl rfl 5 (by decide) (hts _ mw_149) (fun _ h9 => h9) rfl hin rfl (by decide +kernel) rfl rfl (Nat.le_of_ble_eq_true rfl) dX6_init_37 (fun H locs hP hD hS => ?_)
  have hP : va_P (dC, dI) vwCl [(h0, .inr (6, [.int 0, .int 0, .int 0, .int 0, .ref q1, .ref q2, .null, .null, .null, .null, .null, .null, .null, .null, .null, .null, .null])), (q1, .inl (cq1, 8, .inl (fun _ => 0))), (q2, .inl (cq2, 8, .inl (fun _ => 0)))] H := hP
  have hD : va_D A [(h0, .inr (6, [.int 0, .int 0, .int 0, .int 0, .ref q1, .ref q2, .null, .null, .null, .null, .null, .null, .null, .null, .null, .null, .null])), (q1, .inl (cq1, 8, .inl (fun _ => 0))), (q2, .inl (cq2, 8, .inl (fun _ => 0)))] := hD
  refine lv_aload_n hx hb dX6_init_40 rfl (lv_at hl 0 rfl) ?_
  refine lv_bipush (v := 8) hx hb dX6_init_41 (by decide +kernel) ?_
  refine va_newa (atype := .int) (ty := .int) (a0 := (8, .inl (fun _ => 0))) hx hb (hts _ mw_110) rfl hK hP hD hS hA (za_int 8) (by decide +kernel) (by decide +kernel) (by decide +kernel) (Nat.le_of_ble_eq_true rfl) (Nat.le_of_ble_eq_true rfl) dX6_init_43 (fun q3 cq3 H hK hP hD hS => ?_)
  refine W.widen (k := 3) (n := 24) (Nat.le_of_ble_eq_true rfl) (Nat.le_of_ble_eq_true rfl) ?_
  have hP : va_P (dC, dI) vwCl [(h0, .inr (6, [.int 0, .int 0, .int 0, .int 0, .ref q1, .ref q2, .null, .null, .null, .null, .null, .null, .null, .null, .null, .null, .null])), (q1, .inl (cq1, 8, .inl (fun _ => 0))), (q2, .inl (cq2, 8, .inl (fun _ => 0))), (q3, .inl (cq3, 8, .inl (fun _ => 0)))] H := hP
  have hD : va_D A [(h0, .inr (6, [.int 0, .int 0, .int 0, .int 0, .ref q1, .ref q2, .null, .null, .null, .null, .null, .null, .null, .null, .null, .null, .null])), (q1, .inl (cq1, 8, .inl (fun _ => 0))), (q2, .inl (cq2, 8, .inl (fun _ => 0))), (q3, .inl (cq3, 8, .inl (fun _ => 0)))] := hD
  have hK : va_K (dC, dI) vwCl [(cq1, .int), (cq2, .int), (cq3, .int)] s := hK
  refine va_putF (D := (dC, dI)) (ci := 6) (v := .ref q3) (ty := (.array .int)) (C := RX6) (T := TX6) (N := 17) hx hb hts inX6 tyX6 tyX6_ok nmX6 hown hK hP hD hS 0 rfl rfl 6 (by decide) (hts _ mw_150) (fun _ h9 => h9) rfl hin rfl (by decide +kernel) rfl rfl (Nat.le_of_ble_eq_true rfl) dX6_init_45 (fun H locs hP hD hS => ?_)
  have hP : va_P (dC, dI) vwCl [(h0, .inr (6, [.int 0, .int 0, .int 0, .int 0, .ref q1, .ref q2, .ref q3, .null, .null, .null, .null, .null, .null, .null, .null, .null, .null])), (q1, .inl (cq1, 8, .inl (fun _ => 0))), (q2, .inl (cq2, 8, .inl (fun _ => 0))), (q3, .inl (cq3, 8, .inl (fun _ => 0)))] H := hP
  have hD : va_D A [(h0, .inr (6, [.int 0, .int 0, .int 0, .int 0, .ref q1, .ref q2, .ref q3, .null, .null, .null, .null, .null, .null, .null, .null, .null, .null])), (q1, .inl (cq1, 8, .inl (fun _ => 0))), (q2, .inl (cq2, 8, .inl (fun _ => 0))), (q3, .inl (cq3, 8, .inl (fun _ => 0)))] := hD
  refine lv_aload_n hx hb dX6_init_48 rfl (lv_at hl 0 rfl) ?_
  refine lv_bipush (v := 8) hx hb dX6_init_49 (by decide +kernel) ?_
  refine va_newa (atype := .int) (ty := .int) (a0 := (8, .inl (fun _ => 0))) hx hb (hts _ mw_110) rfl hK hP hD hS hA (za_int 8) (by decide +kernel) (by decide +kernel) (by decide +kernel) (Nat.le_of_ble_eq_true rfl) (Nat.le_of_ble_eq_true rfl) dX6_init_51 (fun q4 cq4 H hK hP hD hS => ?_)
  refine W.widen (k := 4) (n := 32) (Nat.le_of_ble_eq_true rfl) (Nat.le_of_ble_eq_true rfl) ?_
  have hP : va_P (dC, dI) vwCl [(h0, .inr (6, [.int 0, .int 0, .int 0, .int 0, .ref q1, .ref q2, .ref q3, .null, .null, .null, .null, .null, .null, .null, .null, .null, .null])), (q1, .inl (cq1, 8, .inl (fun _ => 0))), (q2, .inl (cq2, 8, .inl (fun _ => 0))), (q3, .inl (cq3, 8, .inl (fun _ => 0))), (q4, .inl (cq4, 8, .inl (fun _ => 0)))] H := hP
  have hD : va_D A [(h0, .inr (6, [.int 0, .int 0, .int 0, .int 0, .ref q1, .ref q2, .ref q3, .null, .null, .null, .null, .null, .null, .null, .null, .null, .null])), (q1, .inl (cq1, 8, .inl (fun _ => 0))), (q2, .inl (cq2, 8, .inl (fun _ => 0))), (q3, .inl (cq3, 8, .inl (fun _ => 0))), (q4, .inl (cq4, 8, .inl (fun _ => 0)))] := hD
  have hK : va_K (dC, dI) vwCl [(cq1, .int), (cq2, .int), (cq3, .int), (cq4, .int)] s := hK
  refine va_putF (D := (dC, dI)) (ci := 6) (v := .ref q4) (ty := (.array .int)) (C := RX6) (T := TX6) (N := 17) hx hb hts inX6 tyX6 tyX6_ok nmX6 hown hK hP hD hS 0 rfl rfl 7 (by decide) (hts _ mw_151) (fun _ h9 => h9) rfl hin rfl (by decide +kernel) rfl rfl (Nat.le_of_ble_eq_true rfl) dX6_init_53 (fun H locs hP hD hS => ?_)
  have hP : va_P (dC, dI) vwCl [(h0, .inr (6, [.int 0, .int 0, .int 0, .int 0, .ref q1, .ref q2, .ref q3, .ref q4, .null, .null, .null, .null, .null, .null, .null, .null, .null])), (q1, .inl (cq1, 8, .inl (fun _ => 0))), (q2, .inl (cq2, 8, .inl (fun _ => 0))), (q3, .inl (cq3, 8, .inl (fun _ => 0))), (q4, .inl (cq4, 8, .inl (fun _ => 0)))] H := hP
  have hD : va_D A [(h0, .inr (6, [.int 0, .int 0, .int 0, .int 0, .ref q1, .ref q2, .ref q3, .ref q4, .null, .null, .null, .null, .null, .null, .null, .null, .null])), (q1, .inl (cq1, 8, .inl (fun _ => 0))), (q2, .inl (cq2, 8, .inl (fun _ => 0))), (q3, .inl (cq3, 8, .inl (fun _ => 0))), (q4, .inl (cq4, 8, .inl (fun _ => 0)))] := hD
  refine lv_aload_n hx hb dX6_init_56 rfl (lv_at hl 0 rfl) ?_
  refine lv_bipush (v := 8) hx hb dX6_init_57 (by decide +kernel) ?_
  refine va_newa (atype := .int) (ty := .int) (a0 := (8, .inl (fun _ => 0))) hx hb (hts _ mw_110) rfl hK hP hD hS hA (za_int 8) (by decide +kernel) (by decide +kernel) (by decide +kernel) (Nat.le_of_ble_eq_true rfl) (Nat.le_of_ble_eq_true rfl) dX6_init_59 (fun q5 cq5 H hK hP hD hS => ?_)
  refine W.widen (k := 5) (n := 40) (Nat.le_of_ble_eq_true rfl) (Nat.le_of_ble_eq_true rfl) ?_
  have hP : va_P (dC, dI) vwCl [(h0, .inr (6, [.int 0, .int 0, .int 0, .int 0, .ref q1, .ref q2, .ref q3, .ref q4, .null, .null, .null, .null, .null, .null, .null, .null, .null])), (q1, .inl (cq1, 8, .inl (fun _ => 0))), (q2, .inl (cq2, 8, .inl (fun _ => 0))), (q3, .inl (cq3, 8, .inl (fun _ => 0))), (q4, .inl (cq4, 8, .inl (fun _ => 0))), (q5, .inl (cq5, 8, .inl (fun _ => 0)))] H := hP
  have hD : va_D A [(h0, .inr (6, [.int 0, .int 0, .int 0, .int 0, .ref q1, .ref q2, .ref q3, .ref q4, .null, .null, .null, .null, .null, .null, .null, .null, .null])), (q1, .inl (cq1, 8, .inl (fun _ => 0))), (q2, .inl (cq2, 8, .inl (fun _ => 0))), (q3, .inl (cq3, 8, .inl (fun _ => 0))), (q4, .inl (cq4, 8, .inl (fun _ => 0))), (q5, .inl (cq5, 8, .inl (fun _ => 0)))] := hD
  have hK : va_K (dC, dI) vwCl [(cq1, .int), (cq2, .int), (cq3, .int), (cq4, .int), (cq5, .int)] s := hK
  refine va_putF (D := (dC, dI)) (ci := 6) (v := .ref q5) (ty := (.array .int)) (C := RX6) (T := TX6) (N := 17) hx hb hts inX6 tyX6 tyX6_ok nmX6 hown hK hP hD hS 0 rfl rfl 8 (by decide) (hts _ mw_152) (fun _ h9 => h9) rfl hin rfl (by decide +kernel) rfl rfl (Nat.le_of_ble_eq_true rfl) dX6_init_61 (fun H locs hP hD hS => ?_)
  have hP : va_P (dC, dI) vwCl [(h0, .inr (6, [.int 0, .int 0, .int 0, .int 0, .ref q1, .ref q2, .ref q3, .ref q4, .ref q5, .null, .null, .null, .null, .null, .null, .null, .null])), (q1, .inl (cq1, 8, .inl (fun _ => 0))), (q2, .inl (cq2, 8, .inl (fun _ => 0))), (q3, .inl (cq3, 8, .inl (fun _ => 0))), (q4, .inl (cq4, 8, .inl (fun _ => 0))), (q5, .inl (cq5, 8, .inl (fun _ => 0)))] H := hP
  have hD : va_D A [(h0, .inr (6, [.int 0, .int 0, .int 0, .int 0, .ref q1, .ref q2, .ref q3, .ref q4, .ref q5, .null, .null, .null, .null, .null, .null, .null, .null])), (q1, .inl (cq1, 8, .inl (fun _ => 0))), (q2, .inl (cq2, 8, .inl (fun _ => 0))), (q3, .inl (cq3, 8, .inl (fun _ => 0))), (q4, .inl (cq4, 8, .inl (fun _ => 0))), (q5, .inl (cq5, 8, .inl (fun _ => 0)))] := hD
  refine lv_aload_n hx hb dX6_init_64 rfl (lv_at hl 0 rfl) ?_
  refine lv_bipush (v := 8) hx hb dX6_init_65 (by decide +kernel) ?_
  refine va_newa (atype := .int) (ty := .int) (a0 := (8, .inl (fun _ => 0))) hx hb (hts _ mw_110) rfl hK hP hD hS hA (za_int 8) (by decide +kernel) (by decide +kernel) (by decide +kernel) (Nat.le_of_ble_eq_true rfl) (Nat.le_of_ble_eq_true rfl) dX6_init_67 (fun q6 cq6 H hK hP hD hS => ?_)
  refine W.widen (k := 6) (n := 48) (Nat.le_of_ble_eq_true rfl) (Nat.le_of_ble_eq_true rfl) ?_
  have hP : va_P (dC, dI) vwCl [(h0, .inr (6, [.int 0, .int 0, .int 0, .int 0, .ref q1, .ref q2, .ref q3, .ref q4, .ref q5, .null, .null, .null, .null, .null, .null, .null, .null])), (q1, .inl (cq1, 8, .inl (fun _ => 0))), (q2, .inl (cq2, 8, .inl (fun _ => 0))), (q3, .inl (cq3, 8, .inl (fun _ => 0))), (q4, .inl (cq4, 8, .inl (fun _ => 0))), (q5, .inl (cq5, 8, .inl (fun _ => 0))), (q6, .inl (cq6, 8, .inl (fun _ => 0)))] H := hP
  have hD : va_D A [(h0, .inr (6, [.int 0, .int 0, .int 0, .int 0, .ref q1, .ref q2, .ref q3, .ref q4, .ref q5, .null, .null, .null, .null, .null, .null, .null, .null])), (q1, .inl (cq1, 8, .inl (fun _ => 0))), (q2, .inl (cq2, 8, .inl (fun _ => 0))), (q3, .inl (cq3, 8, .inl (fun _ => 0))), (q4, .inl (cq4, 8, .inl (fun _ => 0))), (q5, .inl (cq5, 8, .inl (fun _ => 0))), (q6, .inl (cq6, 8, .inl (fun _ => 0)))] := hD
  have hK : va_K (dC, dI) vwCl [(cq1, .int), (cq2, .int), (cq3, .int), (cq4, .int), (cq5, .int), (cq6, .int)] s := hK
  refine va_putF (D := (dC, dI)) (ci := 6) (v := .ref q6) (ty := (.array .int)) (C := RX6) (T := TX6) (N := 17) hx hb hts inX6 tyX6 tyX6_ok nmX6 hown hK hP hD hS 0 rfl rfl 9 (by decide) (hts _ mw_153) (fun _ h9 => h9) rfl hin rfl (by decide +kernel) rfl rfl (Nat.le_of_ble_eq_true rfl) dX6_init_69 (fun H locs hP hD hS => ?_)
  have hP : va_P (dC, dI) vwCl [(h0, .inr (6, [.int 0, .int 0, .int 0, .int 0, .ref q1, .ref q2, .ref q3, .ref q4, .ref q5, .ref q6, .null, .null, .null, .null, .null, .null, .null])), (q1, .inl (cq1, 8, .inl (fun _ => 0))), (q2, .inl (cq2, 8, .inl (fun _ => 0))), (q3, .inl (cq3, 8, .inl (fun _ => 0))), (q4, .inl (cq4, 8, .inl (fun _ => 0))), (q5, .inl (cq5, 8, .inl (fun _ => 0))), (q6, .inl (cq6, 8, .inl (fun _ => 0)))] H := hP
  have hD : va_D A [(h0, .inr (6, [.int 0, .int 0, .int 0, .int 0, .ref q1, .ref q2, .ref q3, .ref q4, .ref q5, .ref q6, .null, .null, .null, .null, .null, .null, .null])), (q1, .inl (cq1, 8, .inl (fun _ => 0))), (q2, .inl (cq2, 8, .inl (fun _ => 0))), (q3, .inl (cq3, 8, .inl (fun _ => 0))), (q4, .inl (cq4, 8, .inl (fun _ => 0))), (q5, .inl (cq5, 8, .inl (fun _ => 0))), (q6, .inl (cq6, 8, .inl (fun _ => 0)))] := hD
  refine lv_aload_n hx hb dX6_init_72 rfl (lv_at hl 0 rfl) ?_
  refine lv_bipush (v := 8) hx hb dX6_init_73 (by decide +kernel) ?_
  refine va_newa (atype := .int) (ty := .int) (a0 := (8, .inl (fun _ => 0))) hx hb (hts _ mw_110) rfl hK hP hD hS hA (za_int 8) (by decide +kernel) (by decide +kernel) (by decide +kernel) (Nat.le_of_ble_eq_true rfl) (Nat.le_of_ble_eq_true rfl) dX6_init_75 (fun q7 cq7 H hK hP hD hS => ?_)
  refine W.widen (k := 7) (n := 56) (Nat.le_of_ble_eq_true rfl) (Nat.le_of_ble_eq_true rfl) ?_
  have hP : va_P (dC, dI) vwCl [(h0, .inr (6, [.int 0, .int 0, .int 0, .int 0, .ref q1, .ref q2, .ref q3, .ref q4, .ref q5, .ref q6, .null, .null, .null, .null, .null, .null, .null])), (q1, .inl (cq1, 8, .inl (fun _ => 0))), (q2, .inl (cq2, 8, .inl (fun _ => 0))), (q3, .inl (cq3, 8, .inl (fun _ => 0))), (q4, .inl (cq4, 8, .inl (fun _ => 0))), (q5, .inl (cq5, 8, .inl (fun _ => 0))), (q6, .inl (cq6, 8, .inl (fun _ => 0))), (q7, .inl (cq7, 8, .inl (fun _ => 0)))] H := hP
  have hD : va_D A [(h0, .inr (6, [.int 0, .int 0, .int 0, .int 0, .ref q1, .ref q2, .ref q3, .ref q4, .ref q5, .ref q6, .null, .null, .null, .null, .null, .null, .null])), (q1, .inl (cq1, 8, .inl (fun _ => 0))), (q2, .inl (cq2, 8, .inl (fun _ => 0))), (q3, .inl (cq3, 8, .inl (fun _ => 0))), (q4, .inl (cq4, 8, .inl (fun _ => 0))), (q5, .inl (cq5, 8, .inl (fun _ => 0))), (q6, .inl (cq6, 8, .inl (fun _ => 0))), (q7, .inl (cq7, 8, .inl (fun _ => 0)))] := hD
  have hK : va_K (dC, dI) vwCl [(cq1, .int), (cq2, .int), (cq3, .int), (cq4, .int), (cq5, .int), (cq6, .int), (cq7, .int)] s := hK
  refine va_putF (D := (dC, dI)) (ci := 6) (v := .ref q7) (ty := (.array .int)) (C := RX6) (T := TX6) (N := 17) hx hb hts inX6 tyX6 tyX6_ok nmX6 hown hK hP hD hS 0 rfl rfl 10 (by decide) (hts _ mw_154) (fun _ h9 => h9) rfl hin rfl (by decide +kernel) rfl rfl (Nat.le_of_ble_eq_true rfl) dX6_init_77 (fun H locs hP hD hS => ?_)
  have hP : va_P (dC, dI) vwCl [(h0, .inr (6, [.int 0, .int 0, .int 0, .int 0, .ref q1, .ref q2, .ref q3, .ref q4, .ref q5, .ref q6, .ref q7, .null, .null, .null, .null, .null, .null])), (q1, .inl (cq1, 8, .inl (fun _ => 0))), (q2, .inl (cq2, 8, .inl (fun _ => 0))), (q3, .inl (cq3, 8, .inl (fun _ => 0))), (q4, .inl (cq4, 8, .inl (fun _ => 0))), (q5, .inl (cq5, 8, .inl (fun _ => 0))), (q6, .inl (cq6, 8, .inl (fun _ => 0))), (q7, .inl (cq7, 8, .inl (fun _ => 0)))] H := hP
  have hD : va_D A [(h0, .inr (6, [.int 0, .int 0, .int 0, .int 0, .ref q1, .ref q2, .ref q3, .ref q4, .ref q5, .ref q6, .ref q7, .null, .null, .null, .null, .null, .null])), (q1, .inl (cq1, 8, .inl (fun _ => 0))), (q2, .inl (cq2, 8, .inl (fun _ => 0))), (q3, .inl (cq3, 8, .inl (fun _ => 0))), (q4, .inl (cq4, 8, .inl (fun _ => 0))), (q5, .inl (cq5, 8, .inl (fun _ => 0))), (q6, .inl (cq6, 8, .inl (fun _ => 0))), (q7, .inl (cq7, 8, .inl (fun _ => 0)))] := hD
  refine lv_aload_n hx hb dX6_init_80 rfl (lv_at hl 0 rfl) ?_
  refine lv_bipush (v := 8) hx hb dX6_init_81 (by decide +kernel) ?_
  refine va_newa (atype := .int) (ty := .int) (a0 := (8, .inl (fun _ => 0))) hx hb (hts _ mw_110) rfl hK hP hD hS hA (za_int 8) (by decide +kernel) (by decide +kernel) (by decide +kernel) (Nat.le_of_ble_eq_true rfl) (Nat.le_of_ble_eq_true rfl) dX6_init_83 (fun q8 cq8 H hK hP hD hS => ?_)
  refine W.widen (k := 8) (n := 64) (Nat.le_of_ble_eq_true rfl) (Nat.le_of_ble_eq_true rfl) ?_
  have hP : va_P (dC, dI) vwCl [(h0, .inr (6, [.int 0, .int 0, .int 0, .int 0, .ref q1, .ref q2, .ref q3, .ref q4, .ref q5, .ref q6, .ref q7, .null, .null, .null, .null, .null, .null])), (q1, .inl (cq1, 8, .inl (fun _ => 0))), (q2, .inl (cq2, 8, .inl (fun _ => 0))), (q3, .inl (cq3, 8, .inl (fun _ => 0))), (q4, .inl (cq4, 8, .inl (fun _ => 0))), (q5, .inl (cq5, 8, .inl (fun _ => 0))), (q6, .inl (cq6, 8, .inl (fun _ => 0))), (q7, .inl (cq7, 8, .inl (fun _ => 0))), (q8, .inl (cq8, 8, .inl (fun _ => 0)))] H := hP
  have hD : va_D A [(h0, .inr (6, [.int 0, .int 0, .int 0, .int 0, .ref q1, .ref q2, .ref q3, .ref q4, .ref q5, .ref q6, .ref q7, .null, .null, .null, .null, .null, .null])), (q1, .inl (cq1, 8, .inl (fun _ => 0))), (q2, .inl (cq2, 8, .inl (fun _ => 0))), (q3, .inl (cq3, 8, .inl (fun _ => 0))), (q4, .inl (cq4, 8, .inl (fun _ => 0))), (q5, .inl (cq5, 8, .inl (fun _ => 0))), (q6, .inl (cq6, 8, .inl (fun _ => 0))), (q7, .inl (cq7, 8, .inl (fun _ => 0))), (q8, .inl (cq8, 8, .inl (fun _ => 0)))] := hD
  have hK : va_K (dC, dI) vwCl [(cq1, .int), (cq2, .int), (cq3, .int), (cq4, .int), (cq5, .int), (cq6, .int), (cq7, .int), (cq8, .int)] s := hK
  refine va_putF (D := (dC, dI)) (ci := 6) (v := .ref q8) (ty := (.array .int)) (C := RX6) (T := TX6) (N := 17) hx hb hts inX6 tyX6 tyX6_ok nmX6 hown hK hP hD hS 0 rfl rfl 11 (by decide) (hts _ mw_155) (fun _ h9 => h9) rfl hin rfl (by decide +kernel) rfl rfl (Nat.le_of_ble_eq_true rfl) dX6_init_85 (fun H locs hP hD hS => ?_)
  have hP : va_P (dC, dI) vwCl [(h0, .inr (6, [.int 0, .int 0, .int 0, .int 0, .ref q1, .ref q2, .ref q3, .ref q4, .ref q5, .ref q6, .ref q7, .ref q8, .null, .null, .null, .null, .null])), (q1, .inl (cq1, 8, .inl (fun _ => 0))), (q2, .inl (cq2, 8, .inl (fun _ => 0))), (q3, .inl (cq3, 8, .inl (fun _ => 0))), (q4, .inl (cq4, 8, .inl (fun _ => 0))), (q5, .inl (cq5, 8, .inl (fun _ => 0))), (q6, .inl (cq6, 8, .inl (fun _ => 0))), (q7, .inl (cq7, 8, .inl (fun _ => 0))), (q8, .inl (cq8, 8, .inl (fun _ => 0)))] H := hP
  have hD : va_D A [(h0, .inr (6, [.int 0, .int 0, .int 0, .int 0, .ref q1, .ref q2, .ref q3, .ref q4, .ref q5, .ref q6, .ref q7, .ref q8, .null, .null, .null, .null, .null])), (q1, .inl (cq1, 8, .inl (fun _ => 0))), (q2, .inl (cq2, 8, .inl (fun _ => 0))), (q3, .inl (cq3, 8, .inl (fun _ => 0))), (q4, .inl (cq4, 8, .inl (fun _ => 0))), (q5, .inl (cq5, 8, .inl (fun _ => 0))), (q6, .inl (cq6, 8, .inl (fun _ => 0))), (q7, .inl (cq7, 8, .inl (fun _ => 0))), (q8, .inl (cq8, 8, .inl (fun _ => 0)))] := hD
  refine lv_aload_n hx hb dX6_init_88 rfl (lv_at hl 0 rfl) ?_
  refine lv_bipush (v := 9) hx hb dX6_init_89 (by decide +kernel) ?_
  refine va_newa (atype := .int) (ty := .int) (a0 := (9, .inl (fun _ => 0))) hx hb (hts _ mw_110) rfl hK hP hD hS hA (za_int 9) (by decide +kernel) (by decide +kernel) (by decide +kernel) (Nat.le_of_ble_eq_true rfl) (Nat.le_of_ble_eq_true rfl) dX6_init_91 (fun q9 cq9 H hK hP hD hS => ?_)
  refine W.widen (k := 9) (n := 73) (Nat.le_of_ble_eq_true rfl) (Nat.le_of_ble_eq_true rfl) ?_
  have hP : va_P (dC, dI) vwCl [(h0, .inr (6, [.int 0, .int 0, .int 0, .int 0, .ref q1, .ref q2, .ref q3, .ref q4, .ref q5, .ref q6, .ref q7, .ref q8, .null, .null, .null, .null, .null])), (q1, .inl (cq1, 8, .inl (fun _ => 0))), (q2, .inl (cq2, 8, .inl (fun _ => 0))), (q3, .inl (cq3, 8, .inl (fun _ => 0))), (q4, .inl (cq4, 8, .inl (fun _ => 0))), (q5, .inl (cq5, 8, .inl (fun _ => 0))), (q6, .inl (cq6, 8, .inl (fun _ => 0))), (q7, .inl (cq7, 8, .inl (fun _ => 0))), (q8, .inl (cq8, 8, .inl (fun _ => 0))), (q9, .inl (cq9, 9, .inl (fun _ => 0)))] H := hP
  have hD : va_D A [(h0, .inr (6, [.int 0, .int 0, .int 0, .int 0, .ref q1, .ref q2, .ref q3, .ref q4, .ref q5, .ref q6, .ref q7, .ref q8, .null, .null, .null, .null, .null])), (q1, .inl (cq1, 8, .inl (fun _ => 0))), (q2, .inl (cq2, 8, .inl (fun _ => 0))), (q3, .inl (cq3, 8, .inl (fun _ => 0))), (q4, .inl (cq4, 8, .inl (fun _ => 0))), (q5, .inl (cq5, 8, .inl (fun _ => 0))), (q6, .inl (cq6, 8, .inl (fun _ => 0))), (q7, .inl (cq7, 8, .inl (fun _ => 0))), (q8, .inl (cq8, 8, .inl (fun _ => 0))), (q9, .inl (cq9, 9, .inl (fun _ => 0)))] := hD
  have hK : va_K (dC, dI) vwCl [(cq1, .int), (cq2, .int), (cq3, .int), (cq4, .int), (cq5, .int), (cq6, .int), (cq7, .int), (cq8, .int), (cq9, .int)] s := hK
  refine va_putF (D := (dC, dI)) (ci := 6) (v := .ref q9) (ty := (.array .int)) (C := RX6) (T := TX6) (N := 17) hx hb hts inX6 tyX6 tyX6_ok nmX6 hown hK hP hD hS 0 rfl rfl 12 (by decide) (hts _ mw_156) (fun _ h9 => h9) rfl hin rfl (by decide +kernel) rfl rfl (Nat.le_of_ble_eq_true rfl) dX6_init_93 (fun H locs hP hD hS => ?_)
  have hP : va_P (dC, dI) vwCl [(h0, .inr (6, [.int 0, .int 0, .int 0, .int 0, .ref q1, .ref q2, .ref q3, .ref q4, .ref q5, .ref q6, .ref q7, .ref q8, .ref q9, .null, .null, .null, .null])), (q1, .inl (cq1, 8, .inl (fun _ => 0))), (q2, .inl (cq2, 8, .inl (fun _ => 0))), (q3, .inl (cq3, 8, .inl (fun _ => 0))), (q4, .inl (cq4, 8, .inl (fun _ => 0))), (q5, .inl (cq5, 8, .inl (fun _ => 0))), (q6, .inl (cq6, 8, .inl (fun _ => 0))), (q7, .inl (cq7, 8, .inl (fun _ => 0))), (q8, .inl (cq8, 8, .inl (fun _ => 0))), (q9, .inl (cq9, 9, .inl (fun _ => 0)))] H := hP
  have hD : va_D A [(h0, .inr (6, [.int 0, .int 0, .int 0, .int 0, .ref q1, .ref q2, .ref q3, .ref q4, .ref q5, .ref q6, .ref q7, .ref q8, .ref q9, .null, .null, .null, .null])), (q1, .inl (cq1, 8, .inl (fun _ => 0))), (q2, .inl (cq2, 8, .inl (fun _ => 0))), (q3, .inl (cq3, 8, .inl (fun _ => 0))), (q4, .inl (cq4, 8, .inl (fun _ => 0))), (q5, .inl (cq5, 8, .inl (fun _ => 0))), (q6, .inl (cq6, 8, .inl (fun _ => 0))), (q7, .inl (cq7, 8, .inl (fun _ => 0))), (q8, .inl (cq8, 8, .inl (fun _ => 0))), (q9, .inl (cq9, 9, .inl (fun _ => 0)))] := hD
  refine lv_aload_n hx hb dX6_init_96 rfl (lv_at hl 0 rfl) ?_
  refine lv_bipush (v := 9) hx hb dX6_init_97 (by decide +kernel) ?_
  refine va_newa (atype := .int) (ty := .int) (a0 := (9, .inl (fun _ => 0))) hx hb (hts _ mw_110) rfl hK hP hD hS hA (za_int 9) (by decide +kernel) (by decide +kernel) (by decide +kernel) (Nat.le_of_ble_eq_true rfl) (Nat.le_of_ble_eq_true rfl) dX6_init_99 (fun q10 cq10 H hK hP hD hS => ?_)
  refine W.widen (k := 10) (n := 82) (Nat.le_of_ble_eq_true rfl) (Nat.le_of_ble_eq_true rfl) ?_
  have hP : va_P (dC, dI) vwCl [(h0, .inr (6, [.int 0, .int 0, .int 0, .int 0, .ref q1, .ref q2, .ref q3, .ref q4, .ref q5, .ref q6, .ref q7, .ref q8, .ref q9, .null, .null, .null, .null])), (q1, .inl (cq1, 8, .inl (fun _ => 0))), (q2, .inl (cq2, 8, .inl (fun _ => 0))), (q3, .inl (cq3, 8, .inl (fun _ => 0))), (q4, .inl (cq4, 8, .inl (fun _ => 0))), (q5, .inl (cq5, 8, .inl (fun _ => 0))), (q6, .inl (cq6, 8, .inl (fun _ => 0))), (q7, .inl (cq7, 8, .inl (fun _ => 0))), (q8, .inl (cq8, 8, .inl (fun _ => 0))), (q9, .inl (cq9, 9, .inl (fun _ => 0))), (q10, .inl (cq10, 9, .inl (fun _ => 0)))] H := hP
  have hD : va_D A [(h0, .inr (6, [.int 0, .int 0, .int 0, .int 0, .ref q1, .ref q2, .ref q3, .ref q4, .ref q5, .ref q6, .ref q7, .ref q8, .ref q9, .null, .null, .null, .null])), (q1, .inl (cq1, 8, .inl (fun _ => 0))), (q2, .inl (cq2, 8, .inl (fun _ => 0))), (q3, .inl (cq3, 8, .inl (fun _ => 0))), (q4, .inl (cq4, 8, .inl (fun _ => 0))), (q5, .inl (cq5, 8, .inl (fun _ => 0))), (q6, .inl (cq6, 8, .inl (fun _ => 0))), (q7, .inl (cq7, 8, .inl (fun _ => 0))), (q8, .inl (cq8, 8, .inl (fun _ => 0))), (q9, .inl (cq9, 9, .inl (fun _ => 0))), (q10, .inl (cq10, 9, .inl (fun _ => 0)))] := hD
  have hK : va_K (dC, dI) vwCl [(cq1, .int), (cq2, .int), (cq3, .int), (cq4, .int), (cq5, .int), (cq6, .int), (cq7, .int), (cq8, .int), (cq9, .int), (cq10, .int)] s := hK
  refine va_putF (D := (dC, dI)) (ci := 6) (v := .ref q10) (ty := (.array .int)) (C := RX6) (T := TX6) (N := 17) hx hb hts inX6 tyX6 tyX6_ok nmX6 hown hK hP hD hS 0 rfl rfl 13 (by decide) (hts _ mw_157) (fun _ h9 => h9) rfl hin rfl (by decide +kernel) rfl rfl (Nat.le_of_ble_eq_true rfl) dX6_init_101 (fun H locs hP hD hS => ?_)
  have hP : va_P (dC, dI) vwCl [(h0, .inr (6, [.int 0, .int 0, .int 0, .int 0, .ref q1, .ref q2, .ref q3, .ref q4, .ref q5, .ref q6, .ref q7, .ref q8, .ref q9, .ref q10, .null, .null, .null])), (q1, .inl (cq1, 8, .inl (fun _ => 0))), (q2, .inl (cq2, 8, .inl (fun _ => 0))), (q3, .inl (cq3, 8, .inl (fun _ => 0))), (q4, .inl (cq4, 8, .inl (fun _ => 0))), (q5, .inl (cq5, 8, .inl (fun _ => 0))), (q6, .inl (cq6, 8, .inl (fun _ => 0))), (q7, .inl (cq7, 8, .inl (fun _ => 0))), (q8, .inl (cq8, 8, .inl (fun _ => 0))), (q9, .inl (cq9, 9, .inl (fun _ => 0))), (q10, .inl (cq10, 9, .inl (fun _ => 0)))] H := hP
  have hD : va_D A [(h0, .inr (6, [.int 0, .int 0, .int 0, .int 0, .ref q1, .ref q2, .ref q3, .ref q4, .ref q5, .ref q6, .ref q7, .ref q8, .ref q9, .ref q10, .null, .null, .null])), (q1, .inl (cq1, 8, .inl (fun _ => 0))), (q2, .inl (cq2, 8, .inl (fun _ => 0))), (q3, .inl (cq3, 8, .inl (fun _ => 0))), (q4, .inl (cq4, 8, .inl (fun _ => 0))), (q5, .inl (cq5, 8, .inl (fun _ => 0))), (q6, .inl (cq6, 8, .inl (fun _ => 0))), (q7, .inl (cq7, 8, .inl (fun _ => 0))), (q8, .inl (cq8, 8, .inl (fun _ => 0))), (q9, .inl (cq9, 9, .inl (fun _ => 0))), (q10, .inl (cq10, 9, .inl (fun _ => 0)))] := hD
  refine lv_aload_n hx hb dX6_init_104 rfl (lv_at hl 0 rfl) ?_
  refine lv_bipush (v := 9) hx hb dX6_init_105 (by decide +kernel) ?_
  refine va_newa (atype := .int) (ty := .int) (a0 := (9, .inl (fun _ => 0))) hx hb (hts _ mw_110) rfl hK hP hD hS hA (za_int 9) (by decide +kernel) (by decide +kernel) (by decide +kernel) (Nat.le_of_ble_eq_true rfl) (Nat.le_of_ble_eq_true rfl) dX6_init_107 (fun q11 cq11 H hK hP hD hS => ?_)
  refine W.widen (k := 11) (n := 91) (Nat.le_of_ble_eq_true rfl) (Nat.le_of_ble_eq_true rfl) ?_
  have hP : va_P (dC, dI) vwCl [(h0, .inr (6, [.int 0, .int 0, .int 0, .int 0, .ref q1, .ref q2, .ref q3, .ref q4, .ref q5, .ref q6, .ref q7, .ref q8, .ref q9, .ref q10, .null, .null, .null])), (q1, .inl (cq1, 8, .inl (fun _ => 0))), (q2, .inl (cq2, 8, .inl (fun _ => 0))), (q3, .inl (cq3, 8, .inl (fun _ => 0))), (q4, .inl (cq4, 8, .inl (fun _ => 0))), (q5, .inl (cq5, 8, .inl (fun _ => 0))), (q6, .inl (cq6, 8, .inl (fun _ => 0))), (q7, .inl (cq7, 8, .inl (fun _ => 0))), (q8, .inl (cq8, 8, .inl (fun _ => 0))), (q9, .inl (cq9, 9, .inl (fun _ => 0))), (q10, .inl (cq10, 9, .inl (fun _ => 0))), (q11, .inl (cq11, 9, .inl (fun _ => 0)))] H := hP
  have hD : va_D A [(h0, .inr (6, [.int 0, .int 0, .int 0, .int 0, .ref q1, .ref q2, .ref q3, .ref q4, .ref q5, .ref q6, .ref q7, .ref q8, .ref q9, .ref q10, .null, .null, .null])), (q1, .inl (cq1, 8, .inl (fun _ => 0))), (q2, .inl (cq2, 8, .inl (fun _ => 0))), (q3, .inl (cq3, 8, .inl (fun _ => 0))), (q4, .inl (cq4, 8, .inl (fun _ => 0))), (q5, .inl (cq5, 8, .inl (fun _ => 0))), (q6, .inl (cq6, 8, .inl (fun _ => 0))), (q7, .inl (cq7, 8, .inl (fun _ => 0))), (q8, .inl (cq8, 8, .inl (fun _ => 0))), (q9, .inl (cq9, 9, .inl (fun _ => 0))), (q10, .inl (cq10, 9, .inl (fun _ => 0))), (q11, .inl (cq11, 9, .inl (fun _ => 0)))] := hD
  have hK : va_K (dC, dI) vwCl [(cq1, .int), (cq2, .int), (cq3, .int), (cq4, .int), (cq5, .int), (cq6, .int), (cq7, .int), (cq8, .int), (cq9, .int), (cq10, .int), (cq11, .int)] s := hK
  refine va_putF (D := (dC, dI)) (ci := 6) (v := .ref q11) (ty := (.array .int)) (C := RX6) (T := TX6) (N := 17) hx hb hts inX6 tyX6 tyX6_ok nmX6 hown hK hP hD hS 0 rfl rfl 14 (by decide) (hts _ mw_158) (fun _ h9 => h9) rfl hin rfl (by decide +kernel) rfl rfl (Nat.le_of_ble_eq_true rfl) dX6_init_109 (fun H locs hP hD hS => ?_)
  have hP : va_P (dC, dI) vwCl [(h0, .inr (6, [.int 0, .int 0, .int 0, .int 0, .ref q1, .ref q2, .ref q3, .ref q4, .ref q5, .ref q6, .ref q7, .ref q8, .ref q9, .ref q10, .ref q11, .null, .null])), (q1, .inl (cq1, 8, .inl (fun _ => 0))), (q2, .inl (cq2, 8, .inl (fun _ => 0))), (q3, .inl (cq3, 8, .inl (fun _ => 0))), (q4, .inl (cq4, 8, .inl (fun _ => 0))), (q5, .inl (cq5, 8, .inl (fun _ => 0))), (q6, .inl (cq6, 8, .inl (fun _ => 0))), (q7, .inl (cq7, 8, .inl (fun _ => 0))), (q8, .inl (cq8, 8, .inl (fun _ => 0))), (q9, .inl (cq9, 9, .inl (fun _ => 0))), (q10, .inl (cq10, 9, .inl (fun _ => 0))), (q11, .inl (cq11, 9, .inl (fun _ => 0)))] H := hP
  have hD : va_D A [(h0, .inr (6, [.int 0, .int 0, .int 0, .int 0, .ref q1, .ref q2, .ref q3, .ref q4, .ref q5, .ref q6, .ref q7, .ref q8, .ref q9, .ref q10, .ref q11, .null, .null])), (q1, .inl (cq1, 8, .inl (fun _ => 0))), (q2, .inl (cq2, 8, .inl (fun _ => 0))), (q3, .inl (cq3, 8, .inl (fun _ => 0))), (q4, .inl (cq4, 8, .inl (fun _ => 0))), (q5, .inl (cq5, 8, .inl (fun _ => 0))), (q6, .inl (cq6, 8, .inl (fun _ => 0))), (q7, .inl (cq7, 8, .inl (fun _ => 0))), (q8, .inl (cq8, 8, .inl (fun _ => 0))), (q9, .inl (cq9, 9, .inl (fun _ => 0))), (q10, .inl (cq10, 9, .inl (fun _ => 0))), (q11, .inl (cq11, 9, .inl (fun _ => 0)))] := hD
  refine lv_aload_n hx hb dX6_init_112 rfl (lv_at hl 0 rfl) ?_
  refine lv_bipush (v := 9) hx hb dX6_init_113 (by decide +kernel) ?_
  refine va_newa (atype := .int) (ty := .int) (a0 := (9, .inl (fun _ => 0))) hx hb (hts _ mw_110) rfl hK hP hD hS hA (za_int 9) (by decide +kernel) (by decide +kernel) (by decide +kernel) (Nat.le_of_ble_eq_true rfl) (Nat.le_of_ble_eq_true rfl) dX6_init_115 (fun q12 cq12 H hK hP hD hS => ?_)
  refine W.widen (k := 12) (n := 100) (Nat.le_of_ble_eq_true rfl) (Nat.le_of_ble_eq_true rfl) ?_
  have hP : va_P (dC, dI) vwCl [(h0, .inr (6, [.int 0, .int 0, .int 0, .int 0, .ref q1, .ref q2, .ref q3, .ref q4, .ref q5, .ref q6, .ref q7, .ref q8, .ref q9, .ref q10, .ref q11, .null, .null])), (q1, .inl (cq1, 8, .inl (fun _ => 0))), (q2, .inl (cq2, 8, .inl (fun _ => 0))), (q3, .inl (cq3, 8, .inl (fun _ => 0))), (q4, .inl (cq4, 8, .inl (fun _ => 0))), (q5, .inl (cq5, 8, .inl (fun _ => 0))), (q6, .inl (cq6, 8, .inl (fun _ => 0))), (q7, .inl (cq7, 8, .inl (fun _ => 0))), (q8, .inl (cq8, 8, .inl (fun _ => 0))), (q9, .inl (cq9, 9, .inl (fun _ => 0))), (q10, .inl (cq10, 9, .inl (fun _ => 0))), (q11, .inl (cq11, 9, .inl (fun _ => 0))), (q12, .inl (cq12, 9, .inl (fun _ => 0)))] H := hP
  have hD : va_D A [(h0, .inr (6, [.int 0, .int 0, .int 0, .int 0, .ref q1, .ref q2, .ref q3, .ref q4, .ref q5, .ref q6, .ref q7, .ref q8, .ref q9, .ref q10, .ref q11, .null, .null])), (q1, .inl (cq1, 8, .inl (fun _ => 0))), (q2, .inl (cq2, 8, .inl (fun _ => 0))), (q3, .inl (cq3, 8, .inl (fun _ => 0))), (q4, .inl (cq4, 8, .inl (fun _ => 0))), (q5, .inl (cq5, 8, .inl (fun _ => 0))), (q6, .inl (cq6, 8, .inl (fun _ => 0))), (q7, .inl (cq7, 8, .inl (fun _ => 0))), (q8, .inl (cq8, 8, .inl (fun _ => 0))), (q9, .inl (cq9, 9, .inl (fun _ => 0))), (q10, .inl (cq10, 9, .inl (fun _ => 0))), (q11, .inl (cq11, 9, .inl (fun _ => 0))), (q12, .inl (cq12, 9, .inl (fun _ => 0)))] := hD
  have hK : va_K (dC, dI) vwCl [(cq1, .int), (cq2, .int), (cq3, .int), (cq4, .int), (cq5, .int), (cq6, .int), (cq7, .int), (cq8, .int), (cq9, .int), (cq10, .int), (cq11, .int), (cq12, .int)] s := hK
  refine va_putF (D := (dC, dI)) (ci := 6) (v := .ref q12) (ty := (.array .int)) (C := RX6) (T := TX6) (N := 17) hx hb hts inX6 tyX6 tyX6_ok nmX6 hown hK hP hD hS 0 rfl rfl 15 (by decide) (hts _ mw_159) (fun _ h9 => h9) rfl hin rfl (by decide +kernel) rfl rfl (Nat.le_of_ble_eq_true rfl) dX6_init_117 (fun H locs hP hD hS => ?_)
  have hP : va_P (dC, dI) vwCl [(h0, .inr (6, [.int 0, .int 0, .int 0, .int 0, .ref q1, .ref q2, .ref q3, .ref q4, .ref q5, .ref q6, .ref q7, .ref q8, .ref q9, .ref q10, .ref q11, .ref q12, .null])), (q1, .inl (cq1, 8, .inl (fun _ => 0))), (q2, .inl (cq2, 8, .inl (fun _ => 0))), (q3, .inl (cq3, 8, .inl (fun _ => 0))), (q4, .inl (cq4, 8, .inl (fun _ => 0))), (q5, .inl (cq5, 8, .inl (fun _ => 0))), (q6, .inl (cq6, 8, .inl (fun _ => 0))), (q7, .inl (cq7, 8, .inl (fun _ => 0))), (q8, .inl (cq8, 8, .inl (fun _ => 0))), (q9, .inl (cq9, 9, .inl (fun _ => 0))), (q10, .inl (cq10, 9, .inl (fun _ => 0))), (q11, .inl (cq11, 9, .inl (fun _ => 0))), (q12, .inl (cq12, 9, .inl (fun _ => 0)))] H := hP
  have hD : va_D A [(h0, .inr (6, [.int 0, .int 0, .int 0, .int 0, .ref q1, .ref q2, .ref q3, .ref q4, .ref q5, .ref q6, .ref q7, .ref q8, .ref q9, .ref q10, .ref q11, .ref q12, .null])), (q1, .inl (cq1, 8, .inl (fun _ => 0))), (q2, .inl (cq2, 8, .inl (fun _ => 0))), (q3, .inl (cq3, 8, .inl (fun _ => 0))), (q4, .inl (cq4, 8, .inl (fun _ => 0))), (q5, .inl (cq5, 8, .inl (fun _ => 0))), (q6, .inl (cq6, 8, .inl (fun _ => 0))), (q7, .inl (cq7, 8, .inl (fun _ => 0))), (q8, .inl (cq8, 8, .inl (fun _ => 0))), (q9, .inl (cq9, 9, .inl (fun _ => 0))), (q10, .inl (cq10, 9, .inl (fun _ => 0))), (q11, .inl (cq11, 9, .inl (fun _ => 0))), (q12, .inl (cq12, 9, .inl (fun _ => 0)))] := hD
  refine lv_aload_n hx hb dX6_init_120 rfl (lv_at hl 0 rfl) ?_
  refine lv_bipush (v := 9) hx hb dX6_init_121 (by decide +kernel) ?_
  refine va_newa (atype := .int) (ty := .int) (a0 := (9, .inl (fun _ => 0))) hx hb (hts _ mw_110) rfl hK hP hD hS hA (za_int 9) (by decide +kernel) (by decide +kernel) (by decide +kernel) (Nat.le_of_ble_eq_true rfl) (Nat.le_of_ble_eq_true rfl) dX6_init_123 (fun q13 cq13 H hK hP hD hS => ?_)
  refine W.widen (k := 13) (n := 109) (Nat.le_of_ble_eq_true rfl) (Nat.le_of_ble_eq_true rfl) ?_
  have hP : va_P (dC, dI) vwCl [(h0, .inr (6, [.int 0, .int 0, .int 0, .int 0, .ref q1, .ref q2, .ref q3, .ref q4, .ref q5, .ref q6, .ref q7, .ref q8, .ref q9, .ref q10, .ref q11, .ref q12, .null])), (q1, .inl (cq1, 8, .inl (fun _ => 0))), (q2, .inl (cq2, 8, .inl (fun _ => 0))), (q3, .inl (cq3, 8, .inl (fun _ => 0))), (q4, .inl (cq4, 8, .inl (fun _ => 0))), (q5, .inl (cq5, 8, .inl (fun _ => 0))), (q6, .inl (cq6, 8, .inl (fun _ => 0))), (q7, .inl (cq7, 8, .inl (fun _ => 0))), (q8, .inl (cq8, 8, .inl (fun _ => 0))), (q9, .inl (cq9, 9, .inl (fun _ => 0))), (q10, .inl (cq10, 9, .inl (fun _ => 0))), (q11, .inl (cq11, 9, .inl (fun _ => 0))), (q12, .inl (cq12, 9, .inl (fun _ => 0))), (q13, .inl (cq13, 9, .inl (fun _ => 0)))] H := hP
  have hD : va_D A [(h0, .inr (6, [.int 0, .int 0, .int 0, .int 0, .ref q1, .ref q2, .ref q3, .ref q4, .ref q5, .ref q6, .ref q7, .ref q8, .ref q9, .ref q10, .ref q11, .ref q12, .null])), (q1, .inl (cq1, 8, .inl (fun _ => 0))), (q2, .inl (cq2, 8, .inl (fun _ => 0))), (q3, .inl (cq3, 8, .inl (fun _ => 0))), (q4, .inl (cq4, 8, .inl (fun _ => 0))), (q5, .inl (cq5, 8, .inl (fun _ => 0))), (q6, .inl (cq6, 8, .inl (fun _ => 0))), (q7, .inl (cq7, 8, .inl (fun _ => 0))), (q8, .inl (cq8, 8, .inl (fun _ => 0))), (q9, .inl (cq9, 9, .inl (fun _ => 0))), (q10, .inl (cq10, 9, .inl (fun _ => 0))), (q11, .inl (cq11, 9, .inl (fun _ => 0))), (q12, .inl (cq12, 9, .inl (fun _ => 0))), (q13, .inl (cq13, 9, .inl (fun _ => 0)))] := hD
  have hK : va_K (dC, dI) vwCl [(cq1, .int), (cq2, .int), (cq3, .int), (cq4, .int), (cq5, .int), (cq6, .int), (cq7, .int), (cq8, .int), (cq9, .int), (cq10, .int), (cq11, .int), (cq12, .int), (cq13, .int)] s := hK
  refine va_putF (D := (dC, dI)) (ci := 6) (v := .ref q13) (ty := (.array .int)) (C := RX6) (T := TX6) (N := 17) hx hb hts inX6 tyX6 tyX6_ok nmX6 hown hK hP hD hS 0 rfl rfl 16 (by decide) (hts _ mw_160) (fun _ h9 => h9) rfl hin rfl (by decide +kernel) rfl rfl (Nat.le_of_ble_eq_true rfl) dX6_init_125 (fun H locs hP hD hS => ?_)
  have hP : va_P (dC, dI) vwCl [(h0, .inr (6, [.int 0, .int 0, .int 0, .int 0, .ref q1, .ref q2, .ref q3, .ref q4, .ref q5, .ref q6, .ref q7, .ref q8, .ref q9, .ref q10, .ref q11, .ref q12, .ref q13])), (q1, .inl (cq1, 8, .inl (fun _ => 0))), (q2, .inl (cq2, 8, .inl (fun _ => 0))), (q3, .inl (cq3, 8, .inl (fun _ => 0))), (q4, .inl (cq4, 8, .inl (fun _ => 0))), (q5, .inl (cq5, 8, .inl (fun _ => 0))), (q6, .inl (cq6, 8, .inl (fun _ => 0))), (q7, .inl (cq7, 8, .inl (fun _ => 0))), (q8, .inl (cq8, 8, .inl (fun _ => 0))), (q9, .inl (cq9, 9, .inl (fun _ => 0))), (q10, .inl (cq10, 9, .inl (fun _ => 0))), (q11, .inl (cq11, 9, .inl (fun _ => 0))), (q12, .inl (cq12, 9, .inl (fun _ => 0))), (q13, .inl (cq13, 9, .inl (fun _ => 0)))] H := hP
  have hD : va_D A [(h0, .inr (6, [.int 0, .int 0, .int 0, .int 0, .ref q1, .ref q2, .ref q3, .ref q4, .ref q5, .ref q6, .ref q7, .ref q8, .ref q9, .ref q10, .ref q11, .ref q12, .ref q13])), (q1, .inl (cq1, 8, .inl (fun _ => 0))), (q2, .inl (cq2, 8, .inl (fun _ => 0))), (q3, .inl (cq3, 8, .inl (fun _ => 0))), (q4, .inl (cq4, 8, .inl (fun _ => 0))), (q5, .inl (cq5, 8, .inl (fun _ => 0))), (q6, .inl (cq6, 8, .inl (fun _ => 0))), (q7, .inl (cq7, 8, .inl (fun _ => 0))), (q8, .inl (cq8, 8, .inl (fun _ => 0))), (q9, .inl (cq9, 9, .inl (fun _ => 0))), (q10, .inl (cq10, 9, .inl (fun _ => 0))), (q11, .inl (cq11, 9, .inl (fun _ => 0))), (q12, .inl (cq12, 9, .inl (fun _ => 0))), (q13, .inl (cq13, 9, .inl (fun _ => 0)))] := hD
  have hP9 := hP.sub (ws' := [(h0, .inr (6, [.int 0, .int 0, .int 0, .int 0, .ref q1, .ref q2, .ref q3, .ref q4, .ref q5, .ref q6, .ref q7, .ref q8, .ref q9, .ref q10, .ref q11, .ref q12, .ref q13])), (q1, .inl (cq1, 8, .inl (fun _ => 0))), (q2, .inl (cq2, 8, .inl (fun _ => 0))), (q3, .inl (cq3, 8, .inl (fun _ => 0))), (q4, .inl (cq4, 8, .inl (fun _ => 0))), (q5, .inl (cq5, 8, .inl (fun _ => 0))), (q6, .inl (cq6, 8, .inl (fun _ => 0))), (q7, .inl (cq7, 8, .inl (fun _ => 0))), (q8, .inl (cq8, 8, .inl (fun _ => 0))), (q9, .inl (cq9, 9, .inl (fun _ => 0))), (q10, .inl (cq10, 9, .inl (fun _ => 0))), (q11, .inl (cq11, 9, .inl (fun _ => 0))), (q12, .inl (cq12, 9, .inl (fun _ => 0))), (q13, .inl (cq13, 9, .inl (fun _ => 0)))]) [0, 1, 2, 3, 4, 5, 6, 7, 8, 9, 10, 11, 12, 13] rfl
  have hD9 := hD.sub (ws' := [(h0, .inr (6, [.int 0, .int 0, .int 0, .int 0, .ref q1, .ref q2, .ref q3, .ref q4, .ref q5, .ref q6, .ref q7, .ref q8, .ref q9, .ref q10, .ref q11, .ref q12, .ref q13])), (q1, .inl (cq1, 8, .inl (fun _ => 0))), (q2, .inl (cq2, 8, .inl (fun _ => 0))), (q3, .inl (cq3, 8, .inl (fun _ => 0))), (q4, .inl (cq4, 8, .inl (fun _ => 0))), (q5, .inl (cq5, 8, .inl (fun _ => 0))), (q6, .inl (cq6, 8, .inl (fun _ => 0))), (q7, .inl (cq7, 8, .inl (fun _ => 0))), (q8, .inl (cq8, 8, .inl (fun _ => 0))), (q9, .inl (cq9, 9, .inl (fun _ => 0))), (q10, .inl (cq10, 9, .inl (fun _ => 0))), (q11, .inl (cq11, 9, .inl (fun _ => 0))), (q12, .inl (cq12, 9, .inl (fun _ => 0))), (q13, .inl (cq13, 9, .inl (fun _ => 0)))]) [0, 1, 2, 3, 4, 5, 6, 7, 8, 9, 10, 11, 12, 13] (by decide) rfl
  have hK9 := hK.sub (tys' := [(cq1, .int), (cq2, .int), (cq3, .int), (cq4, .int), (cq5, .int), (cq6, .int), (cq7, .int), (cq8, .int), (cq9, .int), (cq10, .int), (cq11, .int), (cq12, .int), (cq13, .int)]) [0, 1, 2, 3, 4, 5, 6, 7, 8, 9, 10, 11, 12] rfl
  refine W.widen (k := 13) (n := 109) (Nat.le_of_ble_eq_true rfl) (Nat.le_of_ble_eq_true rfl) ?_
  exact W.vret hx hb hr (fun t ht hW => ⟨⟨(), rfl, trivial, q1, q2, q3, q4, q5, q6, q7, q8, q9, q10, q11, q12, q13, cq1, cq2, cq3, cq4, cq5, cq6, cq7, cq8, cq9, cq10, cq11, cq12, cq13, by rw [ht]; exact hP9, va_K.moved hW.alike hK9, hD9⟩, hS.F ht⟩) hS.2.2 dX6_init_128

set_option maxHeartbeats 4000000 in
set_option maxRecDepth 100000 in
/-- new DrumBoats$Tape, all its cells kept -/
theorem kf_X7_init (l : Launch) (dC : Nat → ClassId) (dI : Nat → Nat → Nat) (sz : Nat) (h0 : Nat) : Met l yX7_init (.code yX7_init cX7_init 1 none :: GW) ({ frames := 1, cells := 1, slots := 120, locals := 12 }) (va_Pc [.ref h0] (fun U => U.heap.size = sz ∧ va_P (dC, dI) vwCl [(h0, .inr (7, [.int 0, .int 0, .null]))] U.heap ∧ va_K (dC, dI) vwCl [] U ∧ va_D (fun _ => True) [(h0, .inr (7, [.int 0, .int 0, .null]))])) (va_Qv (fun _ : Unit => True) (fun _ t => ∃ (q1 : Nat), ∃ (cq1 : ClassId), va_P (dC, dI) vwCl [(h0, .inr (7, [.int 0, .int 0, .ref q1])), (q1, .inl (cq1, 120, .inl (fun _ => 0)))] t.heap ∧ va_K (dC, dI) vwCl [(cq1, .int)] t ∧ va_D (va_A [(h0, .inr (7, [.int 0, .int 0, .null]))] sz) [(h0, .inr (7, [.int 0, .int 0, .ref q1])), (q1, .inl (cq1, 120, .inl (fun _ => 0)))]) (va_A [(h0, .inr (7, [.int 0, .int 0, .null]))] sz)) 1 120 (va_A [(h0, .inr (7, [.int 0, .int 0, .null]))] sz) := by
  refine Met.ofW (cc := cX7_init) (maxL := 1) (ret := none) (by decide) rfl ?_
  intro p e s m args below meth c s₁ B hml hv
  obtain ⟨rfl, hsz, hP, hK, hD0⟩ := hv
  have hx := B.exec
  have hb := B.bytes
  have hr := B.returns
  have hts0 := atoms_spec (ws := .code yX7_init cX7_init 1 none :: GW) B.pre
  have hts := fun w (h : w ∈ GW) => hts0 w (List.mem_cons_of_mem _ h)
  have hown : s.vm.findClass RX7 = some m.cls := findClass_of_methodNamed B.named
  have hlocks := B.notSynchronized
  have hin : meth.name = "<init>" := (name_of_methodNamed B.named B.method).1
  subst hsz
  have hD := hD0.self (sz := s.heap.size)
  generalize hAe : va_A [(h0, .inr (7, [.int 0, .int 0, .null]))] s.heap.size = A at hD ⊢
  have hA : ∀ q : Nat, s.heap.size ≤ q → A q := fun q h => by rw [← hAe]; exact Or.inr h
  have hS : va_S A s.heap s.heap [] := va_S.rf
  have hl := lv_entry ([.ref h0]) (n := 1) (Nat.le_of_ble_eq_true rfl)
  rw [lg_entry_eq]
  generalize (lg_sl ([.ref h0]) ++ List.replicate (1 - (lg_sl ([.ref h0])).length) Slot.unset).toArray = ls at hl ⊢
  have hl : lv_has ls 1 [(0, .ref h0)] := hl
  refine lv_aload_n hx hb dX7_init_0 rfl (lv_at hl 0 rfl) ?_
  refine W.objInit hx hb hown (hts _ mw_201) (hts _ mw_70) (hts _ mw_71) rfl (by rw [hml]; exact hl.1) rfl dX7_init_1 (Nat.le_of_ble_eq_true rfl) (Nat.le_of_ble_eq_true rfl) ?_
  refine W.eq (g2 := F0 m 4 ls []) rfl ?_
  refine lv_aload_n hx hb dX7_init_4 rfl (lv_at hl 0 rfl) ?_
  refine lv_iconst (v := 0) hx hb dX7_init_5 (by decide +kernel) ?_
  refine va_put (D := (dC, dI)) (ci := 7) (v := .int 0) (ty := .int) (C := RX7) (T := TX7) (N := 3) hx hb hts inX7 tyX7 tyX7_ok nmX7 hown hK hP hD hS 0 rfl rfl 0 (by decide) (hts _ mw_202) (fun _ h9 => h9) rfl (by decide +kernel) rfl rfl (Nat.le_of_ble_eq_true rfl) dX7_init_6 (fun H locs hP hD hS => ?_)
  have hP : va_P (dC, dI) vwCl [(h0, .inr (7, [.int 0, .int 0, .null]))] H := hP
  have hD : va_D A [(h0, .inr (7, [.int 0, .int 0, .null]))] := hD
  refine lv_aload_n hx hb dX7_init_9 rfl (lv_at hl 0 rfl) ?_
  refine lv_iconst (v := 0) hx hb dX7_init_10 (by decide +kernel) ?_
  refine va_put (D := (dC, dI)) (ci := 7) (v := .int 0) (ty := .int) (C := RX7) (T := TX7) (N := 3) hx hb hts inX7 tyX7 tyX7_ok nmX7 hown hK hP hD hS 0 rfl rfl 1 (by decide) (hts _ mw_204) (fun _ h9 => h9) rfl (by decide +kernel) rfl rfl (Nat.le_of_ble_eq_true rfl) dX7_init_11 (fun H locs hP hD hS => ?_)
  have hP : va_P (dC, dI) vwCl [(h0, .inr (7, [.int 0, .int 0, .null]))] H := hP
  have hD : va_D A [(h0, .inr (7, [.int 0, .int 0, .null]))] := hD
  refine lv_aload_n hx hb dX7_init_14 rfl (lv_at hl 0 rfl) ?_
  refine lv_bipush (v := 120) hx hb dX7_init_15 (by decide +kernel) ?_
  refine va_newa (atype := .int) (ty := .int) (a0 := (120, .inl (fun _ => 0))) hx hb (hts _ mw_110) rfl hK hP hD hS hA (za_int 120) (by decide +kernel) (by decide +kernel) (by decide +kernel) (Nat.le_of_ble_eq_true rfl) (Nat.le_of_ble_eq_true rfl) dX7_init_17 (fun q1 cq1 H hK hP hD hS => ?_)
  refine W.widen (k := 1) (n := 120) (Nat.le_of_ble_eq_true rfl) (Nat.le_of_ble_eq_true rfl) ?_
  have hP : va_P (dC, dI) vwCl [(h0, .inr (7, [.int 0, .int 0, .null])), (q1, .inl (cq1, 120, .inl (fun _ => 0)))] H := hP
  have hD : va_D A [(h0, .inr (7, [.int 0, .int 0, .null])), (q1, .inl (cq1, 120, .inl (fun _ => 0)))] := hD
  have hK : va_K (dC, dI) vwCl [(cq1, .int)] s := hK
  refine va_putF (D := (dC, dI)) (ci := 7) (v := .ref q1) (ty := (.array .int)) (C := RX7) (T := TX7) (N := 3) hx hb hts inX7 tyX7 tyX7_ok nmX7 hown hK hP hD hS 0 rfl rfl 2 (by decide) (hts _ mw_206) (fun _ h9 => h9) rfl hin rfl (by decide +kernel) rfl rfl (Nat.le_of_ble_eq_true rfl) dX7_init_19 (fun H locs hP hD hS => ?_)
  have hP : va_P (dC, dI) vwCl [(h0, .inr (7, [.int 0, .int 0, .ref q1])), (q1, .inl (cq1, 120, .inl (fun _ => 0)))] H := hP
  have hD : va_D A [(h0, .inr (7, [.int 0, .int 0, .ref q1])), (q1, .inl (cq1, 120, .inl (fun _ => 0)))] := hD
  have hP9 := hP.sub (ws' := [(h0, .inr (7, [.int 0, .int 0, .ref q1])), (q1, .inl (cq1, 120, .inl (fun _ => 0)))]) [0, 1] rfl
  have hD9 := hD.sub (ws' := [(h0, .inr (7, [.int 0, .int 0, .ref q1])), (q1, .inl (cq1, 120, .inl (fun _ => 0)))]) [0, 1] (by decide) rfl
  have hK9 := hK.sub (tys' := [(cq1, .int)]) [0] rfl
  refine W.widen (k := 1) (n := 120) (Nat.le_of_ble_eq_true rfl) (Nat.le_of_ble_eq_true rfl) ?_
  exact W.vret hx hb hr (fun t ht hW => ⟨⟨(), rfl, trivial, q1, cq1, by rw [ht]; exact hP9, va_K.moved hW.alike hK9, hD9⟩, hS.F ht⟩) hS.2.2 dX7_init_22

set_option maxHeartbeats 4000000 in
set_option maxRecDepth 100000 in
/-- new DrumBoats$Course, all its cells kept -/
theorem kf_X0_init (l : Launch) (dC : Nat → ClassId) (dI : Nat → Nat → Nat) (sz : Nat) (h0 : Nat) : Met l yX0_init (.code yX0_init cX0_init 1 none :: GW) ({ frames := 1, cells := 0, slots := 0, locals := 12 }) (va_Pc [.ref h0] (fun U => U.heap.size = sz ∧ va_P (dC, dI) vwCl [(h0, .inr (0, [.int 0, .int 0]))] U.heap ∧ va_K (dC, dI) vwCl [] U ∧ va_D (fun _ => True) [(h0, .inr (0, [.int 0, .int 0]))])) (va_Qv (fun _ : Unit => True) (fun _ t => va_P (dC, dI) vwCl [(h0, .inr (0, [.int 0, .int 0]))] t.heap ∧ va_K (dC, dI) vwCl [] t ∧ va_D (va_A [(h0, .inr (0, [.int 0, .int 0]))] sz) [(h0, .inr (0, [.int 0, .int 0]))]) (va_A [(h0, .inr (0, [.int 0, .int 0]))] sz)) 0 0 (va_A [(h0, .inr (0, [.int 0, .int 0]))] sz) := by
  refine Met.ofW (cc := cX0_init) (maxL := 1) (ret := none) (by decide) rfl ?_
  intro p e s m args below meth c s₁ B hml hv
  obtain ⟨rfl, hsz, hP, hK, hD0⟩ := hv
  have hx := B.exec
  have hb := B.bytes
  have hr := B.returns
  have hts0 := atoms_spec (ws := .code yX0_init cX0_init 1 none :: GW) B.pre
  have hts := fun w (h : w ∈ GW) => hts0 w (List.mem_cons_of_mem _ h)
  have hown : s.vm.findClass RX0 = some m.cls := findClass_of_methodNamed B.named
  have hlocks := B.notSynchronized
  have hin : meth.name = "<init>" := (name_of_methodNamed B.named B.method).1
  subst hsz
  have hD := hD0.self (sz := s.heap.size)
  generalize hAe : va_A [(h0, .inr (0, [.int 0, .int 0]))] s.heap.size = A at hD ⊢
  have hA : ∀ q : Nat, s.heap.size ≤ q → A q := fun q h => by rw [← hAe]; exact Or.inr h
  have hS : va_S A s.heap s.heap [] := va_S.rf
  have hl := lv_entry ([.ref h0]) (n := 1) (Nat.le_of_ble_eq_true rfl)
  rw [lg_entry_eq]
  generalize (lg_sl ([.ref h0]) ++ List.replicate (1 - (lg_sl ([.ref h0])).length) Slot.unset).toArray = ls at hl ⊢
  have hl : lv_has ls 1 [(0, .ref h0)] := hl
  refine lv_aload_n hx hb dX0_init_0 rfl (lv_at hl 0 rfl) ?_
  refine W.objInit hx hb hown (hts _ mw_223) (hts _ mw_70) (hts _ mw_71) rfl (by rw [hml]; exact hl.1) rfl dX0_init_1 (Nat.le_of_ble_eq_true rfl) (Nat.le_of_ble_eq_true rfl) ?_
  refine W.eq (g2 := F0 m 4 ls []) rfl ?_
  refine lv_aload_n hx hb dX0_init_4 rfl (lv_at hl 0 rfl) ?_
  refine lv_iconst (v := 0) hx hb dX0_init_5 (by decide +kernel) ?_
  refine va_put (D := (dC, dI)) (ci := 0) (v := .int 0) (ty := .int) (C := RX0) (T := TX0) (N := 2) hx hb hts inX0 tyX0 tyX0_ok nmX0 hown hK hP hD hS 0 rfl rfl 0 (by decide) (hts _ mw_224) (fun _ h9 => h9) rfl (by decide +kernel) rfl rfl (Nat.le_of_ble_eq_true rfl) dX0_init_6 (fun H locs hP hD hS => ?_)
  have hP : va_P (dC, dI) vwCl [(h0, .inr (0, [.int 0, .int 0]))] H := hP
  have hD : va_D A [(h0, .inr (0, [.int 0, .int 0]))] := hD
  refine lv_aload_n hx hb dX0_init_9 rfl (lv_at hl 0 rfl) ?_
  refine lv_iconst (v := 0) hx hb dX0_init_10 (by decide +kernel) ?_
  refine va_put (D := (dC, dI)) (ci := 0) (v := .int 0) (ty := .int) (C := RX0) (T := TX0) (N := 2) hx hb hts inX0 tyX0 tyX0_ok nmX0 hown hK hP hD hS 0 rfl rfl 1 (by decide) (hts _ mw_226) (fun _ h9 => h9) rfl (by decide +kernel) rfl rfl (Nat.le_of_ble_eq_true rfl) dX0_init_11 (fun H locs hP hD hS => ?_)
  have hP : va_P (dC, dI) vwCl [(h0, .inr (0, [.int 0, .int 0]))] H := hP
  have hD : va_D A [(h0, .inr (0, [.int 0, .int 0]))] := hD
  have hP9 := hP.sub (ws' := [(h0, .inr (0, [.int 0, .int 0]))]) [0] rfl
  have hD9 := hD.sub (ws' := [(h0, .inr (0, [.int 0, .int 0]))]) [0] (by decide) rfl
  have hK9 := hK.sub (tys' := []) [] rfl
  refine W.widen (k := 0) (n := 0) (Nat.le_of_ble_eq_true rfl) (Nat.le_of_ble_eq_true rfl) ?_
  exact W.vret hx hb hr (fun t ht hW => ⟨⟨(), rfl, trivial, by rw [ht]; exact hP9, va_K.moved hW.alike hK9, hD9⟩, hS.F ht⟩) hS.2.2 dX0_init_14

set_option maxHeartbeats 4000000 in
set_option maxRecDepth 100000 in
/-- new DrumBoats$FinalList, all its cells kept -/
theorem kf_X2_init (l : Launch) (dC : Nat → ClassId) (dI : Nat → Nat → Nat) (sz : Nat) (h0 : Nat) : Met l yX2_init (.code yX2_init cX2_init 1 none :: GW) ({ frames := 1, cells := 4, slots := 24, locals := 12 }) (va_Pc [.ref h0] (fun U => U.heap.size = sz ∧ va_P (dC, dI) vwCl [(h0, .inr (2, [.int 0, .null, .null, .null, .null]))] U.heap ∧ va_K (dC, dI) vwCl [] U ∧ va_D (fun _ => True) [(h0, .inr (2, [.int 0, .null, .null, .null, .null]))])) (va_Qv (fun _ : Unit => True) (fun _ t => ∃ (q1 : Nat), ∃ (q2 : Nat), ∃ (q3 : Nat), ∃ (q4 : Nat), ∃ (cq1 : ClassId), ∃ (cq2 : ClassId), ∃ (cq3 : ClassId), ∃ (cq4 : ClassId), va_P (dC, dI) vwCl [(h0, .inr (2, [.int 0, .ref q1, .ref q2, .ref q3, .ref q4])), (q1, .inl (cq1, 6, .inl (fun _ => 0))), (q2, .inl (cq2, 6, .inl (fun _ => 0))), (q3, .inl (cq3, 6, .inl (fun _ => 0))), (q4, .inl (cq4, 6, .inl (fun _ => 0)))] t.heap ∧ va_K (dC, dI) vwCl [(cq1, .int), (cq2, .int), (cq3, .boolean), (cq4, .boolean)] t ∧ va_D (va_A [(h0, .inr (2, [.int 0, .null, .null, .null, .null]))] sz) [(h0, .inr (2, [.int 0, .ref q1, .ref q2, .ref q3, .ref q4])), (q1, .inl (cq1, 6, .inl (fun _ => 0))), (q2, .inl (cq2, 6, .inl (fun _ => 0))), (q3, .inl (cq3, 6, .inl (fun _ => 0))), (q4, .inl (cq4, 6, .inl (fun _ => 0)))]) (va_A [(h0, .inr (2, [.int 0, .null, .null, .null, .null]))] sz)) 4 24 (va_A [(h0, .inr (2, [.int 0, .null, .null, .null, .null]))] sz) := by
  refine Met.ofW (cc := cX2_init) (maxL := 1) (ret := none) (by decide) rfl ?_
  intro p e s m args below meth c s₁ B hml hv
  obtain ⟨rfl, hsz, hP, hK, hD0⟩ := hv
  have hx := B.exec
  have hb := B.bytes
  have hr := B.returns
  have hts0 := atoms_spec (ws := .code yX2_init cX2_init 1 none :: GW) B.pre
  have hts := fun w (h : w ∈ GW) => hts0 w (List.mem_cons_of_mem _ h)
  have hown : s.vm.findClass RX2 = some m.cls := findClass_of_methodNamed B.named
  have hlocks := B.notSynchronized
  have hin : meth.name = "<init>" := (name_of_methodNamed B.named B.method).1
  subst hsz
  have hD := hD0.self (sz := s.heap.size)
  generalize hAe : va_A [(h0, .inr (2, [.int 0, .null, .null, .null, .null]))] s.heap.size = A at hD ⊢
  have hA : ∀ q : Nat, s.heap.size ≤ q → A q := fun q h => by rw [← hAe]; exact Or.inr h
  have hS : va_S A s.heap s.heap [] := va_S.rf
  have hl := lv_entry ([.ref h0]) (n := 1) (Nat.le_of_ble_eq_true rfl)
  rw [lg_entry_eq]
  generalize (lg_sl ([.ref h0]) ++ List.replicate (1 - (lg_sl ([.ref h0])).length) Slot.unset).toArray = ls at hl ⊢
  have hl : lv_has ls 1 [(0, .ref h0)] := hl
  refine lv_aload_n hx hb dX2_init_0 rfl (lv_at hl 0 rfl) ?_
  refine W.objInit hx hb hown (hts _ mw_238) (hts _ mw_70) (hts _ mw_71) rfl (by rw [hml]; exact hl.1) rfl dX2_init_1 (Nat.le_of_ble_eq_true rfl) (Nat.le_of_ble_eq_true rfl) ?_
  refine W.eq (g2 := F0 m 4 ls []) rfl ?_
  refine lv_aload_n hx hb dX2_init_4 rfl (lv_at hl 0 rfl) ?_
  refine lv_iconst (v := 0) hx hb dX2_init_5 (by decide +kernel) ?_
  refine va_put (D := (dC, dI)) (ci := 2) (v := .int 0) (ty := .int) (C := RX2) (T := TX2) (N := 5) hx hb hts inX2 tyX2 tyX2_ok nmX2 hown hK hP hD hS 0 rfl rfl 0 (by decide) (hts _ mw_239) (fun _ h9 => h9) rfl (by decide +kernel) rfl rfl (Nat.le_of_ble_eq_true rfl) dX2_init_6 (fun H locs hP hD hS => ?_)
  have hP : va_P (dC, dI) vwCl [(h0, .inr (2, [.int 0, .null, .null, .null, .null]))] H := hP
  have hD : va_D A [(h0, .inr (2, [.int 0, .null, .null, .null, .null]))] := hD
  refine lv_aload_n hx hb dX2_init_9 rfl (lv_at hl 0 rfl) ?_
  refine lv_bipush (v := 6) hx hb dX2_init_10 (by decide +kernel) ?_
  refine va_newa (atype := .int) (ty := .int) (a0 := (6, .inl (fun _ => 0))) hx hb (hts _ mw_110) rfl hK hP hD hS hA (za_int 6) (by decide +kernel) (by decide +kernel) (by decide +kernel) (Nat.le_of_ble_eq_true rfl) (Nat.le_of_ble_eq_true rfl) dX2_init_12 (fun q1 cq1 H hK hP hD hS => ?_)
  refine W.widen (k := 1) (n := 6) (Nat.le_of_ble_eq_true rfl) (Nat.le_of_ble_eq_true rfl) ?_
  have hP : va_P (dC, dI) vwCl [(h0, .inr (2, [.int 0, .null, .null, .null, .null])), (q1, .inl (cq1, 6, .inl (fun _ => 0)))] H := hP
  have hD : va_D A [(h0, .inr (2, [.int 0, .null, .null, .null, .null])), (q1, .inl (cq1, 6, .inl (fun _ => 0)))] := hD
  have hK : va_K (dC, dI) vwCl [(cq1, .int)] s := hK
  refine va_putF (D := (dC, dI)) (ci := 2) (v := .ref q1) (ty := (.array .int)) (C := RX2) (T := TX2) (N := 5) hx hb hts inX2 tyX2 tyX2_ok nmX2 hown hK hP hD hS 0 rfl rfl 1 (by decide) (hts _ mw_241) (fun _ h9 => h9) rfl hin rfl (by decide +kernel) rfl rfl (Nat.le_of_ble_eq_true rfl) dX2_init_14 (fun H locs hP hD hS => ?_)
  have hP : va_P (dC, dI) vwCl [(h0, .inr (2, [.int 0, .ref q1, .null, .null, .null])), (q1, .inl (cq1, 6, .inl (fun _ => 0)))] H := hP
  have hD : va_D A [(h0, .inr (2, [.int 0, .ref q1, .null, .null, .null])), (q1, .inl (cq1, 6, .inl (fun _ => 0)))] := hD
  refine lv_aload_n hx hb dX2_init_17 rfl (lv_at hl 0 rfl) ?_
  refine lv_bipush (v := 6) hx hb dX2_init_18 (by decide +kernel) ?_
  refine va_newa (atype := .int) (ty := .int) (a0 := (6, .inl (fun _ => 0))) hx hb (hts _ mw_110) rfl hK hP hD hS hA (za_int 6) (by decide +kernel) (by decide +kernel) (by decide +kernel) (Nat.le_of_ble_eq_true rfl) (Nat.le_of_ble_eq_true rfl) dX2_init_20 (fun q2 cq2 H hK hP hD hS => ?_)
  refine W.widen (k := 2) (n := 12) (Nat.le_of_ble_eq_true rfl) (Nat.le_of_ble_eq_true rfl) ?_
  have hP : va_P (dC, dI) vwCl [(h0, .inr (2, [.int 0, .ref q1, .null, .null, .null])), (q1, .inl (cq1, 6, .inl (fun _ => 0))), (q2, .inl (cq2, 6, .inl (fun _ => 0)))] H := hP
  have hD : va_D A [(h0, .inr (2, [.int 0, .ref q1, .null, .null, .null])), (q1, .inl (cq1, 6, .inl (fun _ => 0))), (q2, .inl (cq2, 6, .inl (fun _ => 0)))] := hD
  have hK : va_K (dC, dI) vwCl [(cq1, .int), (cq2, .int)] s := hK
  refine va_putF (D := (dC, dI)) (ci := 2) (v := .ref q2) (ty := (.array .int)) (C := RX2) (T := TX2) (N := 5) hx hb hts inX2 tyX2 tyX2_ok nmX2 hown hK hP hD hS 0 rfl rfl 2 (by decide) (hts _ mw_243) (fun _ h9 => h9) rfl hin rfl (by decide +kernel) rfl rfl (Nat.le_of_ble_eq_true rfl) dX2_init_22 (fun H locs hP hD hS => ?_)
  have hP : va_P (dC, dI) vwCl [(h0, .inr (2, [.int 0, .ref q1, .ref q2, .null, .null])), (q1, .inl (cq1, 6, .inl (fun _ => 0))), (q2, .inl (cq2, 6, .inl (fun _ => 0)))] H := hP
  have hD : va_D A [(h0, .inr (2, [.int 0, .ref q1, .ref q2, .null, .null])), (q1, .inl (cq1, 6, .inl (fun _ => 0))), (q2, .inl (cq2, 6, .inl (fun _ => 0)))] := hD
  refine lv_aload_n hx hb dX2_init_25 rfl (lv_at hl 0 rfl) ?_
  refine lv_bipush (v := 6) hx hb dX2_init_26 (by decide +kernel) ?_
  refine va_newa (atype := .boolean) (ty := .boolean) (a0 := (6, .inl (fun _ => 0))) hx hb (hts _ mw_257) rfl hK hP hD hS hA (za_boolean 6) (by decide +kernel) (by decide +kernel) (by decide +kernel) (Nat.le_of_ble_eq_true rfl) (Nat.le_of_ble_eq_true rfl) dX2_init_28 (fun q3 cq3 H hK hP hD hS => ?_)
  refine W.widen (k := 3) (n := 18) (Nat.le_of_ble_eq_true rfl) (Nat.le_of_ble_eq_true rfl) ?_
  have hP : va_P (dC, dI) vwCl [(h0, .inr (2, [.int 0, .ref q1, .ref q2, .null, .null])), (q1, .inl (cq1, 6, .inl (fun _ => 0))), (q2, .inl (cq2, 6, .inl (fun _ => 0))), (q3, .inl (cq3, 6, .inl (fun _ => 0)))] H := hP
  have hD : va_D A [(h0, .inr (2, [.int 0, .ref q1, .ref q2, .null, .null])), (q1, .inl (cq1, 6, .inl (fun _ => 0))), (q2, .inl (cq2, 6, .inl (fun _ => 0))), (q3, .inl (cq3, 6, .inl (fun _ => 0)))] := hD
  have hK : va_K (dC, dI) vwCl [(cq1, .int), (cq2, .int), (cq3, .boolean)] s := hK
  refine va_putF (D := (dC, dI)) (ci := 2) (v := .ref q3) (ty := (.array .boolean)) (C := RX2) (T := TX2) (N := 5) hx hb hts inX2 tyX2 tyX2_ok nmX2 hown hK hP hD hS 0 rfl rfl 3 (by decide) (hts _ mw_244) (fun _ h9 => h9) rfl hin rfl (by decide +kernel) rfl rfl (Nat.le_of_ble_eq_true rfl) dX2_init_30 (fun H locs hP hD hS => ?_)
  have hP : va_P (dC, dI) vwCl [(h0, .inr (2, [.int 0, .ref q1, .ref q2, .ref q3, .null])), (q1, .inl (cq1, 6, .inl (fun _ => 0))), (q2, .inl (cq2, 6, .inl (fun _ => 0))), (q3, .inl (cq3, 6, .inl (fun _ => 0)))] H := hP
  have hD : va_D A [(h0, .inr (2, [.int 0, .ref q1, .ref q2, .ref q3, .null])), (q1, .inl (cq1, 6, .inl (fun _ => 0))), (q2, .inl (cq2, 6, .inl (fun _ => 0))), (q3, .inl (cq3, 6, .inl (fun _ => 0)))] := hD
  refine lv_aload_n hx hb dX2_init_33 rfl (lv_at hl 0 rfl) ?_
  refine lv_bipush (v := 6) hx hb dX2_init_34 (by decide +kernel) ?_
  refine va_newa (atype := .boolean) (ty := .boolean) (a0 := (6, .inl (fun _ => 0))) hx hb (hts _ mw_257) rfl hK hP hD hS hA (za_boolean 6) (by decide +kernel) (by decide +kernel) (by decide +kernel) (Nat.le_of_ble_eq_true rfl) (Nat.le_of_ble_eq_true rfl) dX2_init_36 (fun q4 cq4 H hK hP hD hS => ?_)
  refine W.widen (k := 4) (n := 24) (Nat.le_of_ble_eq_true rfl) (Nat.le_of_ble_eq_true rfl) ?_
  have hP : va_P (dC, dI) vwCl [(h0, .inr (2, [.int 0, .ref q1, .ref q2, .ref q3, .null])), (q1, .inl (cq1, 6, .inl (fun _ => 0))), (q2, .inl (cq2, 6, .inl (fun _ => 0))), (q3, .inl (cq3, 6, .inl (fun _ => 0))), (q4, .inl (cq4, 6, .inl (fun _ => 0)))] H := hP
  have hD : va_D A [(h0, .inr (2, [.int 0, .ref q1, .ref q2, .ref q3, .null])), (q1, .inl (cq1, 6, .inl (fun _ => 0))), (q2, .inl (cq2, 6, .inl (fun _ => 0))), (q3, .inl (cq3, 6, .inl (fun _ => 0))), (q4, .inl (cq4, 6, .inl (fun _ => 0)))] := hD
  have hK : va_K (dC, dI) vwCl [(cq1, .int), (cq2, .int), (cq3, .boolean), (cq4, .boolean)] s := hK
  refine va_putF (D := (dC, dI)) (ci := 2) (v := .ref q4) (ty := (.array .boolean)) (C := RX2) (T := TX2) (N := 5) hx hb hts inX2 tyX2 tyX2_ok nmX2 hown hK hP hD hS 0 rfl rfl 4 (by decide) (hts _ mw_245) (fun _ h9 => h9) rfl hin rfl (by decide +kernel) rfl rfl (Nat.le_of_ble_eq_true rfl) dX2_init_38 (fun H locs hP hD hS => ?_)
  have hP : va_P (dC, dI) vwCl [(h0, .inr (2, [.int 0, .ref q1, .ref q2, .ref q3, .ref q4])), (q1, .inl (cq1, 6, .inl (fun _ => 0))), (q2, .inl (cq2, 6, .inl (fun _ => 0))), (q3, .inl (cq3, 6, .inl (fun _ => 0))), (q4, .inl (cq4, 6, .inl (fun _ => 0)))] H := hP
  have hD : va_D A [(h0, .inr (2, [.int 0, .ref q1, .ref q2, .ref q3, .ref q4])), (q1, .inl (cq1, 6, .inl (fun _ => 0))), (q2, .inl (cq2, 6, .inl (fun _ => 0))), (q3, .inl (cq3, 6, .inl (fun _ => 0))), (q4, .inl (cq4, 6, .inl (fun _ => 0)))] := hD
  have hP9 := hP.sub (ws' := [(h0, .inr (2, [.int 0, .ref q1, .ref q2, .ref q3, .ref q4])), (q1, .inl (cq1, 6, .inl (fun _ => 0))), (q2, .inl (cq2, 6, .inl (fun _ => 0))), (q3, .inl (cq3, 6, .inl (fun _ => 0))), (q4, .inl (cq4, 6, .inl (fun _ => 0)))]) [0, 1, 2, 3, 4] rfl
  have hD9 := hD.sub (ws' := [(h0, .inr (2, [.int 0, .ref q1, .ref q2, .ref q3, .ref q4])), (q1, .inl (cq1, 6, .inl (fun _ => 0))), (q2, .inl (cq2, 6, .inl (fun _ => 0))), (q3, .inl (cq3, 6, .inl (fun _ => 0))), (q4, .inl (cq4, 6, .inl (fun _ => 0)))]) [0, 1, 2, 3, 4] (by decide) rfl
  have hK9 := hK.sub (tys' := [(cq1, .int), (cq2, .int), (cq3, .boolean), (cq4, .boolean)]) [0, 1, 2, 3] rfl
  refine W.widen (k := 4) (n := 24) (Nat.le_of_ble_eq_true rfl) (Nat.le_of_ble_eq_true rfl) ?_
  exact W.vret hx hb hr (fun t ht hW => ⟨⟨(), rfl, trivial, q1, q2, q3, q4, cq1, cq2, cq3, cq4, by rw [ht]; exact hP9, va_K.moved hW.alike hK9, hD9⟩, hS.F ht⟩) hS.2.2 dX2_init_41

set_option maxHeartbeats 4000000 in
set_option maxRecDepth 100000 in
/-- new DrumBoats$Crew, all its cells kept -/
theorem kf_X1_init (l : Launch) (dC : Nat → ClassId) (dI : Nat → Nat → Nat) (sz : Nat) (h0 : Nat) : Met l yX1_init (.code yX1_init cX1_init 1 none :: GW) ({ frames := 1, cells := 2, slots := 16, locals := 12 }) (va_Pc [.ref h0] (fun U => U.heap.size = sz ∧ va_P (dC, dI) vwCl [(h0, .inr (1, [.int 0, .int 0, .int 0, .int 0, .null, .long 0, .int 0, .null]))] U.heap ∧ va_K (dC, dI) vwCl [] U ∧ va_D (fun _ => True) [(h0, .inr (1, [.int 0, .int 0, .int 0, .int 0, .null, .long 0, .int 0, .null]))])) (va_Qv (fun _ : Unit => True) (fun _ t => ∃ (q1 : Nat), ∃ (q2 : Nat), ∃ (cq1 : ClassId), ∃ (cq2 : ClassId), va_P (dC, dI) vwCl [(h0, .inr (1, [.int 2, .int 0, .int 4, .int 0, .ref q1, .long 0, .int 0, .ref q2])), (q1, .inl (cq1, 8, .inl (fun _ => 0))), (q2, .inl (cq2, 8, .inl (fun _ => 0)))] t.heap ∧ va_K (dC, dI) vwCl [(cq1, .int), (cq2, .int)] t ∧ va_D (va_A [(h0, .inr (1, [.int 0, .int 0, .int 0, .int 0, .null, .long 0, .int 0, .null]))] sz) [(h0, .inr (1, [.int 2, .int 0, .int 4, .int 0, .ref q1, .long 0, .int 0, .ref q2])), (q1, .inl (cq1, 8, .inl (fun _ => 0))), (q2, .inl (cq2, 8, .inl (fun _ => 0)))]) (va_A [(h0, .inr (1, [.int 0, .int 0, .int 0, .int 0, .null, .long 0, .int 0, .null]))] sz)) 2 16 (va_A [(h0, .inr (1, [.int 0, .int 0, .int 0, .int 0, .null, .long 0, .int 0, .null]))] sz) := by
  refine Met.ofW (cc := cX1_init) (maxL := 1) (ret := none) (by decide) rfl ?_
  intro p e s m args below meth c s₁ B hml hv
  obtain ⟨rfl, hsz, hP, hK, hD0⟩ := hv
  have hx := B.exec
  have hb := B.bytes
  have hr := B.returns
  have hts0 := atoms_spec (ws := .code yX1_init cX1_init 1 none :: GW) B.pre
  have hts := fun w (h : w ∈ GW) => hts0 w (List.mem_cons_of_mem _ h)
  have hown : s.vm.findClass RX1 = some m.cls := findClass_of_methodNamed B.named
  have hlocks := B.notSynchronized
  have hin : meth.name = "<init>" := (name_of_methodNamed B.named B.method).1
  subst hsz
  have hD := hD0.self (sz := s.heap.size)
  generalize hAe : va_A [(h0, .inr (1, [.int 0, .int 0, .int 0, .int 0, .null, .long 0, .int 0, .null]))] s.heap.size = A at hD ⊢
  have hA : ∀ q : Nat, s.heap.size ≤ q → A q := fun q h => by rw [← hAe]; exact Or.inr h
  have hS : va_S A s.heap s.heap [] := va_S.rf
  have hl := lv_entry ([.ref h0]) (n := 1) (Nat.le_of_ble_eq_true rfl)
  rw [lg_entry_eq]
  generalize (lg_sl ([.ref h0]) ++ List.replicate (1 - (lg_sl ([.ref h0])).length) Slot.unset).toArray = ls at hl ⊢
  have hl : lv_has ls 1 [(0, .ref h0)] := hl
  refine lv_aload_n hx hb dX1_init_0 rfl (lv_at hl 0 rfl) ?_
  refine W.objInit hx hb hown (hts _ mw_262) (hts _ mw_70) (hts _ mw_71) rfl (by rw [hml]; exact hl.1) rfl dX1_init_1 (Nat.le_of_ble_eq_true rfl) (Nat.le_of_ble_eq_true rfl) ?_
  refine W.eq (g2 := F0 m 4 ls []) rfl ?_
  refine lv_aload_n hx hb dX1_init_4 rfl (lv_at hl 0 rfl) ?_
  refine lv_iconst (v := 2) hx hb dX1_init_5 (by decide +kernel) ?_
  refine va_put (D := (dC, dI)) (ci := 1) (v := .int 2) (ty := .int) (C := RX1) (T := TX1) (N := 8) hx hb hts inX1 tyX1 tyX1_ok nmX1 hown hK hP hD hS 0 rfl rfl 0 (by decide) (hts _ mw_263) (fun _ h9 => h9) rfl (by decide +kernel) rfl rfl (Nat.le_of_ble_eq_true rfl) dX1_init_6 (fun H locs hP hD hS => ?_)
  have hP : va_P (dC, dI) vwCl [(h0, .inr (1, [.int 2, .int 0, .int 0, .int 0, .null, .long 0, .int 0, .null]))] H := hP
  have hD : va_D A [(h0, .inr (1, [.int 2, .int 0, .int 0, .int 0, .null, .long 0, .int 0, .null]))] := hD
  refine lv_aload_n hx hb dX1_init_9 rfl (lv_at hl 0 rfl) ?_
  refine lv_iconst (v := 0) hx hb dX1_init_10 (by decide +kernel) ?_
  refine va_put (D := (dC, dI)) (ci := 1) (v := .int 0) (ty := .int) (C := RX1) (T := TX1) (N := 8) hx hb hts inX1 tyX1 tyX1_ok nmX1 hown hK hP hD hS 0 rfl rfl 1 (by decide) (hts _ mw_266) (fun _ h9 => h9) rfl (by decide +kernel) rfl rfl (Nat.le_of_ble_eq_true rfl) dX1_init_11 (fun H locs hP hD hS => ?_)
  have hP : va_P (dC, dI) vwCl [(h0, .inr (1, [.int 2, .int 0, .int 0, .int 0, .null, .long 0, .int 0, .null]))] H := hP
  have hD : va_D A [(h0, .inr (1, [.int 2, .int 0, .int 0, .int 0, .null, .long 0, .int 0, .null]))] := hD
  refine lv_aload_n hx hb dX1_init_14 rfl (lv_at hl 0 rfl) ?_
  refine lv_iconst (v := 4) hx hb dX1_init_15 (by decide +kernel) ?_
  refine va_put (D := (dC, dI)) (ci := 1) (v := .int 4) (ty := .int) (C := RX1) (T := TX1) (N := 8) hx hb hts inX1 tyX1 tyX1_ok nmX1 hown hK hP hD hS 0 rfl rfl 2 (by decide) (hts _ mw_268) (fun _ h9 => h9) rfl (by decide +kernel) rfl rfl (Nat.le_of_ble_eq_true rfl) dX1_init_16 (fun H locs hP hD hS => ?_)
  have hP : va_P (dC, dI) vwCl [(h0, .inr (1, [.int 2, .int 0, .int 4, .int 0, .null, .long 0, .int 0, .null]))] H := hP
  have hD : va_D A [(h0, .inr (1, [.int 2, .int 0, .int 4, .int 0, .null, .long 0, .int 0, .null]))] := hD
  refine lv_aload_n hx hb dX1_init_19 rfl (lv_at hl 0 rfl) ?_
  refine lv_iconst (v := 0) hx hb dX1_init_20 (by decide +kernel) ?_
  refine va_put (D := (dC, dI)) (ci := 1) (v := .int 0) (ty := .int) (C := RX1) (T := TX1) (N := 8) hx hb hts inX1 tyX1 tyX1_ok nmX1 hown hK hP hD hS 0 rfl rfl 3 (by decide) (hts _ mw_271) (fun _ h9 => h9) rfl (by decide +kernel) rfl rfl (Nat.le_of_ble_eq_true rfl) dX1_init_21 (fun H locs hP hD hS => ?_)
  have hP : va_P (dC, dI) vwCl [(h0, .inr (1, [.int 2, .int 0, .int 4, .int 0, .null, .long 0, .int 0, .null]))] H := hP
  have hD : va_D A [(h0, .inr (1, [.int 2, .int 0, .int 4, .int 0, .null, .long 0, .int 0, .null]))] := hD
  refine lv_aload_n hx hb dX1_init_24 rfl (lv_at hl 0 rfl) ?_
  refine lv_bipush (v := 8) hx hb dX1_init_25 (by decide +kernel) ?_
  refine va_newa (atype := .int) (ty := .int) (a0 := (8, .inl (fun _ => 0))) hx hb (hts _ mw_110) rfl hK hP hD hS hA (za_int 8) (by decide +kernel) (by decide +kernel) (by decide +kernel) (Nat.le_of_ble_eq_true rfl) (Nat.le_of_ble_eq_true rfl) dX1_init_27 (fun q1 cq1 H hK hP hD hS => ?_)
  refine W.widen (k := 1) (n := 8) (Nat.le_of_ble_eq_true rfl) (Nat.le_of_ble_eq_true rfl) ?_
  have hP : va_P (dC, dI) vwCl [(h0, .inr (1, [.int 2, .int 0, .int 4, .int 0, .null, .long 0, .int 0, .null])), (q1, .inl (cq1, 8, .inl (fun _ => 0)))] H := hP
  have hD : va_D A [(h0, .inr (1, [.int 2, .int 0, .int 4, .int 0, .null, .long 0, .int 0, .null])), (q1, .inl (cq1, 8, .inl (fun _ => 0)))] := hD
  have hK : va_K (dC, dI) vwCl [(cq1, .int)] s := hK
  refine va_putF (D := (dC, dI)) (ci := 1) (v := .ref q1) (ty := (.array .int)) (C := RX1) (T := TX1) (N := 8) hx hb hts inX1 tyX1 tyX1_ok nmX1 hown hK hP hD hS 0 rfl rfl 4 (by decide) (hts _ mw_274) (fun _ h9 => h9) rfl hin rfl (by decide +kernel) rfl rfl (Nat.le_of_ble_eq_true rfl) dX1_init_29 (fun H locs hP hD hS => ?_)
  have hP : va_P (dC, dI) vwCl [(h0, .inr (1, [.int 2, .int 0, .int 4, .int 0, .ref q1, .long 0, .int 0, .null])), (q1, .inl (cq1, 8, .inl (fun _ => 0)))] H := hP
  have hD : va_D A [(h0, .inr (1, [.int 2, .int 0, .int 4, .int 0, .ref q1, .long 0, .int 0, .null])), (q1, .inl (cq1, 8, .inl (fun _ => 0)))] := hD
  refine lv_aload_n hx hb dX1_init_32 rfl (lv_at hl 0 rfl) ?_
  refine lv_lconst (v := 0) hx hb dX1_init_33 (by decide +kernel) ?_
  refine va_put (D := (dC, dI)) (ci := 1) (v := .long 0) (ty := .long) (C := RX1) (T := TX1) (N := 8) hx hb hts inX1 tyX1 tyX1_ok nmX1 hown hK hP hD hS 0 rfl rfl 5 (by decide) (hts _ mw_276) (fun _ h9 => h9) rfl (by decide +kernel) rfl rfl (Nat.le_of_ble_eq_true rfl) dX1_init_34 (fun H locs hP hD hS => ?_)
  have hP : va_P (dC, dI) vwCl [(h0, .inr (1, [.int 2, .int 0, .int 4, .int 0, .ref q1, .long 0, .int 0, .null])), (q1, .inl (cq1, 8, .inl (fun _ => 0)))] H := hP
  have hD : va_D A [(h0, .inr (1, [.int 2, .int 0, .int 4, .int 0, .ref q1, .long 0, .int 0, .null])), (q1, .inl (cq1, 8, .inl (fun _ => 0)))] := hD
  refine lv_aload_n hx hb dX1_init_37 rfl (lv_at hl 0 rfl) ?_
  refine lv_iconst (v := 0) hx hb dX1_init_38 (by decide +kernel) ?_
  refine va_put (D := (dC, dI)) (ci := 1) (v := .int 0) (ty := .boolean) (C := RX1) (T := TX1) (N := 8) hx hb hts inX1 tyX1 tyX1_ok nmX1 hown hK hP hD hS 0 rfl rfl 6 (by decide) (hts _ mw_278) (fun _ h9 => h9) rfl (by decide +kernel) rfl rfl (Nat.le_of_ble_eq_true rfl) dX1_init_39 (fun H locs hP hD hS => ?_)
  have hP : va_P (dC, dI) vwCl [(h0, .inr (1, [.int 2, .int 0, .int 4, .int 0, .ref q1, .long 0, .int 0, .null])), (q1, .inl (cq1, 8, .inl (fun _ => 0)))] H := hP
  have hD : va_D A [(h0, .inr (1, [.int 2, .int 0, .int 4, .int 0, .ref q1, .long 0, .int 0, .null])), (q1, .inl (cq1, 8, .inl (fun _ => 0)))] := hD
  refine lv_aload_n hx hb dX1_init_42 rfl (lv_at hl 0 rfl) ?_
  refine lv_bipush (v := 8) hx hb dX1_init_43 (by decide +kernel) ?_
  refine va_newa (atype := .int) (ty := .int) (a0 := (8, .inl (fun _ => 0))) hx hb (hts _ mw_110) rfl hK hP hD hS hA (za_int 8) (by decide +kernel) (by decide +kernel) (by decide +kernel) (Nat.le_of_ble_eq_true rfl) (Nat.le_of_ble_eq_true rfl) dX1_init_45 (fun q2 cq2 H hK hP hD hS => ?_)
  refine W.widen (k := 2) (n := 16) (Nat.le_of_ble_eq_true rfl) (Nat.le_of_ble_eq_true rfl) ?_
  have hP : va_P (dC, dI) vwCl [(h0, .inr (1, [.int 2, .int 0, .int 4, .int 0, .ref q1, .long 0, .int 0, .null])), (q1, .inl (cq1, 8, .inl (fun _ => 0))), (q2, .inl (cq2, 8, .inl (fun _ => 0)))] H := hP
  have hD : va_D A [(h0, .inr (1, [.int 2, .int 0, .int 4, .int 0, .ref q1, .long 0, .int 0, .null])), (q1, .inl (cq1, 8, .inl (fun _ => 0))), (q2, .inl (cq2, 8, .inl (fun _ => 0)))] := hD
  have hK : va_K (dC, dI) vwCl [(cq1, .int), (cq2, .int)] s := hK
  refine va_putF (D := (dC, dI)) (ci := 1) (v := .ref q2) (ty := (.array .int)) (C := RX1) (T := TX1) (N := 8) hx hb hts inX1 tyX1 tyX1_ok nmX1 hown hK hP hD hS 0 rfl rfl 7 (by decide) (hts _ mw_280) (fun _ h9 => h9) rfl hin rfl (by decide +kernel) rfl rfl (Nat.le_of_ble_eq_true rfl) dX1_init_47 (fun H locs hP hD hS => ?_)
  have hP : va_P (dC, dI) vwCl [(h0, .inr (1, [.int 2, .int 0, .int 4, .int 0, .ref q1, .long 0, .int 0, .ref q2])), (q1, .inl (cq1, 8, .inl (fun _ => 0))), (q2, .inl (cq2, 8, .inl (fun _ => 0)))] H := hP
  have hD : va_D A [(h0, .inr (1, [.int 2, .int 0, .int 4, .int 0, .ref q1, .long 0, .int 0, .ref q2])), (q1, .inl (cq1, 8, .inl (fun _ => 0))), (q2, .inl (cq2, 8, .inl (fun _ => 0)))] := hD
  have hP9 := hP.sub (ws' := [(h0, .inr (1, [.int 2, .int 0, .int 4, .int 0, .ref q1, .long 0, .int 0, .ref q2])), (q1, .inl (cq1, 8, .inl (fun _ => 0))), (q2, .inl (cq2, 8, .inl (fun _ => 0)))]) [0, 1, 2] rfl
  have hD9 := hD.sub (ws' := [(h0, .inr (1, [.int 2, .int 0, .int 4, .int 0, .ref q1, .long 0, .int 0, .ref q2])), (q1, .inl (cq1, 8, .inl (fun _ => 0))), (q2, .inl (cq2, 8, .inl (fun _ => 0)))]) [0, 1, 2] (by decide) rfl
  have hK9 := hK.sub (tys' := [(cq1, .int), (cq2, .int)]) [0, 1] rfl
  refine W.widen (k := 2) (n := 16) (Nat.le_of_ble_eq_true rfl) (Nat.le_of_ble_eq_true rfl) ?_
  exact W.vret hx hb hr (fun t ht hW => ⟨⟨(), rfl, trivial, q1, q2, cq1, cq2, by rw [ht]; exact hP9, va_K.moved hW.alike hK9, hD9⟩, hS.F ht⟩) hS.2.2 dX1_init_50

set_option maxHeartbeats 4000000 in
set_option maxRecDepth 100000 in
/-- new DrumBoats$Rule, all its cells kept -/
theorem kf_X5_init (l : Launch) (dC : Nat → ClassId) (dI : Nat → Nat → Nat) (sz : Nat) (h0 : Nat) : Met l yX5_init (.code yX5_init cX5_init 1 none :: GW) ({ frames := 1, cells := 5, slots := 40, locals := 12 }) (va_Pc [.ref h0] (fun U => U.heap.size = sz ∧ va_P (dC, dI) vwCl [(h0, .inr (5, [.int 0, .null, .null, .null, .null, .null]))] U.heap ∧ va_K (dC, dI) vwCl [] U ∧ va_D (fun _ => True) [(h0, .inr (5, [.int 0, .null, .null, .null, .null, .null]))])) (va_Qv (fun _ : Unit => True) (fun _ t => ∃ (q1 : Nat), ∃ (q2 : Nat), ∃ (q3 : Nat), ∃ (q4 : Nat), ∃ (q5 : Nat), ∃ (cq1 : ClassId), ∃ (cq2 : ClassId), ∃ (cq3 : ClassId), ∃ (cq4 : ClassId), ∃ (cq5 : ClassId), va_P (dC, dI) vwCl [(h0, .inr (5, [.int 0, .ref q1, .ref q2, .ref q3, .ref q4, .ref q5])), (q1, .inl (cq1, 8, .inl (fun _ => 0))), (q2, .inl (cq2, 8, .inl (fun _ => 0))), (q3, .inl (cq3, 8, .inl (fun _ => 0))), (q4, .inl (cq4, 8, .inl (fun _ => 0))), (q5, .inl (cq5, 8, .inl (fun _ => 0)))] t.heap ∧ va_K (dC, dI) vwCl [(cq1, .boolean), (cq2, .int), (cq3, .int), (cq4, .int), (cq5, .boolean)] t ∧ va_D (va_A [(h0, .inr (5, [.int 0, .null, .null, .null, .null, .null]))] sz) [(h0, .inr (5, [.int 0, .ref q1, .ref q2, .ref q3, .ref q4, .ref q5])), (q1, .inl (cq1, 8, .inl (fun _ => 0))), (q2, .inl (cq2, 8, .inl (fun _ => 0))), (q3, .inl (cq3, 8, .inl (fun _ => 0))), (q4, .inl (cq4, 8, .inl (fun _ => 0))), (q5, .inl (cq5, 8, .inl (fun _ => 0)))]) (va_A [(h0, .inr (5, [.int 0, .null, .null, .null, .null, .null]))] sz)) 5 40 (va_A [(h0, .inr (5, [.int 0, .null, .null, .null, .null, .null]))] sz) := by
  refine Met.ofW (cc := cX5_init) (maxL := 1) (ret := none) (by decide) rfl ?_
  intro p e s m args below meth c s₁ B hml hv
  obtain ⟨rfl, hsz, hP, hK, hD0⟩ := hv
  have hx := B.exec
  have hb := B.bytes
  have hr := B.returns
  have hts0 := atoms_spec (ws := .code yX5_init cX5_init 1 none :: GW) B.pre
  have hts := fun w (h : w ∈ GW) => hts0 w (List.mem_cons_of_mem _ h)
  have hown : s.vm.findClass RX5 = some m.cls := findClass_of_methodNamed B.named
  have hlocks := B.notSynchronized
  have hin : meth.name = "<init>" := (name_of_methodNamed B.named B.method).1
  subst hsz
  have hD := hD0.self (sz := s.heap.size)
  generalize hAe : va_A [(h0, .inr (5, [.int 0, .null, .null, .null, .null, .null]))] s.heap.size = A at hD ⊢
  have hA : ∀ q : Nat, s.heap.size ≤ q → A q := fun q h => by rw [← hAe]; exact Or.inr h
  have hS : va_S A s.heap s.heap [] := va_S.rf
  have hl := lv_entry ([.ref h0]) (n := 1) (Nat.le_of_ble_eq_true rfl)
  rw [lg_entry_eq]
  generalize (lg_sl ([.ref h0]) ++ List.replicate (1 - (lg_sl ([.ref h0])).length) Slot.unset).toArray = ls at hl ⊢
  have hl : lv_has ls 1 [(0, .ref h0)] := hl
  refine lv_aload_n hx hb dX5_init_0 rfl (lv_at hl 0 rfl) ?_
  refine W.objInit hx hb hown (hts _ mw_306) (hts _ mw_70) (hts _ mw_71) rfl (by rw [hml]; exact hl.1) rfl dX5_init_1 (Nat.le_of_ble_eq_true rfl) (Nat.le_of_ble_eq_true rfl) ?_
  refine W.eq (g2 := F0 m 4 ls []) rfl ?_
  refine lv_aload_n hx hb dX5_init_4 rfl (lv_at hl 0 rfl) ?_
  refine lv_iconst (v := 0) hx hb dX5_init_5 (by decide +kernel) ?_
  refine va_put (D := (dC, dI)) (ci := 5) (v := .int 0) (ty := .int) (C := RX5) (T := TX5) (N := 6) hx hb hts inX5 tyX5 tyX5_ok nmX5 hown hK hP hD hS 0 rfl rfl 0 (by decide) (hts _ mw_307) (fun _ h9 => h9) rfl (by decide +kernel) rfl rfl (Nat.le_of_ble_eq_true rfl) dX5_init_6 (fun H locs hP hD hS => ?_)
  have hP : va_P (dC, dI) vwCl [(h0, .inr (5, [.int 0, .null, .null, .null, .null, .null]))] H := hP
  have hD : va_D A [(h0, .inr (5, [.int 0, .null, .null, .null, .null, .null]))] := hD
  refine lv_aload_n hx hb dX5_init_9 rfl (lv_at hl 0 rfl) ?_
  refine lv_bipush (v := 8) hx hb dX5_init_10 (by decide +kernel) ?_
  refine va_newa (atype := .boolean) (ty := .boolean) (a0 := (8, .inl (fun _ => 0))) hx hb (hts _ mw_257) rfl hK hP hD hS hA (za_boolean 8) (by decide +kernel) (by decide +kernel) (by decide +kernel) (Nat.le_of_ble_eq_true rfl) (Nat.le_of_ble_eq_true rfl) dX5_init_12 (fun q1 cq1 H hK hP hD hS => ?_)
  refine W.widen (k := 1) (n := 8) (Nat.le_of_ble_eq_true rfl) (Nat.le_of_ble_eq_true rfl) ?_
  have hP : va_P (dC, dI) vwCl [(h0, .inr (5, [.int 0, .null, .null, .null, .null, .null])), (q1, .inl (cq1, 8, .inl (fun _ => 0)))] H := hP
  have hD : va_D A [(h0, .inr (5, [.int 0, .null, .null, .null, .null, .null])), (q1, .inl (cq1, 8, .inl (fun _ => 0)))] := hD
  have hK : va_K (dC, dI) vwCl [(cq1, .boolean)] s := hK
  refine va_putF (D := (dC, dI)) (ci := 5) (v := .ref q1) (ty := (.array .boolean)) (C := RX5) (T := TX5) (N := 6) hx hb hts inX5 tyX5 tyX5_ok nmX5 hown hK hP hD hS 0 rfl rfl 1 (by decide) (hts _ mw_309) (fun _ h9 => h9) rfl hin rfl (by decide +kernel) rfl rfl (Nat.le_of_ble_eq_true rfl) dX5_init_14 (fun H locs hP hD hS => ?_)
  have hP : va_P (dC, dI) vwCl [(h0, .inr (5, [.int 0, .ref q1, .null, .null, .null, .null])), (q1, .inl (cq1, 8, .inl (fun _ => 0)))] H := hP
  have hD : va_D A [(h0, .inr (5, [.int 0, .ref q1, .null, .null, .null, .null])), (q1, .inl (cq1, 8, .inl (fun _ => 0)))] := hD
  refine lv_aload_n hx hb dX5_init_17 rfl (lv_at hl 0 rfl) ?_
  refine lv_bipush (v := 8) hx hb dX5_init_18 (by decide +kernel) ?_
  refine va_newa (atype := .int) (ty := .int) (a0 := (8, .inl (fun _ => 0))) hx hb (hts _ mw_110) rfl hK hP hD hS hA (za_int 8) (by decide +kernel) (by decide +kernel) (by decide +kernel) (Nat.le_of_ble_eq_true rfl) (Nat.le_of_ble_eq_true rfl) dX5_init_20 (fun q2 cq2 H hK hP hD hS => ?_)
  refine W.widen (k := 2) (n := 16) (Nat.le_of_ble_eq_true rfl) (Nat.le_of_ble_eq_true rfl) ?_
  have hP : va_P (dC, dI) vwCl [(h0, .inr (5, [.int 0, .ref q1, .null, .null, .null, .null])), (q1, .inl (cq1, 8, .inl (fun _ => 0))), (q2, .inl (cq2, 8, .inl (fun _ => 0)))] H := hP
  have hD : va_D A [(h0, .inr (5, [.int 0, .ref q1, .null, .null, .null, .null])), (q1, .inl (cq1, 8, .inl (fun _ => 0))), (q2, .inl (cq2, 8, .inl (fun _ => 0)))] := hD
  have hK : va_K (dC, dI) vwCl [(cq1, .boolean), (cq2, .int)] s := hK
  refine va_putF (D := (dC, dI)) (ci := 5) (v := .ref q2) (ty := (.array .int)) (C := RX5) (T := TX5) (N := 6) hx hb hts inX5 tyX5 tyX5_ok nmX5 hown hK hP hD hS 0 rfl rfl 2 (by decide) (hts _ mw_311) (fun _ h9 => h9) rfl hin rfl (by decide +kernel) rfl rfl (Nat.le_of_ble_eq_true rfl) dX5_init_22 (fun H locs hP hD hS => ?_)
  have hP : va_P (dC, dI) vwCl [(h0, .inr (5, [.int 0, .ref q1, .ref q2, .null, .null, .null])), (q1, .inl (cq1, 8, .inl (fun _ => 0))), (q2, .inl (cq2, 8, .inl (fun _ => 0)))] H := hP
  have hD : va_D A [(h0, .inr (5, [.int 0, .ref q1, .ref q2, .null, .null, .null])), (q1, .inl (cq1, 8, .inl (fun _ => 0))), (q2, .inl (cq2, 8, .inl (fun _ => 0)))] := hD
  refine lv_aload_n hx hb dX5_init_25 rfl (lv_at hl 0 rfl) ?_
  refine lv_bipush (v := 8) hx hb dX5_init_26 (by decide +kernel) ?_
  refine va_newa (atype := .int) (ty := .int) (a0 := (8, .inl (fun _ => 0))) hx hb (hts _ mw_110) rfl hK hP hD hS hA (za_int 8) (by decide +kernel) (by decide +kernel) (by decide +kernel) (Nat.le_of_ble_eq_true rfl) (Nat.le_of_ble_eq_true rfl) dX5_init_28 (fun q3 cq3 H hK hP hD hS => ?_)
  refine W.widen (k := 3) (n := 24) (Nat.le_of_ble_eq_true rfl) (Nat.le_of_ble_eq_true rfl) ?_
  have hP : va_P (dC, dI) vwCl [(h0, .inr (5, [.int 0, .ref q1, .ref q2, .null, .null, .null])), (q1, .inl (cq1, 8, .inl (fun _ => 0))), (q2, .inl (cq2, 8, .inl (fun _ => 0))), (q3, .inl (cq3, 8, .inl (fun _ => 0)))] H := hP
  have hD : va_D A [(h0, .inr (5, [.int 0, .ref q1, .ref q2, .null, .null, .null])), (q1, .inl (cq1, 8, .inl (fun _ => 0))), (q2, .inl (cq2, 8, .inl (fun _ => 0))), (q3, .inl (cq3, 8, .inl (fun _ => 0)))] := hD
  have hK : va_K (dC, dI) vwCl [(cq1, .boolean), (cq2, .int), (cq3, .int)] s := hK
  refine va_putF (D := (dC, dI)) (ci := 5) (v := .ref q3) (ty := (.array .int)) (C := RX5) (T := TX5) (N := 6) hx hb hts inX5 tyX5 tyX5_ok nmX5 hown hK hP hD hS 0 rfl rfl 3 (by decide) (hts _ mw_313) (fun _ h9 => h9) rfl hin rfl (by decide +kernel) rfl rfl (Nat.le_of_ble_eq_true rfl) dX5_init_30 (fun H locs hP hD hS => ?_)
  have hP : va_P (dC, dI) vwCl [(h0, .inr (5, [.int 0, .ref q1, .ref q2, .ref q3, .null, .null])), (q1, .inl (cq1, 8, .inl (fun _ => 0))), (q2, .inl (cq2, 8, .inl (fun _ => 0))), (q3, .inl (cq3, 8, .inl (fun _ => 0)))] H := hP
  have hD : va_D A [(h0, .inr (5, [.int 0, .ref q1, .ref q2, .ref q3, .null, .null])), (q1, .inl (cq1, 8, .inl (fun _ => 0))), (q2, .inl (cq2, 8, .inl (fun _ => 0))), (q3, .inl (cq3, 8, .inl (fun _ => 0)))] := hD
  refine lv_aload_n hx hb dX5_init_33 rfl (lv_at hl 0 rfl) ?_
  refine lv_bipush (v := 8) hx hb dX5_init_34 (by decide +kernel) ?_
  refine va_newa (atype := .int) (ty := .int) (a0 := (8, .inl (fun _ => 0))) hx hb (hts _ mw_110) rfl hK hP hD hS hA (za_int 8) (by decide +kernel) (by decide +kernel) (by decide +kernel) (Nat.le_of_ble_eq_true rfl) (Nat.le_of_ble_eq_true rfl) dX5_init_36 (fun q4 cq4 H hK hP hD hS => ?_)
  refine W.widen (k := 4) (n := 32) (Nat.le_of_ble_eq_true rfl) (Nat.le_of_ble_eq_true rfl) ?_
  have hP : va_P (dC, dI) vwCl [(h0, .inr (5, [.int 0, .ref q1, .ref q2, .ref q3, .null, .null])), (q1, .inl (cq1, 8, .inl (fun _ => 0))), (q2, .inl (cq2, 8, .inl (fun _ => 0))), (q3, .inl (cq3, 8, .inl (fun _ => 0))), (q4, .inl (cq4, 8, .inl (fun _ => 0)))] H := hP
  have hD : va_D A [(h0, .inr (5, [.int 0, .ref q1, .ref q2, .ref q3, .null, .null])), (q1, .inl (cq1, 8, .inl (fun _ => 0))), (q2, .inl (cq2, 8, .inl (fun _ => 0))), (q3, .inl (cq3, 8, .inl (fun _ => 0))), (q4, .inl (cq4, 8, .inl (fun _ => 0)))] := hD
  have hK : va_K (dC, dI) vwCl [(cq1, .boolean), (cq2, .int), (cq3, .int), (cq4, .int)] s := hK
  refine va_putF (D := (dC, dI)) (ci := 5) (v := .ref q4) (ty := (.array .int)) (C := RX5) (T := TX5) (N := 6) hx hb hts inX5 tyX5 tyX5_ok nmX5 hown hK hP hD hS 0 rfl rfl 4 (by decide) (hts _ mw_315) (fun _ h9 => h9) rfl hin rfl (by decide +kernel) rfl rfl (Nat.le_of_ble_eq_true rfl) dX5_init_38 (fun H locs hP hD hS => ?_)
  have hP : va_P (dC, dI) vwCl [(h0, .inr (5, [.int 0, .ref q1, .ref q2, .ref q3, .ref q4, .null])), (q1, .inl (cq1, 8, .inl (fun _ => 0))), (q2, .inl (cq2, 8, .inl (fun _ => 0))), (q3, .inl (cq3, 8, .inl (fun _ => 0))), (q4, .inl (cq4, 8, .inl (fun _ => 0)))] H := hP
  have hD : va_D A [(h0, .inr (5, [.int 0, .ref q1, .ref q2, .ref q3, .ref q4, .null])), (q1, .inl (cq1, 8, .inl (fun _ => 0))), (q2, .inl (cq2, 8, .inl (fun _ => 0))), (q3, .inl (cq3, 8, .inl (fun _ => 0))), (q4, .inl (cq4, 8, .inl (fun _ => 0)))] := hD
  refine lv_aload_n hx hb dX5_init_41 rfl (lv_at hl 0 rfl) ?_
  refine lv_bipush (v := 8) hx hb dX5_init_42 (by decide +kernel) ?_
  refine va_newa (atype := .boolean) (ty := .boolean) (a0 := (8, .inl (fun _ => 0))) hx hb (hts _ mw_257) rfl hK hP hD hS hA (za_boolean 8) (by decide +kernel) (by decide +kernel) (by decide +kernel) (Nat.le_of_ble_eq_true rfl) (Nat.le_of_ble_eq_true rfl) dX5_init_44 (fun q5 cq5 H hK hP hD hS => ?_)
  refine W.widen (k := 5) (n := 40) (Nat.le_of_ble_eq_true rfl) (Nat.le_of_ble_eq_true rfl) ?_
  have hP : va_P (dC, dI) vwCl [(h0, .inr (5, [.int 0, .ref q1, .ref q2, .ref q3, .ref q4, .null])), (q1, .inl (cq1, 8, .inl (fun _ => 0))), (q2, .inl (cq2, 8, .inl (fun _ => 0))), (q3, .inl (cq3, 8, .inl (fun _ => 0))), (q4, .inl (cq4, 8, .inl (fun _ => 0))), (q5, .inl (cq5, 8, .inl (fun _ => 0)))] H := hP
  have hD : va_D A [(h0, .inr (5, [.int 0, .ref q1, .ref q2, .ref q3, .ref q4, .null])), (q1, .inl (cq1, 8, .inl (fun _ => 0))), (q2, .inl (cq2, 8, .inl (fun _ => 0))), (q3, .inl (cq3, 8, .inl (fun _ => 0))), (q4, .inl (cq4, 8, .inl (fun _ => 0))), (q5, .inl (cq5, 8, .inl (fun _ => 0)))] := hD
  have hK : va_K (dC, dI) vwCl [(cq1, .boolean), (cq2, .int), (cq3, .int), (cq4, .int), (cq5, .boolean)] s := hK
  refine va_putF (D := (dC, dI)) (ci := 5) (v := .ref q5) (ty := (.array .boolean)) (C := RX5) (T := TX5) (N := 6) hx hb hts inX5 tyX5 tyX5_ok nmX5 hown hK hP hD hS 0 rfl rfl 5 (by decide) (hts _ mw_317) (fun _ h9 => h9) rfl hin rfl (by decide +kernel) rfl rfl (Nat.le_of_ble_eq_true rfl) dX5_init_46 (fun H locs hP hD hS => ?_)
  have hP : va_P (dC, dI) vwCl [(h0, .inr (5, [.int 0, .ref q1, .ref q2, .ref q3, .ref q4, .ref q5])), (q1, .inl (cq1, 8, .inl (fun _ => 0))), (q2, .inl (cq2, 8, .inl (fun _ => 0))), (q3, .inl (cq3, 8, .inl (fun _ => 0))), (q4, .inl (cq4, 8, .inl (fun _ => 0))), (q5, .inl (cq5, 8, .inl (fun _ => 0)))] H := hP
  have hD : va_D A [(h0, .inr (5, [.int 0, .ref q1, .ref q2, .ref q3, .ref q4, .ref q5])), (q1, .inl (cq1, 8, .inl (fun _ => 0))), (q2, .inl (cq2, 8, .inl (fun _ => 0))), (q3, .inl (cq3, 8, .inl (fun _ => 0))), (q4, .inl (cq4, 8, .inl (fun _ => 0))), (q5, .inl (cq5, 8, .inl (fun _ => 0)))] := hD
  have hP9 := hP.sub (ws' := [(h0, .inr (5, [.int 0, .ref q1, .ref q2, .ref q3, .ref q4, .ref q5])), (q1, .inl (cq1, 8, .inl (fun _ => 0))), (q2, .inl (cq2, 8, .inl (fun _ => 0))), (q3, .inl (cq3, 8, .inl (fun _ => 0))), (q4, .inl (cq4, 8, .inl (fun _ => 0))), (q5, .inl (cq5, 8, .inl (fun _ => 0)))]) [0, 1, 2, 3, 4, 5] rfl
  have hD9 := hD.sub (ws' := [(h0, .inr (5, [.int 0, .ref q1, .ref q2, .ref q3, .ref q4, .ref q5])), (q1, .inl (cq1, 8, .inl (fun _ => 0))), (q2, .inl (cq2, 8, .inl (fun _ => 0))), (q3, .inl (cq3, 8, .inl (fun _ => 0))), (q4, .inl (cq4, 8, .inl (fun _ => 0))), (q5, .inl (cq5, 8, .inl (fun _ => 0)))]) [0, 1, 2, 3, 4, 5] (by decide) rfl
  have hK9 := hK.sub (tys' := [(cq1, .boolean), (cq2, .int), (cq3, .int), (cq4, .int), (cq5, .boolean)]) [0, 1, 2, 3, 4] rfl
  refine W.widen (k := 5) (n := 40) (Nat.le_of_ble_eq_true rfl) (Nat.le_of_ble_eq_true rfl) ?_
  exact W.vret hx hb hr (fun t ht hW => ⟨⟨(), rfl, trivial, q1, q2, q3, q4, q5, cq1, cq2, cq3, cq4, cq5, by rw [ht]; exact hP9, va_K.moved hW.alike hK9, hD9⟩, hS.F ht⟩) hS.2.2 dX5_init_49

set_option maxHeartbeats 4000000 in
set_option maxRecDepth 100000 in
/-- new DrumBoats$Race, all its cells kept -/
theorem kf_X3_init (l : Launch) (dC : Nat → ClassId) (dI : Nat → Nat → Nat) (sz : Nat) (h0 : Nat) : Met l yX3_init (.code yX3_init cX3_init 1 none :: GW) ({ frames := 1, cells := 4, slots := 16, locals := 12 }) (va_Pc [.ref h0] (fun U => U.heap.size = sz ∧ va_P (dC, dI) vwCl [(h0, .inr (3, [.int 0, .int 0, .int 0, .null, .null, .null, .null]))] U.heap ∧ va_K (dC, dI) vwCl [] U ∧ va_D (fun _ => True) [(h0, .inr (3, [.int 0, .int 0, .int 0, .null, .null, .null, .null]))])) (va_Qv (fun _ : Unit => True) (fun _ t => ∃ (q1 : Nat), ∃ (q2 : Nat), ∃ (q3 : Nat), ∃ (q4 : Nat), ∃ (cq1 : ClassId), ∃ (cq2 : ClassId), ∃ (cq3 : ClassId), ∃ (cq4 : ClassId), va_P (dC, dI) vwCl [(h0, .inr (3, [.int 0, .int 0, .int 0, .ref q1, .ref q2, .ref q3, .ref q4])), (q1, .inl (cq1, 4, .inl (fun _ => 0))), (q2, .inl (cq2, 4, .inl (fun _ => 0))), (q3, .inl (cq3, 4, .inl (fun _ => 0))), (q4, .inl (cq4, 4, .inl (fun _ => 0)))] t.heap ∧ va_K (dC, dI) vwCl [(cq1, .int), (cq2, .int), (cq3, .int), (cq4, .boolean)] t ∧ va_D (va_A [(h0, .inr (3, [.int 0, .int 0, .int 0, .null, .null, .null, .null]))] sz) [(h0, .inr (3, [.int 0, .int 0, .int 0, .ref q1, .ref q2, .ref q3, .ref q4])), (q1, .inl (cq1, 4, .inl (fun _ => 0))), (q2, .inl (cq2, 4, .inl (fun _ => 0))), (q3, .inl (cq3, 4, .inl (fun _ => 0))), (q4, .inl (cq4, 4, .inl (fun _ => 0)))]) (va_A [(h0, .inr (3, [.int 0, .int 0, .int 0, .null, .null, .null, .null]))] sz)) 4 16 (va_A [(h0, .inr (3, [.int 0, .int 0, .int 0, .null, .null, .null, .null]))] sz) := by
  refine Met.ofW (cc := cX3_init) (maxL := 1) (ret := none) (by decide) rfl ?_
  intro p e s m args below meth c s₁ B hml hv
  obtain ⟨rfl, hsz, hP, hK, hD0⟩ := hv
  have hx := B.exec
  have hb := B.bytes
  have hr := B.returns
  have hts0 := atoms_spec (ws := .code yX3_init cX3_init 1 none :: GW) B.pre
  have hts := fun w (h : w ∈ GW) => hts0 w (List.mem_cons_of_mem _ h)
  have hown : s.vm.findClass RX3 = some m.cls := findClass_of_methodNamed B.named
  have hlocks := B.notSynchronized
  have hin : meth.name = "<init>" := (name_of_methodNamed B.named B.method).1
  subst hsz
  have hD := hD0.self (sz := s.heap.size)
  generalize hAe : va_A [(h0, .inr (3, [.int 0, .int 0, .int 0, .null, .null, .null, .null]))] s.heap.size = A at hD ⊢
  have hA : ∀ q : Nat, s.heap.size ≤ q → A q := fun q h => by rw [← hAe]; exact Or.inr h
  have hS : va_S A s.heap s.heap [] := va_S.rf
  have hl := lv_entry ([.ref h0]) (n := 1) (Nat.le_of_ble_eq_true rfl)
  rw [lg_entry_eq]
  generalize (lg_sl ([.ref h0]) ++ List.replicate (1 - (lg_sl ([.ref h0])).length) Slot.unset).toArray = ls at hl ⊢
  have hl : lv_has ls 1 [(0, .ref h0)] := hl
  refine lv_aload_n hx hb dX3_init_0 rfl (lv_at hl 0 rfl) ?_
  refine W.objInit hx hb hown (hts _ mw_336) (hts _ mw_70) (hts _ mw_71) rfl (by rw [hml]; exact hl.1) rfl dX3_init_1 (Nat.le_of_ble_eq_true rfl) (Nat.le_of_ble_eq_true rfl) ?_
  refine W.eq (g2 := F0 m 4 ls []) rfl ?_
  refine lv_aload_n hx hb dX3_init_4 rfl (lv_at hl 0 rfl) ?_
  refine lv_iconst (v := 0) hx hb dX3_init_5 (by decide +kernel) ?_
  refine va_put (D := (dC, dI)) (ci := 3) (v := .int 0) (ty := .int) (C := RX3) (T := TX3) (N := 7) hx hb hts inX3 tyX3 tyX3_ok nmX3 hown hK hP hD hS 0 rfl rfl 0 (by decide) (hts _ mw_337) (fun _ h9 => h9) rfl (by decide +kernel) rfl rfl (Nat.le_of_ble_eq_true rfl) dX3_init_6 (fun H locs hP hD hS => ?_)
  have hP : va_P (dC, dI) vwCl [(h0, .inr (3, [.int 0, .int 0, .int 0, .null, .null, .null, .null]))] H := hP
  have hD : va_D A [(h0, .inr (3, [.int 0, .int 0, .int 0, .null, .null, .null, .null]))] := hD
  refine lv_aload_n hx hb dX3_init_9 rfl (lv_at hl 0 rfl) ?_
  refine lv_iconst (v := 0) hx hb dX3_init_10 (by decide +kernel) ?_
  refine va_put (D := (dC, dI)) (ci := 3) (v := .int 0) (ty := .int) (C := RX3) (T := TX3) (N := 7) hx hb hts inX3 tyX3 tyX3_ok nmX3 hown hK hP hD hS 0 rfl rfl 1 (by decide) (hts _ mw_338) (fun _ h9 => h9) rfl (by decide +kernel) rfl rfl (Nat.le_of_ble_eq_true rfl) dX3_init_11 (fun H locs hP hD hS => ?_)
  have hP : va_P (dC, dI) vwCl [(h0, .inr (3, [.int 0, .int 0, .int 0, .null, .null, .null, .null]))] H := hP
  have hD : va_D A [(h0, .inr (3, [.int 0, .int 0, .int 0, .null, .null, .null, .null]))] := hD
  refine lv_aload_n hx hb dX3_init_14 rfl (lv_at hl 0 rfl) ?_
  refine lv_iconst (v := 0) hx hb dX3_init_15 (by decide +kernel) ?_
  refine va_put (D := (dC, dI)) (ci := 3) (v := .int 0) (ty := .boolean) (C := RX3) (T := TX3) (N := 7) hx hb hts inX3 tyX3 tyX3_ok nmX3 hown hK hP hD hS 0 rfl rfl 2 (by decide) (hts _ mw_341) (fun _ h9 => h9) rfl (by decide +kernel) rfl rfl (Nat.le_of_ble_eq_true rfl) dX3_init_16 (fun H locs hP hD hS => ?_)
  have hP : va_P (dC, dI) vwCl [(h0, .inr (3, [.int 0, .int 0, .int 0, .null, .null, .null, .null]))] H := hP
  have hD : va_D A [(h0, .inr (3, [.int 0, .int 0, .int 0, .null, .null, .null, .null]))] := hD
  refine lv_aload_n hx hb dX3_init_19 rfl (lv_at hl 0 rfl) ?_
  refine lv_iconst (v := 4) hx hb dX3_init_20 (by decide +kernel) ?_
  refine va_newa (atype := .int) (ty := .int) (a0 := (4, .inl (fun _ => 0))) hx hb (hts _ mw_110) rfl hK hP hD hS hA (za_int 4) (by decide +kernel) (by decide +kernel) (by decide +kernel) (Nat.le_of_ble_eq_true rfl) (Nat.le_of_ble_eq_true rfl) dX3_init_21 (fun q1 cq1 H hK hP hD hS => ?_)
  refine W.widen (k := 1) (n := 4) (Nat.le_of_ble_eq_true rfl) (Nat.le_of_ble_eq_true rfl) ?_
  have hP : va_P (dC, dI) vwCl [(h0, .inr (3, [.int 0, .int 0, .int 0, .null, .null, .null, .null])), (q1, .inl (cq1, 4, .inl (fun _ => 0)))] H := hP
  have hD : va_D A [(h0, .inr (3, [.int 0, .int 0, .int 0, .null, .null, .null, .null])), (q1, .inl (cq1, 4, .inl (fun _ => 0)))] := hD
  have hK : va_K (dC, dI) vwCl [(cq1, .int)] s := hK
  refine va_putF (D := (dC, dI)) (ci := 3) (v := .ref q1) (ty := (.array .int)) (C := RX3) (T := TX3) (N := 7) hx hb hts inX3 tyX3 tyX3_ok nmX3 hown hK hP hD hS 0 rfl rfl 3 (by decide) (hts _ mw_343) (fun _ h9 => h9) rfl hin rfl (by decide +kernel) rfl rfl (Nat.le_of_ble_eq_true rfl) dX3_init_23 (fun H locs hP hD hS => ?_)
  have hP : va_P (dC, dI) vwCl [(h0, .inr (3, [.int 0, .int 0, .int 0, .ref q1, .null, .null, .null])), (q1, .inl (cq1, 4, .inl (fun _ => 0)))] H := hP
  have hD : va_D A [(h0, .inr (3, [.int 0, .int 0, .int 0, .ref q1, .null, .null, .null])), (q1, .inl (cq1, 4, .inl (fun _ => 0)))] := hD
  refine lv_aload_n hx hb dX3_init_26 rfl (lv_at hl 0 rfl) ?_
  refine lv_iconst (v := 4) hx hb dX3_init_27 (by decide +kernel) ?_
  refine va_newa (atype := .int) (ty := .int) (a0 := (4, .inl (fun _ => 0))) hx hb (hts _ mw_110) rfl hK hP hD hS hA (za_int 4) (by decide +kernel) (by decide +kernel) (by decide +kernel) (Nat.le_of_ble_eq_true rfl) (Nat.le_of_ble_eq_true rfl) dX3_init_28 (fun q2 cq2 H hK hP hD hS => ?_)
  refine W.widen (k := 2) (n := 8) (Nat.le_of_ble_eq_true rfl) (Nat.le_of_ble_eq_true rfl) ?_
  have hP : va_P (dC, dI) vwCl [(h0, .inr (3, [.int 0, .int 0, .int 0, .ref q1, .null, .null, .null])), (q1, .inl (cq1, 4, .inl (fun _ => 0))), (q2, .inl (cq2, 4, .inl (fun _ => 0)))] H := hP
  have hD : va_D A [(h0, .inr (3, [.int 0, .int 0, .int 0, .ref q1, .null, .null, .null])), (q1, .inl (cq1, 4, .inl (fun _ => 0))), (q2, .inl (cq2, 4, .inl (fun _ => 0)))] := hD
  have hK : va_K (dC, dI) vwCl [(cq1, .int), (cq2, .int)] s := hK
  refine va_putF (D := (dC, dI)) (ci := 3) (v := .ref q2) (ty := (.array .int)) (C := RX3) (T := TX3) (N := 7) hx hb hts inX3 tyX3 tyX3_ok nmX3 hown hK hP hD hS 0 rfl rfl 4 (by decide) (hts _ mw_346) (fun _ h9 => h9) rfl hin rfl (by decide +kernel) rfl rfl (Nat.le_of_ble_eq_true rfl) dX3_init_30 (fun H locs hP hD hS => ?_)
  have hP : va_P (dC, dI) vwCl [(h0, .inr (3, [.int 0, .int 0, .int 0, .ref q1, .ref q2, .null, .null])), (q1, .inl (cq1, 4, .inl (fun _ => 0))), (q2, .inl (cq2, 4, .inl (fun _ => 0)))] H := hP
  have hD : va_D A [(h0, .inr (3, [.int 0, .int 0, .int 0, .ref q1, .ref q2, .null, .null])), (q1, .inl (cq1, 4, .inl (fun _ => 0))), (q2, .inl (cq2, 4, .inl (fun _ => 0)))] := hD
  refine lv_aload_n hx hb dX3_init_33 rfl (lv_at hl 0 rfl) ?_
  refine lv_iconst (v := 4) hx hb dX3_init_34 (by decide +kernel) ?_
  refine va_newa (atype := .int) (ty := .int) (a0 := (4, .inl (fun _ => 0))) hx hb (hts _ mw_110) rfl hK hP hD hS hA (za_int 4) (by decide +kernel) (by decide +kernel) (by decide +kernel) (Nat.le_of_ble_eq_true rfl) (Nat.le_of_ble_eq_true rfl) dX3_init_35 (fun q3 cq3 H hK hP hD hS => ?_)
  refine W.widen (k := 3) (n := 12) (Nat.le_of_ble_eq_true rfl) (Nat.le_of_ble_eq_true rfl) ?_
  have hP : va_P (dC, dI) vwCl [(h0, .inr (3, [.int 0, .int 0, .int 0, .ref q1, .ref q2, .null, .null])), (q1, .inl (cq1, 4, .inl (fun _ => 0))), (q2, .inl (cq2, 4, .inl (fun _ => 0))), (q3, .inl (cq3, 4, .inl (fun _ => 0)))] H := hP
  have hD : va_D A [(h0, .inr (3, [.int 0, .int 0, .int 0, .ref q1, .ref q2, .null, .null])), (q1, .inl (cq1, 4, .inl (fun _ => 0))), (q2, .inl (cq2, 4, .inl (fun _ => 0))), (q3, .inl (cq3, 4, .inl (fun _ => 0)))] := hD
  have hK : va_K (dC, dI) vwCl [(cq1, .int), (cq2, .int), (cq3, .int)] s := hK
  refine va_putF (D := (dC, dI)) (ci := 3) (v := .ref q3) (ty := (.array .int)) (C := RX3) (T := TX3) (N := 7) hx hb hts inX3 tyX3 tyX3_ok nmX3 hown hK hP hD hS 0 rfl rfl 5 (by decide) (hts _ mw_349) (fun _ h9 => h9) rfl hin rfl (by decide +kernel) rfl rfl (Nat.le_of_ble_eq_true rfl) dX3_init_37 (fun H locs hP hD hS => ?_)
  have hP : va_P (dC, dI) vwCl [(h0, .inr (3, [.int 0, .int 0, .int 0, .ref q1, .ref q2, .ref q3, .null])), (q1, .inl (cq1, 4, .inl (fun _ => 0))), (q2, .inl (cq2, 4, .inl (fun _ => 0))), (q3, .inl (cq3, 4, .inl (fun _ => 0)))] H := hP
  have hD : va_D A [(h0, .inr (3, [.int 0, .int 0, .int 0, .ref q1, .ref q2, .ref q3, .null])), (q1, .inl (cq1, 4, .inl (fun _ => 0))), (q2, .inl (cq2, 4, .inl (fun _ => 0))), (q3, .inl (cq3, 4, .inl (fun _ => 0)))] := hD
  refine lv_aload_n hx hb dX3_init_40 rfl (lv_at hl 0 rfl) ?_
  refine lv_iconst (v := 4) hx hb dX3_init_41 (by decide +kernel) ?_
  refine va_newa (atype := .boolean) (ty := .boolean) (a0 := (4, .inl (fun _ => 0))) hx hb (hts _ mw_257) rfl hK hP hD hS hA (za_boolean 4) (by decide +kernel) (by decide +kernel) (by decide +kernel) (Nat.le_of_ble_eq_true rfl) (Nat.le_of_ble_eq_true rfl) dX3_init_42 (fun q4 cq4 H hK hP hD hS => ?_)
  refine W.widen (k := 4) (n := 16) (Nat.le_of_ble_eq_true rfl) (Nat.le_of_ble_eq_true rfl) ?_
  have hP : va_P (dC, dI) vwCl [(h0, .inr (3, [.int 0, .int 0, .int 0, .ref q1, .ref q2, .ref q3, .null])), (q1, .inl (cq1, 4, .inl (fun _ => 0))), (q2, .inl (cq2, 4, .inl (fun _ => 0))), (q3, .inl (cq3, 4, .inl (fun _ => 0))), (q4, .inl (cq4, 4, .inl (fun _ => 0)))] H := hP
  have hD : va_D A [(h0, .inr (3, [.int 0, .int 0, .int 0, .ref q1, .ref q2, .ref q3, .null])), (q1, .inl (cq1, 4, .inl (fun _ => 0))), (q2, .inl (cq2, 4, .inl (fun _ => 0))), (q3, .inl (cq3, 4, .inl (fun _ => 0))), (q4, .inl (cq4, 4, .inl (fun _ => 0)))] := hD
  have hK : va_K (dC, dI) vwCl [(cq1, .int), (cq2, .int), (cq3, .int), (cq4, .boolean)] s := hK
  refine va_putF (D := (dC, dI)) (ci := 3) (v := .ref q4) (ty := (.array .boolean)) (C := RX3) (T := TX3) (N := 7) hx hb hts inX3 tyX3 tyX3_ok nmX3 hown hK hP hD hS 0 rfl rfl 6 (by decide) (hts _ mw_351) (fun _ h9 => h9) rfl hin rfl (by decide +kernel) rfl rfl (Nat.le_of_ble_eq_true rfl) dX3_init_44 (fun H locs hP hD hS => ?_)
  have hP : va_P (dC, dI) vwCl [(h0, .inr (3, [.int 0, .int 0, .int 0, .ref q1, .ref q2, .ref q3, .ref q4])), (q1, .inl (cq1, 4, .inl (fun _ => 0))), (q2, .inl (cq2, 4, .inl (fun _ => 0))), (q3, .inl (cq3, 4, .inl (fun _ => 0))), (q4, .inl (cq4, 4, .inl (fun _ => 0)))] H := hP
  have hD : va_D A [(h0, .inr (3, [.int 0, .int 0, .int 0, .ref q1, .ref q2, .ref q3, .ref q4])), (q1, .inl (cq1, 4, .inl (fun _ => 0))), (q2, .inl (cq2, 4, .inl (fun _ => 0))), (q3, .inl (cq3, 4, .inl (fun _ => 0))), (q4, .inl (cq4, 4, .inl (fun _ => 0)))] := hD
  have hP9 := hP.sub (ws' := [(h0, .inr (3, [.int 0, .int 0, .int 0, .ref q1, .ref q2, .ref q3, .ref q4])), (q1, .inl (cq1, 4, .inl (fun _ => 0))), (q2, .inl (cq2, 4, .inl (fun _ => 0))), (q3, .inl (cq3, 4, .inl (fun _ => 0))), (q4, .inl (cq4, 4, .inl (fun _ => 0)))]) [0, 1, 2, 3, 4] rfl
  have hD9 := hD.sub (ws' := [(h0, .inr (3, [.int 0, .int 0, .int 0, .ref q1, .ref q2, .ref q3, .ref q4])), (q1, .inl (cq1, 4, .inl (fun _ => 0))), (q2, .inl (cq2, 4, .inl (fun _ => 0))), (q3, .inl (cq3, 4, .inl (fun _ => 0))), (q4, .inl (cq4, 4, .inl (fun _ => 0)))]) [0, 1, 2, 3, 4] (by decide) rfl
  have hK9 := hK.sub (tys' := [(cq1, .int), (cq2, .int), (cq3, .int), (cq4, .boolean)]) [0, 1, 2, 3] rfl
  refine W.widen (k := 4) (n := 16) (Nat.le_of_ble_eq_true rfl) (Nat.le_of_ble_eq_true rfl) ?_
  exact W.vret hx hb hr (fun t ht hW => ⟨⟨(), rfl, trivial, q1, q2, q3, q4, cq1, cq2, cq3, cq4, by rw [ht]; exact hP9, va_K.moved hW.alike hK9, hD9⟩, hS.F ht⟩) hS.2.2 dX3_init_47

