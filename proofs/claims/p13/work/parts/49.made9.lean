theorem dX9_init_237 : decode cX9_init 237 = .ok (.return_, 1) := by decide +kernel
theorem dX9_init_211 : decode cX9_init 211 = .ok (.istore_n 1, 1) := by decide +kernel
theorem dX9_init_210 : decode cX9_init 210 = .ok (.iconst 0, 1) := by decide +kernel
theorem dX9_init_184 : decode cX9_init 184 = .ok (.istore_n 1, 1) := by decide +kernel
theorem dX9_init_183 : decode cX9_init 183 = .ok (.iconst 0, 1) := by decide +kernel
theorem W4_e : W4 = upd (upd (upd (upd (fun _ => 0) (0 : Int32).toNatClampNeg (-1)) (1 : Int32).toNatClampNeg (-1)) (2 : Int32).toNatClampNeg (-1)) (3 : Int32).toNatClampNeg (-1) := rfl
def NE (U : State) : Prop := va_Nw (.methodLinkNest RX9 11 yX4_init RX9) U ∧ va_Nw (.methodLinkNest RX9 30 yX8_init RX9) U ∧ va_Nw (.methodLinkNest RX9 37 yX6_init RX9) U ∧ va_Nw (.methodLinkNest RX9 44 yX7_init RX9) U ∧ va_Nw (.methodLinkNest RX9 82 yX0_init RX9) U ∧ va_Nw (.methodLinkNest RX9 89 yX2_init RX9) U ∧ va_Nw (.methodLinkNest RX9 94 yX1_init RX9) U ∧ va_Nw (.methodLinkNest RX9 95 yX5_init RX9) U ∧ va_Nw (.methodLinkNest RX9 96 yX3_init RX9) U ∧ va_AO RX1 U ∧ va_AO RX5 U ∧ va_AO RX3 U
theorem NE.calling {U : State} (g : JFrame) (mk : MethodId) (a : Array Value) (h : NE U) : NE (U.calling g mk a) := by
  obtain ⟨h0, h1, h2, h3, h4, h5, h6, h7, h8, h9, h10, h11⟩ := h
  exact ⟨(va_Nw.same (U := U.calling g mk a) rfl rfl h0), (va_Nw.same (U := U.calling g mk a) rfl rfl h1), (va_Nw.same (U := U.calling g mk a) rfl rfl h2), (va_Nw.same (U := U.calling g mk a) rfl rfl h3), (va_Nw.same (U := U.calling g mk a) rfl rfl h4), (va_Nw.same (U := U.calling g mk a) rfl rfl h5), (va_Nw.same (U := U.calling g mk a) rfl rfl h6), (va_Nw.same (U := U.calling g mk a) rfl rfl h7), (va_Nw.same (U := U.calling g mk a) rfl rfl h8), (va_AO.moved (U := U.calling g mk a) (Vm.Alike.refl U.vm) h9), (va_AO.moved (U := U.calling g mk a) (Vm.Alike.refl U.vm) h10), (va_AO.moved (U := U.calling g mk a) (Vm.Alike.refl U.vm) h11)⟩
theorem NE.warm {s U : State} (hW : s.WarmedH U.vm) (h : NE s) : NE U := by
  obtain ⟨h0, h1, h2, h3, h4, h5, h6, h7, h8, h9, h10, h11⟩ := h
  exact ⟨(va_Nw.warmM hW h0), (va_Nw.warmM hW h1), (va_Nw.warmM hW h2), (va_Nw.warmM hW h3), (va_Nw.warmM hW h4), (va_Nw.warmM hW h5), (va_Nw.warmM hW h6), (va_Nw.warmM hW h7), (va_Nw.warmM hW h8), (va_AO.moved hW.alike h9), (va_AO.moved hW.alike h10), (va_AO.moved hW.alike h11)⟩
theorem row0_crew (a : Nat → Nat) : row_crew a 0 = fun _ => none := by funext j; simp [row_crew]
theorem row0_rule (a : Nat → Nat) : row_rule a 0 = fun _ => none := by funext j; simp [row_rule]
theorem row0_race (a : Nat → Nat) : row_race a 0 = fun _ => none := by funext j; simp [row_race]
theorem row_crew_eq {a a2 : Nat → Nat} {k : Nat} (h : ∀ i, 37 ≤ i → i < 37 + 3 * k → a i = a2 i) : row_crew a k = row_crew a2 k := by
  funext j
  unfold row_crew
  by_cases hj : j < k
  · rw [if_pos hj, if_pos hj, h (37 + 3 * j) (by omega) (by omega)]
  · rw [if_neg hj, if_neg hj]
theorem row_rule_eq {a a2 : Nat → Nat} {k : Nat} (h : ∀ i, 55 ≤ i → i < 55 + 6 * k → a i = a2 i) : row_rule a k = row_rule a2 k := by
  funext j
  unfold row_rule
  by_cases hj : j < k
  · rw [if_pos hj, if_pos hj, h (55 + 6 * j) (by omega) (by omega)]
  · rw [if_neg hj, if_neg hj]
theorem row_race_eq {a a2 : Nat → Nat} {k : Nat} (h : ∀ i, 91 ≤ i → i < 91 + 5 * k → a i = a2 i) : row_race a k = row_race a2 k := by
  funext j
  unfold row_race
  by_cases hj : j < k
  · rw [if_pos hj, if_pos hj, h (91 + 5 * j) (by omega) (by omega)]
  · rw [if_neg hj, if_neg hj]
set_option maxHeartbeats 8000000 in
set_option maxRecDepth 100000 in
/-- new DrumBoats: 211 cells -/
theorem made9 (l : Launch) (dC : Nat → ClassId) (dI : Nat → Nat → Nat) (sz h0 : Nat) : Met l yX9_init (.code yX9_init cX9_init 2 none :: GW) ({ frames := 2, cells := 210, slots := 1553, locals := 32 }) (va_Pc [.ref h0] (fun U => U.heap.size = sz ∧ va_P (dC, dI) vwCl [(h0, .inr (9, [.null, .null, .int 0, .null, .null, .null, .null, .int 0, .null, .int 0, .null, .null, .null, .int 0, .null, .null]))] U.heap ∧ va_K (dC, dI) vwCl [] U ∧ va_D (fun _ => True) [(h0, .inr (9, [.null, .null, .int 0, .null, .null, .null, .null, .int 0, .null, .int 0, .null, .null, .null, .int 0, .null, .null]))] ∧ NE U)) (va_Qv (fun _ : Unit => True) (fun _ t => ∃ (a : Nat → Nat) (ca : Nat → ClassId), a 0 = h0 ∧ va_P (dC, dI) vwCl (pw 211 a (CC a ca d0 l0)) t.heap ∧ va_D (va_A [(h0, .inr (9, [.null, .null, .int 0, .null, .null, .null, .null, .int 0, .null, .int 0, .null, .null, .null, .int 0, .null, .null]))] sz) (pw 211 a (CC a ca d0 l0)) ∧ (∀ i, i < 211 → 11 ≤ kd i → TK t (ca i) (ety i))) (va_A [(h0, .inr (9, [.null, .null, .int 0, .null, .null, .null, .null, .int 0, .null, .int 0, .null, .null, .null, .int 0, .null, .null]))] sz)) 210 1553 (va_A [(h0, .inr (9, [.null, .null, .int 0, .null, .null, .null, .null, .int 0, .null, .int 0, .null, .null, .null, .int 0, .null, .null]))] sz) := by
  refine Met.ofW (cc := cX9_init) (maxL := 2) (ret := none) (by decide) rfl ?_
  intro p e s m args below meth c s₁ B hml hv
  obtain ⟨rfl, hsz, hP, hK, hD0, hNE⟩ := hv
  have hx := B.exec
  have hb := B.bytes
  have hr := B.returns
  have hts0 := atoms_spec (ws := .code yX9_init cX9_init 2 none :: GW) B.pre
  have hts := fun w (h : w ∈ GW) => hts0 w (List.mem_cons_of_mem _ h)
  have hown : s.vm.findClass RX9 = some m.cls := findClass_of_methodNamed B.named
  have hlocks := B.notSynchronized
  have hin : meth.name = "<init>" := (name_of_methodNamed B.named B.method).1
  subst hsz
  have hD := hD0.self (sz := s.heap.size)
  generalize hAe : va_A [(h0, .inr (9, [.null, .null, .int 0, .null, .null, .null, .null, .int 0, .null, .int 0, .null, .null, .null, .int 0, .null, .null]))] s.heap.size = A at hD ⊢
  have hA : ∀ q : Nat, s.heap.size ≤ q → A q := fun q h => by rw [← hAe]; exact Or.inr h
  have hS : va_S A s.heap s.heap [] := va_S.rf
  have hl := lv_entry ([.ref h0]) (n := 2) (Nat.le_of_ble_eq_true rfl)
  rw [lg_entry_eq]
  generalize (lg_sl ([.ref h0]) ++ List.replicate (2 - (lg_sl ([.ref h0])).length) Slot.unset).toArray = ls at hl ⊢
  have hl : lv_has ls 2 [(0, .ref h0)] := hl
  obtain ⟨hNX9_11, hNX9_30, hNX9_37, hNX9_44, hNX9_82, hNX9_89, hNX9_94, hNX9_95, hNX9_96, hAOX1, hAOX5, hAOX3⟩ := hNE
  generalize hR : (headSpec (.code yX9_init cX9_init 2 none :: GW) ({ frames := 2, cells := 210, slots := 1553, locals := 32 })).room = R
  have hRc : R.cells = 210 := by rw [← hR]; rfl
  have hRs : R.slots = 1553 := by rw [← hR]; rfl
  have hRf : 2 ≤ R.frames := by rw [← hR]; exact Nat.le_refl _
  have hRl : 32 ≤ R.locals := by rw [← hR]; exact Nat.le_refl _
  refine st_X9 hx hb hml hin hown hts hA hNX9_11 hNX9_30 hNX9_37 hNX9_44 hNX9_82 hNX9_89 hNX9_94 hNX9_95 hNX9_96 hAOX1 hAOX5 hAOX3 (by rw [hRc]; exact (Nat.le_of_ble_eq_true rfl)) (by rw [hRs]; exact (Nat.le_of_ble_eq_true rfl)) hRf hRl hK hP hD hS hl (fun q1 q14 q15 q16 q43 q46 q47 q48 q49 q50 q51 q52 cq14 cq46 cq50 q53 q54 q55 q56 c57 c58 c59 c60 cq49 cq48 cq47 q44 c45 q17 q18 q19 q20 q21 q22 q23 q24 q25 q26 q27 q28 q29 c30 c31 c32 c33 c34 c35 c36 c37 c38 c39 c40 c41 c42 q2 q3 q4 q5 q6 q7 c8 c9 c10 c11 c12 c13 H locs ls hK hP hD hS hl => ?_)
  obtain ⟨a0, ha0⟩ : ∃ a0 : Nat → Nat, a0 = fun i => ([h0, q1, q2, q3, q4, q5, q6, q7, q14, q15, q16, q17, q18, q19, q20, q21, q22, q23, q24, q25, q26, q27, q28, q29, q43, q44, q46, q47, q48, q49, q50, q51, q52, q53, q54, q55, q56] : List Nat).getD i 0 := ⟨_, rfl⟩
  obtain ⟨c0, hc0⟩ : ∃ c0 : Nat → ClassId, c0 = fun i => ([c8, c8, c8, c9, c10, c11, c12, c13, cq14, c8, c8, c30, c31, c32, c33, c34, c35, c36, c37, c38, c39, c40, c41, c42, c8, c45, cq46, cq47, cq48, cq49, cq50, c8, c8, c57, c58, c59, c60] : List ClassId).getD i c8 := ⟨_, rfl⟩
  obtain ⟨TL, hTL⟩ : ∃ z : va_W, z = [(q52, .inr (2, [.int 0, .ref q53, .ref q54, .ref q55, .ref q56])), (q53, .inl (c57, 6, .inl (fun _ => 0))), (q54, .inl (c58, 6, .inl (fun _ => 0))), (q55, .inl (c59, 6, .inl (fun _ => 0))), (q56, .inl (c60, 6, .inl (fun _ => 0))), (q51, .inr (0, [.int 0, .int 0])), (q49, .inl (cq49, 4, .inl (fun _ => 0))), (q48, .inl (cq48, 4, .inl (upd (upd (upd (upd (fun _ => 0) (0 : Int32).toNatClampNeg (-1)) (1 : Int32).toNatClampNeg (-1)) (2 : Int32).toNatClampNeg (-1)) (3 : Int32).toNatClampNeg (-1)))), (q47, .inl (cq47, 6, .inl (fun _ => 0))), (q43, .inr (7, [.int 0, .int 0, .ref q44])), (q44, .inl (c45, 120, .inl (fun _ => 0))), (q16, .inr (6, [.int 0, .int 0, .int 0, .int 0, .ref q17, .ref q18, .ref q19, .ref q20, .ref q21, .ref q22, .ref q23, .ref q24, .ref q25, .ref q26, .ref q27, .ref q28, .ref q29])), (q17, .inl (c30, 8, .inl (fun _ => 0))), (q18, .inl (c31, 8, .inl (fun _ => 0))), (q19, .inl (c32, 8, .inl (fun _ => 0))), (q20, .inl (c33, 8, .inl (fun _ => 0))), (q21, .inl (c34, 8, .inl (fun _ => 0))), (q22, .inl (c35, 8, .inl (fun _ => 0))), (q23, .inl (c36, 8, .inl (fun _ => 0))), (q24, .inl (c37, 8, .inl (fun _ => 0))), (q25, .inl (c38, 9, .inl (fun _ => 0))), (q26, .inl (c39, 9, .inl (fun _ => 0))), (q27, .inl (c40, 9, .inl (fun _ => 0))), (q28, .inl (c41, 9, .inl (fun _ => 0))), (q29, .inl (c42, 9, .inl (fun _ => 0))), (q15, .inr (8, [.int 0, .int 0, .int 0, .int 0])), (q1, .inr (4, [.int 0, .ref q2, .ref q3, .ref q4, .ref q5, .ref q6, .ref q7])), (q2, .inl (c8, 40, .inl (fun _ => 0))), (q3, .inl (c9, 40, .inl (fun _ => 0))), (q4, .inl (c10, 40, .inl (fun _ => 0))), (q5, .inl (c11, 40, .inl (fun _ => 0))), (q6, .inl (c12, 40, .inl (fun _ => 0))), (q7, .inl (c13, 40, .inr (.inl (fun _ => 0))))] := ⟨_, rfl⟩
  have hP : va_P (dC, dI) vwCl ([(h0, .inr (9, [.ref q1, .ref q14, .int 0, .ref q15, .ref q16, .ref q43, .ref q46, .int 0, .ref q47, .int 10, .ref q48, .ref q49, .ref q50, .int 0, .ref q51, .ref q52])), (q14, .inl (cq14, 6, .inr (.inr (.inr (.inr (row_crew a0 0))))))] ++ (fam_crew 0 a0 c0 ++ ([(q46, .inl (cq46, 6, .inr (.inr (.inr (.inr (fun _ => none)))))), (q50, .inl (cq50, 24, .inr (.inr (.inr (.inr (fun _ => none))))))] ++ TL))) H := by rw [row0_crew, hTL]; exact hP
  have hD : va_D A ([(h0, .inr (9, [.ref q1, .ref q14, .int 0, .ref q15, .ref q16, .ref q43, .ref q46, .int 0, .ref q47, .int 10, .ref q48, .ref q49, .ref q50, .int 0, .ref q51, .ref q52])), (q14, .inl (cq14, 6, .inr (.inr (.inr (.inr (row_crew a0 0))))))] ++ (fam_crew 0 a0 c0 ++ ([(q46, .inl (cq46, 6, .inr (.inr (.inr (.inr (fun _ => none)))))), (q50, .inl (cq50, 24, .inr (.inr (.inr (.inr (fun _ => none))))))] ++ TL))) := by rw [row0_crew, hTL]; exact hD
  refine lp_crew hx hb hml hown hts hA hNX9_11 hNX9_30 hNX9_37 hNX9_44 hNX9_82 hNX9_89 hNX9_94 hNX9_95 hNX9_96 hAOX1 hAOX5 hAOX3 hRf hRl (K_of hK (fun q hq => by rw [List.mem_singleton.mp hq]; exact K_tk hK 6 rfl)) 6 0 a0 c0 _ _ H locs ls rfl (by rw [hRc]; exact (Nat.le_of_ble_eq_true rfl)) (by rw [hRs]; exact (Nat.le_of_ble_eq_true rfl)) (fun i h1 h2 _ => by omega) hP hD hS hl (fun a1 c1 H locs ls hag1 hT1 hP hD hS hl => ?_)
  refine lv_iload_n hx hb dX9_init_158 rfl (lv_at hl 0 rfl) ?_
  refine lv_bipush (v := 6) hx hb dX9_init_159 (by decide +kernel) ?_
  refine lv_icmp_ge (tgt := 183) hx hb dX9_init_161 (by decide) (fun _ => ?_) (fun c9 => absurd c9 (by decide))
  refine lv_iconst (v := 0) hx hb dX9_init_183 (by decide +kernel) ?_
  refine lv_istore_n (lv' := [(1, .int 0), (0, .ref h0)]) hx hb dX9_init_184 rfl hl (by decide) rfl (fun ls hl => ?_)
  have hpm : ([(h0, .inr (9, [.ref q1, .ref q14, .int 0, .ref q15, .ref q16, .ref q43, .ref q46, .int 0, .ref q47, .int 10, .ref q48, .ref q49, .ref q50, .int 0, .ref q51, .ref q52])), (q46, .inl (cq46, 6, .inr (.inr (.inr (.inr (row_rule a1 0))))))] ++ (fam_rule 0 a1 c1 ++ ((q14, .inl (cq14, 6, .inr (.inr (.inr (.inr (row_crew a1 6)))))) :: (fam_crew 6 a1 c1 ++ ((q50, .inl (cq50, 24, .inr (.inr (.inr (.inr (fun _ => none)))))) :: TL)))) : va_W).Perm ([(h0, .inr (9, [.ref q1, .ref q14, .int 0, .ref q15, .ref q16, .ref q43, .ref q46, .int 0, .ref q47, .int 10, .ref q48, .ref q49, .ref q50, .int 0, .ref q51, .ref q52])), (q14, .inl (cq14, 6, .inr (.inr (.inr (.inr (row_crew a1 6))))))] ++ (fam_crew 6 a1 c1 ++ ([(q46, .inl (cq46, 6, .inr (.inr (.inr (.inr (fun _ => none)))))), (q50, .inl (cq50, 24, .inr (.inr (.inr (.inr (fun _ => none))))))] ++ TL))) := by
    rw [row0_rule]
    exact List.Perm.cons _ ((List.Perm.swap _ _ _).trans (List.Perm.cons _ (List.perm_middle.symm)))
  refine lp_rule hx hb hml hown hts hA hNX9_11 hNX9_30 hNX9_37 hNX9_44 hNX9_82 hNX9_89 hNX9_94 hNX9_95 hNX9_96 hAOX1 hAOX5 hAOX3 hRf hRl (K_of hK (fun q hq => by rw [List.mem_singleton.mp hq]; exact K_tk hK 21 rfl)) 6 0 a1 c1 _ _ H locs ls rfl (by rw [hRc]; exact (Nat.le_of_ble_eq_true rfl)) (by rw [hRs]; exact (Nat.le_of_ble_eq_true rfl)) (fun i h1 h2 _ => by omega) (P_perm hP hpm) (D_perm hD hpm) hS hl (fun a2 c2 H locs ls hag2 hT2 hP hD hS hl => ?_)
  refine lv_iload_n hx hb dX9_init_185 rfl (lv_at hl 0 rfl) ?_
  refine lv_bipush (v := 6) hx hb dX9_init_186 (by decide +kernel) ?_
  refine lv_icmp_ge (tgt := 210) hx hb dX9_init_188 (by decide) (fun _ => ?_) (fun c9 => absurd c9 (by decide))
  refine lv_iconst (v := 0) hx hb dX9_init_210 (by decide +kernel) ?_
  refine lv_istore_n (lv' := [(1, .int 0), (0, .ref h0)]) hx hb dX9_init_211 rfl hl (by decide) rfl (fun ls hl => ?_)
  have hpm : ([(h0, .inr (9, [.ref q1, .ref q14, .int 0, .ref q15, .ref q16, .ref q43, .ref q46, .int 0, .ref q47, .int 10, .ref q48, .ref q49, .ref q50, .int 0, .ref q51, .ref q52])), (q50, .inl (cq50, 24, .inr (.inr (.inr (.inr (row_race a2 0))))))] ++ (fam_race 0 a2 c2 ++ ((q46, .inl (cq46, 6, .inr (.inr (.inr (.inr (row_rule a2 6)))))) :: (fam_rule 6 a2 c2 ++ ((q14, .inl (cq14, 6, .inr (.inr (.inr (.inr (row_crew a1 6)))))) :: (fam_crew 6 a1 c1 ++ TL))))) : va_W).Perm ([(h0, .inr (9, [.ref q1, .ref q14, .int 0, .ref q15, .ref q16, .ref q43, .ref q46, .int 0, .ref q47, .int 10, .ref q48, .ref q49, .ref q50, .int 0, .ref q51, .ref q52])), (q46, .inl (cq46, 6, .inr (.inr (.inr (.inr (row_rule a2 6))))))] ++ (fam_rule 6 a2 c2 ++ ((q14, .inl (cq14, 6, .inr (.inr (.inr (.inr (row_crew a1 6)))))) :: (fam_crew 6 a1 c1 ++ ((q50, .inl (cq50, 24, .inr (.inr (.inr (.inr (fun _ => none)))))) :: TL))))) := by
    rw [row0_race]
    refine List.Perm.cons _ ((List.Perm.swap _ _ _).trans (List.Perm.cons _ ?_))
    have h9 := (List.perm_middle (a := (q50, .inl (cq50, 24, .inr (.inr (.inr (.inr (fun _ => none))))))) (l₁ := fam_rule 6 a2 c2 ++ ((q14, .inl (cq14, 6, .inr (.inr (.inr (.inr (row_crew a1 6)))))) :: fam_crew 6 a1 c1)) (l₂ := TL)).symm
    rw [List.append_assoc, List.append_assoc] at h9
    exact h9
  refine lp_race hx hb hml hown hts hA hNX9_11 hNX9_30 hNX9_37 hNX9_44 hNX9_82 hNX9_89 hNX9_94 hNX9_95 hNX9_96 hAOX1 hAOX5 hAOX3 hRf hRl (K_of hK (fun q hq => by rw [List.mem_singleton.mp hq]; exact K_tk hK 25 rfl)) 24 0 a2 c2 _ _ H locs ls rfl (by rw [hRc]; exact (Nat.le_of_ble_eq_true rfl)) (by rw [hRs]; exact (Nat.le_of_ble_eq_true rfl)) (fun i h1 h2 _ => by omega) (P_perm hP hpm) (D_perm hD hpm) hS hl (fun a ca H locs ls hag3 hT3 hP hD hS hl => ?_)
  refine lv_iload_n hx hb dX9_init_212 rfl (lv_at hl 0 rfl) ?_
  refine lv_bipush (v := 24) hx hb dX9_init_213 (by decide +kernel) ?_
  refine lv_icmp_ge (tgt := 237) hx hb dX9_init_215 (by decide) (fun _ => ?_) (fun c9 => absurd c9 (by decide))
  have k1 : ∀ i, i < 55 → a i = a1 i ∧ ca i = c1 i := fun i h => ⟨(hag3 i (by omega)).1.trans (hag2 i (by omega)).1, (hag3 i (by omega)).2.trans (hag2 i (by omega)).2⟩
  have k0 : ∀ i, i < 37 → a i = a0 i ∧ ca i = c0 i := fun i h => ⟨(k1 i (by omega)).1.trans (hag1 i (by omega)).1, (k1 i (by omega)).2.trans (hag1 i (by omega)).2⟩
  rw [fam_crew_eq 6 a1 a c1 ca (fun i _ h => ⟨((k1 i (by omega)).1).symm, ((k1 i (by omega)).2).symm⟩), fam_rule_eq 6 a2 a c2 ca (fun i _ h => ⟨((hag3 i (by omega)).1).symm, ((hag3 i (by omega)).2).symm⟩), row_crew_eq (a := a1) (a2 := a) (fun i _ h => ((k1 i (by omega)).1).symm), row_rule_eq (a := a2) (a2 := a) (fun i _ h => ((hag3 i (by omega)).1).symm)] at hP hD
  have e_0 : a 0 = h0 := (k0 0 (by omega)).1.trans (by rw [ha0]; rfl)
  have e_1 : a 1 = q1 := (k0 1 (by omega)).1.trans (by rw [ha0]; rfl)
  have e_2 : a 2 = q2 := (k0 2 (by omega)).1.trans (by rw [ha0]; rfl)
  have e_3 : a 3 = q3 := (k0 3 (by omega)).1.trans (by rw [ha0]; rfl)
  have e_4 : a 4 = q4 := (k0 4 (by omega)).1.trans (by rw [ha0]; rfl)
  have e_5 : a 5 = q5 := (k0 5 (by omega)).1.trans (by rw [ha0]; rfl)
  have e_6 : a 6 = q6 := (k0 6 (by omega)).1.trans (by rw [ha0]; rfl)
  have e_7 : a 7 = q7 := (k0 7 (by omega)).1.trans (by rw [ha0]; rfl)
  have e_8 : a 8 = q14 := (k0 8 (by omega)).1.trans (by rw [ha0]; rfl)
  have e_9 : a 9 = q15 := (k0 9 (by omega)).1.trans (by rw [ha0]; rfl)
  have e_10 : a 10 = q16 := (k0 10 (by omega)).1.trans (by rw [ha0]; rfl)
  have e_11 : a 11 = q17 := (k0 11 (by omega)).1.trans (by rw [ha0]; rfl)
  have e_12 : a 12 = q18 := (k0 12 (by omega)).1.trans (by rw [ha0]; rfl)
  have e_13 : a 13 = q19 := (k0 13 (by omega)).1.trans (by rw [ha0]; rfl)
  have e_14 : a 14 = q20 := (k0 14 (by omega)).1.trans (by rw [ha0]; rfl)
  have e_15 : a 15 = q21 := (k0 15 (by omega)).1.trans (by rw [ha0]; rfl)
  have e_16 : a 16 = q22 := (k0 16 (by omega)).1.trans (by rw [ha0]; rfl)
  have e_17 : a 17 = q23 := (k0 17 (by omega)).1.trans (by rw [ha0]; rfl)
  have e_18 : a 18 = q24 := (k0 18 (by omega)).1.trans (by rw [ha0]; rfl)
  have e_19 : a 19 = q25 := (k0 19 (by omega)).1.trans (by rw [ha0]; rfl)
  have e_20 : a 20 = q26 := (k0 20 (by omega)).1.trans (by rw [ha0]; rfl)
  have e_21 : a 21 = q27 := (k0 21 (by omega)).1.trans (by rw [ha0]; rfl)
  have e_22 : a 22 = q28 := (k0 22 (by omega)).1.trans (by rw [ha0]; rfl)
  have e_23 : a 23 = q29 := (k0 23 (by omega)).1.trans (by rw [ha0]; rfl)
  have e_24 : a 24 = q43 := (k0 24 (by omega)).1.trans (by rw [ha0]; rfl)
  have e_25 : a 25 = q44 := (k0 25 (by omega)).1.trans (by rw [ha0]; rfl)
  have e_26 : a 26 = q46 := (k0 26 (by omega)).1.trans (by rw [ha0]; rfl)
  have e_27 : a 27 = q47 := (k0 27 (by omega)).1.trans (by rw [ha0]; rfl)
  have e_28 : a 28 = q48 := (k0 28 (by omega)).1.trans (by rw [ha0]; rfl)
  have e_29 : a 29 = q49 := (k0 29 (by omega)).1.trans (by rw [ha0]; rfl)
  have e_30 : a 30 = q50 := (k0 30 (by omega)).1.trans (by rw [ha0]; rfl)
  have e_31 : a 31 = q51 := (k0 31 (by omega)).1.trans (by rw [ha0]; rfl)
  have e_32 : a 32 = q52 := (k0 32 (by omega)).1.trans (by rw [ha0]; rfl)
  have e_33 : a 33 = q53 := (k0 33 (by omega)).1.trans (by rw [ha0]; rfl)
  have e_34 : a 34 = q54 := (k0 34 (by omega)).1.trans (by rw [ha0]; rfl)
  have e_35 : a 35 = q55 := (k0 35 (by omega)).1.trans (by rw [ha0]; rfl)
  have e_36 : a 36 = q56 := (k0 36 (by omega)).1.trans (by rw [ha0]; rfl)
  have f_2 : ca 2 = c8 := (k0 2 (by omega)).2.trans (by rw [hc0]; rfl)
  have f_3 : ca 3 = c9 := (k0 3 (by omega)).2.trans (by rw [hc0]; rfl)
  have f_4 : ca 4 = c10 := (k0 4 (by omega)).2.trans (by rw [hc0]; rfl)
  have f_5 : ca 5 = c11 := (k0 5 (by omega)).2.trans (by rw [hc0]; rfl)
  have f_6 : ca 6 = c12 := (k0 6 (by omega)).2.trans (by rw [hc0]; rfl)
  have f_7 : ca 7 = c13 := (k0 7 (by omega)).2.trans (by rw [hc0]; rfl)
  have f_8 : ca 8 = cq14 := (k0 8 (by omega)).2.trans (by rw [hc0]; rfl)
  have f_11 : ca 11 = c30 := (k0 11 (by omega)).2.trans (by rw [hc0]; rfl)
  have f_12 : ca 12 = c31 := (k0 12 (by omega)).2.trans (by rw [hc0]; rfl)
  have f_13 : ca 13 = c32 := (k0 13 (by omega)).2.trans (by rw [hc0]; rfl)
  have f_14 : ca 14 = c33 := (k0 14 (by omega)).2.trans (by rw [hc0]; rfl)
  have f_15 : ca 15 = c34 := (k0 15 (by omega)).2.trans (by rw [hc0]; rfl)
  have f_16 : ca 16 = c35 := (k0 16 (by omega)).2.trans (by rw [hc0]; rfl)
  have f_17 : ca 17 = c36 := (k0 17 (by omega)).2.trans (by rw [hc0]; rfl)
  have f_18 : ca 18 = c37 := (k0 18 (by omega)).2.trans (by rw [hc0]; rfl)
  have f_19 : ca 19 = c38 := (k0 19 (by omega)).2.trans (by rw [hc0]; rfl)
  have f_20 : ca 20 = c39 := (k0 20 (by omega)).2.trans (by rw [hc0]; rfl)
  have f_21 : ca 21 = c40 := (k0 21 (by omega)).2.trans (by rw [hc0]; rfl)
  have f_22 : ca 22 = c41 := (k0 22 (by omega)).2.trans (by rw [hc0]; rfl)
  have f_23 : ca 23 = c42 := (k0 23 (by omega)).2.trans (by rw [hc0]; rfl)
  have f_25 : ca 25 = c45 := (k0 25 (by omega)).2.trans (by rw [hc0]; rfl)
  have f_26 : ca 26 = cq46 := (k0 26 (by omega)).2.trans (by rw [hc0]; rfl)
  have f_27 : ca 27 = cq47 := (k0 27 (by omega)).2.trans (by rw [hc0]; rfl)
  have f_28 : ca 28 = cq48 := (k0 28 (by omega)).2.trans (by rw [hc0]; rfl)
  have f_29 : ca 29 = cq49 := (k0 29 (by omega)).2.trans (by rw [hc0]; rfl)
  have f_30 : ca 30 = cq50 := (k0 30 (by omega)).2.trans (by rw [hc0]; rfl)
  have f_33 : ca 33 = c57 := (k0 33 (by omega)).2.trans (by rw [hc0]; rfl)
  have f_34 : ca 34 = c58 := (k0 34 (by omega)).2.trans (by rw [hc0]; rfl)
  have f_35 : ca 35 = c59 := (k0 35 (by omega)).2.trans (by rw [hc0]; rfl)
  have f_36 : ca 36 = c60 := (k0 36 (by omega)).2.trans (by rw [hc0]; rfl)
  have hW9 : ([(h0, .inr (9, [.ref q1, .ref q14, .int 0, .ref q15, .ref q16, .ref q43, .ref q46, .int 0, .ref q47, .int 10, .ref q48, .ref q49, .ref q50, .int 0, .ref q51, .ref q52])), (q50, .inl (cq50, 24, .inr (.inr (.inr (.inr (row_race a 24))))))] ++ (fam_race 24 a ca ++ ((q46, .inl (cq46, 6, .inr (.inr (.inr (.inr (row_rule a 6)))))) :: (fam_rule 6 a ca ++ ((q14, .inl (cq14, 6, .inr (.inr (.inr (.inr (row_crew a 6)))))) :: (fam_crew 6 a ca ++ TL))))) : va_W) = wo9 a ca := by
    rw [hTL, wo9, tl9]
    rw [e_0, e_1, e_2, e_3, e_4, e_5, e_6, e_7, e_8, e_9, e_10, e_11, e_12, e_13, e_14, e_15, e_16, e_17, e_18, e_19, e_20, e_21, e_22, e_23, e_24, e_25, e_26, e_27, e_28, e_29, e_30, e_31, e_32, e_33, e_34, e_35, e_36, f_2, f_3, f_4, f_5, f_6, f_7, f_8, f_11, f_12, f_13, f_14, f_15, f_16, f_17, f_18, f_19, f_20, f_21, f_22, f_23, f_25, f_26, f_27, f_28, f_29, f_30, f_33, f_34, f_35, f_36]
  rw [hW9] at hP hD
  have hTT : ∀ i, i < 211 → 11 ≤ kd i → TK s (ca i) (ety i) := by
    intro i hi hk
    by_cases g1 : 91 ≤ i
    · exact hT3 i g1 (by omega) hk
    by_cases g2 : 55 ≤ i
    · rw [(hag3 i (by omega)).2]
      exact hT2 i g2 (by omega) hk
    by_cases g3 : 37 ≤ i
    · rw [(k1 i (by omega)).2]
      exact hT1 i g3 (by omega) hk
    match i, g3, hk with
    | 0, _, hk => exact absurd hk (by decide)
    | 1, _, hk => exact absurd hk (by decide)
    | 2, _, _ => rw [f_2]; exact K_tk hK 0 rfl
    | 3, _, _ => rw [f_3]; exact K_tk hK 1 rfl
    | 4, _, _ => rw [f_4]; exact K_tk hK 2 rfl
    | 5, _, _ => rw [f_5]; exact K_tk hK 3 rfl
    | 6, _, _ => rw [f_6]; exact K_tk hK 4 rfl
    | 7, _, _ => rw [f_7]; exact K_tk hK 5 rfl
    | 8, _, _ => rw [f_8]; exact K_tk hK 6 rfl
    | 9, _, hk => exact absurd hk (by decide)
    | 10, _, hk => exact absurd hk (by decide)
    | 11, _, _ => rw [f_11]; exact K_tk hK 7 rfl
    | 12, _, _ => rw [f_12]; exact K_tk hK 8 rfl
    | 13, _, _ => rw [f_13]; exact K_tk hK 9 rfl
    | 14, _, _ => rw [f_14]; exact K_tk hK 10 rfl
    | 15, _, _ => rw [f_15]; exact K_tk hK 11 rfl
    | 16, _, _ => rw [f_16]; exact K_tk hK 12 rfl
    | 17, _, _ => rw [f_17]; exact K_tk hK 13 rfl
    | 18, _, _ => rw [f_18]; exact K_tk hK 14 rfl
    | 19, _, _ => rw [f_19]; exact K_tk hK 15 rfl
    | 20, _, _ => rw [f_20]; exact K_tk hK 16 rfl
    | 21, _, _ => rw [f_21]; exact K_tk hK 17 rfl
    | 22, _, _ => rw [f_22]; exact K_tk hK 18 rfl
    | 23, _, _ => rw [f_23]; exact K_tk hK 19 rfl
    | 24, _, hk => exact absurd hk (by decide)
    | 25, _, _ => rw [f_25]; exact K_tk hK 20 rfl
    | 26, _, _ => rw [f_26]; exact K_tk hK 21 rfl
    | 27, _, _ => rw [f_27]; exact K_tk hK 22 rfl
    | 28, _, _ => rw [f_28]; exact K_tk hK 23 rfl
    | 29, _, _ => rw [f_29]; exact K_tk hK 24 rfl
    | 30, _, _ => rw [f_30]; exact K_tk hK 25 rfl
    | 31, _, hk => exact absurd hk (by decide)
    | 32, _, hk => exact absurd hk (by decide)
    | 33, _, _ => rw [f_33]; exact K_tk hK 26 rfl
    | 34, _, _ => rw [f_34]; exact K_tk hK 27 rfl
    | 35, _, _ => rw [f_35]; exact K_tk hK 28 rfl
    | 36, _, _ => rw [f_36]; exact K_tk hK 29 rfl
    | n + 37, g3, _ => exact absurd (Nat.le_add_left 37 n) g3
  refine W.widen (k := 210) (n := 1553) (Nat.le_of_eq rfl) (Nat.le_of_eq rfl) ?_
  exact W.vret hx hb hr (fun t ht hW => ⟨⟨(), rfl, trivial, a, ca, (k0 0 (by omega)).1.trans (by rw [ha0]; rfl), by rw [ht]; exact wo9_pw hP, wo9_dw hD, fun i hi hk => ⟨arrOfT_moved hW.alike (hTT i hi hk).1, (hTT i hi hk).2.moved hW.alike⟩⟩, hS.F ht⟩) hS.2.2 dX9_init_237
