theorem kd_le : ∀ i, i < 211 → kd i ≤ 16 ∧ kd i ≠ 10 := by decide +kernel
theorem kmx_1 : ∀ i, i < 211 → kd i = 1 → i + 2 < 211 := by decide +kernel
theorem kmx_2 : ∀ i, i < 211 → kd i = 2 → i + 4 < 211 := by decide +kernel
theorem kmx_3 : ∀ i, i < 211 → kd i = 3 → i + 4 < 211 := by decide +kernel
theorem kmx_4 : ∀ i, i < 211 → kd i = 4 → i + 6 < 211 := by decide +kernel
theorem kmx_5 : ∀ i, i < 211 → kd i = 5 → i + 5 < 211 := by decide +kernel
theorem kmx_6 : ∀ i, i < 211 → kd i = 6 → i + 13 < 211 := by decide +kernel
theorem kmx_7 : ∀ i, i < 211 → kd i = 7 → i + 1 < 211 := by decide +kernel
theorem kmx_9 : ∀ i, i < 211 → kd i = 9 → i + 32 < 211 := by decide +kernel
theorem CC_agree {ad a : Nat → Nat} {cA ca : Nat → ClassId} {d : DD} {dl : LL} (h1 : ∀ j, j < 211 → ad j = a j) (h2 : ∀ j, j < 211 → 11 ≤ kd j → cA j = ca j) : ∀ i, i < 211 → CC ad cA d dl i = CC a ca d dl i := by
  intro i hi
  rw [CC, CC]
  have h9 := (kd_le i hi).1
  rcases (show kd i = 0 ∨ kd i = 1 ∨ kd i = 2 ∨ kd i = 3 ∨ kd i = 4 ∨ kd i = 5 ∨ kd i = 6 ∨ kd i = 7 ∨ kd i = 8 ∨ kd i = 9 ∨ kd i = 10 ∨ kd i = 11 ∨ kd i = 12 ∨ kd i = 13 ∨ kd i = 14 ∨ kd i = 15 ∨ kd i = 16 by omega) with hk | hk | hk | hk | hk | hk | hk | hk | hk | hk | hk | hk | hk | hk | hk | hk | hk
  · rw [cc_0 hk, cc_0 hk]
  · rw [cc_1 hk, cc_1 hk, h1 (i + 1) (by have := kmx_1 i hi hk; omega), h1 (i + 2) (by have := kmx_1 i hi hk; omega)]
  · rw [cc_2 hk, cc_2 hk, h1 (i + 1) (by have := kmx_2 i hi hk; omega), h1 (i + 2) (by have := kmx_2 i hi hk; omega), h1 (i + 3) (by have := kmx_2 i hi hk; omega), h1 (i + 4) (by have := kmx_2 i hi hk; omega)]
  · rw [cc_3 hk, cc_3 hk, h1 (i + 1) (by have := kmx_3 i hi hk; omega), h1 (i + 2) (by have := kmx_3 i hi hk; omega), h1 (i + 3) (by have := kmx_3 i hi hk; omega), h1 (i + 4) (by have := kmx_3 i hi hk; omega)]
  · rw [cc_4 hk, cc_4 hk, h1 (i + 1) (by have := kmx_4 i hi hk; omega), h1 (i + 2) (by have := kmx_4 i hi hk; omega), h1 (i + 3) (by have := kmx_4 i hi hk; omega), h1 (i + 4) (by have := kmx_4 i hi hk; omega), h1 (i + 5) (by have := kmx_4 i hi hk; omega), h1 (i + 6) (by have := kmx_4 i hi hk; omega)]
  · rw [cc_5 hk, cc_5 hk, h1 (i + 1) (by have := kmx_5 i hi hk; omega), h1 (i + 2) (by have := kmx_5 i hi hk; omega), h1 (i + 3) (by have := kmx_5 i hi hk; omega), h1 (i + 4) (by have := kmx_5 i hi hk; omega), h1 (i + 5) (by have := kmx_5 i hi hk; omega)]
  · rw [cc_6 hk, cc_6 hk, h1 (i + 1) (by have := kmx_6 i hi hk; omega), h1 (i + 2) (by have := kmx_6 i hi hk; omega), h1 (i + 3) (by have := kmx_6 i hi hk; omega), h1 (i + 4) (by have := kmx_6 i hi hk; omega), h1 (i + 5) (by have := kmx_6 i hi hk; omega), h1 (i + 6) (by have := kmx_6 i hi hk; omega), h1 (i + 7) (by have := kmx_6 i hi hk; omega), h1 (i + 8) (by have := kmx_6 i hi hk; omega), h1 (i + 9) (by have := kmx_6 i hi hk; omega), h1 (i + 10) (by have := kmx_6 i hi hk; omega), h1 (i + 11) (by have := kmx_6 i hi hk; omega), h1 (i + 12) (by have := kmx_6 i hi hk; omega), h1 (i + 13) (by have := kmx_6 i hi hk; omega)]
  · rw [cc_7 hk, cc_7 hk, h1 (i + 1) (by have := kmx_7 i hi hk; omega)]
  · rw [cc_8 hk, cc_8 hk]
  · rw [cc_9 hk, cc_9 hk, h1 (i + 1) (by have := kmx_9 i hi hk; omega), h1 (i + 8) (by have := kmx_9 i hi hk; omega), h1 (i + 9) (by have := kmx_9 i hi hk; omega), h1 (i + 10) (by have := kmx_9 i hi hk; omega), h1 (i + 24) (by have := kmx_9 i hi hk; omega), h1 (i + 26) (by have := kmx_9 i hi hk; omega), h1 (i + 27) (by have := kmx_9 i hi hk; omega), h1 (i + 28) (by have := kmx_9 i hi hk; omega), h1 (i + 29) (by have := kmx_9 i hi hk; omega), h1 (i + 30) (by have := kmx_9 i hi hk; omega), h1 (i + 31) (by have := kmx_9 i hi hk; omega), h1 (i + 32) (by have := kmx_9 i hi hk; omega)]
  · exact absurd hk (kd_le i hi).2
  · rw [cc_11 hk, cc_11 hk, h2 i hi (by rw [hk]; decide)]
  · rw [cc_12 hk, cc_12 hk, h2 i hi (by rw [hk]; decide)]
  · rw [cc_13 hk, cc_13 hk, h2 i hi (by rw [hk]; decide)]
  · rw [cc_14 hk, cc_14 hk, h2 i hi (by rw [hk]; decide), show (fun k => if k < 6 then some (ad (37 + 3 * k)) else none) = (fun k => if k < 6 then some (a (37 + 3 * k)) else none) from funext (fun k => by
      by_cases hq : k < 6
      · rw [if_pos hq, if_pos hq, h1 _ (by omega)]
      · rw [if_neg hq, if_neg hq])]
  · rw [cc_15 hk, cc_15 hk, h2 i hi (by rw [hk]; decide), show (fun k => if k < 6 then some (ad (55 + 6 * k)) else none) = (fun k => if k < 6 then some (a (55 + 6 * k)) else none) from funext (fun k => by
      by_cases hq : k < 6
      · rw [if_pos hq, if_pos hq, h1 _ (by omega)]
      · rw [if_neg hq, if_neg hq])]
  · rw [cc_16 hk, cc_16 hk, h2 i hi (by rw [hk]; decide), show (fun k => if k < 24 then some (ad (91 + 5 * k)) else none) = (fun k => if k < 24 then some (a (91 + 5 * k)) else none) from funext (fun k => by
      by_cases hq : k < 24
      · rw [if_pos hq, if_pos hq, h1 _ (by omega)]
      · rw [if_neg hq, if_neg hq])]
theorem lw_cl9 : Cond.classLink RL 7 RX9 ∈ GW := gw_of ((lwt_1 (List.mem_of_getElem? (i := 17) (by decide +kernel)))) (by decide +kernel)
theorem lw_cl10 : Cond.classLink RL 10 RX10 ∈ GW := gw_of ((lwt_4 (List.mem_of_getElem? (i := 113) (by decide +kernel)))) (by decide +kernel)
theorem lw_in9 : Cond.instantiable RX9 16 ∈ GW := gw_of ((lwt_1 (List.mem_of_getElem? (i := 18) (by decide +kernel)))) (by decide +kernel)
theorem lw_in10 : Cond.instantiable RX10 48 ∈ GW := gw_of ((lwt_4 (List.mem_of_getElem? (i := 114) (by decide +kernel)))) (by decide +kernel)
theorem lw_iz9 : Cond.initialized RX9 ∈ GW := gw_of ((lwt_1 (List.mem_of_getElem? (i := 1) (by decide +kernel)))) (by decide +kernel)
theorem lw_iz10 : Cond.initialized RX10 ∈ GW := gw_of ((lwt_1 (List.mem_of_getElem? (i := 11) (by decide +kernel)))) (by decide +kernel)
theorem lw_ml9 : Cond.methodLink RL 9 yX9_init ∈ GW := gw_of ((lwt_1 (List.mem_of_getElem? (i := 19) (by decide +kernel)))) (by decide +kernel)
theorem lw_ml10 : Cond.methodLink RL 12 yX10_init ∈ GW := gw_of ((lwt_4 (List.mem_of_getElem? (i := 115) (by decide +kernel)))) (by decide +kernel)
theorem lw_im9 : Cond.instanceMethod yX9_init ∈ GW := gw_of ((lwt_1 (List.mem_of_getElem? (i := 20) (by decide +kernel)))) (by decide +kernel)
theorem lw_im10 : Cond.instanceMethod yX10_init ∈ GW := gw_of ((lwt_4 (List.mem_of_getElem? (i := 116) (by decide +kernel)))) (by decide +kernel)
theorem lw_co9 : Cond.code yX9_init cX9_init 2 none ∈ GW := gw_of ((lwt_1 (List.mem_of_getElem? (i := 21) (by decide +kernel)))) (by decide +kernel)
theorem lw_co10 : Cond.code yX10_init cX10_init 2 none ∈ GW := gw_of ((lwt_4 (List.mem_of_getElem? (i := 117) (by decide +kernel)))) (by decide +kernel)
theorem lk_i0 : Cond.instantiable RX0 2 ∈ lw_tbl := (lwt_1 (List.mem_of_getElem? (i := 172) (by decide +kernel)))
theorem lk_i1 : Cond.instantiable RX1 8 ∈ lw_tbl := (lwt_1 (List.mem_of_getElem? (i := 211) (by decide +kernel)))
theorem lk_i2 : Cond.instantiable RX2 5 ∈ lw_tbl := (lwt_1 (List.mem_of_getElem? (i := 187) (by decide +kernel)))
theorem lk_i3 : Cond.instantiable RX3 7 ∈ lw_tbl := (lwt_2 (List.mem_of_getElem? (i := 45) (by decide +kernel)))
theorem lk_i4 : Cond.instantiable RX4 7 ∈ lw_tbl := (lwt_1 (List.mem_of_getElem? (i := 26) (by decide +kernel)))
theorem lk_i5 : Cond.instantiable RX5 6 ∈ lw_tbl := (lwt_2 (List.mem_of_getElem? (i := 15) (by decide +kernel)))
theorem lk_i6 : Cond.instantiable RX6 17 ∈ lw_tbl := (lwt_1 (List.mem_of_getElem? (i := 91) (by decide +kernel)))
theorem lk_i7 : Cond.instantiable RX7 3 ∈ lw_tbl := (lwt_1 (List.mem_of_getElem? (i := 150) (by decide +kernel)))
theorem lk_i8 : Cond.instantiable RX8 4 ∈ lw_tbl := (lwt_1 (List.mem_of_getElem? (i := 68) (by decide +kernel)))
theorem lk_i9 : Cond.instantiable RX9 16 ∈ lw_tbl := (lwt_1 (List.mem_of_getElem? (i := 18) (by decide +kernel)))
theorem lk_i10 : Cond.instantiable RX10 48 ∈ lw_tbl := (lwt_4 (List.mem_of_getElem? (i := 114) (by decide +kernel)))
theorem ln_0 : Cond.methodLinkNest RX9 11 yX4_init RX9 ∈ lw_tbl := (lwt_1 (List.mem_of_getElem? (i := 27) (by decide +kernel)))
theorem ln_1 : Cond.methodLinkNest RX9 30 yX8_init RX9 ∈ lw_tbl := (lwt_1 (List.mem_of_getElem? (i := 69) (by decide +kernel)))
theorem ln_2 : Cond.methodLinkNest RX9 37 yX6_init RX9 ∈ lw_tbl := (lwt_1 (List.mem_of_getElem? (i := 92) (by decide +kernel)))
theorem ln_3 : Cond.methodLinkNest RX9 44 yX7_init RX9 ∈ lw_tbl := (lwt_1 (List.mem_of_getElem? (i := 151) (by decide +kernel)))
theorem ln_4 : Cond.methodLinkNest RX9 82 yX0_init RX9 ∈ lw_tbl := (lwt_1 (List.mem_of_getElem? (i := 173) (by decide +kernel)))
theorem ln_5 : Cond.methodLinkNest RX9 89 yX2_init RX9 ∈ lw_tbl := (lwt_1 (List.mem_of_getElem? (i := 188) (by decide +kernel)))
theorem ln_6 : Cond.methodLinkNest RX9 94 yX1_init RX9 ∈ lw_tbl := (lwt_1 (List.mem_of_getElem? (i := 212) (by decide +kernel)))
theorem ln_7 : Cond.methodLinkNest RX9 95 yX5_init RX9 ∈ lw_tbl := (lwt_2 (List.mem_of_getElem? (i := 16) (by decide +kernel)))
theorem ln_8 : Cond.methodLinkNest RX9 96 yX3_init RX9 ∈ lw_tbl := (lwt_2 (List.mem_of_getElem? (i := 46) (by decide +kernel)))
theorem lo_0 : Cond.arrayOver (.object RX1) ∈ lw_tbl := (lwt_1 (List.mem_of_getElem? (i := 66) (by decide +kernel)))
theorem lo_1 : Cond.arrayOver (.object RX5) ∈ lw_tbl := (lwt_1 (List.mem_of_getElem? (i := 168) (by decide +kernel)))
theorem lo_2 : Cond.arrayOver (.object RX3) ∈ lw_tbl := (lwt_1 (List.mem_of_getElem? (i := 170) (by decide +kernel)))
set_option maxHeartbeats 8000000 in
set_option maxRecDepth 100000 in
theorem start_of {p : Program} {e : Env} {s : State} {m : MethodId} {below : List Frame} {meth : Method} {c : Code} (l : Launch) {b L : Nat} {xs : Nat → Int32} (C0 : lw_At p s m meth c b L xs) {n : Nat} (hw : b_L_law_18 n (L, xs) n 0 d0 l0) : W p l e room_1 s m #[Value.ref b] below meth c s.heap [] 0 0 (lw_Z below #[Value.ref b] s) (entryFrame m ([Value.ref b] : List Value).toArray 4) := by
  obtain ⟨hx, hb, hr, hml, hown, hts0, hX, hbl, hlocks, hgv⟩ := C0
  have hb : c.code = cL_law := hb
  have hown : s.vm.findClass RL = some m.cls := hown
  have hts : ∀ w ∈ GW, w.before #[Value.ref b] s = true := fun w h => hts0 w (gw_tbl h)
  obtain ⟨A, hAe⟩ : ∃ A : Nat → Prop, A = fun q => s.heap.size ≤ q := ⟨_, rfl⟩
  have hA : ∀ q : Nat, s.heap.size ≤ q → A q := fun q h => by rw [hAe]; exact h
  have hAl : ∀ q : Nat, A q → s.heap.size ≤ q := fun q h => by rw [hAe] at h; exact h
  have hAn : ∀ q : Nat, q < s.heap.size → ¬ A q := fun q h h1 => absurd h (Nat.not_lt.mpr (hAl q h1))
  have hbA : ¬ A b := hAn b hbl
  obtain ⟨k0, i0, hKn0⟩ := u_known (C := RX0) (T := TX0) (N := 2) (n := 2) hts0 inlX0 (hts0 _ lk_i0)
  obtain ⟨k1, i1, hKn1⟩ := u_known (C := RX1) (T := TX1) (N := 8) (n := 8) hts0 inlX1 (hts0 _ lk_i1)
  obtain ⟨k2, i2, hKn2⟩ := u_known (C := RX2) (T := TX2) (N := 5) (n := 5) hts0 inlX2 (hts0 _ lk_i2)
  obtain ⟨k3, i3, hKn3⟩ := u_known (C := RX3) (T := TX3) (N := 7) (n := 7) hts0 inlX3 (hts0 _ lk_i3)
  obtain ⟨k4, i4, hKn4⟩ := u_known (C := RX4) (T := TX4) (N := 7) (n := 7) hts0 inlX4 (hts0 _ lk_i4)
  obtain ⟨k5, i5, hKn5⟩ := u_known (C := RX5) (T := TX5) (N := 6) (n := 6) hts0 inlX5 (hts0 _ lk_i5)
  obtain ⟨k6, i6, hKn6⟩ := u_known (C := RX6) (T := TX6) (N := 17) (n := 17) hts0 inlX6 (hts0 _ lk_i6)
  obtain ⟨k7, i7, hKn7⟩ := u_known (C := RX7) (T := TX7) (N := 3) (n := 3) hts0 inlX7 (hts0 _ lk_i7)
  obtain ⟨k8, i8, hKn8⟩ := u_known (C := RX8) (T := TX8) (N := 4) (n := 4) hts0 inlX8 (hts0 _ lk_i8)
  obtain ⟨k9, i9, hKn9⟩ := u_known (C := RX9) (T := TX9) (N := 16) (n := 16) hts0 inlX9 (hts0 _ lk_i9)
  obtain ⟨k10, i10, hKn10⟩ := u_known (C := RX10) (T := TX10) (N := 48) (n := 48) hts0 inlX10 (hts0 _ lk_i10)
  obtain ⟨dC, dI, hKc⟩ : ∃ (dC : Nat → ClassId) (dI : Nat → Nat → Nat), ∀ (k : Nat) (q : vw_C), vwCl[k]? = some q → u_Kn s q.1 q.2.1 q.2.2 (dC k) (dI k) := by
    refine ⟨fun k => match k with | 0 => k0 | 1 => k1 | 2 => k2 | 3 => k3 | 4 => k4 | 5 => k5 | 6 => k6 | 7 => k7 | 8 => k8 | 9 => k9 | 10 => k10 | _ => k0, fun k => match k with | 0 => i0 | 1 => i1 | 2 => i2 | 3 => i3 | 4 => i4 | 5 => i5 | 6 => i6 | 7 => i7 | 8 => i8 | 9 => i9 | 10 => i10 | _ => i0, ?_⟩
    intro k q hq
    match k, hq with
    | 0, hq => cases hq; exact hKn0
    | 1, hq => cases hq; exact hKn1
    | 2, hq => cases hq; exact hKn2
    | 3, hq => cases hq; exact hKn3
    | 4, hq => cases hq; exact hKn4
    | 5, hq => cases hq; exact hKn5
    | 6, hq => cases hq; exact hKn6
    | 7, hq => cases hq; exact hKn7
    | 8, hq => cases hq; exact hKn8
    | 9, hq => cases hq; exact hKn9
    | 10, hq => cases hq; exact hKn10
    | k + 11, hq => simp [vwCl] at hq
  have hS : va_S A s.heap s.heap [] := va_S.rf
  have hK : va_K (dC, dI) vwCl [] s := ⟨hKc, fun k q h => by simp at h⟩
  have hP : va_P (dC, dI) vwCl ([] : va_W) s.heap := P_nil
  have hD : va_D A ([] : va_W) := D_nil
  obtain ⟨sa, sv, vf, hEV⟩ := ev_start (A := A) hgv hts0 hAn
  have hNE : NE s := ⟨va_Nw.of rfl (hts0 _ ln_0), va_Nw.of rfl (hts0 _ ln_1), va_Nw.of rfl (hts0 _ ln_2), va_Nw.of rfl (hts0 _ ln_3), va_Nw.of rfl (hts0 _ ln_4), va_Nw.of rfl (hts0 _ ln_5), va_Nw.of rfl (hts0 _ ln_6), va_Nw.of rfl (hts0 _ ln_7), va_Nw.of rfl (hts0 _ ln_8), va_AO.of (hts0 _ lo_0), va_AO.of (hts0 _ lo_1), va_AO.of (hts0 _ lo_2)⟩
  have hl := lv_entry ([.ref b]) (n := 4) (Nat.le_of_ble_eq_true rfl)
  rw [lg_entry_eq]
  generalize (lg_sl ([.ref b]) ++ List.replicate (4 - (lg_sl ([.ref b])).length) Slot.unset).toArray = ls at hl ⊢
  have hl : lv_has ls 4 [(0, .ref b)] := hl
  refine va_new (ci := 9) (fs := [.null, .null, .int 0, .null, .null, .null, .null, .int 0, .null, .int 0, .null, .null, .null, .int 0, .null, .null]) (C := RX9) (T := TX9) (N := 16) hx hb hts inX9 tyX9 tyX9_ok hown (hts _ lw_cl9) (hts _ lw_in9) (hts _ lw_iz9) hK hP hD hS hA rfl (fun j hj => by rcases (show j = 0 ∨ j = 1 ∨ j = 2 ∨ j = 3 ∨ j = 4 ∨ j = 5 ∨ j = 6 ∨ j = 7 ∨ j = 8 ∨ j = 9 ∨ j = 10 ∨ j = 11 ∨ j = 12 ∨ j = 13 ∨ j = 14 ∨ j = 15 by omega) with rfl | rfl | rfl | rfl | rfl | rfl | rfl | rfl | rfl | rfl | rfl | rfl | rfl | rfl | rfl | rfl <;> rfl) (Nat.le_of_ble_eq_true rfl) (Nat.le_of_ble_eq_true rfl) dL_law_0 (fun h0 H hP hD hS => ?_)
  refine W.widen (k := 1) (n := 16) (Nat.le_of_ble_eq_true rfl) (Nat.le_of_ble_eq_true rfl) ?_
  have hP : va_P (dC, dI) vwCl [(h0, .inr (9, [.null, .null, .int 0, .null, .null, .null, .null, .int 0, .null, .int 0, .null, .null, .null, .int 0, .null, .null]))] H := hP
  have hD : va_D A [(h0, .inr (9, [.null, .null, .int 0, .null, .null, .null, .null, .int 0, .null, .int 0, .null, .null, .null, .int 0, .null, .null]))] := hD
  refine lv_dup hx hb dL_law_3 rfl ?_
  have hFc := va_free (wc := [(h0, .inr (9, [.null, .null, .int 0, .null, .null, .null, .null, .int 0, .null, .int 0, .null, .null, .null, .int 0, .null, .null]))]) hD hS hA [0] rfl
  refine va_callv (va_runI (As := []) (rest := [.ref h0]) ⟨hx, hb, hml, hown, hts⟩ (made9 l dC dI H.size h0) (cwI 0 hts (gw_cons lw_co9 gw_good) rfl rfl rfl (hts _ lw_iz9) (hts _ lw_ml9) (hts _ lw_im9) rfl (by decide +kernel) ⟨(Nat.le_of_ble_eq_true rfl), (Nat.le_of_ble_eq_true rfl)⟩) ⟨fun a U g mk q => by obtain ⟨q0, q1, qP, qK, qD, qN⟩ := q; exact ⟨q0, q1, qP, va_K.moved (u := U) (U := U.calling g mk a) (Vm.Alike.refl U.vm) qK, qD, NE.calling g mk a qN⟩, fun U hU hW => ⟨rfl, by rw [hU], by rw [hU]; exact hP, va_K.moved hW.alike hK, hD.weaken (fun _ _ _ _ => trivial), NE.warm hW hNE⟩⟩ rfl rfl hl.1 rfl (lv_room (Nat.le_of_ble_eq_true rfl)) dL_law_4 ⟨(Nat.le_of_ble_eq_true rfl), (Nat.le_of_ble_eq_true rfl)⟩) hS (fun q _ h => hFc q h) hFc (fun u t H1 locs ht hvm hw9 hB hz1 hk1 hS => ?_)
  refine W.widen (k := 211) (n := 1569) (Nat.le_of_ble_eq_true rfl) (Nat.le_of_ble_eq_true rfl) ?_
  obtain ⟨a, ca, ha0, hP1, hD1, hT1⟩ := hB
  rw [ht] at hP1
  have hD1 : va_D A (pw 211 a (CC a ca d0 l0)) := hD1.weaken (fun k q _ h => hFc _ h)
  have hT1 : ∀ i, i < 211 → 11 ≤ kd i → TK s (ca i) (ety i) := fun i h1 h2 => ⟨arrOfT_moved hvm.symm (hT1 i h1 h2).1, (hT1 i h1 h2).2.moved hvm.symm⟩
  clear hP hD hk1 hFc
  generalize H1 = H at hP1 hS ⊢
  refine lv_astore_n (lv' := [(1, .ref h0), (0, .ref b)]) hx hb dL_law_7 rfl hl (by decide) rfl (fun ls hl => ?_)
  refine va_new (ci := 10) (fs := [.int 0, .int 0, .int 0, .int 0, .int 0, .int 0, .int 0, .int 0, .null, .null, .null, .null, .null, .null, .null, .null, .null, .null, .null, .null, .null, .null, .null, .null, .null, .null, .null, .null, .null, .null, .null, .null, .null, .null, .null, .null, .null, .null, .null, .null, .null, .null, .null, .null, .long 0, .long 0, .int 0, .int 0]) (C := RX10) (T := TX10) (N := 48) hx hb hts inX10 tyX10 tyX10_ok hown (hts _ lw_cl10) (hts _ lw_in10) (hts _ lw_iz10) hK hP1 hD1 hS hA rfl (fun j hj => by rcases (show j = 0 ∨ j = 1 ∨ j = 2 ∨ j = 3 ∨ j = 4 ∨ j = 5 ∨ j = 6 ∨ j = 7 ∨ j = 8 ∨ j = 9 ∨ j = 10 ∨ j = 11 ∨ j = 12 ∨ j = 13 ∨ j = 14 ∨ j = 15 ∨ j = 16 ∨ j = 17 ∨ j = 18 ∨ j = 19 ∨ j = 20 ∨ j = 21 ∨ j = 22 ∨ j = 23 ∨ j = 24 ∨ j = 25 ∨ j = 26 ∨ j = 27 ∨ j = 28 ∨ j = 29 ∨ j = 30 ∨ j = 31 ∨ j = 32 ∨ j = 33 ∨ j = 34 ∨ j = 35 ∨ j = 36 ∨ j = 37 ∨ j = 38 ∨ j = 39 ∨ j = 40 ∨ j = 41 ∨ j = 42 ∨ j = 43 ∨ j = 44 ∨ j = 45 ∨ j = 46 ∨ j = 47 by omega) with rfl | rfl | rfl | rfl | rfl | rfl | rfl | rfl | rfl | rfl | rfl | rfl | rfl | rfl | rfl | rfl | rfl | rfl | rfl | rfl | rfl | rfl | rfl | rfl | rfl | rfl | rfl | rfl | rfl | rfl | rfl | rfl | rfl | rfl | rfl | rfl | rfl | rfl | rfl | rfl | rfl | rfl | rfl | rfl | rfl | rfl | rfl | rfl <;> rfl) (Nat.le_of_ble_eq_true rfl) (Nat.le_of_ble_eq_true rfl) dL_law_8 (fun qm H hP hD hS => ?_)
  refine W.widen (k := 212) (n := 1617) (Nat.le_of_ble_eq_true rfl) (Nat.le_of_ble_eq_true rfl) ?_
  have hpm : ([(qm, .inr (10, [.int 0, .int 0, .int 0, .int 0, .int 0, .int 0, .int 0, .int 0, .null, .null, .null, .null, .null, .null, .null, .null, .null, .null, .null, .null, .null, .null, .null, .null, .null, .null, .null, .null, .null, .null, .null, .null, .null, .null, .null, .null, .null, .null, .null, .null, .null, .null, .null, .null, .long 0, .long 0, .int 0, .int 0]))] ++ pw 211 a (CC a ca d0 l0) : va_W).Perm (pw 211 a (CC a ca d0 l0) ++ [(qm, .inr (10, [.int 0, .int 0, .int 0, .int 0, .int 0, .int 0, .int 0, .int 0, .null, .null, .null, .null, .null, .null, .null, .null, .null, .null, .null, .null, .null, .null, .null, .null, .null, .null, .null, .null, .null, .null, .null, .null, .null, .null, .null, .null, .null, .null, .null, .null, .null, .null, .null, .null, .long 0, .long 0, .int 0, .int 0]))]) := List.perm_append_comm
  have hP := P_perm hP hpm
  have hD := D_perm hD hpm
  have hPc : va_P (dC, dI) vwCl [(qm, .inr (10, [.int 0, .int 0, .int 0, .int 0, .int 0, .int 0, .int 0, .int 0, .null, .null, .null, .null, .null, .null, .null, .null, .null, .null, .null, .null, .null, .null, .null, .null, .null, .null, .null, .null, .null, .null, .null, .null, .null, .null, .null, .null, .null, .null, .null, .null, .null, .null, .null, .null, .long 0, .long 0, .int 0, .int 0]))] H := P_mem hP (fun q hq => List.mem_append_left _ hq)
  have hDc : va_D A [(qm, .inr (10, [.int 0, .int 0, .int 0, .int 0, .int 0, .int 0, .int 0, .int 0, .null, .null, .null, .null, .null, .null, .null, .null, .null, .null, .null, .null, .null, .null, .null, .null, .null, .null, .null, .null, .null, .null, .null, .null, .null, .null, .null, .null, .null, .null, .null, .null, .null, .null, .null, .null, .long 0, .long 0, .int 0, .int 0]))] := nodup_D (by simp) (fun q hq => by obtain ⟨j, hj⟩ := List.mem_iff_getElem?.mp (List.mem_append_left (pw 211 a (CC a ca d0 l0)) hq); exact hD.2 j q hj)
  refine lv_dup hx hb dL_law_11 rfl ?_
  have hFc := va_free (wc := [(qm, .inr (10, [.int 0, .int 0, .int 0, .int 0, .int 0, .int 0, .int 0, .int 0, .null, .null, .null, .null, .null, .null, .null, .null, .null, .null, .null, .null, .null, .null, .null, .null, .null, .null, .null, .null, .null, .null, .null, .null, .null, .null, .null, .null, .null, .null, .null, .null, .null, .null, .null, .null, .long 0, .long 0, .int 0, .int 0]))]) hDc hS hA [0] rfl
  refine va_callv (va_runI (As := []) (rest := [.ref qm]) ⟨hx, hb, hml, hown, hts⟩ (kf_X10_init l dC dI H.size qm) (cwI 0 hts (gw_cons lw_co10 gw_good) rfl rfl rfl (hts _ lw_iz10) (hts _ lw_ml10) (hts _ lw_im10) rfl (by decide +kernel) ⟨(Nat.le_of_ble_eq_true rfl), (Nat.le_of_ble_eq_true rfl)⟩) ⟨fun a U g mk q => by obtain ⟨q0, q1, qP, qK, qD⟩ := q; exact ⟨q0, q1, qP, va_K.moved (u := U) (U := U.calling g mk a) (Vm.Alike.refl U.vm) qK, qD⟩, fun U hU hW => ⟨rfl, by rw [hU], by rw [hU]; exact hPc, va_K.moved hW.alike hK, hDc.weaken (fun _ _ _ _ => trivial)⟩⟩ rfl rfl hl.1 rfl (lv_room (Nat.le_of_ble_eq_true rfl)) dL_law_12 ⟨(Nat.le_of_ble_eq_true rfl), (Nat.le_of_ble_eq_true rfl)⟩) hS (fun q _ h => hFc q h) hFc (fun u t H1 locs ht hvm hw9 hB hz1 hk1 hS => ?_)
  refine W.widen (k := 248) (n := 4423) (Nat.le_of_ble_eq_true rfl) (Nat.le_of_ble_eq_true rfl) ?_
  obtain ⟨q1, q2, q3, q4, q5, q6, q7, q8, q9, q10, q11, q12, q13, q14, q15, q16, q17, q18, q19, q20, q21, q22, q23, q24, q25, q26, q27, q28, q29, q30, q31, q32, q33, q34, q35, q36, cq1, cq2, cq3, cq4, cq5, cq6, cq7, cq8, cq9, cq10, cq11, cq12, cq13, cq14, cq15, cq16, cq17, cq18, cq19, cq20, cq21, cq22, cq23, cq24, cq25, cq26, cq27, cq28, cq29, cq30, cq31, cq32, cq33, cq34, cq35, cq36, hP2, hK2, hD2⟩ := hB
  rw [ht] at hP2
  have hK2 := va_K.moved hvm.symm hK2
  obtain ⟨hP, hD⟩ := va_joinQ (X := [(qm, .inr (10, [.int 0, .int 0, .int 0, .int 0, .int 0, .int 0, .int 0, .int 0, .null, .null, .null, .null, .null, .null, .null, .null, .null, .null, .null, .null, .null, .null, .null, .null, .null, .null, .null, .null, .null, .null, .null, .null, .null, .null, .null, .null, .null, .null, .null, .null, .null, .null, .null, .null, .long 0, .long 0, .int 0, .int 0]))]) (wr := ([] : va_W)) (w1 := [(qm, .inr (10, [.int 0, .int 0, .int 0, .int 0, .int 0, .int 10, .int 0, .int 0, .ref q1, .ref q2, .ref q3, .ref q4, .ref q5, .ref q6, .ref q7, .ref q8, .ref q9, .ref q10, .ref q11, .ref q12, .ref q13, .ref q14, .ref q15, .ref q16, .ref q17, .ref q18, .ref q19, .ref q20, .ref q21, .ref q22, .ref q23, .ref q24, .ref q25, .ref q26, .ref q27, .ref q28, .ref q29, .ref q30, .ref q31, .ref q32, .ref q33, .ref q34, .ref q35, .ref q36, .long 0, .long 0, .int 0, .int 0])), (q1, .inl (cq1, 40, .inl (fun _ => 0))), (q2, .inl (cq2, 40, .inl (fun _ => 0))), (q3, .inl (cq3, 40, .inl (fun _ => 0))), (q4, .inl (cq4, 40, .inl (fun _ => 0))), (q5, .inl (cq5, 40, .inl (fun _ => 0))), (q6, .inl (cq6, 1600, .inl (fun _ => 0))), (q7, .inl (cq7, 6, .inl (fun _ => 0))), (q8, .inl (cq8, 6, .inl (fun _ => 0))), (q9, .inl (cq9, 6, .inl (fun _ => 0))), (q10, .inl (cq10, 6, .inl (fun _ => 0))), (q11, .inl (cq11, 48, .inl (fun _ => 0))), (q12, .inl (cq12, 48, .inl (fun _ => 0))), (q13, .inl (cq13, 6, .inl (fun _ => 0))), (q14, .inl (cq14, 120, .inl (fun _ => 0))), (q15, .inl (cq15, 6, .inl (fun _ => 0))), (q16, .inl (cq16, 48, .inl (fun _ => 0))), (q17, .inl (cq17, 48, .inl (fun _ => 0))), (q18, .inl (cq18, 48, .inl (fun _ => 0))), (q19, .inl (cq19, 48, .inl (fun _ => 0))), (q20, .inl (cq20, 48, .inl (fun _ => 0))), (q21, .inl (cq21, 24, .inl (fun _ => 0))), (q22, .inl (cq22, 24, .inl (fun _ => 0))), (q23, .inl (cq23, 96, .inl (fun _ => 0))), (q24, .inl (cq24, 96, .inl (fun _ => 0))), (q25, .inl (cq25, 96, .inl (fun _ => 0))), (q26, .inl (cq26, 96, .inl (fun _ => 0))), (q27, .inl (cq27, 24, .inl (fun _ => 0))), (q28, .inl (cq28, 4, .inl (upd (upd (upd (upd (fun _ => 0) (0 : Int32).toNatClampNeg (-1)) (1 : Int32).toNatClampNeg (-1)) (2 : Int32).toNatClampNeg (-1)) (3 : Int32).toNatClampNeg (-1)))), (q29, .inl (cq29, 4, .inl (fun _ => 0))), (q30, .inl (cq30, 6, .inl (fun _ => 0))), (q31, .inl (cq31, 6, .inl (fun _ => 0))), (q32, .inl (cq32, 6, .inl (fun _ => 0))), (q33, .inl (cq33, 8, .inl (fun _ => 0))), (q34, .inl (cq34, 8, .inl (fun _ => 0))), (q35, .inl (cq35, 8, .inl (fun _ => 0))), (q36, .inl (cq36, 8, .inl (fun _ => 0)))]) (pl := pw 211 a (CC a ca d0 l0)) hP hD [0] [] rfl rfl (by decide) (by decide) hk1 hFc hP2 hD2
  generalize H1 = H at hP hS ⊢
  refine lv_astore_n (lv' := [(2, .ref qm), (1, .ref h0), (0, .ref b)]) hx hb dL_law_15 rfl hl (by decide) rfl (fun ls hl => ?_)
  refine lv_iconst (v := 0) hx hb dL_law_16 (by decide) ?_
  refine lv_istore_n (lv' := [(3, .int 0), (2, .ref qm), (1, .ref h0), (0, .ref b)]) hx hb dL_law_17 rfl hl (by decide) rfl (fun ls hl => ?_)
  obtain ⟨am, ham⟩ : ∃ am : Nat → Nat, am = fun i => ([qm, q1, q2, q3, q4, q5, q6, q7, q8, q9, q10, q11, q12, q13, q14, q15, q16, q17, q18, q19, q20, q21, q22, q23, q24, q25, q26, q27, q28, q29, q30, q31, q32, q33, q34, q35, q36] : List Nat).getD i 0 := ⟨_, rfl⟩
  obtain ⟨cm, hcm⟩ : ∃ cm : Nat → ClassId, cm = fun i => ([cq1, cq1, cq2, cq3, cq4, cq5, cq6, cq7, cq8, cq9, cq10, cq11, cq12, cq13, cq14, cq15, cq16, cq17, cq18, cq19, cq20, cq21, cq22, cq23, cq24, cq25, cq26, cq27, cq28, cq29, cq30, cq31, cq32, cq33, cq34, cq35, cq36] : List ClassId).getD i cq1 := ⟨_, rfl⟩
  obtain ⟨ad, had⟩ : ∃ ad : Nat → Nat, ad = fun i => if i < 211 then a i else am (i - 211) := ⟨_, rfl⟩
  obtain ⟨cA, hcA⟩ : ∃ cA : Nat → ClassId, cA = fun i => if kd i < 11 then cq1 else if i < 211 then ca i else cm (i - 211) := ⟨_, rfl⟩
  have hd1 : ∀ i, i < 211 → ad i = a i := fun i h => by rw [had]; exact if_pos h
  have hc1 : ∀ i, i < 211 → 11 ≤ kd i → cA i = ca i := fun i h h2 => by rw [hcA]; show (if kd i < 11 then cq1 else if i < 211 then ca i else cm (i - 211)) = ca i; rw [if_neg (by omega), if_pos h]
  have e_0 : ad 211 = qm := by rw [had]; show (if 211 < 211 then a 211 else am (211 - 211)) = _; rw [if_neg (by decide), ham]; rfl
  have e_1 : ad 212 = q1 := by rw [had]; show (if 212 < 211 then a 212 else am (212 - 211)) = _; rw [if_neg (by decide), ham]; rfl
  have e_2 : ad 213 = q2 := by rw [had]; show (if 213 < 211 then a 213 else am (213 - 211)) = _; rw [if_neg (by decide), ham]; rfl
  have e_3 : ad 214 = q3 := by rw [had]; show (if 214 < 211 then a 214 else am (214 - 211)) = _; rw [if_neg (by decide), ham]; rfl
  have e_4 : ad 215 = q4 := by rw [had]; show (if 215 < 211 then a 215 else am (215 - 211)) = _; rw [if_neg (by decide), ham]; rfl
  have e_5 : ad 216 = q5 := by rw [had]; show (if 216 < 211 then a 216 else am (216 - 211)) = _; rw [if_neg (by decide), ham]; rfl
  have e_6 : ad 217 = q6 := by rw [had]; show (if 217 < 211 then a 217 else am (217 - 211)) = _; rw [if_neg (by decide), ham]; rfl
  have e_7 : ad 218 = q7 := by rw [had]; show (if 218 < 211 then a 218 else am (218 - 211)) = _; rw [if_neg (by decide), ham]; rfl
  have e_8 : ad 219 = q8 := by rw [had]; show (if 219 < 211 then a 219 else am (219 - 211)) = _; rw [if_neg (by decide), ham]; rfl
  have e_9 : ad 220 = q9 := by rw [had]; show (if 220 < 211 then a 220 else am (220 - 211)) = _; rw [if_neg (by decide), ham]; rfl
  have e_10 : ad 221 = q10 := by rw [had]; show (if 221 < 211 then a 221 else am (221 - 211)) = _; rw [if_neg (by decide), ham]; rfl
  have e_11 : ad 222 = q11 := by rw [had]; show (if 222 < 211 then a 222 else am (222 - 211)) = _; rw [if_neg (by decide), ham]; rfl
  have e_12 : ad 223 = q12 := by rw [had]; show (if 223 < 211 then a 223 else am (223 - 211)) = _; rw [if_neg (by decide), ham]; rfl
  have e_13 : ad 224 = q13 := by rw [had]; show (if 224 < 211 then a 224 else am (224 - 211)) = _; rw [if_neg (by decide), ham]; rfl
  have e_14 : ad 225 = q14 := by rw [had]; show (if 225 < 211 then a 225 else am (225 - 211)) = _; rw [if_neg (by decide), ham]; rfl
  have e_15 : ad 226 = q15 := by rw [had]; show (if 226 < 211 then a 226 else am (226 - 211)) = _; rw [if_neg (by decide), ham]; rfl
  have e_16 : ad 227 = q16 := by rw [had]; show (if 227 < 211 then a 227 else am (227 - 211)) = _; rw [if_neg (by decide), ham]; rfl
  have e_17 : ad 228 = q17 := by rw [had]; show (if 228 < 211 then a 228 else am (228 - 211)) = _; rw [if_neg (by decide), ham]; rfl
  have e_18 : ad 229 = q18 := by rw [had]; show (if 229 < 211 then a 229 else am (229 - 211)) = _; rw [if_neg (by decide), ham]; rfl
  have e_19 : ad 230 = q19 := by rw [had]; show (if 230 < 211 then a 230 else am (230 - 211)) = _; rw [if_neg (by decide), ham]; rfl
  have e_20 : ad 231 = q20 := by rw [had]; show (if 231 < 211 then a 231 else am (231 - 211)) = _; rw [if_neg (by decide), ham]; rfl
  have e_21 : ad 232 = q21 := by rw [had]; show (if 232 < 211 then a 232 else am (232 - 211)) = _; rw [if_neg (by decide), ham]; rfl
  have e_22 : ad 233 = q22 := by rw [had]; show (if 233 < 211 then a 233 else am (233 - 211)) = _; rw [if_neg (by decide), ham]; rfl
  have e_23 : ad 234 = q23 := by rw [had]; show (if 234 < 211 then a 234 else am (234 - 211)) = _; rw [if_neg (by decide), ham]; rfl
  have e_24 : ad 235 = q24 := by rw [had]; show (if 235 < 211 then a 235 else am (235 - 211)) = _; rw [if_neg (by decide), ham]; rfl
  have e_25 : ad 236 = q25 := by rw [had]; show (if 236 < 211 then a 236 else am (236 - 211)) = _; rw [if_neg (by decide), ham]; rfl
  have e_26 : ad 237 = q26 := by rw [had]; show (if 237 < 211 then a 237 else am (237 - 211)) = _; rw [if_neg (by decide), ham]; rfl
  have e_27 : ad 238 = q27 := by rw [had]; show (if 238 < 211 then a 238 else am (238 - 211)) = _; rw [if_neg (by decide), ham]; rfl
  have e_28 : ad 239 = q28 := by rw [had]; show (if 239 < 211 then a 239 else am (239 - 211)) = _; rw [if_neg (by decide), ham]; rfl
  have e_29 : ad 240 = q29 := by rw [had]; show (if 240 < 211 then a 240 else am (240 - 211)) = _; rw [if_neg (by decide), ham]; rfl
  have e_30 : ad 241 = q30 := by rw [had]; show (if 241 < 211 then a 241 else am (241 - 211)) = _; rw [if_neg (by decide), ham]; rfl
  have e_31 : ad 242 = q31 := by rw [had]; show (if 242 < 211 then a 242 else am (242 - 211)) = _; rw [if_neg (by decide), ham]; rfl
  have e_32 : ad 243 = q32 := by rw [had]; show (if 243 < 211 then a 243 else am (243 - 211)) = _; rw [if_neg (by decide), ham]; rfl
  have e_33 : ad 244 = q33 := by rw [had]; show (if 244 < 211 then a 244 else am (244 - 211)) = _; rw [if_neg (by decide), ham]; rfl
  have e_34 : ad 245 = q34 := by rw [had]; show (if 245 < 211 then a 245 else am (245 - 211)) = _; rw [if_neg (by decide), ham]; rfl
  have e_35 : ad 246 = q35 := by rw [had]; show (if 246 < 211 then a 246 else am (246 - 211)) = _; rw [if_neg (by decide), ham]; rfl
  have e_36 : ad 247 = q36 := by rw [had]; show (if 247 < 211 then a 247 else am (247 - 211)) = _; rw [if_neg (by decide), ham]; rfl
  have f_1 : cA 212 = cq1 := by rw [hcA]; show (if kd 212 < 11 then cq1 else if 212 < 211 then ca 212 else cm (212 - 211)) = _; rw [if_neg (by decide), if_neg (by decide), hcm]; rfl
  have f_2 : cA 213 = cq2 := by rw [hcA]; show (if kd 213 < 11 then cq1 else if 213 < 211 then ca 213 else cm (213 - 211)) = _; rw [if_neg (by decide), if_neg (by decide), hcm]; rfl
  have f_3 : cA 214 = cq3 := by rw [hcA]; show (if kd 214 < 11 then cq1 else if 214 < 211 then ca 214 else cm (214 - 211)) = _; rw [if_neg (by decide), if_neg (by decide), hcm]; rfl
  have f_4 : cA 215 = cq4 := by rw [hcA]; show (if kd 215 < 11 then cq1 else if 215 < 211 then ca 215 else cm (215 - 211)) = _; rw [if_neg (by decide), if_neg (by decide), hcm]; rfl
  have f_5 : cA 216 = cq5 := by rw [hcA]; show (if kd 216 < 11 then cq1 else if 216 < 211 then ca 216 else cm (216 - 211)) = _; rw [if_neg (by decide), if_neg (by decide), hcm]; rfl
  have f_6 : cA 217 = cq6 := by rw [hcA]; show (if kd 217 < 11 then cq1 else if 217 < 211 then ca 217 else cm (217 - 211)) = _; rw [if_neg (by decide), if_neg (by decide), hcm]; rfl
  have f_7 : cA 218 = cq7 := by rw [hcA]; show (if kd 218 < 11 then cq1 else if 218 < 211 then ca 218 else cm (218 - 211)) = _; rw [if_neg (by decide), if_neg (by decide), hcm]; rfl
  have f_8 : cA 219 = cq8 := by rw [hcA]; show (if kd 219 < 11 then cq1 else if 219 < 211 then ca 219 else cm (219 - 211)) = _; rw [if_neg (by decide), if_neg (by decide), hcm]; rfl
  have f_9 : cA 220 = cq9 := by rw [hcA]; show (if kd 220 < 11 then cq1 else if 220 < 211 then ca 220 else cm (220 - 211)) = _; rw [if_neg (by decide), if_neg (by decide), hcm]; rfl
  have f_10 : cA 221 = cq10 := by rw [hcA]; show (if kd 221 < 11 then cq1 else if 221 < 211 then ca 221 else cm (221 - 211)) = _; rw [if_neg (by decide), if_neg (by decide), hcm]; rfl
  have f_11 : cA 222 = cq11 := by rw [hcA]; show (if kd 222 < 11 then cq1 else if 222 < 211 then ca 222 else cm (222 - 211)) = _; rw [if_neg (by decide), if_neg (by decide), hcm]; rfl
  have f_12 : cA 223 = cq12 := by rw [hcA]; show (if kd 223 < 11 then cq1 else if 223 < 211 then ca 223 else cm (223 - 211)) = _; rw [if_neg (by decide), if_neg (by decide), hcm]; rfl
  have f_13 : cA 224 = cq13 := by rw [hcA]; show (if kd 224 < 11 then cq1 else if 224 < 211 then ca 224 else cm (224 - 211)) = _; rw [if_neg (by decide), if_neg (by decide), hcm]; rfl
  have f_14 : cA 225 = cq14 := by rw [hcA]; show (if kd 225 < 11 then cq1 else if 225 < 211 then ca 225 else cm (225 - 211)) = _; rw [if_neg (by decide), if_neg (by decide), hcm]; rfl
  have f_15 : cA 226 = cq15 := by rw [hcA]; show (if kd 226 < 11 then cq1 else if 226 < 211 then ca 226 else cm (226 - 211)) = _; rw [if_neg (by decide), if_neg (by decide), hcm]; rfl
  have f_16 : cA 227 = cq16 := by rw [hcA]; show (if kd 227 < 11 then cq1 else if 227 < 211 then ca 227 else cm (227 - 211)) = _; rw [if_neg (by decide), if_neg (by decide), hcm]; rfl
  have f_17 : cA 228 = cq17 := by rw [hcA]; show (if kd 228 < 11 then cq1 else if 228 < 211 then ca 228 else cm (228 - 211)) = _; rw [if_neg (by decide), if_neg (by decide), hcm]; rfl
  have f_18 : cA 229 = cq18 := by rw [hcA]; show (if kd 229 < 11 then cq1 else if 229 < 211 then ca 229 else cm (229 - 211)) = _; rw [if_neg (by decide), if_neg (by decide), hcm]; rfl
  have f_19 : cA 230 = cq19 := by rw [hcA]; show (if kd 230 < 11 then cq1 else if 230 < 211 then ca 230 else cm (230 - 211)) = _; rw [if_neg (by decide), if_neg (by decide), hcm]; rfl
  have f_20 : cA 231 = cq20 := by rw [hcA]; show (if kd 231 < 11 then cq1 else if 231 < 211 then ca 231 else cm (231 - 211)) = _; rw [if_neg (by decide), if_neg (by decide), hcm]; rfl
  have f_21 : cA 232 = cq21 := by rw [hcA]; show (if kd 232 < 11 then cq1 else if 232 < 211 then ca 232 else cm (232 - 211)) = _; rw [if_neg (by decide), if_neg (by decide), hcm]; rfl
  have f_22 : cA 233 = cq22 := by rw [hcA]; show (if kd 233 < 11 then cq1 else if 233 < 211 then ca 233 else cm (233 - 211)) = _; rw [if_neg (by decide), if_neg (by decide), hcm]; rfl
  have f_23 : cA 234 = cq23 := by rw [hcA]; show (if kd 234 < 11 then cq1 else if 234 < 211 then ca 234 else cm (234 - 211)) = _; rw [if_neg (by decide), if_neg (by decide), hcm]; rfl
  have f_24 : cA 235 = cq24 := by rw [hcA]; show (if kd 235 < 11 then cq1 else if 235 < 211 then ca 235 else cm (235 - 211)) = _; rw [if_neg (by decide), if_neg (by decide), hcm]; rfl
  have f_25 : cA 236 = cq25 := by rw [hcA]; show (if kd 236 < 11 then cq1 else if 236 < 211 then ca 236 else cm (236 - 211)) = _; rw [if_neg (by decide), if_neg (by decide), hcm]; rfl
  have f_26 : cA 237 = cq26 := by rw [hcA]; show (if kd 237 < 11 then cq1 else if 237 < 211 then ca 237 else cm (237 - 211)) = _; rw [if_neg (by decide), if_neg (by decide), hcm]; rfl
  have f_27 : cA 238 = cq27 := by rw [hcA]; show (if kd 238 < 11 then cq1 else if 238 < 211 then ca 238 else cm (238 - 211)) = _; rw [if_neg (by decide), if_neg (by decide), hcm]; rfl
  have f_28 : cA 239 = cq28 := by rw [hcA]; show (if kd 239 < 11 then cq1 else if 239 < 211 then ca 239 else cm (239 - 211)) = _; rw [if_neg (by decide), if_neg (by decide), hcm]; rfl
  have f_29 : cA 240 = cq29 := by rw [hcA]; show (if kd 240 < 11 then cq1 else if 240 < 211 then ca 240 else cm (240 - 211)) = _; rw [if_neg (by decide), if_neg (by decide), hcm]; rfl
  have f_30 : cA 241 = cq30 := by rw [hcA]; show (if kd 241 < 11 then cq1 else if 241 < 211 then ca 241 else cm (241 - 211)) = _; rw [if_neg (by decide), if_neg (by decide), hcm]; rfl
  have f_31 : cA 242 = cq31 := by rw [hcA]; show (if kd 242 < 11 then cq1 else if 242 < 211 then ca 242 else cm (242 - 211)) = _; rw [if_neg (by decide), if_neg (by decide), hcm]; rfl
  have f_32 : cA 243 = cq32 := by rw [hcA]; show (if kd 243 < 11 then cq1 else if 243 < 211 then ca 243 else cm (243 - 211)) = _; rw [if_neg (by decide), if_neg (by decide), hcm]; rfl
  have f_33 : cA 244 = cq33 := by rw [hcA]; show (if kd 244 < 11 then cq1 else if 244 < 211 then ca 244 else cm (244 - 211)) = _; rw [if_neg (by decide), if_neg (by decide), hcm]; rfl
  have f_34 : cA 245 = cq34 := by rw [hcA]; show (if kd 245 < 11 then cq1 else if 245 < 211 then ca 245 else cm (245 - 211)) = _; rw [if_neg (by decide), if_neg (by decide), hcm]; rfl
  have f_35 : cA 246 = cq35 := by rw [hcA]; show (if kd 246 < 11 then cq1 else if 246 < 211 then ca 246 else cm (246 - 211)) = _; rw [if_neg (by decide), if_neg (by decide), hcm]; rfl
  have f_36 : cA 247 = cq36 := by rw [hcA]; show (if kd 247 < 11 then cq1 else if 247 < 211 then ca 247 else cm (247 - 211)) = _; rw [if_neg (by decide), if_neg (by decide), hcm]; rfl
  have hm : ∀ i, i < 37 → ([(qm, .inr (10, [.int 0, .int 0, .int 0, .int 0, .int 0, .int 10, .int 0, .int 0, .ref q1, .ref q2, .ref q3, .ref q4, .ref q5, .ref q6, .ref q7, .ref q8, .ref q9, .ref q10, .ref q11, .ref q12, .ref q13, .ref q14, .ref q15, .ref q16, .ref q17, .ref q18, .ref q19, .ref q20, .ref q21, .ref q22, .ref q23, .ref q24, .ref q25, .ref q26, .ref q27, .ref q28, .ref q29, .ref q30, .ref q31, .ref q32, .ref q33, .ref q34, .ref q35, .ref q36, .long 0, .long 0, .int 0, .int 0])), (q1, .inl (cq1, 40, .inl (fun _ => 0))), (q2, .inl (cq2, 40, .inl (fun _ => 0))), (q3, .inl (cq3, 40, .inl (fun _ => 0))), (q4, .inl (cq4, 40, .inl (fun _ => 0))), (q5, .inl (cq5, 40, .inl (fun _ => 0))), (q6, .inl (cq6, 1600, .inl (fun _ => 0))), (q7, .inl (cq7, 6, .inl (fun _ => 0))), (q8, .inl (cq8, 6, .inl (fun _ => 0))), (q9, .inl (cq9, 6, .inl (fun _ => 0))), (q10, .inl (cq10, 6, .inl (fun _ => 0))), (q11, .inl (cq11, 48, .inl (fun _ => 0))), (q12, .inl (cq12, 48, .inl (fun _ => 0))), (q13, .inl (cq13, 6, .inl (fun _ => 0))), (q14, .inl (cq14, 120, .inl (fun _ => 0))), (q15, .inl (cq15, 6, .inl (fun _ => 0))), (q16, .inl (cq16, 48, .inl (fun _ => 0))), (q17, .inl (cq17, 48, .inl (fun _ => 0))), (q18, .inl (cq18, 48, .inl (fun _ => 0))), (q19, .inl (cq19, 48, .inl (fun _ => 0))), (q20, .inl (cq20, 48, .inl (fun _ => 0))), (q21, .inl (cq21, 24, .inl (fun _ => 0))), (q22, .inl (cq22, 24, .inl (fun _ => 0))), (q23, .inl (cq23, 96, .inl (fun _ => 0))), (q24, .inl (cq24, 96, .inl (fun _ => 0))), (q25, .inl (cq25, 96, .inl (fun _ => 0))), (q26, .inl (cq26, 96, .inl (fun _ => 0))), (q27, .inl (cq27, 24, .inl (fun _ => 0))), (q28, .inl (cq28, 4, .inl (upd (upd (upd (upd (fun _ => 0) (0 : Int32).toNatClampNeg (-1)) (1 : Int32).toNatClampNeg (-1)) (2 : Int32).toNatClampNeg (-1)) (3 : Int32).toNatClampNeg (-1)))), (q29, .inl (cq29, 4, .inl (fun _ => 0))), (q30, .inl (cq30, 6, .inl (fun _ => 0))), (q31, .inl (cq31, 6, .inl (fun _ => 0))), (q32, .inl (cq32, 6, .inl (fun _ => 0))), (q33, .inl (cq33, 8, .inl (fun _ => 0))), (q34, .inl (cq34, 8, .inl (fun _ => 0))), (q35, .inl (cq35, 8, .inl (fun _ => 0))), (q36, .inl (cq36, 8, .inl (fun _ => 0)))] : va_W)[i]? = some (ad (211 + i), CC ad cA d0 l0 (211 + i)) := by
    intro i hi
    match i, hi with
    | 0, _ => rw [CC, cc_10 (rfl : kd 211 = 10)]; rw [e_0, e_1, e_2, e_3, e_4, e_5, e_6, e_7, e_8, e_9, e_10, e_11, e_12, e_13, e_14, e_15, e_16, e_17, e_18, e_19, e_20, e_21, e_22, e_23, e_24, e_25, e_26, e_27, e_28, e_29, e_30, e_31, e_32, e_33, e_34, e_35, e_36]; rfl
    | 1, _ => rw [CC, cc_11 (rfl : kd 212 = 11), show d0 212 = (fun _ => 0) from rfl]; rw [e_1, f_1]; rfl
    | 2, _ => rw [CC, cc_11 (rfl : kd 213 = 11), show d0 213 = (fun _ => 0) from rfl]; rw [e_2, f_2]; rfl
    | 3, _ => rw [CC, cc_11 (rfl : kd 214 = 11), show d0 214 = (fun _ => 0) from rfl]; rw [e_3, f_3]; rfl
    | 4, _ => rw [CC, cc_11 (rfl : kd 215 = 11), show d0 215 = (fun _ => 0) from rfl]; rw [e_4, f_4]; rfl
    | 5, _ => rw [CC, cc_11 (rfl : kd 216 = 11), show d0 216 = (fun _ => 0) from rfl]; rw [e_5, f_5]; rfl
    | 6, _ => rw [CC, cc_13 (rfl : kd 217 = 13), show d0 217 = (fun _ => 0) from rfl]; rw [e_6, f_6]; rfl
    | 7, _ => rw [CC, cc_11 (rfl : kd 218 = 11), show d0 218 = (fun _ => 0) from rfl]; rw [e_7, f_7]; rfl
    | 8, _ => rw [CC, cc_11 (rfl : kd 219 = 11), show d0 219 = (fun _ => 0) from rfl]; rw [e_8, f_8]; rfl
    | 9, _ => rw [CC, cc_11 (rfl : kd 220 = 11), show d0 220 = (fun _ => 0) from rfl]; rw [e_9, f_9]; rfl
    | 10, _ => rw [CC, cc_11 (rfl : kd 221 = 11), show d0 221 = (fun _ => 0) from rfl]; rw [e_10, f_10]; rfl
    | 11, _ => rw [CC, cc_11 (rfl : kd 222 = 11), show d0 222 = (fun _ => 0) from rfl]; rw [e_11, f_11]; rfl
    | 12, _ => rw [CC, cc_11 (rfl : kd 223 = 11), show d0 223 = (fun _ => 0) from rfl]; rw [e_12, f_12]; rfl
    | 13, _ => rw [CC, cc_13 (rfl : kd 224 = 13), show d0 224 = (fun _ => 0) from rfl]; rw [e_13, f_13]; rfl
    | 14, _ => rw [CC, cc_11 (rfl : kd 225 = 11), show d0 225 = (fun _ => 0) from rfl]; rw [e_14, f_14]; rfl
    | 15, _ => rw [CC, cc_11 (rfl : kd 226 = 11), show d0 226 = (fun _ => 0) from rfl]; rw [e_15, f_15]; rfl
    | 16, _ => rw [CC, cc_11 (rfl : kd 227 = 11), show d0 227 = (fun _ => 0) from rfl]; rw [e_16, f_16]; rfl
    | 17, _ => rw [CC, cc_11 (rfl : kd 228 = 11), show d0 228 = (fun _ => 0) from rfl]; rw [e_17, f_17]; rfl
    | 18, _ => rw [CC, cc_11 (rfl : kd 229 = 11), show d0 229 = (fun _ => 0) from rfl]; rw [e_18, f_18]; rfl
    | 19, _ => rw [CC, cc_13 (rfl : kd 230 = 13), show d0 230 = (fun _ => 0) from rfl]; rw [e_19, f_19]; rfl
    | 20, _ => rw [CC, cc_13 (rfl : kd 231 = 13), show d0 231 = (fun _ => 0) from rfl]; rw [e_20, f_20]; rfl
    | 21, _ => rw [CC, cc_11 (rfl : kd 232 = 11), show d0 232 = (fun _ => 0) from rfl]; rw [e_21, f_21]; rfl
    | 22, _ => rw [CC, cc_11 (rfl : kd 233 = 11), show d0 233 = (fun _ => 0) from rfl]; rw [e_22, f_22]; rfl
    | 23, _ => rw [CC, cc_11 (rfl : kd 234 = 11), show d0 234 = (fun _ => 0) from rfl]; rw [e_23, f_23]; rfl
    | 24, _ => rw [CC, cc_11 (rfl : kd 235 = 11), show d0 235 = (fun _ => 0) from rfl]; rw [e_24, f_24]; rfl
    | 25, _ => rw [CC, cc_11 (rfl : kd 236 = 11), show d0 236 = (fun _ => 0) from rfl]; rw [e_25, f_25]; rfl
    | 26, _ => rw [CC, cc_13 (rfl : kd 237 = 13), show d0 237 = (fun _ => 0) from rfl]; rw [e_26, f_26]; rfl
    | 27, _ => rw [CC, cc_13 (rfl : kd 238 = 13), show d0 238 = (fun _ => 0) from rfl]; rw [e_27, f_27]; rfl
    | 28, _ => rw [CC, cc_11 (rfl : kd 239 = 11), show d0 239 = W4 from rfl]; rw [e_28, f_28]; rfl
    | 29, _ => rw [CC, cc_11 (rfl : kd 240 = 11), show d0 240 = (fun _ => 0) from rfl]; rw [e_29, f_29]; rfl
    | 30, _ => rw [CC, cc_11 (rfl : kd 241 = 11), show d0 241 = (fun _ => 0) from rfl]; rw [e_30, f_30]; rfl
    | 31, _ => rw [CC, cc_11 (rfl : kd 242 = 11), show d0 242 = (fun _ => 0) from rfl]; rw [e_31, f_31]; rfl
    | 32, _ => rw [CC, cc_13 (rfl : kd 243 = 13), show d0 243 = (fun _ => 0) from rfl]; rw [e_32, f_32]; rfl
    | 33, _ => rw [CC, cc_11 (rfl : kd 244 = 11), show d0 244 = (fun _ => 0) from rfl]; rw [e_33, f_33]; rfl
    | 34, _ => rw [CC, cc_11 (rfl : kd 245 = 11), show d0 245 = (fun _ => 0) from rfl]; rw [e_34, f_34]; rfl
    | 35, _ => rw [CC, cc_11 (rfl : kd 246 = 11), show d0 246 = (fun _ => 0) from rfl]; rw [e_35, f_35]; rfl
    | 36, _ => rw [CC, cc_11 (rfl : kd 247 = 11), show d0 247 = (fun _ => 0) from rfl]; rw [e_36, f_36]; rfl
    | n + 37, hi => exact absurd hi (by omega)
  have hall : ∀ i, i < 248 → (([] ++ [(qm, .inr (10, [.int 0, .int 0, .int 0, .int 0, .int 0, .int 10, .int 0, .int 0, .ref q1, .ref q2, .ref q3, .ref q4, .ref q5, .ref q6, .ref q7, .ref q8, .ref q9, .ref q10, .ref q11, .ref q12, .ref q13, .ref q14, .ref q15, .ref q16, .ref q17, .ref q18, .ref q19, .ref q20, .ref q21, .ref q22, .ref q23, .ref q24, .ref q25, .ref q26, .ref q27, .ref q28, .ref q29, .ref q30, .ref q31, .ref q32, .ref q33, .ref q34, .ref q35, .ref q36, .long 0, .long 0, .int 0, .int 0])), (q1, .inl (cq1, 40, .inl (fun _ => 0))), (q2, .inl (cq2, 40, .inl (fun _ => 0))), (q3, .inl (cq3, 40, .inl (fun _ => 0))), (q4, .inl (cq4, 40, .inl (fun _ => 0))), (q5, .inl (cq5, 40, .inl (fun _ => 0))), (q6, .inl (cq6, 1600, .inl (fun _ => 0))), (q7, .inl (cq7, 6, .inl (fun _ => 0))), (q8, .inl (cq8, 6, .inl (fun _ => 0))), (q9, .inl (cq9, 6, .inl (fun _ => 0))), (q10, .inl (cq10, 6, .inl (fun _ => 0))), (q11, .inl (cq11, 48, .inl (fun _ => 0))), (q12, .inl (cq12, 48, .inl (fun _ => 0))), (q13, .inl (cq13, 6, .inl (fun _ => 0))), (q14, .inl (cq14, 120, .inl (fun _ => 0))), (q15, .inl (cq15, 6, .inl (fun _ => 0))), (q16, .inl (cq16, 48, .inl (fun _ => 0))), (q17, .inl (cq17, 48, .inl (fun _ => 0))), (q18, .inl (cq18, 48, .inl (fun _ => 0))), (q19, .inl (cq19, 48, .inl (fun _ => 0))), (q20, .inl (cq20, 48, .inl (fun _ => 0))), (q21, .inl (cq21, 24, .inl (fun _ => 0))), (q22, .inl (cq22, 24, .inl (fun _ => 0))), (q23, .inl (cq23, 96, .inl (fun _ => 0))), (q24, .inl (cq24, 96, .inl (fun _ => 0))), (q25, .inl (cq25, 96, .inl (fun _ => 0))), (q26, .inl (cq26, 96, .inl (fun _ => 0))), (q27, .inl (cq27, 24, .inl (fun _ => 0))), (q28, .inl (cq28, 4, .inl (upd (upd (upd (upd (fun _ => 0) (0 : Int32).toNatClampNeg (-1)) (1 : Int32).toNatClampNeg (-1)) (2 : Int32).toNatClampNeg (-1)) (3 : Int32).toNatClampNeg (-1)))), (q29, .inl (cq29, 4, .inl (fun _ => 0))), (q30, .inl (cq30, 6, .inl (fun _ => 0))), (q31, .inl (cq31, 6, .inl (fun _ => 0))), (q32, .inl (cq32, 6, .inl (fun _ => 0))), (q33, .inl (cq33, 8, .inl (fun _ => 0))), (q34, .inl (cq34, 8, .inl (fun _ => 0))), (q35, .inl (cq35, 8, .inl (fun _ => 0))), (q36, .inl (cq36, 8, .inl (fun _ => 0)))]) ++ pw 211 a (CC a ca d0 l0) : va_W)[if i < 211 then 37 + i else i - 211]? = some (ad i, CC ad cA d0 l0 i) := by
    intro i hi
    by_cases h : i < 211
    · rw [if_pos h, List.nil_append, ga_r (n := 37) rfl, pw_get h, hd1 i h, CC_agree hd1 hc1 i h]
    · rw [if_neg h, List.nil_append, List.getElem?_append_left (show i - 211 < 37 by omega), hm (i - 211) (by omega), show 211 + (i - 211) = i by omega]
  have hPf : va_P (dC, dI) vwCl (pw 248 ad (CC ad cA d0 l0)) H := hP.by (fun i => if i < 211 then 37 + i else i - 211) (fun k q hk => by obtain ⟨h1, rfl⟩ := pw_some hk; exact hall k h1)
  have hDf : va_D A (pw 248 ad (CC ad cA d0 l0)) := hD.by (fun i => if i < 211 then 37 + i else i - 211) (fun k q hk => by obtain ⟨h1, rfl⟩ := pw_some hk; exact hall k h1) (fun i j hi hj h => by
    rw [pw_len] at hi hj
    have h : (if i < 211 then 37 + i else i - 211) = (if j < 211 then 37 + j else j - 211) := h
    by_cases h1 : i < 211 <;> by_cases h2 : j < 211
    · rw [if_pos h1, if_pos h2] at h; omega
    · rw [if_pos h1, if_neg h2] at h; omega
    · rw [if_neg h1, if_pos h2] at h; omega
    · rw [if_neg h1, if_neg h2] at h; omega)
  have hKf : va_K (dC, dI) vwCl (tysW cA) s := by
    refine K_of hK (fun q hq => ?_)
    obtain ⟨i, hi, rfl⟩ := List.mem_map.mp hq
    have hi : i < 248 := List.mem_range.mp hi
    show TK s (cA i) (ety i)
    by_cases hk : kd i < 11
    · rw [show cA i = cq1 by rw [hcA]; exact if_pos hk, show ety i = .int by rw [ety, if_neg (by omega), if_neg (by omega), if_neg (by omega), if_neg (by omega), if_neg (by omega)]]
      exact K_tk hK2 0 rfl
    by_cases h : i < 211
    · rw [hc1 i h (by omega)]
      exact hT1 i h (by omega)
    · obtain ⟨j, rfl⟩ : ∃ j, i = 211 + j := ⟨i - 211, by omega⟩
      have hj : j < 37 := by omega
      match j, hj, hk with
      | 0, _, hk => exact absurd (by decide : kd (211 + 0) < 11) hk
      | 1, _, _ => show TK s (cA 212) (ety 212); rw [f_1]; exact K_tk hK2 0 rfl
      | 2, _, _ => show TK s (cA 213) (ety 213); rw [f_2]; exact K_tk hK2 1 rfl
      | 3, _, _ => show TK s (cA 214) (ety 214); rw [f_3]; exact K_tk hK2 2 rfl
      | 4, _, _ => show TK s (cA 215) (ety 215); rw [f_4]; exact K_tk hK2 3 rfl
      | 5, _, _ => show TK s (cA 216) (ety 216); rw [f_5]; exact K_tk hK2 4 rfl
      | 6, _, _ => show TK s (cA 217) (ety 217); rw [f_6]; exact K_tk hK2 5 rfl
      | 7, _, _ => show TK s (cA 218) (ety 218); rw [f_7]; exact K_tk hK2 6 rfl
      | 8, _, _ => show TK s (cA 219) (ety 219); rw [f_8]; exact K_tk hK2 7 rfl
      | 9, _, _ => show TK s (cA 220) (ety 220); rw [f_9]; exact K_tk hK2 8 rfl
      | 10, _, _ => show TK s (cA 221) (ety 221); rw [f_10]; exact K_tk hK2 9 rfl
      | 11, _, _ => show TK s (cA 222) (ety 222); rw [f_11]; exact K_tk hK2 10 rfl
      | 12, _, _ => show TK s (cA 223) (ety 223); rw [f_12]; exact K_tk hK2 11 rfl
      | 13, _, _ => show TK s (cA 224) (ety 224); rw [f_13]; exact K_tk hK2 12 rfl
      | 14, _, _ => show TK s (cA 225) (ety 225); rw [f_14]; exact K_tk hK2 13 rfl
      | 15, _, _ => show TK s (cA 226) (ety 226); rw [f_15]; exact K_tk hK2 14 rfl
      | 16, _, _ => show TK s (cA 227) (ety 227); rw [f_16]; exact K_tk hK2 15 rfl
      | 17, _, _ => show TK s (cA 228) (ety 228); rw [f_17]; exact K_tk hK2 16 rfl
      | 18, _, _ => show TK s (cA 229) (ety 229); rw [f_18]; exact K_tk hK2 17 rfl
      | 19, _, _ => show TK s (cA 230) (ety 230); rw [f_19]; exact K_tk hK2 18 rfl
      | 20, _, _ => show TK s (cA 231) (ety 231); rw [f_20]; exact K_tk hK2 19 rfl
      | 21, _, _ => show TK s (cA 232) (ety 232); rw [f_21]; exact K_tk hK2 20 rfl
      | 22, _, _ => show TK s (cA 233) (ety 233); rw [f_22]; exact K_tk hK2 21 rfl
      | 23, _, _ => show TK s (cA 234) (ety 234); rw [f_23]; exact K_tk hK2 22 rfl
      | 24, _, _ => show TK s (cA 235) (ety 235); rw [f_24]; exact K_tk hK2 23 rfl
      | 25, _, _ => show TK s (cA 236) (ety 236); rw [f_25]; exact K_tk hK2 24 rfl
      | 26, _, _ => show TK s (cA 237) (ety 237); rw [f_26]; exact K_tk hK2 25 rfl
      | 27, _, _ => show TK s (cA 238) (ety 238); rw [f_27]; exact K_tk hK2 26 rfl
      | 28, _, _ => show TK s (cA 239) (ety 239); rw [f_28]; exact K_tk hK2 27 rfl
      | 29, _, _ => show TK s (cA 240) (ety 240); rw [f_29]; exact K_tk hK2 28 rfl
      | 30, _, _ => show TK s (cA 241) (ety 241); rw [f_30]; exact K_tk hK2 29 rfl
      | 31, _, _ => show TK s (cA 242) (ety 242); rw [f_31]; exact K_tk hK2 30 rfl
      | 32, _, _ => show TK s (cA 243) (ety 243); rw [f_32]; exact K_tk hK2 31 rfl
      | 33, _, _ => show TK s (cA 244) (ety 244); rw [f_33]; exact K_tk hK2 32 rfl
      | 34, _, _ => show TK s (cA 245) (ety 245); rw [f_34]; exact K_tk hK2 33 rfl
      | 35, _, _ => show TK s (cA 246) (ety 246); rw [f_35]; exact K_tk hK2 34 rfl
      | 36, _, _ => show TK s (cA 247) (ety 247); rw [f_36]; exact K_tk hK2 35 rfl
      | n + 37, hj, _ => exact absurd hj (by omega)
  have hfw := t_L_law_18 (g := (l, dC, dI, ad, cA, sa, sv, vf)) (x := ((p, e, room_1, s, m), (#[Value.ref b], below, meth, c), (A, 248, 4423, lw_Z below #[Value.ref b] s))) (b := b) ⟨hx, hb, hr, hml, hown, hts, hlocks, hKf, D_any hDf, hA, hEV, by decide, by decide, by decide, by decide⟩ ⟨hX, hbl, hbA, hAl, rfl, rfl, rfl, by decide, by decide⟩ n 0 d0 l0 hw
  refine hfw H locs ls hPf hS ?_
  have hl2 := lv_sub hl (l' := [(0, .ref b), (1, .ref h0), (2, .ref qm), (3, .int 0)]) [3, 2, 1, 0] rfl
  have e0 : ad 0 = h0 := (hd1 0 (by omega)).trans ha0
  rw [← e0, ← e_0] at hl2
  exact hl2
