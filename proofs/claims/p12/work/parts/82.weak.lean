set_option maxHeartbeats 4000000 in
set_option maxRecDepth 100000 in
theorem sp_X4_add {n : Nat} (hn : 1000000000 ≤ n) {x1 : Int32} {x2 : Int32} {x3 : Int32} {x4 : Int32} {x5 : Int32} {d : DD} {dl : LL} (hI : Inv d) (bx1 : 30 ≤ x1.toInt ∧ x1.toInt ≤ 150) (bx2 : 1 ≤ x2.toInt ∧ x2.toInt ≤ 99) (bx3 : 0 ≤ x3.toInt ∧ x3.toInt ≤ 2) (bx4 : 0 ≤ x4.toInt ∧ x4.toInt ≤ 1) (bx5 : 10 ≤ x5.toInt ∧ x5.toInt ≤ 90) (hsz : (d 1 0).toInt < 40) {Q : Int32 → DD → LL → Prop} (hQ : ∀ (r : Int32) (d2 : DD) (l2 : LL), StA d dl d2 l2 ∧ (0 ≤ r.toInt ∧ r.toInt ≤ 39 ∧ (r.toInt = (d 1 0).toInt ∧ (d2 1 0).toInt = (d 1 0).toInt + 1)) → Q r d2 l2) : F_X4_add n x1 x2 x3 x4 x5 d dl Q := by
  obtain ⟨e, he⟩ : ∃ e : DD, e = d := ⟨_, rfl⟩
  obtain ⟨el, hel⟩ : ∃ el : LL, el = dl := ⟨_, rfl⟩
  have hS : StA e el d dl := by rw [he, hel]; exact StA.rf hI
  rw [← he, ← hel] at hQ
  show vp_in (d 1 0) 40 ∧ ∀ d2 : DD, d2 = u2 d 2 (d 1 0).toNatClampNeg x1 → vp_in (d2 1 0) 40 ∧ ∀ d4 : DD, d4 = u2 d2 3 (d2 1 0).toNatClampNeg x2 → vp_in (d4 1 0) 40 ∧ ∀ d6 : DD, d6 = u2 d4 4 (d4 1 0).toNatClampNeg x3 → vp_in (d6 1 0) 40 ∧ ∀ d8 : DD, d8 = u2 d6 5 (d6 1 0).toNatClampNeg x4 → vp_in (d8 1 0) 40 ∧ ∀ d10 : DD, d10 = u2 d8 6 (d8 1 0).toNatClampNeg x5 → ∀ d11 : DD, d11 = u2 d10 1 0 ((d10 1 0) + 1) → Q ((d11 1 0) - 1) d11 dl
  have hx0 : (e 1 0).toInt = (d 1 0).toInt := by rw [he]
  have m_1 := iv_1_0 hS.1
  have ih1 : vp_in (d 1 0) 40 := vin rfl (by omega) (by omega)
  refine ⟨ih1, ?_⟩
  intro d2 ed2
  have s_2 : StA e el d2 dl := by rw [ed2]; exact pw_2 hS (by omega) (by omega) rfl
  have q_3 : d2 1 0 = (d 1 0) := by rw [ed2, u2_row (by omega)]
  have t_4 : (d2 1 0).toInt = (d 1 0).toInt := (congrArg Int32.toInt q_3).trans rfl
  have ih3 : vp_in (d2 1 0) 40 := vin t_4 (by omega) (by omega)
  refine ⟨ih3, ?_⟩
  intro d4 ed4
  have s_5 : StA e el d4 dl := by rw [ed4]; exact pw_3 s_2 (by omega) (by omega) rfl
  have q_6 : d4 1 0 = (d 1 0) := by rw [ed4, u2_row (by omega)]; rw [ed2, u2_row (by omega)]
  have t_7 : (d4 1 0).toInt = (d 1 0).toInt := (congrArg Int32.toInt q_6).trans rfl
  have ih5 : vp_in (d4 1 0) 40 := vin t_7 (by omega) (by omega)
  refine ⟨ih5, ?_⟩
  intro d6 ed6
  have s_8 : StA e el d6 dl := by rw [ed6]; exact pw_4 s_5 (by omega) (by omega) rfl
  have q_9 : d6 1 0 = (d 1 0) := by rw [ed6, u2_row (by omega)]; rw [ed4, u2_row (by omega)]; rw [ed2, u2_row (by omega)]
  have t_10 : (d6 1 0).toInt = (d 1 0).toInt := (congrArg Int32.toInt q_9).trans rfl
  have ih7 : vp_in (d6 1 0) 40 := vin t_10 (by omega) (by omega)
  refine ⟨ih7, ?_⟩
  intro d8 ed8
  have s_11 : StA e el d8 dl := by rw [ed8]; exact pw_5 s_8 (by omega) (by omega) rfl
  have q_12 : d8 1 0 = (d 1 0) := by rw [ed8, u2_row (by omega)]; rw [ed6, u2_row (by omega)]; rw [ed4, u2_row (by omega)]; rw [ed2, u2_row (by omega)]
  have t_13 : (d8 1 0).toInt = (d 1 0).toInt := (congrArg Int32.toInt q_12).trans rfl
  have ih9 : vp_in (d8 1 0) 40 := vin t_13 (by omega) (by omega)
  refine ⟨ih9, ?_⟩
  intro d10 ed10
  have s_14 : StA e el d10 dl := by rw [ed10]; exact pw_6 s_11 (by omega) (by omega) rfl
  have q_15 : d10 1 0 = (d 1 0) := by rw [ed10, u2_row (by omega)]; rw [ed8, u2_row (by omega)]; rw [ed6, u2_row (by omega)]; rw [ed4, u2_row (by omega)]; rw [ed2, u2_row (by omega)]
  have t_16 : (d10 1 0).toInt = (d 1 0).toInt := (congrArg Int32.toInt q_15).trans rfl
  have t_17 : ((d10 1 0) + 1).toInt = (d 1 0).toInt + 1 := ti_add t_16 (rfl : (1 : Int32).toInt = 1) (by omega) (by omega)
  intro d11 ed11
  have s_18 : StA e el d11 dl := by rw [ed11]; exact pw_1_0 s_14 (by rw [t_17]; omega) (by rw [t_17]; omega) rfl
  have q_19 : d11 1 0 = ((d10 1 0) + 1) := by rw [ed11, u2_eq]
  have t_20 : (d11 1 0).toInt = ((d 1 0).toInt + 1) := (congrArg Int32.toInt q_19).trans t_17
  have t_21 : ((d11 1 0) - 1).toInt = ((d 1 0).toInt + 1) - 1 := ti_sub t_20 (rfl : (1 : Int32).toInt = 1) (by omega) (by omega)
  exact hQ _ _ _ ⟨s_18, by omega⟩
set_option maxHeartbeats 4000000 in
set_option maxRecDepth 100000 in
theorem sp_X9_paddler {n : Nat} (hn : 1000000000 ≤ n) {x1 : Int32} {x2 : Int32} {x3 : Int32} {x4 : Int32} {x5 : Int32} {d : DD} {dl : LL} (hI : Inv d) {Q : Int32 → DD → LL → Prop} (hQ : ∀ (r : Int32) (d2 : DD) (l2 : LL), StA d dl d2 l2 ∧ ((-4) ≤ r.toInt ∧ r.toInt ≤ 39 ∧ (((30 ≤ x1.toInt ∧ x1.toInt ≤ 150 ∧ 1 ≤ x2.toInt ∧ x2.toInt ≤ 99 ∧ 0 ≤ x3.toInt ∧ x3.toInt ≤ 2 ∧ 0 ≤ x4.toInt ∧ x4.toInt ≤ 1 ∧ 10 ≤ x5.toInt ∧ x5.toInt ≤ 90) ∧ (d 1 0).toInt < 40 ∧ r.toInt = (d 1 0).toInt ∧ (d2 1 0).toInt = (d 1 0).toInt + 1) ∨ ((30 ≤ x1.toInt ∧ x1.toInt ≤ 150 ∧ 1 ≤ x2.toInt ∧ x2.toInt ≤ 99 ∧ 0 ≤ x3.toInt ∧ x3.toInt ≤ 2 ∧ 0 ≤ x4.toInt ∧ x4.toInt ≤ 1 ∧ 10 ≤ x5.toInt ∧ x5.toInt ≤ 90) ∧ ¬ (d 1 0).toInt < 40 ∧ r.toInt = -4 ∧ (d2 1 0).toInt = (d 1 0).toInt) ∨ (¬ (30 ≤ x1.toInt ∧ x1.toInt ≤ 150 ∧ 1 ≤ x2.toInt ∧ x2.toInt ≤ 99 ∧ 0 ≤ x3.toInt ∧ x3.toInt ≤ 2 ∧ 0 ≤ x4.toInt ∧ x4.toInt ≤ 1 ∧ 10 ≤ x5.toInt ∧ x5.toInt ≤ 90) ∧ r.toInt = -2 ∧ (d2 1 0).toInt = (d 1 0).toInt))) → Q r d2 l2) : F_X9_paddler n x1 x2 x3 x4 x5 d dl Q := by
  obtain ⟨e, he⟩ : ∃ e : DD, e = d := ⟨_, rfl⟩
  obtain ⟨el, hel⟩ : ∃ el : LL, el = dl := ⟨_, rfl⟩
  have hS : StA e el d dl := by rw [he, hel]; exact StA.rf hI
  rw [← he, ← hel] at hQ
  show F_X9_within n x1 30 150 d dl (fun r1 d2 l3 => (r1 = 0 → Q (-2) d2 l3) ∧ (¬ r1 = 0 → F_X9_within n x2 1 99 d2 l3 (fun r5 d6 l7 => (r5 = 0 → Q (-2) d6 l7) ∧ (¬ r5 = 0 → F_X9_within n x3 0 2 d6 l7 (fun r9 d10 l11 => (r9 = 0 → Q (-2) d10 l11) ∧ (¬ r9 = 0 → F_X9_within n x4 0 1 d10 l11 (fun r13 d14 l15 => (r13 = 0 → Q (-2) d14 l15) ∧ (¬ r13 = 0 → F_X9_within n x5 10 90 d14 l15 (fun r17 d18 l19 => (¬ r17 = 0 → ((d18 1 0) < 40 → F_X4_add n x1 x2 x3 x4 x5 d18 l19 (fun r22 d23 l24 => Q r22 d23 l24)) ∧ (¬ (d18 1 0) < 40 → Q (-4) d18 l19)) ∧ (r17 = 0 → Q (-2) d18 l19))))))))))
  have hx0 : (e 1 0).toInt = (d 1 0).toInt := by rw [he]
  refine sp_X9_within hn hS.1 (fun r1 d2 l3 ⟨p_1, u_2⟩ => ?_)
  have s_3 : StA e el d2 l3 := hS.sq p_1
  have w_4 : d2 = d := p_1.2.1
  replace u_2 : (0 ≤ r1.toInt ∧ r1.toInt ≤ 1 ∧ ((r1.toInt = 1 ∧ 30 ≤ x1.toInt ∧ x1.toInt ≤ 150) ∨ (r1.toInt = 0 ∧ ¬ (30 ≤ x1.toInt ∧ x1.toInt ≤ 150)))) := u_2
  refine ⟨fun h4 => ?_, fun h4 => ?_⟩
  · have h4 : r1.toInt = 0 := (i_eq rfl (rfl : (0 : Int32).toInt = 0)).mp h4
    have q_5 : d2 1 0 = (d 1 0) := by rw [w_4]
    have m_6 := iv_1_0 hS.1
    have t_7 : (d2 1 0).toInt = (d 1 0).toInt := (congrArg Int32.toInt q_5).trans rfl
    exact hQ _ _ _ ⟨s_3, (show ((-4) ≤ (-2) ∧ (-2) ≤ 39 ∧ (((30 ≤ x1.toInt ∧ x1.toInt ≤ 150 ∧ 1 ≤ x2.toInt ∧ x2.toInt ≤ 99 ∧ 0 ≤ x3.toInt ∧ x3.toInt ≤ 2 ∧ 0 ≤ x4.toInt ∧ x4.toInt ≤ 1 ∧ 10 ≤ x5.toInt ∧ x5.toInt ≤ 90) ∧ (e 1 0).toInt < 40 ∧ (-2) = (e 1 0).toInt ∧ (d2 1 0).toInt = (e 1 0).toInt + 1) ∨ ((30 ≤ x1.toInt ∧ x1.toInt ≤ 150 ∧ 1 ≤ x2.toInt ∧ x2.toInt ≤ 99 ∧ 0 ≤ x3.toInt ∧ x3.toInt ≤ 2 ∧ 0 ≤ x4.toInt ∧ x4.toInt ≤ 1 ∧ 10 ≤ x5.toInt ∧ x5.toInt ≤ 90) ∧ ¬ (e 1 0).toInt < 40 ∧ (-2) = -4 ∧ (d2 1 0).toInt = (e 1 0).toInt) ∨ (¬ (30 ≤ x1.toInt ∧ x1.toInt ≤ 150 ∧ 1 ≤ x2.toInt ∧ x2.toInt ≤ 99 ∧ 0 ≤ x3.toInt ∧ x3.toInt ≤ 2 ∧ 0 ≤ x4.toInt ∧ x4.toInt ≤ 1 ∧ 10 ≤ x5.toInt ∧ x5.toInt ≤ 90) ∧ (-2) = -2 ∧ (d2 1 0).toInt = (e 1 0).toInt))) from by omega)⟩
  · have h4 : ¬ (r1.toInt = 0) := fun q => h4 ((i_eq rfl (rfl : (0 : Int32).toInt = 0)).mpr q)
    refine sp_X9_within hn s_3.1 (fun r5 d6 l7 ⟨p_8, u_9⟩ => ?_)
    have s_10 : StA e el d6 l7 := s_3.sq p_8
    have w_11 : d6 = d2 := p_8.2.1
    replace u_9 : (0 ≤ r5.toInt ∧ r5.toInt ≤ 1 ∧ ((r5.toInt = 1 ∧ 1 ≤ x2.toInt ∧ x2.toInt ≤ 99) ∨ (r5.toInt = 0 ∧ ¬ (1 ≤ x2.toInt ∧ x2.toInt ≤ 99)))) := u_9
    refine ⟨fun h8 => ?_, fun h8 => ?_⟩
    · have h8 : r5.toInt = 0 := (i_eq rfl (rfl : (0 : Int32).toInt = 0)).mp h8
      have q_12 : d6 1 0 = (d 1 0) := by rw [w_11]; rw [w_4]
      have m_13 := iv_1_0 hS.1
      have t_14 : (d6 1 0).toInt = (d 1 0).toInt := (congrArg Int32.toInt q_12).trans rfl
      exact hQ _ _ _ ⟨s_10, (show ((-4) ≤ (-2) ∧ (-2) ≤ 39 ∧ (((30 ≤ x1.toInt ∧ x1.toInt ≤ 150 ∧ 1 ≤ x2.toInt ∧ x2.toInt ≤ 99 ∧ 0 ≤ x3.toInt ∧ x3.toInt ≤ 2 ∧ 0 ≤ x4.toInt ∧ x4.toInt ≤ 1 ∧ 10 ≤ x5.toInt ∧ x5.toInt ≤ 90) ∧ (e 1 0).toInt < 40 ∧ (-2) = (e 1 0).toInt ∧ (d6 1 0).toInt = (e 1 0).toInt + 1) ∨ ((30 ≤ x1.toInt ∧ x1.toInt ≤ 150 ∧ 1 ≤ x2.toInt ∧ x2.toInt ≤ 99 ∧ 0 ≤ x3.toInt ∧ x3.toInt ≤ 2 ∧ 0 ≤ x4.toInt ∧ x4.toInt ≤ 1 ∧ 10 ≤ x5.toInt ∧ x5.toInt ≤ 90) ∧ ¬ (e 1 0).toInt < 40 ∧ (-2) = -4 ∧ (d6 1 0).toInt = (e 1 0).toInt) ∨ (¬ (30 ≤ x1.toInt ∧ x1.toInt ≤ 150 ∧ 1 ≤ x2.toInt ∧ x2.toInt ≤ 99 ∧ 0 ≤ x3.toInt ∧ x3.toInt ≤ 2 ∧ 0 ≤ x4.toInt ∧ x4.toInt ≤ 1 ∧ 10 ≤ x5.toInt ∧ x5.toInt ≤ 90) ∧ (-2) = -2 ∧ (d6 1 0).toInt = (e 1 0).toInt))) from by omega)⟩
    · have h8 : ¬ (r5.toInt = 0) := fun q => h8 ((i_eq rfl (rfl : (0 : Int32).toInt = 0)).mpr q)
      refine sp_X9_within hn s_10.1 (fun r9 d10 l11 ⟨p_15, u_16⟩ => ?_)
      have s_17 : StA e el d10 l11 := s_10.sq p_15
      have w_18 : d10 = d6 := p_15.2.1
      replace u_16 : (0 ≤ r9.toInt ∧ r9.toInt ≤ 1 ∧ ((r9.toInt = 1 ∧ 0 ≤ x3.toInt ∧ x3.toInt ≤ 2) ∨ (r9.toInt = 0 ∧ ¬ (0 ≤ x3.toInt ∧ x3.toInt ≤ 2)))) := u_16
      refine ⟨fun h12 => ?_, fun h12 => ?_⟩
      · have h12 : r9.toInt = 0 := (i_eq rfl (rfl : (0 : Int32).toInt = 0)).mp h12
        have q_19 : d10 1 0 = (d 1 0) := by rw [w_18]; rw [w_11]; rw [w_4]
        have m_20 := iv_1_0 hS.1
        have t_21 : (d10 1 0).toInt = (d 1 0).toInt := (congrArg Int32.toInt q_19).trans rfl
        exact hQ _ _ _ ⟨s_17, (show ((-4) ≤ (-2) ∧ (-2) ≤ 39 ∧ (((30 ≤ x1.toInt ∧ x1.toInt ≤ 150 ∧ 1 ≤ x2.toInt ∧ x2.toInt ≤ 99 ∧ 0 ≤ x3.toInt ∧ x3.toInt ≤ 2 ∧ 0 ≤ x4.toInt ∧ x4.toInt ≤ 1 ∧ 10 ≤ x5.toInt ∧ x5.toInt ≤ 90) ∧ (e 1 0).toInt < 40 ∧ (-2) = (e 1 0).toInt ∧ (d10 1 0).toInt = (e 1 0).toInt + 1) ∨ ((30 ≤ x1.toInt ∧ x1.toInt ≤ 150 ∧ 1 ≤ x2.toInt ∧ x2.toInt ≤ 99 ∧ 0 ≤ x3.toInt ∧ x3.toInt ≤ 2 ∧ 0 ≤ x4.toInt ∧ x4.toInt ≤ 1 ∧ 10 ≤ x5.toInt ∧ x5.toInt ≤ 90) ∧ ¬ (e 1 0).toInt < 40 ∧ (-2) = -4 ∧ (d10 1 0).toInt = (e 1 0).toInt) ∨ (¬ (30 ≤ x1.toInt ∧ x1.toInt ≤ 150 ∧ 1 ≤ x2.toInt ∧ x2.toInt ≤ 99 ∧ 0 ≤ x3.toInt ∧ x3.toInt ≤ 2 ∧ 0 ≤ x4.toInt ∧ x4.toInt ≤ 1 ∧ 10 ≤ x5.toInt ∧ x5.toInt ≤ 90) ∧ (-2) = -2 ∧ (d10 1 0).toInt = (e 1 0).toInt))) from by omega)⟩
      · have h12 : ¬ (r9.toInt = 0) := fun q => h12 ((i_eq rfl (rfl : (0 : Int32).toInt = 0)).mpr q)
        refine sp_X9_within hn s_17.1 (fun r13 d14 l15 ⟨p_22, u_23⟩ => ?_)
        have s_24 : StA e el d14 l15 := s_17.sq p_22
        have w_25 : d14 = d10 := p_22.2.1
        replace u_23 : (0 ≤ r13.toInt ∧ r13.toInt ≤ 1 ∧ ((r13.toInt = 1 ∧ 0 ≤ x4.toInt ∧ x4.toInt ≤ 1) ∨ (r13.toInt = 0 ∧ ¬ (0 ≤ x4.toInt ∧ x4.toInt ≤ 1)))) := u_23
        refine ⟨fun h16 => ?_, fun h16 => ?_⟩
        · have h16 : r13.toInt = 0 := (i_eq rfl (rfl : (0 : Int32).toInt = 0)).mp h16
          have q_26 : d14 1 0 = (d 1 0) := by rw [w_25]; rw [w_18]; rw [w_11]; rw [w_4]
          have m_27 := iv_1_0 hS.1
          have t_28 : (d14 1 0).toInt = (d 1 0).toInt := (congrArg Int32.toInt q_26).trans rfl
          exact hQ _ _ _ ⟨s_24, (show ((-4) ≤ (-2) ∧ (-2) ≤ 39 ∧ (((30 ≤ x1.toInt ∧ x1.toInt ≤ 150 ∧ 1 ≤ x2.toInt ∧ x2.toInt ≤ 99 ∧ 0 ≤ x3.toInt ∧ x3.toInt ≤ 2 ∧ 0 ≤ x4.toInt ∧ x4.toInt ≤ 1 ∧ 10 ≤ x5.toInt ∧ x5.toInt ≤ 90) ∧ (e 1 0).toInt < 40 ∧ (-2) = (e 1 0).toInt ∧ (d14 1 0).toInt = (e 1 0).toInt + 1) ∨ ((30 ≤ x1.toInt ∧ x1.toInt ≤ 150 ∧ 1 ≤ x2.toInt ∧ x2.toInt ≤ 99 ∧ 0 ≤ x3.toInt ∧ x3.toInt ≤ 2 ∧ 0 ≤ x4.toInt ∧ x4.toInt ≤ 1 ∧ 10 ≤ x5.toInt ∧ x5.toInt ≤ 90) ∧ ¬ (e 1 0).toInt < 40 ∧ (-2) = -4 ∧ (d14 1 0).toInt = (e 1 0).toInt) ∨ (¬ (30 ≤ x1.toInt ∧ x1.toInt ≤ 150 ∧ 1 ≤ x2.toInt ∧ x2.toInt ≤ 99 ∧ 0 ≤ x3.toInt ∧ x3.toInt ≤ 2 ∧ 0 ≤ x4.toInt ∧ x4.toInt ≤ 1 ∧ 10 ≤ x5.toInt ∧ x5.toInt ≤ 90) ∧ (-2) = -2 ∧ (d14 1 0).toInt = (e 1 0).toInt))) from by omega)⟩
        · have h16 : ¬ (r13.toInt = 0) := fun q => h16 ((i_eq rfl (rfl : (0 : Int32).toInt = 0)).mpr q)
          refine sp_X9_within hn s_24.1 (fun r17 d18 l19 ⟨p_29, u_30⟩ => ?_)
          have s_31 : StA e el d18 l19 := s_24.sq p_29
          have w_32 : d18 = d14 := p_29.2.1
          replace u_30 : (0 ≤ r17.toInt ∧ r17.toInt ≤ 1 ∧ ((r17.toInt = 1 ∧ 10 ≤ x5.toInt ∧ x5.toInt ≤ 90) ∨ (r17.toInt = 0 ∧ ¬ (10 ≤ x5.toInt ∧ x5.toInt ≤ 90)))) := u_30
          refine ⟨fun h20 => ?_, fun h20 => ?_⟩
          · have h20 : ¬ (r17.toInt = 0) := fun q => h20 ((i_eq rfl (rfl : (0 : Int32).toInt = 0)).mpr q)
            have q_33 : d18 1 0 = (d 1 0) := by rw [w_32]; rw [w_25]; rw [w_18]; rw [w_11]; rw [w_4]
            have m_34 := iv_1_0 hS.1
            have t_35 : (d18 1 0).toInt = (d 1 0).toInt := (congrArg Int32.toInt q_33).trans rfl
            refine ⟨fun h21 => ?_, fun h21 => ?_⟩
            · have h21 : (d 1 0).toInt < 40 := (i_lt t_35 (rfl : (40 : Int32).toInt = 40)).mp h21
              refine sp_X4_add hn s_31.1 ⟨by omega, by omega⟩ ⟨by omega, by omega⟩ ⟨by omega, by omega⟩ ⟨by omega, by omega⟩ ⟨by omega, by omega⟩ (by omega) (fun r22 d23 l24 ⟨p_36, u_37⟩ => ?_)
              have s_38 : StA e el d23 l24 := s_31.trA le_StA_StA p_36
              replace u_37 : (0 ≤ r22.toInt ∧ r22.toInt ≤ 39 ∧ (r22.toInt = (d18 1 0).toInt ∧ (d23 1 0).toInt = (d18 1 0).toInt + 1)) := u_37
              have m_39 := iv_1_0 s_38.1
              exact hQ _ _ _ ⟨s_38, by omega⟩
            · have h21 : ¬ ((d 1 0).toInt < 40) := fun q => h21 ((i_lt t_35 (rfl : (40 : Int32).toInt = 40)).mpr q)
              exact hQ _ _ _ ⟨s_31, (show ((-4) ≤ (-4) ∧ (-4) ≤ 39 ∧ (((30 ≤ x1.toInt ∧ x1.toInt ≤ 150 ∧ 1 ≤ x2.toInt ∧ x2.toInt ≤ 99 ∧ 0 ≤ x3.toInt ∧ x3.toInt ≤ 2 ∧ 0 ≤ x4.toInt ∧ x4.toInt ≤ 1 ∧ 10 ≤ x5.toInt ∧ x5.toInt ≤ 90) ∧ (e 1 0).toInt < 40 ∧ (-4) = (e 1 0).toInt ∧ (d18 1 0).toInt = (e 1 0).toInt + 1) ∨ ((30 ≤ x1.toInt ∧ x1.toInt ≤ 150 ∧ 1 ≤ x2.toInt ∧ x2.toInt ≤ 99 ∧ 0 ≤ x3.toInt ∧ x3.toInt ≤ 2 ∧ 0 ≤ x4.toInt ∧ x4.toInt ≤ 1 ∧ 10 ≤ x5.toInt ∧ x5.toInt ≤ 90) ∧ ¬ (e 1 0).toInt < 40 ∧ (-4) = -4 ∧ (d18 1 0).toInt = (e 1 0).toInt) ∨ (¬ (30 ≤ x1.toInt ∧ x1.toInt ≤ 150 ∧ 1 ≤ x2.toInt ∧ x2.toInt ≤ 99 ∧ 0 ≤ x3.toInt ∧ x3.toInt ≤ 2 ∧ 0 ≤ x4.toInt ∧ x4.toInt ≤ 1 ∧ 10 ≤ x5.toInt ∧ x5.toInt ≤ 90) ∧ (-4) = -2 ∧ (d18 1 0).toInt = (e 1 0).toInt))) from by omega)⟩
          · have h20 : r17.toInt = 0 := (i_eq rfl (rfl : (0 : Int32).toInt = 0)).mp h20
            have q_40 : d18 1 0 = (d 1 0) := by rw [w_32]; rw [w_25]; rw [w_18]; rw [w_11]; rw [w_4]
            have m_41 := iv_1_0 hS.1
            have t_42 : (d18 1 0).toInt = (d 1 0).toInt := (congrArg Int32.toInt q_40).trans rfl
            exact hQ _ _ _ ⟨s_31, (show ((-4) ≤ (-2) ∧ (-2) ≤ 39 ∧ (((30 ≤ x1.toInt ∧ x1.toInt ≤ 150 ∧ 1 ≤ x2.toInt ∧ x2.toInt ≤ 99 ∧ 0 ≤ x3.toInt ∧ x3.toInt ≤ 2 ∧ 0 ≤ x4.toInt ∧ x4.toInt ≤ 1 ∧ 10 ≤ x5.toInt ∧ x5.toInt ≤ 90) ∧ (e 1 0).toInt < 40 ∧ (-2) = (e 1 0).toInt ∧ (d18 1 0).toInt = (e 1 0).toInt + 1) ∨ ((30 ≤ x1.toInt ∧ x1.toInt ≤ 150 ∧ 1 ≤ x2.toInt ∧ x2.toInt ≤ 99 ∧ 0 ≤ x3.toInt ∧ x3.toInt ≤ 2 ∧ 0 ≤ x4.toInt ∧ x4.toInt ≤ 1 ∧ 10 ≤ x5.toInt ∧ x5.toInt ≤ 90) ∧ ¬ (e 1 0).toInt < 40 ∧ (-2) = -4 ∧ (d18 1 0).toInt = (e 1 0).toInt) ∨ (¬ (30 ≤ x1.toInt ∧ x1.toInt ≤ 150 ∧ 1 ≤ x2.toInt ∧ x2.toInt ≤ 99 ∧ 0 ≤ x3.toInt ∧ x3.toInt ≤ 2 ∧ 0 ≤ x4.toInt ∧ x4.toInt ≤ 1 ∧ 10 ≤ x5.toInt ∧ x5.toInt ≤ 90) ∧ (-2) = -2 ∧ (d18 1 0).toInt = (e 1 0).toInt))) from by omega)⟩
set_option maxHeartbeats 4000000 in
set_option maxRecDepth 100000 in
theorem sp_X10_paddler {n : Nat} (hn : 1000000000 ≤ n) {x1 : Int32} {x2 : Int32} {x3 : Int32} {x4 : Int32} {x5 : Int32} {d : DD} {dl : LL} (hI : Inv d) {Q : Int32 → DD → LL → Prop} (hQ : ∀ (r : Int32) (d2 : DD) (l2 : LL), StB d dl d2 l2 ∧ ((-4) ≤ r.toInt ∧ r.toInt ≤ 39 ∧ (((30 ≤ x1.toInt ∧ x1.toInt ≤ 150 ∧ 1 ≤ x2.toInt ∧ x2.toInt ≤ 99 ∧ 0 ≤ x3.toInt ∧ x3.toInt ≤ 2 ∧ 0 ≤ x4.toInt ∧ x4.toInt ≤ 1 ∧ 10 ≤ x5.toInt ∧ x5.toInt ≤ 90) ∧ (d 211 0).toInt < 40 ∧ r.toInt = (d 211 0).toInt ∧ (d2 211 0).toInt = (d 211 0).toInt + 1) ∨ ((30 ≤ x1.toInt ∧ x1.toInt ≤ 150 ∧ 1 ≤ x2.toInt ∧ x2.toInt ≤ 99 ∧ 0 ≤ x3.toInt ∧ x3.toInt ≤ 2 ∧ 0 ≤ x4.toInt ∧ x4.toInt ≤ 1 ∧ 10 ≤ x5.toInt ∧ x5.toInt ≤ 90) ∧ ¬ (d 211 0).toInt < 40 ∧ r.toInt = -4 ∧ (d2 211 0).toInt = (d 211 0).toInt) ∨ (¬ (30 ≤ x1.toInt ∧ x1.toInt ≤ 150 ∧ 1 ≤ x2.toInt ∧ x2.toInt ≤ 99 ∧ 0 ≤ x3.toInt ∧ x3.toInt ≤ 2 ∧ 0 ≤ x4.toInt ∧ x4.toInt ≤ 1 ∧ 10 ≤ x5.toInt ∧ x5.toInt ≤ 90) ∧ r.toInt = -2 ∧ (d2 211 0).toInt = (d 211 0).toInt))) → Q r d2 l2) : F_X10_paddler n x1 x2 x3 x4 x5 d dl Q := by
  obtain ⟨e, he⟩ : ∃ e : DD, e = d := ⟨_, rfl⟩
  obtain ⟨el, hel⟩ : ∃ el : LL, el = dl := ⟨_, rfl⟩
  have hS : StB e el d dl := by rw [he, hel]; exact StB.rf hI
  rw [← he, ← hel] at hQ
  show (x1 < 30 → Q (-2) d dl) ∧ (¬ x1 < 30 → (150 < x1 → Q (-2) d dl) ∧ (¬ 150 < x1 → (x2 < 1 → Q (-2) d dl) ∧ (¬ x2 < 1 → (99 < x2 → Q (-2) d dl) ∧ (¬ 99 < x2 → (x3 < 0 → Q (-2) d dl) ∧ (¬ x3 < 0 → (2 < x3 → Q (-2) d dl) ∧ (¬ 2 < x3 → (x4 < 0 → Q (-2) d dl) ∧ (¬ x4 < 0 → (1 < x4 → Q (-2) d dl) ∧ (¬ 1 < x4 → (x5 < 10 → Q (-2) d dl) ∧ (¬ x5 < 10 → (x5 ≤ 90 → (¬ (d 211 0) = 40 → vp_in (d 211 0) 40 ∧ ∀ d13 : DD, d13 = u2 d 212 (d 211 0).toNatClampNeg x1 → vp_in (d13 211 0) 40 ∧ ∀ d15 : DD, d15 = u2 d13 213 (d13 211 0).toNatClampNeg x2 → vp_in (d15 211 0) 40 ∧ ∀ d17 : DD, d17 = u2 d15 214 (d15 211 0).toNatClampNeg x3 → vp_in (d17 211 0) 40 ∧ ∀ d19 : DD, d19 = u2 d17 215 (d17 211 0).toNatClampNeg x4 → vp_in (d19 211 0) 40 ∧ ∀ d21 : DD, d21 = u2 d19 216 (d19 211 0).toNatClampNeg x5 → ∀ d22 : DD, d22 = u2 d21 211 0 ((d21 211 0) + 1) → Q (d21 211 0) d22 dl) ∧ ((d 211 0) = 40 → Q (-4) d dl)) ∧ (¬ x5 ≤ 90 → Q (-2) d dl))))))))))
  have hx0 : (e 211 0).toInt = (d 211 0).toInt := by rw [he]
  refine ⟨fun h1 => ?_, fun h1 => ?_⟩
  · have h1 : x1.toInt < 30 := (i_lt rfl (rfl : (30 : Int32).toInt = 30)).mp h1
    have m_1 := iv_211_0 hS.1
    exact hQ _ _ _ ⟨hS, (show ((-4) ≤ (-2) ∧ (-2) ≤ 39 ∧ (((30 ≤ x1.toInt ∧ x1.toInt ≤ 150 ∧ 1 ≤ x2.toInt ∧ x2.toInt ≤ 99 ∧ 0 ≤ x3.toInt ∧ x3.toInt ≤ 2 ∧ 0 ≤ x4.toInt ∧ x4.toInt ≤ 1 ∧ 10 ≤ x5.toInt ∧ x5.toInt ≤ 90) ∧ (e 211 0).toInt < 40 ∧ (-2) = (e 211 0).toInt ∧ (d 211 0).toInt = (e 211 0).toInt + 1) ∨ ((30 ≤ x1.toInt ∧ x1.toInt ≤ 150 ∧ 1 ≤ x2.toInt ∧ x2.toInt ≤ 99 ∧ 0 ≤ x3.toInt ∧ x3.toInt ≤ 2 ∧ 0 ≤ x4.toInt ∧ x4.toInt ≤ 1 ∧ 10 ≤ x5.toInt ∧ x5.toInt ≤ 90) ∧ ¬ (e 211 0).toInt < 40 ∧ (-2) = -4 ∧ (d 211 0).toInt = (e 211 0).toInt) ∨ (¬ (30 ≤ x1.toInt ∧ x1.toInt ≤ 150 ∧ 1 ≤ x2.toInt ∧ x2.toInt ≤ 99 ∧ 0 ≤ x3.toInt ∧ x3.toInt ≤ 2 ∧ 0 ≤ x4.toInt ∧ x4.toInt ≤ 1 ∧ 10 ≤ x5.toInt ∧ x5.toInt ≤ 90) ∧ (-2) = -2 ∧ (d 211 0).toInt = (e 211 0).toInt))) from by omega)⟩
  · have h1 : ¬ (x1.toInt < 30) := fun q => h1 ((i_lt rfl (rfl : (30 : Int32).toInt = 30)).mpr q)
    refine ⟨fun h2 => ?_, fun h2 => ?_⟩
    · have h2 : 150 < x1.toInt := (i_lt (rfl : (150 : Int32).toInt = 150) rfl).mp h2
      have m_2 := iv_211_0 hS.1
      exact hQ _ _ _ ⟨hS, (show ((-4) ≤ (-2) ∧ (-2) ≤ 39 ∧ (((30 ≤ x1.toInt ∧ x1.toInt ≤ 150 ∧ 1 ≤ x2.toInt ∧ x2.toInt ≤ 99 ∧ 0 ≤ x3.toInt ∧ x3.toInt ≤ 2 ∧ 0 ≤ x4.toInt ∧ x4.toInt ≤ 1 ∧ 10 ≤ x5.toInt ∧ x5.toInt ≤ 90) ∧ (e 211 0).toInt < 40 ∧ (-2) = (e 211 0).toInt ∧ (d 211 0).toInt = (e 211 0).toInt + 1) ∨ ((30 ≤ x1.toInt ∧ x1.toInt ≤ 150 ∧ 1 ≤ x2.toInt ∧ x2.toInt ≤ 99 ∧ 0 ≤ x3.toInt ∧ x3.toInt ≤ 2 ∧ 0 ≤ x4.toInt ∧ x4.toInt ≤ 1 ∧ 10 ≤ x5.toInt ∧ x5.toInt ≤ 90) ∧ ¬ (e 211 0).toInt < 40 ∧ (-2) = -4 ∧ (d 211 0).toInt = (e 211 0).toInt) ∨ (¬ (30 ≤ x1.toInt ∧ x1.toInt ≤ 150 ∧ 1 ≤ x2.toInt ∧ x2.toInt ≤ 99 ∧ 0 ≤ x3.toInt ∧ x3.toInt ≤ 2 ∧ 0 ≤ x4.toInt ∧ x4.toInt ≤ 1 ∧ 10 ≤ x5.toInt ∧ x5.toInt ≤ 90) ∧ (-2) = -2 ∧ (d 211 0).toInt = (e 211 0).toInt))) from by omega)⟩
    · have h2 : ¬ (150 < x1.toInt) := fun q => h2 ((i_lt (rfl : (150 : Int32).toInt = 150) rfl).mpr q)
      refine ⟨fun h3 => ?_, fun h3 => ?_⟩
      · have h3 : x2.toInt < 1 := (i_lt rfl (rfl : (1 : Int32).toInt = 1)).mp h3
        have m_3 := iv_211_0 hS.1
        exact hQ _ _ _ ⟨hS, (show ((-4) ≤ (-2) ∧ (-2) ≤ 39 ∧ (((30 ≤ x1.toInt ∧ x1.toInt ≤ 150 ∧ 1 ≤ x2.toInt ∧ x2.toInt ≤ 99 ∧ 0 ≤ x3.toInt ∧ x3.toInt ≤ 2 ∧ 0 ≤ x4.toInt ∧ x4.toInt ≤ 1 ∧ 10 ≤ x5.toInt ∧ x5.toInt ≤ 90) ∧ (e 211 0).toInt < 40 ∧ (-2) = (e 211 0).toInt ∧ (d 211 0).toInt = (e 211 0).toInt + 1) ∨ ((30 ≤ x1.toInt ∧ x1.toInt ≤ 150 ∧ 1 ≤ x2.toInt ∧ x2.toInt ≤ 99 ∧ 0 ≤ x3.toInt ∧ x3.toInt ≤ 2 ∧ 0 ≤ x4.toInt ∧ x4.toInt ≤ 1 ∧ 10 ≤ x5.toInt ∧ x5.toInt ≤ 90) ∧ ¬ (e 211 0).toInt < 40 ∧ (-2) = -4 ∧ (d 211 0).toInt = (e 211 0).toInt) ∨ (¬ (30 ≤ x1.toInt ∧ x1.toInt ≤ 150 ∧ 1 ≤ x2.toInt ∧ x2.toInt ≤ 99 ∧ 0 ≤ x3.toInt ∧ x3.toInt ≤ 2 ∧ 0 ≤ x4.toInt ∧ x4.toInt ≤ 1 ∧ 10 ≤ x5.toInt ∧ x5.toInt ≤ 90) ∧ (-2) = -2 ∧ (d 211 0).toInt = (e 211 0).toInt))) from by omega)⟩
      · have h3 : ¬ (x2.toInt < 1) := fun q => h3 ((i_lt rfl (rfl : (1 : Int32).toInt = 1)).mpr q)
        refine ⟨fun h4 => ?_, fun h4 => ?_⟩
        · have h4 : 99 < x2.toInt := (i_lt (rfl : (99 : Int32).toInt = 99) rfl).mp h4
          have m_4 := iv_211_0 hS.1
          exact hQ _ _ _ ⟨hS, (show ((-4) ≤ (-2) ∧ (-2) ≤ 39 ∧ (((30 ≤ x1.toInt ∧ x1.toInt ≤ 150 ∧ 1 ≤ x2.toInt ∧ x2.toInt ≤ 99 ∧ 0 ≤ x3.toInt ∧ x3.toInt ≤ 2 ∧ 0 ≤ x4.toInt ∧ x4.toInt ≤ 1 ∧ 10 ≤ x5.toInt ∧ x5.toInt ≤ 90) ∧ (e 211 0).toInt < 40 ∧ (-2) = (e 211 0).toInt ∧ (d 211 0).toInt = (e 211 0).toInt + 1) ∨ ((30 ≤ x1.toInt ∧ x1.toInt ≤ 150 ∧ 1 ≤ x2.toInt ∧ x2.toInt ≤ 99 ∧ 0 ≤ x3.toInt ∧ x3.toInt ≤ 2 ∧ 0 ≤ x4.toInt ∧ x4.toInt ≤ 1 ∧ 10 ≤ x5.toInt ∧ x5.toInt ≤ 90) ∧ ¬ (e 211 0).toInt < 40 ∧ (-2) = -4 ∧ (d 211 0).toInt = (e 211 0).toInt) ∨ (¬ (30 ≤ x1.toInt ∧ x1.toInt ≤ 150 ∧ 1 ≤ x2.toInt ∧ x2.toInt ≤ 99 ∧ 0 ≤ x3.toInt ∧ x3.toInt ≤ 2 ∧ 0 ≤ x4.toInt ∧ x4.toInt ≤ 1 ∧ 10 ≤ x5.toInt ∧ x5.toInt ≤ 90) ∧ (-2) = -2 ∧ (d 211 0).toInt = (e 211 0).toInt))) from by omega)⟩
        · have h4 : ¬ (99 < x2.toInt) := fun q => h4 ((i_lt (rfl : (99 : Int32).toInt = 99) rfl).mpr q)
          refine ⟨fun h5 => ?_, fun h5 => ?_⟩
          · have h5 : x3.toInt < 0 := (i_lt rfl (rfl : (0 : Int32).toInt = 0)).mp h5
            have m_5 := iv_211_0 hS.1
            exact hQ _ _ _ ⟨hS, (show ((-4) ≤ (-2) ∧ (-2) ≤ 39 ∧ (((30 ≤ x1.toInt ∧ x1.toInt ≤ 150 ∧ 1 ≤ x2.toInt ∧ x2.toInt ≤ 99 ∧ 0 ≤ x3.toInt ∧ x3.toInt ≤ 2 ∧ 0 ≤ x4.toInt ∧ x4.toInt ≤ 1 ∧ 10 ≤ x5.toInt ∧ x5.toInt ≤ 90) ∧ (e 211 0).toInt < 40 ∧ (-2) = (e 211 0).toInt ∧ (d 211 0).toInt = (e 211 0).toInt + 1) ∨ ((30 ≤ x1.toInt ∧ x1.toInt ≤ 150 ∧ 1 ≤ x2.toInt ∧ x2.toInt ≤ 99 ∧ 0 ≤ x3.toInt ∧ x3.toInt ≤ 2 ∧ 0 ≤ x4.toInt ∧ x4.toInt ≤ 1 ∧ 10 ≤ x5.toInt ∧ x5.toInt ≤ 90) ∧ ¬ (e 211 0).toInt < 40 ∧ (-2) = -4 ∧ (d 211 0).toInt = (e 211 0).toInt) ∨ (¬ (30 ≤ x1.toInt ∧ x1.toInt ≤ 150 ∧ 1 ≤ x2.toInt ∧ x2.toInt ≤ 99 ∧ 0 ≤ x3.toInt ∧ x3.toInt ≤ 2 ∧ 0 ≤ x4.toInt ∧ x4.toInt ≤ 1 ∧ 10 ≤ x5.toInt ∧ x5.toInt ≤ 90) ∧ (-2) = -2 ∧ (d 211 0).toInt = (e 211 0).toInt))) from by omega)⟩
          · have h5 : ¬ (x3.toInt < 0) := fun q => h5 ((i_lt rfl (rfl : (0 : Int32).toInt = 0)).mpr q)
            refine ⟨fun h6 => ?_, fun h6 => ?_⟩
            · have h6 : 2 < x3.toInt := (i_lt (rfl : (2 : Int32).toInt = 2) rfl).mp h6
              have m_6 := iv_211_0 hS.1
              exact hQ _ _ _ ⟨hS, (show ((-4) ≤ (-2) ∧ (-2) ≤ 39 ∧ (((30 ≤ x1.toInt ∧ x1.toInt ≤ 150 ∧ 1 ≤ x2.toInt ∧ x2.toInt ≤ 99 ∧ 0 ≤ x3.toInt ∧ x3.toInt ≤ 2 ∧ 0 ≤ x4.toInt ∧ x4.toInt ≤ 1 ∧ 10 ≤ x5.toInt ∧ x5.toInt ≤ 90) ∧ (e 211 0).toInt < 40 ∧ (-2) = (e 211 0).toInt ∧ (d 211 0).toInt = (e 211 0).toInt + 1) ∨ ((30 ≤ x1.toInt ∧ x1.toInt ≤ 150 ∧ 1 ≤ x2.toInt ∧ x2.toInt ≤ 99 ∧ 0 ≤ x3.toInt ∧ x3.toInt ≤ 2 ∧ 0 ≤ x4.toInt ∧ x4.toInt ≤ 1 ∧ 10 ≤ x5.toInt ∧ x5.toInt ≤ 90) ∧ ¬ (e 211 0).toInt < 40 ∧ (-2) = -4 ∧ (d 211 0).toInt = (e 211 0).toInt) ∨ (¬ (30 ≤ x1.toInt ∧ x1.toInt ≤ 150 ∧ 1 ≤ x2.toInt ∧ x2.toInt ≤ 99 ∧ 0 ≤ x3.toInt ∧ x3.toInt ≤ 2 ∧ 0 ≤ x4.toInt ∧ x4.toInt ≤ 1 ∧ 10 ≤ x5.toInt ∧ x5.toInt ≤ 90) ∧ (-2) = -2 ∧ (d 211 0).toInt = (e 211 0).toInt))) from by omega)⟩
            · have h6 : ¬ (2 < x3.toInt) := fun q => h6 ((i_lt (rfl : (2 : Int32).toInt = 2) rfl).mpr q)
              refine ⟨fun h7 => ?_, fun h7 => ?_⟩
              · have h7 : x4.toInt < 0 := (i_lt rfl (rfl : (0 : Int32).toInt = 0)).mp h7
                have m_7 := iv_211_0 hS.1
                exact hQ _ _ _ ⟨hS, (show ((-4) ≤ (-2) ∧ (-2) ≤ 39 ∧ (((30 ≤ x1.toInt ∧ x1.toInt ≤ 150 ∧ 1 ≤ x2.toInt ∧ x2.toInt ≤ 99 ∧ 0 ≤ x3.toInt ∧ x3.toInt ≤ 2 ∧ 0 ≤ x4.toInt ∧ x4.toInt ≤ 1 ∧ 10 ≤ x5.toInt ∧ x5.toInt ≤ 90) ∧ (e 211 0).toInt < 40 ∧ (-2) = (e 211 0).toInt ∧ (d 211 0).toInt = (e 211 0).toInt + 1) ∨ ((30 ≤ x1.toInt ∧ x1.toInt ≤ 150 ∧ 1 ≤ x2.toInt ∧ x2.toInt ≤ 99 ∧ 0 ≤ x3.toInt ∧ x3.toInt ≤ 2 ∧ 0 ≤ x4.toInt ∧ x4.toInt ≤ 1 ∧ 10 ≤ x5.toInt ∧ x5.toInt ≤ 90) ∧ ¬ (e 211 0).toInt < 40 ∧ (-2) = -4 ∧ (d 211 0).toInt = (e 211 0).toInt) ∨ (¬ (30 ≤ x1.toInt ∧ x1.toInt ≤ 150 ∧ 1 ≤ x2.toInt ∧ x2.toInt ≤ 99 ∧ 0 ≤ x3.toInt ∧ x3.toInt ≤ 2 ∧ 0 ≤ x4.toInt ∧ x4.toInt ≤ 1 ∧ 10 ≤ x5.toInt ∧ x5.toInt ≤ 90) ∧ (-2) = -2 ∧ (d 211 0).toInt = (e 211 0).toInt))) from by omega)⟩
              · have h7 : ¬ (x4.toInt < 0) := fun q => h7 ((i_lt rfl (rfl : (0 : Int32).toInt = 0)).mpr q)
                refine ⟨fun h8 => ?_, fun h8 => ?_⟩
                · have h8 : 1 < x4.toInt := (i_lt (rfl : (1 : Int32).toInt = 1) rfl).mp h8
                  have m_8 := iv_211_0 hS.1
                  exact hQ _ _ _ ⟨hS, (show ((-4) ≤ (-2) ∧ (-2) ≤ 39 ∧ (((30 ≤ x1.toInt ∧ x1.toInt ≤ 150 ∧ 1 ≤ x2.toInt ∧ x2.toInt ≤ 99 ∧ 0 ≤ x3.toInt ∧ x3.toInt ≤ 2 ∧ 0 ≤ x4.toInt ∧ x4.toInt ≤ 1 ∧ 10 ≤ x5.toInt ∧ x5.toInt ≤ 90) ∧ (e 211 0).toInt < 40 ∧ (-2) = (e 211 0).toInt ∧ (d 211 0).toInt = (e 211 0).toInt + 1) ∨ ((30 ≤ x1.toInt ∧ x1.toInt ≤ 150 ∧ 1 ≤ x2.toInt ∧ x2.toInt ≤ 99 ∧ 0 ≤ x3.toInt ∧ x3.toInt ≤ 2 ∧ 0 ≤ x4.toInt ∧ x4.toInt ≤ 1 ∧ 10 ≤ x5.toInt ∧ x5.toInt ≤ 90) ∧ ¬ (e 211 0).toInt < 40 ∧ (-2) = -4 ∧ (d 211 0).toInt = (e 211 0).toInt) ∨ (¬ (30 ≤ x1.toInt ∧ x1.toInt ≤ 150 ∧ 1 ≤ x2.toInt ∧ x2.toInt ≤ 99 ∧ 0 ≤ x3.toInt ∧ x3.toInt ≤ 2 ∧ 0 ≤ x4.toInt ∧ x4.toInt ≤ 1 ∧ 10 ≤ x5.toInt ∧ x5.toInt ≤ 90) ∧ (-2) = -2 ∧ (d 211 0).toInt = (e 211 0).toInt))) from by omega)⟩
                · have h8 : ¬ (1 < x4.toInt) := fun q => h8 ((i_lt (rfl : (1 : Int32).toInt = 1) rfl).mpr q)
                  refine ⟨fun h9 => ?_, fun h9 => ?_⟩
                  · have h9 : x5.toInt < 10 := (i_lt rfl (rfl : (10 : Int32).toInt = 10)).mp h9
                    have m_9 := iv_211_0 hS.1
                    exact hQ _ _ _ ⟨hS, (show ((-4) ≤ (-2) ∧ (-2) ≤ 39 ∧ (((30 ≤ x1.toInt ∧ x1.toInt ≤ 150 ∧ 1 ≤ x2.toInt ∧ x2.toInt ≤ 99 ∧ 0 ≤ x3.toInt ∧ x3.toInt ≤ 2 ∧ 0 ≤ x4.toInt ∧ x4.toInt ≤ 1 ∧ 10 ≤ x5.toInt ∧ x5.toInt ≤ 90) ∧ (e 211 0).toInt < 40 ∧ (-2) = (e 211 0).toInt ∧ (d 211 0).toInt = (e 211 0).toInt + 1) ∨ ((30 ≤ x1.toInt ∧ x1.toInt ≤ 150 ∧ 1 ≤ x2.toInt ∧ x2.toInt ≤ 99 ∧ 0 ≤ x3.toInt ∧ x3.toInt ≤ 2 ∧ 0 ≤ x4.toInt ∧ x4.toInt ≤ 1 ∧ 10 ≤ x5.toInt ∧ x5.toInt ≤ 90) ∧ ¬ (e 211 0).toInt < 40 ∧ (-2) = -4 ∧ (d 211 0).toInt = (e 211 0).toInt) ∨ (¬ (30 ≤ x1.toInt ∧ x1.toInt ≤ 150 ∧ 1 ≤ x2.toInt ∧ x2.toInt ≤ 99 ∧ 0 ≤ x3.toInt ∧ x3.toInt ≤ 2 ∧ 0 ≤ x4.toInt ∧ x4.toInt ≤ 1 ∧ 10 ≤ x5.toInt ∧ x5.toInt ≤ 90) ∧ (-2) = -2 ∧ (d 211 0).toInt = (e 211 0).toInt))) from by omega)⟩
                  · have h9 : ¬ (x5.toInt < 10) := fun q => h9 ((i_lt rfl (rfl : (10 : Int32).toInt = 10)).mpr q)
                    refine ⟨fun h10 => ?_, fun h10 => ?_⟩
                    · have h10 : x5.toInt ≤ 90 := (i_le rfl (rfl : (90 : Int32).toInt = 90)).mp h10
                      have m_10 := iv_211_0 hS.1
                      refine ⟨fun h11 => ?_, fun h11 => ?_⟩
                      · have h11 : ¬ ((d 211 0).toInt = 40) := fun q => h11 ((i_eq rfl (rfl : (40 : Int32).toInt = 40)).mpr q)
                        have ih12 : vp_in (d 211 0) 40 := vin rfl (by omega) (by omega)
                        refine ⟨ih12, ?_⟩
                        intro d13 ed13
                        have s_11 : StB e el d13 dl := by rw [ed13]; exact pw_212 hS (by omega) (by omega) rfl
                        have q_12 : d13 211 0 = (d 211 0) := by rw [ed13, u2_row (by omega)]
                        have t_13 : (d13 211 0).toInt = (d 211 0).toInt := (congrArg Int32.toInt q_12).trans rfl
                        have ih14 : vp_in (d13 211 0) 40 := vin t_13 (by omega) (by omega)
                        refine ⟨ih14, ?_⟩
                        intro d15 ed15
                        have s_14 : StB e el d15 dl := by rw [ed15]; exact pw_213 s_11 (by omega) (by omega) rfl
                        have q_15 : d15 211 0 = (d 211 0) := by rw [ed15, u2_row (by omega)]; rw [ed13, u2_row (by omega)]
                        have t_16 : (d15 211 0).toInt = (d 211 0).toInt := (congrArg Int32.toInt q_15).trans rfl
                        have ih16 : vp_in (d15 211 0) 40 := vin t_16 (by omega) (by omega)
                        refine ⟨ih16, ?_⟩
                        intro d17 ed17
                        have s_17 : StB e el d17 dl := by rw [ed17]; exact pw_214 s_14 (by omega) (by omega) rfl
                        have q_18 : d17 211 0 = (d 211 0) := by rw [ed17, u2_row (by omega)]; rw [ed15, u2_row (by omega)]; rw [ed13, u2_row (by omega)]
                        have t_19 : (d17 211 0).toInt = (d 211 0).toInt := (congrArg Int32.toInt q_18).trans rfl
                        have ih18 : vp_in (d17 211 0) 40 := vin t_19 (by omega) (by omega)
                        refine ⟨ih18, ?_⟩
                        intro d19 ed19
                        have s_20 : StB e el d19 dl := by rw [ed19]; exact pw_215 s_17 (by omega) (by omega) rfl
                        have q_21 : d19 211 0 = (d 211 0) := by rw [ed19, u2_row (by omega)]; rw [ed17, u2_row (by omega)]; rw [ed15, u2_row (by omega)]; rw [ed13, u2_row (by omega)]
                        have t_22 : (d19 211 0).toInt = (d 211 0).toInt := (congrArg Int32.toInt q_21).trans rfl
                        have ih20 : vp_in (d19 211 0) 40 := vin t_22 (by omega) (by omega)
                        refine ⟨ih20, ?_⟩
                        intro d21 ed21
                        have s_23 : StB e el d21 dl := by rw [ed21]; exact pw_216 s_20 (by omega) (by omega) rfl
                        have q_24 : d21 211 0 = (d 211 0) := by rw [ed21, u2_row (by omega)]; rw [ed19, u2_row (by omega)]; rw [ed17, u2_row (by omega)]; rw [ed15, u2_row (by omega)]; rw [ed13, u2_row (by omega)]
                        have t_25 : (d21 211 0).toInt = (d 211 0).toInt := (congrArg Int32.toInt q_24).trans rfl
                        have t_26 : ((d21 211 0) + 1).toInt = (d 211 0).toInt + 1 := ti_add t_25 (rfl : (1 : Int32).toInt = 1) (by omega) (by omega)
                        intro d22 ed22
                        have s_27 : StB e el d22 dl := by rw [ed22]; exact pw_211_0 s_23 (by rw [t_26]; omega) (by rw [t_26]; omega) rfl
                        have q_28 : d22 211 0 = ((d21 211 0) + 1) := by rw [ed22, u2_eq]
                        have t_29 : (d22 211 0).toInt = ((d 211 0).toInt + 1) := (congrArg Int32.toInt q_28).trans t_26
                        exact hQ _ _ _ ⟨s_27, by omega⟩
                      · have h11 : (d 211 0).toInt = 40 := (i_eq rfl (rfl : (40 : Int32).toInt = 40)).mp h11
                        exact hQ _ _ _ ⟨hS, (show ((-4) ≤ (-4) ∧ (-4) ≤ 39 ∧ (((30 ≤ x1.toInt ∧ x1.toInt ≤ 150 ∧ 1 ≤ x2.toInt ∧ x2.toInt ≤ 99 ∧ 0 ≤ x3.toInt ∧ x3.toInt ≤ 2 ∧ 0 ≤ x4.toInt ∧ x4.toInt ≤ 1 ∧ 10 ≤ x5.toInt ∧ x5.toInt ≤ 90) ∧ (e 211 0).toInt < 40 ∧ (-4) = (e 211 0).toInt ∧ (d 211 0).toInt = (e 211 0).toInt + 1) ∨ ((30 ≤ x1.toInt ∧ x1.toInt ≤ 150 ∧ 1 ≤ x2.toInt ∧ x2.toInt ≤ 99 ∧ 0 ≤ x3.toInt ∧ x3.toInt ≤ 2 ∧ 0 ≤ x4.toInt ∧ x4.toInt ≤ 1 ∧ 10 ≤ x5.toInt ∧ x5.toInt ≤ 90) ∧ ¬ (e 211 0).toInt < 40 ∧ (-4) = -4 ∧ (d 211 0).toInt = (e 211 0).toInt) ∨ (¬ (30 ≤ x1.toInt ∧ x1.toInt ≤ 150 ∧ 1 ≤ x2.toInt ∧ x2.toInt ≤ 99 ∧ 0 ≤ x3.toInt ∧ x3.toInt ≤ 2 ∧ 0 ≤ x4.toInt ∧ x4.toInt ≤ 1 ∧ 10 ≤ x5.toInt ∧ x5.toInt ≤ 90) ∧ (-4) = -2 ∧ (d 211 0).toInt = (e 211 0).toInt))) from by omega)⟩
                    · have h10 : ¬ (x5.toInt ≤ 90) := fun q => h10 ((i_le rfl (rfl : (90 : Int32).toInt = 90)).mpr q)
                      have m_30 := iv_211_0 hS.1
                      exact hQ _ _ _ ⟨hS, (show ((-4) ≤ (-2) ∧ (-2) ≤ 39 ∧ (((30 ≤ x1.toInt ∧ x1.toInt ≤ 150 ∧ 1 ≤ x2.toInt ∧ x2.toInt ≤ 99 ∧ 0 ≤ x3.toInt ∧ x3.toInt ≤ 2 ∧ 0 ≤ x4.toInt ∧ x4.toInt ≤ 1 ∧ 10 ≤ x5.toInt ∧ x5.toInt ≤ 90) ∧ (e 211 0).toInt < 40 ∧ (-2) = (e 211 0).toInt ∧ (d 211 0).toInt = (e 211 0).toInt + 1) ∨ ((30 ≤ x1.toInt ∧ x1.toInt ≤ 150 ∧ 1 ≤ x2.toInt ∧ x2.toInt ≤ 99 ∧ 0 ≤ x3.toInt ∧ x3.toInt ≤ 2 ∧ 0 ≤ x4.toInt ∧ x4.toInt ≤ 1 ∧ 10 ≤ x5.toInt ∧ x5.toInt ≤ 90) ∧ ¬ (e 211 0).toInt < 40 ∧ (-2) = -4 ∧ (d 211 0).toInt = (e 211 0).toInt) ∨ (¬ (30 ≤ x1.toInt ∧ x1.toInt ≤ 150 ∧ 1 ≤ x2.toInt ∧ x2.toInt ≤ 99 ∧ 0 ≤ x3.toInt ∧ x3.toInt ≤ 2 ∧ 0 ≤ x4.toInt ∧ x4.toInt ≤ 1 ∧ 10 ≤ x5.toInt ∧ x5.toInt ≤ 90) ∧ (-2) = -2 ∧ (d 211 0).toInt = (e 211 0).toInt))) from by omega)⟩
set_option maxHeartbeats 4000000 in
set_option maxRecDepth 100000 in
theorem sp_X9_rest {n : Nat} (hn : 1000000000 ≤ n) {x1 : Int32} {d : DD} {dl : LL} (hI : Inv d) {Q : Int32 → DD → LL → Prop} (hQ : ∀ (r : Int32) (d2 : DD) (l2 : LL), StC d dl d2 l2 ∧ ((-2) ≤ r.toInt ∧ r.toInt ≤ 99 ∧ (((0 ≤ x1.toInt ∧ x1.toInt ≤ 99) ∧ r.toInt = (d 0 9).toInt ∧ (d2 0 9).toInt = x1.toInt) ∨ (¬ (0 ≤ x1.toInt ∧ x1.toInt ≤ 99) ∧ r.toInt = -2 ∧ (d2 0 9).toInt = (d 0 9).toInt))) → Q r d2 l2) : F_X9_rest n x1 d dl Q := by
  obtain ⟨e, he⟩ : ∃ e : DD, e = d := ⟨_, rfl⟩
  obtain ⟨el, hel⟩ : ∃ el : LL, el = dl := ⟨_, rfl⟩
  have hS : StC e el d dl := by rw [he, hel]; exact StC.rf hI
  rw [← he, ← hel] at hQ
  show F_X9_within n x1 0 99 d dl (fun r1 d2 l3 => (¬ r1 = 0 → ∀ v5 : Int32, v5 = (d2 0 9) → ∀ d6 : DD, d6 = u2 d2 0 9 x1 → Q v5 d6 l3) ∧ (r1 = 0 → Q (-2) d2 l3))
  have hx0 : (e 0 9).toInt = (d 0 9).toInt := by rw [he]
  refine sp_X9_within hn hS.1 (fun r1 d2 l3 ⟨p_1, u_2⟩ => ?_)
  have s_3 : StC e el d2 l3 := hS.sq p_1
  have w_4 : d2 = d := p_1.2.1
  replace u_2 : (0 ≤ r1.toInt ∧ r1.toInt ≤ 1 ∧ ((r1.toInt = 1 ∧ 0 ≤ x1.toInt ∧ x1.toInt ≤ 99) ∨ (r1.toInt = 0 ∧ ¬ (0 ≤ x1.toInt ∧ x1.toInt ≤ 99)))) := u_2
  refine ⟨fun h4 => ?_, fun h4 => ?_⟩
  · have h4 : ¬ (r1.toInt = 0) := fun q => h4 ((i_eq rfl (rfl : (0 : Int32).toInt = 0)).mpr q)
    have q_5 : d2 0 9 = (d 0 9) := by rw [w_4]
    have m_6 := iv_0_9 hS.1
    have t_7 : (d2 0 9).toInt = (d 0 9).toInt := (congrArg Int32.toInt q_5).trans rfl
    intro v5 e5
    have t_8 : v5.toInt = (d 0 9).toInt := (congrArg Int32.toInt e5).trans t_7
    intro d6 ed6
    have s_9 : StC e el d6 l3 := by rw [ed6]; exact pw_0_9 s_3 (by omega) (by omega) rfl
    have q_10 : d6 0 9 = x1 := by rw [ed6, u2_eq]
    have t_11 : (d6 0 9).toInt = x1.toInt := (congrArg Int32.toInt q_10).trans rfl
    exact hQ _ _ _ ⟨s_9, by omega⟩
  · have h4 : r1.toInt = 0 := (i_eq rfl (rfl : (0 : Int32).toInt = 0)).mp h4
    have q_12 : d2 0 9 = (d 0 9) := by rw [w_4]
    have m_13 := iv_0_9 hS.1
    have t_14 : (d2 0 9).toInt = (d 0 9).toInt := (congrArg Int32.toInt q_12).trans rfl
    exact hQ _ _ _ ⟨s_3, (show ((-2) ≤ (-2) ∧ (-2) ≤ 99 ∧ (((0 ≤ x1.toInt ∧ x1.toInt ≤ 99) ∧ (-2) = (e 0 9).toInt ∧ (d2 0 9).toInt = x1.toInt) ∨ (¬ (0 ≤ x1.toInt ∧ x1.toInt ≤ 99) ∧ (-2) = -2 ∧ (d2 0 9).toInt = (e 0 9).toInt))) from by omega)⟩
set_option maxHeartbeats 4000000 in
set_option maxRecDepth 100000 in
theorem sp_X10_rest {n : Nat} (hn : 1000000000 ≤ n) {x1 : Int32} {d : DD} {dl : LL} (hI : Inv d) {Q : Int32 → DD → LL → Prop} (hQ : ∀ (r : Int32) (d2 : DD) (l2 : LL), StD d dl d2 l2 ∧ ((-2) ≤ r.toInt ∧ r.toInt ≤ 99 ∧ (((0 ≤ x1.toInt ∧ x1.toInt ≤ 99) ∧ r.toInt = (d 211 5).toInt ∧ (d2 211 5).toInt = x1.toInt) ∨ (¬ (0 ≤ x1.toInt ∧ x1.toInt ≤ 99) ∧ r.toInt = -2 ∧ (d2 211 5).toInt = (d 211 5).toInt))) → Q r d2 l2) : F_X10_rest n x1 d dl Q := by
  obtain ⟨e, he⟩ : ∃ e : DD, e = d := ⟨_, rfl⟩
  obtain ⟨el, hel⟩ : ∃ el : LL, el = dl := ⟨_, rfl⟩
  have hS : StD e el d dl := by rw [he, hel]; exact StD.rf hI
  rw [← he, ← hel] at hQ
  show (x1 < 0 → Q (-2) d dl) ∧ (¬ x1 < 0 → (x1 ≤ 99 → ∀ v3 : Int32, v3 = (d 211 5) → ∀ d4 : DD, d4 = u2 d 211 5 x1 → Q v3 d4 dl) ∧ (¬ x1 ≤ 99 → Q (-2) d dl))
  have hx0 : (e 211 5).toInt = (d 211 5).toInt := by rw [he]
  refine ⟨fun h1 => ?_, fun h1 => ?_⟩
  · have h1 : x1.toInt < 0 := (i_lt rfl (rfl : (0 : Int32).toInt = 0)).mp h1
    have m_1 := iv_211_5 hS.1
    exact hQ _ _ _ ⟨hS, (show ((-2) ≤ (-2) ∧ (-2) ≤ 99 ∧ (((0 ≤ x1.toInt ∧ x1.toInt ≤ 99) ∧ (-2) = (e 211 5).toInt ∧ (d 211 5).toInt = x1.toInt) ∨ (¬ (0 ≤ x1.toInt ∧ x1.toInt ≤ 99) ∧ (-2) = -2 ∧ (d 211 5).toInt = (e 211 5).toInt))) from by omega)⟩
  · have h1 : ¬ (x1.toInt < 0) := fun q => h1 ((i_lt rfl (rfl : (0 : Int32).toInt = 0)).mpr q)
    refine ⟨fun h2 => ?_, fun h2 => ?_⟩
    · have h2 : x1.toInt ≤ 99 := (i_le rfl (rfl : (99 : Int32).toInt = 99)).mp h2
      have m_2 := iv_211_5 hS.1
      intro v3 e3
      have t_3 : v3.toInt = (d 211 5).toInt := (congrArg Int32.toInt e3).trans rfl
      intro d4 ed4
      have s_4 : StD e el d4 dl := by rw [ed4]; exact pw_211_5 hS (by omega) (by omega) rfl
      have q_5 : d4 211 5 = x1 := by rw [ed4, u2_eq]
      have t_6 : (d4 211 5).toInt = x1.toInt := (congrArg Int32.toInt q_5).trans rfl
      exact hQ _ _ _ ⟨s_4, by omega⟩
    · have h2 : ¬ (x1.toInt ≤ 99) := fun q => h2 ((i_le rfl (rfl : (99 : Int32).toInt = 99)).mpr q)
      have m_7 := iv_211_5 hS.1
      exact hQ _ _ _ ⟨hS, (show ((-2) ≤ (-2) ∧ (-2) ≤ 99 ∧ (((0 ≤ x1.toInt ∧ x1.toInt ≤ 99) ∧ (-2) = (e 211 5).toInt ∧ (d 211 5).toInt = x1.toInt) ∨ (¬ (0 ≤ x1.toInt ∧ x1.toInt ≤ 99) ∧ (-2) = -2 ∧ (d 211 5).toInt = (e 211 5).toInt))) from by omega)⟩
set_option maxHeartbeats 4000000 in
set_option maxRecDepth 100000 in
theorem sp_X9_crew {n : Nat} (hn : 1000000000 ≤ n) {x1 : Int32} {x2 : Int32} {d : DD} {dl : LL} (hI : Inv d) {Q : Int32 → DD → LL → Prop} (hQ : ∀ (r : Int32) (d2 : DD) (l2 : LL), StG d dl d2 l2 ∧ ((-4) ≤ r.toInt ∧ r.toInt ≤ 5 ∧ ((((2 ≤ x1.toInt ∧ x1.toInt ≤ 4) ∧ (0 ≤ x2.toInt ∧ x2.toInt ≤ 150)) ∧ (d 0 2).toInt < 6 ∧ r.toInt = (d 0 2).toInt ∧ (d2 0 2).toInt = (d 0 2).toInt + 1) ∨ (((2 ≤ x1.toInt ∧ x1.toInt ≤ 4) ∧ (0 ≤ x2.toInt ∧ x2.toInt ≤ 150)) ∧ ¬ (d 0 2).toInt < 6 ∧ r.toInt = -4 ∧ (d2 0 2).toInt = (d 0 2).toInt) ∨ (¬ ((2 ≤ x1.toInt ∧ x1.toInt ≤ 4) ∧ (0 ≤ x2.toInt ∧ x2.toInt ≤ 150)) ∧ r.toInt = -2 ∧ (d2 0 2).toInt = (d 0 2).toInt))) → Q r d2 l2) : F_X9_crew n x1 x2 d dl Q := by
  obtain ⟨e, he⟩ : ∃ e : DD, e = d := ⟨_, rfl⟩
  obtain ⟨el, hel⟩ : ∃ el : LL, el = dl := ⟨_, rfl⟩
  have hS : StG e el d dl := by rw [he, hel]; exact StG.rf hI
  rw [← he, ← hel] at hQ
  show F_X9_within n x1 2 4 d dl (fun r1 d2 l3 => (r1 = 0 → Q (-2) d2 l3) ∧ (¬ r1 = 0 → F_X9_within n x2 0 150 d2 l3 (fun r5 d6 l7 => (¬ r5 = 0 → ((d6 0 2) < 6 → vp_in (d6 0 2) 6 ∧ ∀ k11 : Nat, k11 = (d6 0 2).toNatClampNeg → ∀ d12 : DD, d12 = u2 d6 (37 + 3 * k11) 0 x1 → vp_in (d12 0 2) 6 ∧ ∀ k14 : Nat, k14 = (d12 0 2).toNatClampNeg → ∀ d15 : DD, d15 = u2 d12 (37 + 3 * k14) 1 x2 → ∀ d16 : DD, d16 = u2 d15 0 2 ((d15 0 2) + 1) → Q ((d16 0 2) - 1) d16 l7) ∧ (¬ (d6 0 2) < 6 → Q (-4) d6 l7)) ∧ (r5 = 0 → Q (-2) d6 l7))))
  have hx0 : (e 0 2).toInt = (d 0 2).toInt := by rw [he]
  refine sp_X9_within hn hS.1 (fun r1 d2 l3 ⟨p_1, u_2⟩ => ?_)
  have s_3 : StG e el d2 l3 := hS.sq p_1
  have w_4 : d2 = d := p_1.2.1
  replace u_2 : (0 ≤ r1.toInt ∧ r1.toInt ≤ 1 ∧ ((r1.toInt = 1 ∧ 2 ≤ x1.toInt ∧ x1.toInt ≤ 4) ∨ (r1.toInt = 0 ∧ ¬ (2 ≤ x1.toInt ∧ x1.toInt ≤ 4)))) := u_2
  refine ⟨fun h4 => ?_, fun h4 => ?_⟩
  · have h4 : r1.toInt = 0 := (i_eq rfl (rfl : (0 : Int32).toInt = 0)).mp h4
    have q_5 : d2 0 2 = (d 0 2) := by rw [w_4]
    have m_6 := iv_0_2 hS.1
    have t_7 : (d2 0 2).toInt = (d 0 2).toInt := (congrArg Int32.toInt q_5).trans rfl
    exact hQ _ _ _ ⟨s_3, (show ((-4) ≤ (-2) ∧ (-2) ≤ 5 ∧ ((((2 ≤ x1.toInt ∧ x1.toInt ≤ 4) ∧ (0 ≤ x2.toInt ∧ x2.toInt ≤ 150)) ∧ (e 0 2).toInt < 6 ∧ (-2) = (e 0 2).toInt ∧ (d2 0 2).toInt = (e 0 2).toInt + 1) ∨ (((2 ≤ x1.toInt ∧ x1.toInt ≤ 4) ∧ (0 ≤ x2.toInt ∧ x2.toInt ≤ 150)) ∧ ¬ (e 0 2).toInt < 6 ∧ (-2) = -4 ∧ (d2 0 2).toInt = (e 0 2).toInt) ∨ (¬ ((2 ≤ x1.toInt ∧ x1.toInt ≤ 4) ∧ (0 ≤ x2.toInt ∧ x2.toInt ≤ 150)) ∧ (-2) = -2 ∧ (d2 0 2).toInt = (e 0 2).toInt))) from by omega)⟩
  · have h4 : ¬ (r1.toInt = 0) := fun q => h4 ((i_eq rfl (rfl : (0 : Int32).toInt = 0)).mpr q)
    refine sp_X9_within hn s_3.1 (fun r5 d6 l7 ⟨p_8, u_9⟩ => ?_)
    have s_10 : StG e el d6 l7 := s_3.sq p_8
    have w_11 : d6 = d2 := p_8.2.1
    replace u_9 : (0 ≤ r5.toInt ∧ r5.toInt ≤ 1 ∧ ((r5.toInt = 1 ∧ 0 ≤ x2.toInt ∧ x2.toInt ≤ 150) ∨ (r5.toInt = 0 ∧ ¬ (0 ≤ x2.toInt ∧ x2.toInt ≤ 150)))) := u_9
    refine ⟨fun h8 => ?_, fun h8 => ?_⟩
    · have h8 : ¬ (r5.toInt = 0) := fun q => h8 ((i_eq rfl (rfl : (0 : Int32).toInt = 0)).mpr q)
      have q_12 : d6 0 2 = (d 0 2) := by rw [w_11]; rw [w_4]
      have m_13 := iv_0_2 hS.1
      have t_14 : (d6 0 2).toInt = (d 0 2).toInt := (congrArg Int32.toInt q_12).trans rfl
      refine ⟨fun h9 => ?_, fun h9 => ?_⟩
      · have h9 : (d 0 2).toInt < 6 := (i_lt t_14 (rfl : (6 : Int32).toInt = 6)).mp h9
        have ih10 : vp_in (d6 0 2) 6 := vin t_14 (by omega) (by omega)
        refine ⟨ih10, ?_⟩
        intro k11 ek11
        have hk11 : k11 < 6 := by rw [ek11]; exact clamp_in ih10
        intro d12 ed12
        have s_15 : StG e el d12 l7 := by rw [ed12]; exact pw_37_0 s_10 hk11 (by omega) (by omega) rfl
        have q_16 : d12 0 2 = (d 0 2) := by rw [ed12, u2_row (by omega)]; rw [w_11]; rw [w_4]
        have t_17 : (d12 0 2).toInt = (d 0 2).toInt := (congrArg Int32.toInt q_16).trans rfl
        have ih13 : vp_in (d12 0 2) 6 := vin t_17 (by omega) (by omega)
        refine ⟨ih13, ?_⟩
        intro k14 ek14
        have hk14 : k14 < 6 := by rw [ek14]; exact clamp_in ih13
        intro d15 ed15
        have s_18 : StG e el d15 l7 := by rw [ed15]; exact pw_37_1 s_15 hk14 (by omega) (by omega) rfl
        have q_19 : d15 0 2 = (d 0 2) := by rw [ed15, u2_row (by omega)]; rw [ed12, u2_row (by omega)]; rw [w_11]; rw [w_4]
        have t_20 : (d15 0 2).toInt = (d 0 2).toInt := (congrArg Int32.toInt q_19).trans rfl
        have t_21 : ((d15 0 2) + 1).toInt = (d 0 2).toInt + 1 := ti_add t_20 (rfl : (1 : Int32).toInt = 1) (by omega) (by omega)
        intro d16 ed16
        have s_22 : StG e el d16 l7 := by rw [ed16]; exact pw_0_2 s_18 (by rw [t_21]; omega) (by rw [t_21]; omega) rfl
        have q_23 : d16 0 2 = ((d15 0 2) + 1) := by rw [ed16, u2_eq]
        have t_24 : (d16 0 2).toInt = ((d 0 2).toInt + 1) := (congrArg Int32.toInt q_23).trans t_21
        have t_25 : ((d16 0 2) - 1).toInt = ((d 0 2).toInt + 1) - 1 := ti_sub t_24 (rfl : (1 : Int32).toInt = 1) (by omega) (by omega)
        exact hQ _ _ _ ⟨s_22, by omega⟩
      · have h9 : ¬ ((d 0 2).toInt < 6) := fun q => h9 ((i_lt t_14 (rfl : (6 : Int32).toInt = 6)).mpr q)
        exact hQ _ _ _ ⟨s_10, (show ((-4) ≤ (-4) ∧ (-4) ≤ 5 ∧ ((((2 ≤ x1.toInt ∧ x1.toInt ≤ 4) ∧ (0 ≤ x2.toInt ∧ x2.toInt ≤ 150)) ∧ (e 0 2).toInt < 6 ∧ (-4) = (e 0 2).toInt ∧ (d6 0 2).toInt = (e 0 2).toInt + 1) ∨ (((2 ≤ x1.toInt ∧ x1.toInt ≤ 4) ∧ (0 ≤ x2.toInt ∧ x2.toInt ≤ 150)) ∧ ¬ (e 0 2).toInt < 6 ∧ (-4) = -4 ∧ (d6 0 2).toInt = (e 0 2).toInt) ∨ (¬ ((2 ≤ x1.toInt ∧ x1.toInt ≤ 4) ∧ (0 ≤ x2.toInt ∧ x2.toInt ≤ 150)) ∧ (-4) = -2 ∧ (d6 0 2).toInt = (e 0 2).toInt))) from by omega)⟩
    · have h8 : r5.toInt = 0 := (i_eq rfl (rfl : (0 : Int32).toInt = 0)).mp h8
      have q_26 : d6 0 2 = (d 0 2) := by rw [w_11]; rw [w_4]
      have m_27 := iv_0_2 hS.1
      have t_28 : (d6 0 2).toInt = (d 0 2).toInt := (congrArg Int32.toInt q_26).trans rfl
      exact hQ _ _ _ ⟨s_10, (show ((-4) ≤ (-2) ∧ (-2) ≤ 5 ∧ ((((2 ≤ x1.toInt ∧ x1.toInt ≤ 4) ∧ (0 ≤ x2.toInt ∧ x2.toInt ≤ 150)) ∧ (e 0 2).toInt < 6 ∧ (-2) = (e 0 2).toInt ∧ (d6 0 2).toInt = (e 0 2).toInt + 1) ∨ (((2 ≤ x1.toInt ∧ x1.toInt ≤ 4) ∧ (0 ≤ x2.toInt ∧ x2.toInt ≤ 150)) ∧ ¬ (e 0 2).toInt < 6 ∧ (-2) = -4 ∧ (d6 0 2).toInt = (e 0 2).toInt) ∨ (¬ ((2 ≤ x1.toInt ∧ x1.toInt ≤ 4) ∧ (0 ≤ x2.toInt ∧ x2.toInt ≤ 150)) ∧ (-2) = -2 ∧ (d6 0 2).toInt = (e 0 2).toInt))) from by omega)⟩
