set_option maxHeartbeats 4000000 in
set_option maxRecDepth 100000 in
theorem sp_X10_time {n : Nat} (hn : 1000000000 ≤ n) {x1 : Int32} {x2 : Int32} {x3 : Int32} {d : DD} {dl : LL} (hI : Inv d) {Q : Int32 → DD → LL → Prop} (hQ : ∀ (r : Int32) (d2 : DD) (l2 : LL), St d dl d2 l2 ∧ (True) → Q r d2 l2) : F_X10_time n x1 x2 x3 d dl Q := by
  obtain ⟨e, he⟩ : ∃ e : DD, e = d := ⟨_, rfl⟩
  obtain ⟨el, hel⟩ : ∃ el : LL, el = dl := ⟨_, rfl⟩
  have hS : St e el d dl := by rw [he, hel]; exact St.rf hI
  rw [← he, ← hel] at hQ
  show F_X10_isIn n x1 x2 d dl (fun r1 d2 l3 => (¬ r1 = 0 → (x3 < 0 → Q (-2) d2 l3) ∧ (¬ x3 < 0 → (x3 ≤ 99999 → vp_in (((4 : Int32) * x1) + x2) 96 ∧ ((d2 237 (((4 : Int32) * x1) + x2).toNatClampNeg) = 0 → vp_in (((4 : Int32) * x1) + x2) 96 ∧ ∀ v10 : Int32, v10 = (d2 235 (((4 : Int32) * x1) + x2).toNatClampNeg) → vp_in (((4 : Int32) * x1) + x2) 96 ∧ ∀ d12 : DD, d12 = u2 d2 235 (((4 : Int32) * x1) + x2).toNatClampNeg x3 → Q v10 d12 l3) ∧ (¬ (d2 237 (((4 : Int32) * x1) + x2).toNatClampNeg) = 0 → Q (-3) d2 l3)) ∧ (¬ x3 ≤ 99999 → Q (-2) d2 l3))) ∧ (r1 = 0 → Q (-1) d2 l3))
  refine sp_X10_isIn hn hS.1 (fun r1 d2 l3 ⟨p_1, u_2⟩ => ?_)
  have s_3 : St e el d2 l3 := hS.sq p_1
  have w_4 : d2 = d := p_1.2.1
  replace u_2 : (0 ≤ r1.toInt ∧ r1.toInt ≤ 1 ∧ (r1.toInt = 0 ∨ (0 ≤ x1.toInt ∧ x1.toInt < (d 211 3).toInt ∧ 0 ≤ x2.toInt ∧ x2.toInt ≤ 3 ∧ 0 ≤ (d 234 (((4 : Int32) * x1) + x2).toNatClampNeg).toInt))) := u_2
  have m_5 := iv_211_3 hS.1
  refine ⟨fun h4 => ?_, fun h4 => ?_⟩
  · have h4 : ¬ (r1.toInt = 0) := fun q => h4 ((i_eq rfl (rfl : (0 : Int32).toInt = 0)).mpr q)
    refine ⟨fun h5 => ?_, fun h5 => ?_⟩
    · have h5 : x3.toInt < 0 := (i_lt rfl (rfl : (0 : Int32).toInt = 0)).mp h5
      exact hQ _ _ _ ⟨s_3, trivial⟩
    · have h5 : ¬ (x3.toInt < 0) := fun q => h5 ((i_lt rfl (rfl : (0 : Int32).toInt = 0)).mpr q)
      refine ⟨fun h6 => ?_, fun h6 => ?_⟩
      · have h6 : x3.toInt ≤ 99999 := (i_le rfl (rfl : (99999 : Int32).toInt = 99999)).mp h6
        have t_6 : ((4 : Int32) * x1).toInt = 4 * x1.toInt := ti_mul (rfl : (4 : Int32).toInt = 4) rfl (by omega) (by omega)
        have t_7 : (((4 : Int32) * x1) + x2).toInt = (4 * x1.toInt) + x2.toInt := ti_add t_6 rfl (by omega) (by omega)
        have ih7 : vp_in (((4 : Int32) * x1) + x2) 96 := vin t_7 (by omega) (by omega)
        refine ⟨ih7, ?_⟩
        have q_8 : d2 237 (((4 : Int32) * x1) + x2).toNatClampNeg = (d 237 (((4 : Int32) * x1) + x2).toNatClampNeg) := by rw [w_4]
        have m_9 := iv_237 hS.1 ((((4 : Int32) * x1) + x2).toNatClampNeg)
        have t_10 : (d2 237 (((4 : Int32) * x1) + x2).toNatClampNeg).toInt = (d 237 (((4 : Int32) * x1) + x2).toNatClampNeg).toInt := (congrArg Int32.toInt q_8).trans rfl
        refine ⟨fun h8 => ?_, fun h8 => ?_⟩
        · have h8 : (d 237 (((4 : Int32) * x1) + x2).toNatClampNeg).toInt = 0 := (i_eq t_10 (rfl : (0 : Int32).toInt = 0)).mp h8
          have ih9 : vp_in (((4 : Int32) * x1) + x2) 96 := vin t_7 (by omega) (by omega)
          refine ⟨ih9, ?_⟩
          have q_11 : d2 235 (((4 : Int32) * x1) + x2).toNatClampNeg = (d 235 (((4 : Int32) * x1) + x2).toNatClampNeg) := by rw [w_4]
          have t_12 : (d2 235 (((4 : Int32) * x1) + x2).toNatClampNeg).toInt = (d 235 (((4 : Int32) * x1) + x2).toNatClampNeg).toInt := (congrArg Int32.toInt q_11).trans rfl
          intro v10 e10
          have t_13 : v10.toInt = (d 235 (((4 : Int32) * x1) + x2).toNatClampNeg).toInt := (congrArg Int32.toInt e10).trans t_12
          have ih11 : vp_in (((4 : Int32) * x1) + x2) 96 := vin t_7 (by omega) (by omega)
          refine ⟨ih11, ?_⟩
          have q_14 : d2 234 (((4 : Int32) * x1) + x2).toNatClampNeg = (d 234 (((4 : Int32) * x1) + x2).toNatClampNeg) := by rw [w_4]
          have m_15 := iv_234 hS.1 ((((4 : Int32) * x1) + x2).toNatClampNeg)
          have t_16 : (d2 234 (((4 : Int32) * x1) + x2).toNatClampNeg).toInt = (d 234 (((4 : Int32) * x1) + x2).toNatClampNeg).toInt := (congrArg Int32.toInt q_14).trans rfl
          intro d12 ed12
          have s_17 : St e el d12 l3 := by rw [ed12]; exact pv_235 s_3 (Or.inr (by omega))
          exact hQ _ _ _ ⟨s_17, trivial⟩
        · have h8 : ¬ ((d 237 (((4 : Int32) * x1) + x2).toNatClampNeg).toInt = 0) := fun q => h8 ((i_eq t_10 (rfl : (0 : Int32).toInt = 0)).mpr q)
          exact hQ _ _ _ ⟨s_3, trivial⟩
      · have h6 : ¬ (x3.toInt ≤ 99999) := fun q => h6 ((i_le rfl (rfl : (99999 : Int32).toInt = 99999)).mpr q)
        exact hQ _ _ _ ⟨s_3, trivial⟩
  · have h4 : r1.toInt = 0 := (i_eq rfl (rfl : (0 : Int32).toInt = 0)).mp h4
    exact hQ _ _ _ ⟨s_3, trivial⟩
set_option maxHeartbeats 4000000 in
set_option maxRecDepth 100000 in
theorem sb_X10_place_23 {n : Nat} (hn : 1000000000 ≤ n) {e : DD} {el : LL} {Q : Int32 → DD → LL → Prop} (hQ : ∀ (r : Int32) (d2 : DD) (l2 : LL), Sq e el d2 l2 ∧ (True) → Q r d2 l2) : ∀ (j23 : Nat) (x1 : Int32) (x3 : Int32) (x4 : Int32) (x5 : Int32) (d : DD) (dl : LL), Sq e el d dl → (0 ≤ x1.toInt ∧ x1.toInt ≤ 23) → (0 ≤ x5.toInt ∧ x5.toInt ≤ 4) → 5 - x5.toInt < (j23 : Int) → b_X10_place_23 n Q j23 x1 x3 x4 x5 d dl := by
  intro j23
  induction j23 with
  | zero =>
    intro x1 x3 x4 x5 d dl hS bx1 bx5 hm23
    exfalso
    omega
  | succ j23 hK23 =>
    intro x1 x3 x4 x5 d dl hS bx1 bx5 hm23
    show (4 ≤ x5 → Q x4 d dl) ∧ (¬ 4 ≤ x5 → vp_in (((4 : Int32) * x1) + x5) 96 ∧ ((d 235 (((4 : Int32) * x1) + x5).toNatClampNeg) ≤ 0 → (b_X10_place_23 n Q j23) x1 x3 x4 (x5 + 1) d dl) ∧ (¬ (d 235 (((4 : Int32) * x1) + x5).toNatClampNeg) ≤ 0 → vp_in (((4 : Int32) * x1) + x5) 96 ∧ (x3 ≤ (d 235 (((4 : Int32) * x1) + x5).toNatClampNeg) → (b_X10_place_23 n Q j23) x1 x3 x4 (x5 + 1) d dl) ∧ (¬ x3 ≤ (d 235 (((4 : Int32) * x1) + x5).toNatClampNeg) → (b_X10_place_23 n Q j23) x1 x3 (x4 + 1) (x5 + 1) d dl)))
    refine ⟨fun h4 => ?_, fun h4 => ?_⟩
    · have h4 : 4 ≤ x5.toInt := (i_le (rfl : (4 : Int32).toInt = 4) rfl).mp h4
      exact hQ _ _ _ ⟨hS, trivial⟩
    · have h4 : ¬ (4 ≤ x5.toInt) := fun q => h4 ((i_le (rfl : (4 : Int32).toInt = 4) rfl).mpr q)
      have t_1 : ((4 : Int32) * x1).toInt = 4 * x1.toInt := ti_mul (rfl : (4 : Int32).toInt = 4) rfl (by omega) (by omega)
      have t_2 : (((4 : Int32) * x1) + x5).toInt = (4 * x1.toInt) + x5.toInt := ti_add t_1 rfl (by omega) (by omega)
      have ih5 : vp_in (((4 : Int32) * x1) + x5) 96 := vin t_2 (by omega) (by omega)
      refine ⟨ih5, ?_⟩
      refine ⟨fun h6 => ?_, fun h6 => ?_⟩
      · have h6 : (d 235 (((4 : Int32) * x1) + x5).toNatClampNeg).toInt ≤ 0 := (i_le rfl (rfl : (0 : Int32).toInt = 0)).mp h6
        have t_3 : (x5 + 1).toInt = x5.toInt + 1 := ti_add rfl (rfl : (1 : Int32).toInt = 1) (by omega) (by omega)
        exact hK23 _ _ _ _ _ _ hS (by omega) (by omega) (by omega)
      · have h6 : ¬ ((d 235 (((4 : Int32) * x1) + x5).toNatClampNeg).toInt ≤ 0) := fun q => h6 ((i_le rfl (rfl : (0 : Int32).toInt = 0)).mpr q)
        have ih7 : vp_in (((4 : Int32) * x1) + x5) 96 := vin t_2 (by omega) (by omega)
        refine ⟨ih7, ?_⟩
        refine ⟨fun h8 => ?_, fun h8 => ?_⟩
        · have h8 : x3.toInt ≤ (d 235 (((4 : Int32) * x1) + x5).toNatClampNeg).toInt := (i_le rfl rfl).mp h8
          have t_4 : (x5 + 1).toInt = x5.toInt + 1 := ti_add rfl (rfl : (1 : Int32).toInt = 1) (by omega) (by omega)
          exact hK23 _ _ _ _ _ _ hS (by omega) (by omega) (by omega)
        · have h8 : ¬ (x3.toInt ≤ (d 235 (((4 : Int32) * x1) + x5).toNatClampNeg).toInt) := fun q => h8 ((i_le rfl rfl).mpr q)
          have t_5 : (x5 + 1).toInt = x5.toInt + 1 := ti_add rfl (rfl : (1 : Int32).toInt = 1) (by omega) (by omega)
          exact hK23 _ _ _ _ _ _ hS (by omega) (by omega) (by omega)
set_option maxHeartbeats 4000000 in
set_option maxRecDepth 100000 in
theorem sp_X10_place {n : Nat} (hn : 1000000000 ≤ n) {x1 : Int32} {x2 : Int32} {d : DD} {dl : LL} (hI : Inv d) (bx1 : 0 ≤ x1.toInt ∧ x1.toInt ≤ 23) (bx2 : 0 ≤ x2.toInt ∧ x2.toInt ≤ 3) {Q : Int32 → DD → LL → Prop} (hQ : ∀ (r : Int32) (d2 : DD) (l2 : LL), Sq d dl d2 l2 ∧ (True) → Q r d2 l2) : F_X10_place n x1 x2 d dl Q := by
  obtain ⟨e, he⟩ : ∃ e : DD, e = d := ⟨_, rfl⟩
  obtain ⟨el, hel⟩ : ∃ el : LL, el = dl := ⟨_, rfl⟩
  have hS : Sq e el d dl := by rw [he, hel]; exact Sq.rf hI
  rw [← he, ← hel] at hQ
  show vp_in (((4 : Int32) * x1) + x2) 96 ∧ ∀ v2 : Int32, v2 = (d 235 (((4 : Int32) * x1) + x2).toNatClampNeg) → (¬ v2 = 0 → b_X10_place_23 n Q n x1 v2 1 0 d dl) ∧ (v2 = 0 → Q 0 d dl)
  have t_6 : ((4 : Int32) * x1).toInt = 4 * x1.toInt := ti_mul (rfl : (4 : Int32).toInt = 4) rfl (by omega) (by omega)
  have t_7 : (((4 : Int32) * x1) + x2).toInt = (4 * x1.toInt) + x2.toInt := ti_add t_6 rfl (by omega) (by omega)
  have ih1 : vp_in (((4 : Int32) * x1) + x2) 96 := vin t_7 (by omega) (by omega)
  refine ⟨ih1, ?_⟩
  intro v2 e2
  have t_8 : v2.toInt = (d 235 (((4 : Int32) * x1) + x2).toNatClampNeg).toInt := (congrArg Int32.toInt e2).trans rfl
  refine ⟨fun h3 => ?_, fun h3 => ?_⟩
  · have h3 : ¬ ((d 235 (((4 : Int32) * x1) + x2).toNatClampNeg).toInt = 0) := fun q => h3 ((i_eq t_8 (rfl : (0 : Int32).toInt = 0)).mpr q)
    exact sb_X10_place_23 hn hQ n _ _ _ _ _ _ hS (by omega) (show 0 ≤ 0 ∧ 0 ≤ 4 from by omega) (show 5 - 0 < (n : Int) from by omega)
  · have h3 : (d 235 (((4 : Int32) * x1) + x2).toNatClampNeg).toInt = 0 := (i_eq t_8 (rfl : (0 : Int32).toInt = 0)).mp h3
    exact hQ _ _ _ ⟨hS, trivial⟩
set_option maxHeartbeats 4000000 in
set_option maxRecDepth 100000 in
theorem sp_X10_told {n : Nat} (hn : 1000000000 ≤ n) {x1 : Int32} {x2 : Int32} {x3 : Int32} {d : DD} {dl : LL} (hI : Inv d) {Q : Int32 → DD → LL → Prop} (hQ : ∀ (r : Int32) (d2 : DD) (l2 : LL), Sq d dl d2 l2 ∧ (True) → Q r d2 l2) : F_X10_told n x1 x2 x3 d dl Q := by
  obtain ⟨e, he⟩ : ∃ e : DD, e = d := ⟨_, rfl⟩
  obtain ⟨el, hel⟩ : ∃ el : LL, el = dl := ⟨_, rfl⟩
  have hS : Sq e el d dl := by rw [he, hel]; exact Sq.rf hI
  rw [← he, ← hel] at hQ
  show F_X10_isIn n x1 x2 d dl (fun r1 d2 l3 => (¬ r1 = 0 → (x3 = 0 → vp_in (((4 : Int32) * x1) + x2) 96 ∧ Q (d2 234 (((4 : Int32) * x1) + x2).toNatClampNeg) d2 l3) ∧ (x3 = 1 → vp_in (((4 : Int32) * x1) + x2) 96 ∧ Q (d2 235 (((4 : Int32) * x1) + x2).toNatClampNeg) d2 l3) ∧ (x3 = 2 → F_X10_place n x1 x2 d2 l3 (fun r7 d8 l9 => Q r7 d8 l9)) ∧ (x3 = 3 → vp_in (((4 : Int32) * x1) + x2) 96 ∧ Q (d2 236 (((4 : Int32) * x1) + x2).toNatClampNeg) d2 l3) ∧ (x3.toInt < 0 ∨ 3 < x3.toInt → Q (-1) d2 l3)) ∧ (r1 = 0 → Q (-1) d2 l3))
  refine sp_X10_isIn hn hS.1 (fun r1 d2 l3 ⟨p_1, u_2⟩ => ?_)
  have s_3 : Sq e el d2 l3 := hS.tr p_1
  have w_4 : d2 = d := p_1.2.1
  replace u_2 : (0 ≤ r1.toInt ∧ r1.toInt ≤ 1 ∧ (r1.toInt = 0 ∨ (0 ≤ x1.toInt ∧ x1.toInt < (d 211 3).toInt ∧ 0 ≤ x2.toInt ∧ x2.toInt ≤ 3 ∧ 0 ≤ (d 234 (((4 : Int32) * x1) + x2).toNatClampNeg).toInt))) := u_2
  have m_5 := iv_211_3 hS.1
  refine ⟨fun h4 => ?_, fun h4 => ?_⟩
  · have h4 : ¬ (r1.toInt = 0) := fun q => h4 ((i_eq rfl (rfl : (0 : Int32).toInt = 0)).mpr q)
    refine ⟨fun h11 => ?_, fun h11 => ?_, fun h11 => ?_, fun h11 => ?_, fun h11 => ?_⟩
    · have h11 : x3.toInt = 0 := (i_eq rfl (rfl : (0 : Int32).toInt = 0)).mp h11
      have t_6 : ((4 : Int32) * x1).toInt = 4 * x1.toInt := ti_mul (rfl : (4 : Int32).toInt = 4) rfl (by omega) (by omega)
      have t_7 : (((4 : Int32) * x1) + x2).toInt = (4 * x1.toInt) + x2.toInt := ti_add t_6 rfl (by omega) (by omega)
      have ih5 : vp_in (((4 : Int32) * x1) + x2) 96 := vin t_7 (by omega) (by omega)
      refine ⟨ih5, ?_⟩
      have q_8 : d2 234 (((4 : Int32) * x1) + x2).toNatClampNeg = (d 234 (((4 : Int32) * x1) + x2).toNatClampNeg) := by rw [w_4]
      have m_9 := iv_234 hS.1 ((((4 : Int32) * x1) + x2).toNatClampNeg)
      have t_10 : (d2 234 (((4 : Int32) * x1) + x2).toNatClampNeg).toInt = (d 234 (((4 : Int32) * x1) + x2).toNatClampNeg).toInt := (congrArg Int32.toInt q_8).trans rfl
      exact hQ _ _ _ ⟨s_3, trivial⟩
    · have h11 : x3.toInt = 1 := (i_eq rfl (rfl : (1 : Int32).toInt = 1)).mp h11
      have t_11 : ((4 : Int32) * x1).toInt = 4 * x1.toInt := ti_mul (rfl : (4 : Int32).toInt = 4) rfl (by omega) (by omega)
      have t_12 : (((4 : Int32) * x1) + x2).toInt = (4 * x1.toInt) + x2.toInt := ti_add t_11 rfl (by omega) (by omega)
      have ih6 : vp_in (((4 : Int32) * x1) + x2) 96 := vin t_12 (by omega) (by omega)
      refine ⟨ih6, ?_⟩
      have q_13 : d2 235 (((4 : Int32) * x1) + x2).toNatClampNeg = (d 235 (((4 : Int32) * x1) + x2).toNatClampNeg) := by rw [w_4]
      have t_14 : (d2 235 (((4 : Int32) * x1) + x2).toNatClampNeg).toInt = (d 235 (((4 : Int32) * x1) + x2).toNatClampNeg).toInt := (congrArg Int32.toInt q_13).trans rfl
      exact hQ _ _ _ ⟨s_3, trivial⟩
    · have h11 : x3.toInt = 2 := (i_eq rfl (rfl : (2 : Int32).toInt = 2)).mp h11
      refine sp_X10_place hn s_3.1 ⟨by omega, by omega⟩ ⟨by omega, by omega⟩ (fun r7 d8 l9 ⟨p_15, u_16⟩ => ?_)
      have s_17 : Sq e el d8 l9 := s_3.tr p_15
      have w_18 : d8 = d2 := p_15.2.1
      exact hQ _ _ _ ⟨s_17, trivial⟩
    · have h11 : x3.toInt = 3 := (i_eq rfl (rfl : (3 : Int32).toInt = 3)).mp h11
      have t_19 : ((4 : Int32) * x1).toInt = 4 * x1.toInt := ti_mul (rfl : (4 : Int32).toInt = 4) rfl (by omega) (by omega)
      have t_20 : (((4 : Int32) * x1) + x2).toInt = (4 * x1.toInt) + x2.toInt := ti_add t_19 rfl (by omega) (by omega)
      have ih10 : vp_in (((4 : Int32) * x1) + x2) 96 := vin t_20 (by omega) (by omega)
      refine ⟨ih10, ?_⟩
      have q_21 : d2 236 (((4 : Int32) * x1) + x2).toNatClampNeg = (d 236 (((4 : Int32) * x1) + x2).toNatClampNeg) := by rw [w_4]
      have t_22 : (d2 236 (((4 : Int32) * x1) + x2).toNatClampNeg).toInt = (d 236 (((4 : Int32) * x1) + x2).toNatClampNeg).toInt := (congrArg Int32.toInt q_21).trans rfl
      exact hQ _ _ _ ⟨s_3, trivial⟩
    · have _ := hn
      exact hQ _ _ _ ⟨s_3, trivial⟩
  · have h4 : r1.toInt = 0 := (i_eq rfl (rfl : (0 : Int32).toInt = 0)).mp h4
    exact hQ _ _ _ ⟨s_3, trivial⟩
set_option maxHeartbeats 4000000 in
set_option maxRecDepth 100000 in
theorem sb_X10_again_35 {n : Nat} (hn : 1000000000 ≤ n) {e : DD} {el : LL} {Q : Int32 → DD → LL → Prop} (hQ : ∀ (r : Int32) (d2 : DD) (l2 : LL), St e el d2 l2 ∧ (True) → Q r d2 l2) {K14 : Int32 → Int32 → Int32 → DD → LL → Prop} {j14 : Nat} (hK14 : ∀ (x1 : Int32) (x2 : Int32) (x3 : Int32) (d : DD) (dl : LL), St e el d dl → (0 ≤ x1.toInt ∧ x1.toInt ≤ 23) → (0 ≤ x3.toInt ∧ x3.toInt ≤ 4) → 5 - x3.toInt < (j14 : Int) → K14 x1 x2 x3 d dl) : ∀ (x1 : Int32) (x2 : Int32) (x3 : Int32) (d : DD) (dl : LL), St e el d dl → (0 ≤ x1.toInt ∧ x1.toInt ≤ 23) → (0 ≤ x3.toInt ∧ x3.toInt ≤ 3) → 5 - x3.toInt ≤ (j14 : Int) → b_X10_again_35 n Q K14 x1 x2 x3 d dl := by
  intro x1 x2 x3 d dl hS bx1 bx3 hm14
  show vp_in (((4 : Int32) * x1) + x3) 96 ∧ ∀ d11 : DD, d11 = u2 d 235 (((4 : Int32) * x1) + x3).toNatClampNeg 0 → vp_in (((4 : Int32) * x1) + x3) 96 ∧ ∀ d13 : DD, d13 = u2 d11 236 (((4 : Int32) * x1) + x3).toNatClampNeg 0 → K14 x1 x2 (x3 + 1) d13 dl
  have t_1 : ((4 : Int32) * x1).toInt = 4 * x1.toInt := ti_mul (rfl : (4 : Int32).toInt = 4) rfl (by omega) (by omega)
  have t_2 : (((4 : Int32) * x1) + x3).toInt = (4 * x1.toInt) + x3.toInt := ti_add t_1 rfl (by omega) (by omega)
  have ih10 : vp_in (((4 : Int32) * x1) + x3) 96 := vin t_2 (by omega) (by omega)
  refine ⟨ih10, ?_⟩
  intro d11 ed11
  have s_3 : St e el d11 dl := by rw [ed11]; exact pv_235 hS (Or.inl rfl)
  have ih12 : vp_in (((4 : Int32) * x1) + x3) 96 := vin t_2 (by omega) (by omega)
  refine ⟨ih12, ?_⟩
  intro d13 ed13
  have s_4 : St e el d13 dl := by rw [ed13]; exact pv_236 s_3
  have t_5 : (x3 + 1).toInt = x3.toInt + 1 := ti_add rfl (rfl : (1 : Int32).toInt = 1) (by omega) (by omega)
  exact hK14 _ _ _ _ _ s_4 (by omega) (by omega) (by omega)
set_option maxHeartbeats 4000000 in
set_option maxRecDepth 100000 in
theorem sb_X10_again_14 {n : Nat} (hn : 1000000000 ≤ n) {e : DD} {el : LL} {Q : Int32 → DD → LL → Prop} (hQ : ∀ (r : Int32) (d2 : DD) (l2 : LL), St e el d2 l2 ∧ (True) → Q r d2 l2) : ∀ (j14 : Nat) (x1 : Int32) (x2 : Int32) (x3 : Int32) (d : DD) (dl : LL), St e el d dl → (0 ≤ x1.toInt ∧ x1.toInt ≤ 23) → (0 ≤ x3.toInt ∧ x3.toInt ≤ 4) → 5 - x3.toInt < (j14 : Int) → b_X10_again_14 n Q j14 x1 x2 x3 d dl := by
  intro j14
  induction j14 with
  | zero =>
    intro x1 x2 x3 d dl hS bx1 bx3 hm14
    exfalso
    omega
  | succ j14 hK14 =>
    intro x1 x2 x3 d dl hS bx1 bx3 hm14
    show (4 ≤ x3 → vp_in x1 24 ∧ ∀ d7 : DD, d7 = u2 d 238 x1.toNatClampNeg (vp_nar .boolean 0) → Q x2 d7 dl) ∧ (¬ 4 ≤ x3 → vp_in (((4 : Int32) * x1) + x3) 96 ∧ ((d 235 (((4 : Int32) * x1) + x3).toNatClampNeg) ≤ 0 → b_X10_again_35 n Q (b_X10_again_14 n Q j14) x1 x2 x3 d dl) ∧ (¬ (d 235 (((4 : Int32) * x1) + x3).toNatClampNeg) ≤ 0 → b_X10_again_35 n Q (b_X10_again_14 n Q j14) x1 (x2 + 1) x3 d dl))
    refine ⟨fun h5 => ?_, fun h5 => ?_⟩
    · have h5 : 4 ≤ x3.toInt := (i_le (rfl : (4 : Int32).toInt = 4) rfl).mp h5
      have ih6 : vp_in x1 24 := vin rfl (by omega) (by omega)
      refine ⟨ih6, ?_⟩
      intro d7 ed7
      have s_6 : St e el d7 dl := by rw [ed7]; exact pv_238 hS (vn_in _).1 (vn_in _).2
      exact hQ _ _ _ ⟨s_6, trivial⟩
    · have h5 : ¬ (4 ≤ x3.toInt) := fun q => h5 ((i_le (rfl : (4 : Int32).toInt = 4) rfl).mpr q)
      have t_7 : ((4 : Int32) * x1).toInt = 4 * x1.toInt := ti_mul (rfl : (4 : Int32).toInt = 4) rfl (by omega) (by omega)
      have t_8 : (((4 : Int32) * x1) + x3).toInt = (4 * x1.toInt) + x3.toInt := ti_add t_7 rfl (by omega) (by omega)
      have ih8 : vp_in (((4 : Int32) * x1) + x3) 96 := vin t_8 (by omega) (by omega)
      refine ⟨ih8, ?_⟩
      refine ⟨fun h9 => ?_, fun h9 => ?_⟩
      · have h9 : (d 235 (((4 : Int32) * x1) + x3).toNatClampNeg).toInt ≤ 0 := (i_le rfl (rfl : (0 : Int32).toInt = 0)).mp h9
        exact sb_X10_again_35 hn hQ hK14 _ _ _ _ _ hS (by omega) (by omega) (by omega)
      · have h9 : ¬ ((d 235 (((4 : Int32) * x1) + x3).toNatClampNeg).toInt ≤ 0) := fun q => h9 ((i_le rfl (rfl : (0 : Int32).toInt = 0)).mpr q)
        exact sb_X10_again_35 hn hQ hK14 _ _ _ _ _ hS (by omega) (by omega) (by omega)
set_option maxHeartbeats 4000000 in
set_option maxRecDepth 100000 in
theorem sp_X10_again {n : Nat} (hn : 1000000000 ≤ n) {x1 : Int32} {d : DD} {dl : LL} (hI : Inv d) {Q : Int32 → DD → LL → Prop} (hQ : ∀ (r : Int32) (d2 : DD) (l2 : LL), St d dl d2 l2 ∧ (True) → Q r d2 l2) : F_X10_again n x1 d dl Q := by
  obtain ⟨e, he⟩ : ∃ e : DD, e = d := ⟨_, rfl⟩
  obtain ⟨el, hel⟩ : ∃ el : LL, el = dl := ⟨_, rfl⟩
  have hS : St e el d dl := by rw [he, hel]; exact St.rf hI
  rw [← he, ← hel] at hQ
  show F_X10_isRace n x1 d dl (fun r1 d2 l3 => (¬ r1 = 0 → b_X10_again_14 n Q n x1 0 0 d2 l3) ∧ (r1 = 0 → Q (-1) d2 l3))
  refine sp_X10_isRace hn hS.1 (fun r1 d2 l3 ⟨p_9, u_10⟩ => ?_)
  have s_11 : St e el d2 l3 := hS.sq p_9
  have w_12 : d2 = d := p_9.2.1
  replace u_10 : (0 ≤ r1.toInt ∧ r1.toInt ≤ 1 ∧ ((r1.toInt = 1 ∧ 0 ≤ x1.toInt ∧ x1.toInt < (d 211 3).toInt) ∨ (r1.toInt = 0 ∧ ¬ (0 ≤ x1.toInt ∧ x1.toInt < (d 211 3).toInt)))) := u_10
  have m_13 := iv_211_3 hS.1
  refine ⟨fun h4 => ?_, fun h4 => ?_⟩
  · have h4 : ¬ (r1.toInt = 0) := fun q => h4 ((i_eq rfl (rfl : (0 : Int32).toInt = 0)).mpr q)
    exact sb_X10_again_14 hn hQ n _ _ _ _ _ s_11 (by omega) (show 0 ≤ 0 ∧ 0 ≤ 4 from by omega) (show 5 - 0 < (n : Int) from by omega)
  · have h4 : r1.toInt = 0 := (i_eq rfl (rfl : (0 : Int32).toInt = 0)).mp h4
    exact hQ _ _ _ ⟨s_11, trivial⟩
set_option maxHeartbeats 4000000 in
set_option maxRecDepth 100000 in
theorem sb_X10_strike_12 {n : Nat} (hn : 1000000000 ≤ n) {e : DD} {el : LL} {Q : Int32 → DD → LL → Prop} (hQ : ∀ (r : Int32) (d2 : DD) (l2 : LL), St e el d2 l2 ∧ (True) → Q r d2 l2) : ∀ (j12 : Nat) (x1 : Int32) (x2 : Int32) (x3 : Int32) (d : DD) (dl : LL), St e el d dl → (0 ≤ x1.toInt ∧ x1.toInt ≤ 23) → (0 ≤ x3.toInt ∧ x3.toInt ≤ 4) → 5 - x3.toInt < (j12 : Int) → b_X10_strike_12 n Q j12 x1 x2 x3 d dl := by
  intro j12
  induction j12 with
  | zero =>
    intro x1 x2 x3 d dl hS bx1 bx3 hm12
    exfalso
    omega
  | succ j12 hK12 =>
    intro x1 x2 x3 d dl hS bx1 bx3 hm12
    show (4 ≤ x3 → Q (-1) d dl) ∧ (¬ 4 ≤ x3 → vp_in (((4 : Int32) * x1) + x3) 96 ∧ (¬ (d 234 (((4 : Int32) * x1) + x3).toNatClampNeg) = x2 → (b_X10_strike_12 n Q j12) x1 x2 (x3 + 1) d dl) ∧ ((d 234 (((4 : Int32) * x1) + x3).toNatClampNeg) = x2 → (0 ≤ x2 → vp_in (((4 : Int32) * x1) + x3) 96 ∧ ((d 237 (((4 : Int32) * x1) + x3).toNatClampNeg) = 0 → F_X10_place n x1 x3 d dl (fun r11 d12 l13 => vp_in (((4 : Int32) * x1) + x3) 96 ∧ ∀ d15 : DD, d15 = u2 d12 237 (((4 : Int32) * x1) + x3).toNatClampNeg (vp_nar .boolean 1) → vp_in (((4 : Int32) * x1) + x3) 96 ∧ ∀ d17 : DD, d17 = u2 d15 235 (((4 : Int32) * x1) + x3).toNatClampNeg 0 → Q r11 d17 l13)) ∧ (¬ (d 237 (((4 : Int32) * x1) + x3).toNatClampNeg) = 0 → Q (-3) d dl)) ∧ (¬ 0 ≤ x2 → (b_X10_strike_12 n Q j12) x1 x2 (x3 + 1) d dl)))
    refine ⟨fun h5 => ?_, fun h5 => ?_⟩
    · have h5 : 4 ≤ x3.toInt := (i_le (rfl : (4 : Int32).toInt = 4) rfl).mp h5
      exact hQ _ _ _ ⟨hS, trivial⟩
    · have h5 : ¬ (4 ≤ x3.toInt) := fun q => h5 ((i_le (rfl : (4 : Int32).toInt = 4) rfl).mpr q)
      have t_1 : ((4 : Int32) * x1).toInt = 4 * x1.toInt := ti_mul (rfl : (4 : Int32).toInt = 4) rfl (by omega) (by omega)
      have t_2 : (((4 : Int32) * x1) + x3).toInt = (4 * x1.toInt) + x3.toInt := ti_add t_1 rfl (by omega) (by omega)
      have ih6 : vp_in (((4 : Int32) * x1) + x3) 96 := vin t_2 (by omega) (by omega)
      refine ⟨ih6, ?_⟩
      have m_3 := iv_234 hS.1 ((((4 : Int32) * x1) + x3).toNatClampNeg)
      refine ⟨fun h7 => ?_, fun h7 => ?_⟩
      · have h7 : ¬ ((d 234 (((4 : Int32) * x1) + x3).toNatClampNeg).toInt = x2.toInt) := fun q => h7 ((i_eq rfl rfl).mpr q)
        have t_4 : (x3 + 1).toInt = x3.toInt + 1 := ti_add rfl (rfl : (1 : Int32).toInt = 1) (by omega) (by omega)
        exact hK12 _ _ _ _ _ hS (by omega) (by omega) (by omega)
      · have h7 : (d 234 (((4 : Int32) * x1) + x3).toNatClampNeg).toInt = x2.toInt := (i_eq rfl rfl).mp h7
        refine ⟨fun h8 => ?_, fun h8 => ?_⟩
        · have h8 : 0 ≤ x2.toInt := (i_le (rfl : (0 : Int32).toInt = 0) rfl).mp h8
          have ih9 : vp_in (((4 : Int32) * x1) + x3) 96 := vin t_2 (by omega) (by omega)
          refine ⟨ih9, ?_⟩
          have m_5 := iv_237 hS.1 ((((4 : Int32) * x1) + x3).toNatClampNeg)
          refine ⟨fun h10 => ?_, fun h10 => ?_⟩
          · have h10 : (d 237 (((4 : Int32) * x1) + x3).toNatClampNeg).toInt = 0 := (i_eq rfl (rfl : (0 : Int32).toInt = 0)).mp h10
            refine sp_X10_place hn hS.1 ⟨by omega, by omega⟩ ⟨by omega, by omega⟩ (fun r11 d12 l13 ⟨p_6, u_7⟩ => ?_)
            have s_8 : St e el d12 l13 := hS.sq p_6
            have w_9 : d12 = d := p_6.2.1
            have ih14 : vp_in (((4 : Int32) * x1) + x3) 96 := vin t_2 (by omega) (by omega)
            refine ⟨ih14, ?_⟩
            intro d15 ed15
            have s_10 : St e el d15 l13 := by rw [ed15]; exact pv_237 s_8 (vn_in _).1 (vn_in _).2
            have ih16 : vp_in (((4 : Int32) * x1) + x3) 96 := vin t_2 (by omega) (by omega)
            refine ⟨ih16, ?_⟩
            intro d17 ed17
            have s_11 : St e el d17 l13 := by rw [ed17]; exact pv_235 s_10 (Or.inl rfl)
            exact hQ _ _ _ ⟨s_11, trivial⟩
          · have h10 : ¬ ((d 237 (((4 : Int32) * x1) + x3).toNatClampNeg).toInt = 0) := fun q => h10 ((i_eq rfl (rfl : (0 : Int32).toInt = 0)).mpr q)
            exact hQ _ _ _ ⟨hS, trivial⟩
        · have h8 : ¬ (0 ≤ x2.toInt) := fun q => h8 ((i_le (rfl : (0 : Int32).toInt = 0) rfl).mpr q)
          have t_12 : (x3 + 1).toInt = x3.toInt + 1 := ti_add rfl (rfl : (1 : Int32).toInt = 1) (by omega) (by omega)
          exact hK12 _ _ _ _ _ hS (by omega) (by omega) (by omega)
set_option maxHeartbeats 4000000 in
set_option maxRecDepth 100000 in
theorem sp_X10_strike {n : Nat} (hn : 1000000000 ≤ n) {x1 : Int32} {x2 : Int32} {d : DD} {dl : LL} (hI : Inv d) {Q : Int32 → DD → LL → Prop} (hQ : ∀ (r : Int32) (d2 : DD) (l2 : LL), St d dl d2 l2 ∧ (True) → Q r d2 l2) : F_X10_strike n x1 x2 d dl Q := by
  obtain ⟨e, he⟩ : ∃ e : DD, e = d := ⟨_, rfl⟩
  obtain ⟨el, hel⟩ : ∃ el : LL, el = dl := ⟨_, rfl⟩
  have hS : St e el d dl := by rw [he, hel]; exact St.rf hI
  rw [← he, ← hel] at hQ
  show F_X10_isRace n x1 d dl (fun r1 d2 l3 => (¬ r1 = 0 → b_X10_strike_12 n Q n x1 x2 0 d2 l3) ∧ (r1 = 0 → Q (-1) d2 l3))
  refine sp_X10_isRace hn hS.1 (fun r1 d2 l3 ⟨p_13, u_14⟩ => ?_)
  have s_15 : St e el d2 l3 := hS.sq p_13
  have w_16 : d2 = d := p_13.2.1
  replace u_14 : (0 ≤ r1.toInt ∧ r1.toInt ≤ 1 ∧ ((r1.toInt = 1 ∧ 0 ≤ x1.toInt ∧ x1.toInt < (d 211 3).toInt) ∨ (r1.toInt = 0 ∧ ¬ (0 ≤ x1.toInt ∧ x1.toInt < (d 211 3).toInt)))) := u_14
  have m_17 := iv_211_3 hS.1
  refine ⟨fun h4 => ?_, fun h4 => ?_⟩
  · have h4 : ¬ (r1.toInt = 0) := fun q => h4 ((i_eq rfl (rfl : (0 : Int32).toInt = 0)).mpr q)
    exact sb_X10_strike_12 hn hQ n _ _ _ _ _ s_15 (by omega) (show 0 ≤ 0 ∧ 0 ≤ 4 from by omega) (show 5 - 0 < (n : Int) from by omega)
  · have h4 : r1.toInt = 0 := (i_eq rfl (rfl : (0 : Int32).toInt = 0)).mp h4
    exact hQ _ _ _ ⟨s_15, trivial⟩
set_option maxHeartbeats 4000000 in
set_option maxRecDepth 100000 in
theorem sp_X10_finalist {n : Nat} (hn : 1000000000 ≤ n) {x1 : Int32} {d : DD} {dl : LL} (hI : Inv d) {Q : Int32 → DD → LL → Prop} (hQ : ∀ (r : Int32) (d2 : DD) (l2 : LL), Sq d dl d2 l2 ∧ ((-1) ≤ r.toInt ∧ r.toInt ≤ 5) → Q r d2 l2) : F_X10_finalist n x1 d dl Q := by
  obtain ⟨e, he⟩ : ∃ e : DD, e = d := ⟨_, rfl⟩
  obtain ⟨el, hel⟩ : ∃ el : LL, el = dl := ⟨_, rfl⟩
  have hS : Sq e el d dl := by rw [he, hel]; exact Sq.rf hI
  rw [← he, ← hel] at hQ
  show (x1 < 0 → Q (-1) d dl) ∧ (¬ x1 < 0 → ((d 211 7) ≤ x1 → Q (-1) d dl) ∧ (¬ (d 211 7) ≤ x1 → vp_in x1 6 ∧ Q (d 241 x1.toNatClampNeg) d dl))
  refine ⟨fun h1 => ?_, fun h1 => ?_⟩
  · have h1 : x1.toInt < 0 := (i_lt rfl (rfl : (0 : Int32).toInt = 0)).mp h1
    exact hQ _ _ _ ⟨hS, (show ((-1) ≤ (-1) ∧ (-1) ≤ 5) from by omega)⟩
  · have h1 : ¬ (x1.toInt < 0) := fun q => h1 ((i_lt rfl (rfl : (0 : Int32).toInt = 0)).mpr q)
    have m_1 := iv_211_7 hS.1
    refine ⟨fun h2 => ?_, fun h2 => ?_⟩
    · have h2 : (d 211 7).toInt ≤ x1.toInt := (i_le rfl rfl).mp h2
      exact hQ _ _ _ ⟨hS, (show ((-1) ≤ (-1) ∧ (-1) ≤ 5) from by omega)⟩
    · have h2 : ¬ ((d 211 7).toInt ≤ x1.toInt) := fun q => h2 ((i_le rfl rfl).mpr q)
      have ih3 : vp_in x1 6 := vin rfl (by omega) (by omega)
      refine ⟨ih3, ?_⟩
      have m_2 := iv_241 hS.1 (x1.toNatClampNeg)
      exact hQ _ _ _ ⟨hS, by omega⟩
set_option maxHeartbeats 4000000 in
set_option maxRecDepth 100000 in
theorem sb_X10_slack_128 {n : Nat} (hn : 1000000000 ≤ n) {e : DD} {el : LL} {Q : Int32 → DD → LL → Prop} (hQ : ∀ (r : Int32) (d2 : DD) (l2 : LL), Sq e el d2 l2 ∧ (True) → Q r d2 l2) {K4 : Int32 → Int32 → DD → LL → Prop} {j4 : Nat} (hK4 : ∀ (x1 : Int32) (x2 : Int32) (d : DD) (dl : LL), Sq e el d dl → (0 ≤ x2.toInt ∧ x2.toInt ≤ 24) → 25 - x2.toInt < (j4 : Int) → K4 x1 x2 d dl) {K14 : Int32 → Int32 → Int32 → DD → LL → Prop} {j14 : Nat} (hK14 : ∀ (x1 : Int32) (x2 : Int32) (x3 : Int32) (d : DD) (dl : LL), Sq e el d dl → (0 ≤ x2.toInt ∧ x2.toInt ≤ 23) → (0 ≤ x3.toInt ∧ x3.toInt ≤ 24) → 25 - x2.toInt ≤ (j4 : Int) → 25 - x3.toInt < (j14 : Int) → K14 x1 x2 x3 d dl) : ∀ (x2 : Int32) (x3 : Int32) (x5 : Int32) (d : DD) (dl : LL), Sq e el d dl → (0 ≤ x2.toInt ∧ x2.toInt ≤ 23) → (0 ≤ x3.toInt ∧ x3.toInt ≤ 23) → 25 - x2.toInt ≤ (j4 : Int) → 25 - x3.toInt ≤ (j14 : Int) → b_X10_slack_128 n Q K4 K14 x2 x3 x5 d dl := by
  intro x2 x3 x5 d dl hS bx2 bx3 hm4 hm14
  show K14 x5 x2 (x3 + 1) d dl
  have t_1 : (x3 + 1).toInt = x3.toInt + 1 := ti_add rfl (rfl : (1 : Int32).toInt = 1) (by omega) (by omega)
  exact hK14 _ _ _ _ _ hS (by omega) (by omega) (by omega) (by omega)
set_option maxHeartbeats 4000000 in
set_option maxRecDepth 100000 in
theorem sb_X10_slack_25 {n : Nat} (hn : 1000000000 ≤ n) {e : DD} {el : LL} {Q : Int32 → DD → LL → Prop} (hQ : ∀ (r : Int32) (d2 : DD) (l2 : LL), Sq e el d2 l2 ∧ (True) → Q r d2 l2) {K4 : Int32 → Int32 → DD → LL → Prop} {j4 : Nat} (hK4 : ∀ (x1 : Int32) (x2 : Int32) (d : DD) (dl : LL), Sq e el d dl → (0 ≤ x2.toInt ∧ x2.toInt ≤ 24) → 25 - x2.toInt < (j4 : Int) → K4 x1 x2 d dl) {K14 : Int32 → Int32 → Int32 → DD → LL → Prop} {j14 : Nat} (hK14 : ∀ (x1 : Int32) (x2 : Int32) (x3 : Int32) (d : DD) (dl : LL), Sq e el d dl → (0 ≤ x2.toInt ∧ x2.toInt ≤ 23) → (0 ≤ x3.toInt ∧ x3.toInt ≤ 24) → 25 - x2.toInt ≤ (j4 : Int) → 25 - x3.toInt < (j14 : Int) → K14 x1 x2 x3 d dl) : ∀ (j25 : Nat) (x1 : Int32) (x2 : Int32) (x3 : Int32) (x4 : Int32) (x5 : Int32) (d : DD) (dl : LL), Sq e el d dl → (0 ≤ x2.toInt ∧ x2.toInt ≤ 23) → (0 ≤ x3.toInt ∧ x3.toInt ≤ 23) → (0 ≤ x4.toInt ∧ x4.toInt ≤ 1) → (0 ≤ x5.toInt ∧ x5.toInt ≤ 16) → 25 - x2.toInt ≤ (j4 : Int) → 25 - x3.toInt ≤ (j14 : Int) → 17 - x5.toInt < (j25 : Int) → b_X10_slack_25 n Q K4 K14 j25 x1 x2 x3 x4 x5 d dl := by
  intro j25
  induction j25 with
  | zero =>
    intro x1 x2 x3 x4 x5 d dl hS bx2 bx3 bx4 bx5 hm4 hm14 hm25
    exfalso
    omega
  | succ j25 hK25 =>
    intro x1 x2 x3 x4 x5 d dl hS bx2 bx3 bx4 bx5 hm4 hm14 hm25
    show (16 ≤ x5 → vp_in x2 24 ∧ vp_in x3 24 ∧ F_X10_size n ((d 232 x2.toNatClampNeg) - (d 232 x3.toNatClampNeg)) d dl (fun r6 d7 l8 => (x4 = 0 → K14 x1 x2 (x3 + 1) d7 l8) ∧ (¬ x4 = 0 → (x1 = (-1) → b_X10_slack_128 n Q K4 K14 x2 x3 r6 d7 l8) ∧ (¬ x1 = (-1) → (x1 ≤ r6 → K14 x1 x2 (x3 + 1) d7 l8) ∧ (¬ x1 ≤ r6 → b_X10_slack_128 n Q K4 K14 x2 x3 r6 d7 l8))))) ∧ (¬ 16 ≤ x5 → vp_in (((4 : Int32) * x2) + (x5 / 4)) 96 ∧ ∀ v13 : Int32, v13 = (d 234 (((4 : Int32) * x2) + (x5 / 4)).toNatClampNeg) → vp_in (((4 : Int32) * x3) + (irem x5 4)) 96 ∧ ∀ v15 : Int32, v15 = (d 234 (((4 : Int32) * x3) + (irem x5 4)).toNatClampNeg) → (v13 = (-1) → (b_X10_slack_25 n Q K4 K14 j25) x1 x2 x3 x4 (x5 + 1) d dl) ∧ (¬ v13 = (-1) → (v15 = (-1) → (b_X10_slack_25 n Q K4 K14 j25) x1 x2 x3 x4 (x5 + 1) d dl) ∧ (¬ v15 = (-1) → F_X10_haveCommon n v13 v15 d dl (fun r18 d19 l20 => (r18 = 0 → (b_X10_slack_25 n Q K4 K14 j25) x1 x2 x3 x4 (x5 + 1) d19 l20) ∧ (¬ r18 = 0 → (b_X10_slack_25 n Q K4 K14 j25) x1 x2 x3 1 (x5 + 1) d19 l20)))))
    refine ⟨fun h3 => ?_, fun h3 => ?_⟩
    · have h3 : 16 ≤ x5.toInt := (i_le (rfl : (16 : Int32).toInt = 16) rfl).mp h3
      have ih4 : vp_in x2 24 := vin rfl (by omega) (by omega)
      refine ⟨ih4, ?_⟩
      have ih5 : vp_in x3 24 := vin rfl (by omega) (by omega)
      refine ⟨ih5, ?_⟩
      have m_2 := iv_232 hS.1 (x2.toNatClampNeg)
      have m_3 := iv_232 hS.1 (x3.toNatClampNeg)
      have t_4 : ((d 232 x2.toNatClampNeg) - (d 232 x3.toNatClampNeg)).toInt = (d 232 x2.toNatClampNeg).toInt - (d 232 x3.toNatClampNeg).toInt := ti_sub rfl rfl (by omega) (by omega)
      refine sp_X10_size hn hS.1 (fun r6 d7 l8 ⟨p_5, u_6⟩ => ?_)
      have s_7 : Sq e el d7 l8 := hS.tr p_5
      have w_8 : d7 = d := p_5.2.1
      refine ⟨fun h9 => ?_, fun h9 => ?_⟩
      · have h9 : x4.toInt = 0 := (i_eq rfl (rfl : (0 : Int32).toInt = 0)).mp h9
        have t_9 : (x3 + 1).toInt = x3.toInt + 1 := ti_add rfl (rfl : (1 : Int32).toInt = 1) (by omega) (by omega)
        exact hK14 _ _ _ _ _ s_7 (by omega) (by omega) (by omega) (by omega)
      · have h9 : ¬ (x4.toInt = 0) := fun q => h9 ((i_eq rfl (rfl : (0 : Int32).toInt = 0)).mpr q)
        refine ⟨fun h10 => ?_, fun h10 => ?_⟩
        · have h10 : x1.toInt = (-1) := (i_eq rfl (rfl : ((-1) : Int32).toInt = (-1))).mp h10
          exact sb_X10_slack_128 hn hQ hK4 hK14 _ _ _ _ _ s_7 (by omega) (by omega) (by omega) (by omega)
        · have h10 : ¬ (x1.toInt = (-1)) := fun q => h10 ((i_eq rfl (rfl : ((-1) : Int32).toInt = (-1))).mpr q)
          refine ⟨fun h11 => ?_, fun h11 => ?_⟩
          · have h11 : x1.toInt ≤ r6.toInt := (i_le rfl rfl).mp h11
            have t_10 : (x3 + 1).toInt = x3.toInt + 1 := ti_add rfl (rfl : (1 : Int32).toInt = 1) (by omega) (by omega)
            exact hK14 _ _ _ _ _ s_7 (by omega) (by omega) (by omega) (by omega)
          · have h11 : ¬ (x1.toInt ≤ r6.toInt) := fun q => h11 ((i_le rfl rfl).mpr q)
            exact sb_X10_slack_128 hn hQ hK4 hK14 _ _ _ _ _ s_7 (by omega) (by omega) (by omega) (by omega)
    · have h3 : ¬ (16 ≤ x5.toInt) := fun q => h3 ((i_le (rfl : (16 : Int32).toInt = 16) rfl).mpr q)
      have t_11 : ((4 : Int32) * x2).toInt = 4 * x2.toInt := ti_mul (rfl : (4 : Int32).toInt = 4) rfl (by omega) (by omega)
      have t_12 : (x5 / 4).toInt = x5.toInt / 4 := ti_div rfl (rfl : (4 : Int32).toInt = 4) (by omega) (by omega)
      have t_13 : (((4 : Int32) * x2) + (x5 / 4)).toInt = (4 * x2.toInt) + (x5.toInt / 4) := ti_add t_11 t_12 (by omega) (by omega)
      have ih12 : vp_in (((4 : Int32) * x2) + (x5 / 4)) 96 := vin t_13 (by omega) (by omega)
      refine ⟨ih12, ?_⟩
      have m_14 := iv_234 hS.1 ((((4 : Int32) * x2) + (x5 / 4)).toNatClampNeg)
      intro v13 e13
      have t_15 : v13.toInt = (d 234 (((4 : Int32) * x2) + (x5 / 4)).toNatClampNeg).toInt := (congrArg Int32.toInt e13).trans rfl
      have t_16 : ((4 : Int32) * x3).toInt = 4 * x3.toInt := ti_mul (rfl : (4 : Int32).toInt = 4) rfl (by omega) (by omega)
      have t_17 : (irem x5 4).toInt = x5.toInt % 4 := ti_rem rfl (rfl : (4 : Int32).toInt = 4) (by omega) (by omega)
      have t_18 : (((4 : Int32) * x3) + (irem x5 4)).toInt = (4 * x3.toInt) + (x5.toInt % 4) := ti_add t_16 t_17 (by omega) (by omega)
      have ih14 : vp_in (((4 : Int32) * x3) + (irem x5 4)) 96 := vin t_18 (by omega) (by omega)
      refine ⟨ih14, ?_⟩
      have m_19 := iv_234 hS.1 ((((4 : Int32) * x3) + (irem x5 4)).toNatClampNeg)
      intro v15 e15
      have t_20 : v15.toInt = (d 234 (((4 : Int32) * x3) + (irem x5 4)).toNatClampNeg).toInt := (congrArg Int32.toInt e15).trans rfl
      refine ⟨fun h16 => ?_, fun h16 => ?_⟩
      · have h16 : (d 234 (((4 : Int32) * x2) + (x5 / 4)).toNatClampNeg).toInt = (-1) := (i_eq t_15 (rfl : ((-1) : Int32).toInt = (-1))).mp h16
        have t_21 : (x5 + 1).toInt = x5.toInt + 1 := ti_add rfl (rfl : (1 : Int32).toInt = 1) (by omega) (by omega)
        exact hK25 _ _ _ _ _ _ _ hS (by omega) (by omega) (by omega) (by omega) (by omega) (by omega) (by omega)
      · have h16 : ¬ ((d 234 (((4 : Int32) * x2) + (x5 / 4)).toNatClampNeg).toInt = (-1)) := fun q => h16 ((i_eq t_15 (rfl : ((-1) : Int32).toInt = (-1))).mpr q)
        refine ⟨fun h17 => ?_, fun h17 => ?_⟩
        · have h17 : (d 234 (((4 : Int32) * x3) + (irem x5 4)).toNatClampNeg).toInt = (-1) := (i_eq t_20 (rfl : ((-1) : Int32).toInt = (-1))).mp h17
          have t_22 : (x5 + 1).toInt = x5.toInt + 1 := ti_add rfl (rfl : (1 : Int32).toInt = 1) (by omega) (by omega)
          exact hK25 _ _ _ _ _ _ _ hS (by omega) (by omega) (by omega) (by omega) (by omega) (by omega) (by omega)
        · have h17 : ¬ ((d 234 (((4 : Int32) * x3) + (irem x5 4)).toNatClampNeg).toInt = (-1)) := fun q => h17 ((i_eq t_20 (rfl : ((-1) : Int32).toInt = (-1))).mpr q)
          refine sp_X10_haveCommon hn hS.1 ⟨by rw [t_15]; omega, by rw [t_15]; omega⟩ ⟨by rw [t_20]; omega, by rw [t_20]; omega⟩ (fun r18 d19 l20 ⟨p_23, u_24⟩ => ?_)
          have s_25 : Sq e el d19 l20 := hS.tr p_23
          have w_26 : d19 = d := p_23.2.1
          replace u_24 : (0 ≤ r18.toInt ∧ r18.toInt ≤ 1) := u_24
          refine ⟨fun h21 => ?_, fun h21 => ?_⟩
          · have h21 : r18.toInt = 0 := (i_eq rfl (rfl : (0 : Int32).toInt = 0)).mp h21
            have t_27 : (x5 + 1).toInt = x5.toInt + 1 := ti_add rfl (rfl : (1 : Int32).toInt = 1) (by omega) (by omega)
            exact hK25 _ _ _ _ _ _ _ s_25 (by omega) (by omega) (by omega) (by omega) (by omega) (by omega) (by omega)
          · have h21 : ¬ (r18.toInt = 0) := fun q => h21 ((i_eq rfl (rfl : (0 : Int32).toInt = 0)).mpr q)
            have t_28 : (x5 + 1).toInt = x5.toInt + 1 := ti_add rfl (rfl : (1 : Int32).toInt = 1) (by omega) (by omega)
            exact hK25 _ _ _ _ _ _ _ s_25 (by omega) (by omega) (show 0 ≤ 1 ∧ 1 ≤ 1 from by omega) (by omega) (by omega) (by omega) (by omega)
