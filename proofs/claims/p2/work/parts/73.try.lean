set_option maxHeartbeats 4000000 in
set_option maxRecDepth 100000 in
theorem sp_X9_within {n : Nat} (hn : 1000000000 ≤ n) {x0 : Int32} {x1 : Int32} {x2 : Int32} {d : DD} {dl : LL} (hI : Inv d) {Q : Int32 → DD → LL → Prop} (hQ : ∀ (r : Int32) (d2 : DD) (l2 : LL), Sq d dl d2 l2 ∧ (0 ≤ r.toInt ∧ r.toInt ≤ 1) → Q r d2 l2) : F_X9_within n x0 x1 x2 d dl Q := by
  obtain ⟨e, he⟩ : ∃ e : DD, e = d := ⟨_, rfl⟩
  obtain ⟨el, hel⟩ : ∃ el : LL, el = dl := ⟨_, rfl⟩
  have hS : Sq e el d dl := by rw [he, hel]; exact Sq.rf hI
  rw [← he, ← hel] at hQ
  show (x0 < x1 → Q 0 d dl) ∧ (¬ x0 < x1 → (x2 < x0 → Q 0 d dl) ∧ (¬ x2 < x0 → Q 1 d dl))
  refine ⟨fun h1 => ?_, fun h1 => ?_⟩
  · have h1 : x0.toInt < x1.toInt := (i_lt rfl rfl).mp h1
    have c_1 : (0 : Int32).toInt = 0 := rfl
    exact hQ _ _ _ ⟨hS, by omega⟩
  · have h1 : ¬ (x0.toInt < x1.toInt) := fun q => h1 ((i_lt rfl rfl).mpr q)
    refine ⟨fun h2 => ?_, fun h2 => ?_⟩
    · have h2 : x2.toInt < x0.toInt := (i_lt rfl rfl).mp h2
      have c_2 : (0 : Int32).toInt = 0 := rfl
      exact hQ _ _ _ ⟨hS, by omega⟩
    · have h2 : ¬ (x2.toInt < x0.toInt) := fun q => h2 ((i_lt rfl rfl).mpr q)
      have c_3 : (1 : Int32).toInt = 1 := rfl
      exact hQ _ _ _ ⟨hS, by omega⟩
set_option maxHeartbeats 4000000 in
set_option maxRecDepth 100000 in
theorem sp_X9_isLane {n : Nat} (hn : 1000000000 ≤ n) {x0 : Int32} {d : DD} {dl : LL} (hI : Inv d) {Q : Int32 → DD → LL → Prop} (hQ : ∀ (r : Int32) (d2 : DD) (l2 : LL), Sq d dl d2 l2 ∧ (0 ≤ r.toInt ∧ r.toInt ≤ 1) → Q r d2 l2) : F_X9_isLane n x0 d dl Q := by
  obtain ⟨e, he⟩ : ∃ e : DD, e = d := ⟨_, rfl⟩
  obtain ⟨el, hel⟩ : ∃ el : LL, el = dl := ⟨_, rfl⟩
  have hS : Sq e el d dl := by rw [he, hel]; exact Sq.rf hI
  rw [← he, ← hel] at hQ
  show F_X9_within n x0 0 3 d dl (fun r1 d2 l3 => narrow .boolean (.int r1) = .int r1 ∧ Q r1 d2 l3)
  have c_1 : (0 : Int32).toInt = 0 := rfl
  have c_2 : (3 : Int32).toInt = 3 := rfl
  refine sp_X9_within hn hS.1 (fun r1 d2 l3 p_3 => ?_)
  have s_4 : Sq e el d2 l3 := hS.tr p_3.1
  have w_5 : d2 = d := p_3.1.2.1
  have u_6 := p_3.2
  refine ⟨bo_nar (bo_of ⟨by omega, by omega⟩), ?_⟩
  exact hQ _ _ _ ⟨s_4, by omega⟩
set_option maxHeartbeats 4000000 in
set_option maxRecDepth 100000 in
theorem sp_X9_isCrew {n : Nat} (hn : 1000000000 ≤ n) {x1 : Int32} {d : DD} {dl : LL} (hI : Inv d) {Q : Int32 → DD → LL → Prop} (hQ : ∀ (r : Int32) (d2 : DD) (l2 : LL), Sq d dl d2 l2 ∧ (0 ≤ r.toInt ∧ r.toInt ≤ 1) → Q r d2 l2) : F_X9_isCrew n x1 d dl Q := by
  obtain ⟨e, he⟩ : ∃ e : DD, e = d := ⟨_, rfl⟩
  obtain ⟨el, hel⟩ : ∃ el : LL, el = dl := ⟨_, rfl⟩
  have hS : Sq e el d dl := by rw [he, hel]; exact Sq.rf hI
  rw [← he, ← hel] at hQ
  show F_X9_within n x1 0 ((d 0 2) - 1) d dl (fun r1 d2 l3 => narrow .boolean (.int r1) = .int r1 ∧ Q r1 d2 l3)
  have c_1 : (0 : Int32).toInt = 0 := rfl
  have m_2 := iv_0_2 hS.1
  have c_3 : (1 : Int32).toInt = 1 := rfl
  have t_4 : ((d 0 2) - 1).toInt = (d 0 2).toInt - 1 := ti_sub rfl (rfl : (1 : Int32).toInt = 1) (by omega) (by omega)
  refine sp_X9_within hn hS.1 (fun r1 d2 l3 p_5 => ?_)
  have s_6 : Sq e el d2 l3 := hS.tr p_5.1
  have w_7 : d2 = d := p_5.1.2.1
  have u_8 := p_5.2
  refine ⟨bo_nar (bo_of ⟨by omega, by omega⟩), ?_⟩
  exact hQ _ _ _ ⟨s_6, by omega⟩
set_option maxHeartbeats 4000000 in
set_option maxRecDepth 100000 in
theorem sb_X9_howManyWait_25 {n : Nat} (hn : 1000000000 ≤ n) {e : DD} {el : LL} {Q : Int32 → DD → LL → Prop} (hQ : ∀ (r : Int32) (d2 : DD) (l2 : LL), Sq e el d2 l2 ∧ (True) → Q r d2 l2) {K4 : Int32 → Int32 → DD → LL → Prop} {j4 : Nat} (hK4 : ∀ (x1 : Int32) (x2 : Int32) (d : DD) (dl : LL), Sq e el d dl → (0 ≤ x2.toInt ∧ x2.toInt ≤ 4) → 5 - x2.toInt < (j4 : Int) → K4 x1 x2 d dl) : ∀ (x2 : Int32) (xs0 : Int32) (xs1 : Int32) (d : DD) (dl : LL), Sq e el d dl → (0 ≤ x2.toInt ∧ x2.toInt ≤ 3) → (0 ≤ xs0.toInt ∧ xs0.toInt ≤ 1) → 5 - x2.toInt ≤ (j4 : Int) → b_X9_howManyWait_25 n Q K4 x2 xs0 xs1 d dl := by
  intro x2 xs0 xs1 d dl hS bx2 bxs0 hm4
  show ∀ v4 : Int32, v4 = (xs1 + xs0) → K4 v4 (x2 + 1) d dl
  intro v4 e4
  have t_1 : v4.toInt = (xs1 + xs0).toInt := (congrArg Int32.toInt e4).trans rfl
  have c_2 : (1 : Int32).toInt = 1 := rfl
  have t_3 : (x2 + 1).toInt = x2.toInt + 1 := ti_add rfl (rfl : (1 : Int32).toInt = 1) (by omega) (by omega)
  exact hK4 _ _ _ _ hS (by omega) (by omega)
set_option maxHeartbeats 4000000 in
set_option maxRecDepth 100000 in
theorem sb_X9_howManyWait_4 {n : Nat} (hn : 1000000000 ≤ n) {e : DD} {el : LL} {Q : Int32 → DD → LL → Prop} (hQ : ∀ (r : Int32) (d2 : DD) (l2 : LL), Sq e el d2 l2 ∧ (True) → Q r d2 l2) : ∀ (j4 : Nat) (x1 : Int32) (x2 : Int32) (d : DD) (dl : LL), Sq e el d dl → (0 ≤ x2.toInt ∧ x2.toInt ≤ 4) → 5 - x2.toInt < (j4 : Int) → b_X9_howManyWait_4 n Q j4 x1 x2 d dl := by
  intro j4
  induction j4 with
  | zero =>
    intro x1 x2 d dl hS bx2 hm4
    exfalso
    omega
  | succ j4 hK4 =>
    intro x1 x2 d dl hS bx2 hm4
    show (4 ≤ x2 → Q x1 d dl) ∧ (¬ 4 ≤ x2 → vp_in x2 4 ∧ ((d 28 x2.toNatClampNeg) = (-1) → b_X9_howManyWait_25 n Q (b_X9_howManyWait_4 n Q j4) x2 0 x1 d dl) ∧ (¬ (d 28 x2.toNatClampNeg) = (-1) → b_X9_howManyWait_25 n Q (b_X9_howManyWait_4 n Q j4) x2 1 x1 d dl))
    have c_4 : (4 : Int32).toInt = 4 := rfl
    refine ⟨fun h1 => ?_, fun h1 => ?_⟩
    · have h1 : 4 ≤ x2.toInt := (i_le (rfl : (4 : Int32).toInt = 4) rfl).mp h1
      exact hQ _ _ _ ⟨hS, by omega⟩
    · have h1 : ¬ (4 ≤ x2.toInt) := fun q => h1 ((i_le (rfl : (4 : Int32).toInt = 4) rfl).mpr q)
      have ih2 : vp_in x2 4 := vin rfl (by omega) (by omega)
      refine ⟨ih2, ?_⟩
      have m_5 := iv_28 hS.1 (x2.toNatClampNeg)
      have c_6 : ((-1) : Int32).toInt = (-1) := rfl
      refine ⟨fun h3 => ?_, fun h3 => ?_⟩
      · have h3 : (d 28 x2.toNatClampNeg).toInt = (-1) := (i_eq rfl (rfl : ((-1) : Int32).toInt = (-1))).mp h3
        have c_7 : (0 : Int32).toInt = 0 := rfl
        exact sb_X9_howManyWait_25 hn hQ hK4 _ _ _ _ _ hS (by omega) (by omega) (by omega)
      · have h3 : ¬ ((d 28 x2.toNatClampNeg).toInt = (-1)) := fun q => h3 ((i_eq rfl (rfl : ((-1) : Int32).toInt = (-1))).mpr q)
        have c_8 : (1 : Int32).toInt = 1 := rfl
        exact sb_X9_howManyWait_25 hn hQ hK4 _ _ _ _ _ hS (by omega) (by omega) (by omega)
set_option maxHeartbeats 4000000 in
set_option maxRecDepth 100000 in
theorem sp_X9_howManyWait {n : Nat} (hn : 1000000000 ≤ n) {d : DD} {dl : LL} (hI : Inv d) {Q : Int32 → DD → LL → Prop} (hQ : ∀ (r : Int32) (d2 : DD) (l2 : LL), Sq d dl d2 l2 ∧ (True) → Q r d2 l2) : F_X9_howManyWait n d dl Q := by
  obtain ⟨e, he⟩ : ∃ e : DD, e = d := ⟨_, rfl⟩
  obtain ⟨el, hel⟩ : ∃ el : LL, el = dl := ⟨_, rfl⟩
  have hS : Sq e el d dl := by rw [he, hel]; exact Sq.rf hI
  rw [← he, ← hel] at hQ
  show b_X9_howManyWait_4 n Q n 0 0 d dl
  have c_9 : (0 : Int32).toInt = 0 := rfl
  exact sb_X9_howManyWait_4 hn hQ n _ _ _ _ hS (by omega) (by omega)
set_option maxHeartbeats 4000000 in
set_option maxRecDepth 100000 in
theorem sp_X1_seatCount {n : Nat} (hn : 1000000000 ≤ n) {k0 : Nat} {d : DD} {dl : LL} (hI : Inv d) (hk0 : k0 < 6) {Q : Int32 → DD → LL → Prop} (hQ : ∀ (r : Int32) (d2 : DD) (l2 : LL), Sq d dl d2 l2 ∧ (4 ≤ r.toInt ∧ r.toInt ≤ 8) → Q r d2 l2) : F_X1_seatCount n k0 d dl Q := by
  obtain ⟨e, he⟩ : ∃ e : DD, e = d := ⟨_, rfl⟩
  obtain ⟨el, hel⟩ : ∃ el : LL, el = dl := ⟨_, rfl⟩
  have hS : Sq e el d dl := by rw [he, hel]; exact Sq.rf hI
  rw [← he, ← hel] at hQ
  show Q ((2 : Int32) * (d (37 + 3 * k0) 0)) d dl
  have c_1 : (2 : Int32).toInt = 2 := rfl
  have m_2 := iv_37_0 hS.1 hk0
  have t_3 : ((2 : Int32) * (d (37 + 3 * k0) 0)).toInt = 2 * (d (37 + 3 * k0) 0).toInt := ti_mul (rfl : (2 : Int32).toInt = 2) rfl (by omega) (by omega)
  exact hQ _ _ _ ⟨hS, by omega⟩
set_option maxHeartbeats 4000000 in
set_option maxRecDepth 100000 in
theorem sb_X8_weigh_151 {n : Nat} (hn : 1000000000 ≤ n) {e : DD} {el : LL} {Q : DD → LL → Prop} (hQ : ∀ (d2 : DD) (l2 : LL), St e el d2 l2 ∧ True → Q d2 l2) {K21 : Nat → Int32 → Int32 → Int32 → DD → LL → Prop} {j21 : Nat} (hK21 : ∀ (k2 : Nat) (x3 : Int32) (x4 : Int32) (x5 : Int32) (hk2 : k2 < 6) (d : DD) (dl : LL), St e el d dl → (0 ≤ x5.toInt ∧ x5.toInt ≤ 4) → 5 - x5.toInt < (j21 : Int) → K21 k2 x3 x4 x5 d dl) : ∀ (k2 : Nat) (x3 : Int32) (x4 : Int32) (x5 : Int32) (xs0 : Int32) (xs1 : Int32) (hk2 : k2 < 6) (d : DD) (dl : LL), St e el d dl → (0 ≤ x5.toInt ∧ x5.toInt ≤ 3) → (0 ≤ xs0.toInt ∧ xs0.toInt ≤ 1) → 5 - x5.toInt ≤ (j21 : Int) → b_X8_weigh_151 n Q K21 k2 x3 x4 x5 xs0 xs1 d dl := by
  intro k2 x3 x4 x5 xs0 xs1 hk2 d dl hS bx5 bxs0 hm21
  show ∀ d32 : DD, d32 = u2 d 9 3 (xs1 + xs0) → K21 k2 x3 x4 (x5 + 1) d32 dl
  intro d32 ed32
  have s_1 : St e el d32 dl := by rw [ed32]; exact pv_9_3 hS
  have c_2 : (1 : Int32).toInt = 1 := rfl
  have t_3 : (x5 + 1).toInt = x5.toInt + 1 := ti_add rfl (rfl : (1 : Int32).toInt = 1) (by omega) (by omega)
  exact hK21 _ _ _ _ hk2 _ _ s_1 (by omega) (by omega)
set_option maxHeartbeats 4000000 in
set_option maxRecDepth 100000 in
theorem sb_X8_weigh_21 {n : Nat} (hn : 1000000000 ≤ n) {e : DD} {el : LL} {Q : DD → LL → Prop} (hQ : ∀ (d2 : DD) (l2 : LL), St e el d2 l2 ∧ True → Q d2 l2) : ∀ (j21 : Nat) (k2 : Nat) (x3 : Int32) (x4 : Int32) (x5 : Int32) (hk2 : k2 < 6) (d : DD) (dl : LL), St e el d dl → (0 ≤ x5.toInt ∧ x5.toInt ≤ 4) → 5 - x5.toInt < (j21 : Int) → b_X8_weigh_21 n Q j21 k2 x3 x4 x5 d dl := by
  intro j21
  induction j21 with
  | zero =>
    intro k2 x3 x4 x5 hk2 d dl hS bx5 hm21
    exfalso
    omega
  | succ j21 hK21 =>
    intro k2 x3 x4 x5 hk2 d dl hS bx5 hm21
    show ((d (37 + 3 * k2) 0) ≤ x5 → ∀ d7 : DD, d7 = u2 d 9 0 (if 0 ≤ x3 then x3 else -x3) → ∀ d8 : DD, d8 = u2 d7 9 1 (if 0 ≤ x4 then x4 else -x4) → Q d8 dl) ∧ (¬ (d (37 + 3 * k2) 0) ≤ x5 → vp_in ((2 : Int32) * x5) 8 ∧ ∀ v10 : Int32, v10 = (d (39 + 3 * k2) ((2 : Int32) * x5).toNatClampNeg) → vp_in (((2 : Int32) * x5) + 1) 8 ∧ ∀ v12 : Int32, v12 = (d (39 + 3 * k2) (((2 : Int32) * x5) + 1).toNatClampNeg) → vp_in v10 40 ∧ vp_in v12 40 ∧ ∀ v15 : Int32, v15 = (x3 + ((d 2 v10.toNatClampNeg) - (d 2 v12.toNatClampNeg))) → vp_in v10 40 ∧ vp_in v12 40 ∧ F_X1_pitchFactor n k2 x5 d dl (fun r18 d19 l20 => ∀ v21 : Int32, v21 = (x4 + (((d 2 v10.toNatClampNeg) + (d 2 v12.toNatClampNeg)) * r18)) → vp_in v10 40 ∧ vp_in v12 40 ∧ F_X1_middleFactor n k2 x5 d19 l20 (fun r24 d25 l26 => ∀ d27 : DD, d27 = u2 d25 9 2 ((d19 9 2) + (((d19 3 v10.toNatClampNeg) + (d19 3 v12.toNatClampNeg)) * r24)) → F_X4_areFriends n v10 v12 d27 l26 (fun r28 d29 l30 => (r28 = 0 → b_X8_weigh_151 n Q (b_X8_weigh_21 n Q j21) k2 v15 v21 x5 0 (d27 9 3) d29 l30) ∧ (¬ r28 = 0 → b_X8_weigh_151 n Q (b_X8_weigh_21 n Q j21) k2 v15 v21 x5 1 (d27 9 3) d29 l30)))))
    have m_4 := iv_37_0 hS.1 hk2
    refine ⟨fun h6 => ?_, fun h6 => ?_⟩
    · have h6 : (d (37 + 3 * k2) 0).toInt ≤ x5.toInt := (i_le rfl rfl).mp h6
      intro d7 ed7
      have s_5 : St e el d7 dl := by rw [ed7]; exact pv_9_0 hS
      intro d8 ed8
      have s_6 : St e el d8 dl := by rw [ed8]; exact pv_9_1 s_5
      exact hQ _ _ ⟨s_6, trivial⟩
    · have h6 : ¬ ((d (37 + 3 * k2) 0).toInt ≤ x5.toInt) := fun q => h6 ((i_le rfl rfl).mpr q)
      have c_7 : (2 : Int32).toInt = 2 := rfl
      have t_8 : ((2 : Int32) * x5).toInt = 2 * x5.toInt := ti_mul (rfl : (2 : Int32).toInt = 2) rfl (by omega) (by omega)
      have ih9 : vp_in ((2 : Int32) * x5) 8 := vin t_8 (by omega) (by omega)
      refine ⟨ih9, ?_⟩
      have m_9 := iv_39 hS.1 hk2 (((2 : Int32) * x5).toNatClampNeg)
      intro v10 e10
      have t_10 : v10.toInt = (d (39 + 3 * k2) ((2 : Int32) * x5).toNatClampNeg).toInt := (congrArg Int32.toInt e10).trans rfl
      have c_11 : (1 : Int32).toInt = 1 := rfl
      have t_12 : (((2 : Int32) * x5) + 1).toInt = (2 * x5.toInt) + 1 := ti_add t_8 (rfl : (1 : Int32).toInt = 1) (by omega) (by omega)
      have ih11 : vp_in (((2 : Int32) * x5) + 1) 8 := vin t_12 (by omega) (by omega)
      refine ⟨ih11, ?_⟩
      have m_13 := iv_39 hS.1 hk2 ((((2 : Int32) * x5) + 1).toNatClampNeg)
      intro v12 e12
      have t_14 : v12.toInt = (d (39 + 3 * k2) (((2 : Int32) * x5) + 1).toNatClampNeg).toInt := (congrArg Int32.toInt e12).trans rfl
      have ih13 : vp_in v10 40 := vin t_10 (by omega) (by omega)
      refine ⟨ih13, ?_⟩
      have ih14 : vp_in v12 40 := vin t_14 (by omega) (by omega)
      refine ⟨ih14, ?_⟩
      intro v15 e15
      have t_15 : v15.toInt = (x3 + ((d 2 v10.toNatClampNeg) - (d 2 v12.toNatClampNeg))).toInt := (congrArg Int32.toInt e15).trans rfl
      have ih16 : vp_in v10 40 := vin t_10 (by omega) (by omega)
      refine ⟨ih16, ?_⟩
      have ih17 : vp_in v12 40 := vin t_14 (by omega) (by omega)
      refine ⟨ih17, ?_⟩
      refine sp_X1_pitchFactor hn hS.1 hk2 (fun r18 d19 l20 p_16 => ?_)
      have s_17 : St e el d19 l20 := hS.sq p_16.1
      have w_18 : d19 = d := p_16.1.2.1
      have u_19 := p_16.2
      intro v21 e21
      have t_20 : v21.toInt = (x4 + (((d 2 v10.toNatClampNeg) + (d 2 v12.toNatClampNeg)) * r18)).toInt := (congrArg Int32.toInt e21).trans rfl
      have ih22 : vp_in v10 40 := vin t_10 (by omega) (by omega)
      refine ⟨ih22, ?_⟩
      have ih23 : vp_in v12 40 := vin t_14 (by omega) (by omega)
      refine ⟨ih23, ?_⟩
      refine sp_X1_middleFactor hn s_17.1 hk2 (fun r24 d25 l26 p_21 => ?_)
      have s_22 : St e el d25 l26 := s_17.sq p_21.1
      have w_23 : d25 = d19 := p_21.1.2.1
      have u_24 := p_21.2
      intro d27 ed27
      have s_25 : St e el d27 l26 := by rw [ed27]; exact pv_9_2 s_22
      refine sp_X4_areFriends hn s_25.1 ⟨by rw [t_10]; omega, by rw [t_10]; omega⟩ (fun r28 d29 l30 p_26 => ?_)
      have s_27 : St e el d29 l30 := s_25.sq p_26.1
      have w_28 : d29 = d27 := p_26.1.2.1
      have u_29 := p_26.2
      have c_30 : (0 : Int32).toInt = 0 := rfl
      refine ⟨fun h31 => ?_, fun h31 => ?_⟩
      · have h31 : r28.toInt = 0 := (i_eq rfl (rfl : (0 : Int32).toInt = 0)).mp h31
        have q_31 : d27 9 3 = (d 9 3) := by rw [ed27, u2_ne (Or.inr (by omega))]; rw [w_23]; rw [w_18]
        have t_32 : (d27 9 3).toInt = (d 9 3).toInt := (congrArg Int32.toInt q_31).trans rfl
        exact sb_X8_weigh_151 hn hQ hK21 _ _ _ _ _ _ hk2 _ _ s_27 (by omega) (by omega) (by omega)
      · have h31 : ¬ (r28.toInt = 0) := fun q => h31 ((i_eq rfl (rfl : (0 : Int32).toInt = 0)).mpr q)
        have q_33 : d27 9 3 = (d 9 3) := by rw [ed27, u2_ne (Or.inr (by omega))]; rw [w_23]; rw [w_18]
        have t_34 : (d27 9 3).toInt = (d 9 3).toInt := (congrArg Int32.toInt q_33).trans rfl
        exact sb_X8_weigh_151 hn hQ hK21 _ _ _ _ _ _ hk2 _ _ s_27 (by omega) (by omega) (by omega)
set_option maxHeartbeats 4000000 in
set_option maxRecDepth 100000 in
theorem sp_X8_weigh {n : Nat} (hn : 1000000000 ≤ n) {k2 : Nat} {d : DD} {dl : LL} (hI : Inv d) (hk2 : k2 < 6) {Q : DD → LL → Prop} (hQ : ∀ (d2 : DD) (l2 : LL), St d dl d2 l2 ∧ True → Q d2 l2) : F_X8_weigh n k2 d dl Q := by
  obtain ⟨e, he⟩ : ∃ e : DD, e = d := ⟨_, rfl⟩
  obtain ⟨el, hel⟩ : ∃ el : LL, el = dl := ⟨_, rfl⟩
  have hS : St e el d dl := by rw [he, hel]; exact St.rf hI
  rw [← he, ← hel] at hQ
  show F_X1_drummerPitch n k2 d dl (fun r1 d2 l3 => ∀ d4 : DD, d4 = u2 d2 9 2 0 → ∀ d5 : DD, d5 = u2 d4 9 3 0 → b_X8_weigh_21 n Q n k2 0 r1 0 d5 l3)
  refine sp_X1_drummerPitch hn hS.1 hk2 (fun r1 d2 l3 p_35 => ?_)
  have s_36 : St e el d2 l3 := hS.sq p_35.1
  have w_37 : d2 = d := p_35.1.2.1
  have u_38 := p_35.2
  intro d4 ed4
  have s_39 : St e el d4 l3 := by rw [ed4]; exact pv_9_2 s_36
  intro d5 ed5
  have s_40 : St e el d5 l3 := by rw [ed5]; exact pv_9_3 s_39
  have c_41 : (0 : Int32).toInt = 0 := rfl
  exact sb_X8_weigh_21 hn hQ n _ _ _ _ hk2 _ _ s_40 (by omega) (by omega)
