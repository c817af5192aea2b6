set_option maxHeartbeats 4000000 in
set_option maxRecDepth 100000 in
theorem sp_X9_within {n : Nat} (hn : 1000000000 ≤ n) {x0 : Int32} {x1 : Int32} {x2 : Int32} {d : DD} {dl : LL} (hI : Inv d) {Q : Int32 → DD → LL → Prop} (hQ : ∀ (r : Int32) (d2 : DD) (l2 : LL), Sq d dl d2 l2 ∧ (0 ≤ r.toInt ∧ r.toInt ≤ 1 ∧ ((r.toInt = 1 ∧ x1.toInt ≤ x0.toInt ∧ x0.toInt ≤ x2.toInt) ∨ (r.toInt = 0 ∧ ¬ (x1.toInt ≤ x0.toInt ∧ x0.toInt ≤ x2.toInt)))) → Q r d2 l2) : F_X9_within n x0 x1 x2 d dl Q := by
  obtain ⟨e, he⟩ : ∃ e : DD, e = d := ⟨_, rfl⟩
  obtain ⟨el, hel⟩ : ∃ el : LL, el = dl := ⟨_, rfl⟩
  have hS : Sq e el d dl := by rw [he, hel]; exact Sq.rf hI
  rw [← he, ← hel] at hQ
  show (x0 < x1 → Q 0 d dl) ∧ (¬ x0 < x1 → (x2 < x0 → Q 0 d dl) ∧ (¬ x2 < x0 → Q 1 d dl))
  refine ⟨fun h1 => ?_, fun h1 => ?_⟩
  · have h1 : x0.toInt < x1.toInt := (i_lt rfl rfl).mp h1
    exact hQ _ _ _ ⟨hS, (show (0 ≤ 0 ∧ 0 ≤ 1 ∧ ((0 = 1 ∧ x1.toInt ≤ x0.toInt ∧ x0.toInt ≤ x2.toInt) ∨ (0 = 0 ∧ ¬ (x1.toInt ≤ x0.toInt ∧ x0.toInt ≤ x2.toInt)))) from by omega)⟩
  · have h1 : ¬ (x0.toInt < x1.toInt) := fun q => h1 ((i_lt rfl rfl).mpr q)
    refine ⟨fun h2 => ?_, fun h2 => ?_⟩
    · have h2 : x2.toInt < x0.toInt := (i_lt rfl rfl).mp h2
      exact hQ _ _ _ ⟨hS, (show (0 ≤ 0 ∧ 0 ≤ 1 ∧ ((0 = 1 ∧ x1.toInt ≤ x0.toInt ∧ x0.toInt ≤ x2.toInt) ∨ (0 = 0 ∧ ¬ (x1.toInt ≤ x0.toInt ∧ x0.toInt ≤ x2.toInt)))) from by omega)⟩
    · have h2 : ¬ (x2.toInt < x0.toInt) := fun q => h2 ((i_lt rfl rfl).mpr q)
      exact hQ _ _ _ ⟨hS, (show (0 ≤ 1 ∧ 1 ≤ 1 ∧ ((1 = 1 ∧ x1.toInt ≤ x0.toInt ∧ x0.toInt ≤ x2.toInt) ∨ (1 = 0 ∧ ¬ (x1.toInt ≤ x0.toInt ∧ x0.toInt ≤ x2.toInt)))) from by omega)⟩
set_option maxHeartbeats 4000000 in
set_option maxRecDepth 100000 in
theorem sp_X4_has {n : Nat} (hn : 1000000000 ≤ n) {x1 : Int32} {d : DD} {dl : LL} (hI : Inv d) {Q : Int32 → DD → LL → Prop} (hQ : ∀ (r : Int32) (d2 : DD) (l2 : LL), Sq d dl d2 l2 ∧ (0 ≤ r.toInt ∧ r.toInt ≤ 1 ∧ ((r.toInt = 1 ∧ 0 ≤ x1.toInt ∧ x1.toInt < (d 1 0).toInt) ∨ (r.toInt = 0 ∧ ¬ (0 ≤ x1.toInt ∧ x1.toInt < (d 1 0).toInt)))) → Q r d2 l2) : F_X4_has n x1 d dl Q := by
  obtain ⟨e, he⟩ : ∃ e : DD, e = d := ⟨_, rfl⟩
  obtain ⟨el, hel⟩ : ∃ el : LL, el = dl := ⟨_, rfl⟩
  have hS : Sq e el d dl := by rw [he, hel]; exact Sq.rf hI
  rw [← he, ← hel] at hQ
  show F_X9_within n x1 0 ((d 1 0) - 1) d dl (fun r1 d2 l3 => narrow .boolean (.int r1) = .int r1 ∧ Q r1 d2 l3)
  have hx0 : (e 1 0).toInt = (d 1 0).toInt := by rw [he]
  have m_1 := iv_1_0 hS.1
  have t_2 : ((d 1 0) - 1).toInt = (d 1 0).toInt - 1 := ti_sub rfl (rfl : (1 : Int32).toInt = 1) (by omega) (by omega)
  refine sp_X9_within hn hS.1 (fun r1 d2 l3 ⟨p_3, u_4⟩ => ?_)
  have s_5 : Sq e el d2 l3 := hS.tr p_3
  have w_6 : d2 = d := p_3.2.1
  replace u_4 : (0 ≤ r1.toInt ∧ r1.toInt ≤ 1 ∧ ((r1.toInt = 1 ∧ 0 ≤ x1.toInt ∧ x1.toInt ≤ ((d 1 0) - 1).toInt) ∨ (r1.toInt = 0 ∧ ¬ (0 ≤ x1.toInt ∧ x1.toInt ≤ ((d 1 0) - 1).toInt)))) := u_4
  refine ⟨bo_nar (bo_of ⟨by omega, by omega⟩), ?_⟩
  exact hQ _ _ _ ⟨s_5, by omega⟩
set_option maxHeartbeats 4000000 in
set_option maxRecDepth 100000 in
theorem sp_X4_areFriends {n : Nat} (hn : 1000000000 ≤ n) {x1 : Int32} {x2 : Int32} {d : DD} {dl : LL} (hI : Inv d) (bx1 : 0 ≤ x1.toInt ∧ x1.toInt ≤ 39) {Q : Int32 → DD → LL → Prop} (hQ : ∀ (r : Int32) (d2 : DD) (l2 : LL), Sq d dl d2 l2 ∧ (0 ≤ r.toInt ∧ r.toInt ≤ 1) → Q r d2 l2) : F_X4_areFriends n x1 x2 d dl Q := by
  obtain ⟨e, he⟩ : ∃ e : DD, e = d := ⟨_, rfl⟩
  obtain ⟨el, hel⟩ : ∃ el : LL, el = dl := ⟨_, rfl⟩
  have hS : Sq e el d dl := by rw [he, hel]; exact Sq.rf hI
  rw [← he, ← hel] at hQ
  show vp_in x1 40 ∧ ((lg_cmp ((lushr (dl 7 x1.toNatClampNeg) x2) &&& 1) 0) = 0 → Q 0 d dl) ∧ (¬ (lg_cmp ((lushr (dl 7 x1.toNatClampNeg) x2) &&& 1) 0) = 0 → Q 1 d dl)
  have ih1 : vp_in x1 40 := vin rfl (by omega) (by omega)
  refine ⟨ih1, ?_⟩
  refine ⟨fun h2 => ?_, fun h2 => ?_⟩
  · have h2 : (lg_cmp ((lushr (dl 7 x1.toNatClampNeg) x2) &&& 1) 0).toInt = 0 := (i_eq rfl (rfl : (0 : Int32).toInt = 0)).mp h2
    exact hQ _ _ _ ⟨hS, (show (0 ≤ 0 ∧ 0 ≤ 1) from by omega)⟩
  · have h2 : ¬ ((lg_cmp ((lushr (dl 7 x1.toNatClampNeg) x2) &&& 1) 0).toInt = 0) := fun q => h2 ((i_eq rfl (rfl : (0 : Int32).toInt = 0)).mpr q)
    exact hQ _ _ _ ⟨hS, (show (0 ≤ 1 ∧ 1 ≤ 1) from by omega)⟩
set_option maxHeartbeats 4000000 in
set_option maxRecDepth 100000 in
theorem sp_X9_isCrew {n : Nat} (hn : 1000000000 ≤ n) {x1 : Int32} {d : DD} {dl : LL} (hI : Inv d) {Q : Int32 → DD → LL → Prop} (hQ : ∀ (r : Int32) (d2 : DD) (l2 : LL), Sq d dl d2 l2 ∧ (0 ≤ r.toInt ∧ r.toInt ≤ 1 ∧ ((r.toInt = 1 ∧ 0 ≤ x1.toInt ∧ x1.toInt < (d 0 2).toInt) ∨ (r.toInt = 0 ∧ ¬ (0 ≤ x1.toInt ∧ x1.toInt < (d 0 2).toInt)))) → Q r d2 l2) : F_X9_isCrew n x1 d dl Q := by
  obtain ⟨e, he⟩ : ∃ e : DD, e = d := ⟨_, rfl⟩
  obtain ⟨el, hel⟩ : ∃ el : LL, el = dl := ⟨_, rfl⟩
  have hS : Sq e el d dl := by rw [he, hel]; exact Sq.rf hI
  rw [← he, ← hel] at hQ
  show F_X9_within n x1 0 ((d 0 2) - 1) d dl (fun r1 d2 l3 => narrow .boolean (.int r1) = .int r1 ∧ Q r1 d2 l3)
  have hx0 : (e 0 2).toInt = (d 0 2).toInt := by rw [he]
  have m_1 := iv_0_2 hS.1
  have t_2 : ((d 0 2) - 1).toInt = (d 0 2).toInt - 1 := ti_sub rfl (rfl : (1 : Int32).toInt = 1) (by omega) (by omega)
  refine sp_X9_within hn hS.1 (fun r1 d2 l3 ⟨p_3, u_4⟩ => ?_)
  have s_5 : Sq e el d2 l3 := hS.tr p_3
  have w_6 : d2 = d := p_3.2.1
  replace u_4 : (0 ≤ r1.toInt ∧ r1.toInt ≤ 1 ∧ ((r1.toInt = 1 ∧ 0 ≤ x1.toInt ∧ x1.toInt ≤ ((d 0 2) - 1).toInt) ∨ (r1.toInt = 0 ∧ ¬ (0 ≤ x1.toInt ∧ x1.toInt ≤ ((d 0 2) - 1).toInt)))) := u_4
  refine ⟨bo_nar (bo_of ⟨by omega, by omega⟩), ?_⟩
  exact hQ _ _ _ ⟨s_5, by omega⟩
set_option maxHeartbeats 4000000 in
set_option maxRecDepth 100000 in
theorem sp_X1_hasMember {n : Nat} (hn : 1000000000 ≤ n) {k0 : Nat} {x1 : Int32} {d : DD} {dl : LL} (hI : Inv d) (hk0 : k0 < 6) {Q : Int32 → DD → LL → Prop} (hQ : ∀ (r : Int32) (d2 : DD) (l2 : LL), Sq d dl d2 l2 ∧ (0 ≤ r.toInt ∧ r.toInt ≤ 1) → Q r d2 l2) : F_X1_hasMember n k0 x1 d dl Q := by
  obtain ⟨e, he⟩ : ∃ e : DD, e = d := ⟨_, rfl⟩
  obtain ⟨el, hel⟩ : ∃ el : LL, el = dl := ⟨_, rfl⟩
  have hS : Sq e el d dl := by rw [he, hel]; exact Sq.rf hI
  rw [← he, ← hel] at hQ
  show ((lg_cmp ((lushr (dl (37 + 3 * k0) 5) x1) &&& 1) 0) = 0 → Q 0 d dl) ∧ (¬ (lg_cmp ((lushr (dl (37 + 3 * k0) 5) x1) &&& 1) 0) = 0 → Q 1 d dl)
  refine ⟨fun h1 => ?_, fun h1 => ?_⟩
  · have h1 : (lg_cmp ((lushr (dl (37 + 3 * k0) 5) x1) &&& 1) 0).toInt = 0 := (i_eq rfl (rfl : (0 : Int32).toInt = 0)).mp h1
    exact hQ _ _ _ ⟨hS, (show (0 ≤ 0 ∧ 0 ≤ 1) from by omega)⟩
  · have h1 : ¬ ((lg_cmp ((lushr (dl (37 + 3 * k0) 5) x1) &&& 1) 0).toInt = 0) := fun q => h1 ((i_eq rfl (rfl : (0 : Int32).toInt = 0)).mpr q)
    exact hQ _ _ _ ⟨hS, (show (0 ≤ 1 ∧ 1 ≤ 1) from by omega)⟩
set_option maxHeartbeats 4000000 in
set_option maxRecDepth 100000 in
theorem sp_X1_seatCount {n : Nat} (hn : 1000000000 ≤ n) {k0 : Nat} {d : DD} {dl : LL} (hI : Inv d) (hk0 : k0 < 6) {Q : Int32 → DD → LL → Prop} (hQ : ∀ (r : Int32) (d2 : DD) (l2 : LL), Sq d dl d2 l2 ∧ (4 ≤ r.toInt ∧ r.toInt ≤ 8) → Q r d2 l2) : F_X1_seatCount n k0 d dl Q := by
  obtain ⟨e, he⟩ : ∃ e : DD, e = d := ⟨_, rfl⟩
  obtain ⟨el, hel⟩ : ∃ el : LL, el = dl := ⟨_, rfl⟩
  have hS : Sq e el d dl := by rw [he, hel]; exact Sq.rf hI
  rw [← he, ← hel] at hQ
  show Q ((2 : Int32) * (d (37 + 3 * k0) 0)) d dl
  have m_1 := iv_37_0 hS.1 hk0
  have t_2 : ((2 : Int32) * (d (37 + 3 * k0) 0)).toInt = 2 * (d (37 + 3 * k0) 0).toInt := ti_mul (rfl : (2 : Int32).toInt = 2) rfl (by omega) (by omega)
  exact hQ _ _ _ ⟨hS, by omega⟩
set_option maxHeartbeats 4000000 in
set_option maxRecDepth 100000 in
theorem sb_X6_loadMembers_67 {n : Nat} (hn : 1000000000 ≤ n) {e : DD} {el : LL} {Q : DD → LL → Prop} (hQ : ∀ (d2 : DD) (l2 : LL), St e el d2 l2 ∧ True → Q d2 l2) {K2 : Nat → Int32 → DD → LL → Prop} {j2 : Nat} (hK2 : ∀ (k2 : Nat) (x3 : Int32) (hk2 : k2 < 6) (d : DD) (dl : LL), St e el d dl → (0 ≤ x3.toInt ∧ x3.toInt ≤ 8) → 9 - x3.toInt < (j2 : Int) → K2 k2 x3 d dl) : ∀ (j67 : Nat) (k2 : Nat) (x3 : Int32) (x4 : Int32) (x5 : Int32) (hk2 : k2 < 6) (d : DD) (dl : LL), St e el d dl → (0 ≤ x3.toInt ∧ x3.toInt ≤ 7) → (0 ≤ x4.toInt ∧ x4.toInt ≤ 39) → (0 ≤ x5.toInt ∧ x5.toInt ≤ 8) → 9 - x3.toInt ≤ (j2 : Int) → 9 - x5.toInt < (j67 : Int) → b_X6_loadMembers_67 n Q K2 j67 k2 x3 x4 x5 d dl := by
  intro j67
  induction j67 with
  | zero =>
    intro k2 x3 x4 x5 hk2 d dl hS bx3 bx4 bx5 hm2 hm67
    exfalso
    omega
  | succ j67 hK67 =>
    intro k2 x3 x4 x5 hk2 d dl hS bx3 bx4 bx5 hm2 hm67
    show ((d 10 3) ≤ x5 → K2 k2 (x3 + 1) d dl) ∧ (¬ (d 10 3) ≤ x5 → vp_in x5 8 ∧ F_X4_areFriends n x4 (d (38 + 3 * k2) x5.toNatClampNeg) d dl (fun r17 d18 l19 => (r17 = 0 → (b_X6_loadMembers_67 n Q K2 j67) k2 x3 x4 (x5 + 1) d18 l19) ∧ (¬ r17 = 0 → vp_in x3 8 ∧ vp_in x3 8 ∧ ∀ d23 : DD, d23 = u2 d18 14 x3.toNatClampNeg ((d18 14 x3.toNatClampNeg) ||| ((1 : Int32) <<< (x5 &&& 31))) → (b_X6_loadMembers_67 n Q K2 j67) k2 x3 x4 (x5 + 1) d23 l19)))
    have m_1 := iv_10_3 hS.1
    refine ⟨fun h15 => ?_, fun h15 => ?_⟩
    · have h15 : (d 10 3).toInt ≤ x5.toInt := (i_le rfl rfl).mp h15
      have t_2 : (x3 + 1).toInt = x3.toInt + 1 := ti_add rfl (rfl : (1 : Int32).toInt = 1) (by omega) (by omega)
      exact hK2 _ _ hk2 _ _ hS (by omega) (by omega)
    · have h15 : ¬ ((d 10 3).toInt ≤ x5.toInt) := fun q => h15 ((i_le rfl rfl).mpr q)
      have ih16 : vp_in x5 8 := vin rfl (by omega) (by omega)
      refine ⟨ih16, ?_⟩
      have m_3 := iv_38 hS.1 hk2 (x5.toNatClampNeg)
      refine sp_X4_areFriends hn hS.1 ⟨by omega, by omega⟩ (fun r17 d18 l19 ⟨p_4, u_5⟩ => ?_)
      have s_6 : St e el d18 l19 := hS.sq p_4
      have w_7 : d18 = d := p_4.2.1
      replace u_5 : (0 ≤ r17.toInt ∧ r17.toInt ≤ 1) := u_5
      refine ⟨fun h20 => ?_, fun h20 => ?_⟩
      · have h20 : r17.toInt = 0 := (i_eq rfl (rfl : (0 : Int32).toInt = 0)).mp h20
        have t_8 : (x5 + 1).toInt = x5.toInt + 1 := ti_add rfl (rfl : (1 : Int32).toInt = 1) (by omega) (by omega)
        exact hK67 _ _ _ _ hk2 _ _ s_6 (by omega) (by omega) (by omega) (by omega) (by omega)
      · have h20 : ¬ (r17.toInt = 0) := fun q => h20 ((i_eq rfl (rfl : (0 : Int32).toInt = 0)).mpr q)
        have ih21 : vp_in x3 8 := vin rfl (by omega) (by omega)
        refine ⟨ih21, ?_⟩
        have ih22 : vp_in x3 8 := vin rfl (by omega) (by omega)
        refine ⟨ih22, ?_⟩
        intro d23 ed23
        have s_9 : St e el d23 l19 := by rw [ed23]; exact pv_14 s_6
        have t_10 : (x5 + 1).toInt = x5.toInt + 1 := ti_add rfl (rfl : (1 : Int32).toInt = 1) (by omega) (by omega)
        exact hK67 _ _ _ _ hk2 _ _ s_9 (by omega) (by omega) (by omega) (by omega) (by omega)
set_option maxHeartbeats 4000000 in
set_option maxRecDepth 100000 in
theorem sb_X6_loadMembers_2 {n : Nat} (hn : 1000000000 ≤ n) {e : DD} {el : LL} {Q : DD → LL → Prop} (hQ : ∀ (d2 : DD) (l2 : LL), St e el d2 l2 ∧ True → Q d2 l2) : ∀ (j2 : Nat) (k2 : Nat) (x3 : Int32) (hk2 : k2 < 6) (d : DD) (dl : LL), St e el d dl → (0 ≤ x3.toInt ∧ x3.toInt ≤ 8) → 9 - x3.toInt < (j2 : Int) → b_X6_loadMembers_2 n Q j2 k2 x3 d dl := by
  intro j2
  induction j2 with
  | zero =>
    intro k2 x3 hk2 d dl hS bx3 hm2
    exfalso
    omega
  | succ j2 hK2 =>
    intro k2 x3 hk2 d dl hS bx3 hm2
    show ((d 10 3) ≤ x3 → Q d dl) ∧ (¬ (d 10 3) ≤ x3 → vp_in x3 8 ∧ ∀ v3 : Int32, v3 = (d (38 + 3 * k2) x3.toNatClampNeg) → vp_in v3 40 ∧ vp_in x3 8 ∧ ∀ d6 : DD, d6 = u2 d 11 x3.toNatClampNeg (d 2 v3.toNatClampNeg) → vp_in v3 40 ∧ vp_in x3 8 ∧ ∀ d9 : DD, d9 = u2 d6 12 x3.toNatClampNeg (d6 3 v3.toNatClampNeg) → vp_in v3 40 ∧ vp_in x3 8 ∧ ∀ d12 : DD, d12 = u2 d9 13 x3.toNatClampNeg (d9 4 v3.toNatClampNeg) → vp_in x3 8 ∧ ∀ d14 : DD, d14 = u2 d12 14 x3.toNatClampNeg 0 → b_X6_loadMembers_67 n Q (b_X6_loadMembers_2 n Q j2) n k2 x3 v3 0 d14 dl)
    have m_11 := iv_10_3 hS.1
    refine ⟨fun h1 => ?_, fun h1 => ?_⟩
    · have h1 : (d 10 3).toInt ≤ x3.toInt := (i_le rfl rfl).mp h1
      exact hQ _ _ ⟨hS, trivial⟩
    · have h1 : ¬ ((d 10 3).toInt ≤ x3.toInt) := fun q => h1 ((i_le rfl rfl).mpr q)
      have ih2 : vp_in x3 8 := vin rfl (by omega) (by omega)
      refine ⟨ih2, ?_⟩
      have m_12 := iv_38 hS.1 hk2 (x3.toNatClampNeg)
      intro v3 e3
      have t_13 : v3.toInt = (d (38 + 3 * k2) x3.toNatClampNeg).toInt := (congrArg Int32.toInt e3).trans rfl
      have ih4 : vp_in v3 40 := vin t_13 (by omega) (by omega)
      refine ⟨ih4, ?_⟩
      have ih5 : vp_in x3 8 := vin rfl (by omega) (by omega)
      refine ⟨ih5, ?_⟩
      intro d6 ed6
      have s_14 : St e el d6 dl := by rw [ed6]; exact pv_11 hS
      have ih7 : vp_in v3 40 := vin t_13 (by omega) (by omega)
      refine ⟨ih7, ?_⟩
      have ih8 : vp_in x3 8 := vin rfl (by omega) (by omega)
      refine ⟨ih8, ?_⟩
      intro d9 ed9
      have s_15 : St e el d9 dl := by rw [ed9]; exact pv_12 s_14
      have ih10 : vp_in v3 40 := vin t_13 (by omega) (by omega)
      refine ⟨ih10, ?_⟩
      have ih11 : vp_in x3 8 := vin rfl (by omega) (by omega)
      refine ⟨ih11, ?_⟩
      intro d12 ed12
      have s_16 : St e el d12 dl := by rw [ed12]; exact pv_13 s_15
      have ih13 : vp_in x3 8 := vin rfl (by omega) (by omega)
      refine ⟨ih13, ?_⟩
      intro d14 ed14
      have s_17 : St e el d14 dl := by rw [ed14]; exact pv_14 s_16
      exact sb_X6_loadMembers_67 hn hQ hK2 n _ _ _ _ hk2 _ _ s_17 (by omega) (by omega) (show 0 ≤ 0 ∧ 0 ≤ 8 from by omega) (by omega) (show 9 - 0 < (n : Int) from by omega)
set_option maxHeartbeats 4000000 in
set_option maxRecDepth 100000 in
theorem sp_X6_loadMembers {n : Nat} (hn : 1000000000 ≤ n) {k2 : Nat} {d : DD} {dl : LL} (hI : Inv d) (hk2 : k2 < 6) {Q : DD → LL → Prop} (hQ : ∀ (d2 : DD) (l2 : LL), St d dl d2 l2 ∧ True → Q d2 l2) : F_X6_loadMembers n k2 d dl Q := by
  obtain ⟨e, he⟩ : ∃ e : DD, e = d := ⟨_, rfl⟩
  obtain ⟨el, hel⟩ : ∃ el : LL, el = dl := ⟨_, rfl⟩
  have hS : St e el d dl := by rw [he, hel]; exact St.rf hI
  rw [← he, ← hel] at hQ
  show b_X6_loadMembers_2 n Q n k2 0 d dl
  exact sb_X6_loadMembers_2 hn hQ n _ _ hk2 _ _ hS (show 0 ≤ 0 ∧ 0 ≤ 8 from by omega) (show 9 - 0 < (n : Int) from by omega)
set_option maxHeartbeats 4000000 in
set_option maxRecDepth 100000 in
theorem sp_X1_pitchFactor {n : Nat} (hn : 1000000000 ≤ n) {k0 : Nat} {x1 : Int32} {d : DD} {dl : LL} (hI : Inv d) (hk0 : k0 < 6) {Q : Int32 → DD → LL → Prop} (hQ : ∀ (r : Int32) (d2 : DD) (l2 : LL), Sq d dl d2 l2 ∧ (True) → Q r d2 l2) : F_X1_pitchFactor n k0 x1 d dl Q := by
  obtain ⟨e, he⟩ : ∃ e : DD, e = d := ⟨_, rfl⟩
  obtain ⟨el, hel⟩ : ∃ el : LL, el = dl := ⟨_, rfl⟩
  have hS : Sq e el d dl := by rw [he, hel]; exact Sq.rf hI
  rw [← he, ← hel] at hQ
  show Q (((2 : Int32) * x1) - ((d (37 + 3 * k0) 0) - 1)) d dl
  exact hQ _ _ _ ⟨hS, trivial⟩
set_option maxHeartbeats 4000000 in
set_option maxRecDepth 100000 in
theorem sp_X1_middleFactor {n : Nat} (hn : 1000000000 ≤ n) {k0 : Nat} {x1 : Int32} {d : DD} {dl : LL} (hI : Inv d) (hk0 : k0 < 6) {Q : Int32 → DD → LL → Prop} (hQ : ∀ (r : Int32) (d2 : DD) (l2 : LL), Sq d dl d2 l2 ∧ (True) → Q r d2 l2) : F_X1_middleFactor n k0 x1 d dl Q := by
  obtain ⟨e, he⟩ : ∃ e : DD, e = d := ⟨_, rfl⟩
  obtain ⟨el, hel⟩ : ∃ el : LL, el = dl := ⟨_, rfl⟩
  have hS : Sq e el d dl := by rw [he, hel]; exact Sq.rf hI
  rw [← he, ← hel] at hQ
  show Q (if (((d (37 + 3 * k0) 0) - 1) - x1) < x1 then (((d (37 + 3 * k0) 0) - 1) - x1) else x1) d dl
  have t_1 : (if (((d (37 + 3 * k0) 0) - 1) - x1) < x1 then (((d (37 + 3 * k0) 0) - 1) - x1) else x1).toInt = min x1.toInt (((d (37 + 3 * k0) 0) - 1) - x1).toInt := ti_min rfl rfl
  exact hQ _ _ _ ⟨hS, trivial⟩
set_option maxHeartbeats 4000000 in
set_option maxRecDepth 100000 in
theorem sb_X6_loadBounds_372 {n : Nat} (hn : 1000000000 ≤ n) {e : DD} {el : LL} {Q : DD → LL → Prop} (hQ : ∀ (d2 : DD) (l2 : LL), St e el d2 l2 ∧ True → Q d2 l2) {K164 : Nat → Int32 → Int32 → Int32 → Int32 → Int32 → DD → LL → Prop} {j164 : Nat} (hK164 : ∀ (k1 : Nat) (x2 : Int32) (x3 : Int32) (x4 : Int32) (x6 : Int32) (x7 : Int32) (hk1 : k1 < 6) (d : DD) (dl : LL), St e el d dl → (0 ≤ x6.toInt ∧ x6.toInt ≤ 20) → ((-1) ≤ x7.toInt ∧ x7.toInt ≤ 7) → x7.toInt + 2 < (j164 : Int) → K164 k1 x2 x3 x4 x6 x7 d dl) : ∀ (k1 : Nat) (x2 : Int32) (x3 : Int32) (x4 : Int32) (x6 : Int32) (x7 : Int32) (xs0 : Int32) (xs1 : Int32) (xs2 : Int32) (hk1 : k1 < 6) (d : DD) (dl : LL), St e el d dl → (0 ≤ x6.toInt ∧ x6.toInt ≤ 20) → (0 ≤ x7.toInt ∧ x7.toInt ≤ 7) → (0 ≤ xs0.toInt ∧ xs0.toInt ≤ 20) → (0 ≤ xs2.toInt ∧ xs2.toInt ≤ 7) → x7.toInt + 2 ≤ (j164 : Int) → b_X6_loadBounds_372 n Q K164 k1 x2 x3 x4 x6 x7 xs0 xs1 xs2 d dl := by
  intro k1 x2 x3 x4 x6 x7 xs0 xs1 xs2 hk1 d dl hS bx6 bx7 bxs0 bxs2 hm164
  show vp_in xs2 9 ∧ ∀ d53 : DD, d53 = u2 d 23 xs2.toNatClampNeg (xs1 + xs0) → K164 k1 x2 x3 x4 x6 (x7 + (-1)) d53 dl
  have ih52 : vp_in xs2 9 := vin rfl (by omega) (by omega)
  refine ⟨ih52, ?_⟩
  intro d53 ed53
  have s_1 : St e el d53 dl := by rw [ed53]; exact pv_23 hS
  have t_2 : (x7 + (-1)).toInt = x7.toInt + (-1) := ti_add rfl (rfl : ((-1) : Int32).toInt = (-1)) (by omega) (by omega)
  generalize (x7 + (-1)) = z_3 at t_2 ⊢
  exact hK164 _ _ _ _ _ _ hk1 _ _ s_1 (by omega) (by omega) (by omega)
set_option maxHeartbeats 4000000 in
set_option maxRecDepth 100000 in
theorem sb_X6_loadBounds_332 {n : Nat} (hn : 1000000000 ≤ n) {e : DD} {el : LL} {Q : DD → LL → Prop} (hQ : ∀ (d2 : DD) (l2 : LL), St e el d2 l2 ∧ True → Q d2 l2) {K164 : Nat → Int32 → Int32 → Int32 → Int32 → Int32 → DD → LL → Prop} {j164 : Nat} (hK164 : ∀ (k1 : Nat) (x2 : Int32) (x3 : Int32) (x4 : Int32) (x6 : Int32) (x7 : Int32) (hk1 : k1 < 6) (d : DD) (dl : LL), St e el d dl → (0 ≤ x6.toInt ∧ x6.toInt ≤ 20) → ((-1) ≤ x7.toInt ∧ x7.toInt ≤ 7) → x7.toInt + 2 < (j164 : Int) → K164 k1 x2 x3 x4 x6 x7 d dl) : ∀ (k1 : Nat) (x2 : Int32) (x3 : Int32) (x4 : Int32) (x6 : Int32) (x7 : Int32) (x9 : Int32) (xs0 : Int32) (xs1 : Int32) (xs2 : Int32) (xs3 : Int32) (hk1 : k1 < 6) (d : DD) (dl : LL), St e el d dl → (0 ≤ x6.toInt ∧ x6.toInt ≤ 20) → (0 ≤ x7.toInt ∧ x7.toInt ≤ 7) → (0 ≤ x9.toInt ∧ x9.toInt ≤ 1) → (0 ≤ xs3.toInt ∧ xs3.toInt ≤ 7) → x7.toInt + 2 ≤ (j164 : Int) → b_X6_loadBounds_332 n Q K164 k1 x2 x3 x4 x6 x7 x9 xs0 xs1 xs2 xs3 d dl := by
  intro k1 x2 x3 x4 x6 x7 x9 xs0 xs1 xs2 xs3 hk1 d dl hS bx6 bx7 bx9 bxs3 hm164
  show vp_in xs3 9 ∧ ∀ d48 : DD, d48 = u2 d 22 xs3.toNatClampNeg (xs2 + (xs1 * xs0)) → vp_in (x7 + 1) 9 ∧ vp_in x7 8 ∧ (x9 = 0 → b_X6_loadBounds_372 n Q K164 k1 x2 x3 x4 x6 x7 x6 ((d48 23 (x7 + 1).toNatClampNeg) + (x4 * (d48 16 x7.toNatClampNeg))) x7 d48 dl) ∧ (¬ x9 = 0 → b_X6_loadBounds_372 n Q K164 k1 x2 x3 x4 x6 x7 0 ((d48 23 (x7 + 1).toNatClampNeg) + (x4 * (d48 16 x7.toNatClampNeg))) x7 d48 dl)
  have ih47 : vp_in xs3 9 := vin rfl (by omega) (by omega)
  refine ⟨ih47, ?_⟩
  intro d48 ed48
  have s_4 : St e el d48 dl := by rw [ed48]; exact pv_22 hS
  have t_5 : (x7 + 1).toInt = x7.toInt + 1 := ti_add rfl (rfl : (1 : Int32).toInt = 1) (by omega) (by omega)
  have ih49 : vp_in (x7 + 1) 9 := vin t_5 (by omega) (by omega)
  refine ⟨ih49, ?_⟩
  have ih50 : vp_in x7 8 := vin rfl (by omega) (by omega)
  refine ⟨ih50, ?_⟩
  refine ⟨fun h51 => ?_, fun h51 => ?_⟩
  · have h51 : x9.toInt = 0 := (i_eq rfl (rfl : (0 : Int32).toInt = 0)).mp h51
    exact sb_X6_loadBounds_372 hn hQ hK164 _ _ _ _ _ _ _ _ _ hk1 _ _ s_4 (by omega) (by omega) (by omega) (by omega) (by omega)
  · have h51 : ¬ (x9.toInt = 0) := fun q => h51 ((i_eq rfl (rfl : (0 : Int32).toInt = 0)).mpr q)
    exact sb_X6_loadBounds_372 hn hQ hK164 _ _ _ _ _ _ _ _ _ hk1 _ _ s_4 (by omega) (by omega) (show 0 ≤ 0 ∧ 0 ≤ 20 from by omega) (by omega) (by omega)
set_option maxHeartbeats 4000000 in
set_option maxRecDepth 100000 in
theorem sb_X6_loadBounds_302 {n : Nat} (hn : 1000000000 ≤ n) {e : DD} {el : LL} {Q : DD → LL → Prop} (hQ : ∀ (d2 : DD) (l2 : LL), St e el d2 l2 ∧ True → Q d2 l2) {K164 : Nat → Int32 → Int32 → Int32 → Int32 → Int32 → DD → LL → Prop} {j164 : Nat} (hK164 : ∀ (k1 : Nat) (x2 : Int32) (x3 : Int32) (x4 : Int32) (x6 : Int32) (x7 : Int32) (hk1 : k1 < 6) (d : DD) (dl : LL), St e el d dl → (0 ≤ x6.toInt ∧ x6.toInt ≤ 20) → ((-1) ≤ x7.toInt ∧ x7.toInt ≤ 7) → x7.toInt + 2 < (j164 : Int) → K164 k1 x2 x3 x4 x6 x7 d dl) : ∀ (k1 : Nat) (x2 : Int32) (x3 : Int32) (x4 : Int32) (x6 : Int32) (x7 : Int32) (x9 : Int32) (x10 : Int32) (xs0 : Int32) (xs1 : Int32) (xs2 : Int32) (xs3 : Int32) (hk1 : k1 < 6) (d : DD) (dl : LL), St e el d dl → (0 ≤ x6.toInt ∧ x6.toInt ≤ 20) → (0 ≤ x7.toInt ∧ x7.toInt ≤ 7) → (0 ≤ x9.toInt ∧ x9.toInt ≤ 1) → (0 ≤ xs3.toInt ∧ xs3.toInt ≤ 7) → x7.toInt + 2 ≤ (j164 : Int) → b_X6_loadBounds_302 n Q K164 k1 x2 x3 x4 x6 x7 x9 x10 xs0 xs1 xs2 xs3 d dl := by
  intro k1 x2 x3 x4 x6 x7 x9 x10 xs0 xs1 xs2 xs3 hk1 d dl hS bx6 bx7 bx9 bxs3 hm164
  show vp_in xs3 9 ∧ ∀ d44 : DD, d44 = u2 d 21 xs3.toNatClampNeg (xs2 + (xs1 * xs0)) → vp_in (x7 + 1) 9 ∧ (0 ≤ x10 → b_X6_loadBounds_332 n Q K164 k1 x2 x3 x4 x6 x7 x9 x3 x10 (d44 22 (x7 + 1).toNatClampNeg) x7 d44 dl) ∧ (¬ 0 ≤ x10 → b_X6_loadBounds_332 n Q K164 k1 x2 x3 x4 x6 x7 x9 x2 x10 (d44 22 (x7 + 1).toNatClampNeg) x7 d44 dl)
  have ih43 : vp_in xs3 9 := vin rfl (by omega) (by omega)
  refine ⟨ih43, ?_⟩
  intro d44 ed44
  have s_6 : St e el d44 dl := by rw [ed44]; exact pv_21 hS
  have t_7 : (x7 + 1).toInt = x7.toInt + 1 := ti_add rfl (rfl : (1 : Int32).toInt = 1) (by omega) (by omega)
  have ih45 : vp_in (x7 + 1) 9 := vin t_7 (by omega) (by omega)
  refine ⟨ih45, ?_⟩
  refine ⟨fun h46 => ?_, fun h46 => ?_⟩
  · have h46 : 0 ≤ x10.toInt := (i_le (rfl : (0 : Int32).toInt = 0) rfl).mp h46
    have q_8 : d44 22 (x7 + 1).toNatClampNeg = (d 22 (x7 + 1).toNatClampNeg) := by rw [ed44, u2_row (by omega)]
    have t_9 : (d44 22 (x7 + 1).toNatClampNeg).toInt = (d 22 (x7 + 1).toNatClampNeg).toInt := (congrArg Int32.toInt q_8).trans rfl
    exact sb_X6_loadBounds_332 hn hQ hK164 _ _ _ _ _ _ _ _ _ _ _ hk1 _ _ s_6 (by omega) (by omega) (by omega) (by omega) (by omega)
  · have h46 : ¬ (0 ≤ x10.toInt) := fun q => h46 ((i_le (rfl : (0 : Int32).toInt = 0) rfl).mpr q)
    have q_10 : d44 22 (x7 + 1).toNatClampNeg = (d 22 (x7 + 1).toNatClampNeg) := by rw [ed44, u2_row (by omega)]
    have t_11 : (d44 22 (x7 + 1).toNatClampNeg).toInt = (d 22 (x7 + 1).toNatClampNeg).toInt := (congrArg Int32.toInt q_10).trans rfl
    exact sb_X6_loadBounds_332 hn hQ hK164 _ _ _ _ _ _ _ _ _ _ _ hk1 _ _ s_6 (by omega) (by omega) (by omega) (by omega) (by omega)
set_option maxHeartbeats 4000000 in
set_option maxRecDepth 100000 in
theorem sb_X6_loadBounds_273 {n : Nat} (hn : 1000000000 ≤ n) {e : DD} {el : LL} {Q : DD → LL → Prop} (hQ : ∀ (d2 : DD) (l2 : LL), St e el d2 l2 ∧ True → Q d2 l2) {K164 : Nat → Int32 → Int32 → Int32 → Int32 → Int32 → DD → LL → Prop} {j164 : Nat} (hK164 : ∀ (k1 : Nat) (x2 : Int32) (x3 : Int32) (x4 : Int32) (x6 : Int32) (x7 : Int32) (hk1 : k1 < 6) (d : DD) (dl : LL), St e el d dl → (0 ≤ x6.toInt ∧ x6.toInt ≤ 20) → ((-1) ≤ x7.toInt ∧ x7.toInt ≤ 7) → x7.toInt + 2 < (j164 : Int) → K164 k1 x2 x3 x4 x6 x7 d dl) : ∀ (k1 : Nat) (x2 : Int32) (x3 : Int32) (x4 : Int32) (x6 : Int32) (x7 : Int32) (x9 : Int32) (x10 : Int32) (xs0 : Int32) (xs1 : Int32) (xs2 : Int32) (hk1 : k1 < 6) (d : DD) (dl : LL), St e el d dl → (0 ≤ x6.toInt ∧ x6.toInt ≤ 20) → (0 ≤ x7.toInt ∧ x7.toInt ≤ 7) → (0 ≤ x9.toInt ∧ x9.toInt ≤ 1) → (0 ≤ xs2.toInt ∧ xs2.toInt ≤ 7) → x7.toInt + 2 ≤ (j164 : Int) → b_X6_loadBounds_273 n Q K164 k1 x2 x3 x4 x6 x7 x9 x10 xs0 xs1 xs2 d dl := by
  intro k1 x2 x3 x4 x6 x7 x9 x10 xs0 xs1 xs2 hk1 d dl hS bx6 bx7 bx9 bxs2 hm164
  show vp_in xs2 9 ∧ ∀ d40 : DD, d40 = u2 d 20 xs2.toNatClampNeg (xs1 + xs0) → vp_in (x7 + 1) 9 ∧ (0 ≤ x10 → b_X6_loadBounds_302 n Q K164 k1 x2 x3 x4 x6 x7 x9 x10 x2 x10 (d40 21 (x7 + 1).toNatClampNeg) x7 d40 dl) ∧ (¬ 0 ≤ x10 → b_X6_loadBounds_302 n Q K164 k1 x2 x3 x4 x6 x7 x9 x10 x3 x10 (d40 21 (x7 + 1).toNatClampNeg) x7 d40 dl)
  have ih39 : vp_in xs2 9 := vin rfl (by omega) (by omega)
  refine ⟨ih39, ?_⟩
  intro d40 ed40
  have s_12 : St e el d40 dl := by rw [ed40]; exact pv_20 hS
  have t_13 : (x7 + 1).toInt = x7.toInt + 1 := ti_add rfl (rfl : (1 : Int32).toInt = 1) (by omega) (by omega)
  have ih41 : vp_in (x7 + 1) 9 := vin t_13 (by omega) (by omega)
  refine ⟨ih41, ?_⟩
  refine ⟨fun h42 => ?_, fun h42 => ?_⟩
  · have h42 : 0 ≤ x10.toInt := (i_le (rfl : (0 : Int32).toInt = 0) rfl).mp h42
    have q_14 : d40 21 (x7 + 1).toNatClampNeg = (d 21 (x7 + 1).toNatClampNeg) := by rw [ed40, u2_row (by omega)]
    have t_15 : (d40 21 (x7 + 1).toNatClampNeg).toInt = (d 21 (x7 + 1).toNatClampNeg).toInt := (congrArg Int32.toInt q_14).trans rfl
    exact sb_X6_loadBounds_302 hn hQ hK164 _ _ _ _ _ _ _ _ _ _ _ _ hk1 _ _ s_12 (by omega) (by omega) (by omega) (by omega) (by omega)
  · have h42 : ¬ (0 ≤ x10.toInt) := fun q => h42 ((i_le (rfl : (0 : Int32).toInt = 0) rfl).mpr q)
    have q_16 : d40 21 (x7 + 1).toNatClampNeg = (d 21 (x7 + 1).toNatClampNeg) := by rw [ed40, u2_row (by omega)]
    have t_17 : (d40 21 (x7 + 1).toNatClampNeg).toInt = (d 21 (x7 + 1).toNatClampNeg).toInt := (congrArg Int32.toInt q_16).trans rfl
    exact sb_X6_loadBounds_302 hn hQ hK164 _ _ _ _ _ _ _ _ _ _ _ _ hk1 _ _ s_12 (by omega) (by omega) (by omega) (by omega) (by omega)
set_option maxHeartbeats 4000000 in
set_option maxRecDepth 100000 in
theorem sb_X6_loadBounds_245 {n : Nat} (hn : 1000000000 ≤ n) {e : DD} {el : LL} {Q : DD → LL → Prop} (hQ : ∀ (d2 : DD) (l2 : LL), St e el d2 l2 ∧ True → Q d2 l2) {K164 : Nat → Int32 → Int32 → Int32 → Int32 → Int32 → DD → LL → Prop} {j164 : Nat} (hK164 : ∀ (k1 : Nat) (x2 : Int32) (x3 : Int32) (x4 : Int32) (x6 : Int32) (x7 : Int32) (hk1 : k1 < 6) (d : DD) (dl : LL), St e el d dl → (0 ≤ x6.toInt ∧ x6.toInt ≤ 20) → ((-1) ≤ x7.toInt ∧ x7.toInt ≤ 7) → x7.toInt + 2 < (j164 : Int) → K164 k1 x2 x3 x4 x6 x7 d dl) : ∀ (k1 : Nat) (x2 : Int32) (x3 : Int32) (x4 : Int32) (x6 : Int32) (x7 : Int32) (x9 : Int32) (x10 : Int32) (xs0 : Int32) (xs1 : Int32) (xs2 : Int32) (hk1 : k1 < 6) (d : DD) (dl : LL), St e el d dl → (0 ≤ x6.toInt ∧ x6.toInt ≤ 20) → (0 ≤ x7.toInt ∧ x7.toInt ≤ 7) → (0 ≤ x9.toInt ∧ x9.toInt ≤ 1) → (0 ≤ xs2.toInt ∧ xs2.toInt ≤ 7) → x7.toInt + 2 ≤ (j164 : Int) → b_X6_loadBounds_245 n Q K164 k1 x2 x3 x4 x6 x7 x9 x10 xs0 xs1 xs2 d dl := by
  intro k1 x2 x3 x4 x6 x7 x9 x10 xs0 xs1 xs2 hk1 d dl hS bx6 bx7 bx9 bxs2 hm164
  show vp_in xs2 9 ∧ ∀ d36 : DD, d36 = u2 d 19 xs2.toNatClampNeg (xs1 + xs0) → vp_in (x7 + 1) 9 ∧ (x9 = 0 → b_X6_loadBounds_273 n Q K164 k1 x2 x3 x4 x6 x7 x9 x10 (-x2) (d36 20 (x7 + 1).toNatClampNeg) x7 d36 dl) ∧ (¬ x9 = 0 → b_X6_loadBounds_273 n Q K164 k1 x2 x3 x4 x6 x7 x9 x10 x3 (d36 20 (x7 + 1).toNatClampNeg) x7 d36 dl)
  have ih35 : vp_in xs2 9 := vin rfl (by omega) (by omega)
  refine ⟨ih35, ?_⟩
  intro d36 ed36
  have s_18 : St e el d36 dl := by rw [ed36]; exact pv_19 hS
  have t_19 : (x7 + 1).toInt = x7.toInt + 1 := ti_add rfl (rfl : (1 : Int32).toInt = 1) (by omega) (by omega)
  have ih37 : vp_in (x7 + 1) 9 := vin t_19 (by omega) (by omega)
  refine ⟨ih37, ?_⟩
  refine ⟨fun h38 => ?_, fun h38 => ?_⟩
  · have h38 : x9.toInt = 0 := (i_eq rfl (rfl : (0 : Int32).toInt = 0)).mp h38
    have q_20 : d36 20 (x7 + 1).toNatClampNeg = (d 20 (x7 + 1).toNatClampNeg) := by rw [ed36, u2_row (by omega)]
    have t_21 : (d36 20 (x7 + 1).toNatClampNeg).toInt = (d 20 (x7 + 1).toNatClampNeg).toInt := (congrArg Int32.toInt q_20).trans rfl
    exact sb_X6_loadBounds_273 hn hQ hK164 _ _ _ _ _ _ _ _ _ _ _ hk1 _ _ s_18 (by omega) (by omega) (by omega) (by omega) (by omega)
  · have h38 : ¬ (x9.toInt = 0) := fun q => h38 ((i_eq rfl (rfl : (0 : Int32).toInt = 0)).mpr q)
    have q_22 : d36 20 (x7 + 1).toNatClampNeg = (d 20 (x7 + 1).toNatClampNeg) := by rw [ed36, u2_row (by omega)]
    have t_23 : (d36 20 (x7 + 1).toNatClampNeg).toInt = (d 20 (x7 + 1).toNatClampNeg).toInt := (congrArg Int32.toInt q_22).trans rfl
    exact sb_X6_loadBounds_273 hn hQ hK164 _ _ _ _ _ _ _ _ _ _ _ hk1 _ _ s_18 (by omega) (by omega) (by omega) (by omega) (by omega)
set_option maxHeartbeats 4000000 in
set_option maxRecDepth 100000 in
theorem sb_X6_loadBounds_187 {n : Nat} (hn : 1000000000 ≤ n) {e : DD} {el : LL} {Q : DD → LL → Prop} (hQ : ∀ (d2 : DD) (l2 : LL), St e el d2 l2 ∧ True → Q d2 l2) {K164 : Nat → Int32 → Int32 → Int32 → Int32 → Int32 → DD → LL → Prop} {j164 : Nat} (hK164 : ∀ (k1 : Nat) (x2 : Int32) (x3 : Int32) (x4 : Int32) (x6 : Int32) (x7 : Int32) (hk1 : k1 < 6) (d : DD) (dl : LL), St e el d dl → (0 ≤ x6.toInt ∧ x6.toInt ≤ 20) → ((-1) ≤ x7.toInt ∧ x7.toInt ≤ 7) → x7.toInt + 2 < (j164 : Int) → K164 k1 x2 x3 x4 x6 x7 d dl) : ∀ (k1 : Nat) (x2 : Int32) (x3 : Int32) (x4 : Int32) (x6 : Int32) (x7 : Int32) (x8 : Int32) (xs0 : Int32) (hk1 : k1 < 6) (d : DD) (dl : LL), St e el d dl → (0 ≤ x6.toInt ∧ x6.toInt ≤ 20) → (0 ≤ x7.toInt ∧ x7.toInt ≤ 7) → (0 ≤ x8.toInt ∧ x8.toInt ≤ 3) → (0 ≤ xs0.toInt ∧ xs0.toInt ≤ 1) → x7.toInt + 2 ≤ (j164 : Int) → b_X6_loadBounds_187 n Q K164 k1 x2 x3 x4 x6 x7 x8 xs0 d dl := by
  intro k1 x2 x3 x4 x6 x7 x8 xs0 hk1 d dl hS bx6 bx7 bx8 bxs0 hm164
  show F_X1_pitchFactor n k1 x8 d dl (fun r23 d24 l25 => vp_in x7 8 ∧ ∀ d27 : DD, d27 = u2 d24 15 x7.toNatClampNeg r23 → F_X1_middleFactor n k1 x8 d27 l25 (fun r28 d29 l30 => vp_in x7 8 ∧ ∀ d32 : DD, d32 = u2 d29 16 x7.toNatClampNeg r28 → vp_in (x7 + 1) 9 ∧ (xs0 = 0 → b_X6_loadBounds_245 n Q K164 k1 x2 x3 x4 x6 x7 xs0 r23 (-x3) (d32 19 (x7 + 1).toNatClampNeg) x7 d32 l30) ∧ (¬ xs0 = 0 → b_X6_loadBounds_245 n Q K164 k1 x2 x3 x4 x6 x7 xs0 r23 x2 (d32 19 (x7 + 1).toNatClampNeg) x7 d32 l30)))
  refine sp_X1_pitchFactor hn hS.1 hk1 (fun r23 d24 l25 ⟨p_24, u_25⟩ => ?_)
  have s_26 : St e el d24 l25 := hS.sq p_24
  have w_27 : d24 = d := p_24.2.1
  have ih26 : vp_in x7 8 := vin rfl (by omega) (by omega)
  refine ⟨ih26, ?_⟩
  intro d27 ed27
  have s_28 : St e el d27 l25 := by rw [ed27]; exact pv_15 s_26
  refine sp_X1_middleFactor hn s_28.1 hk1 (fun r28 d29 l30 ⟨p_29, u_30⟩ => ?_)
  have s_31 : St e el d29 l30 := s_28.sq p_29
  have w_32 : d29 = d27 := p_29.2.1
  have ih31 : vp_in x7 8 := vin rfl (by omega) (by omega)
  refine ⟨ih31, ?_⟩
  intro d32 ed32
  have s_33 : St e el d32 l30 := by rw [ed32]; exact pv_16 s_31
  have t_34 : (x7 + 1).toInt = x7.toInt + 1 := ti_add rfl (rfl : (1 : Int32).toInt = 1) (by omega) (by omega)
  have ih33 : vp_in (x7 + 1) 9 := vin t_34 (by omega) (by omega)
  refine ⟨ih33, ?_⟩
  refine ⟨fun h34 => ?_, fun h34 => ?_⟩
  · have h34 : xs0.toInt = 0 := (i_eq rfl (rfl : (0 : Int32).toInt = 0)).mp h34
    have q_35 : d32 19 (x7 + 1).toNatClampNeg = (d 19 (x7 + 1).toNatClampNeg) := by rw [ed32, u2_row (by omega)]; rw [w_32]; rw [ed27, u2_row (by omega)]; rw [w_27]
    have t_36 : (d32 19 (x7 + 1).toNatClampNeg).toInt = (d 19 (x7 + 1).toNatClampNeg).toInt := (congrArg Int32.toInt q_35).trans rfl
    exact sb_X6_loadBounds_245 hn hQ hK164 _ _ _ _ _ _ _ _ _ _ _ hk1 _ _ s_33 (by omega) (by omega) (by omega) (by omega) (by omega)
  · have h34 : ¬ (xs0.toInt = 0) := fun q => h34 ((i_eq rfl (rfl : (0 : Int32).toInt = 0)).mpr q)
    have q_37 : d32 19 (x7 + 1).toNatClampNeg = (d 19 (x7 + 1).toNatClampNeg) := by rw [ed32, u2_row (by omega)]; rw [w_32]; rw [ed27, u2_row (by omega)]; rw [w_27]
    have t_38 : (d32 19 (x7 + 1).toNatClampNeg).toInt = (d 19 (x7 + 1).toNatClampNeg).toInt := (congrArg Int32.toInt q_37).trans rfl
    exact sb_X6_loadBounds_245 hn hQ hK164 _ _ _ _ _ _ _ _ _ _ _ hk1 _ _ s_33 (by omega) (by omega) (by omega) (by omega) (by omega)
