set_option maxHeartbeats 4000000 in
set_option maxRecDepth 100000 in
theorem sb_X5_holds_39 {n : Nat} (hn : 1000000000 ≤ n) {e : DD} {el : LL} {Q : Int32 → DD → LL → Prop} (hQ : ∀ (r : Int32) (d2 : DD) (l2 : LL), Sq e el d2 l2 ∧ (0 ≤ r.toInt ∧ r.toInt ≤ 1) → Q r d2 l2) {K7 : Nat → Int32 → Int32 → Int32 → DD → LL → Prop} {j7 : Nat} (hK7 : ∀ (k0 : Nat) (x2 : Int32) (x3 : Int32) (x4 : Int32) (hk0 : k0 < 6) (d : DD) (dl : LL), Sq e el d dl → (0 ≤ x2.toInt ∧ x2.toInt ≤ 1) → (0 ≤ x3.toInt ∧ x3.toInt ≤ 1) → (0 ≤ x4.toInt ∧ x4.toInt ≤ 8) → 9 - x4.toInt < (j7 : Int) → K7 k0 x2 x3 x4 d dl) : ∀ (k0 : Nat) (x4 : Int32) (xs0 : Int32) (hk0 : k0 < 6) (d : DD) (dl : LL), Sq e el d dl → (0 ≤ x4.toInt ∧ x4.toInt ≤ 7) → (0 ≤ xs0.toInt ∧ xs0.toInt ≤ 1) → 9 - x4.toInt ≤ (j7 : Int) → b_X5_holds_39 n Q K7 k0 x4 xs0 d dl := by
  intro k0 x4 xs0 hk0 d dl hS bx4 bxs0 hm7
  show b_X5_holds_42 n Q K7 k0 xs0 1 x4 d dl
  exact sb_X5_holds_42 hn hQ hK7 _ _ _ _ hk0 _ _ hS (by omega) (show 0 ≤ 1 ∧ 1 ≤ 1 from by omega) (by omega) (by omega)
set_option maxHeartbeats 4000000 in
set_option maxRecDepth 100000 in
theorem sb_X5_holds_34 {n : Nat} (hn : 1000000000 ≤ n) {e : DD} {el : LL} {Q : Int32 → DD → LL → Prop} (hQ : ∀ (r : Int32) (d2 : DD) (l2 : LL), Sq e el d2 l2 ∧ (0 ≤ r.toInt ∧ r.toInt ≤ 1) → Q r d2 l2) {K7 : Nat → Int32 → Int32 → Int32 → DD → LL → Prop} {j7 : Nat} (hK7 : ∀ (k0 : Nat) (x2 : Int32) (x3 : Int32) (x4 : Int32) (hk0 : k0 < 6) (d : DD) (dl : LL), Sq e el d dl → (0 ≤ x2.toInt ∧ x2.toInt ≤ 1) → (0 ≤ x3.toInt ∧ x3.toInt ≤ 1) → (0 ≤ x4.toInt ∧ x4.toInt ≤ 8) → 9 - x4.toInt < (j7 : Int) → K7 k0 x2 x3 x4 d dl) : ∀ (k0 : Nat) (x4 : Int32) (hk0 : k0 < 6) (d : DD) (dl : LL), Sq e el d dl → (0 ≤ x4.toInt ∧ x4.toInt ≤ 7) → 9 - x4.toInt ≤ (j7 : Int) → b_X5_holds_34 n Q K7 k0 x4 d dl := by
  intro k0 x4 hk0 d dl hS bx4 hm7
  show b_X5_holds_39 n Q K7 k0 x4 1 d dl
  exact sb_X5_holds_39 hn hQ hK7 _ _ _ hk0 _ _ hS (by omega) (show 0 ≤ 1 ∧ 1 ≤ 1 from by omega) (by omega)
set_option maxHeartbeats 4000000 in
set_option maxRecDepth 100000 in
theorem sb_X5_holds_7 {n : Nat} (hn : 1000000000 ≤ n) {e : DD} {el : LL} {Q : Int32 → DD → LL → Prop} (hQ : ∀ (r : Int32) (d2 : DD) (l2 : LL), Sq e el d2 l2 ∧ (0 ≤ r.toInt ∧ r.toInt ≤ 1) → Q r d2 l2) : ∀ (j7 : Nat) (k0 : Nat) (x2 : Int32) (x3 : Int32) (x4 : Int32) (hk0 : k0 < 6) (d : DD) (dl : LL), Sq e el d dl → (0 ≤ x2.toInt ∧ x2.toInt ≤ 1) → (0 ≤ x3.toInt ∧ x3.toInt ≤ 1) → (0 ≤ x4.toInt ∧ x4.toInt ≤ 8) → 9 - x4.toInt < (j7 : Int) → b_X5_holds_7 n Q j7 k0 x2 x3 x4 d dl := by
  intro j7
  induction j7 with
  | zero =>
    intro k0 x2 x3 x4 hk0 d dl hS bx2 bx3 bx4 hm7
    exfalso
    omega
  | succ j7 hK7 =>
    intro k0 x2 x3 x4 hk0 d dl hS bx2 bx3 bx4 hm7
    show ((d (55 + 6 * k0) 0) ≤ x4 → (¬ x2 = 0 → Q 1 d dl) ∧ (x2 = 0 → (x3 = 0 → Q 0 d dl) ∧ (¬ x3 = 0 → Q 1 d dl))) ∧ (¬ (d (55 + 6 * k0) 0) ≤ x4 → vp_in x4 8 ∧ ((d (60 + 6 * k0) x4.toNatClampNeg) = 0 → b_X5_holds_42 n Q (b_X5_holds_7 n Q j7) k0 x2 x3 x4 d dl) ∧ (¬ (d (60 + 6 * k0) x4.toNatClampNeg) = 0 → (¬ x2 = 0 → b_X5_holds_34 n Q (b_X5_holds_7 n Q j7) k0 x4 d dl) ∧ (x2 = 0 → (x3 = 0 → b_X5_holds_39 n Q (b_X5_holds_7 n Q j7) k0 x4 0 d dl) ∧ (¬ x3 = 0 → b_X5_holds_34 n Q (b_X5_holds_7 n Q j7) k0 x4 d dl))))
    have m_8 := iv_55_0 hS.1 hk0
    refine ⟨fun h1 => ?_, fun h1 => ?_⟩
    · have h1 : (d (55 + 6 * k0) 0).toInt ≤ x4.toInt := (i_le rfl rfl).mp h1
      refine ⟨fun h2 => ?_, fun h2 => ?_⟩
      · have h2 : ¬ (x2.toInt = 0) := fun q => h2 ((i_eq rfl (rfl : (0 : Int32).toInt = 0)).mpr q)
        exact hQ _ _ _ ⟨hS, (show (0 ≤ 1 ∧ 1 ≤ 1) from by omega)⟩
      · have h2 : x2.toInt = 0 := (i_eq rfl (rfl : (0 : Int32).toInt = 0)).mp h2
        refine ⟨fun h3 => ?_, fun h3 => ?_⟩
        · have h3 : x3.toInt = 0 := (i_eq rfl (rfl : (0 : Int32).toInt = 0)).mp h3
          exact hQ _ _ _ ⟨hS, (show (0 ≤ 0 ∧ 0 ≤ 1) from by omega)⟩
        · have h3 : ¬ (x3.toInt = 0) := fun q => h3 ((i_eq rfl (rfl : (0 : Int32).toInt = 0)).mpr q)
          exact hQ _ _ _ ⟨hS, (show (0 ≤ 1 ∧ 1 ≤ 1) from by omega)⟩
    · have h1 : ¬ ((d (55 + 6 * k0) 0).toInt ≤ x4.toInt) := fun q => h1 ((i_le rfl rfl).mpr q)
      have ih4 : vp_in x4 8 := vin rfl (by omega) (by omega)
      refine ⟨ih4, ?_⟩
      have m_9 := iv_60 hS.1 hk0 (x4.toNatClampNeg)
      refine ⟨fun h5 => ?_, fun h5 => ?_⟩
      · have h5 : (d (60 + 6 * k0) x4.toNatClampNeg).toInt = 0 := (i_eq rfl (rfl : (0 : Int32).toInt = 0)).mp h5
        exact sb_X5_holds_42 hn hQ hK7 _ _ _ _ hk0 _ _ hS (by omega) (by omega) (by omega) (by omega)
      · have h5 : ¬ ((d (60 + 6 * k0) x4.toNatClampNeg).toInt = 0) := fun q => h5 ((i_eq rfl (rfl : (0 : Int32).toInt = 0)).mpr q)
        refine ⟨fun h13 => ?_, fun h13 => ?_⟩
        · have h13 : ¬ (x2.toInt = 0) := fun q => h13 ((i_eq rfl (rfl : (0 : Int32).toInt = 0)).mpr q)
          exact sb_X5_holds_34 hn hQ hK7 _ _ hk0 _ _ hS (by omega) (by omega)
        · have h13 : x2.toInt = 0 := (i_eq rfl (rfl : (0 : Int32).toInt = 0)).mp h13
          refine ⟨fun h14 => ?_, fun h14 => ?_⟩
          · have h14 : x3.toInt = 0 := (i_eq rfl (rfl : (0 : Int32).toInt = 0)).mp h14
            exact sb_X5_holds_39 hn hQ hK7 _ _ _ hk0 _ _ hS (by omega) (show 0 ≤ 0 ∧ 0 ≤ 1 from by omega) (by omega)
          · have h14 : ¬ (x3.toInt = 0) := fun q => h14 ((i_eq rfl (rfl : (0 : Int32).toInt = 0)).mpr q)
            exact sb_X5_holds_34 hn hQ hK7 _ _ hk0 _ _ hS (by omega) (by omega)
set_option maxHeartbeats 4000000 in
set_option maxRecDepth 100000 in
theorem sp_X5_holds {n : Nat} (hn : 1000000000 ≤ n) {k0 : Nat} {d : DD} {dl : LL} (hI : Inv d) (hk0 : k0 < 6) {Q : Int32 → DD → LL → Prop} (hQ : ∀ (r : Int32) (d2 : DD) (l2 : LL), Sq d dl d2 l2 ∧ (0 ≤ r.toInt ∧ r.toInt ≤ 1) → Q r d2 l2) : F_X5_holds n k0 d dl Q := by
  obtain ⟨e, he⟩ : ∃ e : DD, e = d := ⟨_, rfl⟩
  obtain ⟨el, hel⟩ : ∃ el : LL, el = dl := ⟨_, rfl⟩
  have hS : Sq e el d dl := by rw [he, hel]; exact Sq.rf hI
  rw [← he, ← hel] at hQ
  show b_X5_holds_7 n Q n k0 0 1 0 d dl
  exact sb_X5_holds_7 hn hQ n _ _ _ _ hk0 _ _ hS (show 0 ≤ 0 ∧ 0 ≤ 1 from by omega) (show 0 ≤ 1 ∧ 1 ≤ 1 from by omega) (show 0 ≤ 0 ∧ 0 ≤ 8 from by omega) (show 9 - 0 < (n : Int) from by omega)
set_option maxHeartbeats 4000000 in
set_option maxRecDepth 100000 in
theorem sp_X9_keeps {n : Nat} (hn : 1000000000 ≤ n) {x1 : Int32} {x2 : Int32} {d : DD} {dl : LL} (hI : Inv d) {Q : Int32 → DD → LL → Prop} (hQ : ∀ (r : Int32) (d2 : DD) (l2 : LL), St d dl d2 l2 ∧ ((-3) ≤ r.toInt ∧ r.toInt ≤ 1) → Q r d2 l2) : F_X9_keeps n x1 x2 d dl Q := by
  obtain ⟨e, he⟩ : ∃ e : DD, e = d := ⟨_, rfl⟩
  obtain ⟨el, hel⟩ : ∃ el : LL, el = dl := ⟨_, rfl⟩
  have hS : St e el d dl := by rw [he, hel]; exact St.rf hI
  rw [← he, ← hel] at hQ
  show F_X9_isCrew n x1 d dl (fun r1 d2 l3 => (r1 = 0 → Q (-1) d2 l3) ∧ (¬ r1 = 0 → F_X9_within n x2 0 ((d2 0 7) - 1) d2 l3 (fun r5 d6 l7 => (¬ r5 = 0 → vp_in x1 6 ∧ ∀ k10 : Nat, k10 = x1.toNatClampNeg → (¬ (d6 (37 + 3 * k10) 6) = 0 → vp_in x1 6 ∧ ∀ k13 : Nat, k13 = x1.toNatClampNeg → F_X9_tallySeated n k13 d6 l7 (fun d15 l16 => vp_in x2 6 ∧ ∀ k18 : Nat, k18 = x2.toNatClampNeg → F_X5_holds n k18 d15 l16 (fun r19 d20 l21 => (r19 = 0 → Q 0 d20 l21) ∧ (¬ r19 = 0 → Q 1 d20 l21)))) ∧ ((d6 (37 + 3 * k10) 6) = 0 → Q (-3) d6 l7)) ∧ (r5 = 0 → Q (-1) d6 l7))))
  refine sp_X9_isCrew hn hS.1 (fun r1 d2 l3 ⟨p_1, u_2⟩ => ?_)
  have s_3 : St e el d2 l3 := hS.sq p_1
  have w_4 : d2 = d := p_1.2.1
  replace u_2 : (0 ≤ r1.toInt ∧ r1.toInt ≤ 1 ∧ ((r1.toInt = 1 ∧ 0 ≤ x1.toInt ∧ x1.toInt < (d 0 2).toInt) ∨ (r1.toInt = 0 ∧ ¬ (0 ≤ x1.toInt ∧ x1.toInt < (d 0 2).toInt)))) := u_2
  have m_5 := iv_0_2 hS.1
  refine ⟨fun h4 => ?_, fun h4 => ?_⟩
  · have h4 : r1.toInt = 0 := (i_eq rfl (rfl : (0 : Int32).toInt = 0)).mp h4
    exact hQ _ _ _ ⟨s_3, (show ((-3) ≤ (-1) ∧ (-1) ≤ 1) from by omega)⟩
  · have h4 : ¬ (r1.toInt = 0) := fun q => h4 ((i_eq rfl (rfl : (0 : Int32).toInt = 0)).mpr q)
    have q_6 : d2 0 7 = (d 0 7) := by rw [w_4]
    have m_7 := iv_0_7 hS.1
    have t_8 : (d2 0 7).toInt = (d 0 7).toInt := (congrArg Int32.toInt q_6).trans rfl
    have t_9 : ((d2 0 7) - 1).toInt = (d 0 7).toInt - 1 := ti_sub t_8 (rfl : (1 : Int32).toInt = 1) (by omega) (by omega)
    refine sp_X9_within hn s_3.1 (fun r5 d6 l7 ⟨p_10, u_11⟩ => ?_)
    have s_12 : St e el d6 l7 := s_3.sq p_10
    have w_13 : d6 = d2 := p_10.2.1
    replace u_11 : (0 ≤ r5.toInt ∧ r5.toInt ≤ 1 ∧ ((r5.toInt = 1 ∧ 0 ≤ x2.toInt ∧ x2.toInt ≤ ((d2 0 7) - 1).toInt) ∨ (r5.toInt = 0 ∧ ¬ (0 ≤ x2.toInt ∧ x2.toInt ≤ ((d2 0 7) - 1).toInt)))) := u_11
    refine ⟨fun h8 => ?_, fun h8 => ?_⟩
    · have h8 : ¬ (r5.toInt = 0) := fun q => h8 ((i_eq rfl (rfl : (0 : Int32).toInt = 0)).mpr q)
      have ih9 : vp_in x1 6 := vin rfl (by omega) (by omega)
      refine ⟨ih9, ?_⟩
      intro k10 ek10
      have hk10 : k10 < 6 := by rw [ek10]; exact clamp_in ih9
      have q_14 : d6 (37 + 3 * k10) 6 = (d (37 + 3 * k10) 6) := by rw [w_13]; rw [w_4]
      have m_15 := iv_37_6 hS.1 hk10
      have t_16 : (d6 (37 + 3 * k10) 6).toInt = (d (37 + 3 * k10) 6).toInt := (congrArg Int32.toInt q_14).trans rfl
      refine ⟨fun h11 => ?_, fun h11 => ?_⟩
      · have h11 : ¬ ((d (37 + 3 * k10) 6).toInt = 0) := fun q => h11 ((i_eq t_16 (rfl : (0 : Int32).toInt = 0)).mpr q)
        have ih12 : vp_in x1 6 := vin rfl (by omega) (by omega)
        refine ⟨ih12, ?_⟩
        intro k13 ek13
        have hk13 : k13 < 6 := by rw [ek13]; exact clamp_in ih12
        refine sp_X9_tallySeated hn s_12.1 hk13 (fun d15 l16 ⟨p_17, u_18⟩ => ?_)
        have s_19 : St e el d15 l16 := s_12.tr p_17
        have ih17 : vp_in x2 6 := vin rfl (by omega) (by omega)
        refine ⟨ih17, ?_⟩
        intro k18 ek18
        have hk18 : k18 < 6 := by rw [ek18]; exact clamp_in ih17
        refine sp_X5_holds hn s_19.1 hk18 (fun r19 d20 l21 ⟨p_20, u_21⟩ => ?_)
        have s_22 : St e el d20 l21 := s_19.sq p_20
        have w_23 : d20 = d15 := p_20.2.1
        replace u_21 : (0 ≤ r19.toInt ∧ r19.toInt ≤ 1) := u_21
        refine ⟨fun h22 => ?_, fun h22 => ?_⟩
        · have h22 : r19.toInt = 0 := (i_eq rfl (rfl : (0 : Int32).toInt = 0)).mp h22
          exact hQ _ _ _ ⟨s_22, (show ((-3) ≤ 0 ∧ 0 ≤ 1) from by omega)⟩
        · have h22 : ¬ (r19.toInt = 0) := fun q => h22 ((i_eq rfl (rfl : (0 : Int32).toInt = 0)).mpr q)
          exact hQ _ _ _ ⟨s_22, (show ((-3) ≤ 1 ∧ 1 ≤ 1) from by omega)⟩
      · have h11 : (d (37 + 3 * k10) 6).toInt = 0 := (i_eq t_16 (rfl : (0 : Int32).toInt = 0)).mp h11
        exact hQ _ _ _ ⟨s_12, (show ((-3) ≤ (-3) ∧ (-3) ≤ 1) from by omega)⟩
    · have h8 : r5.toInt = 0 := (i_eq rfl (rfl : (0 : Int32).toInt = 0)).mp h8
      exact hQ _ _ _ ⟨s_12, (show ((-3) ≤ (-1) ∧ (-1) ≤ 1) from by omega)⟩
set_option maxHeartbeats 4000000 in
set_option maxRecDepth 100000 in
theorem sp_X9_isLane {n : Nat} (hn : 1000000000 ≤ n) {x0 : Int32} {d : DD} {dl : LL} (hI : Inv d) {Q : Int32 → DD → LL → Prop} (hQ : ∀ (r : Int32) (d2 : DD) (l2 : LL), Sq d dl d2 l2 ∧ (0 ≤ r.toInt ∧ r.toInt ≤ 1 ∧ ((r.toInt = 1 ∧ 0 ≤ x0.toInt ∧ x0.toInt ≤ 3) ∨ (r.toInt = 0 ∧ ¬ (0 ≤ x0.toInt ∧ x0.toInt ≤ 3)))) → Q r d2 l2) : F_X9_isLane n x0 d dl Q := by
  obtain ⟨e, he⟩ : ∃ e : DD, e = d := ⟨_, rfl⟩
  obtain ⟨el, hel⟩ : ∃ el : LL, el = dl := ⟨_, rfl⟩
  have hS : Sq e el d dl := by rw [he, hel]; exact Sq.rf hI
  rw [← he, ← hel] at hQ
  show F_X9_within n x0 0 3 d dl (fun r1 d2 l3 => narrow .boolean (.int r1) = .int r1 ∧ Q r1 d2 l3)
  refine sp_X9_within hn hS.1 (fun r1 d2 l3 ⟨p_1, u_2⟩ => ?_)
  have s_3 : Sq e el d2 l3 := hS.tr p_1
  have w_4 : d2 = d := p_1.2.1
  replace u_2 : (0 ≤ r1.toInt ∧ r1.toInt ≤ 1 ∧ ((r1.toInt = 1 ∧ 0 ≤ x0.toInt ∧ x0.toInt ≤ 3) ∨ (r1.toInt = 0 ∧ ¬ (0 ≤ x0.toInt ∧ x0.toInt ≤ 3)))) := u_2
  refine ⟨bo_nar (bo_of ⟨by omega, by omega⟩), ?_⟩
  exact hQ _ _ _ ⟨s_3, by omega⟩
set_option maxHeartbeats 4000000 in
set_option maxRecDepth 100000 in
theorem sb_X9_isMetByOneOf_2 {n : Nat} (hn : 1000000000 ≤ n) {e : DD} {el : LL} {Q : Int32 → DD → LL → Prop} (hQ : ∀ (r : Int32) (d2 : DD) (l2 : LL), Sq e el d2 l2 ∧ (0 ≤ r.toInt ∧ r.toInt ≤ 1) → Q r d2 l2) : ∀ (j2 : Nat) (c1 : Nat) (x2 : Int32) (x3 : Int32) (hc1 : KL c1 11 4) (d : DD) (dl : LL), Sq e el d dl → (0 ≤ x2.toInt ∧ x2.toInt ≤ 5) → (0 ≤ x3.toInt ∧ x3.toInt ≤ 4) → (RowB c1) → 5 - x3.toInt < (j2 : Int) → b_X9_isMetByOneOf_2 n Q j2 c1 x2 x3 d dl := by
  intro j2
  induction j2 with
  | zero =>
    intro c1 x2 x3 hc1 d dl hS bx2 bx3 hrow hm2
    exfalso
    omega
  | succ j2 hK2 =>
    intro c1 x2 x3 hc1 d dl hS bx2 bx3 hrow hm2
    show (4 ≤ x3 → Q 0 d dl) ∧ (¬ 4 ≤ x3 → vp_in x3 4 ∧ ∀ v3 : Int32, v3 = (d c1 x3.toNatClampNeg) → (v3 = (-1) → (b_X9_isMetByOneOf_2 n Q j2) c1 x2 (x3 + 1) d dl) ∧ (¬ v3 = (-1) → (v3 = x2 → Q 1 d dl) ∧ (¬ v3 = x2 → vp_in v3 6 ∧ ∀ k7 : Nat, k7 = v3.toNatClampNeg → vp_in x2 6 ∧ ∀ k9 : Nat, k9 = x2.toNatClampNeg → ((lg_cmp ((dl (37 + 3 * k7) 5) &&& (dl (37 + 3 * k9) 5)) 0) = 0 → (b_X9_isMetByOneOf_2 n Q j2) c1 x2 (x3 + 1) d dl) ∧ (¬ (lg_cmp ((dl (37 + 3 * k7) 5) &&& (dl (37 + 3 * k9) 5)) 0) = 0 → Q 1 d dl))))
    refine ⟨fun h1 => ?_, fun h1 => ?_⟩
    · have h1 : 4 ≤ x3.toInt := (i_le (rfl : (4 : Int32).toInt = 4) rfl).mp h1
      exact hQ _ _ _ ⟨hS, (show (0 ≤ 0 ∧ 0 ≤ 1) from by omega)⟩
    · have h1 : ¬ (4 ≤ x3.toInt) := fun q => h1 ((i_le (rfl : (4 : Int32).toInt = 4) rfl).mpr q)
      have ih2 : vp_in x3 4 := vin rfl (by omega) (by omega)
      refine ⟨ih2, ?_⟩
      have m_1 := rowb_iv hS.1 hrow (x3.toNatClampNeg)
      intro v3 e3
      have t_2 : v3.toInt = (d c1 x3.toNatClampNeg).toInt := (congrArg Int32.toInt e3).trans rfl
      refine ⟨fun h4 => ?_, fun h4 => ?_⟩
      · have h4 : (d c1 x3.toNatClampNeg).toInt = (-1) := (i_eq t_2 (rfl : ((-1) : Int32).toInt = (-1))).mp h4
        have t_3 : (x3 + 1).toInt = x3.toInt + 1 := ti_add rfl (rfl : (1 : Int32).toInt = 1) (by omega) (by omega)
        exact hK2 _ _ _ hc1 _ _ hS (by omega) (by omega) hrow (by omega)
      · have h4 : ¬ ((d c1 x3.toNatClampNeg).toInt = (-1)) := fun q => h4 ((i_eq t_2 (rfl : ((-1) : Int32).toInt = (-1))).mpr q)
        refine ⟨fun h5 => ?_, fun h5 => ?_⟩
        · have h5 : (d c1 x3.toNatClampNeg).toInt = x2.toInt := (i_eq t_2 rfl).mp h5
          exact hQ _ _ _ ⟨hS, (show (0 ≤ 1 ∧ 1 ≤ 1) from by omega)⟩
        · have h5 : ¬ ((d c1 x3.toNatClampNeg).toInt = x2.toInt) := fun q => h5 ((i_eq t_2 rfl).mpr q)
          have ih6 : vp_in v3 6 := vin t_2 (by omega) (by omega)
          refine ⟨ih6, ?_⟩
          intro k7 ek7
          have hk7 : k7 < 6 := by rw [ek7]; exact clamp_in ih6
          have ih8 : vp_in x2 6 := vin rfl (by omega) (by omega)
          refine ⟨ih8, ?_⟩
          intro k9 ek9
          have hk9 : k9 < 6 := by rw [ek9]; exact clamp_in ih8
          refine ⟨fun h10 => ?_, fun h10 => ?_⟩
          · have h10 : (lg_cmp ((dl (37 + 3 * k7) 5) &&& (dl (37 + 3 * k9) 5)) 0).toInt = 0 := (i_eq rfl (rfl : (0 : Int32).toInt = 0)).mp h10
            have t_4 : (x3 + 1).toInt = x3.toInt + 1 := ti_add rfl (rfl : (1 : Int32).toInt = 1) (by omega) (by omega)
            exact hK2 _ _ _ hc1 _ _ hS (by omega) (by omega) hrow (by omega)
          · have h10 : ¬ ((lg_cmp ((dl (37 + 3 * k7) 5) &&& (dl (37 + 3 * k9) 5)) 0).toInt = 0) := fun q => h10 ((i_eq rfl (rfl : (0 : Int32).toInt = 0)).mpr q)
            exact hQ _ _ _ ⟨hS, (show (0 ≤ 1 ∧ 1 ≤ 1) from by omega)⟩
set_option maxHeartbeats 4000000 in
set_option maxRecDepth 100000 in
theorem sp_X9_isMetByOneOf {n : Nat} (hn : 1000000000 ≤ n) {c1 : Nat} {x2 : Int32} {d : DD} {dl : LL} (hI : Inv d) (hc1 : KL c1 11 4) (bx2 : 0 ≤ x2.toInt ∧ x2.toInt ≤ 5) (hrow : RowB c1) {Q : Int32 → DD → LL → Prop} (hQ : ∀ (r : Int32) (d2 : DD) (l2 : LL), Sq d dl d2 l2 ∧ (0 ≤ r.toInt ∧ r.toInt ≤ 1) → Q r d2 l2) : F_X9_isMetByOneOf n c1 x2 d dl Q := by
  obtain ⟨e, he⟩ : ∃ e : DD, e = d := ⟨_, rfl⟩
  obtain ⟨el, hel⟩ : ∃ el : LL, el = dl := ⟨_, rfl⟩
  have hS : Sq e el d dl := by rw [he, hel]; exact Sq.rf hI
  rw [← he, ← hel] at hQ
  show b_X9_isMetByOneOf_2 n Q n c1 x2 0 d dl
  exact sb_X9_isMetByOneOf_2 hn hQ n _ _ _ hc1 _ _ hS (by omega) (show 0 ≤ 0 ∧ 0 ≤ 4 from by omega) hrow (show 5 - 0 < (n : Int) from by omega)
set_option maxHeartbeats 4000000 in
set_option maxRecDepth 100000 in
theorem sb_X9_howManyWait_25 {n : Nat} (hn : 1000000000 ≤ n) {e : DD} {el : LL} {Q : Int32 → DD → LL → Prop} (hQ : ∀ (r : Int32) (d2 : DD) (l2 : LL), Sq e el d2 l2 ∧ (True) → Q r d2 l2) {K4 : Int32 → Int32 → DD → LL → Prop} {j4 : Nat} (hK4 : ∀ (x1 : Int32) (x2 : Int32) (d : DD) (dl : LL), Sq e el d dl → (0 ≤ x2.toInt ∧ x2.toInt ≤ 4) → 5 - x2.toInt < (j4 : Int) → K4 x1 x2 d dl) : ∀ (x2 : Int32) (xs0 : Int32) (xs1 : Int32) (d : DD) (dl : LL), Sq e el d dl → (0 ≤ x2.toInt ∧ x2.toInt ≤ 3) → (0 ≤ xs0.toInt ∧ xs0.toInt ≤ 1) → 5 - x2.toInt ≤ (j4 : Int) → b_X9_howManyWait_25 n Q K4 x2 xs0 xs1 d dl := by
  intro x2 xs0 xs1 d dl hS bx2 bxs0 hm4
  show ∀ v4 : Int32, v4 = (xs1 + xs0) → K4 v4 (x2 + 1) d dl
  intro v4 e4
  have t_1 : v4.toInt = (xs1 + xs0).toInt := (congrArg Int32.toInt e4).trans rfl
  have t_2 : (x2 + 1).toInt = x2.toInt + 1 := ti_add rfl (rfl : (1 : Int32).toInt = 1) (by omega) (by omega)
  exact hK4 _ _ _ _ hS (by omega) (by omega)
set_option maxHeartbeats 4000000 in
set_option maxRecDepth 100000 in
theorem sb_X9_howManyWait_4 {n : Nat} (hn : 1000000000 ≤ n) {e : DD} {el : LL} {Q : Int32 → DD → LL → Prop} (hQ : ∀ (r : Int32) (d2 : DD) (l2 : LL), Sq e el d2 l2 ∧ (True) → Q r d2 l2) : ∀ (j4 : Nat) (x1 : Int32) (x2 : Int32) (d : DD) (dl : LL), Sq e el d dl → (0 ≤ x2.toInt ∧ x2.toInt ≤ 4) → 5 - x2.toInt < (j4 : Int) → b_X9_howManyWait_4 n Q j4 x1 x2 d dl := by
  intro j4
  induction j4 with
  | zero =>
    intro x1 x2 d dl hS bx2 hm4
    exfalso
    omega
  | succ j4 hK4 =>
    intro x1 x2 d dl hS bx2 hm4
    show (4 ≤ x2 → Q x1 d dl) ∧ (¬ 4 ≤ x2 → vp_in x2 4 ∧ ((d 28 x2.toNatClampNeg) = (-1) → b_X9_howManyWait_25 n Q (b_X9_howManyWait_4 n Q j4) x2 0 x1 d dl) ∧ (¬ (d 28 x2.toNatClampNeg) = (-1) → b_X9_howManyWait_25 n Q (b_X9_howManyWait_4 n Q j4) x2 1 x1 d dl))
    refine ⟨fun h1 => ?_, fun h1 => ?_⟩
    · have h1 : 4 ≤ x2.toInt := (i_le (rfl : (4 : Int32).toInt = 4) rfl).mp h1
      exact hQ _ _ _ ⟨hS, trivial⟩
    · have h1 : ¬ (4 ≤ x2.toInt) := fun q => h1 ((i_le (rfl : (4 : Int32).toInt = 4) rfl).mpr q)
      have ih2 : vp_in x2 4 := vin rfl (by omega) (by omega)
      refine ⟨ih2, ?_⟩
      have m_3 := iv_28 hS.1 (x2.toNatClampNeg)
      refine ⟨fun h3 => ?_, fun h3 => ?_⟩
      · have h3 : (d 28 x2.toNatClampNeg).toInt = (-1) := (i_eq rfl (rfl : ((-1) : Int32).toInt = (-1))).mp h3
        exact sb_X9_howManyWait_25 hn hQ hK4 _ _ _ _ _ hS (by omega) (show 0 ≤ 0 ∧ 0 ≤ 1 from by omega) (by omega)
      · have h3 : ¬ ((d 28 x2.toNatClampNeg).toInt = (-1)) := fun q => h3 ((i_eq rfl (rfl : ((-1) : Int32).toInt = (-1))).mpr q)
        exact sb_X9_howManyWait_25 hn hQ hK4 _ _ _ _ _ hS (by omega) (show 0 ≤ 1 ∧ 1 ≤ 1 from by omega) (by omega)
set_option maxHeartbeats 4000000 in
set_option maxRecDepth 100000 in
theorem sp_X9_howManyWait {n : Nat} (hn : 1000000000 ≤ n) {d : DD} {dl : LL} (hI : Inv d) {Q : Int32 → DD → LL → Prop} (hQ : ∀ (r : Int32) (d2 : DD) (l2 : LL), Sq d dl d2 l2 ∧ (True) → Q r d2 l2) : F_X9_howManyWait n d dl Q := by
  obtain ⟨e, he⟩ : ∃ e : DD, e = d := ⟨_, rfl⟩
  obtain ⟨el, hel⟩ : ∃ el : LL, el = dl := ⟨_, rfl⟩
  have hS : Sq e el d dl := by rw [he, hel]; exact Sq.rf hI
  rw [← he, ← hel] at hQ
  show b_X9_howManyWait_4 n Q n 0 0 d dl
  exact sb_X9_howManyWait_4 hn hQ n _ _ _ _ hS (show 0 ≤ 0 ∧ 0 ≤ 4 from by omega) (show 5 - 0 < (n : Int) from by omega)
set_option maxHeartbeats 4000000 in
set_option maxRecDepth 100000 in
theorem sp_X3_minutesTo {n : Nat} (hn : 1000000000 ≤ n) {k0 : Nat} {k1 : Nat} {d : DD} {dl : LL} (hI : Inv d) (hk0 : k0 < 24) (hk1 : k1 < 24) {Q : Int32 → DD → LL → Prop} (hQ : ∀ (r : Int32) (d2 : DD) (l2 : LL), Sq d dl d2 l2 ∧ (0 ≤ r.toInt ∧ r.toInt ≤ 999) → Q r d2 l2) : F_X3_minutesTo n k0 k1 d dl Q := by
  obtain ⟨e, he⟩ : ∃ e : DD, e = d := ⟨_, rfl⟩
  obtain ⟨el, hel⟩ : ∃ el : LL, el = dl := ⟨_, rfl⟩
  have hS : Sq e el d dl := by rw [he, hel]; exact Sq.rf hI
  rw [← he, ← hel] at hQ
  show Q (if 0 ≤ ((d (91 + 5 * k0) 0) - (d (91 + 5 * k1) 0)) then ((d (91 + 5 * k0) 0) - (d (91 + 5 * k1) 0)) else -((d (91 + 5 * k0) 0) - (d (91 + 5 * k1) 0))) d dl
  have m_1 := iv_91_0 hS.1 hk0
  have m_2 := iv_91_0 hS.1 hk1
  have t_3 : ((d (91 + 5 * k0) 0) - (d (91 + 5 * k1) 0)).toInt = (d (91 + 5 * k0) 0).toInt - (d (91 + 5 * k1) 0).toInt := ti_sub rfl rfl (by omega) (by omega)
  have t_4 : (if 0 ≤ ((d (91 + 5 * k0) 0) - (d (91 + 5 * k1) 0)) then ((d (91 + 5 * k0) 0) - (d (91 + 5 * k1) 0)) else -((d (91 + 5 * k0) 0) - (d (91 + 5 * k1) 0))).toInt = (if 0 ≤ ((d (91 + 5 * k0) 0).toInt - (d (91 + 5 * k1) 0).toInt) then ((d (91 + 5 * k0) 0).toInt - (d (91 + 5 * k1) 0).toInt) else -((d (91 + 5 * k0) 0).toInt - (d (91 + 5 * k1) 0).toInt)) := ti_abs t_3 (by omega)
  exact hQ _ _ _ ⟨hS, by omega⟩
set_option maxHeartbeats 4000000 in
set_option maxRecDepth 100000 in
theorem sb_X9_racesMeet_2 {n : Nat} (hn : 1000000000 ≤ n) {e : DD} {el : LL} {Q : Int32 → DD → LL → Prop} (hQ : ∀ (r : Int32) (d2 : DD) (l2 : LL), Sq e el d2 l2 ∧ (0 ≤ r.toInt ∧ r.toInt ≤ 1) → Q r d2 l2) : ∀ (j2 : Nat) (k1 : Nat) (k2 : Nat) (x3 : Int32) (hk1 : k1 < 24) (hk2 : k2 < 24) (d : DD) (dl : LL), Sq e el d dl → (0 ≤ x3.toInt ∧ x3.toInt ≤ 4) → 5 - x3.toInt < (j2 : Int) → b_X9_racesMeet_2 n Q j2 k1 k2 x3 d dl := by
  intro j2
  induction j2 with
  | zero =>
    intro k1 k2 x3 hk1 hk2 d dl hS bx3 hm2
    exfalso
    omega
  | succ j2 hK2 =>
    intro k1 k2 x3 hk1 hk2 d dl hS bx3 hm2
    show (4 ≤ x3 → Q 0 d dl) ∧ (¬ 4 ≤ x3 → vp_in x3 4 ∧ ((d (92 + 5 * k1) x3.toNatClampNeg) = (-1) → (b_X9_racesMeet_2 n Q j2) k1 k2 (x3 + 1) d dl) ∧ (¬ (d (92 + 5 * k1) x3.toNatClampNeg) = (-1) → vp_in x3 4 ∧ F_X9_isMetByOneOf n (92 + 5 * k2) (d (92 + 5 * k1) x3.toNatClampNeg) d dl (fun r5 d6 l7 => (r5 = 0 → (b_X9_racesMeet_2 n Q j2) k1 k2 (x3 + 1) d6 l7) ∧ (¬ r5 = 0 → Q 1 d6 l7))))
    refine ⟨fun h1 => ?_, fun h1 => ?_⟩
    · have h1 : 4 ≤ x3.toInt := (i_le (rfl : (4 : Int32).toInt = 4) rfl).mp h1
      exact hQ _ _ _ ⟨hS, (show (0 ≤ 0 ∧ 0 ≤ 1) from by omega)⟩
    · have h1 : ¬ (4 ≤ x3.toInt) := fun q => h1 ((i_le (rfl : (4 : Int32).toInt = 4) rfl).mpr q)
      have ih2 : vp_in x3 4 := vin rfl (by omega) (by omega)
      refine ⟨ih2, ?_⟩
      have m_1 := iv_92 hS.1 hk1 (x3.toNatClampNeg)
      refine ⟨fun h3 => ?_, fun h3 => ?_⟩
      · have h3 : (d (92 + 5 * k1) x3.toNatClampNeg).toInt = (-1) := (i_eq rfl (rfl : ((-1) : Int32).toInt = (-1))).mp h3
        have t_2 : (x3 + 1).toInt = x3.toInt + 1 := ti_add rfl (rfl : (1 : Int32).toInt = 1) (by omega) (by omega)
        exact hK2 _ _ _ hk1 hk2 _ _ hS (by omega) (by omega)
      · have h3 : ¬ ((d (92 + 5 * k1) x3.toNatClampNeg).toInt = (-1)) := fun q => h3 ((i_eq rfl (rfl : ((-1) : Int32).toInt = (-1))).mpr q)
        have ih4 : vp_in x3 4 := vin rfl (by omega) (by omega)
        refine ⟨ih4, ?_⟩
        refine sp_X9_isMetByOneOf hn hS.1 (kn_race_1 hk2) ⟨by omega, by omega⟩ (Or.inr ⟨_, hk2, rfl⟩) (fun r5 d6 l7 ⟨p_3, u_4⟩ => ?_)
        have s_5 : Sq e el d6 l7 := hS.tr p_3
        have w_6 : d6 = d := p_3.2.1
        replace u_4 : (0 ≤ r5.toInt ∧ r5.toInt ≤ 1) := u_4
        refine ⟨fun h8 => ?_, fun h8 => ?_⟩
        · have h8 : r5.toInt = 0 := (i_eq rfl (rfl : (0 : Int32).toInt = 0)).mp h8
          have t_7 : (x3 + 1).toInt = x3.toInt + 1 := ti_add rfl (rfl : (1 : Int32).toInt = 1) (by omega) (by omega)
          exact hK2 _ _ _ hk1 hk2 _ _ s_5 (by omega) (by omega)
        · have h8 : ¬ (r5.toInt = 0) := fun q => h8 ((i_eq rfl (rfl : (0 : Int32).toInt = 0)).mpr q)
          exact hQ _ _ _ ⟨s_5, (show (0 ≤ 1 ∧ 1 ≤ 1) from by omega)⟩
set_option maxHeartbeats 4000000 in
set_option maxRecDepth 100000 in
theorem sp_X9_racesMeet {n : Nat} (hn : 1000000000 ≤ n) {k1 : Nat} {k2 : Nat} {d : DD} {dl : LL} (hI : Inv d) (hk1 : k1 < 24) (hk2 : k2 < 24) {Q : Int32 → DD → LL → Prop} (hQ : ∀ (r : Int32) (d2 : DD) (l2 : LL), Sq d dl d2 l2 ∧ (0 ≤ r.toInt ∧ r.toInt ≤ 1) → Q r d2 l2) : F_X9_racesMeet n k1 k2 d dl Q := by
  obtain ⟨e, he⟩ : ∃ e : DD, e = d := ⟨_, rfl⟩
  obtain ⟨el, hel⟩ : ∃ el : LL, el = dl := ⟨_, rfl⟩
  have hS : Sq e el d dl := by rw [he, hel]; exact Sq.rf hI
  rw [← he, ← hel] at hQ
  show b_X9_racesMeet_2 n Q n k1 k2 0 d dl
  exact sb_X9_racesMeet_2 hn hQ n _ _ _ hk1 hk2 _ _ hS (show 0 ≤ 0 ∧ 0 ≤ 4 from by omega) (show 5 - 0 < (n : Int) from by omega)
set_option maxHeartbeats 4000000 in
set_option maxRecDepth 100000 in
theorem sb_X9_firstBarring_2 {n : Nat} (hn : 1000000000 ≤ n) {e : DD} {el : LL} {Q : Int32 → DD → LL → Prop} (hQ : ∀ (r : Int32) (d2 : DD) (l2 : LL), Sq e el d2 l2 ∧ ((-1) ≤ r.toInt ∧ r.toInt ≤ 22) → Q r d2 l2) : ∀ (j2 : Nat) (x1 : Int32) (x2 : Int32) (d : DD) (dl : LL), Sq e el d dl → (0 ≤ x1.toInt ∧ x1.toInt ≤ 23) → (0 ≤ x2.toInt ∧ x2.toInt ≤ 23) → 24 - x2.toInt < (j2 : Int) → b_X9_firstBarring_2 n Q j2 x1 x2 d dl := by
  intro j2
  induction j2 with
  | zero =>
    intro x1 x2 d dl hS bx1 bx2 hm2
    exfalso
    omega
  | succ j2 hK2 =>
    intro x1 x2 d dl hS bx1 bx2 hm2
    show (x1 ≤ x2 → Q (-1) d dl) ∧ (¬ x1 ≤ x2 → vp_in x1 24 ∧ ∀ k3 : Nat, k3 = x1.toNatClampNeg → vp_in x2 24 ∧ ∀ k5 : Nat, k5 = x2.toNatClampNeg → F_X3_minutesTo n k3 k5 d dl (fun r6 d7 l8 => ((d7 0 9) ≤ r6 → (b_X9_firstBarring_2 n Q j2) x1 (x2 + 1) d7 l8) ∧ (¬ (d7 0 9) ≤ r6 → vp_in x1 24 ∧ ∀ k11 : Nat, k11 = x1.toNatClampNeg → vp_in x2 24 ∧ ∀ k13 : Nat, k13 = x2.toNatClampNeg → F_X9_racesMeet n k11 k13 d7 l8 (fun r14 d15 l16 => (r14 = 0 → (b_X9_firstBarring_2 n Q j2) x1 (x2 + 1) d15 l16) ∧ (¬ r14 = 0 → Q x2 d15 l16)))))
    refine ⟨fun h1 => ?_, fun h1 => ?_⟩
    · have h1 : x1.toInt ≤ x2.toInt := (i_le rfl rfl).mp h1
      exact hQ _ _ _ ⟨hS, (show ((-1) ≤ (-1) ∧ (-1) ≤ 22) from by omega)⟩
    · have h1 : ¬ (x1.toInt ≤ x2.toInt) := fun q => h1 ((i_le rfl rfl).mpr q)
      have ih2 : vp_in x1 24 := vin rfl (by omega) (by omega)
      refine ⟨ih2, ?_⟩
      intro k3 ek3
      have hk3 : k3 < 24 := by rw [ek3]; exact clamp_in ih2
      have ih4 : vp_in x2 24 := vin rfl (by omega) (by omega)
      refine ⟨ih4, ?_⟩
      intro k5 ek5
      have hk5 : k5 < 24 := by rw [ek5]; exact clamp_in ih4
      refine sp_X3_minutesTo hn hS.1 hk3 hk5 (fun r6 d7 l8 ⟨p_1, u_2⟩ => ?_)
      have s_3 : Sq e el d7 l8 := hS.tr p_1
      have w_4 : d7 = d := p_1.2.1
      replace u_2 : (0 ≤ r6.toInt ∧ r6.toInt ≤ 999) := u_2
      have q_5 : d7 0 9 = (d 0 9) := by rw [w_4]
      have m_6 := iv_0_9 hS.1
      have t_7 : (d7 0 9).toInt = (d 0 9).toInt := (congrArg Int32.toInt q_5).trans rfl
      refine ⟨fun h9 => ?_, fun h9 => ?_⟩
      · have h9 : (d 0 9).toInt ≤ r6.toInt := (i_le t_7 rfl).mp h9
        have t_8 : (x2 + 1).toInt = x2.toInt + 1 := ti_add rfl (rfl : (1 : Int32).toInt = 1) (by omega) (by omega)
        exact hK2 _ _ _ _ s_3 (by omega) (by omega) (by omega)
      · have h9 : ¬ ((d 0 9).toInt ≤ r6.toInt) := fun q => h9 ((i_le t_7 rfl).mpr q)
        have ih10 : vp_in x1 24 := vin rfl (by omega) (by omega)
        refine ⟨ih10, ?_⟩
        intro k11 ek11
        have hk11 : k11 < 24 := by rw [ek11]; exact clamp_in ih10
        have ih12 : vp_in x2 24 := vin rfl (by omega) (by omega)
        refine ⟨ih12, ?_⟩
        intro k13 ek13
        have hk13 : k13 < 24 := by rw [ek13]; exact clamp_in ih12
        refine sp_X9_racesMeet hn s_3.1 hk11 hk13 (fun r14 d15 l16 ⟨p_9, u_10⟩ => ?_)
        have s_11 : Sq e el d15 l16 := s_3.tr p_9
        have w_12 : d15 = d7 := p_9.2.1
        replace u_10 : (0 ≤ r14.toInt ∧ r14.toInt ≤ 1) := u_10
        refine ⟨fun h17 => ?_, fun h17 => ?_⟩
        · have h17 : r14.toInt = 0 := (i_eq rfl (rfl : (0 : Int32).toInt = 0)).mp h17
          have t_13 : (x2 + 1).toInt = x2.toInt + 1 := ti_add rfl (rfl : (1 : Int32).toInt = 1) (by omega) (by omega)
          exact hK2 _ _ _ _ s_11 (by omega) (by omega) (by omega)
        · have h17 : ¬ (r14.toInt = 0) := fun q => h17 ((i_eq rfl (rfl : (0 : Int32).toInt = 0)).mpr q)
          exact hQ _ _ _ ⟨s_11, by omega⟩
set_option maxHeartbeats 4000000 in
set_option maxRecDepth 100000 in
theorem sp_X9_firstBarring {n : Nat} (hn : 1000000000 ≤ n) {x1 : Int32} {d : DD} {dl : LL} (hI : Inv d) (bx1 : 0 ≤ x1.toInt ∧ x1.toInt ≤ 23) {Q : Int32 → DD → LL → Prop} (hQ : ∀ (r : Int32) (d2 : DD) (l2 : LL), Sq d dl d2 l2 ∧ ((-1) ≤ r.toInt ∧ r.toInt ≤ 22) → Q r d2 l2) : F_X9_firstBarring n x1 d dl Q := by
  obtain ⟨e, he⟩ : ∃ e : DD, e = d := ⟨_, rfl⟩
  obtain ⟨el, hel⟩ : ∃ el : LL, el = dl := ⟨_, rfl⟩
  have hS : Sq e el d dl := by rw [he, hel]; exact Sq.rf hI
  rw [← he, ← hel] at hQ
  show b_X9_firstBarring_2 n Q n x1 0 d dl
  exact sb_X9_firstBarring_2 hn hQ n _ _ _ _ hS (by omega) (show 0 ≤ 0 ∧ 0 ≤ 23 from by omega) (show 24 - 0 < (n : Int) from by omega)
set_option maxHeartbeats 4000000 in
set_option maxRecDepth 100000 in
theorem sp_X9_isRace {n : Nat} (hn : 1000000000 ≤ n) {x1 : Int32} {d : DD} {dl : LL} (hI : Inv d) {Q : Int32 → DD → LL → Prop} (hQ : ∀ (r : Int32) (d2 : DD) (l2 : LL), Sq d dl d2 l2 ∧ (0 ≤ r.toInt ∧ r.toInt ≤ 1 ∧ ((r.toInt = 1 ∧ 0 ≤ x1.toInt ∧ x1.toInt < (d 0 13).toInt) ∨ (r.toInt = 0 ∧ ¬ (0 ≤ x1.toInt ∧ x1.toInt < (d 0 13).toInt)))) → Q r d2 l2) : F_X9_isRace n x1 d dl Q := by
  obtain ⟨e, he⟩ : ∃ e : DD, e = d := ⟨_, rfl⟩
  obtain ⟨el, hel⟩ : ∃ el : LL, el = dl := ⟨_, rfl⟩
  have hS : Sq e el d dl := by rw [he, hel]; exact Sq.rf hI
  rw [← he, ← hel] at hQ
  show F_X9_within n x1 0 ((d 0 13) - 1) d dl (fun r1 d2 l3 => narrow .boolean (.int r1) = .int r1 ∧ Q r1 d2 l3)
  have hx0 : (e 0 13).toInt = (d 0 13).toInt := by rw [he]
  have m_1 := iv_0_13 hS.1
  have t_2 : ((d 0 13) - 1).toInt = (d 0 13).toInt - 1 := ti_sub rfl (rfl : (1 : Int32).toInt = 1) (by omega) (by omega)
  refine sp_X9_within hn hS.1 (fun r1 d2 l3 ⟨p_3, u_4⟩ => ?_)
  have s_5 : Sq e el d2 l3 := hS.tr p_3
  have w_6 : d2 = d := p_3.2.1
  replace u_4 : (0 ≤ r1.toInt ∧ r1.toInt ≤ 1 ∧ ((r1.toInt = 1 ∧ 0 ≤ x1.toInt ∧ x1.toInt ≤ ((d 0 13) - 1).toInt) ∨ (r1.toInt = 0 ∧ ¬ (0 ≤ x1.toInt ∧ x1.toInt ≤ ((d 0 13) - 1).toInt)))) := u_4
  refine ⟨bo_nar (bo_of ⟨by omega, by omega⟩), ?_⟩
  exact hQ _ _ _ ⟨s_5, by omega⟩
set_option maxHeartbeats 4000000 in
set_option maxRecDepth 100000 in
theorem sb_X0_driveOf_5 {n : Nat} (hn : 1000000000 ≤ n) {e : DD} {el : LL} {Q : Int32 → DD → LL → Prop} (hQ : ∀ (r : Int32) (d2 : DD) (l2 : LL), Sq e el d2 l2 ∧ (True) → Q r d2 l2) : ∀ (j5 : Nat) (k1 : Nat) (x2 : Int32) (x3 : Int32) (x4 : Int32) (hk1 : k1 < 6) (d : DD) (dl : LL), Sq e el d dl → (0 ≤ x4.toInt ∧ x4.toInt ≤ 8) → 9 - x4.toInt < (j5 : Int) → b_X0_driveOf_5 n Q j5 k1 x2 x3 x4 d dl := by
  intro j5
  induction j5 with
  | zero =>
    intro k1 x2 x3 x4 hk1 d dl hS bx4 hm5
    exfalso
    omega
  | succ j5 hK5 =>
    intro k1 x2 x3 x4 hk1 d dl hS bx4 hm5
    show F_X1_seatCount n k1 d dl (fun r1 d2 l3 => (r1 ≤ x4 → Q (x3 * (d2 (37 + 3 * k1) 2)) d2 l3) ∧ (¬ r1 ≤ x4 → vp_in x4 8 ∧ vp_in (d2 (39 + 3 * k1) x4.toNatClampNeg) 40 ∧ ∀ v7 : Int32, v7 = (x3 + (((d2 3 (d2 (39 + 3 * k1) x4.toNatClampNeg).toNatClampNeg) * x2) / 1000)) → (b_X0_driveOf_5 n Q j5) k1 x2 v7 (x4 + 1) d2 l3))
    refine sp_X1_seatCount hn hS.1 hk1 (fun r1 d2 l3 ⟨p_1, u_2⟩ => ?_)
    have s_3 : Sq e el d2 l3 := hS.tr p_1
    have w_4 : d2 = d := p_1.2.1
    replace u_2 : (4 ≤ r1.toInt ∧ r1.toInt ≤ 8) := u_2
    refine ⟨fun h4 => ?_, fun h4 => ?_⟩
    · have h4 : r1.toInt ≤ x4.toInt := (i_le rfl rfl).mp h4
      exact hQ _ _ _ ⟨s_3, trivial⟩
    · have h4 : ¬ (r1.toInt ≤ x4.toInt) := fun q => h4 ((i_le rfl rfl).mpr q)
      have ih5 : vp_in x4 8 := vin rfl (by omega) (by omega)
      refine ⟨ih5, ?_⟩
      have q_5 : d2 (39 + 3 * k1) x4.toNatClampNeg = (d (39 + 3 * k1) x4.toNatClampNeg) := by rw [w_4]
      have m_6 := iv_39 hS.1 hk1 (x4.toNatClampNeg)
      have t_7 : (d2 (39 + 3 * k1) x4.toNatClampNeg).toInt = (d (39 + 3 * k1) x4.toNatClampNeg).toInt := (congrArg Int32.toInt q_5).trans rfl
      have ih6 : vp_in (d2 (39 + 3 * k1) x4.toNatClampNeg) 40 := vin t_7 (by omega) (by omega)
      refine ⟨ih6, ?_⟩
      intro v7 e7
      have t_8 : v7.toInt = (x3 + (((d2 3 (d2 (39 + 3 * k1) x4.toNatClampNeg).toNatClampNeg) * x2) / 1000)).toInt := (congrArg Int32.toInt e7).trans rfl
      have t_9 : (x4 + 1).toInt = x4.toInt + 1 := ti_add rfl (rfl : (1 : Int32).toInt = 1) (by omega) (by omega)
      exact hK5 _ _ _ _ hk1 _ _ s_3 (by omega) (by omega)
