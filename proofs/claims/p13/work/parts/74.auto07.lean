set_option maxHeartbeats 4000000 in
set_option maxRecDepth 100000 in
theorem sb_X9_pointsOf_4 {n : Nat} (hn : 1000000000 ≤ n) {e : DD} {el : LL} {Q : Int32 → DD → LL → Prop} (hQ : ∀ (r : Int32) (d2 : DD) (l2 : LL), Sq e el d2 l2 ∧ (True) → Q r d2 l2) : ∀ (j4 : Nat) (x1 : Int32) (x2 : Int32) (x3 : Int32) (d : DD) (dl : LL), Sq e el d dl → (0 ≤ x3.toInt ∧ x3.toInt ≤ 24) → 25 - x3.toInt < (j4 : Int) → b_X9_pointsOf_4 n Q j4 x1 x2 x3 d dl := by
  intro j4
  induction j4 with
  | zero =>
    intro x1 x2 x3 d dl hS bx3 hm4
    exfalso
    omega
  | succ j4 hK4 =>
    intro x1 x2 x3 d dl hS bx3 hm4
    show ((d 0 13) ≤ x3 → Q x2 d dl) ∧ (¬ (d 0 13) ≤ x3 → vp_in x3 24 ∧ ∀ k3 : Nat, k3 = x3.toNatClampNeg → (¬ (d (91 + 5 * k3) 1) = 1 → b_X9_pointsOf_39 n Q (b_X9_pointsOf_4 n Q j4) x1 x2 x3 (-1) d dl) ∧ ((d (91 + 5 * k3) 1) = 1 → vp_in x3 24 ∧ ∀ k13 : Nat, k13 = x3.toNatClampNeg → F_X3_laneOf n k13 x1 d dl (fun r14 d15 l16 => b_X9_pointsOf_39 n Q (b_X9_pointsOf_4 n Q j4) x1 x2 x3 r14 d15 l16)))
    have m_7 := iv_0_13 hS.1
    refine ⟨fun h1 => ?_, fun h1 => ?_⟩
    · have h1 : (d 0 13).toInt ≤ x3.toInt := (i_le rfl rfl).mp h1
      exact hQ _ _ _ ⟨hS, trivial⟩
    · have h1 : ¬ ((d 0 13).toInt ≤ x3.toInt) := fun q => h1 ((i_le rfl rfl).mpr q)
      have ih2 : vp_in x3 24 := vin rfl (by omega) (by omega)
      refine ⟨ih2, ?_⟩
      intro k3 ek3
      have hk3 : k3 < 24 := by rw [ek3]; exact clamp_in ih2
      have m_8 := iv_91_1 hS.1 hk3
      refine ⟨fun h4 => ?_, fun h4 => ?_⟩
      · have h4 : ¬ ((d (91 + 5 * k3) 1).toInt = 1) := fun q => h4 ((i_eq rfl (rfl : (1 : Int32).toInt = 1)).mpr q)
        exact sb_X9_pointsOf_39 hn hQ hK4 _ _ _ _ _ _ hS (by omega) (show (-1) ≤ (-1) ∧ (-1) ≤ 3 from by omega) (by omega)
      · have h4 : (d (91 + 5 * k3) 1).toInt = 1 := (i_eq rfl (rfl : (1 : Int32).toInt = 1)).mp h4
        have ih12 : vp_in x3 24 := vin rfl (by omega) (by omega)
        refine ⟨ih12, ?_⟩
        intro k13 ek13
        have hk13 : k13 < 24 := by rw [ek13]; exact clamp_in ih12
        refine sp_X3_laneOf hn hS.1 hk13 (fun r14 d15 l16 ⟨p_9, u_10⟩ => ?_)
        have s_11 : Sq e el d15 l16 := hS.tr p_9
        have w_12 : d15 = d := p_9.2.1
        replace u_10 : ((-1) ≤ r14.toInt ∧ r14.toInt ≤ 3) := u_10
        exact sb_X9_pointsOf_39 hn hQ hK4 _ _ _ _ _ _ s_11 (by omega) (by omega) (by omega)
set_option maxHeartbeats 4000000 in
set_option maxRecDepth 100000 in
theorem sp_X9_pointsOf {n : Nat} (hn : 1000000000 ≤ n) {x1 : Int32} {d : DD} {dl : LL} (hI : Inv d) {Q : Int32 → DD → LL → Prop} (hQ : ∀ (r : Int32) (d2 : DD) (l2 : LL), Sq d dl d2 l2 ∧ (True) → Q r d2 l2) : F_X9_pointsOf n x1 d dl Q := by
  obtain ⟨e, he⟩ : ∃ e : DD, e = d := ⟨_, rfl⟩
  obtain ⟨el, hel⟩ : ∃ el : LL, el = dl := ⟨_, rfl⟩
  have hS : Sq e el d dl := by rw [he, hel]; exact Sq.rf hI
  rw [← he, ← hel] at hQ
  show b_X9_pointsOf_4 n Q n x1 0 0 d dl
  exact sb_X9_pointsOf_4 hn hQ n _ _ _ _ _ hS (show 0 ≤ 0 ∧ 0 ≤ 24 from by omega) (show 25 - 0 < (n : Int) from by omega)
set_option maxHeartbeats 4000000 in
set_option maxRecDepth 100000 in
theorem sp_X9_points {n : Nat} (hn : 1000000000 ≤ n) {x1 : Int32} {d : DD} {dl : LL} (hI : Inv d) {Q : Int32 → DD → LL → Prop} (hQ : ∀ (r : Int32) (d2 : DD) (l2 : LL), Sq d dl d2 l2 ∧ (True) → Q r d2 l2) : F_X9_points n x1 d dl Q := by
  obtain ⟨e, he⟩ : ∃ e : DD, e = d := ⟨_, rfl⟩
  obtain ⟨el, hel⟩ : ∃ el : LL, el = dl := ⟨_, rfl⟩
  have hS : Sq e el d dl := by rw [he, hel]; exact Sq.rf hI
  rw [← he, ← hel] at hQ
  show F_X9_isCrew n x1 d dl (fun r1 d2 l3 => (r1 = 0 → Q (-1) d2 l3) ∧ (¬ r1 = 0 → F_X9_pointsOf n x1 d2 l3 (fun r5 d6 l7 => Q r5 d6 l7)))
  refine sp_X9_isCrew hn hS.1 (fun r1 d2 l3 ⟨p_1, u_2⟩ => ?_)
  have s_3 : Sq e el d2 l3 := hS.tr p_1
  have w_4 : d2 = d := p_1.2.1
  replace u_2 : (0 ≤ r1.toInt ∧ r1.toInt ≤ 1 ∧ ((r1.toInt = 1 ∧ 0 ≤ x1.toInt ∧ x1.toInt < (d 0 2).toInt) ∨ (r1.toInt = 0 ∧ ¬ (0 ≤ x1.toInt ∧ x1.toInt < (d 0 2).toInt)))) := u_2
  have m_5 := iv_0_2 hS.1
  refine ⟨fun h4 => ?_, fun h4 => ?_⟩
  · have h4 : r1.toInt = 0 := (i_eq rfl (rfl : (0 : Int32).toInt = 0)).mp h4
    exact hQ _ _ _ ⟨s_3, trivial⟩
  · have h4 : ¬ (r1.toInt = 0) := fun q => h4 ((i_eq rfl (rfl : (0 : Int32).toInt = 0)).mpr q)
    refine sp_X9_pointsOf hn s_3.1 (fun r5 d6 l7 ⟨p_6, u_7⟩ => ?_)
    have s_8 : Sq e el d6 l7 := s_3.tr p_6
    have w_9 : d6 = d2 := p_6.2.1
    exact hQ _ _ _ ⟨s_8, trivial⟩
set_option maxHeartbeats 4000000 in
set_option maxRecDepth 100000 in
theorem sb_X9_crewsAheadOf_52 {n : Nat} (hn : 1000000000 ≤ n) {e : DD} {el : LL} {Q : Int32 → DD → LL → Prop} (hQ : ∀ (r : Int32) (d2 : DD) (l2 : LL), Sq e el d2 l2 ∧ (True) → Q r d2 l2) {K11 : Int32 → Int32 → Int32 → Int32 → DD → LL → Prop} {j11 : Nat} (hK11 : ∀ (x1 : Int32) (x2 : Int32) (x3 : Int32) (x4 : Int32) (d : DD) (dl : LL), Sq e el d dl → (0 ≤ x4.toInt ∧ x4.toInt ≤ 6) → 7 - x4.toInt < (j11 : Int) → K11 x1 x2 x3 x4 d dl) : ∀ (x1 : Int32) (x2 : Int32) (x4 : Int32) (xs0 : Int32) (xs1 : Int32) (d : DD) (dl : LL), Sq e el d dl → (0 ≤ x4.toInt ∧ x4.toInt ≤ 5) → (0 ≤ xs0.toInt ∧ xs0.toInt ≤ 1) → 7 - x4.toInt ≤ (j11 : Int) → b_X9_crewsAheadOf_52 n Q K11 x1 x2 x4 xs0 xs1 d dl := by
  intro x1 x2 x4 xs0 xs1 d dl hS bx4 bxs0 hm11
  show ∀ v9 : Int32, v9 = (xs1 + xs0) → K11 x1 x2 v9 (x4 + 1) d dl
  intro v9 e9
  have t_1 : v9.toInt = (xs1 + xs0).toInt := (congrArg Int32.toInt e9).trans rfl
  have t_2 : (x4 + 1).toInt = x4.toInt + 1 := ti_add rfl (rfl : (1 : Int32).toInt = 1) (by omega) (by omega)
  exact hK11 _ _ _ _ _ _ hS (by omega) (by omega)
set_option maxHeartbeats 4000000 in
set_option maxRecDepth 100000 in
theorem sb_X9_crewsAheadOf_51 {n : Nat} (hn : 1000000000 ≤ n) {e : DD} {el : LL} {Q : Int32 → DD → LL → Prop} (hQ : ∀ (r : Int32) (d2 : DD) (l2 : LL), Sq e el d2 l2 ∧ (True) → Q r d2 l2) {K11 : Int32 → Int32 → Int32 → Int32 → DD → LL → Prop} {j11 : Nat} (hK11 : ∀ (x1 : Int32) (x2 : Int32) (x3 : Int32) (x4 : Int32) (d : DD) (dl : LL), Sq e el d dl → (0 ≤ x4.toInt ∧ x4.toInt ≤ 6) → 7 - x4.toInt < (j11 : Int) → K11 x1 x2 x3 x4 d dl) : ∀ (x1 : Int32) (x2 : Int32) (x4 : Int32) (xs0 : Int32) (d : DD) (dl : LL), Sq e el d dl → (0 ≤ x4.toInt ∧ x4.toInt ≤ 5) → 7 - x4.toInt ≤ (j11 : Int) → b_X9_crewsAheadOf_51 n Q K11 x1 x2 x4 xs0 d dl := by
  intro x1 x2 x4 xs0 d dl hS bx4 hm11
  show b_X9_crewsAheadOf_52 n Q K11 x1 x2 x4 0 xs0 d dl
  exact sb_X9_crewsAheadOf_52 hn hQ hK11 _ _ _ _ _ _ _ hS (by omega) (show 0 ≤ 0 ∧ 0 ≤ 1 from by omega) (by omega)
set_option maxHeartbeats 4000000 in
set_option maxRecDepth 100000 in
theorem sb_X9_crewsAheadOf_47 {n : Nat} (hn : 1000000000 ≤ n) {e : DD} {el : LL} {Q : Int32 → DD → LL → Prop} (hQ : ∀ (r : Int32) (d2 : DD) (l2 : LL), Sq e el d2 l2 ∧ (True) → Q r d2 l2) {K11 : Int32 → Int32 → Int32 → Int32 → DD → LL → Prop} {j11 : Nat} (hK11 : ∀ (x1 : Int32) (x2 : Int32) (x3 : Int32) (x4 : Int32) (d : DD) (dl : LL), Sq e el d dl → (0 ≤ x4.toInt ∧ x4.toInt ≤ 6) → 7 - x4.toInt < (j11 : Int) → K11 x1 x2 x3 x4 d dl) : ∀ (x1 : Int32) (x2 : Int32) (x4 : Int32) (xs0 : Int32) (d : DD) (dl : LL), Sq e el d dl → (0 ≤ x4.toInt ∧ x4.toInt ≤ 5) → 7 - x4.toInt ≤ (j11 : Int) → b_X9_crewsAheadOf_47 n Q K11 x1 x2 x4 xs0 d dl := by
  intro x1 x2 x4 xs0 d dl hS bx4 hm11
  show b_X9_crewsAheadOf_52 n Q K11 x1 x2 x4 1 xs0 d dl
  exact sb_X9_crewsAheadOf_52 hn hQ hK11 _ _ _ _ _ _ _ hS (by omega) (show 0 ≤ 1 ∧ 1 ≤ 1 from by omega) (by omega)
set_option maxHeartbeats 4000000 in
set_option maxRecDepth 100000 in
theorem sb_X9_crewsAheadOf_11 {n : Nat} (hn : 1000000000 ≤ n) {e : DD} {el : LL} {Q : Int32 → DD → LL → Prop} (hQ : ∀ (r : Int32) (d2 : DD) (l2 : LL), Sq e el d2 l2 ∧ (True) → Q r d2 l2) : ∀ (j11 : Nat) (x1 : Int32) (x2 : Int32) (x3 : Int32) (x4 : Int32) (d : DD) (dl : LL), Sq e el d dl → (0 ≤ x4.toInt ∧ x4.toInt ≤ 6) → 7 - x4.toInt < (j11 : Int) → b_X9_crewsAheadOf_11 n Q j11 x1 x2 x3 x4 d dl := by
  intro j11
  induction j11 with
  | zero =>
    intro x1 x2 x3 x4 d dl hS bx4 hm11
    exfalso
    omega
  | succ j11 hK11 =>
    intro x1 x2 x3 x4 d dl hS bx4 hm11
    show ((d 0 2) ≤ x4 → Q x3 d dl) ∧ (¬ (d 0 2) ≤ x4 → F_X9_pointsOf n x4 d dl (fun r5 d6 l7 => (x2 < r5 → b_X9_crewsAheadOf_47 n Q (b_X9_crewsAheadOf_11 n Q j11) x1 x2 x4 x3 d6 l7) ∧ (¬ x2 < r5 → (¬ r5 = x2 → b_X9_crewsAheadOf_51 n Q (b_X9_crewsAheadOf_11 n Q j11) x1 x2 x4 x3 d6 l7) ∧ (r5 = x2 → (x1 ≤ x4 → b_X9_crewsAheadOf_51 n Q (b_X9_crewsAheadOf_11 n Q j11) x1 x2 x4 x3 d6 l7) ∧ (¬ x1 ≤ x4 → b_X9_crewsAheadOf_47 n Q (b_X9_crewsAheadOf_11 n Q j11) x1 x2 x4 x3 d6 l7)))))
    have m_3 := iv_0_2 hS.1
    refine ⟨fun h4 => ?_, fun h4 => ?_⟩
    · have h4 : (d 0 2).toInt ≤ x4.toInt := (i_le rfl rfl).mp h4
      exact hQ _ _ _ ⟨hS, trivial⟩
    · have h4 : ¬ ((d 0 2).toInt ≤ x4.toInt) := fun q => h4 ((i_le rfl rfl).mpr q)
      refine sp_X9_pointsOf hn hS.1 (fun r5 d6 l7 ⟨p_4, u_5⟩ => ?_)
      have s_6 : Sq e el d6 l7 := hS.tr p_4
      have w_7 : d6 = d := p_4.2.1
      refine ⟨fun h8 => ?_, fun h8 => ?_⟩
      · have h8 : x2.toInt < r5.toInt := (i_lt rfl rfl).mp h8
        exact sb_X9_crewsAheadOf_47 hn hQ hK11 _ _ _ _ _ _ s_6 (by omega) (by omega)
      · have h8 : ¬ (x2.toInt < r5.toInt) := fun q => h8 ((i_lt rfl rfl).mpr q)
        refine ⟨fun h10 => ?_, fun h10 => ?_⟩
        · have h10 : ¬ (r5.toInt = x2.toInt) := fun q => h10 ((i_eq rfl rfl).mpr q)
          exact sb_X9_crewsAheadOf_51 hn hQ hK11 _ _ _ _ _ _ s_6 (by omega) (by omega)
        · have h10 : r5.toInt = x2.toInt := (i_eq rfl rfl).mp h10
          refine ⟨fun h11 => ?_, fun h11 => ?_⟩
          · have h11 : x1.toInt ≤ x4.toInt := (i_le rfl rfl).mp h11
            exact sb_X9_crewsAheadOf_51 hn hQ hK11 _ _ _ _ _ _ s_6 (by omega) (by omega)
          · have h11 : ¬ (x1.toInt ≤ x4.toInt) := fun q => h11 ((i_le rfl rfl).mpr q)
            exact sb_X9_crewsAheadOf_47 hn hQ hK11 _ _ _ _ _ _ s_6 (by omega) (by omega)
set_option maxHeartbeats 4000000 in
set_option maxRecDepth 100000 in
theorem sp_X9_crewsAheadOf {n : Nat} (hn : 1000000000 ≤ n) {x1 : Int32} {d : DD} {dl : LL} (hI : Inv d) {Q : Int32 → DD → LL → Prop} (hQ : ∀ (r : Int32) (d2 : DD) (l2 : LL), Sq d dl d2 l2 ∧ (True) → Q r d2 l2) : F_X9_crewsAheadOf n x1 d dl Q := by
  obtain ⟨e, he⟩ : ∃ e : DD, e = d := ⟨_, rfl⟩
  obtain ⟨el, hel⟩ : ∃ el : LL, el = dl := ⟨_, rfl⟩
  have hS : Sq e el d dl := by rw [he, hel]; exact Sq.rf hI
  rw [← he, ← hel] at hQ
  show F_X9_pointsOf n x1 d dl (fun r1 d2 l3 => b_X9_crewsAheadOf_11 n Q n x1 r1 0 0 d2 l3)
  refine sp_X9_pointsOf hn hS.1 (fun r1 d2 l3 ⟨p_8, u_9⟩ => ?_)
  have s_10 : Sq e el d2 l3 := hS.tr p_8
  have w_11 : d2 = d := p_8.2.1
  exact sb_X9_crewsAheadOf_11 hn hQ n _ _ _ _ _ _ s_10 (show 0 ≤ 0 ∧ 0 ≤ 6 from by omega) (show 7 - 0 < (n : Int) from by omega)
set_option maxHeartbeats 4000000 in
set_option maxRecDepth 100000 in
theorem sb_X9_table_2 {n : Nat} (hn : 1000000000 ≤ n) {e : DD} {el : LL} {Q : Int32 → DD → LL → Prop} (hQ : ∀ (r : Int32) (d2 : DD) (l2 : LL), Sq e el d2 l2 ∧ ((-1) ≤ r.toInt ∧ r.toInt ≤ 5) → Q r d2 l2) : ∀ (j2 : Nat) (x1 : Int32) (x2 : Int32) (d : DD) (dl : LL), Sq e el d dl → (0 ≤ x2.toInt ∧ x2.toInt ≤ 6) → 7 - x2.toInt < (j2 : Int) → b_X9_table_2 n Q j2 x1 x2 d dl := by
  intro j2
  induction j2 with
  | zero =>
    intro x1 x2 d dl hS bx2 hm2
    exfalso
    omega
  | succ j2 hK2 =>
    intro x1 x2 d dl hS bx2 hm2
    show ((d 0 2) ≤ x2 → Q (-1) d dl) ∧ (¬ (d 0 2) ≤ x2 → F_X9_crewsAheadOf n x2 d dl (fun r2 d3 l4 => (¬ r2 = x1 → (b_X9_table_2 n Q j2) x1 (x2 + 1) d3 l4) ∧ (r2 = x1 → Q x2 d3 l4)))
    have m_1 := iv_0_2 hS.1
    refine ⟨fun h1 => ?_, fun h1 => ?_⟩
    · have h1 : (d 0 2).toInt ≤ x2.toInt := (i_le rfl rfl).mp h1
      exact hQ _ _ _ ⟨hS, (show ((-1) ≤ (-1) ∧ (-1) ≤ 5) from by omega)⟩
    · have h1 : ¬ ((d 0 2).toInt ≤ x2.toInt) := fun q => h1 ((i_le rfl rfl).mpr q)
      refine sp_X9_crewsAheadOf hn hS.1 (fun r2 d3 l4 ⟨p_2, u_3⟩ => ?_)
      have s_4 : Sq e el d3 l4 := hS.tr p_2
      have w_5 : d3 = d := p_2.2.1
      refine ⟨fun h5 => ?_, fun h5 => ?_⟩
      · have h5 : ¬ (r2.toInt = x1.toInt) := fun q => h5 ((i_eq rfl rfl).mpr q)
        have t_6 : (x2 + 1).toInt = x2.toInt + 1 := ti_add rfl (rfl : (1 : Int32).toInt = 1) (by omega) (by omega)
        exact hK2 _ _ _ _ s_4 (by omega) (by omega)
      · have h5 : r2.toInt = x1.toInt := (i_eq rfl rfl).mp h5
        exact hQ _ _ _ ⟨s_4, by omega⟩
set_option maxHeartbeats 4000000 in
set_option maxRecDepth 100000 in
theorem sp_X9_table {n : Nat} (hn : 1000000000 ≤ n) {x1 : Int32} {d : DD} {dl : LL} (hI : Inv d) {Q : Int32 → DD → LL → Prop} (hQ : ∀ (r : Int32) (d2 : DD) (l2 : LL), Sq d dl d2 l2 ∧ ((-1) ≤ r.toInt ∧ r.toInt ≤ 5) → Q r d2 l2) : F_X9_table n x1 d dl Q := by
  obtain ⟨e, he⟩ : ∃ e : DD, e = d := ⟨_, rfl⟩
  obtain ⟨el, hel⟩ : ∃ el : LL, el = dl := ⟨_, rfl⟩
  have hS : Sq e el d dl := by rw [he, hel]; exact Sq.rf hI
  rw [← he, ← hel] at hQ
  show b_X9_table_2 n Q n x1 0 d dl
  exact sb_X9_table_2 hn hQ n _ _ _ _ hS (show 0 ≤ 0 ∧ 0 ≤ 6 from by omega) (show 7 - 0 < (n : Int) from by omega)
set_option maxHeartbeats 4000000 in
set_option maxRecDepth 100000 in
theorem sb_X9_howManyAreSeated_30 {n : Nat} (hn : 1000000000 ≤ n) {e : DD} {el : LL} {Q : Int32 → DD → LL → Prop} (hQ : ∀ (r : Int32) (d2 : DD) (l2 : LL), Sq e el d2 l2 ∧ (True) → Q r d2 l2) {K4 : Int32 → Int32 → DD → LL → Prop} {j4 : Nat} (hK4 : ∀ (x1 : Int32) (x2 : Int32) (d : DD) (dl : LL), Sq e el d dl → (0 ≤ x2.toInt ∧ x2.toInt ≤ 6) → 7 - x2.toInt < (j4 : Int) → K4 x1 x2 d dl) : ∀ (x2 : Int32) (xs0 : Int32) (xs1 : Int32) (d : DD) (dl : LL), Sq e el d dl → (0 ≤ x2.toInt ∧ x2.toInt ≤ 5) → (0 ≤ xs0.toInt ∧ xs0.toInt ≤ 1) → 7 - x2.toInt ≤ (j4 : Int) → b_X9_howManyAreSeated_30 n Q K4 x2 xs0 xs1 d dl := by
  intro x2 xs0 xs1 d dl hS bx2 bxs0 hm4
  show ∀ v5 : Int32, v5 = (xs1 + xs0) → K4 v5 (x2 + 1) d dl
  intro v5 e5
  have t_1 : v5.toInt = (xs1 + xs0).toInt := (congrArg Int32.toInt e5).trans rfl
  have t_2 : (x2 + 1).toInt = x2.toInt + 1 := ti_add rfl (rfl : (1 : Int32).toInt = 1) (by omega) (by omega)
  exact hK4 _ _ _ _ hS (by omega) (by omega)
set_option maxHeartbeats 4000000 in
set_option maxRecDepth 100000 in
theorem sb_X9_howManyAreSeated_4 {n : Nat} (hn : 1000000000 ≤ n) {e : DD} {el : LL} {Q : Int32 → DD → LL → Prop} (hQ : ∀ (r : Int32) (d2 : DD) (l2 : LL), Sq e el d2 l2 ∧ (True) → Q r d2 l2) : ∀ (j4 : Nat) (x1 : Int32) (x2 : Int32) (d : DD) (dl : LL), Sq e el d dl → (0 ≤ x2.toInt ∧ x2.toInt ≤ 6) → 7 - x2.toInt < (j4 : Int) → b_X9_howManyAreSeated_4 n Q j4 x1 x2 d dl := by
  intro j4
  induction j4 with
  | zero =>
    intro x1 x2 d dl hS bx2 hm4
    exfalso
    omega
  | succ j4 hK4 =>
    intro x1 x2 d dl hS bx2 hm4
    show ((d 0 2) ≤ x2 → Q x1 d dl) ∧ (¬ (d 0 2) ≤ x2 → vp_in x2 6 ∧ ∀ k3 : Nat, k3 = x2.toNatClampNeg → ((d (37 + 3 * k3) 6) = 0 → b_X9_howManyAreSeated_30 n Q (b_X9_howManyAreSeated_4 n Q j4) x2 0 x1 d dl) ∧ (¬ (d (37 + 3 * k3) 6) = 0 → b_X9_howManyAreSeated_30 n Q (b_X9_howManyAreSeated_4 n Q j4) x2 1 x1 d dl))
    have m_3 := iv_0_2 hS.1
    refine ⟨fun h1 => ?_, fun h1 => ?_⟩
    · have h1 : (d 0 2).toInt ≤ x2.toInt := (i_le rfl rfl).mp h1
      exact hQ _ _ _ ⟨hS, trivial⟩
    · have h1 : ¬ ((d 0 2).toInt ≤ x2.toInt) := fun q => h1 ((i_le rfl rfl).mpr q)
      have ih2 : vp_in x2 6 := vin rfl (by omega) (by omega)
      refine ⟨ih2, ?_⟩
      intro k3 ek3
      have hk3 : k3 < 6 := by rw [ek3]; exact clamp_in ih2
      have m_4 := iv_37_6 hS.1 hk3
      refine ⟨fun h4 => ?_, fun h4 => ?_⟩
      · have h4 : (d (37 + 3 * k3) 6).toInt = 0 := (i_eq rfl (rfl : (0 : Int32).toInt = 0)).mp h4
        exact sb_X9_howManyAreSeated_30 hn hQ hK4 _ _ _ _ _ hS (by omega) (show 0 ≤ 0 ∧ 0 ≤ 1 from by omega) (by omega)
      · have h4 : ¬ ((d (37 + 3 * k3) 6).toInt = 0) := fun q => h4 ((i_eq rfl (rfl : (0 : Int32).toInt = 0)).mpr q)
        exact sb_X9_howManyAreSeated_30 hn hQ hK4 _ _ _ _ _ hS (by omega) (show 0 ≤ 1 ∧ 1 ≤ 1 from by omega) (by omega)
set_option maxHeartbeats 4000000 in
set_option maxRecDepth 100000 in
theorem sp_X9_howManyAreSeated {n : Nat} (hn : 1000000000 ≤ n) {d : DD} {dl : LL} (hI : Inv d) {Q : Int32 → DD → LL → Prop} (hQ : ∀ (r : Int32) (d2 : DD) (l2 : LL), Sq d dl d2 l2 ∧ (True) → Q r d2 l2) : F_X9_howManyAreSeated n d dl Q := by
  obtain ⟨e, he⟩ : ∃ e : DD, e = d := ⟨_, rfl⟩
  obtain ⟨el, hel⟩ : ∃ el : LL, el = dl := ⟨_, rfl⟩
  have hS : Sq e el d dl := by rw [he, hel]; exact Sq.rf hI
  rw [← he, ← hel] at hQ
  show b_X9_howManyAreSeated_4 n Q n 0 0 d dl
  exact sb_X9_howManyAreSeated_4 hn hQ n _ _ _ _ hS (show 0 ≤ 0 ∧ 0 ≤ 6 from by omega) (show 7 - 0 < (n : Int) from by omega)
set_option maxHeartbeats 4000000 in
set_option maxRecDepth 100000 in
theorem sb_X9_howManyTimes_4 {n : Nat} (hn : 1000000000 ≤ n) {e : DD} {el : LL} {Q : Int32 → DD → LL → Prop} (hQ : ∀ (r : Int32) (d2 : DD) (l2 : LL), Sq e el d2 l2 ∧ (True) → Q r d2 l2) : ∀ (j4 : Nat) (x1 : Int32) (x2 : Int32) (d : DD) (dl : LL), Sq e el d dl → (0 ≤ x2.toInt ∧ x2.toInt ≤ 24) → 25 - x2.toInt < (j4 : Int) → b_X9_howManyTimes_4 n Q j4 x1 x2 d dl := by
  intro j4
  induction j4 with
  | zero =>
    intro x1 x2 d dl hS bx2 hm4
    exfalso
    omega
  | succ j4 hK4 =>
    intro x1 x2 d dl hS bx2 hm4
    show ((d 0 13) ≤ x2 → Q x1 d dl) ∧ (¬ (d 0 13) ≤ x2 → vp_in x2 24 ∧ ∀ k3 : Nat, k3 = x2.toNatClampNeg → F_X3_timeCount n k3 d dl (fun r4 d5 l6 => ∀ v7 : Int32, v7 = (x1 + r4) → (b_X9_howManyTimes_4 n Q j4) v7 (x2 + 1) d5 l6))
    have m_1 := iv_0_13 hS.1
    refine ⟨fun h1 => ?_, fun h1 => ?_⟩
    · have h1 : (d 0 13).toInt ≤ x2.toInt := (i_le rfl rfl).mp h1
      exact hQ _ _ _ ⟨hS, trivial⟩
    · have h1 : ¬ ((d 0 13).toInt ≤ x2.toInt) := fun q => h1 ((i_le rfl rfl).mpr q)
      have ih2 : vp_in x2 24 := vin rfl (by omega) (by omega)
      refine ⟨ih2, ?_⟩
      intro k3 ek3
      have hk3 : k3 < 24 := by rw [ek3]; exact clamp_in ih2
      refine sp_X3_timeCount hn hS.1 hk3 (fun r4 d5 l6 ⟨p_2, u_3⟩ => ?_)
      have s_4 : Sq e el d5 l6 := hS.tr p_2
      have w_5 : d5 = d := p_2.2.1
      intro v7 e7
      have t_6 : v7.toInt = (x1 + r4).toInt := (congrArg Int32.toInt e7).trans rfl
      have t_7 : (x2 + 1).toInt = x2.toInt + 1 := ti_add rfl (rfl : (1 : Int32).toInt = 1) (by omega) (by omega)
      exact hK4 _ _ _ _ s_4 (by omega) (by omega)
set_option maxHeartbeats 4000000 in
set_option maxRecDepth 100000 in
theorem sp_X9_howManyTimes {n : Nat} (hn : 1000000000 ≤ n) {d : DD} {dl : LL} (hI : Inv d) {Q : Int32 → DD → LL → Prop} (hQ : ∀ (r : Int32) (d2 : DD) (l2 : LL), Sq d dl d2 l2 ∧ (True) → Q r d2 l2) : F_X9_howManyTimes n d dl Q := by
  obtain ⟨e, he⟩ : ∃ e : DD, e = d := ⟨_, rfl⟩
  obtain ⟨el, hel⟩ : ∃ el : LL, el = dl := ⟨_, rfl⟩
  have hS : Sq e el d dl := by rw [he, hel]; exact Sq.rf hI
  rw [← he, ← hel] at hQ
  show b_X9_howManyTimes_4 n Q n 0 0 d dl
  exact sb_X9_howManyTimes_4 hn hQ n _ _ _ _ hS (show 0 ≤ 0 ∧ 0 ≤ 24 from by omega) (show 25 - 0 < (n : Int) from by omega)
set_option maxHeartbeats 4000000 in
set_option maxRecDepth 100000 in
theorem sp_X9_count {n : Nat} (hn : 1000000000 ≤ n) {x1 : Int32} {d : DD} {dl : LL} (hI : Inv d) {Q : Int32 → DD → LL → Prop} (hQ : ∀ (r : Int32) (d2 : DD) (l2 : LL), Sq d dl d2 l2 ∧ (True) → Q r d2 l2) : F_X9_count n x1 d dl Q := by
  obtain ⟨e, he⟩ : ∃ e : DD, e = d := ⟨_, rfl⟩
  obtain ⟨el, hel⟩ : ∃ el : LL, el = dl := ⟨_, rfl⟩
  have hS : Sq e el d dl := by rw [he, hel]; exact Sq.rf hI
  rw [← he, ← hel] at hQ
  show (x1 = 0 → Q (d 1 0) d dl) ∧ (x1 = 1 → Q (d 0 2) d dl) ∧ (x1 = 2 → Q (d 0 7) d dl) ∧ (x1 = 3 → Q (d 0 13) d dl) ∧ (x1 = 4 → F_X9_howManyWait n d dl (fun r1 d2 l3 => Q r1 d2 l3)) ∧ (x1 = 5 → Q (d 24 0) d dl) ∧ (x1 = 6 → Q (d 0 9) d dl) ∧ (x1 = 7 → F_X9_howManyAreSeated n d dl (fun r4 d5 l6 => Q r4 d5 l6)) ∧ (x1 = 8 → F_X9_howManyTimes n d dl (fun r7 d8 l9 => Q r7 d8 l9)) ∧ (x1.toInt < 0 ∨ 8 < x1.toInt → Q (-1) d dl)
  refine ⟨fun h10 => ?_, fun h10 => ?_, fun h10 => ?_, fun h10 => ?_, fun h10 => ?_, fun h10 => ?_, fun h10 => ?_, fun h10 => ?_, fun h10 => ?_, fun h10 => ?_⟩
  · have h10 : x1.toInt = 0 := (i_eq rfl (rfl : (0 : Int32).toInt = 0)).mp h10
    have m_1 := iv_1_0 hS.1
    exact hQ _ _ _ ⟨hS, trivial⟩
  · have h10 : x1.toInt = 1 := (i_eq rfl (rfl : (1 : Int32).toInt = 1)).mp h10
    have m_2 := iv_0_2 hS.1
    exact hQ _ _ _ ⟨hS, trivial⟩
  · have h10 : x1.toInt = 2 := (i_eq rfl (rfl : (2 : Int32).toInt = 2)).mp h10
    have m_3 := iv_0_7 hS.1
    exact hQ _ _ _ ⟨hS, trivial⟩
  · have h10 : x1.toInt = 3 := (i_eq rfl (rfl : (3 : Int32).toInt = 3)).mp h10
    have m_4 := iv_0_13 hS.1
    exact hQ _ _ _ ⟨hS, trivial⟩
  · have h10 : x1.toInt = 4 := (i_eq rfl (rfl : (4 : Int32).toInt = 4)).mp h10
    refine sp_X9_howManyWait hn hS.1 (fun r1 d2 l3 ⟨p_5, u_6⟩ => ?_)
    have s_7 : Sq e el d2 l3 := hS.tr p_5
    have w_8 : d2 = d := p_5.2.1
    exact hQ _ _ _ ⟨s_7, trivial⟩
  · have h10 : x1.toInt = 5 := (i_eq rfl (rfl : (5 : Int32).toInt = 5)).mp h10
    have m_9 := iv_24_0 hS.1
    exact hQ _ _ _ ⟨hS, trivial⟩
  · have h10 : x1.toInt = 6 := (i_eq rfl (rfl : (6 : Int32).toInt = 6)).mp h10
    have m_10 := iv_0_9 hS.1
    exact hQ _ _ _ ⟨hS, trivial⟩
  · have h10 : x1.toInt = 7 := (i_eq rfl (rfl : (7 : Int32).toInt = 7)).mp h10
    refine sp_X9_howManyAreSeated hn hS.1 (fun r4 d5 l6 ⟨p_11, u_12⟩ => ?_)
    have s_13 : Sq e el d5 l6 := hS.tr p_11
    have w_14 : d5 = d := p_11.2.1
    exact hQ _ _ _ ⟨s_13, trivial⟩
  · have h10 : x1.toInt = 8 := (i_eq rfl (rfl : (8 : Int32).toInt = 8)).mp h10
    refine sp_X9_howManyTimes hn hS.1 (fun r7 d8 l9 ⟨p_15, u_16⟩ => ?_)
    have s_17 : Sq e el d8 l9 := hS.tr p_15
    have w_18 : d8 = d := p_15.2.1
    exact hQ _ _ _ ⟨s_17, trivial⟩
  · have _ := hn
    exact hQ _ _ _ ⟨hS, trivial⟩
set_option maxHeartbeats 4000000 in
set_option maxRecDepth 100000 in
theorem sp_X10_isPaddler {n : Nat} (hn : 1000000000 ≤ n) {x1 : Int32} {d : DD} {dl : LL} (hI : Inv d) {Q : Int32 → DD → LL → Prop} (hQ : ∀ (r : Int32) (d2 : DD) (l2 : LL), Sq d dl d2 l2 ∧ (0 ≤ r.toInt ∧ r.toInt ≤ 1 ∧ ((r.toInt = 1 ∧ 0 ≤ x1.toInt ∧ x1.toInt < (d 211 0).toInt) ∨ (r.toInt = 0 ∧ ¬ (0 ≤ x1.toInt ∧ x1.toInt < (d 211 0).toInt)))) → Q r d2 l2) : F_X10_isPaddler n x1 d dl Q := by
  obtain ⟨e, he⟩ : ∃ e : DD, e = d := ⟨_, rfl⟩
  obtain ⟨el, hel⟩ : ∃ el : LL, el = dl := ⟨_, rfl⟩
  have hS : Sq e el d dl := by rw [he, hel]; exact Sq.rf hI
  rw [← he, ← hel] at hQ
  show (x1 < 0 → Q 0 d dl) ∧ (¬ x1 < 0 → ((d 211 0) ≤ x1 → Q 0 d dl) ∧ (¬ (d 211 0) ≤ x1 → Q 1 d dl))
  have hx0 : (e 211 0).toInt = (d 211 0).toInt := by rw [he]
  refine ⟨fun h1 => ?_, fun h1 => ?_⟩
  · have h1 : x1.toInt < 0 := (i_lt rfl (rfl : (0 : Int32).toInt = 0)).mp h1
    exact hQ _ _ _ ⟨hS, (show (0 ≤ 0 ∧ 0 ≤ 1 ∧ ((0 = 1 ∧ 0 ≤ x1.toInt ∧ x1.toInt < (e 211 0).toInt) ∨ (0 = 0 ∧ ¬ (0 ≤ x1.toInt ∧ x1.toInt < (e 211 0).toInt)))) from by omega)⟩
  · have h1 : ¬ (x1.toInt < 0) := fun q => h1 ((i_lt rfl (rfl : (0 : Int32).toInt = 0)).mpr q)
    have m_1 := iv_211_0 hS.1
    refine ⟨fun h2 => ?_, fun h2 => ?_⟩
    · have h2 : (d 211 0).toInt ≤ x1.toInt := (i_le rfl rfl).mp h2
      exact hQ _ _ _ ⟨hS, (show (0 ≤ 0 ∧ 0 ≤ 1 ∧ ((0 = 1 ∧ 0 ≤ x1.toInt ∧ x1.toInt < (e 211 0).toInt) ∨ (0 = 0 ∧ ¬ (0 ≤ x1.toInt ∧ x1.toInt < (e 211 0).toInt)))) from by omega)⟩
    · have h2 : ¬ ((d 211 0).toInt ≤ x1.toInt) := fun q => h2 ((i_le rfl rfl).mpr q)
      exact hQ _ _ _ ⟨hS, (show (0 ≤ 1 ∧ 1 ≤ 1 ∧ ((1 = 1 ∧ 0 ≤ x1.toInt ∧ x1.toInt < (e 211 0).toInt) ∨ (1 = 0 ∧ ¬ (0 ≤ x1.toInt ∧ x1.toInt < (e 211 0).toInt)))) from by omega)⟩
set_option maxHeartbeats 4000000 in
set_option maxRecDepth 100000 in
theorem sp_X10_isCrew {n : Nat} (hn : 1000000000 ≤ n) {x1 : Int32} {d : DD} {dl : LL} (hI : Inv d) {Q : Int32 → DD → LL → Prop} (hQ : ∀ (r : Int32) (d2 : DD) (l2 : LL), Sq d dl d2 l2 ∧ (0 ≤ r.toInt ∧ r.toInt ≤ 1 ∧ ((r.toInt = 1 ∧ 0 ≤ x1.toInt ∧ x1.toInt < (d 211 1).toInt) ∨ (r.toInt = 0 ∧ ¬ (0 ≤ x1.toInt ∧ x1.toInt < (d 211 1).toInt)))) → Q r d2 l2) : F_X10_isCrew n x1 d dl Q := by
  obtain ⟨e, he⟩ : ∃ e : DD, e = d := ⟨_, rfl⟩
  obtain ⟨el, hel⟩ : ∃ el : LL, el = dl := ⟨_, rfl⟩
  have hS : Sq e el d dl := by rw [he, hel]; exact Sq.rf hI
  rw [← he, ← hel] at hQ
  show (x1 < 0 → Q 0 d dl) ∧ (¬ x1 < 0 → ((d 211 1) ≤ x1 → Q 0 d dl) ∧ (¬ (d 211 1) ≤ x1 → Q 1 d dl))
  have hx0 : (e 211 1).toInt = (d 211 1).toInt := by rw [he]
  refine ⟨fun h1 => ?_, fun h1 => ?_⟩
  · have h1 : x1.toInt < 0 := (i_lt rfl (rfl : (0 : Int32).toInt = 0)).mp h1
    exact hQ _ _ _ ⟨hS, (show (0 ≤ 0 ∧ 0 ≤ 1 ∧ ((0 = 1 ∧ 0 ≤ x1.toInt ∧ x1.toInt < (e 211 1).toInt) ∨ (0 = 0 ∧ ¬ (0 ≤ x1.toInt ∧ x1.toInt < (e 211 1).toInt)))) from by omega)⟩
  · have h1 : ¬ (x1.toInt < 0) := fun q => h1 ((i_lt rfl (rfl : (0 : Int32).toInt = 0)).mpr q)
    have m_1 := iv_211_1 hS.1
    refine ⟨fun h2 => ?_, fun h2 => ?_⟩
    · have h2 : (d 211 1).toInt ≤ x1.toInt := (i_le rfl rfl).mp h2
      exact hQ _ _ _ ⟨hS, (show (0 ≤ 0 ∧ 0 ≤ 1 ∧ ((0 = 1 ∧ 0 ≤ x1.toInt ∧ x1.toInt < (e 211 1).toInt) ∨ (0 = 0 ∧ ¬ (0 ≤ x1.toInt ∧ x1.toInt < (e 211 1).toInt)))) from by omega)⟩
    · have h2 : ¬ ((d 211 1).toInt ≤ x1.toInt) := fun q => h2 ((i_le rfl rfl).mpr q)
      exact hQ _ _ _ ⟨hS, (show (0 ≤ 1 ∧ 1 ≤ 1 ∧ ((1 = 1 ∧ 0 ≤ x1.toInt ∧ x1.toInt < (e 211 1).toInt) ∨ (1 = 0 ∧ ¬ (0 ≤ x1.toInt ∧ x1.toInt < (e 211 1).toInt)))) from by omega)⟩
set_option maxHeartbeats 4000000 in
set_option maxRecDepth 100000 in
theorem sp_X10_size {n : Nat} (hn : 1000000000 ≤ n) {x0 : Int32} {d : DD} {dl : LL} (hI : Inv d) {Q : Int32 → DD → LL → Prop} (hQ : ∀ (r : Int32) (d2 : DD) (l2 : LL), Sq d dl d2 l2 ∧ (True) → Q r d2 l2) : F_X10_size n x0 d dl Q := by
  obtain ⟨e, he⟩ : ∃ e : DD, e = d := ⟨_, rfl⟩
  obtain ⟨el, hel⟩ : ∃ el : LL, el = dl := ⟨_, rfl⟩
  have hS : Sq e el d dl := by rw [he, hel]; exact Sq.rf hI
  rw [← he, ← hel] at hQ
  show (0 ≤ x0 → Q x0 d dl) ∧ (¬ 0 ≤ x0 → Q (-x0) d dl)
  refine ⟨fun h1 => ?_, fun h1 => ?_⟩
  · have h1 : 0 ≤ x0.toInt := (i_le (rfl : (0 : Int32).toInt = 0) rfl).mp h1
    exact hQ _ _ _ ⟨hS, trivial⟩
  · have h1 : ¬ (0 ≤ x0.toInt) := fun q => h1 ((i_le (rfl : (0 : Int32).toInt = 0) rfl).mpr q)
    exact hQ _ _ _ ⟨hS, trivial⟩
set_option maxHeartbeats 4000000 in
set_option maxRecDepth 100000 in
theorem sb_X10_isMember_2 {n : Nat} (hn : 1000000000 ≤ n) {e : DD} {el : LL} {Q : Int32 → DD → LL → Prop} (hQ : ∀ (r : Int32) (d2 : DD) (l2 : LL), Sq e el d2 l2 ∧ (0 ≤ r.toInt ∧ r.toInt ≤ 1) → Q r d2 l2) : ∀ (j2 : Nat) (x1 : Int32) (x2 : Int32) (x3 : Int32) (d : DD) (dl : LL), Sq e el d dl → (0 ≤ x1.toInt ∧ x1.toInt ≤ 5) → (0 ≤ x3.toInt ∧ x3.toInt ≤ 8) → 9 - x3.toInt < (j2 : Int) → b_X10_isMember_2 n Q j2 x1 x2 x3 d dl := by
  intro j2
  induction j2 with
  | zero =>
    intro x1 x2 x3 d dl hS bx1 bx3 hm2
    exfalso
    omega
  | succ j2 hK2 =>
    intro x1 x2 x3 d dl hS bx1 bx3 hm2
    show vp_in x1 6 ∧ ((d 220 x1.toNatClampNeg) ≤ x3 → Q 0 d dl) ∧ (¬ (d 220 x1.toNatClampNeg) ≤ x3 → vp_in (((8 : Int32) * x1) + x3) 48 ∧ (¬ (d 222 (((8 : Int32) * x1) + x3).toNatClampNeg) = x2 → (b_X10_isMember_2 n Q j2) x1 x2 (x3 + 1) d dl) ∧ ((d 222 (((8 : Int32) * x1) + x3).toNatClampNeg) = x2 → Q 1 d dl))
    have ih1 : vp_in x1 6 := vin rfl (by omega) (by omega)
    refine ⟨ih1, ?_⟩
    have m_1 := iv_220 hS.1 (x1.toNatClampNeg)
    refine ⟨fun h2 => ?_, fun h2 => ?_⟩
    · have h2 : (d 220 x1.toNatClampNeg).toInt ≤ x3.toInt := (i_le rfl rfl).mp h2
      exact hQ _ _ _ ⟨hS, (show (0 ≤ 0 ∧ 0 ≤ 1) from by omega)⟩
    · have h2 : ¬ ((d 220 x1.toNatClampNeg).toInt ≤ x3.toInt) := fun q => h2 ((i_le rfl rfl).mpr q)
      have t_2 : ((8 : Int32) * x1).toInt = 8 * x1.toInt := ti_mul (rfl : (8 : Int32).toInt = 8) rfl (by omega) (by omega)
      have t_3 : (((8 : Int32) * x1) + x3).toInt = (8 * x1.toInt) + x3.toInt := ti_add t_2 rfl (by omega) (by omega)
      have ih3 : vp_in (((8 : Int32) * x1) + x3) 48 := vin t_3 (by omega) (by omega)
      refine ⟨ih3, ?_⟩
      have m_4 := iv_222 hS.1 ((((8 : Int32) * x1) + x3).toNatClampNeg)
      refine ⟨fun h4 => ?_, fun h4 => ?_⟩
      · have h4 : ¬ ((d 222 (((8 : Int32) * x1) + x3).toNatClampNeg).toInt = x2.toInt) := fun q => h4 ((i_eq rfl rfl).mpr q)
        have t_5 : (x3 + 1).toInt = x3.toInt + 1 := ti_add rfl (rfl : (1 : Int32).toInt = 1) (by omega) (by omega)
        exact hK2 _ _ _ _ _ hS (by omega) (by omega) (by omega)
      · have h4 : (d 222 (((8 : Int32) * x1) + x3).toNatClampNeg).toInt = x2.toInt := (i_eq rfl rfl).mp h4
        exact hQ _ _ _ ⟨hS, (show (0 ≤ 1 ∧ 1 ≤ 1) from by omega)⟩
set_option maxHeartbeats 4000000 in
set_option maxRecDepth 100000 in
theorem sp_X10_isMember {n : Nat} (hn : 1000000000 ≤ n) {x1 : Int32} {x2 : Int32} {d : DD} {dl : LL} (hI : Inv d) (bx1 : 0 ≤ x1.toInt ∧ x1.toInt ≤ 5) {Q : Int32 → DD → LL → Prop} (hQ : ∀ (r : Int32) (d2 : DD) (l2 : LL), Sq d dl d2 l2 ∧ (0 ≤ r.toInt ∧ r.toInt ≤ 1) → Q r d2 l2) : F_X10_isMember n x1 x2 d dl Q := by
  obtain ⟨e, he⟩ : ∃ e : DD, e = d := ⟨_, rfl⟩
  obtain ⟨el, hel⟩ : ∃ el : LL, el = dl := ⟨_, rfl⟩
  have hS : Sq e el d dl := by rw [he, hel]; exact Sq.rf hI
  rw [← he, ← hel] at hQ
  show b_X10_isMember_2 n Q n x1 x2 0 d dl
  exact sb_X10_isMember_2 hn hQ n _ _ _ _ _ hS (by omega) (show 0 ≤ 0 ∧ 0 ≤ 8 from by omega) (show 9 - 0 < (n : Int) from by omega)
set_option maxHeartbeats 4000000 in
set_option maxRecDepth 100000 in
theorem sp_X10_fits {n : Nat} (hn : 1000000000 ≤ n) {x1 : Int32} {x2 : Int32} {d : DD} {dl : LL} (hI : Inv d) (bx1 : 0 ≤ x1.toInt ∧ x1.toInt ≤ 39) {Q : Int32 → DD → LL → Prop} (hQ : ∀ (r : Int32) (d2 : DD) (l2 : LL), Sq d dl d2 l2 ∧ (0 ≤ r.toInt ∧ r.toInt ≤ 1) → Q r d2 l2) : F_X10_fits n x1 x2 d dl Q := by
  obtain ⟨e, he⟩ : ∃ e : DD, e = d := ⟨_, rfl⟩
  obtain ⟨el, hel⟩ : ∃ el : LL, el = dl := ⟨_, rfl⟩
  have hS : Sq e el d dl := by rw [he, hel]; exact Sq.rf hI
  rw [← he, ← hel] at hQ
  show vp_in x1 40 ∧ ((d 214 x1.toNatClampNeg) = 2 → Q 1 d dl) ∧ (¬ (d 214 x1.toNatClampNeg) = 2 → vp_in x1 40 ∧ (¬ (d 214 x1.toNatClampNeg) = (irem x2 2) → Q 0 d dl) ∧ ((d 214 x1.toNatClampNeg) = (irem x2 2) → Q 1 d dl))
  have ih1 : vp_in x1 40 := vin rfl (by omega) (by omega)
  refine ⟨ih1, ?_⟩
  have m_1 := iv_214 hS.1 (x1.toNatClampNeg)
  refine ⟨fun h2 => ?_, fun h2 => ?_⟩
  · have h2 : (d 214 x1.toNatClampNeg).toInt = 2 := (i_eq rfl (rfl : (2 : Int32).toInt = 2)).mp h2
    exact hQ _ _ _ ⟨hS, (show (0 ≤ 1 ∧ 1 ≤ 1) from by omega)⟩
  · have h2 : ¬ ((d 214 x1.toNatClampNeg).toInt = 2) := fun q => h2 ((i_eq rfl (rfl : (2 : Int32).toInt = 2)).mpr q)
    have ih3 : vp_in x1 40 := vin rfl (by omega) (by omega)
    refine ⟨ih3, ?_⟩
    refine ⟨fun h4 => ?_, fun h4 => ?_⟩
    · have h4 : ¬ ((d 214 x1.toNatClampNeg).toInt = (irem x2 2).toInt) := fun q => h4 ((i_eq rfl rfl).mpr q)
      exact hQ _ _ _ ⟨hS, (show (0 ≤ 0 ∧ 0 ≤ 1) from by omega)⟩
    · have h4 : (d 214 x1.toNatClampNeg).toInt = (irem x2 2).toInt := (i_eq rfl rfl).mp h4
      exact hQ _ _ _ ⟨hS, (show (0 ≤ 1 ∧ 1 ≤ 1) from by omega)⟩
