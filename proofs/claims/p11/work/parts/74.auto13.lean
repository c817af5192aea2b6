set_option maxHeartbeats 4000000 in
set_option maxRecDepth 100000 in
theorem sb_X10_slack_14 {n : Nat} (hn : 1000000000 ≤ n) {e : DD} {el : LL} {Q : Int32 → DD → LL → Prop} (hQ : ∀ (r : Int32) (d2 : DD) (l2 : LL), Sq e el d2 l2 ∧ (True) → Q r d2 l2) {K4 : Int32 → Int32 → DD → LL → Prop} {j4 : Nat} (hK4 : ∀ (x1 : Int32) (x2 : Int32) (d : DD) (dl : LL), Sq e el d dl → (0 ≤ x2.toInt ∧ x2.toInt ≤ 24) → 25 - x2.toInt < (j4 : Int) → K4 x1 x2 d dl) : ∀ (j14 : Nat) (x1 : Int32) (x2 : Int32) (x3 : Int32) (d : DD) (dl : LL), Sq e el d dl → (0 ≤ x2.toInt ∧ x2.toInt ≤ 23) → (0 ≤ x3.toInt ∧ x3.toInt ≤ 24) → 25 - x2.toInt ≤ (j4 : Int) → 25 - x3.toInt < (j14 : Int) → b_X10_slack_14 n Q K4 j14 x1 x2 x3 d dl := by
  intro j14
  induction j14 with
  | zero =>
    intro x1 x2 x3 d dl hS bx2 bx3 hm4 hm14
    exfalso
    omega
  | succ j14 hK14 =>
    intro x1 x2 x3 d dl hS bx2 bx3 hm4 hm14
    show (x2 ≤ x3 → K4 x1 (x2 + 1) d dl) ∧ (¬ x2 ≤ x3 → b_X10_slack_25 n Q K4 (b_X10_slack_14 n Q K4 j14) n x1 x2 x3 0 0 d dl)
    refine ⟨fun h2 => ?_, fun h2 => ?_⟩
    · have h2 : x2.toInt ≤ x3.toInt := (i_le rfl rfl).mp h2
      have t_29 : (x2 + 1).toInt = x2.toInt + 1 := ti_add rfl (rfl : (1 : Int32).toInt = 1) (by omega) (by omega)
      exact hK4 _ _ _ _ hS (by omega) (by omega)
    · have h2 : ¬ (x2.toInt ≤ x3.toInt) := fun q => h2 ((i_le rfl rfl).mpr q)
      exact sb_X10_slack_25 hn hQ hK4 hK14 n _ _ _ _ _ _ _ hS (by omega) (by omega) (show 0 ≤ 0 ∧ 0 ≤ 1 from by omega) (show 0 ≤ 0 ∧ 0 ≤ 16 from by omega) (by omega) (by omega) (show 17 - 0 < (n : Int) from by omega)
set_option maxHeartbeats 4000000 in
set_option maxRecDepth 100000 in
theorem sb_X10_slack_4 {n : Nat} (hn : 1000000000 ≤ n) {e : DD} {el : LL} {Q : Int32 → DD → LL → Prop} (hQ : ∀ (r : Int32) (d2 : DD) (l2 : LL), Sq e el d2 l2 ∧ (True) → Q r d2 l2) : ∀ (j4 : Nat) (x1 : Int32) (x2 : Int32) (d : DD) (dl : LL), Sq e el d dl → (0 ≤ x2.toInt ∧ x2.toInt ≤ 24) → 25 - x2.toInt < (j4 : Int) → b_X10_slack_4 n Q j4 x1 x2 d dl := by
  intro j4
  induction j4 with
  | zero =>
    intro x1 x2 d dl hS bx2 hm4
    exfalso
    omega
  | succ j4 hK4 =>
    intro x1 x2 d dl hS bx2 hm4
    show ((d 211 3) ≤ x2 → Q x1 d dl) ∧ (¬ (d 211 3) ≤ x2 → b_X10_slack_14 n Q (b_X10_slack_4 n Q j4) n x1 x2 0 d dl)
    have m_30 := iv_211_3 hS.1
    refine ⟨fun h1 => ?_, fun h1 => ?_⟩
    · have h1 : (d 211 3).toInt ≤ x2.toInt := (i_le rfl rfl).mp h1
      exact hQ _ _ _ ⟨hS, trivial⟩
    · have h1 : ¬ ((d 211 3).toInt ≤ x2.toInt) := fun q => h1 ((i_le rfl rfl).mpr q)
      exact sb_X10_slack_14 hn hQ hK4 n _ _ _ _ _ hS (by omega) (show 0 ≤ 0 ∧ 0 ≤ 24 from by omega) (by omega) (show 25 - 0 < (n : Int) from by omega)
set_option maxHeartbeats 4000000 in
set_option maxRecDepth 100000 in
theorem sp_X10_slack {n : Nat} (hn : 1000000000 ≤ n) {d : DD} {dl : LL} (hI : Inv d) {Q : Int32 → DD → LL → Prop} (hQ : ∀ (r : Int32) (d2 : DD) (l2 : LL), Sq d dl d2 l2 ∧ (True) → Q r d2 l2) : F_X10_slack n d dl Q := by
  obtain ⟨e, he⟩ : ∃ e : DD, e = d := ⟨_, rfl⟩
  obtain ⟨el, hel⟩ : ∃ el : LL, el = dl := ⟨_, rfl⟩
  have hS : Sq e el d dl := by rw [he, hel]; exact Sq.rf hI
  rw [← he, ← hel] at hQ
  show b_X10_slack_4 n Q n (-1) 0 d dl
  exact sb_X10_slack_4 hn hQ n _ _ _ _ hS (show 0 ≤ 0 ∧ 0 ≤ 24 from by omega) (show 25 - 0 < (n : Int) from by omega)
set_option maxHeartbeats 4000000 in
set_option maxRecDepth 100000 in
theorem sb_X10_leastTime_61 {n : Nat} (hn : 1000000000 ≤ n) {e : DD} {el : LL} {Q : Int32 → DD → LL → Prop} (hQ : ∀ (r : Int32) (d2 : DD) (l2 : LL), Sq e el d2 l2 ∧ (True) → Q r d2 l2) {K5 : Int32 → Int32 → Int32 → Int32 → DD → LL → Prop} {j5 : Nat} (hK5 : ∀ (x1 : Int32) (x2 : Int32) (x3 : Int32) (x4 : Int32) (d : DD) (dl : LL), Sq e el d dl → (0 ≤ x2.toInt ∧ x2.toInt ≤ 3) → (0 ≤ x4.toInt ∧ x4.toInt ≤ 24) → 25 - x4.toInt < (j5 : Int) → K5 x1 x2 x3 x4 d dl) : ∀ (x1 : Int32) (x2 : Int32) (x4 : Int32) (x5 : Int32) (d : DD) (dl : LL), Sq e el d dl → (0 ≤ x2.toInt ∧ x2.toInt ≤ 3) → (0 ≤ x4.toInt ∧ x4.toInt ≤ 23) → 25 - x4.toInt ≤ (j5 : Int) → b_X10_leastTime_61 n Q K5 x1 x2 x4 x5 d dl := by
  intro x1 x2 x4 x5 d dl hS bx2 bx4 hm5
  show K5 x1 x2 x5 (x4 + 1) d dl
  have t_1 : (x4 + 1).toInt = x4.toInt + 1 := ti_add rfl (rfl : (1 : Int32).toInt = 1) (by omega) (by omega)
  exact hK5 _ _ _ _ _ _ hS (by omega) (by omega) (by omega)
set_option maxHeartbeats 4000000 in
set_option maxRecDepth 100000 in
theorem sb_X10_leastTime_44 {n : Nat} (hn : 1000000000 ≤ n) {e : DD} {el : LL} {Q : Int32 → DD → LL → Prop} (hQ : ∀ (r : Int32) (d2 : DD) (l2 : LL), Sq e el d2 l2 ∧ (True) → Q r d2 l2) {K5 : Int32 → Int32 → Int32 → Int32 → DD → LL → Prop} {j5 : Nat} (hK5 : ∀ (x1 : Int32) (x2 : Int32) (x3 : Int32) (x4 : Int32) (d : DD) (dl : LL), Sq e el d dl → (0 ≤ x2.toInt ∧ x2.toInt ≤ 3) → (0 ≤ x4.toInt ∧ x4.toInt ≤ 24) → 25 - x4.toInt < (j5 : Int) → K5 x1 x2 x3 x4 d dl) : ∀ (x1 : Int32) (x2 : Int32) (x3 : Int32) (x4 : Int32) (xs0 : Int32) (d : DD) (dl : LL), Sq e el d dl → (0 ≤ x2.toInt ∧ x2.toInt ≤ 3) → (0 ≤ x4.toInt ∧ x4.toInt ≤ 23) → 25 - x4.toInt ≤ (j5 : Int) → b_X10_leastTime_44 n Q K5 x1 x2 x3 x4 xs0 d dl := by
  intro x1 x2 x3 x4 xs0 d dl hS bx2 bx4 hm5
  show (xs0 ≤ 0 → K5 x1 x2 x3 (x4 + 1) d dl) ∧ (¬ xs0 ≤ 0 → (x3 = 0 → b_X10_leastTime_61 n Q K5 x1 x2 x4 xs0 d dl) ∧ (¬ x3 = 0 → (x3 ≤ xs0 → K5 x1 x2 x3 (x4 + 1) d dl) ∧ (¬ x3 ≤ xs0 → b_X10_leastTime_61 n Q K5 x1 x2 x4 xs0 d dl)))
  refine ⟨fun h4 => ?_, fun h4 => ?_⟩
  · have h4 : xs0.toInt ≤ 0 := (i_le rfl (rfl : (0 : Int32).toInt = 0)).mp h4
    have t_2 : (x4 + 1).toInt = x4.toInt + 1 := ti_add rfl (rfl : (1 : Int32).toInt = 1) (by omega) (by omega)
    exact hK5 _ _ _ _ _ _ hS (by omega) (by omega) (by omega)
  · have h4 : ¬ (xs0.toInt ≤ 0) := fun q => h4 ((i_le rfl (rfl : (0 : Int32).toInt = 0)).mpr q)
    refine ⟨fun h5 => ?_, fun h5 => ?_⟩
    · have h5 : x3.toInt = 0 := (i_eq rfl (rfl : (0 : Int32).toInt = 0)).mp h5
      exact sb_X10_leastTime_61 hn hQ hK5 _ _ _ _ _ _ hS (by omega) (by omega) (by omega)
    · have h5 : ¬ (x3.toInt = 0) := fun q => h5 ((i_eq rfl (rfl : (0 : Int32).toInt = 0)).mpr q)
      refine ⟨fun h6 => ?_, fun h6 => ?_⟩
      · have h6 : x3.toInt ≤ xs0.toInt := (i_le rfl rfl).mp h6
        have t_3 : (x4 + 1).toInt = x4.toInt + 1 := ti_add rfl (rfl : (1 : Int32).toInt = 1) (by omega) (by omega)
        exact hK5 _ _ _ _ _ _ hS (by omega) (by omega) (by omega)
      · have h6 : ¬ (x3.toInt ≤ xs0.toInt) := fun q => h6 ((i_le rfl rfl).mpr q)
        exact sb_X10_leastTime_61 hn hQ hK5 _ _ _ _ _ _ hS (by omega) (by omega) (by omega)
set_option maxHeartbeats 4000000 in
set_option maxRecDepth 100000 in
theorem sb_X10_leastTime_5 {n : Nat} (hn : 1000000000 ≤ n) {e : DD} {el : LL} {Q : Int32 → DD → LL → Prop} (hQ : ∀ (r : Int32) (d2 : DD) (l2 : LL), Sq e el d2 l2 ∧ (True) → Q r d2 l2) : ∀ (j5 : Nat) (x1 : Int32) (x2 : Int32) (x3 : Int32) (x4 : Int32) (d : DD) (dl : LL), Sq e el d dl → (0 ≤ x2.toInt ∧ x2.toInt ≤ 3) → (0 ≤ x4.toInt ∧ x4.toInt ≤ 24) → 25 - x4.toInt < (j5 : Int) → b_X10_leastTime_5 n Q j5 x1 x2 x3 x4 d dl := by
  intro j5
  induction j5 with
  | zero =>
    intro x1 x2 x3 x4 d dl hS bx2 bx4 hm5
    exfalso
    omega
  | succ j5 hK5 =>
    intro x1 x2 x3 x4 d dl hS bx2 bx4 hm5
    show ((d 211 3) ≤ x4 → Q x3 d dl) ∧ (¬ (d 211 3) ≤ x4 → vp_in (((4 : Int32) * x4) + x2) 96 ∧ (¬ (d 234 (((4 : Int32) * x4) + x2).toNatClampNeg) = x1 → b_X10_leastTime_44 n Q (b_X10_leastTime_5 n Q j5) x1 x2 x3 x4 0 d dl) ∧ ((d 234 (((4 : Int32) * x4) + x2).toNatClampNeg) = x1 → vp_in (((4 : Int32) * x4) + x2) 96 ∧ b_X10_leastTime_44 n Q (b_X10_leastTime_5 n Q j5) x1 x2 x3 x4 (d 235 (((4 : Int32) * x4) + x2).toNatClampNeg) d dl))
    have m_4 := iv_211_3 hS.1
    refine ⟨fun h1 => ?_, fun h1 => ?_⟩
    · have h1 : (d 211 3).toInt ≤ x4.toInt := (i_le rfl rfl).mp h1
      exact hQ _ _ _ ⟨hS, trivial⟩
    · have h1 : ¬ ((d 211 3).toInt ≤ x4.toInt) := fun q => h1 ((i_le rfl rfl).mpr q)
      have t_5 : ((4 : Int32) * x4).toInt = 4 * x4.toInt := ti_mul (rfl : (4 : Int32).toInt = 4) rfl (by omega) (by omega)
      have t_6 : (((4 : Int32) * x4) + x2).toInt = (4 * x4.toInt) + x2.toInt := ti_add t_5 rfl (by omega) (by omega)
      have ih2 : vp_in (((4 : Int32) * x4) + x2) 96 := vin t_6 (by omega) (by omega)
      refine ⟨ih2, ?_⟩
      have m_7 := iv_234 hS.1 ((((4 : Int32) * x4) + x2).toNatClampNeg)
      refine ⟨fun h3 => ?_, fun h3 => ?_⟩
      · have h3 : ¬ ((d 234 (((4 : Int32) * x4) + x2).toNatClampNeg).toInt = x1.toInt) := fun q => h3 ((i_eq rfl rfl).mpr q)
        exact sb_X10_leastTime_44 hn hQ hK5 _ _ _ _ _ _ _ hS (by omega) (by omega) (by omega)
      · have h3 : (d 234 (((4 : Int32) * x4) + x2).toNatClampNeg).toInt = x1.toInt := (i_eq rfl rfl).mp h3
        have ih7 : vp_in (((4 : Int32) * x4) + x2) 96 := vin t_6 (by omega) (by omega)
        refine ⟨ih7, ?_⟩
        exact sb_X10_leastTime_44 hn hQ hK5 _ _ _ _ _ _ _ hS (by omega) (by omega) (by omega)
set_option maxHeartbeats 4000000 in
set_option maxRecDepth 100000 in
theorem sp_X10_leastTime {n : Nat} (hn : 1000000000 ≤ n) {x1 : Int32} {x2 : Int32} {d : DD} {dl : LL} (hI : Inv d) (bx2 : 0 ≤ x2.toInt ∧ x2.toInt ≤ 3) {Q : Int32 → DD → LL → Prop} (hQ : ∀ (r : Int32) (d2 : DD) (l2 : LL), Sq d dl d2 l2 ∧ (True) → Q r d2 l2) : F_X10_leastTime n x1 x2 d dl Q := by
  obtain ⟨e, he⟩ : ∃ e : DD, e = d := ⟨_, rfl⟩
  obtain ⟨el, hel⟩ : ∃ el : LL, el = dl := ⟨_, rfl⟩
  have hS : Sq e el d dl := by rw [he, hel]; exact Sq.rf hI
  rw [← he, ← hel] at hQ
  show b_X10_leastTime_5 n Q n x1 x2 0 0 d dl
  exact sb_X10_leastTime_5 hn hQ n _ _ _ _ _ _ hS (by omega) (show 0 ≤ 0 ∧ 0 ≤ 24 from by omega) (show 25 - 0 < (n : Int) from by omega)
set_option maxHeartbeats 4000000 in
set_option maxRecDepth 100000 in
theorem sp_X10_worth {n : Nat} (hn : 1000000000 ≤ n) {x0 : Int32} {d : DD} {dl : LL} (hI : Inv d) {Q : Int32 → DD → LL → Prop} (hQ : ∀ (r : Int32) (d2 : DD) (l2 : LL), Sq d dl d2 l2 ∧ (True) → Q r d2 l2) : F_X10_worth n x0 d dl Q := by
  obtain ⟨e, he⟩ : ∃ e : DD, e = d := ⟨_, rfl⟩
  obtain ⟨el, hel⟩ : ∃ el : LL, el = dl := ⟨_, rfl⟩
  have hS : Sq e el d dl := by rw [he, hel]; exact Sq.rf hI
  rw [← he, ← hel] at hQ
  show (¬ x0 = 1 → (¬ x0 = 2 → (7 ≤ x0 → Q 0 d dl) ∧ (¬ 7 ≤ x0 → Q ((9 : Int32) - x0) d dl)) ∧ (x0 = 2 → Q 8 d dl)) ∧ (x0 = 1 → Q 10 d dl)
  refine ⟨fun h1 => ?_, fun h1 => ?_⟩
  · have h1 : ¬ (x0.toInt = 1) := fun q => h1 ((i_eq rfl (rfl : (1 : Int32).toInt = 1)).mpr q)
    refine ⟨fun h2 => ?_, fun h2 => ?_⟩
    · have h2 : ¬ (x0.toInt = 2) := fun q => h2 ((i_eq rfl (rfl : (2 : Int32).toInt = 2)).mpr q)
      refine ⟨fun h3 => ?_, fun h3 => ?_⟩
      · have h3 : 7 ≤ x0.toInt := (i_le (rfl : (7 : Int32).toInt = 7) rfl).mp h3
        exact hQ _ _ _ ⟨hS, trivial⟩
      · have h3 : ¬ (7 ≤ x0.toInt) := fun q => h3 ((i_le (rfl : (7 : Int32).toInt = 7) rfl).mpr q)
        exact hQ _ _ _ ⟨hS, trivial⟩
    · have h2 : x0.toInt = 2 := (i_eq rfl (rfl : (2 : Int32).toInt = 2)).mp h2
      exact hQ _ _ _ ⟨hS, trivial⟩
  · have h1 : x0.toInt = 1 := (i_eq rfl (rfl : (1 : Int32).toInt = 1)).mp h1
    exact hQ _ _ _ ⟨hS, trivial⟩
set_option maxHeartbeats 4000000 in
set_option maxRecDepth 100000 in
theorem sb_X10_count_119 {n : Nat} (hn : 1000000000 ≤ n) {e : DD} {el : LL} {Q : Int32 → DD → LL → Prop} (hQ : ∀ (r : Int32) (d2 : DD) (l2 : LL), Sq e el d2 l2 ∧ (True) → Q r d2 l2) : ∀ (j119 : Nat) (x2 : Int32) (x3 : Int32) (d : DD) (dl : LL), Sq e el d dl → (0 ≤ x3.toInt ∧ x3.toInt ≤ 96) → 97 - x3.toInt < (j119 : Int) → b_X10_count_119 n Q j119 x2 x3 d dl := by
  intro j119
  induction j119 with
  | zero =>
    intro x2 x3 d dl hS bx3 hm119
    exfalso
    omega
  | succ j119 hK119 =>
    intro x2 x3 d dl hS bx3 hm119
    show (((4 : Int32) * (d 211 3)) ≤ x3 → Q x2 d dl) ∧ (¬ ((4 : Int32) * (d 211 3)) ≤ x3 → vp_in x3 96 ∧ ((d 235 x3.toNatClampNeg) ≤ 0 → (b_X10_count_119 n Q j119) x2 (x3 + 1) d dl) ∧ (¬ (d 235 x3.toNatClampNeg) ≤ 0 → (b_X10_count_119 n Q j119) (x2 + 1) (x3 + 1) d dl))
    have m_1 := iv_211_3 hS.1
    have t_2 : ((4 : Int32) * (d 211 3)).toInt = 4 * (d 211 3).toInt := ti_mul (rfl : (4 : Int32).toInt = 4) rfl (by omega) (by omega)
    refine ⟨fun h4 => ?_, fun h4 => ?_⟩
    · have h4 : (4 * (d 211 3).toInt) ≤ x3.toInt := (i_le t_2 rfl).mp h4
      exact hQ _ _ _ ⟨hS, trivial⟩
    · have h4 : ¬ ((4 * (d 211 3).toInt) ≤ x3.toInt) := fun q => h4 ((i_le t_2 rfl).mpr q)
      have ih5 : vp_in x3 96 := vin rfl (by omega) (by omega)
      refine ⟨ih5, ?_⟩
      refine ⟨fun h6 => ?_, fun h6 => ?_⟩
      · have h6 : (d 235 x3.toNatClampNeg).toInt ≤ 0 := (i_le rfl (rfl : (0 : Int32).toInt = 0)).mp h6
        have t_3 : (x3 + 1).toInt = x3.toInt + 1 := ti_add rfl (rfl : (1 : Int32).toInt = 1) (by omega) (by omega)
        exact hK119 _ _ _ _ hS (by omega) (by omega)
      · have h6 : ¬ ((d 235 x3.toNatClampNeg).toInt ≤ 0) := fun q => h6 ((i_le rfl (rfl : (0 : Int32).toInt = 0)).mpr q)
        have t_4 : (x3 + 1).toInt = x3.toInt + 1 := ti_add rfl (rfl : (1 : Int32).toInt = 1) (by omega) (by omega)
        exact hK119 _ _ _ _ hS (by omega) (by omega)
set_option maxHeartbeats 4000000 in
set_option maxRecDepth 100000 in
theorem sb_X10_count_89 {n : Nat} (hn : 1000000000 ≤ n) {e : DD} {el : LL} {Q : Int32 → DD → LL → Prop} (hQ : ∀ (r : Int32) (d2 : DD) (l2 : LL), Sq e el d2 l2 ∧ (True) → Q r d2 l2) : ∀ (j89 : Nat) (x2 : Int32) (x3 : Int32) (d : DD) (dl : LL), Sq e el d dl → (0 ≤ x3.toInt ∧ x3.toInt ≤ 6) → 7 - x3.toInt < (j89 : Int) → b_X10_count_89 n Q j89 x2 x3 d dl := by
  intro j89
  induction j89 with
  | zero =>
    intro x2 x3 d dl hS bx3 hm89
    exfalso
    omega
  | succ j89 hK89 =>
    intro x2 x3 d dl hS bx3 hm89
    show ((d 211 1) ≤ x3 → Q x2 d dl) ∧ (¬ (d 211 1) ≤ x3 → vp_in x3 6 ∧ ((d 224 x3.toNatClampNeg) = 0 → (b_X10_count_89 n Q j89) x2 (x3 + 1) d dl) ∧ (¬ (d 224 x3.toNatClampNeg) = 0 → (b_X10_count_89 n Q j89) (x2 + 1) (x3 + 1) d dl))
    have m_5 := iv_211_1 hS.1
    refine ⟨fun h1 => ?_, fun h1 => ?_⟩
    · have h1 : (d 211 1).toInt ≤ x3.toInt := (i_le rfl rfl).mp h1
      exact hQ _ _ _ ⟨hS, trivial⟩
    · have h1 : ¬ ((d 211 1).toInt ≤ x3.toInt) := fun q => h1 ((i_le rfl rfl).mpr q)
      have ih2 : vp_in x3 6 := vin rfl (by omega) (by omega)
      refine ⟨ih2, ?_⟩
      have m_6 := iv_224 hS.1 (x3.toNatClampNeg)
      refine ⟨fun h3 => ?_, fun h3 => ?_⟩
      · have h3 : (d 224 x3.toNatClampNeg).toInt = 0 := (i_eq rfl (rfl : (0 : Int32).toInt = 0)).mp h3
        have t_7 : (x3 + 1).toInt = x3.toInt + 1 := ti_add rfl (rfl : (1 : Int32).toInt = 1) (by omega) (by omega)
        exact hK89 _ _ _ _ hS (by omega) (by omega)
      · have h3 : ¬ ((d 224 x3.toNatClampNeg).toInt = 0) := fun q => h3 ((i_eq rfl (rfl : (0 : Int32).toInt = 0)).mpr q)
        have t_8 : (x3 + 1).toInt = x3.toInt + 1 := ti_add rfl (rfl : (1 : Int32).toInt = 1) (by omega) (by omega)
        exact hK89 _ _ _ _ hS (by omega) (by omega)
set_option maxHeartbeats 4000000 in
set_option maxRecDepth 100000 in
theorem sp_X10_count {n : Nat} (hn : 1000000000 ≤ n) {x1 : Int32} {d : DD} {dl : LL} (hI : Inv d) {Q : Int32 → DD → LL → Prop} (hQ : ∀ (r : Int32) (d2 : DD) (l2 : LL), Sq d dl d2 l2 ∧ (True) → Q r d2 l2) : F_X10_count n x1 d dl Q := by
  obtain ⟨e, he⟩ : ∃ e : DD, e = d := ⟨_, rfl⟩
  obtain ⟨el, hel⟩ : ∃ el : LL, el = dl := ⟨_, rfl⟩
  have hS : Sq e el d dl := by rw [he, hel]; exact Sq.rf hI
  rw [← he, ← hel] at hQ
  show (x1 = 0 → Q (d 211 0) d dl) ∧ (x1 = 1 → Q (d 211 1) d dl) ∧ (x1 = 2 → Q (d 211 2) d dl) ∧ (x1 = 3 → Q (d 211 3) d dl) ∧ (x1 = 4 → Q (d 211 6) d dl) ∧ (x1 = 5 → Q (d 211 4) d dl) ∧ (x1 = 6 → Q (d 211 5) d dl) ∧ (x1 = 7 → b_X10_count_89 n Q n 0 0 d dl) ∧ (x1 = 8 → b_X10_count_119 n Q n 0 0 d dl) ∧ (x1.toInt < 0 ∨ 8 < x1.toInt → Q (-1) d dl)
  refine ⟨fun h7 => ?_, fun h7 => ?_, fun h7 => ?_, fun h7 => ?_, fun h7 => ?_, fun h7 => ?_, fun h7 => ?_, fun h7 => ?_, fun h7 => ?_, fun h7 => ?_⟩
  · have h7 : x1.toInt = 0 := (i_eq rfl (rfl : (0 : Int32).toInt = 0)).mp h7
    have m_9 := iv_211_0 hS.1
    exact hQ _ _ _ ⟨hS, trivial⟩
  · have h7 : x1.toInt = 1 := (i_eq rfl (rfl : (1 : Int32).toInt = 1)).mp h7
    have m_10 := iv_211_1 hS.1
    exact hQ _ _ _ ⟨hS, trivial⟩
  · have h7 : x1.toInt = 2 := (i_eq rfl (rfl : (2 : Int32).toInt = 2)).mp h7
    have m_11 := iv_211_2 hS.1
    exact hQ _ _ _ ⟨hS, trivial⟩
  · have h7 : x1.toInt = 3 := (i_eq rfl (rfl : (3 : Int32).toInt = 3)).mp h7
    have m_12 := iv_211_3 hS.1
    exact hQ _ _ _ ⟨hS, trivial⟩
  · have h7 : x1.toInt = 4 := (i_eq rfl (rfl : (4 : Int32).toInt = 4)).mp h7
    exact hQ _ _ _ ⟨hS, trivial⟩
  · have h7 : x1.toInt = 5 := (i_eq rfl (rfl : (5 : Int32).toInt = 5)).mp h7
    have m_13 := iv_211_4 hS.1
    exact hQ _ _ _ ⟨hS, trivial⟩
  · have h7 : x1.toInt = 6 := (i_eq rfl (rfl : (6 : Int32).toInt = 6)).mp h7
    have m_14 := iv_211_5 hS.1
    exact hQ _ _ _ ⟨hS, trivial⟩
  · have h7 : x1.toInt = 7 := (i_eq rfl (rfl : (7 : Int32).toInt = 7)).mp h7
    exact sb_X10_count_89 hn hQ n _ _ _ _ hS (show 0 ≤ 0 ∧ 0 ≤ 6 from by omega) (show 7 - 0 < (n : Int) from by omega)
  · have h7 : x1.toInt = 8 := (i_eq rfl (rfl : (8 : Int32).toInt = 8)).mp h7
    exact sb_X10_count_119 hn hQ n _ _ _ _ hS (show 0 ≤ 0 ∧ 0 ≤ 96 from by omega) (show 97 - 0 < (n : Int) from by omega)
  · have _ := hn
    exact hQ _ _ _ ⟨hS, trivial⟩
