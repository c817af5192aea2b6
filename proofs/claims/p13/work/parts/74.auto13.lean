set_option maxHeartbeats 4000000 in
set_option maxRecDepth 100000 in
theorem sb_X10_count_119 {n : Nat} (hn : 1000000000 ≤ n) {e : DD} {el : LL} {Q : Int32 → DD → LL → Prop} (hQ : ∀ (r : Int32) (d2 : DD) (l2 : LL), Sq e el d2 l2 ∧ (True) → Q r d2 l2) : ∀ (j119 : Nat) (x2 : Int32) (x3 : Int32) (d : DD) (dl : LL), Sq e el d dl → (0 ≤ x3.toInt ∧ x3.toInt ≤ 96) → 97 - x3.toInt < (j119 : Int) → b_X10_count_119 n Q j119 x2 x3 d dl := by
  intro j119
  induction j119 with
  | zero =>
    intro x2 x3 d dl hS bx3 hm119
    exfalso
    omega
  | succ j119 hK119 =>
    intro x2 x3 d dl hS bx3 hm119
    show (((4 : Int32) * (d 211 3)) ≤ x3 → Q x2 d dl) ∧ (¬ ((4 : Int32) * (d 211 3)) ≤ x3 → vp_in x3 96 ∧ ((d 235 x3.toNatClampNeg) ≤ 0 → (b_X10_count_119 n Q j119) x2 (x3 + 1) d dl) ∧ (¬ (d 235 x3.toNatClampNeg) ≤ 0 → (b_X10_count_119 n Q j119) (x2 + 1) (x3 + 1) d dl))
    have m_1 := iv_211_3 hS.1
    have t_2 : ((4 : Int32) * (d 211 3)).toInt = 4 * (d 211 3).toInt := ti_mul (rfl : (4 : Int32).toInt = 4) rfl (by omega) (by omega)
    refine ⟨fun h4 => ?_, fun h4 => ?_⟩
    · have h4 : (4 * (d 211 3).toInt) ≤ x3.toInt := (i_le t_2 rfl).mp h4
      exact hQ _ _ _ ⟨hS, trivial⟩
    · have h4 : ¬ ((4 * (d 211 3).toInt) ≤ x3.toInt) := fun q => h4 ((i_le t_2 rfl).mpr q)
      have ih5 : vp_in x3 96 := vin rfl (by omega) (by omega)
      refine ⟨ih5, ?_⟩
      refine ⟨fun h6 => ?_, fun h6 => ?_⟩
      · have h6 : (d 235 x3.toNatClampNeg).toInt ≤ 0 := (i_le rfl (rfl : (0 : Int32).toInt = 0)).mp h6
        have t_3 : (x3 + 1).toInt = x3.toInt + 1 := ti_add rfl (rfl : (1 : Int32).toInt = 1) (by omega) (by omega)
        exact hK119 _ _ _ _ hS (by omega) (by omega)
      · have h6 : ¬ ((d 235 x3.toNatClampNeg).toInt ≤ 0) := fun q => h6 ((i_le rfl (rfl : (0 : Int32).toInt = 0)).mpr q)
        have t_4 : (x3 + 1).toInt = x3.toInt + 1 := ti_add rfl (rfl : (1 : Int32).toInt = 1) (by omega) (by omega)
        exact hK119 _ _ _ _ hS (by omega) (by omega)
set_option maxHeartbeats 4000000 in
set_option maxRecDepth 100000 in
theorem sb_X10_count_89 {n : Nat} (hn : 1000000000 ≤ n) {e : DD} {el : LL} {Q : Int32 → DD → LL → Prop} (hQ : ∀ (r : Int32) (d2 : DD) (l2 : LL), Sq e el d2 l2 ∧ (True) → Q r d2 l2) : ∀ (j89 : Nat) (x2 : Int32) (x3 : Int32) (d : DD) (dl : LL), Sq e el d dl → (0 ≤ x3.toInt ∧ x3.toInt ≤ 6) → 7 - x3.toInt < (j89 : Int) → b_X10_count_89 n Q j89 x2 x3 d dl := by
  intro j89
  induction j89 with
  | zero =>
    intro x2 x3 d dl hS bx3 hm89
    exfalso
    omega
  | succ j89 hK89 =>
    intro x2 x3 d dl hS bx3 hm89
    show ((d 211 1) ≤ x3 → Q x2 d dl) ∧ (¬ (d 211 1) ≤ x3 → vp_in x3 6 ∧ ((d 224 x3.toNatClampNeg) = 0 → (b_X10_count_89 n Q j89) x2 (x3 + 1) d dl) ∧ (¬ (d 224 x3.toNatClampNeg) = 0 → (b_X10_count_89 n Q j89) (x2 + 1) (x3 + 1) d dl))
    have m_5 := iv_211_1 hS.1
    refine ⟨fun h1 => ?_, fun h1 => ?_⟩
    · have h1 : (d 211 1).toInt ≤ x3.toInt := (i_le rfl rfl).mp h1
      exact hQ _ _ _ ⟨hS, trivial⟩
    · have h1 : ¬ ((d 211 1).toInt ≤ x3.toInt) := fun q => h1 ((i_le rfl rfl).mpr q)
      have ih2 : vp_in x3 6 := vin rfl (by omega) (by omega)
      refine ⟨ih2, ?_⟩
      have m_6 := iv_224 hS.1 (x3.toNatClampNeg)
      refine ⟨fun h3 => ?_, fun h3 => ?_⟩
      · have h3 : (d 224 x3.toNatClampNeg).toInt = 0 := (i_eq rfl (rfl : (0 : Int32).toInt = 0)).mp h3
        have t_7 : (x3 + 1).toInt = x3.toInt + 1 := ti_add rfl (rfl : (1 : Int32).toInt = 1) (by omega) (by omega)
        exact hK89 _ _ _ _ hS (by omega) (by omega)
      · have h3 : ¬ ((d 224 x3.toNatClampNeg).toInt = 0) := fun q => h3 ((i_eq rfl (rfl : (0 : Int32).toInt = 0)).mpr q)
        have t_8 : (x3 + 1).toInt = x3.toInt + 1 := ti_add rfl (rfl : (1 : Int32).toInt = 1) (by omega) (by omega)
        exact hK89 _ _ _ _ hS (by omega) (by omega)
set_option maxHeartbeats 4000000 in
set_option maxRecDepth 100000 in
theorem sp_X10_count {n : Nat} (hn : 1000000000 ≤ n) {x1 : Int32} {d : DD} {dl : LL} (hI : Inv d) {Q : Int32 → DD → LL → Prop} (hQ : ∀ (r : Int32) (d2 : DD) (l2 : LL), Sq d dl d2 l2 ∧ (True) → Q r d2 l2) : F_X10_count n x1 d dl Q := by
  obtain ⟨e, he⟩ : ∃ e : DD, e = d := ⟨_, rfl⟩
  obtain ⟨el, hel⟩ : ∃ el : LL, el = dl := ⟨_, rfl⟩
  have hS : Sq e el d dl := by rw [he, hel]; exact Sq.rf hI
  rw [← he, ← hel] at hQ
  show (x1 = 0 → Q (d 211 0) d dl) ∧ (x1 = 1 → Q (d 211 1) d dl) ∧ (x1 = 2 → Q (d 211 2) d dl) ∧ (x1 = 3 → Q (d 211 3) d dl) ∧ (x1 = 4 → Q (d 211 6) d dl) ∧ (x1 = 5 → Q (d 211 4) d dl) ∧ (x1 = 6 → Q (d 211 5) d dl) ∧ (x1 = 7 → b_X10_count_89 n Q n 0 0 d dl) ∧ (x1 = 8 → b_X10_count_119 n Q n 0 0 d dl) ∧ (x1.toInt < 0 ∨ 8 < x1.toInt → Q (-1) d dl)
  refine ⟨fun h7 => ?_, fun h7 => ?_, fun h7 => ?_, fun h7 => ?_, fun h7 => ?_, fun h7 => ?_, fun h7 => ?_, fun h7 => ?_, fun h7 => ?_, fun h7 => ?_⟩
  · have h7 : x1.toInt = 0 := (i_eq rfl (rfl : (0 : Int32).toInt = 0)).mp h7
    have m_9 := iv_211_0 hS.1
    exact hQ _ _ _ ⟨hS, trivial⟩
  · have h7 : x1.toInt = 1 := (i_eq rfl (rfl : (1 : Int32).toInt = 1)).mp h7
    have m_10 := iv_211_1 hS.1
    exact hQ _ _ _ ⟨hS, trivial⟩
  · have h7 : x1.toInt = 2 := (i_eq rfl (rfl : (2 : Int32).toInt = 2)).mp h7
    have m_11 := iv_211_2 hS.1
    exact hQ _ _ _ ⟨hS, trivial⟩
  · have h7 : x1.toInt = 3 := (i_eq rfl (rfl : (3 : Int32).toInt = 3)).mp h7
    have m_12 := iv_211_3 hS.1
    exact hQ _ _ _ ⟨hS, trivial⟩
  · have h7 : x1.toInt = 4 := (i_eq rfl (rfl : (4 : Int32).toInt = 4)).mp h7
    exact hQ _ _ _ ⟨hS, trivial⟩
  · have h7 : x1.toInt = 5 := (i_eq rfl (rfl : (5 : Int32).toInt = 5)).mp h7
    have m_13 := iv_211_4 hS.1
    exact hQ _ _ _ ⟨hS, trivial⟩
  · have h7 : x1.toInt = 6 := (i_eq rfl (rfl : (6 : Int32).toInt = 6)).mp h7
    have m_14 := iv_211_5 hS.1
    exact hQ _ _ _ ⟨hS, trivial⟩
  · have h7 : x1.toInt = 7 := (i_eq rfl (rfl : (7 : Int32).toInt = 7)).mp h7
    exact sb_X10_count_89 hn hQ n _ _ _ _ hS (show 0 ≤ 0 ∧ 0 ≤ 6 from by omega) (show 7 - 0 < (n : Int) from by omega)
  · have h7 : x1.toInt = 8 := (i_eq rfl (rfl : (8 : Int32).toInt = 8)).mp h7
    exact sb_X10_count_119 hn hQ n _ _ _ _ hS (show 0 ≤ 0 ∧ 0 ≤ 96 from by omega) (show 97 - 0 < (n : Int) from by omega)
  · have _ := hn
    exact hQ _ _ _ ⟨hS, trivial⟩
