set_option maxHeartbeats 4000000 in
set_option maxRecDepth 100000 in
theorem sp_X2_addHeat {n : Nat} (hn : 1000000000 ≤ n) {k1 : Nat} {x2 : Int32} {d : DD} {dl : LL} (hI : Inv d) (hk1 : k1 < 24) (bx2 : 0 ≤ x2.toInt ∧ x2.toInt ≤ 9) {Q : DD → LL → Prop} (hQ : ∀ (d2 : DD) (l2 : LL), St d dl d2 l2 ∧ True → Q d2 l2) : F_X2_addHeat n k1 x2 d dl Q := by
  obtain ⟨e, he⟩ : ∃ e : DD, e = d := ⟨_, rfl⟩
  obtain ⟨el, hel⟩ : ∃ el : LL, el = dl := ⟨_, rfl⟩
  have hS : St e el d dl := by rw [he, hel]; exact St.rf hI
  rw [← he, ← hel] at hQ
  show b_X2_addHeat_2 n Q n k1 x2 0 d dl
  exact sb_X2_addHeat_2 hn hQ n _ _ _ hk1 _ _ hS (by omega) (show 0 ≤ 0 ∧ 0 ≤ 4 from by omega) (show 5 - 0 < (n : Int) from by omega)
set_option maxHeartbeats 4000000 in
set_option maxRecDepth 100000 in
theorem sb_X2_fasterOthers_49 {n : Nat} (hn : 1000000000 ≤ n) {e : DD} {el : LL} {Q : Int32 → DD → LL → Prop} (hQ : ∀ (r : Int32) (d2 : DD) (l2 : LL), Sq e el d2 l2 ∧ (True) → Q r d2 l2) {K4 : Int32 → Int32 → Int32 → DD → LL → Prop} {j4 : Nat} (hK4 : ∀ (x1 : Int32) (x2 : Int32) (x3 : Int32) (d : DD) (dl : LL), Sq e el d dl → (0 ≤ x1.toInt ∧ x1.toInt ≤ 5) → (0 ≤ x3.toInt ∧ x3.toInt ≤ 6) → 7 - x3.toInt < (j4 : Int) → K4 x1 x2 x3 d dl) : ∀ (x1 : Int32) (x3 : Int32) (xs0 : Int32) (xs1 : Int32) (d : DD) (dl : LL), Sq e el d dl → (0 ≤ x1.toInt ∧ x1.toInt ≤ 5) → (0 ≤ x3.toInt ∧ x3.toInt ≤ 5) → (0 ≤ xs0.toInt ∧ xs0.toInt ≤ 1) → 7 - x3.toInt ≤ (j4 : Int) → b_X2_fasterOthers_49 n Q K4 x1 x3 xs0 xs1 d dl := by
  intro x1 x3 xs0 xs1 d dl hS bx1 bx3 bxs0 hm4
  show ∀ v4 : Int32, v4 = (xs1 + xs0) → K4 x1 v4 (x3 + 1) d dl
  intro v4 e4
  have t_1 : v4.toInt = (xs1 + xs0).toInt := (congrArg Int32.toInt e4).trans rfl
  have t_2 : (x3 + 1).toInt = x3.toInt + 1 := ti_add rfl (rfl : (1 : Int32).toInt = 1) (by omega) (by omega)
  exact hK4 _ _ _ _ _ hS (by omega) (by omega) (by omega)
set_option maxHeartbeats 4000000 in
set_option maxRecDepth 100000 in
theorem sb_X2_fasterOthers_48 {n : Nat} (hn : 1000000000 ≤ n) {e : DD} {el : LL} {Q : Int32 → DD → LL → Prop} (hQ : ∀ (r : Int32) (d2 : DD) (l2 : LL), Sq e el d2 l2 ∧ (True) → Q r d2 l2) {K4 : Int32 → Int32 → Int32 → DD → LL → Prop} {j4 : Nat} (hK4 : ∀ (x1 : Int32) (x2 : Int32) (x3 : Int32) (d : DD) (dl : LL), Sq e el d dl → (0 ≤ x1.toInt ∧ x1.toInt ≤ 5) → (0 ≤ x3.toInt ∧ x3.toInt ≤ 6) → 7 - x3.toInt < (j4 : Int) → K4 x1 x2 x3 d dl) : ∀ (x1 : Int32) (x3 : Int32) (xs0 : Int32) (d : DD) (dl : LL), Sq e el d dl → (0 ≤ x1.toInt ∧ x1.toInt ≤ 5) → (0 ≤ x3.toInt ∧ x3.toInt ≤ 5) → 7 - x3.toInt ≤ (j4 : Int) → b_X2_fasterOthers_48 n Q K4 x1 x3 xs0 d dl := by
  intro x1 x3 xs0 d dl hS bx1 bx3 hm4
  show b_X2_fasterOthers_49 n Q K4 x1 x3 0 xs0 d dl
  exact sb_X2_fasterOthers_49 hn hQ hK4 _ _ _ _ _ _ hS (by omega) (by omega) (show 0 ≤ 0 ∧ 0 ≤ 1 from by omega) (by omega)
set_option maxHeartbeats 4000000 in
set_option maxRecDepth 100000 in
theorem sb_X2_fasterOthers_4 {n : Nat} (hn : 1000000000 ≤ n) {e : DD} {el : LL} {Q : Int32 → DD → LL → Prop} (hQ : ∀ (r : Int32) (d2 : DD) (l2 : LL), Sq e el d2 l2 ∧ (True) → Q r d2 l2) : ∀ (j4 : Nat) (x1 : Int32) (x2 : Int32) (x3 : Int32) (d : DD) (dl : LL), Sq e el d dl → (0 ≤ x1.toInt ∧ x1.toInt ≤ 5) → (0 ≤ x3.toInt ∧ x3.toInt ≤ 6) → 7 - x3.toInt < (j4 : Int) → b_X2_fasterOthers_4 n Q j4 x1 x2 x3 d dl := by
  intro j4
  induction j4 with
  | zero =>
    intro x1 x2 x3 d dl hS bx1 bx3 hm4
    exfalso
    omega
  | succ j4 hK4 =>
    intro x1 x2 x3 d dl hS bx1 bx3 hm4
    show (6 ≤ x3 → Q x2 d dl) ∧ (¬ 6 ≤ x3 → vp_in x3 6 ∧ (¬ (d 35 x3.toNatClampNeg) = 0 → b_X2_fasterOthers_48 n Q (b_X2_fasterOthers_4 n Q j4) x1 x3 x2 d dl) ∧ ((d 35 x3.toNatClampNeg) = 0 → vp_in x3 6 ∧ ((d 34 x3.toNatClampNeg) ≤ 0 → b_X2_fasterOthers_48 n Q (b_X2_fasterOthers_4 n Q j4) x1 x3 x2 d dl) ∧ (¬ (d 34 x3.toNatClampNeg) ≤ 0 → vp_in x3 6 ∧ vp_in x1 6 ∧ ((d 34 x1.toNatClampNeg) ≤ (d 34 x3.toNatClampNeg) → b_X2_fasterOthers_48 n Q (b_X2_fasterOthers_4 n Q j4) x1 x3 x2 d dl) ∧ (¬ (d 34 x1.toNatClampNeg) ≤ (d 34 x3.toNatClampNeg) → b_X2_fasterOthers_49 n Q (b_X2_fasterOthers_4 n Q j4) x1 x3 1 x2 d dl))))
    refine ⟨fun h1 => ?_, fun h1 => ?_⟩
    · have h1 : 6 ≤ x3.toInt := (i_le (rfl : (6 : Int32).toInt = 6) rfl).mp h1
      exact hQ _ _ _ ⟨hS, trivial⟩
    · have h1 : ¬ (6 ≤ x3.toInt) := fun q => h1 ((i_le (rfl : (6 : Int32).toInt = 6) rfl).mpr q)
      have ih2 : vp_in x3 6 := vin rfl (by omega) (by omega)
      refine ⟨ih2, ?_⟩
      have m_3 := iv_35 hS.1 (x3.toNatClampNeg)
      refine ⟨fun h3 => ?_, fun h3 => ?_⟩
      · have h3 : ¬ ((d 35 x3.toNatClampNeg).toInt = 0) := fun q => h3 ((i_eq rfl (rfl : (0 : Int32).toInt = 0)).mpr q)
        exact sb_X2_fasterOthers_48 hn hQ hK4 _ _ _ _ _ hS (by omega) (by omega) (by omega)
      · have h3 : (d 35 x3.toNatClampNeg).toInt = 0 := (i_eq rfl (rfl : (0 : Int32).toInt = 0)).mp h3
        have ih5 : vp_in x3 6 := vin rfl (by omega) (by omega)
        refine ⟨ih5, ?_⟩
        refine ⟨fun h6 => ?_, fun h6 => ?_⟩
        · have h6 : (d 34 x3.toNatClampNeg).toInt ≤ 0 := (i_le rfl (rfl : (0 : Int32).toInt = 0)).mp h6
          exact sb_X2_fasterOthers_48 hn hQ hK4 _ _ _ _ _ hS (by omega) (by omega) (by omega)
        · have h6 : ¬ ((d 34 x3.toNatClampNeg).toInt ≤ 0) := fun q => h6 ((i_le rfl (rfl : (0 : Int32).toInt = 0)).mpr q)
          have ih7 : vp_in x3 6 := vin rfl (by omega) (by omega)
          refine ⟨ih7, ?_⟩
          have ih8 : vp_in x1 6 := vin rfl (by omega) (by omega)
          refine ⟨ih8, ?_⟩
          refine ⟨fun h9 => ?_, fun h9 => ?_⟩
          · have h9 : (d 34 x1.toNatClampNeg).toInt ≤ (d 34 x3.toNatClampNeg).toInt := (i_le rfl rfl).mp h9
            exact sb_X2_fasterOthers_48 hn hQ hK4 _ _ _ _ _ hS (by omega) (by omega) (by omega)
          · have h9 : ¬ ((d 34 x1.toNatClampNeg).toInt ≤ (d 34 x3.toNatClampNeg).toInt) := fun q => h9 ((i_le rfl rfl).mpr q)
            exact sb_X2_fasterOthers_49 hn hQ hK4 _ _ _ _ _ _ hS (by omega) (by omega) (show 0 ≤ 1 ∧ 1 ≤ 1 from by omega) (by omega)
set_option maxHeartbeats 4000000 in
set_option maxRecDepth 100000 in
theorem sp_X2_fasterOthers {n : Nat} (hn : 1000000000 ≤ n) {x1 : Int32} {d : DD} {dl : LL} (hI : Inv d) (bx1 : 0 ≤ x1.toInt ∧ x1.toInt ≤ 5) {Q : Int32 → DD → LL → Prop} (hQ : ∀ (r : Int32) (d2 : DD) (l2 : LL), Sq d dl d2 l2 ∧ (True) → Q r d2 l2) : F_X2_fasterOthers n x1 d dl Q := by
  obtain ⟨e, he⟩ : ∃ e : DD, e = d := ⟨_, rfl⟩
  obtain ⟨el, hel⟩ : ∃ el : LL, el = dl := ⟨_, rfl⟩
  have hS : Sq e el d dl := by rw [he, hel]; exact Sq.rf hI
  rw [← he, ← hel] at hQ
  show b_X2_fasterOthers_4 n Q n x1 0 0 d dl
  exact sb_X2_fasterOthers_4 hn hQ n _ _ _ _ _ hS (by omega) (show 0 ≤ 0 ∧ 0 ≤ 6 from by omega) (show 7 - 0 < (n : Int) from by omega)
set_option maxHeartbeats 4000000 in
set_option maxRecDepth 100000 in
theorem sp_X9_finalist {n : Nat} (hn : 1000000000 ≤ n) {x1 : Int32} {d : DD} {dl : LL} (hI : Inv d) {Q : Int32 → DD → LL → Prop} (hQ : ∀ (r : Int32) (d2 : DD) (l2 : LL), Sq d dl d2 l2 ∧ (True) → Q r d2 l2) : F_X9_finalist n x1 d dl Q := by
  obtain ⟨e, he⟩ : ∃ e : DD, e = d := ⟨_, rfl⟩
  obtain ⟨el, hel⟩ : ∃ el : LL, el = dl := ⟨_, rfl⟩
  have hS : Sq e el d dl := by rw [he, hel]; exact Sq.rf hI
  rw [← he, ← hel] at hQ
  show F_X9_within n x1 0 ((d 32 0) - 1) d dl (fun r1 d2 l3 => (r1 = 0 → Q (-1) d2 l3) ∧ (¬ r1 = 0 → vp_in x1 6 ∧ Q (d2 33 x1.toNatClampNeg) d2 l3))
  have m_1 := iv_32_0 hS.1
  have t_2 : ((d 32 0) - 1).toInt = (d 32 0).toInt - 1 := ti_sub rfl (rfl : (1 : Int32).toInt = 1) (by omega) (by omega)
  refine sp_X9_within hn hS.1 (fun r1 d2 l3 ⟨p_3, u_4⟩ => ?_)
  have s_5 : Sq e el d2 l3 := hS.tr p_3
  have w_6 : d2 = d := p_3.2.1
  replace u_4 : (0 ≤ r1.toInt ∧ r1.toInt ≤ 1 ∧ ((r1.toInt = 1 ∧ 0 ≤ x1.toInt ∧ x1.toInt ≤ ((d 32 0) - 1).toInt) ∨ (r1.toInt = 0 ∧ ¬ (0 ≤ x1.toInt ∧ x1.toInt ≤ ((d 32 0) - 1).toInt)))) := u_4
  refine ⟨fun h4 => ?_, fun h4 => ?_⟩
  · have h4 : r1.toInt = 0 := (i_eq rfl (rfl : (0 : Int32).toInt = 0)).mp h4
    exact hQ _ _ _ ⟨s_5, trivial⟩
  · have h4 : ¬ (r1.toInt = 0) := fun q => h4 ((i_eq rfl (rfl : (0 : Int32).toInt = 0)).mpr q)
    have ih5 : vp_in x1 6 := vin rfl (by omega) (by omega)
    refine ⟨ih5, ?_⟩
    have q_7 : d2 33 x1.toNatClampNeg = (d 33 x1.toNatClampNeg) := by rw [w_6]
    have t_8 : (d2 33 x1.toNatClampNeg).toInt = (d 33 x1.toNatClampNeg).toInt := (congrArg Int32.toInt q_7).trans rfl
    exact hQ _ _ _ ⟨s_5, trivial⟩
set_option maxHeartbeats 4000000 in
set_option maxRecDepth 100000 in
theorem sb_X9_slack_47 {n : Nat} (hn : 1000000000 ≤ n) {e : DD} {el : LL} {Q : Int32 → DD → LL → Prop} (hQ : ∀ (r : Int32) (d2 : DD) (l2 : LL), Sq e el d2 l2 ∧ ((-1) ≤ r.toInt ∧ r.toInt ≤ 999) → Q r d2 l2) {K4 : Int32 → Int32 → DD → LL → Prop} {j4 : Nat} (hK4 : ∀ (x1 : Int32) (x2 : Int32) (d : DD) (dl : LL), Sq e el d dl → ((-1) ≤ x1.toInt ∧ x1.toInt ≤ 999) → (0 ≤ x2.toInt ∧ x2.toInt ≤ 24) → 25 - x2.toInt < (j4 : Int) → K4 x1 x2 d dl) {K14 : Int32 → Int32 → Int32 → DD → LL → Prop} {j14 : Nat} (hK14 : ∀ (x1 : Int32) (x2 : Int32) (x3 : Int32) (d : DD) (dl : LL), Sq e el d dl → ((-1) ≤ x1.toInt ∧ x1.toInt ≤ 999) → (0 ≤ x2.toInt ∧ x2.toInt ≤ 23) → (0 ≤ x3.toInt ∧ x3.toInt ≤ 23) → 25 - x2.toInt ≤ (j4 : Int) → 24 - x3.toInt < (j14 : Int) → K14 x1 x2 x3 d dl) : ∀ (x1 : Int32) (x2 : Int32) (x3 : Int32) (x4 : Int32) (d : DD) (dl : LL), Sq e el d dl → ((-1) ≤ x1.toInt ∧ x1.toInt ≤ 999) → (1 ≤ x2.toInt ∧ x2.toInt ≤ 23) → (0 ≤ x3.toInt ∧ x3.toInt ≤ 22) → (0 ≤ x4.toInt ∧ x4.toInt ≤ 999) → 25 - x2.toInt ≤ (j4 : Int) → 24 - x3.toInt ≤ (j14 : Int) → b_X9_slack_47 n Q K4 K14 x1 x2 x3 x4 d dl := by
  intro x1 x2 x3 x4 d dl hS bx1 bx2 bx3 bx4 hm4 hm14
  show vp_in x2 24 ∧ ∀ k12 : Nat, k12 = x2.toNatClampNeg → vp_in x3 24 ∧ ∀ k14 : Nat, k14 = x3.toNatClampNeg → F_X9_racesMeet n k12 k14 d dl (fun r15 d16 l17 => (r15 = 0 → K14 x1 x2 (x3 + 1) d16 l17) ∧ (¬ r15 = 0 → K14 x4 x2 (x3 + 1) d16 l17))
  have ih11 : vp_in x2 24 := vin rfl (by omega) (by omega)
  refine ⟨ih11, ?_⟩
  intro k12 ek12
  have hk12 : k12 < 24 := by rw [ek12]; exact clamp_in ih11
  have ih13 : vp_in x3 24 := vin rfl (by omega) (by omega)
  refine ⟨ih13, ?_⟩
  intro k14 ek14
  have hk14 : k14 < 24 := by rw [ek14]; exact clamp_in ih13
  refine sp_X9_racesMeet hn hS.1 hk12 hk14 (fun r15 d16 l17 ⟨p_1, u_2⟩ => ?_)
  have s_3 : Sq e el d16 l17 := hS.tr p_1
  have w_4 : d16 = d := p_1.2.1
  replace u_2 : (0 ≤ r15.toInt ∧ r15.toInt ≤ 1) := u_2
  refine ⟨fun h18 => ?_, fun h18 => ?_⟩
  · have h18 : r15.toInt = 0 := (i_eq rfl (rfl : (0 : Int32).toInt = 0)).mp h18
    have t_5 : (x3 + 1).toInt = x3.toInt + 1 := ti_add rfl (rfl : (1 : Int32).toInt = 1) (by omega) (by omega)
    exact hK14 _ _ _ _ _ s_3 (by omega) (by omega) (by omega) (by omega) (by omega)
  · have h18 : ¬ (r15.toInt = 0) := fun q => h18 ((i_eq rfl (rfl : (0 : Int32).toInt = 0)).mpr q)
    have t_6 : (x3 + 1).toInt = x3.toInt + 1 := ti_add rfl (rfl : (1 : Int32).toInt = 1) (by omega) (by omega)
    exact hK14 _ _ _ _ _ s_3 (by omega) (by omega) (by omega) (by omega) (by omega)
set_option maxHeartbeats 4000000 in
set_option maxRecDepth 100000 in
theorem sb_X9_slack_14 {n : Nat} (hn : 1000000000 ≤ n) {e : DD} {el : LL} {Q : Int32 → DD → LL → Prop} (hQ : ∀ (r : Int32) (d2 : DD) (l2 : LL), Sq e el d2 l2 ∧ ((-1) ≤ r.toInt ∧ r.toInt ≤ 999) → Q r d2 l2) {K4 : Int32 → Int32 → DD → LL → Prop} {j4 : Nat} (hK4 : ∀ (x1 : Int32) (x2 : Int32) (d : DD) (dl : LL), Sq e el d dl → ((-1) ≤ x1.toInt ∧ x1.toInt ≤ 999) → (0 ≤ x2.toInt ∧ x2.toInt ≤ 24) → 25 - x2.toInt < (j4 : Int) → K4 x1 x2 d dl) : ∀ (j14 : Nat) (x1 : Int32) (x2 : Int32) (x3 : Int32) (d : DD) (dl : LL), Sq e el d dl → ((-1) ≤ x1.toInt ∧ x1.toInt ≤ 999) → (0 ≤ x2.toInt ∧ x2.toInt ≤ 23) → (0 ≤ x3.toInt ∧ x3.toInt ≤ 23) → 25 - x2.toInt ≤ (j4 : Int) → 24 - x3.toInt < (j14 : Int) → b_X9_slack_14 n Q K4 j14 x1 x2 x3 d dl := by
  intro j14
  induction j14 with
  | zero =>
    intro x1 x2 x3 d dl hS bx1 bx2 bx3 hm4 hm14
    exfalso
    omega
  | succ j14 hK14 =>
    intro x1 x2 x3 d dl hS bx1 bx2 bx3 hm4 hm14
    show (x2 ≤ x3 → K4 x1 (x2 + 1) d dl) ∧ (¬ x2 ≤ x3 → vp_in x2 24 ∧ ∀ k4 : Nat, k4 = x2.toNatClampNeg → vp_in x3 24 ∧ ∀ k6 : Nat, k6 = x3.toNatClampNeg → F_X3_minutesTo n k4 k6 d dl (fun r7 d8 l9 => (x1 = (-1) → b_X9_slack_47 n Q K4 (b_X9_slack_14 n Q K4 j14) x1 x2 x3 r7 d8 l9) ∧ (¬ x1 = (-1) → (x1 ≤ r7 → (b_X9_slack_14 n Q K4 j14) x1 x2 (x3 + 1) d8 l9) ∧ (¬ x1 ≤ r7 → b_X9_slack_47 n Q K4 (b_X9_slack_14 n Q K4 j14) x1 x2 x3 r7 d8 l9))))
    refine ⟨fun h2 => ?_, fun h2 => ?_⟩
    · have h2 : x2.toInt ≤ x3.toInt := (i_le rfl rfl).mp h2
      have t_7 : (x2 + 1).toInt = x2.toInt + 1 := ti_add rfl (rfl : (1 : Int32).toInt = 1) (by omega) (by omega)
      exact hK4 _ _ _ _ hS (by omega) (by omega) (by omega)
    · have h2 : ¬ (x2.toInt ≤ x3.toInt) := fun q => h2 ((i_le rfl rfl).mpr q)
      have ih3 : vp_in x2 24 := vin rfl (by omega) (by omega)
      refine ⟨ih3, ?_⟩
      intro k4 ek4
      have hk4 : k4 < 24 := by rw [ek4]; exact clamp_in ih3
      have ih5 : vp_in x3 24 := vin rfl (by omega) (by omega)
      refine ⟨ih5, ?_⟩
      intro k6 ek6
      have hk6 : k6 < 24 := by rw [ek6]; exact clamp_in ih5
      refine sp_X3_minutesTo hn hS.1 hk4 hk6 (fun r7 d8 l9 ⟨p_8, u_9⟩ => ?_)
      have s_10 : Sq e el d8 l9 := hS.tr p_8
      have w_11 : d8 = d := p_8.2.1
      replace u_9 : (0 ≤ r7.toInt ∧ r7.toInt ≤ 999) := u_9
      refine ⟨fun h10 => ?_, fun h10 => ?_⟩
      · have h10 : x1.toInt = (-1) := (i_eq rfl (rfl : ((-1) : Int32).toInt = (-1))).mp h10
        exact sb_X9_slack_47 hn hQ hK4 hK14 _ _ _ _ _ _ s_10 (by omega) (by omega) (by omega) (by omega) (by omega) (by omega)
      · have h10 : ¬ (x1.toInt = (-1)) := fun q => h10 ((i_eq rfl (rfl : ((-1) : Int32).toInt = (-1))).mpr q)
        refine ⟨fun h19 => ?_, fun h19 => ?_⟩
        · have h19 : x1.toInt ≤ r7.toInt := (i_le rfl rfl).mp h19
          have t_12 : (x3 + 1).toInt = x3.toInt + 1 := ti_add rfl (rfl : (1 : Int32).toInt = 1) (by omega) (by omega)
          exact hK14 _ _ _ _ _ s_10 (by omega) (by omega) (by omega) (by omega) (by omega)
        · have h19 : ¬ (x1.toInt ≤ r7.toInt) := fun q => h19 ((i_le rfl rfl).mpr q)
          exact sb_X9_slack_47 hn hQ hK4 hK14 _ _ _ _ _ _ s_10 (by omega) (by omega) (by omega) (by omega) (by omega) (by omega)
set_option maxHeartbeats 4000000 in
set_option maxRecDepth 100000 in
theorem sb_X9_slack_4 {n : Nat} (hn : 1000000000 ≤ n) {e : DD} {el : LL} {Q : Int32 → DD → LL → Prop} (hQ : ∀ (r : Int32) (d2 : DD) (l2 : LL), Sq e el d2 l2 ∧ ((-1) ≤ r.toInt ∧ r.toInt ≤ 999) → Q r d2 l2) : ∀ (j4 : Nat) (x1 : Int32) (x2 : Int32) (d : DD) (dl : LL), Sq e el d dl → ((-1) ≤ x1.toInt ∧ x1.toInt ≤ 999) → (0 ≤ x2.toInt ∧ x2.toInt ≤ 24) → 25 - x2.toInt < (j4 : Int) → b_X9_slack_4 n Q j4 x1 x2 d dl := by
  intro j4
  induction j4 with
  | zero =>
    intro x1 x2 d dl hS bx1 bx2 hm4
    exfalso
    omega
  | succ j4 hK4 =>
    intro x1 x2 d dl hS bx1 bx2 hm4
    show ((d 0 13) ≤ x2 → Q x1 d dl) ∧ (¬ (d 0 13) ≤ x2 → b_X9_slack_14 n Q (b_X9_slack_4 n Q j4) n x1 x2 0 d dl)
    have m_13 := iv_0_13 hS.1
    refine ⟨fun h1 => ?_, fun h1 => ?_⟩
    · have h1 : (d 0 13).toInt ≤ x2.toInt := (i_le rfl rfl).mp h1
      exact hQ _ _ _ ⟨hS, by omega⟩
    · have h1 : ¬ ((d 0 13).toInt ≤ x2.toInt) := fun q => h1 ((i_le rfl rfl).mpr q)
      exact sb_X9_slack_14 hn hQ hK4 n _ _ _ _ _ hS (by omega) (by omega) (show 0 ≤ 0 ∧ 0 ≤ 23 from by omega) (by omega) (show 24 - 0 < (n : Int) from by omega)
set_option maxHeartbeats 4000000 in
set_option maxRecDepth 100000 in
theorem sp_X9_slack {n : Nat} (hn : 1000000000 ≤ n) {d : DD} {dl : LL} (hI : Inv d) {Q : Int32 → DD → LL → Prop} (hQ : ∀ (r : Int32) (d2 : DD) (l2 : LL), Sq d dl d2 l2 ∧ ((-1) ≤ r.toInt ∧ r.toInt ≤ 999) → Q r d2 l2) : F_X9_slack n d dl Q := by
  obtain ⟨e, he⟩ : ∃ e : DD, e = d := ⟨_, rfl⟩
  obtain ⟨el, hel⟩ : ∃ el : LL, el = dl := ⟨_, rfl⟩
  have hS : Sq e el d dl := by rw [he, hel]; exact Sq.rf hI
  rw [← he, ← hel] at hQ
  show b_X9_slack_4 n Q n (-1) 0 d dl
  exact sb_X9_slack_4 hn hQ n _ _ _ _ hS (show (-1) ≤ (-1) ∧ (-1) ≤ 999 from by omega) (show 0 ≤ 0 ∧ 0 ≤ 24 from by omega) (show 25 - 0 < (n : Int) from by omega)
set_option maxHeartbeats 4000000 in
set_option maxRecDepth 100000 in
theorem sb_X9_leastTimeIn_63 {n : Nat} (hn : 1000000000 ≤ n) {e : DD} {el : LL} {Q : Int32 → DD → LL → Prop} (hQ : ∀ (r : Int32) (d2 : DD) (l2 : LL), Sq e el d2 l2 ∧ (True) → Q r d2 l2) {K5 : Int32 → Int32 → Int32 → Int32 → DD → LL → Prop} {j5 : Nat} (hK5 : ∀ (x1 : Int32) (x2 : Int32) (x3 : Int32) (x4 : Int32) (d : DD) (dl : LL), Sq e el d dl → (0 ≤ x1.toInt ∧ x1.toInt ≤ 3) → (0 ≤ x4.toInt ∧ x4.toInt ≤ 24) → 25 - x4.toInt < (j5 : Int) → K5 x1 x2 x3 x4 d dl) : ∀ (x1 : Int32) (x2 : Int32) (x4 : Int32) (x5 : Int32) (d : DD) (dl : LL), Sq e el d dl → (0 ≤ x1.toInt ∧ x1.toInt ≤ 3) → (0 ≤ x4.toInt ∧ x4.toInt ≤ 23) → 25 - x4.toInt ≤ (j5 : Int) → b_X9_leastTimeIn_63 n Q K5 x1 x2 x4 x5 d dl := by
  intro x1 x2 x4 x5 d dl hS bx1 bx4 hm5
  show K5 x1 x2 x5 (x4 + 1) d dl
  have t_1 : (x4 + 1).toInt = x4.toInt + 1 := ti_add rfl (rfl : (1 : Int32).toInt = 1) (by omega) (by omega)
  exact hK5 _ _ _ _ _ _ hS (by omega) (by omega) (by omega)
set_option maxHeartbeats 4000000 in
set_option maxRecDepth 100000 in
theorem sb_X9_leastTimeIn_46 {n : Nat} (hn : 1000000000 ≤ n) {e : DD} {el : LL} {Q : Int32 → DD → LL → Prop} (hQ : ∀ (r : Int32) (d2 : DD) (l2 : LL), Sq e el d2 l2 ∧ (True) → Q r d2 l2) {K5 : Int32 → Int32 → Int32 → Int32 → DD → LL → Prop} {j5 : Nat} (hK5 : ∀ (x1 : Int32) (x2 : Int32) (x3 : Int32) (x4 : Int32) (d : DD) (dl : LL), Sq e el d dl → (0 ≤ x1.toInt ∧ x1.toInt ≤ 3) → (0 ≤ x4.toInt ∧ x4.toInt ≤ 24) → 25 - x4.toInt < (j5 : Int) → K5 x1 x2 x3 x4 d dl) : ∀ (x1 : Int32) (x2 : Int32) (x3 : Int32) (x4 : Int32) (xs0 : Int32) (d : DD) (dl : LL), Sq e el d dl → (0 ≤ x1.toInt ∧ x1.toInt ≤ 3) → (0 ≤ x4.toInt ∧ x4.toInt ≤ 23) → 25 - x4.toInt ≤ (j5 : Int) → b_X9_leastTimeIn_46 n Q K5 x1 x2 x3 x4 xs0 d dl := by
  intro x1 x2 x3 x4 xs0 d dl hS bx1 bx4 hm5
  show (xs0 ≤ 0 → K5 x1 x2 x3 (x4 + 1) d dl) ∧ (¬ xs0 ≤ 0 → (x3 = 0 → b_X9_leastTimeIn_63 n Q K5 x1 x2 x4 xs0 d dl) ∧ (¬ x3 = 0 → (x3 ≤ xs0 → K5 x1 x2 x3 (x4 + 1) d dl) ∧ (¬ x3 ≤ xs0 → b_X9_leastTimeIn_63 n Q K5 x1 x2 x4 xs0 d dl)))
  refine ⟨fun h6 => ?_, fun h6 => ?_⟩
  · have h6 : xs0.toInt ≤ 0 := (i_le rfl (rfl : (0 : Int32).toInt = 0)).mp h6
    have t_2 : (x4 + 1).toInt = x4.toInt + 1 := ti_add rfl (rfl : (1 : Int32).toInt = 1) (by omega) (by omega)
    exact hK5 _ _ _ _ _ _ hS (by omega) (by omega) (by omega)
  · have h6 : ¬ (xs0.toInt ≤ 0) := fun q => h6 ((i_le rfl (rfl : (0 : Int32).toInt = 0)).mpr q)
    refine ⟨fun h7 => ?_, fun h7 => ?_⟩
    · have h7 : x3.toInt = 0 := (i_eq rfl (rfl : (0 : Int32).toInt = 0)).mp h7
      exact sb_X9_leastTimeIn_63 hn hQ hK5 _ _ _ _ _ _ hS (by omega) (by omega) (by omega)
    · have h7 : ¬ (x3.toInt = 0) := fun q => h7 ((i_eq rfl (rfl : (0 : Int32).toInt = 0)).mpr q)
      refine ⟨fun h8 => ?_, fun h8 => ?_⟩
      · have h8 : x3.toInt ≤ xs0.toInt := (i_le rfl rfl).mp h8
        have t_3 : (x4 + 1).toInt = x4.toInt + 1 := ti_add rfl (rfl : (1 : Int32).toInt = 1) (by omega) (by omega)
        exact hK5 _ _ _ _ _ _ hS (by omega) (by omega) (by omega)
      · have h8 : ¬ (x3.toInt ≤ xs0.toInt) := fun q => h8 ((i_le rfl rfl).mpr q)
        exact sb_X9_leastTimeIn_63 hn hQ hK5 _ _ _ _ _ _ hS (by omega) (by omega) (by omega)
set_option maxHeartbeats 4000000 in
set_option maxRecDepth 100000 in
theorem sb_X9_leastTimeIn_5 {n : Nat} (hn : 1000000000 ≤ n) {e : DD} {el : LL} {Q : Int32 → DD → LL → Prop} (hQ : ∀ (r : Int32) (d2 : DD) (l2 : LL), Sq e el d2 l2 ∧ (True) → Q r d2 l2) : ∀ (j5 : Nat) (x1 : Int32) (x2 : Int32) (x3 : Int32) (x4 : Int32) (d : DD) (dl : LL), Sq e el d dl → (0 ≤ x1.toInt ∧ x1.toInt ≤ 3) → (0 ≤ x4.toInt ∧ x4.toInt ≤ 24) → 25 - x4.toInt < (j5 : Int) → b_X9_leastTimeIn_5 n Q j5 x1 x2 x3 x4 d dl := by
  intro j5
  induction j5 with
  | zero =>
    intro x1 x2 x3 x4 d dl hS bx1 bx4 hm5
    exfalso
    omega
  | succ j5 hK5 =>
    intro x1 x2 x3 x4 d dl hS bx1 bx4 hm5
    show ((d 0 13) ≤ x4 → Q x3 d dl) ∧ (¬ (d 0 13) ≤ x4 → vp_in x4 24 ∧ ∀ k3 : Nat, k3 = x4.toNatClampNeg → vp_in x1 4 ∧ (¬ (d (92 + 5 * k3) x1.toNatClampNeg) = x2 → b_X9_leastTimeIn_46 n Q (b_X9_leastTimeIn_5 n Q j5) x1 x2 x3 x4 0 d dl) ∧ ((d (92 + 5 * k3) x1.toNatClampNeg) = x2 → vp_in x4 24 ∧ ∀ k10 : Nat, k10 = x4.toNatClampNeg → vp_in x1 4 ∧ b_X9_leastTimeIn_46 n Q (b_X9_leastTimeIn_5 n Q j5) x1 x2 x3 x4 (d (93 + 5 * k10) x1.toNatClampNeg) d dl))
    have m_4 := iv_0_13 hS.1
    refine ⟨fun h1 => ?_, fun h1 => ?_⟩
    · have h1 : (d 0 13).toInt ≤ x4.toInt := (i_le rfl rfl).mp h1
      exact hQ _ _ _ ⟨hS, trivial⟩
    · have h1 : ¬ ((d 0 13).toInt ≤ x4.toInt) := fun q => h1 ((i_le rfl rfl).mpr q)
      have ih2 : vp_in x4 24 := vin rfl (by omega) (by omega)
      refine ⟨ih2, ?_⟩
      intro k3 ek3
      have hk3 : k3 < 24 := by rw [ek3]; exact clamp_in ih2
      have ih4 : vp_in x1 4 := vin rfl (by omega) (by omega)
      refine ⟨ih4, ?_⟩
      have m_5 := iv_92 hS.1 hk3 (x1.toNatClampNeg)
      refine ⟨fun h5 => ?_, fun h5 => ?_⟩
      · have h5 : ¬ ((d (92 + 5 * k3) x1.toNatClampNeg).toInt = x2.toInt) := fun q => h5 ((i_eq rfl rfl).mpr q)
        exact sb_X9_leastTimeIn_46 hn hQ hK5 _ _ _ _ _ _ _ hS (by omega) (by omega) (by omega)
      · have h5 : (d (92 + 5 * k3) x1.toNatClampNeg).toInt = x2.toInt := (i_eq rfl rfl).mp h5
        have ih9 : vp_in x4 24 := vin rfl (by omega) (by omega)
        refine ⟨ih9, ?_⟩
        intro k10 ek10
        have hk10 : k10 < 24 := by rw [ek10]; exact clamp_in ih9
        have ih11 : vp_in x1 4 := vin rfl (by omega) (by omega)
        refine ⟨ih11, ?_⟩
        exact sb_X9_leastTimeIn_46 hn hQ hK5 _ _ _ _ _ _ _ hS (by omega) (by omega) (by omega)
set_option maxHeartbeats 4000000 in
set_option maxRecDepth 100000 in
theorem sp_X9_leastTimeIn {n : Nat} (hn : 1000000000 ≤ n) {x1 : Int32} {x2 : Int32} {d : DD} {dl : LL} (hI : Inv d) (bx1 : 0 ≤ x1.toInt ∧ x1.toInt ≤ 3) {Q : Int32 → DD → LL → Prop} (hQ : ∀ (r : Int32) (d2 : DD) (l2 : LL), Sq d dl d2 l2 ∧ (True) → Q r d2 l2) : F_X9_leastTimeIn n x1 x2 d dl Q := by
  obtain ⟨e, he⟩ : ∃ e : DD, e = d := ⟨_, rfl⟩
  obtain ⟨el, hel⟩ : ∃ el : LL, el = dl := ⟨_, rfl⟩
  have hS : Sq e el d dl := by rw [he, hel]; exact Sq.rf hI
  rw [← he, ← hel] at hQ
  show b_X9_leastTimeIn_5 n Q n x1 x2 0 0 d dl
  exact sb_X9_leastTimeIn_5 hn hQ n _ _ _ _ _ _ hS (by omega) (show 0 ≤ 0 ∧ 0 ≤ 24 from by omega) (show 25 - 0 < (n : Int) from by omega)
set_option maxHeartbeats 4000000 in
set_option maxRecDepth 100000 in
theorem sb_X3_pointsIn_20 {n : Nat} (hn : 1000000000 ≤ n) {e : DD} {el : LL} {Q : Int32 → DD → LL → Prop} (hQ : ∀ (r : Int32) (d2 : DD) (l2 : LL), Sq e el d2 l2 ∧ (True) → Q r d2 l2) : ∀ (j20 : Nat) (k0 : Nat) (x1 : Int32) (x2 : Int32) (x3 : Int32) (x4 : Int32) (x5 : Int32) (hk0 : k0 < 24) (d : DD) (dl : LL), Sq e el d dl → (0 ≤ x1.toInt ∧ x1.toInt ≤ 3) → (1 ≤ x2.toInt ∧ x2.toInt ≤ 5) → (0 ≤ x3.toInt ∧ x3.toInt ≤ 4) → (0 ≤ x5.toInt ∧ x5.toInt ≤ 4) → (x3.toInt ≤ x5.toInt) → 5 - x5.toInt < (j20 : Int) → b_X3_pointsIn_20 n Q j20 k0 x1 x2 x3 x4 x5 d dl := by
  intro j20
  induction j20 with
  | zero =>
    intro k0 x1 x2 x3 x4 x5 hk0 d dl hS bx1 bx2 bx3 bx5 bi0 hm20
    exfalso
    omega
  | succ j20 hK20 =>
    intro k0 x1 x2 x3 x4 x5 hk0 d dl hS bx1 bx2 bx3 bx5 bi0 hm20
    show (4 ≤ x5 → (¬ x3 = 0 → ¬ x3 = 0 ∧ Q (((60 : Int32) * x4) / x3) d dl) ∧ (x3 = 0 → Q 0 d dl)) ∧ (¬ 4 ≤ x5 → ∀ v8 : Int32, v8 = ((x2 - 1) + x3) → vp_in x5 4 ∧ vp_in x1 4 ∧ (¬ (d (93 + 5 * k0) x5.toNatClampNeg) = (d (93 + 5 * k0) x1.toNatClampNeg) → (b_X3_pointsIn_20 n Q j20) k0 x1 x2 x3 x4 (x5 + 1) d dl) ∧ ((d (93 + 5 * k0) x5.toNatClampNeg) = (d (93 + 5 * k0) x1.toNatClampNeg) → (6 ≤ v8 → (b_X3_pointsIn_20 n Q j20) k0 x1 x2 x3 x4 (x5 + 1) d dl) ∧ (¬ 6 ≤ v8 → vp_in v8 6 ∧ ∀ v14 : Int32, v14 = (x4 + (([10, 8, 6, 5, 4, 3] : List Int32).getD v8.toNatClampNeg 0)) → (b_X3_pointsIn_20 n Q j20) k0 x1 x2 (x3 + 1) v14 (x5 + 1) d dl)))
    refine ⟨fun h5 => ?_, fun h5 => ?_⟩
    · have h5 : 4 ≤ x5.toInt := (i_le (rfl : (4 : Int32).toInt = 4) rfl).mp h5
      refine ⟨fun h6 => ?_, fun h6 => ?_⟩
      · have h6 : ¬ (x3.toInt = 0) := fun q => h6 ((i_eq rfl (rfl : (0 : Int32).toInt = 0)).mpr q)
        have z_1 : ¬ x3.toInt = 0 := by omega
        refine ⟨fun q => z_1 ((i_eq rfl (rfl : (0 : Int32).toInt = 0)).mp q), ?_⟩
        exact hQ _ _ _ ⟨hS, trivial⟩
      · have h6 : x3.toInt = 0 := (i_eq rfl (rfl : (0 : Int32).toInt = 0)).mp h6
        exact hQ _ _ _ ⟨hS, trivial⟩
    · have h5 : ¬ (4 ≤ x5.toInt) := fun q => h5 ((i_le (rfl : (4 : Int32).toInt = 4) rfl).mpr q)
      have t_2 : (x2 - 1).toInt = x2.toInt - 1 := ti_sub rfl (rfl : (1 : Int32).toInt = 1) (by omega) (by omega)
      have t_3 : ((x2 - 1) + x3).toInt = (x2.toInt - 1) + x3.toInt := ti_add t_2 rfl (by omega) (by omega)
      intro v8 e8
      have t_4 : v8.toInt = ((x2.toInt - 1) + x3.toInt) := (congrArg Int32.toInt e8).trans t_3
      have ih9 : vp_in x5 4 := vin rfl (by omega) (by omega)
      refine ⟨ih9, ?_⟩
      have ih10 : vp_in x1 4 := vin rfl (by omega) (by omega)
      refine ⟨ih10, ?_⟩
      refine ⟨fun h11 => ?_, fun h11 => ?_⟩
      · have h11 : ¬ ((d (93 + 5 * k0) x5.toNatClampNeg).toInt = (d (93 + 5 * k0) x1.toNatClampNeg).toInt) := fun q => h11 ((i_eq rfl rfl).mpr q)
        have t_5 : (x5 + 1).toInt = x5.toInt + 1 := ti_add rfl (rfl : (1 : Int32).toInt = 1) (by omega) (by omega)
        exact hK20 _ _ _ _ _ _ hk0 _ _ hS (by omega) (by omega) (by omega) (by omega) (by omega) (by omega)
      · have h11 : (d (93 + 5 * k0) x5.toNatClampNeg).toInt = (d (93 + 5 * k0) x1.toNatClampNeg).toInt := (i_eq rfl rfl).mp h11
        refine ⟨fun h12 => ?_, fun h12 => ?_⟩
        · have h12 : 6 ≤ ((x2.toInt - 1) + x3.toInt) := (i_le (rfl : (6 : Int32).toInt = 6) t_4).mp h12
          have t_6 : (x5 + 1).toInt = x5.toInt + 1 := ti_add rfl (rfl : (1 : Int32).toInt = 1) (by omega) (by omega)
          exact hK20 _ _ _ _ _ _ hk0 _ _ hS (by omega) (by omega) (by omega) (by omega) (by omega) (by omega)
        · have h12 : ¬ (6 ≤ ((x2.toInt - 1) + x3.toInt)) := fun q => h12 ((i_le (rfl : (6 : Int32).toInt = 6) t_4).mpr q)
          have ih13 : vp_in v8 6 := vin t_4 (by omega) (by omega)
          refine ⟨ih13, ?_⟩
          intro v14 e14
          have t_7 : v14.toInt = (x4 + (([10, 8, 6, 5, 4, 3] : List Int32).getD v8.toNatClampNeg 0)).toInt := (congrArg Int32.toInt e14).trans rfl
          have t_8 : (x3 + 1).toInt = x3.toInt + 1 := ti_add rfl (rfl : (1 : Int32).toInt = 1) (by omega) (by omega)
          have t_9 : (x5 + 1).toInt = x5.toInt + 1 := ti_add rfl (rfl : (1 : Int32).toInt = 1) (by omega) (by omega)
          exact hK20 _ _ _ _ _ _ hk0 _ _ hS (by omega) (by omega) (by omega) (by omega) (by omega) (by omega)
set_option maxHeartbeats 4000000 in
set_option maxRecDepth 100000 in
theorem sp_X3_pointsIn {n : Nat} (hn : 1000000000 ≤ n) {k0 : Nat} {x1 : Int32} {d : DD} {dl : LL} (hI : Inv d) (hk0 : k0 < 24) (bx1 : 0 ≤ x1.toInt ∧ x1.toInt ≤ 3) {Q : Int32 → DD → LL → Prop} (hQ : ∀ (r : Int32) (d2 : DD) (l2 : LL), Sq d dl d2 l2 ∧ (True) → Q r d2 l2) : F_X3_pointsIn n k0 x1 d dl Q := by
  obtain ⟨e, he⟩ : ∃ e : DD, e = d := ⟨_, rfl⟩
  obtain ⟨el, hel⟩ : ∃ el : LL, el = dl := ⟨_, rfl⟩
  have hS : Sq e el d dl := by rw [he, hel]; exact Sq.rf hI
  rw [← he, ← hel] at hQ
  show F_X3_placeOf n k0 x1 d dl (fun r1 d2 l3 => (¬ r1 = 0 → b_X3_pointsIn_20 n Q n k0 x1 r1 0 0 0 d2 l3) ∧ (r1 = 0 → Q 0 d2 l3))
  refine sp_X3_placeOf hn hS.1 hk0 ⟨by omega, by omega⟩ (fun r1 d2 l3 ⟨p_10, u_11⟩ => ?_)
  have s_12 : Sq e el d2 l3 := hS.tr p_10
  have w_13 : d2 = d := p_10.2.1
  replace u_11 : (0 ≤ r1.toInt ∧ r1.toInt ≤ 5) := u_11
  refine ⟨fun h4 => ?_, fun h4 => ?_⟩
  · have h4 : ¬ (r1.toInt = 0) := fun q => h4 ((i_eq rfl (rfl : (0 : Int32).toInt = 0)).mpr q)
    exact sb_X3_pointsIn_20 hn hQ n _ _ _ _ _ _ hk0 _ _ s_12 (by omega) (by omega) (show 0 ≤ 0 ∧ 0 ≤ 4 from by omega) (show 0 ≤ 0 ∧ 0 ≤ 4 from by omega) (show 0 ≤ 0 from by omega) (show 5 - 0 < (n : Int) from by omega)
  · have h4 : r1.toInt = 0 := (i_eq rfl (rfl : (0 : Int32).toInt = 0)).mp h4
    exact hQ _ _ _ ⟨s_12, trivial⟩
set_option maxHeartbeats 4000000 in
set_option maxRecDepth 100000 in
theorem sb_X9_pointsOf_63 {n : Nat} (hn : 1000000000 ≤ n) {e : DD} {el : LL} {Q : Int32 → DD → LL → Prop} (hQ : ∀ (r : Int32) (d2 : DD) (l2 : LL), Sq e el d2 l2 ∧ (True) → Q r d2 l2) {K4 : Int32 → Int32 → Int32 → DD → LL → Prop} {j4 : Nat} (hK4 : ∀ (x1 : Int32) (x2 : Int32) (x3 : Int32) (d : DD) (dl : LL), Sq e el d dl → (0 ≤ x3.toInt ∧ x3.toInt ≤ 24) → 25 - x3.toInt < (j4 : Int) → K4 x1 x2 x3 d dl) : ∀ (x1 : Int32) (x3 : Int32) (xs0 : Int32) (xs1 : Int32) (d : DD) (dl : LL), Sq e el d dl → (0 ≤ x3.toInt ∧ x3.toInt ≤ 23) → 25 - x3.toInt ≤ (j4 : Int) → b_X9_pointsOf_63 n Q K4 x1 x3 xs0 xs1 d dl := by
  intro x1 x3 xs0 xs1 d dl hS bx3 hm4
  show ∀ v6 : Int32, v6 = (xs1 + xs0) → K4 x1 v6 (x3 + 1) d dl
  intro v6 e6
  have t_1 : v6.toInt = (xs1 + xs0).toInt := (congrArg Int32.toInt e6).trans rfl
  have t_2 : (x3 + 1).toInt = x3.toInt + 1 := ti_add rfl (rfl : (1 : Int32).toInt = 1) (by omega) (by omega)
  exact hK4 _ _ _ _ _ hS (by omega) (by omega)
set_option maxHeartbeats 4000000 in
set_option maxRecDepth 100000 in
theorem sb_X9_pointsOf_39 {n : Nat} (hn : 1000000000 ≤ n) {e : DD} {el : LL} {Q : Int32 → DD → LL → Prop} (hQ : ∀ (r : Int32) (d2 : DD) (l2 : LL), Sq e el d2 l2 ∧ (True) → Q r d2 l2) {K4 : Int32 → Int32 → Int32 → DD → LL → Prop} {j4 : Nat} (hK4 : ∀ (x1 : Int32) (x2 : Int32) (x3 : Int32) (d : DD) (dl : LL), Sq e el d dl → (0 ≤ x3.toInt ∧ x3.toInt ≤ 24) → 25 - x3.toInt < (j4 : Int) → K4 x1 x2 x3 d dl) : ∀ (x1 : Int32) (x2 : Int32) (x3 : Int32) (xs0 : Int32) (d : DD) (dl : LL), Sq e el d dl → (0 ≤ x3.toInt ∧ x3.toInt ≤ 23) → ((-1) ≤ xs0.toInt ∧ xs0.toInt ≤ 3) → 25 - x3.toInt ≤ (j4 : Int) → b_X9_pointsOf_39 n Q K4 x1 x2 x3 xs0 d dl := by
  intro x1 x2 x3 xs0 d dl hS bx3 bxs0 hm4
  show (xs0 = (-1) → b_X9_pointsOf_63 n Q K4 x1 x3 0 x2 d dl) ∧ (¬ xs0 = (-1) → vp_in x3 24 ∧ ∀ k8 : Nat, k8 = x3.toNatClampNeg → F_X3_pointsIn n k8 xs0 d dl (fun r9 d10 l11 => b_X9_pointsOf_63 n Q K4 x1 x3 r9 x2 d10 l11))
  refine ⟨fun h5 => ?_, fun h5 => ?_⟩
  · have h5 : xs0.toInt = (-1) := (i_eq rfl (rfl : ((-1) : Int32).toInt = (-1))).mp h5
    exact sb_X9_pointsOf_63 hn hQ hK4 _ _ _ _ _ _ hS (by omega) (by omega)
  · have h5 : ¬ (xs0.toInt = (-1)) := fun q => h5 ((i_eq rfl (rfl : ((-1) : Int32).toInt = (-1))).mpr q)
    have ih7 : vp_in x3 24 := vin rfl (by omega) (by omega)
    refine ⟨ih7, ?_⟩
    intro k8 ek8
    have hk8 : k8 < 24 := by rw [ek8]; exact clamp_in ih7
    refine sp_X3_pointsIn hn hS.1 hk8 ⟨by omega, by omega⟩ (fun r9 d10 l11 ⟨p_3, u_4⟩ => ?_)
    have s_5 : Sq e el d10 l11 := hS.tr p_3
    have w_6 : d10 = d := p_3.2.1
    exact sb_X9_pointsOf_63 hn hQ hK4 _ _ _ _ _ _ s_5 (by omega) (by omega)
