set_option maxHeartbeats 4000000 in
set_option maxRecDepth 100000 in
theorem sb_X10_again_14 {n : Nat} (hn : 1000000000 ≤ n) {e : DD} {el : LL} {Q : Int32 → DD → LL → Prop} (hQ : ∀ (r : Int32) (d2 : DD) (l2 : LL), St e el d2 l2 ∧ (True) → Q r d2 l2) : ∀ (j14 : Nat) (x1 : Int32) (x2 : Int32) (x3 : Int32) (d : DD) (dl : LL), St e el d dl → (0 ≤ x1.toInt ∧ x1.toInt ≤ 23) → (0 ≤ x3.toInt ∧ x3.toInt ≤ 4) → 5 - x3.toInt < (j14 : Int) → b_X10_again_14 n Q j14 x1 x2 x3 d dl := by
  intro j14
  induction j14 with
  | zero =>
    intro x1 x2 x3 d dl hS bx1 bx3 hm14
    exfalso
    omega
  | succ j14 hK14 =>
    intro x1 x2 x3 d dl hS bx1 bx3 hm14
    show (4 ≤ x3 → vp_in x1 24 ∧ ∀ d7 : DD, d7 = u2 d 238 x1.toNatClampNeg (vp_nar .boolean 0) → Q x2 d7 dl) ∧ (¬ 4 ≤ x3 → vp_in (((4 : Int32) * x1) + x3) 96 ∧ ((d 235 (((4 : Int32) * x1) + x3).toNatClampNeg) ≤ 0 → b_X10_again_35 n Q (b_X10_again_14 n Q j14) x1 x2 x3 d dl) ∧ (¬ (d 235 (((4 : Int32) * x1) + x3).toNatClampNeg) ≤ 0 → b_X10_again_35 n Q (b_X10_again_14 n Q j14) x1 (x2 + 1) x3 d dl))
    refine ⟨fun h5 => ?_, fun h5 => ?_⟩
    · have h5 : 4 ≤ x3.toInt := (i_le (rfl : (4 : Int32).toInt = 4) rfl).mp h5
      have ih6 : vp_in x1 24 := vin rfl (by omega) (by omega)
      refine ⟨ih6, ?_⟩
      intro d7 ed7
      have s_6 : St e el d7 dl := by rw [ed7]; exact pv_238 hS (vn_in _).1 (vn_in _).2
      exact hQ _ _ _ ⟨s_6, trivial⟩
    · have h5 : ¬ (4 ≤ x3.toInt) := fun q => h5 ((i_le (rfl : (4 : Int32).toInt = 4) rfl).mpr q)
      have t_7 : ((4 : Int32) * x1).toInt = 4 * x1.toInt := ti_mul (rfl : (4 : Int32).toInt = 4) rfl (by omega) (by omega)
      have t_8 : (((4 : Int32) * x1) + x3).toInt = (4 * x1.toInt) + x3.toInt := ti_add t_7 rfl (by omega) (by omega)
      have ih8 : vp_in (((4 : Int32) * x1) + x3) 96 := vin t_8 (by omega) (by omega)
      refine ⟨ih8, ?_⟩
      refine ⟨fun h9 => ?_, fun h9 => ?_⟩
      · have h9 : (d 235 (((4 : Int32) * x1) + x3).toNatClampNeg).toInt ≤ 0 := (i_le rfl (rfl : (0 : Int32).toInt = 0)).mp h9
        exact sb_X10_again_35 hn hQ hK14 _ _ _ _ _ hS (by omega) (by omega) (by omega)
      · have h9 : ¬ ((d 235 (((4 : Int32) * x1) + x3).toNatClampNeg).toInt ≤ 0) := fun q => h9 ((i_le rfl (rfl : (0 : Int32).toInt = 0)).mpr q)
        exact sb_X10_again_35 hn hQ hK14 _ _ _ _ _ hS (by omega) (by omega) (by omega)
set_option maxHeartbeats 4000000 in
set_option maxRecDepth 100000 in
theorem sp_X10_again {n : Nat} (hn : 1000000000 ≤ n) {x1 : Int32} {d : DD} {dl : LL} (hI : Inv d) {Q : Int32 → DD → LL → Prop} (hQ : ∀ (r : Int32) (d2 : DD) (l2 : LL), St d dl d2 l2 ∧ (True) → Q r d2 l2) : F_X10_again n x1 d dl Q := by
  obtain ⟨e, he⟩ : ∃ e : DD, e = d := ⟨_, rfl⟩
  obtain ⟨el, hel⟩ : ∃ el : LL, el = dl := ⟨_, rfl⟩
  have hS : St e el d dl := by rw [he, hel]; exact St.rf hI
  rw [← he, ← hel] at hQ
  show F_X10_isRace n x1 d dl (fun r1 d2 l3 => (¬ r1 = 0 → b_X10_again_14 n Q n x1 0 0 d2 l3) ∧ (r1 = 0 → Q (-1) d2 l3))
  refine sp_X10_isRace hn hS.1 (fun r1 d2 l3 ⟨p_9, u_10⟩ => ?_)
  have s_11 : St e el d2 l3 := hS.sq p_9
  have w_12 : d2 = d := p_9.2.1
  replace u_10 : (0 ≤ r1.toInt ∧ r1.toInt ≤ 1 ∧ ((r1.toInt = 1 ∧ 0 ≤ x1.toInt ∧ x1.toInt < (d 211 3).toInt) ∨ (r1.toInt = 0 ∧ ¬ (0 ≤ x1.toInt ∧ x1.toInt < (d 211 3).toInt)))) := u_10
  have m_13 := iv_211_3 hS.1
  refine ⟨fun h4 => ?_, fun h4 => ?_⟩
  · have h4 : ¬ (r1.toInt = 0) := fun q => h4 ((i_eq rfl (rfl : (0 : Int32).toInt = 0)).mpr q)
    exact sb_X10_again_14 hn hQ n _ _ _ _ _ s_11 (by omega) (show 0 ≤ 0 ∧ 0 ≤ 4 from by omega) (show 5 - 0 < (n : Int) from by omega)
  · have h4 : r1.toInt = 0 := (i_eq rfl (rfl : (0 : Int32).toInt = 0)).mp h4
    exact hQ _ _ _ ⟨s_11, trivial⟩
set_option maxHeartbeats 4000000 in
set_option maxRecDepth 100000 in
theorem sb_X10_strike_12 {n : Nat} (hn : 1000000000 ≤ n) {e : DD} {el : LL} {Q : Int32 → DD → LL → Prop} (hQ : ∀ (r : Int32) (d2 : DD) (l2 : LL), St e el d2 l2 ∧ (True) → Q r d2 l2) : ∀ (j12 : Nat) (x1 : Int32) (x2 : Int32) (x3 : Int32) (d : DD) (dl : LL), St e el d dl → (0 ≤ x1.toInt ∧ x1.toInt ≤ 23) → (0 ≤ x3.toInt ∧ x3.toInt ≤ 4) → 5 - x3.toInt < (j12 : Int) → b_X10_strike_12 n Q j12 x1 x2 x3 d dl := by
  intro j12
  induction j12 with
  | zero =>
    intro x1 x2 x3 d dl hS bx1 bx3 hm12
    exfalso
    omega
  | succ j12 hK12 =>
    intro x1 x2 x3 d dl hS bx1 bx3 hm12
    show (4 ≤ x3 → Q (-1) d dl) ∧ (¬ 4 ≤ x3 → vp_in (((4 : Int32) * x1) + x3) 96 ∧ (¬ (d 234 (((4 : Int32) * x1) + x3).toNatClampNeg) = x2 → (b_X10_strike_12 n Q j12) x1 x2 (x3 + 1) d dl) ∧ ((d 234 (((4 : Int32) * x1) + x3).toNatClampNeg) = x2 → (0 ≤ x2 → vp_in (((4 : Int32) * x1) + x3) 96 ∧ ((d 237 (((4 : Int32) * x1) + x3).toNatClampNeg) = 0 → F_X10_place n x1 x3 d dl (fun r11 d12 l13 => vp_in (((4 : Int32) * x1) + x3) 96 ∧ ∀ d15 : DD, d15 = u2 d12 237 (((4 : Int32) * x1) + x3).toNatClampNeg (vp_nar .boolean 1) → vp_in (((4 : Int32) * x1) + x3) 96 ∧ ∀ d17 : DD, d17 = u2 d15 235 (((4 : Int32) * x1) + x3).toNatClampNeg 0 → Q r11 d17 l13)) ∧ (¬ (d 237 (((4 : Int32) * x1) + x3).toNatClampNeg) = 0 → Q (-3) d dl)) ∧ (¬ 0 ≤ x2 → (b_X10_strike_12 n Q j12) x1 x2 (x3 + 1) d dl)))
    refine ⟨fun h5 => ?_, fun h5 => ?_⟩
    · have h5 : 4 ≤ x3.toInt := (i_le (rfl : (4 : Int32).toInt = 4) rfl).mp h5
      exact hQ _ _ _ ⟨hS, trivial⟩
    · have h5 : ¬ (4 ≤ x3.toInt) := fun q => h5 ((i_le (rfl : (4 : Int32).toInt = 4) rfl).mpr q)
      have t_1 : ((4 : Int32) * x1).toInt = 4 * x1.toInt := ti_mul (rfl : (4 : Int32).toInt = 4) rfl (by omega) (by omega)
      have t_2 : (((4 : Int32) * x1) + x3).toInt = (4 * x1.toInt) + x3.toInt := ti_add t_1 rfl (by omega) (by omega)
      have ih6 : vp_in (((4 : Int32) * x1) + x3) 96 := vin t_2 (by omega) (by omega)
      refine ⟨ih6, ?_⟩
      have m_3 := iv_234 hS.1 ((((4 : Int32) * x1) + x3).toNatClampNeg)
      refine ⟨fun h7 => ?_, fun h7 => ?_⟩
      · have h7 : ¬ ((d 234 (((4 : Int32) * x1) + x3).toNatClampNeg).toInt = x2.toInt) := fun q => h7 ((i_eq rfl rfl).mpr q)
        have t_4 : (x3 + 1).toInt = x3.toInt + 1 := ti_add rfl (rfl : (1 : Int32).toInt = 1) (by omega) (by omega)
        exact hK12 _ _ _ _ _ hS (by omega) (by omega) (by omega)
      · have h7 : (d 234 (((4 : Int32) * x1) + x3).toNatClampNeg).toInt = x2.toInt := (i_eq rfl rfl).mp h7
        refine ⟨fun h8 => ?_, fun h8 => ?_⟩
        · have h8 : 0 ≤ x2.toInt := (i_le (rfl : (0 : Int32).toInt = 0) rfl).mp h8
          have ih9 : vp_in (((4 : Int32) * x1) + x3) 96 := vin t_2 (by omega) (by omega)
          refine ⟨ih9, ?_⟩
          have m_5 := iv_237 hS.1 ((((4 : Int32) * x1) + x3).toNatClampNeg)
          refine ⟨fun h10 => ?_, fun h10 => ?_⟩
          · have h10 : (d 237 (((4 : Int32) * x1) + x3).toNatClampNeg).toInt = 0 := (i_eq rfl (rfl : (0 : Int32).toInt = 0)).mp h10
            refine sp_X10_place hn hS.1 ⟨by omega, by omega⟩ ⟨by omega, by omega⟩ (fun r11 d12 l13 ⟨p_6, u_7⟩ => ?_)
            have s_8 : St e el d12 l13 := hS.sq p_6
            have w_9 : d12 = d := p_6.2.1
            have ih14 : vp_in (((4 : Int32) * x1) + x3) 96 := vin t_2 (by omega) (by omega)
            refine ⟨ih14, ?_⟩
            intro d15 ed15
            have s_10 : St e el d15 l13 := by rw [ed15]; exact pv_237 s_8 (vn_in _).1 (vn_in _).2
            have ih16 : vp_in (((4 : Int32) * x1) + x3) 96 := vin t_2 (by omega) (by omega)
            refine ⟨ih16, ?_⟩
            intro d17 ed17
            have s_11 : St e el d17 l13 := by rw [ed17]; exact pv_235 s_10 (Or.inl rfl)
            exact hQ _ _ _ ⟨s_11, trivial⟩
          · have h10 : ¬ ((d 237 (((4 : Int32) * x1) + x3).toNatClampNeg).toInt = 0) := fun q => h10 ((i_eq rfl (rfl : (0 : Int32).toInt = 0)).mpr q)
            exact hQ _ _ _ ⟨hS, trivial⟩
        · have h8 : ¬ (0 ≤ x2.toInt) := fun q => h8 ((i_le (rfl : (0 : Int32).toInt = 0) rfl).mpr q)
          have t_12 : (x3 + 1).toInt = x3.toInt + 1 := ti_add rfl (rfl : (1 : Int32).toInt = 1) (by omega) (by omega)
          exact hK12 _ _ _ _ _ hS (by omega) (by omega) (by omega)
set_option maxHeartbeats 4000000 in
set_option maxRecDepth 100000 in
theorem sp_X10_strike {n : Nat} (hn : 1000000000 ≤ n) {x1 : Int32} {x2 : Int32} {d : DD} {dl : LL} (hI : Inv d) {Q : Int32 → DD → LL → Prop} (hQ : ∀ (r : Int32) (d2 : DD) (l2 : LL), St d dl d2 l2 ∧ (True) → Q r d2 l2) : F_X10_strike n x1 x2 d dl Q := by
  obtain ⟨e, he⟩ : ∃ e : DD, e = d := ⟨_, rfl⟩
  obtain ⟨el, hel⟩ : ∃ el : LL, el = dl := ⟨_, rfl⟩
  have hS : St e el d dl := by rw [he, hel]; exact St.rf hI
  rw [← he, ← hel] at hQ
  show F_X10_isRace n x1 d dl (fun r1 d2 l3 => (¬ r1 = 0 → b_X10_strike_12 n Q n x1 x2 0 d2 l3) ∧ (r1 = 0 → Q (-1) d2 l3))
  refine sp_X10_isRace hn hS.1 (fun r1 d2 l3 ⟨p_13, u_14⟩ => ?_)
  have s_15 : St e el d2 l3 := hS.sq p_13
  have w_16 : d2 = d := p_13.2.1
  replace u_14 : (0 ≤ r1.toInt ∧ r1.toInt ≤ 1 ∧ ((r1.toInt = 1 ∧ 0 ≤ x1.toInt ∧ x1.toInt < (d 211 3).toInt) ∨ (r1.toInt = 0 ∧ ¬ (0 ≤ x1.toInt ∧ x1.toInt < (d 211 3).toInt)))) := u_14
  have m_17 := iv_211_3 hS.1
  refine ⟨fun h4 => ?_, fun h4 => ?_⟩
  · have h4 : ¬ (r1.toInt = 0) := fun q => h4 ((i_eq rfl (rfl : (0 : Int32).toInt = 0)).mpr q)
    exact sb_X10_strike_12 hn hQ n _ _ _ _ _ s_15 (by omega) (show 0 ≤ 0 ∧ 0 ≤ 4 from by omega) (show 5 - 0 < (n : Int) from by omega)
  · have h4 : r1.toInt = 0 := (i_eq rfl (rfl : (0 : Int32).toInt = 0)).mp h4
    exact hQ _ _ _ ⟨s_15, trivial⟩
set_option maxHeartbeats 4000000 in
set_option maxRecDepth 100000 in
theorem sp_X10_finalist {n : Nat} (hn : 1000000000 ≤ n) {x1 : Int32} {d : DD} {dl : LL} (hI : Inv d) {Q : Int32 → DD → LL → Prop} (hQ : ∀ (r : Int32) (d2 : DD) (l2 : LL), Sq d dl d2 l2 ∧ ((-1) ≤ r.toInt ∧ r.toInt ≤ 5) → Q r d2 l2) : F_X10_finalist n x1 d dl Q := by
  obtain ⟨e, he⟩ : ∃ e : DD, e = d := ⟨_, rfl⟩
  obtain ⟨el, hel⟩ : ∃ el : LL, el = dl := ⟨_, rfl⟩
  have hS : Sq e el d dl := by rw [he, hel]; exact Sq.rf hI
  rw [← he, ← hel] at hQ
  show (x1 < 0 → Q (-1) d dl) ∧ (¬ x1 < 0 → ((d 211 7) ≤ x1 → Q (-1) d dl) ∧ (¬ (d 211 7) ≤ x1 → vp_in x1 6 ∧ Q (d 241 x1.toNatClampNeg) d dl))
  refine ⟨fun h1 => ?_, fun h1 => ?_⟩
  · have h1 : x1.toInt < 0 := (i_lt rfl (rfl : (0 : Int32).toInt = 0)).mp h1
    exact hQ _ _ _ ⟨hS, (show ((-1) ≤ (-1) ∧ (-1) ≤ 5) from by omega)⟩
  · have h1 : ¬ (x1.toInt < 0) := fun q => h1 ((i_lt rfl (rfl : (0 : Int32).toInt = 0)).mpr q)
    have m_1 := iv_211_7 hS.1
    refine ⟨fun h2 => ?_, fun h2 => ?_⟩
    · have h2 : (d 211 7).toInt ≤ x1.toInt := (i_le rfl rfl).mp h2
      exact hQ _ _ _ ⟨hS, (show ((-1) ≤ (-1) ∧ (-1) ≤ 5) from by omega)⟩
    · have h2 : ¬ ((d 211 7).toInt ≤ x1.toInt) := fun q => h2 ((i_le rfl rfl).mpr q)
      have ih3 : vp_in x1 6 := vin rfl (by omega) (by omega)
      refine ⟨ih3, ?_⟩
      have m_2 := iv_241 hS.1 (x1.toNatClampNeg)
      exact hQ _ _ _ ⟨hS, by omega⟩
set_option maxHeartbeats 4000000 in
set_option maxRecDepth 100000 in
theorem sb_X10_slack_128 {n : Nat} (hn : 1000000000 ≤ n) {e : DD} {el : LL} {Q : Int32 → DD → LL → Prop} (hQ : ∀ (r : Int32) (d2 : DD) (l2 : LL), Sq e el d2 l2 ∧ (True) → Q r d2 l2) {K4 : Int32 → Int32 → DD → LL → Prop} {j4 : Nat} (hK4 : ∀ (x1 : Int32) (x2 : Int32) (d : DD) (dl : LL), Sq e el d dl → (0 ≤ x2.toInt ∧ x2.toInt ≤ 24) → 25 - x2.toInt < (j4 : Int) → K4 x1 x2 d dl) {K14 : Int32 → Int32 → Int32 → DD → LL → Prop} {j14 : Nat} (hK14 : ∀ (x1 : Int32) (x2 : Int32) (x3 : Int32) (d : DD) (dl : LL), Sq e el d dl → (0 ≤ x2.toInt ∧ x2.toInt ≤ 23) → (0 ≤ x3.toInt ∧ x3.toInt ≤ 24) → 25 - x2.toInt ≤ (j4 : Int) → 25 - x3.toInt < (j14 : Int) → K14 x1 x2 x3 d dl) : ∀ (x2 : Int32) (x3 : Int32) (x5 : Int32) (d : DD) (dl : LL), Sq e el d dl → (0 ≤ x2.toInt ∧ x2.toInt ≤ 23) → (0 ≤ x3.toInt ∧ x3.toInt ≤ 23) → 25 - x2.toInt ≤ (j4 : Int) → 25 - x3.toInt ≤ (j14 : Int) → b_X10_slack_128 n Q K4 K14 x2 x3 x5 d dl := by
  intro x2 x3 x5 d dl hS bx2 bx3 hm4 hm14
  show K14 x5 x2 (x3 + 1) d dl
  have t_1 : (x3 + 1).toInt = x3.toInt + 1 := ti_add rfl (rfl : (1 : Int32).toInt = 1) (by omega) (by omega)
  exact hK14 _ _ _ _ _ hS (by omega) (by omega) (by omega) (by omega)
set_option maxHeartbeats 4000000 in
set_option maxRecDepth 100000 in
theorem sb_X10_slack_25 {n : Nat} (hn : 1000000000 ≤ n) {e : DD} {el : LL} {Q : Int32 → DD → LL → Prop} (hQ : ∀ (r : Int32) (d2 : DD) (l2 : LL), Sq e el d2 l2 ∧ (True) → Q r d2 l2) {K4 : Int32 → Int32 → DD → LL → Prop} {j4 : Nat} (hK4 : ∀ (x1 : Int32) (x2 : Int32) (d : DD) (dl : LL), Sq e el d dl → (0 ≤ x2.toInt ∧ x2.toInt ≤ 24) → 25 - x2.toInt < (j4 : Int) → K4 x1 x2 d dl) {K14 : Int32 → Int32 → Int32 → DD → LL → Prop} {j14 : Nat} (hK14 : ∀ (x1 : Int32) (x2 : Int32) (x3 : Int32) (d : DD) (dl : LL), Sq e el d dl → (0 ≤ x2.toInt ∧ x2.toInt ≤ 23) → (0 ≤ x3.toInt ∧ x3.toInt ≤ 24) → 25 - x2.toInt ≤ (j4 : Int) → 25 - x3.toInt < (j14 : Int) → K14 x1 x2 x3 d dl) : ∀ (j25 : Nat) (x1 : Int32) (x2 : Int32) (x3 : Int32) (x4 : Int32) (x5 : Int32) (d : DD) (dl : LL), Sq e el d dl → (0 ≤ x2.toInt ∧ x2.toInt ≤ 23) → (0 ≤ x3.toInt ∧ x3.toInt ≤ 23) → (0 ≤ x4.toInt ∧ x4.toInt ≤ 1) → (0 ≤ x5.toInt ∧ x5.toInt ≤ 16) → 25 - x2.toInt ≤ (j4 : Int) → 25 - x3.toInt ≤ (j14 : Int) → 17 - x5.toInt < (j25 : Int) → b_X10_slack_25 n Q K4 K14 j25 x1 x2 x3 x4 x5 d dl := by
  intro j25
  induction j25 with
  | zero =>
    intro x1 x2 x3 x4 x5 d dl hS bx2 bx3 bx4 bx5 hm4 hm14 hm25
    exfalso
    omega
  | succ j25 hK25 =>
    intro x1 x2 x3 x4 x5 d dl hS bx2 bx3 bx4 bx5 hm4 hm14 hm25
    show (16 ≤ x5 → vp_in x2 24 ∧ vp_in x3 24 ∧ F_X10_size n ((d 232 x2.toNatClampNeg) - (d 232 x3.toNatClampNeg)) d dl (fun r6 d7 l8 => (x4 = 0 → K14 x1 x2 (x3 + 1) d7 l8) ∧ (¬ x4 = 0 → (x1 = (-1) → b_X10_slack_128 n Q K4 K14 x2 x3 r6 d7 l8) ∧ (¬ x1 = (-1) → (x1 ≤ r6 → K14 x1 x2 (x3 + 1) d7 l8) ∧ (¬ x1 ≤ r6 → b_X10_slack_128 n Q K4 K14 x2 x3 r6 d7 l8))))) ∧ (¬ 16 ≤ x5 → vp_in (((4 : Int32) * x2) + (x5 / 4)) 96 ∧ ∀ v13 : Int32, v13 = (d 234 (((4 : Int32) * x2) + (x5 / 4)).toNatClampNeg) → vp_in (((4 : Int32) * x3) + (irem x5 4)) 96 ∧ ∀ v15 : Int32, v15 = (d 234 (((4 : Int32) * x3) + (irem x5 4)).toNatClampNeg) → (v13 = (-1) → (b_X10_slack_25 n Q K4 K14 j25) x1 x2 x3 x4 (x5 + 1) d dl) ∧ (¬ v13 = (-1) → (v15 = (-1) → (b_X10_slack_25 n Q K4 K14 j25) x1 x2 x3 x4 (x5 + 1) d dl) ∧ (¬ v15 = (-1) → F_X10_haveCommon n v13 v15 d dl (fun r18 d19 l20 => (r18 = 0 → (b_X10_slack_25 n Q K4 K14 j25) x1 x2 x3 x4 (x5 + 1) d19 l20) ∧ (¬ r18 = 0 → (b_X10_slack_25 n Q K4 K14 j25) x1 x2 x3 1 (x5 + 1) d19 l20)))))
    refine ⟨fun h3 => ?_, fun h3 => ?_⟩
    · have h3 : 16 ≤ x5.toInt := (i_le (rfl : (16 : Int32).toInt = 16) rfl).mp h3
      have ih4 : vp_in x2 24 := vin rfl (by omega) (by omega)
      refine ⟨ih4, ?_⟩
      have ih5 : vp_in x3 24 := vin rfl (by omega) (by omega)
      refine ⟨ih5, ?_⟩
      have m_2 := iv_232 hS.1 (x2.toNatClampNeg)
      have m_3 := iv_232 hS.1 (x3.toNatClampNeg)
      have t_4 : ((d 232 x2.toNatClampNeg) - (d 232 x3.toNatClampNeg)).toInt = (d 232 x2.toNatClampNeg).toInt - (d 232 x3.toNatClampNeg).toInt := ti_sub rfl rfl (by omega) (by omega)
      refine sp_X10_size hn hS.1 (fun r6 d7 l8 ⟨p_5, u_6⟩ => ?_)
      have s_7 : Sq e el d7 l8 := hS.tr p_5
      have w_8 : d7 = d := p_5.2.1
      refine ⟨fun h9 => ?_, fun h9 => ?_⟩
      · have h9 : x4.toInt = 0 := (i_eq rfl (rfl : (0 : Int32).toInt = 0)).mp h9
        have t_9 : (x3 + 1).toInt = x3.toInt + 1 := ti_add rfl (rfl : (1 : Int32).toInt = 1) (by omega) (by omega)
        exact hK14 _ _ _ _ _ s_7 (by omega) (by omega) (by omega) (by omega)
      · have h9 : ¬ (x4.toInt = 0) := fun q => h9 ((i_eq rfl (rfl : (0 : Int32).toInt = 0)).mpr q)
        refine ⟨fun h10 => ?_, fun h10 => ?_⟩
        · have h10 : x1.toInt = (-1) := (i_eq rfl (rfl : ((-1) : Int32).toInt = (-1))).mp h10
          exact sb_X10_slack_128 hn hQ hK4 hK14 _ _ _ _ _ s_7 (by omega) (by omega) (by omega) (by omega)
        · have h10 : ¬ (x1.toInt = (-1)) := fun q => h10 ((i_eq rfl (rfl : ((-1) : Int32).toInt = (-1))).mpr q)
          refine ⟨fun h11 => ?_, fun h11 => ?_⟩
          · have h11 : x1.toInt ≤ r6.toInt := (i_le rfl rfl).mp h11
            have t_10 : (x3 + 1).toInt = x3.toInt + 1 := ti_add rfl (rfl : (1 : Int32).toInt = 1) (by omega) (by omega)
            exact hK14 _ _ _ _ _ s_7 (by omega) (by omega) (by omega) (by omega)
          · have h11 : ¬ (x1.toInt ≤ r6.toInt) := fun q => h11 ((i_le rfl rfl).mpr q)
            exact sb_X10_slack_128 hn hQ hK4 hK14 _ _ _ _ _ s_7 (by omega) (by omega) (by omega) (by omega)
    · have h3 : ¬ (16 ≤ x5.toInt) := fun q => h3 ((i_le (rfl : (16 : Int32).toInt = 16) rfl).mpr q)
      have t_11 : ((4 : Int32) * x2).toInt = 4 * x2.toInt := ti_mul (rfl : (4 : Int32).toInt = 4) rfl (by omega) (by omega)
      have t_12 : (x5 / 4).toInt = x5.toInt / 4 := ti_div rfl (rfl : (4 : Int32).toInt = 4) (by omega) (by omega)
      have t_13 : (((4 : Int32) * x2) + (x5 / 4)).toInt = (4 * x2.toInt) + (x5.toInt / 4) := ti_add t_11 t_12 (by omega) (by omega)
      have ih12 : vp_in (((4 : Int32) * x2) + (x5 / 4)) 96 := vin t_13 (by omega) (by omega)
      refine ⟨ih12, ?_⟩
      have m_14 := iv_234 hS.1 ((((4 : Int32) * x2) + (x5 / 4)).toNatClampNeg)
      intro v13 e13
      have t_15 : v13.toInt = (d 234 (((4 : Int32) * x2) + (x5 / 4)).toNatClampNeg).toInt := (congrArg Int32.toInt e13).trans rfl
      have t_16 : ((4 : Int32) * x3).toInt = 4 * x3.toInt := ti_mul (rfl : (4 : Int32).toInt = 4) rfl (by omega) (by omega)
      have t_17 : (irem x5 4).toInt = x5.toInt % 4 := ti_rem rfl (rfl : (4 : Int32).toInt = 4) (by omega) (by omega)
      have t_18 : (((4 : Int32) * x3) + (irem x5 4)).toInt = (4 * x3.toInt) + (x5.toInt % 4) := ti_add t_16 t_17 (by omega) (by omega)
      have ih14 : vp_in (((4 : Int32) * x3) + (irem x5 4)) 96 := vin t_18 (by omega) (by omega)
      refine ⟨ih14, ?_⟩
      have m_19 := iv_234 hS.1 ((((4 : Int32) * x3) + (irem x5 4)).toNatClampNeg)
      intro v15 e15
      have t_20 : v15.toInt = (d 234 (((4 : Int32) * x3) + (irem x5 4)).toNatClampNeg).toInt := (congrArg Int32.toInt e15).trans rfl
      refine ⟨fun h16 => ?_, fun h16 => ?_⟩
      · have h16 : (d 234 (((4 : Int32) * x2) + (x5 / 4)).toNatClampNeg).toInt = (-1) := (i_eq t_15 (rfl : ((-1) : Int32).toInt = (-1))).mp h16
        have t_21 : (x5 + 1).toInt = x5.toInt + 1 := ti_add rfl (rfl : (1 : Int32).toInt = 1) (by omega) (by omega)
        exact hK25 _ _ _ _ _ _ _ hS (by omega) (by omega) (by omega) (by omega) (by omega) (by omega) (by omega)
      · have h16 : ¬ ((d 234 (((4 : Int32) * x2) + (x5 / 4)).toNatClampNeg).toInt = (-1)) := fun q => h16 ((i_eq t_15 (rfl : ((-1) : Int32).toInt = (-1))).mpr q)
        refine ⟨fun h17 => ?_, fun h17 => ?_⟩
        · have h17 : (d 234 (((4 : Int32) * x3) + (irem x5 4)).toNatClampNeg).toInt = (-1) := (i_eq t_20 (rfl : ((-1) : Int32).toInt = (-1))).mp h17
          have t_22 : (x5 + 1).toInt = x5.toInt + 1 := ti_add rfl (rfl : (1 : Int32).toInt = 1) (by omega) (by omega)
          exact hK25 _ _ _ _ _ _ _ hS (by omega) (by omega) (by omega) (by omega) (by omega) (by omega) (by omega)
        · have h17 : ¬ ((d 234 (((4 : Int32) * x3) + (irem x5 4)).toNatClampNeg).toInt = (-1)) := fun q => h17 ((i_eq t_20 (rfl : ((-1) : Int32).toInt = (-1))).mpr q)
          refine sp_X10_haveCommon hn hS.1 ⟨by rw [t_15]; omega, by rw [t_15]; omega⟩ ⟨by rw [t_20]; omega, by rw [t_20]; omega⟩ (fun r18 d19 l20 ⟨p_23, u_24⟩ => ?_)
          have s_25 : Sq e el d19 l20 := hS.tr p_23
          have w_26 : d19 = d := p_23.2.1
          replace u_24 : (0 ≤ r18.toInt ∧ r18.toInt ≤ 1) := u_24
          refine ⟨fun h21 => ?_, fun h21 => ?_⟩
          · have h21 : r18.toInt = 0 := (i_eq rfl (rfl : (0 : Int32).toInt = 0)).mp h21
            have t_27 : (x5 + 1).toInt = x5.toInt + 1 := ti_add rfl (rfl : (1 : Int32).toInt = 1) (by omega) (by omega)
            exact hK25 _ _ _ _ _ _ _ s_25 (by omega) (by omega) (by omega) (by omega) (by omega) (by omega) (by omega)
          · have h21 : ¬ (r18.toInt = 0) := fun q => h21 ((i_eq rfl (rfl : (0 : Int32).toInt = 0)).mpr q)
            have t_28 : (x5 + 1).toInt = x5.toInt + 1 := ti_add rfl (rfl : (1 : Int32).toInt = 1) (by omega) (by omega)
            exact hK25 _ _ _ _ _ _ _ s_25 (by omega) (by omega) (show 0 ≤ 1 ∧ 1 ≤ 1 from by omega) (by omega) (by omega) (by omega) (by omega)
set_option maxHeartbeats 4000000 in
set_option maxRecDepth 100000 in
theorem sb_X10_slack_14 {n : Nat} (hn : 1000000000 ≤ n) {e : DD} {el : LL} {Q : Int32 → DD → LL → Prop} (hQ : ∀ (r : Int32) (d2 : DD) (l2 : LL), Sq e el d2 l2 ∧ (True) → Q r d2 l2) {K4 : Int32 → Int32 → DD → LL → Prop} {j4 : Nat} (hK4 : ∀ (x1 : Int32) (x2 : Int32) (d : DD) (dl : LL), Sq e el d dl → (0 ≤ x2.toInt ∧ x2.toInt ≤ 24) → 25 - x2.toInt < (j4 : Int) → K4 x1 x2 d dl) : ∀ (j14 : Nat) (x1 : Int32) (x2 : Int32) (x3 : Int32) (d : DD) (dl : LL), Sq e el d dl → (0 ≤ x2.toInt ∧ x2.toInt ≤ 23) → (0 ≤ x3.toInt ∧ x3.toInt ≤ 24) → 25 - x2.toInt ≤ (j4 : Int) → 25 - x3.toInt < (j14 : Int) → b_X10_slack_14 n Q K4 j14 x1 x2 x3 d dl := by
  intro j14
  induction j14 with
  | zero =>
    intro x1 x2 x3 d dl hS bx2 bx3 hm4 hm14
    exfalso
    omega
  | succ j14 hK14 =>
    intro x1 x2 x3 d dl hS bx2 bx3 hm4 hm14
    show (x2 ≤ x3 → K4 x1 (x2 + 1) d dl) ∧ (¬ x2 ≤ x3 → b_X10_slack_25 n Q K4 (b_X10_slack_14 n Q K4 j14) n x1 x2 x3 0 0 d dl)
    refine ⟨fun h2 => ?_, fun h2 => ?_⟩
    · have h2 : x2.toInt ≤ x3.toInt := (i_le rfl rfl).mp h2
      have t_29 : (x2 + 1).toInt = x2.toInt + 1 := ti_add rfl (rfl : (1 : Int32).toInt = 1) (by omega) (by omega)
      exact hK4 _ _ _ _ hS (by omega) (by omega)
    · have h2 : ¬ (x2.toInt ≤ x3.toInt) := fun q => h2 ((i_le rfl rfl).mpr q)
      exact sb_X10_slack_25 hn hQ hK4 hK14 n _ _ _ _ _ _ _ hS (by omega) (by omega) (show 0 ≤ 0 ∧ 0 ≤ 1 from by omega) (show 0 ≤ 0 ∧ 0 ≤ 16 from by omega) (by omega) (by omega) (show 17 - 0 < (n : Int) from by omega)
set_option maxHeartbeats 4000000 in
set_option maxRecDepth 100000 in
theorem sb_X10_slack_4 {n : Nat} (hn : 1000000000 ≤ n) {e : DD} {el : LL} {Q : Int32 → DD → LL → Prop} (hQ : ∀ (r : Int32) (d2 : DD) (l2 : LL), Sq e el d2 l2 ∧ (True) → Q r d2 l2) : ∀ (j4 : Nat) (x1 : Int32) (x2 : Int32) (d : DD) (dl : LL), Sq e el d dl → (0 ≤ x2.toInt ∧ x2.toInt ≤ 24) → 25 - x2.toInt < (j4 : Int) → b_X10_slack_4 n Q j4 x1 x2 d dl := by
  intro j4
  induction j4 with
  | zero =>
    intro x1 x2 d dl hS bx2 hm4
    exfalso
    omega
  | succ j4 hK4 =>
    intro x1 x2 d dl hS bx2 hm4
    show ((d 211 3) ≤ x2 → Q x1 d dl) ∧ (¬ (d 211 3) ≤ x2 → b_X10_slack_14 n Q (b_X10_slack_4 n Q j4) n x1 x2 0 d dl)
    have m_30 := iv_211_3 hS.1
    refine ⟨fun h1 => ?_, fun h1 => ?_⟩
    · have h1 : (d 211 3).toInt ≤ x2.toInt := (i_le rfl rfl).mp h1
      exact hQ _ _ _ ⟨hS, trivial⟩
    · have h1 : ¬ ((d 211 3).toInt ≤ x2.toInt) := fun q => h1 ((i_le rfl rfl).mpr q)
      exact sb_X10_slack_14 hn hQ hK4 n _ _ _ _ _ hS (by omega) (show 0 ≤ 0 ∧ 0 ≤ 24 from by omega) (by omega) (show 25 - 0 < (n : Int) from by omega)
set_option maxHeartbeats 4000000 in
set_option maxRecDepth 100000 in
theorem sp_X10_slack {n : Nat} (hn : 1000000000 ≤ n) {d : DD} {dl : LL} (hI : Inv d) {Q : Int32 → DD → LL → Prop} (hQ : ∀ (r : Int32) (d2 : DD) (l2 : LL), Sq d dl d2 l2 ∧ (True) → Q r d2 l2) : F_X10_slack n d dl Q := by
  obtain ⟨e, he⟩ : ∃ e : DD, e = d := ⟨_, rfl⟩
  obtain ⟨el, hel⟩ : ∃ el : LL, el = dl := ⟨_, rfl⟩
  have hS : Sq e el d dl := by rw [he, hel]; exact Sq.rf hI
  rw [← he, ← hel] at hQ
  show b_X10_slack_4 n Q n (-1) 0 d dl
  exact sb_X10_slack_4 hn hQ n _ _ _ _ hS (show 0 ≤ 0 ∧ 0 ≤ 24 from by omega) (show 25 - 0 < (n : Int) from by omega)
set_option maxHeartbeats 4000000 in
set_option maxRecDepth 100000 in
theorem sb_X10_leastTime_61 {n : Nat} (hn : 1000000000 ≤ n) {e : DD} {el : LL} {Q : Int32 → DD → LL → Prop} (hQ : ∀ (r : Int32) (d2 : DD) (l2 : LL), Sq e el d2 l2 ∧ (True) → Q r d2 l2) {K5 : Int32 → Int32 → Int32 → Int32 → DD → LL → Prop} {j5 : Nat} (hK5 : ∀ (x1 : Int32) (x2 : Int32) (x3 : Int32) (x4 : Int32) (d : DD) (dl : LL), Sq e el d dl → (0 ≤ x2.toInt ∧ x2.toInt ≤ 3) → (0 ≤ x4.toInt ∧ x4.toInt ≤ 24) → 25 - x4.toInt < (j5 : Int) → K5 x1 x2 x3 x4 d dl) : ∀ (x1 : Int32) (x2 : Int32) (x4 : Int32) (x5 : Int32) (d : DD) (dl : LL), Sq e el d dl → (0 ≤ x2.toInt ∧ x2.toInt ≤ 3) → (0 ≤ x4.toInt ∧ x4.toInt ≤ 23) → 25 - x4.toInt ≤ (j5 : Int) → b_X10_leastTime_61 n Q K5 x1 x2 x4 x5 d dl := by
  intro x1 x2 x4 x5 d dl hS bx2 bx4 hm5
  show K5 x1 x2 x5 (x4 + 1) d dl
  have t_1 : (x4 + 1).toInt = x4.toInt + 1 := ti_add rfl (rfl : (1 : Int32).toInt = 1) (by omega) (by omega)
  exact hK5 _ _ _ _ _ _ hS (by omega) (by omega) (by omega)
set_option maxHeartbeats 4000000 in
set_option maxRecDepth 100000 in
theorem sb_X10_leastTime_44 {n : Nat} (hn : 1000000000 ≤ n) {e : DD} {el : LL} {Q : Int32 → DD → LL → Prop} (hQ : ∀ (r : Int32) (d2 : DD) (l2 : LL), Sq e el d2 l2 ∧ (True) → Q r d2 l2) {K5 : Int32 → Int32 → Int32 → Int32 → DD → LL → Prop} {j5 : Nat} (hK5 : ∀ (x1 : Int32) (x2 : Int32) (x3 : Int32) (x4 : Int32) (d : DD) (dl : LL), Sq e el d dl → (0 ≤ x2.toInt ∧ x2.toInt ≤ 3) → (0 ≤ x4.toInt ∧ x4.toInt ≤ 24) → 25 - x4.toInt < (j5 : Int) → K5 x1 x2 x3 x4 d dl) : ∀ (x1 : Int32) (x2 : Int32) (x3 : Int32) (x4 : Int32) (xs0 : Int32) (d : DD) (dl : LL), Sq e el d dl → (0 ≤ x2.toInt ∧ x2.toInt ≤ 3) → (0 ≤ x4.toInt ∧ x4.toInt ≤ 23) → 25 - x4.toInt ≤ (j5 : Int) → b_X10_leastTime_44 n Q K5 x1 x2 x3 x4 xs0 d dl := by
  intro x1 x2 x3 x4 xs0 d dl hS bx2 bx4 hm5
  show (xs0 ≤ 0 → K5 x1 x2 x3 (x4 + 1) d dl) ∧ (¬ xs0 ≤ 0 → (x3 = 0 → b_X10_leastTime_61 n Q K5 x1 x2 x4 xs0 d dl) ∧ (¬ x3 = 0 → (x3 ≤ xs0 → K5 x1 x2 x3 (x4 + 1) d dl) ∧ (¬ x3 ≤ xs0 → b_X10_leastTime_61 n Q K5 x1 x2 x4 xs0 d dl)))
  refine ⟨fun h4 => ?_, fun h4 => ?_⟩
  · have h4 : xs0.toInt ≤ 0 := (i_le rfl (rfl : (0 : Int32).toInt = 0)).mp h4
    have t_2 : (x4 + 1).toInt = x4.toInt + 1 := ti_add rfl (rfl : (1 : Int32).toInt = 1) (by omega) (by omega)
    exact hK5 _ _ _ _ _ _ hS (by omega) (by omega) (by omega)
  · have h4 : ¬ (xs0.toInt ≤ 0) := fun q => h4 ((i_le rfl (rfl : (0 : Int32).toInt = 0)).mpr q)
    refine ⟨fun h5 => ?_, fun h5 => ?_⟩
    · have h5 : x3.toInt = 0 := (i_eq rfl (rfl : (0 : Int32).toInt = 0)).mp h5
      exact sb_X10_leastTime_61 hn hQ hK5 _ _ _ _ _ _ hS (by omega) (by omega) (by omega)
    · have h5 : ¬ (x3.toInt = 0) := fun q => h5 ((i_eq rfl (rfl : (0 : Int32).toInt = 0)).mpr q)
      refine ⟨fun h6 => ?_, fun h6 => ?_⟩
      · have h6 : x3.toInt ≤ xs0.toInt := (i_le rfl rfl).mp h6
        have t_3 : (x4 + 1).toInt = x4.toInt + 1 := ti_add rfl (rfl : (1 : Int32).toInt = 1) (by omega) (by omega)
        exact hK5 _ _ _ _ _ _ hS (by omega) (by omega) (by omega)
      · have h6 : ¬ (x3.toInt ≤ xs0.toInt) := fun q => h6 ((i_le rfl rfl).mpr q)
        exact sb_X10_leastTime_61 hn hQ hK5 _ _ _ _ _ _ hS (by omega) (by omega) (by omega)
set_option maxHeartbeats 4000000 in
set_option maxRecDepth 100000 in
theorem sb_X10_leastTime_5 {n : Nat} (hn : 1000000000 ≤ n) {e : DD} {el : LL} {Q : Int32 → DD → LL → Prop} (hQ : ∀ (r : Int32) (d2 : DD) (l2 : LL), Sq e el d2 l2 ∧ (True) → Q r d2 l2) : ∀ (j5 : Nat) (x1 : Int32) (x2 : Int32) (x3 : Int32) (x4 : Int32) (d : DD) (dl : LL), Sq e el d dl → (0 ≤ x2.toInt ∧ x2.toInt ≤ 3) → (0 ≤ x4.toInt ∧ x4.toInt ≤ 24) → 25 - x4.toInt < (j5 : Int) → b_X10_leastTime_5 n Q j5 x1 x2 x3 x4 d dl := by
  intro j5
  induction j5 with
  | zero =>
    intro x1 x2 x3 x4 d dl hS bx2 bx4 hm5
    exfalso
    omega
  | succ j5 hK5 =>
    intro x1 x2 x3 x4 d dl hS bx2 bx4 hm5
    show ((d 211 3) ≤ x4 → Q x3 d dl) ∧ (¬ (d 211 3) ≤ x4 → vp_in (((4 : Int32) * x4) + x2) 96 ∧ (¬ (d 234 (((4 : Int32) * x4) + x2).toNatClampNeg) = x1 → b_X10_leastTime_44 n Q (b_X10_leastTime_5 n Q j5) x1 x2 x3 x4 0 d dl) ∧ ((d 234 (((4 : Int32) * x4) + x2).toNatClampNeg) = x1 → vp_in (((4 : Int32) * x4) + x2) 96 ∧ b_X10_leastTime_44 n Q (b_X10_leastTime_5 n Q j5) x1 x2 x3 x4 (d 235 (((4 : Int32) * x4) + x2).toNatClampNeg) d dl))
    have m_4 := iv_211_3 hS.1
    refine ⟨fun h1 => ?_, fun h1 => ?_⟩
    · have h1 : (d 211 3).toInt ≤ x4.toInt := (i_le rfl rfl).mp h1
      exact hQ _ _ _ ⟨hS, trivial⟩
    · have h1 : ¬ ((d 211 3).toInt ≤ x4.toInt) := fun q => h1 ((i_le rfl rfl).mpr q)
      have t_5 : ((4 : Int32) * x4).toInt = 4 * x4.toInt := ti_mul (rfl : (4 : Int32).toInt = 4) rfl (by omega) (by omega)
      have t_6 : (((4 : Int32) * x4) + x2).toInt = (4 * x4.toInt) + x2.toInt := ti_add t_5 rfl (by omega) (by omega)
      have ih2 : vp_in (((4 : Int32) * x4) + x2) 96 := vin t_6 (by omega) (by omega)
      refine ⟨ih2, ?_⟩
      have m_7 := iv_234 hS.1 ((((4 : Int32) * x4) + x2).toNatClampNeg)
      refine ⟨fun h3 => ?_, fun h3 => ?_⟩
      · have h3 : ¬ ((d 234 (((4 : Int32) * x4) + x2).toNatClampNeg).toInt = x1.toInt) := fun q => h3 ((i_eq rfl rfl).mpr q)
        exact sb_X10_leastTime_44 hn hQ hK5 _ _ _ _ _ _ _ hS (by omega) (by omega) (by omega)
      · have h3 : (d 234 (((4 : Int32) * x4) + x2).toNatClampNeg).toInt = x1.toInt := (i_eq rfl rfl).mp h3
        have ih7 : vp_in (((4 : Int32) * x4) + x2) 96 := vin t_6 (by omega) (by omega)
        refine ⟨ih7, ?_⟩
        exact sb_X10_leastTime_44 hn hQ hK5 _ _ _ _ _ _ _ hS (by omega) (by omega) (by omega)
set_option maxHeartbeats 4000000 in
set_option maxRecDepth 100000 in
theorem sp_X10_leastTime {n : Nat} (hn : 1000000000 ≤ n) {x1 : Int32} {x2 : Int32} {d : DD} {dl : LL} (hI : Inv d) (bx2 : 0 ≤ x2.toInt ∧ x2.toInt ≤ 3) {Q : Int32 → DD → LL → Prop} (hQ : ∀ (r : Int32) (d2 : DD) (l2 : LL), Sq d dl d2 l2 ∧ (True) → Q r d2 l2) : F_X10_leastTime n x1 x2 d dl Q := by
  obtain ⟨e, he⟩ : ∃ e : DD, e = d := ⟨_, rfl⟩
  obtain ⟨el, hel⟩ : ∃ el : LL, el = dl := ⟨_, rfl⟩
  have hS : Sq e el d dl := by rw [he, hel]; exact Sq.rf hI
  rw [← he, ← hel] at hQ
  show b_X10_leastTime_5 n Q n x1 x2 0 0 d dl
  exact sb_X10_leastTime_5 hn hQ n _ _ _ _ _ _ hS (by omega) (show 0 ≤ 0 ∧ 0 ≤ 24 from by omega) (show 25 - 0 < (n : Int) from by omega)
set_option maxHeartbeats 4000000 in
set_option maxRecDepth 100000 in
theorem sp_X10_worth {n : Nat} (hn : 1000000000 ≤ n) {x0 : Int32} {d : DD} {dl : LL} (hI : Inv d) {Q : Int32 → DD → LL → Prop} (hQ : ∀ (r : Int32) (d2 : DD) (l2 : LL), Sq d dl d2 l2 ∧ (True) → Q r d2 l2) : F_X10_worth n x0 d dl Q := by
  obtain ⟨e, he⟩ : ∃ e : DD, e = d := ⟨_, rfl⟩
  obtain ⟨el, hel⟩ : ∃ el : LL, el = dl := ⟨_, rfl⟩
  have hS : Sq e el d dl := by rw [he, hel]; exact Sq.rf hI
  rw [← he, ← hel] at hQ
  show (¬ x0 = 1 → (¬ x0 = 2 → (7 ≤ x0 → Q 0 d dl) ∧ (¬ 7 ≤ x0 → Q ((9 : Int32) - x0) d dl)) ∧ (x0 = 2 → Q 8 d dl)) ∧ (x0 = 1 → Q 10 d dl)
  refine ⟨fun h1 => ?_, fun h1 => ?_⟩
  · have h1 : ¬ (x0.toInt = 1) := fun q => h1 ((i_eq rfl (rfl : (1 : Int32).toInt = 1)).mpr q)
    refine ⟨fun h2 => ?_, fun h2 => ?_⟩
    · have h2 : ¬ (x0.toInt = 2) := fun q => h2 ((i_eq rfl (rfl : (2 : Int32).toInt = 2)).mpr q)
      refine ⟨fun h3 => ?_, fun h3 => ?_⟩
      · have h3 : 7 ≤ x0.toInt := (i_le (rfl : (7 : Int32).toInt = 7) rfl).mp h3
        exact hQ _ _ _ ⟨hS, trivial⟩
      · have h3 : ¬ (7 ≤ x0.toInt) := fun q => h3 ((i_le (rfl : (7 : Int32).toInt = 7) rfl).mpr q)
        exact hQ _ _ _ ⟨hS, trivial⟩
    · have h2 : x0.toInt = 2 := (i_eq rfl (rfl : (2 : Int32).toInt = 2)).mp h2
      exact hQ _ _ _ ⟨hS, trivial⟩
  · have h1 : x0.toInt = 1 := (i_eq rfl (rfl : (1 : Int32).toInt = 1)).mp h1
    exact hQ _ _ _ ⟨hS, trivial⟩
