set_option maxHeartbeats 4000000 in
set_option maxRecDepth 100000 in
theorem sp_X8_weigh {n : Nat} (hn : 1000000000 ≤ n) {k2 : Nat} {d : DD} {dl : LL} (hI : Inv d) (hk2 : k2 < 6) {Q : DD → LL → Prop} (hQ : ∀ (d2 : DD) (l2 : LL), St d dl d2 l2 ∧ True → Q d2 l2) : F_X8_weigh n k2 d dl Q := by
  obtain ⟨e, he⟩ : ∃ e : DD, e = d := ⟨_, rfl⟩
  obtain ⟨el, hel⟩ : ∃ el : LL, el = dl := ⟨_, rfl⟩
  have hS : St e el d dl := by rw [he, hel]; exact St.rf hI
  rw [← he, ← hel] at hQ
  show F_X1_drummerPitch n k2 d dl (fun r1 d2 l3 => ∀ d4 : DD, d4 = u2 d2 9 2 0 → ∀ d5 : DD, d5 = u2 d4 9 3 0 → b_X8_weigh_21 n Q n k2 0 r1 0 d5 l3)
  refine sp_X1_drummerPitch hn hS.1 hk2 (fun r1 d2 l3 ⟨p_31, u_32⟩ => ?_)
  have s_33 : St e el d2 l3 := hS.sq p_31
  have w_34 : d2 = d := p_31.2.1
  intro d4 ed4
  have s_35 : St e el d4 l3 := by rw [ed4]; exact pv_9_2 s_33
  intro d5 ed5
  have s_36 : St e el d5 l3 := by rw [ed5]; exact pv_9_3 s_35
  exact sb_X8_weigh_21 hn hQ n _ _ _ _ hk2 _ _ s_36 (show 0 ≤ 0 ∧ 0 ≤ 4 from by omega) (show 5 - 0 < (n : Int) from by omega)
set_option maxHeartbeats 4000000 in
set_option maxRecDepth 100000 in
theorem sp_X9_trim {n : Nat} (hn : 1000000000 ≤ n) {x1 : Int32} {x2 : Int32} {d : DD} {dl : LL} (hI : Inv d) {Q : Int32 → DD → LL → Prop} (hQ : ∀ (r : Int32) (d2 : DD) (l2 : LL), St d dl d2 l2 ∧ (True) → Q r d2 l2) : F_X9_trim n x1 x2 d dl Q := by
  obtain ⟨e, he⟩ : ∃ e : DD, e = d := ⟨_, rfl⟩
  obtain ⟨el, hel⟩ : ∃ el : LL, el = dl := ⟨_, rfl⟩
  have hS : St e el d dl := by rw [he, hel]; exact St.rf hI
  rw [← he, ← hel] at hQ
  show F_X9_isCrew n x1 d dl (fun r1 d2 l3 => (r1 = 0 → Q (-1) d2 l3) ∧ (¬ r1 = 0 → F_X9_within n x2 0 3 d2 l3 (fun r5 d6 l7 => (¬ r5 = 0 → vp_in x1 6 ∧ ∀ k10 : Nat, k10 = x1.toNatClampNeg → (¬ (d6 (37 + 3 * k10) 6) = 0 → vp_in x1 6 ∧ ∀ k13 : Nat, k13 = x1.toNatClampNeg → F_X8_weigh n k13 d6 l7 (fun d15 l16 => (x2 = 0 → Q (d15 9 0) d15 l16) ∧ (x2 = 1 → Q (d15 9 1) d15 l16) ∧ (x2 = 2 → Q (d15 9 2) d15 l16) ∧ (x2.toInt < 0 ∨ 2 < x2.toInt → Q (d15 9 3) d15 l16))) ∧ ((d6 (37 + 3 * k10) 6) = 0 → Q (-3) d6 l7)) ∧ (r5 = 0 → Q (-1) d6 l7))))
  refine sp_X9_isCrew hn hS.1 (fun r1 d2 l3 ⟨p_1, u_2⟩ => ?_)
  have s_3 : St e el d2 l3 := hS.sq p_1
  have w_4 : d2 = d := p_1.2.1
  replace u_2 : (0 ≤ r1.toInt ∧ r1.toInt ≤ 1 ∧ ((r1.toInt = 1 ∧ 0 ≤ x1.toInt ∧ x1.toInt < (d 0 2).toInt) ∨ (r1.toInt = 0 ∧ ¬ (0 ≤ x1.toInt ∧ x1.toInt < (d 0 2).toInt)))) := u_2
  have m_5 := iv_0_2 hS.1
  refine ⟨fun h4 => ?_, fun h4 => ?_⟩
  · have h4 : r1.toInt = 0 := (i_eq rfl (rfl : (0 : Int32).toInt = 0)).mp h4
    exact hQ _ _ _ ⟨s_3, trivial⟩
  · have h4 : ¬ (r1.toInt = 0) := fun q => h4 ((i_eq rfl (rfl : (0 : Int32).toInt = 0)).mpr q)
    refine sp_X9_within hn s_3.1 (fun r5 d6 l7 ⟨p_6, u_7⟩ => ?_)
    have s_8 : St e el d6 l7 := s_3.sq p_6
    have w_9 : d6 = d2 := p_6.2.1
    replace u_7 : (0 ≤ r5.toInt ∧ r5.toInt ≤ 1 ∧ ((r5.toInt = 1 ∧ 0 ≤ x2.toInt ∧ x2.toInt ≤ 3) ∨ (r5.toInt = 0 ∧ ¬ (0 ≤ x2.toInt ∧ x2.toInt ≤ 3)))) := u_7
    refine ⟨fun h8 => ?_, fun h8 => ?_⟩
    · have h8 : ¬ (r5.toInt = 0) := fun q => h8 ((i_eq rfl (rfl : (0 : Int32).toInt = 0)).mpr q)
      have ih9 : vp_in x1 6 := vin rfl (by omega) (by omega)
      refine ⟨ih9, ?_⟩
      intro k10 ek10
      have hk10 : k10 < 6 := by rw [ek10]; exact clamp_in ih9
      have q_10 : d6 (37 + 3 * k10) 6 = (d (37 + 3 * k10) 6) := by rw [w_9]; rw [w_4]
      have m_11 := iv_37_6 hS.1 hk10
      have t_12 : (d6 (37 + 3 * k10) 6).toInt = (d (37 + 3 * k10) 6).toInt := (congrArg Int32.toInt q_10).trans rfl
      refine ⟨fun h11 => ?_, fun h11 => ?_⟩
      · have h11 : ¬ ((d (37 + 3 * k10) 6).toInt = 0) := fun q => h11 ((i_eq t_12 (rfl : (0 : Int32).toInt = 0)).mpr q)
        have ih12 : vp_in x1 6 := vin rfl (by omega) (by omega)
        refine ⟨ih12, ?_⟩
        intro k13 ek13
        have hk13 : k13 < 6 := by rw [ek13]; exact clamp_in ih12
        refine sp_X8_weigh hn s_8.1 hk13 (fun d15 l16 ⟨p_13, u_14⟩ => ?_)
        have s_15 : St e el d15 l16 := s_8.tr p_13
        refine ⟨fun h17 => ?_, fun h17 => ?_, fun h17 => ?_, fun h17 => ?_⟩
        · have h17 : x2.toInt = 0 := (i_eq rfl (rfl : (0 : Int32).toInt = 0)).mp h17
          exact hQ _ _ _ ⟨s_15, trivial⟩
        · have h17 : x2.toInt = 1 := (i_eq rfl (rfl : (1 : Int32).toInt = 1)).mp h17
          exact hQ _ _ _ ⟨s_15, trivial⟩
        · have h17 : x2.toInt = 2 := (i_eq rfl (rfl : (2 : Int32).toInt = 2)).mp h17
          exact hQ _ _ _ ⟨s_15, trivial⟩
        · have _ := hn
          exact hQ _ _ _ ⟨s_15, trivial⟩
      · have h11 : (d (37 + 3 * k10) 6).toInt = 0 := (i_eq t_12 (rfl : (0 : Int32).toInt = 0)).mp h11
        exact hQ _ _ _ ⟨s_8, trivial⟩
    · have h8 : r5.toInt = 0 := (i_eq rfl (rfl : (0 : Int32).toInt = 0)).mp h8
      exact hQ _ _ _ ⟨s_8, trivial⟩
set_option maxHeartbeats 4000000 in
set_option maxRecDepth 100000 in
theorem sp_X4_maySit {n : Nat} (hn : 1000000000 ≤ n) {x1 : Int32} {x2 : Int32} {d : DD} {dl : LL} (hI : Inv d) (bx1 : 0 ≤ x1.toInt ∧ x1.toInt ≤ 39) {Q : Int32 → DD → LL → Prop} (hQ : ∀ (r : Int32) (d2 : DD) (l2 : LL), Sq d dl d2 l2 ∧ (0 ≤ r.toInt ∧ r.toInt ≤ 1) → Q r d2 l2) : F_X4_maySit n x1 x2 d dl Q := by
  obtain ⟨e, he⟩ : ∃ e : DD, e = d := ⟨_, rfl⟩
  obtain ⟨el, hel⟩ : ∃ el : LL, el = dl := ⟨_, rfl⟩
  have hS : Sq e el d dl := by rw [he, hel]; exact Sq.rf hI
  rw [← he, ← hel] at hQ
  show vp_in x1 40 ∧ ((d 4 x1.toNatClampNeg) = ((1 : Int32) - x2) → Q 0 d dl) ∧ (¬ (d 4 x1.toNatClampNeg) = ((1 : Int32) - x2) → Q 1 d dl)
  have ih1 : vp_in x1 40 := vin rfl (by omega) (by omega)
  refine ⟨ih1, ?_⟩
  have m_1 := iv_4 hS.1 (x1.toNatClampNeg)
  refine ⟨fun h2 => ?_, fun h2 => ?_⟩
  · have h2 : (d 4 x1.toNatClampNeg).toInt = ((1 : Int32) - x2).toInt := (i_eq rfl rfl).mp h2
    exact hQ _ _ _ ⟨hS, (show (0 ≤ 0 ∧ 0 ≤ 1) from by omega)⟩
  · have h2 : ¬ ((d 4 x1.toNatClampNeg).toInt = ((1 : Int32) - x2).toInt) := fun q => h2 ((i_eq rfl rfl).mpr q)
    exact hQ _ _ _ ⟨hS, (show (0 ≤ 1 ∧ 1 ≤ 1) from by omega)⟩
set_option maxHeartbeats 4000000 in
set_option maxRecDepth 100000 in
theorem sp_X8_tilt {n : Nat} (hn : 1000000000 ≤ n) {d : DD} {dl : LL} (hI : Inv d) {Q : Int32 → DD → LL → Prop} (hQ : ∀ (r : Int32) (d2 : DD) (l2 : LL), Sq d dl d2 l2 ∧ (True) → Q r d2 l2) : F_X8_tilt n d dl Q := by
  obtain ⟨e, he⟩ : ∃ e : DD, e = d := ⟨_, rfl⟩
  obtain ⟨el, hel⟩ : ∃ el : LL, el = dl := ⟨_, rfl⟩
  have hS : Sq e el d dl := by rw [he, hel]; exact Sq.rf hI
  rw [← he, ← hel] at hQ
  show Q (((((4 : Int32) * (d 9 0)) + (d 9 1)) - (d 9 2)) - ((20 : Int32) * (d 9 3))) d dl
  exact hQ _ _ _ ⟨hS, trivial⟩
set_option maxHeartbeats 4000000 in
set_option maxRecDepth 100000 in
theorem sp_X7_wordOf {n : Nat} (hn : 1000000000 ≤ n) {x0 : Int32} {d : DD} {dl : LL} (hI : Inv d) (bx0 : 0 ≤ x0.toInt ∧ x0.toInt ≤ 8) {Q : Nat → DD → LL → Prop} (hQ : ∀ (r : Nat) (d2 : DD) (l2 : LL), Sq d dl d2 l2 ∧ r < 19 → Q r d2 l2) : F_X7_wordOf n x0 d dl Q := by
  obtain ⟨e, he⟩ : ∃ e : DD, e = d := ⟨_, rfl⟩
  obtain ⟨el, hel⟩ : ∃ el : LL, el = dl := ⟨_, rfl⟩
  have hS : Sq e el d dl := by rw [he, hel]; exact Sq.rf hI
  rw [← he, ← hel] at hQ
  show (x0 = 0 → Q 0 d dl) ∧ (x0 = 1 → Q 1 d dl) ∧ (x0 = 2 → Q 2 d dl) ∧ (x0 = 3 → Q 3 d dl) ∧ (x0 = 4 → Q 4 d dl) ∧ (x0 = 5 → Q 5 d dl) ∧ (x0 = 6 → Q 6 d dl) ∧ (x0 = 7 → Q 7 d dl) ∧ (x0.toInt < 0 ∨ 7 < x0.toInt → Q 8 d dl)
  refine ⟨fun h1 => ?_, fun h1 => ?_, fun h1 => ?_, fun h1 => ?_, fun h1 => ?_, fun h1 => ?_, fun h1 => ?_, fun h1 => ?_, fun h1 => ?_⟩
  · have h1 : x0.toInt = 0 := (i_eq rfl (rfl : (0 : Int32).toInt = 0)).mp h1
    exact hQ _ _ _ ⟨hS, (Nat.le_of_ble_eq_true rfl)⟩
  · have h1 : x0.toInt = 1 := (i_eq rfl (rfl : (1 : Int32).toInt = 1)).mp h1
    exact hQ _ _ _ ⟨hS, (Nat.le_of_ble_eq_true rfl)⟩
  · have h1 : x0.toInt = 2 := (i_eq rfl (rfl : (2 : Int32).toInt = 2)).mp h1
    exact hQ _ _ _ ⟨hS, (Nat.le_of_ble_eq_true rfl)⟩
  · have h1 : x0.toInt = 3 := (i_eq rfl (rfl : (3 : Int32).toInt = 3)).mp h1
    exact hQ _ _ _ ⟨hS, (Nat.le_of_ble_eq_true rfl)⟩
  · have h1 : x0.toInt = 4 := (i_eq rfl (rfl : (4 : Int32).toInt = 4)).mp h1
    exact hQ _ _ _ ⟨hS, (Nat.le_of_ble_eq_true rfl)⟩
  · have h1 : x0.toInt = 5 := (i_eq rfl (rfl : (5 : Int32).toInt = 5)).mp h1
    exact hQ _ _ _ ⟨hS, (Nat.le_of_ble_eq_true rfl)⟩
  · have h1 : x0.toInt = 6 := (i_eq rfl (rfl : (6 : Int32).toInt = 6)).mp h1
    exact hQ _ _ _ ⟨hS, (Nat.le_of_ble_eq_true rfl)⟩
  · have h1 : x0.toInt = 7 := (i_eq rfl (rfl : (7 : Int32).toInt = 7)).mp h1
    exact hQ _ _ _ ⟨hS, (Nat.le_of_ble_eq_true rfl)⟩
  · have _ := hn
    exact hQ _ _ _ ⟨hS, (Nat.le_of_ble_eq_true rfl)⟩
set_option maxHeartbeats 4000000 in
set_option maxRecDepth 100000 in
theorem sp_X7_peek {n : Nat} (hn : 1000000000 ≤ n) {d : DD} {dl : LL} (hI : Inv d) {Q : Int32 → DD → LL → Prop} (hQ : ∀ (r : Int32) (d2 : DD) (l2 : LL), Sq d dl d2 l2 ∧ ((r.toInt = -1 ∨ (d 24 1).toInt < (d 24 0).toInt)) → Q r d2 l2) : F_X7_peek n d dl Q := by
  obtain ⟨e, he⟩ : ∃ e : DD, e = d := ⟨_, rfl⟩
  obtain ⟨el, hel⟩ : ∃ el : LL, el = dl := ⟨_, rfl⟩
  have hS : Sq e el d dl := by rw [he, hel]; exact Sq.rf hI
  rw [← he, ← hel] at hQ
  show ((d 24 0) ≤ (d 24 1) → Q (-1) d dl) ∧ (¬ (d 24 0) ≤ (d 24 1) → vp_in (d 24 1) 120 ∧ Q (d 25 (d 24 1).toNatClampNeg) d dl)
  have hx0 : (e 24 1).toInt = (d 24 1).toInt := by rw [he]
  have hx1 : (e 24 0).toInt = (d 24 0).toInt := by rw [he]
  have m_1 := iv_24_1 hS.1
  have m_2 := iv_24_0 hS.1
  refine ⟨fun h1 => ?_, fun h1 => ?_⟩
  · have h1 : (d 24 0).toInt ≤ (d 24 1).toInt := (i_le rfl rfl).mp h1
    exact hQ _ _ _ ⟨hS, (show (((-1) = -1 ∨ (e 24 1).toInt < (e 24 0).toInt)) from by omega)⟩
  · have h1 : ¬ ((d 24 0).toInt ≤ (d 24 1).toInt) := fun q => h1 ((i_le rfl rfl).mpr q)
    have ih2 : vp_in (d 24 1) 120 := vin rfl (by omega) (by omega)
    refine ⟨ih2, ?_⟩
    exact hQ _ _ _ ⟨hS, by omega⟩
set_option maxHeartbeats 4000000 in
set_option maxRecDepth 100000 in
theorem sp_X7_readBlank {n : Nat} (hn : 1000000000 ≤ n) {d : DD} {dl : LL} (hI : Inv d) {Q : Int32 → DD → LL → Prop} (hQ : ∀ (r : Int32) (d2 : DD) (l2 : LL), St d dl d2 l2 ∧ (0 ≤ r.toInt ∧ r.toInt ≤ 1) → Q r d2 l2) : F_X7_readBlank n d dl Q := by
  obtain ⟨e, he⟩ : ∃ e : DD, e = d := ⟨_, rfl⟩
  obtain ⟨el, hel⟩ : ∃ el : LL, el = dl := ⟨_, rfl⟩
  have hS : St e el d dl := by rw [he, hel]; exact St.rf hI
  rw [← he, ← hel] at hQ
  show F_X7_peek n d dl (fun r1 d2 l3 => (r1 = 32 → ∀ d5 : DD, d5 = u2 d2 24 1 ((d2 24 1) + 1) → Q 1 d5 l3) ∧ (¬ r1 = 32 → Q 0 d2 l3))
  refine sp_X7_peek hn hS.1 (fun r1 d2 l3 ⟨p_1, u_2⟩ => ?_)
  have s_3 : St e el d2 l3 := hS.sq p_1
  have w_4 : d2 = d := p_1.2.1
  replace u_2 : ((r1.toInt = -1 ∨ (d 24 1).toInt < (d 24 0).toInt)) := u_2
  have m_5 := iv_24_1 hS.1
  have m_6 := iv_24_0 hS.1
  refine ⟨fun h4 => ?_, fun h4 => ?_⟩
  · have h4 : r1.toInt = 32 := (i_eq rfl (rfl : (32 : Int32).toInt = 32)).mp h4
    have q_7 : d2 24 1 = (d 24 1) := by rw [w_4]
    have t_8 : (d2 24 1).toInt = (d 24 1).toInt := (congrArg Int32.toInt q_7).trans rfl
    have t_9 : ((d2 24 1) + 1).toInt = (d 24 1).toInt + 1 := ti_add t_8 (rfl : (1 : Int32).toInt = 1) (by omega) (by omega)
    intro d5 ed5
    have s_10 : St e el d5 l3 := by rw [ed5]; exact pv_24_1 s_3 (by rw [t_9]; omega) (by rw [t_9]; omega)
    exact hQ _ _ _ ⟨s_10, (show (0 ≤ 1 ∧ 1 ≤ 1) from by omega)⟩
  · have h4 : ¬ (r1.toInt = 32) := fun q => h4 ((i_eq rfl (rfl : (32 : Int32).toInt = 32)).mpr q)
    exact hQ _ _ _ ⟨s_3, (show (0 ≤ 0 ∧ 0 ≤ 1) from by omega)⟩
set_option maxHeartbeats 4000000 in
set_option maxRecDepth 100000 in
theorem sb_X9_tallySeated_118 {n : Nat} (hn : 1000000000 ≤ n) {e : DD} {el : LL} {Q : DD → LL → Prop} (hQ : ∀ (d2 : DD) (l2 : LL), St e el d2 l2 ∧ True → Q d2 l2) {K23 : Nat → Int32 → DD → LL → Prop} {j23 : Nat} (hK23 : ∀ (k1 : Nat) (x2 : Int32) (hk1 : k1 < 6) (d : DD) (dl : LL), St e el d dl → (0 ≤ x2.toInt ∧ x2.toInt ≤ 8) → 9 - x2.toInt < (j23 : Int) → K23 k1 x2 d dl) : ∀ (k1 : Nat) (x2 : Int32) (x3 : Int32) (xs0 : Int32) (xs1 : Int32) (xs2 : Int32) (hk1 : k1 < 6) (d : DD) (dl : LL), St e el d dl → (0 ≤ x2.toInt ∧ x2.toInt ≤ 7) → (0 ≤ x3.toInt ∧ x3.toInt ≤ 39) → (0 ≤ xs0.toInt ∧ xs0.toInt ≤ 1) → (3 ≤ xs2.toInt ∧ xs2.toInt ≤ 3) → 9 - x2.toInt ≤ (j23 : Int) → b_X9_tallySeated_118 n Q K23 k1 x2 x3 xs0 xs1 xs2 d dl := by
  intro k1 x2 x3 xs0 xs1 xs2 hk1 d dl hS bx2 bx3 bxs0 bxs2 hm23
  show vp_in xs2 6 ∧ ∀ d22 : DD, d22 = u2 d 27 xs2.toNatClampNeg (xs1 + xs0) → vp_in x3 40 ∧ ∀ d26 : DD, d26 = u2 d22 27 (4 : Int32).toNatClampNeg ((d22 27 (4 : Int32).toNatClampNeg) + (d22 2 x3.toNatClampNeg)) → ∀ d29 : DD, d29 = u2 d26 27 (5 : Int32).toNatClampNeg ((d26 27 (5 : Int32).toNatClampNeg) + 1) → K23 k1 (x2 + 1) d29 dl
  have ih21 : vp_in xs2 6 := vin rfl (by omega) (by omega)
  refine ⟨ih21, ?_⟩
  intro d22 ed22
  have s_1 : St e el d22 dl := by rw [ed22]; exact pv_27 hS
  have ih24 : vp_in x3 40 := vin rfl (by omega) (by omega)
  refine ⟨ih24, ?_⟩
  intro d26 ed26
  have s_2 : St e el d26 dl := by rw [ed26]; exact pv_27 s_1
  intro d29 ed29
  have s_3 : St e el d29 dl := by rw [ed29]; exact pv_27 s_2
  have t_4 : (x2 + 1).toInt = x2.toInt + 1 := ti_add rfl (rfl : (1 : Int32).toInt = 1) (by omega) (by omega)
  exact hK23 _ _ hk1 _ _ s_3 (by omega) (by omega)
set_option maxHeartbeats 4000000 in
set_option maxRecDepth 100000 in
theorem sb_X9_tallySeated_90 {n : Nat} (hn : 1000000000 ≤ n) {e : DD} {el : LL} {Q : DD → LL → Prop} (hQ : ∀ (d2 : DD) (l2 : LL), St e el d2 l2 ∧ True → Q d2 l2) {K23 : Nat → Int32 → DD → LL → Prop} {j23 : Nat} (hK23 : ∀ (k1 : Nat) (x2 : Int32) (hk1 : k1 < 6) (d : DD) (dl : LL), St e el d dl → (0 ≤ x2.toInt ∧ x2.toInt ≤ 8) → 9 - x2.toInt < (j23 : Int) → K23 k1 x2 d dl) : ∀ (k1 : Nat) (x2 : Int32) (x3 : Int32) (xs0 : Int32) (xs1 : Int32) (xs2 : Int32) (hk1 : k1 < 6) (d : DD) (dl : LL), St e el d dl → (0 ≤ x2.toInt ∧ x2.toInt ≤ 7) → (0 ≤ x3.toInt ∧ x3.toInt ≤ 39) → (0 ≤ xs0.toInt ∧ xs0.toInt ≤ 1) → (2 ≤ xs2.toInt ∧ xs2.toInt ≤ 2) → 9 - x2.toInt ≤ (j23 : Int) → b_X9_tallySeated_90 n Q K23 k1 x2 x3 xs0 xs1 xs2 d dl := by
  intro k1 x2 x3 xs0 xs1 xs2 hk1 d dl hS bx2 bx3 bxs0 bxs2 hm23
  show vp_in xs2 6 ∧ ∀ d17 : DD, d17 = u2 d 27 xs2.toNatClampNeg (xs1 + xs0) → vp_in x3 40 ∧ (18 ≤ (d17 6 x3.toNatClampNeg) → b_X9_tallySeated_118 n Q K23 k1 x2 x3 0 (d17 27 (3 : Int32).toNatClampNeg) 3 d17 dl) ∧ (¬ 18 ≤ (d17 6 x3.toNatClampNeg) → b_X9_tallySeated_118 n Q K23 k1 x2 x3 1 (d17 27 (3 : Int32).toNatClampNeg) 3 d17 dl)
  have ih16 : vp_in xs2 6 := vin rfl (by omega) (by omega)
  refine ⟨ih16, ?_⟩
  intro d17 ed17
  have s_5 : St e el d17 dl := by rw [ed17]; exact pv_27 hS
  have ih19 : vp_in x3 40 := vin rfl (by omega) (by omega)
  refine ⟨ih19, ?_⟩
  have q_6 : d17 6 x3.toNatClampNeg = (d 6 x3.toNatClampNeg) := by rw [ed17, u2_row (by omega)]
  have m_7 := iv_6 hS.1 (x3.toNatClampNeg)
  have t_8 : (d17 6 x3.toNatClampNeg).toInt = (d 6 x3.toNatClampNeg).toInt := (congrArg Int32.toInt q_6).trans rfl
  refine ⟨fun h20 => ?_, fun h20 => ?_⟩
  · have h20 : 18 ≤ (d 6 x3.toNatClampNeg).toInt := (i_le (rfl : (18 : Int32).toInt = 18) t_8).mp h20
    exact sb_X9_tallySeated_118 hn hQ hK23 _ _ _ _ _ _ hk1 _ _ s_5 (by omega) (by omega) (show 0 ≤ 0 ∧ 0 ≤ 1 from by omega) (show 3 ≤ 3 ∧ 3 ≤ 3 from by omega) (by omega)
  · have h20 : ¬ (18 ≤ (d 6 x3.toNatClampNeg).toInt) := fun q => h20 ((i_le (rfl : (18 : Int32).toInt = 18) t_8).mpr q)
    exact sb_X9_tallySeated_118 hn hQ hK23 _ _ _ _ _ _ hk1 _ _ s_5 (by omega) (by omega) (show 0 ≤ 1 ∧ 1 ≤ 1 from by omega) (show 3 ≤ 3 ∧ 3 ≤ 3 from by omega) (by omega)
set_option maxHeartbeats 4000000 in
set_option maxRecDepth 100000 in
theorem sb_X9_tallySeated_59 {n : Nat} (hn : 1000000000 ≤ n) {e : DD} {el : LL} {Q : DD → LL → Prop} (hQ : ∀ (d2 : DD) (l2 : LL), St e el d2 l2 ∧ True → Q d2 l2) {K23 : Nat → Int32 → DD → LL → Prop} {j23 : Nat} (hK23 : ∀ (k1 : Nat) (x2 : Int32) (hk1 : k1 < 6) (d : DD) (dl : LL), St e el d dl → (0 ≤ x2.toInt ∧ x2.toInt ≤ 8) → 9 - x2.toInt < (j23 : Int) → K23 k1 x2 d dl) : ∀ (k1 : Nat) (x2 : Int32) (x3 : Int32) (xs0 : Int32) (hk1 : k1 < 6) (d : DD) (dl : LL), St e el d dl → (0 ≤ x2.toInt ∧ x2.toInt ≤ 7) → (0 ≤ x3.toInt ∧ x3.toInt ≤ 39) → (0 ≤ xs0.toInt ∧ xs0.toInt ≤ 1) → 9 - x2.toInt ≤ (j23 : Int) → b_X9_tallySeated_59 n Q K23 k1 x2 x3 xs0 d dl := by
  intro k1 x2 x3 xs0 hk1 d dl hS bx2 bx3 bxs0 hm23
  show vp_in xs0 6 ∧ vp_in xs0 6 ∧ ∀ d12 : DD, d12 = u2 d 27 xs0.toNatClampNeg ((d 27 xs0.toNatClampNeg) + 1) → vp_in x3 40 ∧ ((d12 6 x3.toNatClampNeg) < 40 → b_X9_tallySeated_90 n Q K23 k1 x2 x3 0 (d12 27 (2 : Int32).toNatClampNeg) 2 d12 dl) ∧ (¬ (d12 6 x3.toNatClampNeg) < 40 → b_X9_tallySeated_90 n Q K23 k1 x2 x3 1 (d12 27 (2 : Int32).toNatClampNeg) 2 d12 dl)
  have ih10 : vp_in xs0 6 := vin rfl (by omega) (by omega)
  refine ⟨ih10, ?_⟩
  have ih11 : vp_in xs0 6 := vin rfl (by omega) (by omega)
  refine ⟨ih11, ?_⟩
  intro d12 ed12
  have s_9 : St e el d12 dl := by rw [ed12]; exact pv_27 hS
  have ih14 : vp_in x3 40 := vin rfl (by omega) (by omega)
  refine ⟨ih14, ?_⟩
  have q_10 : d12 6 x3.toNatClampNeg = (d 6 x3.toNatClampNeg) := by rw [ed12, u2_row (by omega)]
  have m_11 := iv_6 hS.1 (x3.toNatClampNeg)
  have t_12 : (d12 6 x3.toNatClampNeg).toInt = (d 6 x3.toNatClampNeg).toInt := (congrArg Int32.toInt q_10).trans rfl
  refine ⟨fun h15 => ?_, fun h15 => ?_⟩
  · have h15 : (d 6 x3.toNatClampNeg).toInt < 40 := (i_lt t_12 (rfl : (40 : Int32).toInt = 40)).mp h15
    exact sb_X9_tallySeated_90 hn hQ hK23 _ _ _ _ _ _ hk1 _ _ s_9 (by omega) (by omega) (show 0 ≤ 0 ∧ 0 ≤ 1 from by omega) (show 2 ≤ 2 ∧ 2 ≤ 2 from by omega) (by omega)
  · have h15 : ¬ ((d 6 x3.toNatClampNeg).toInt < 40) := fun q => h15 ((i_lt t_12 (rfl : (40 : Int32).toInt = 40)).mpr q)
    exact sb_X9_tallySeated_90 hn hQ hK23 _ _ _ _ _ _ hk1 _ _ s_9 (by omega) (by omega) (show 0 ≤ 1 ∧ 1 ≤ 1 from by omega) (show 2 ≤ 2 ∧ 2 ≤ 2 from by omega) (by omega)
set_option maxHeartbeats 4000000 in
set_option maxRecDepth 100000 in
theorem sb_X9_tallySeated_23 {n : Nat} (hn : 1000000000 ≤ n) {e : DD} {el : LL} {Q : DD → LL → Prop} (hQ : ∀ (d2 : DD) (l2 : LL), St e el d2 l2 ∧ True → Q d2 l2) : ∀ (j23 : Nat) (k1 : Nat) (x2 : Int32) (hk1 : k1 < 6) (d : DD) (dl : LL), St e el d dl → (0 ≤ x2.toInt ∧ x2.toInt ≤ 8) → 9 - x2.toInt < (j23 : Int) → b_X9_tallySeated_23 n Q j23 k1 x2 d dl := by
  intro j23
  induction j23 with
  | zero =>
    intro k1 x2 hk1 d dl hS bx2 hm23
    exfalso
    omega
  | succ j23 hK23 =>
    intro k1 x2 hk1 d dl hS bx2 hm23
    show F_X1_seatCount n k1 d dl (fun r2 d3 l4 => (r2 ≤ x2 → Q d3 l4) ∧ (¬ r2 ≤ x2 → vp_in x2 8 ∧ ∀ v7 : Int32, v7 = (d3 (39 + 3 * k1) x2.toNatClampNeg) → vp_in v7 40 ∧ (¬ (d3 5 v7.toNatClampNeg) = 0 → b_X9_tallySeated_59 n Q (b_X9_tallySeated_23 n Q j23) k1 x2 v7 1 d3 l4) ∧ ((d3 5 v7.toNatClampNeg) = 0 → b_X9_tallySeated_59 n Q (b_X9_tallySeated_23 n Q j23) k1 x2 v7 0 d3 l4)))
    refine sp_X1_seatCount hn hS.1 hk1 (fun r2 d3 l4 ⟨p_13, u_14⟩ => ?_)
    have s_15 : St e el d3 l4 := hS.sq p_13
    have w_16 : d3 = d := p_13.2.1
    replace u_14 : (4 ≤ r2.toInt ∧ r2.toInt ≤ 8) := u_14
    refine ⟨fun h5 => ?_, fun h5 => ?_⟩
    · have h5 : r2.toInt ≤ x2.toInt := (i_le rfl rfl).mp h5
      exact hQ _ _ ⟨s_15, trivial⟩
    · have h5 : ¬ (r2.toInt ≤ x2.toInt) := fun q => h5 ((i_le rfl rfl).mpr q)
      have ih6 : vp_in x2 8 := vin rfl (by omega) (by omega)
      refine ⟨ih6, ?_⟩
      have q_17 : d3 (39 + 3 * k1) x2.toNatClampNeg = (d (39 + 3 * k1) x2.toNatClampNeg) := by rw [w_16]
      have m_18 := iv_39 hS.1 hk1 (x2.toNatClampNeg)
      have t_19 : (d3 (39 + 3 * k1) x2.toNatClampNeg).toInt = (d (39 + 3 * k1) x2.toNatClampNeg).toInt := (congrArg Int32.toInt q_17).trans rfl
      intro v7 e7
      have t_20 : v7.toInt = (d (39 + 3 * k1) x2.toNatClampNeg).toInt := (congrArg Int32.toInt e7).trans t_19
      have ih8 : vp_in v7 40 := vin t_20 (by omega) (by omega)
      refine ⟨ih8, ?_⟩
      have q_21 : d3 5 v7.toNatClampNeg = (d 5 v7.toNatClampNeg) := by rw [w_16]
      have m_22 := iv_5 hS.1 (v7.toNatClampNeg)
      have t_23 : (d3 5 v7.toNatClampNeg).toInt = (d 5 v7.toNatClampNeg).toInt := (congrArg Int32.toInt q_21).trans rfl
      refine ⟨fun h9 => ?_, fun h9 => ?_⟩
      · have h9 : ¬ ((d 5 v7.toNatClampNeg).toInt = 0) := fun q => h9 ((i_eq t_23 (rfl : (0 : Int32).toInt = 0)).mpr q)
        exact sb_X9_tallySeated_59 hn hQ hK23 _ _ _ _ hk1 _ _ s_15 (by omega) (by omega) (show 0 ≤ 1 ∧ 1 ≤ 1 from by omega) (by omega)
      · have h9 : (d 5 v7.toNatClampNeg).toInt = 0 := (i_eq t_23 (rfl : (0 : Int32).toInt = 0)).mp h9
        exact sb_X9_tallySeated_59 hn hQ hK23 _ _ _ _ hk1 _ _ s_15 (by omega) (by omega) (show 0 ≤ 0 ∧ 0 ≤ 1 from by omega) (by omega)
set_option maxHeartbeats 4000000 in
set_option maxRecDepth 100000 in
theorem sb_X9_tallySeated_2 {n : Nat} (hn : 1000000000 ≤ n) {e : DD} {el : LL} {Q : DD → LL → Prop} (hQ : ∀ (d2 : DD) (l2 : LL), St e el d2 l2 ∧ True → Q d2 l2) : ∀ (j2 : Nat) (k1 : Nat) (x2 : Int32) (hk1 : k1 < 6) (d : DD) (dl : LL), St e el d dl → (0 ≤ x2.toInt ∧ x2.toInt ≤ 6) → 7 - x2.toInt < (j2 : Int) → b_X9_tallySeated_2 n Q j2 k1 x2 d dl := by
  intro j2
  induction j2 with
  | zero =>
    intro k1 x2 hk1 d dl hS bx2 hm2
    exfalso
    omega
  | succ j2 hK2 =>
    intro k1 x2 hk1 d dl hS bx2 hm2
    show (6 ≤ x2 → b_X9_tallySeated_23 n Q n k1 0 d dl) ∧ (¬ 6 ≤ x2 → vp_in x2 6 ∧ ∀ d31 : DD, d31 = u2 d 27 x2.toNatClampNeg 0 → (b_X9_tallySeated_2 n Q j2) k1 (x2 + 1) d31 dl)
    refine ⟨fun h1 => ?_, fun h1 => ?_⟩
    · have h1 : 6 ≤ x2.toInt := (i_le (rfl : (6 : Int32).toInt = 6) rfl).mp h1
      exact sb_X9_tallySeated_23 hn hQ n _ _ hk1 _ _ hS (show 0 ≤ 0 ∧ 0 ≤ 8 from by omega) (show 9 - 0 < (n : Int) from by omega)
    · have h1 : ¬ (6 ≤ x2.toInt) := fun q => h1 ((i_le (rfl : (6 : Int32).toInt = 6) rfl).mpr q)
      have ih30 : vp_in x2 6 := vin rfl (by omega) (by omega)
      refine ⟨ih30, ?_⟩
      intro d31 ed31
      have s_24 : St e el d31 dl := by rw [ed31]; exact pv_27 hS
      have t_25 : (x2 + 1).toInt = x2.toInt + 1 := ti_add rfl (rfl : (1 : Int32).toInt = 1) (by omega) (by omega)
      exact hK2 _ _ hk1 _ _ s_24 (by omega) (by omega)
set_option maxHeartbeats 4000000 in
set_option maxRecDepth 100000 in
theorem sp_X9_tallySeated {n : Nat} (hn : 1000000000 ≤ n) {k1 : Nat} {d : DD} {dl : LL} (hI : Inv d) (hk1 : k1 < 6) {Q : DD → LL → Prop} (hQ : ∀ (d2 : DD) (l2 : LL), St d dl d2 l2 ∧ True → Q d2 l2) : F_X9_tallySeated n k1 d dl Q := by
  obtain ⟨e, he⟩ : ∃ e : DD, e = d := ⟨_, rfl⟩
  obtain ⟨el, hel⟩ : ∃ el : LL, el = dl := ⟨_, rfl⟩
  have hS : St e el d dl := by rw [he, hel]; exact St.rf hI
  rw [← he, ← hel] at hQ
  show b_X9_tallySeated_2 n Q n k1 0 d dl
  exact sb_X9_tallySeated_2 hn hQ n _ _ hk1 _ _ hS (show 0 ≤ 0 ∧ 0 ≤ 6 from by omega) (show 7 - 0 < (n : Int) from by omega)
set_option maxHeartbeats 4000000 in
set_option maxRecDepth 100000 in
theorem sb_X5_testHolds_86 {n : Nat} (hn : 1000000000 ≤ n) {e : DD} {el : LL} {Q : Int32 → DD → LL → Prop} (hQ : ∀ (r : Int32) (d2 : DD) (l2 : LL), Sq e el d2 l2 ∧ (0 ≤ r.toInt ∧ r.toInt ≤ 1) → Q r d2 l2) : ∀ (k0 : Nat) (x1 : Int32) (x3 : Int32) (hk0 : k0 < 6) (d : DD) (dl : LL), Sq e el d dl → (0 ≤ x1.toInt ∧ x1.toInt ≤ 7) → (0 ≤ x3.toInt ∧ x3.toInt ≤ 1) → b_X5_testHolds_86 n Q k0 x1 x3 d dl := by
  intro k0 x1 x3 hk0 d dl hS bx1 bx3
  show vp_in x1 8 ∧ (x3 = (d (56 + 6 * k0) x1.toNatClampNeg) → Q 0 d dl) ∧ (¬ x3 = (d (56 + 6 * k0) x1.toNatClampNeg) → Q 1 d dl)
  have ih4 : vp_in x1 8 := vin rfl (by omega) (by omega)
  refine ⟨ih4, ?_⟩
  have m_1 := iv_56 hS.1 hk0 (x1.toNatClampNeg)
  refine ⟨fun h5 => ?_, fun h5 => ?_⟩
  · have h5 : x3.toInt = (d (56 + 6 * k0) x1.toNatClampNeg).toInt := (i_eq rfl rfl).mp h5
    exact hQ _ _ _ ⟨hS, (show (0 ≤ 0 ∧ 0 ≤ 1) from by omega)⟩
  · have h5 : ¬ (x3.toInt = (d (56 + 6 * k0) x1.toNatClampNeg).toInt) := fun q => h5 ((i_eq rfl rfl).mpr q)
    exact hQ _ _ _ ⟨hS, (show (0 ≤ 1 ∧ 1 ≤ 1) from by omega)⟩
set_option maxHeartbeats 4000000 in
set_option maxRecDepth 100000 in
theorem sb_X5_testHolds_85 {n : Nat} (hn : 1000000000 ≤ n) {e : DD} {el : LL} {Q : Int32 → DD → LL → Prop} (hQ : ∀ (r : Int32) (d2 : DD) (l2 : LL), Sq e el d2 l2 ∧ (0 ≤ r.toInt ∧ r.toInt ≤ 1) → Q r d2 l2) : ∀ (k0 : Nat) (x1 : Int32) (xs0 : Int32) (hk0 : k0 < 6) (d : DD) (dl : LL), Sq e el d dl → (0 ≤ x1.toInt ∧ x1.toInt ≤ 7) → (0 ≤ xs0.toInt ∧ xs0.toInt ≤ 1) → b_X5_testHolds_85 n Q k0 x1 xs0 d dl := by
  intro k0 x1 xs0 hk0 d dl hS bx1 bxs0
  show b_X5_testHolds_86 n Q k0 x1 xs0 d dl
  exact sb_X5_testHolds_86 hn hQ _ _ _ hk0 _ _ hS (by omega) (by omega)
set_option maxHeartbeats 4000000 in
set_option maxRecDepth 100000 in
theorem sb_X5_testHolds_66 {n : Nat} (hn : 1000000000 ≤ n) {e : DD} {el : LL} {Q : Int32 → DD → LL → Prop} (hQ : ∀ (r : Int32) (d2 : DD) (l2 : LL), Sq e el d2 l2 ∧ (0 ≤ r.toInt ∧ r.toInt ≤ 1) → Q r d2 l2) : ∀ (k0 : Nat) (x1 : Int32) (xs0 : Int32) (hk0 : k0 < 6) (d : DD) (dl : LL), Sq e el d dl → (0 ≤ x1.toInt ∧ x1.toInt ≤ 7) → (0 ≤ xs0.toInt ∧ xs0.toInt ≤ 1) → b_X5_testHolds_66 n Q k0 x1 xs0 d dl := by
  intro k0 x1 xs0 hk0 d dl hS bx1 bxs0
  show b_X5_testHolds_86 n Q k0 x1 xs0 d dl
  exact sb_X5_testHolds_86 hn hQ _ _ _ hk0 _ _ hS (by omega) (by omega)
set_option maxHeartbeats 4000000 in
set_option maxRecDepth 100000 in
theorem sb_X5_testHolds_47 {n : Nat} (hn : 1000000000 ≤ n) {e : DD} {el : LL} {Q : Int32 → DD → LL → Prop} (hQ : ∀ (r : Int32) (d2 : DD) (l2 : LL), Sq e el d2 l2 ∧ (0 ≤ r.toInt ∧ r.toInt ≤ 1) → Q r d2 l2) : ∀ (k0 : Nat) (x1 : Int32) (xs0 : Int32) (hk0 : k0 < 6) (d : DD) (dl : LL), Sq e el d dl → (0 ≤ x1.toInt ∧ x1.toInt ≤ 7) → (0 ≤ xs0.toInt ∧ xs0.toInt ≤ 1) → b_X5_testHolds_47 n Q k0 x1 xs0 d dl := by
  intro k0 x1 xs0 hk0 d dl hS bx1 bxs0
  show b_X5_testHolds_86 n Q k0 x1 xs0 d dl
  exact sb_X5_testHolds_86 hn hQ _ _ _ hk0 _ _ hS (by omega) (by omega)
set_option maxHeartbeats 4000000 in
set_option maxRecDepth 100000 in
theorem sp_X5_testHolds {n : Nat} (hn : 1000000000 ≤ n) {k0 : Nat} {x1 : Int32} {x2 : Int32} {d : DD} {dl : LL} (hI : Inv d) (hk0 : k0 < 6) (bx1 : 0 ≤ x1.toInt ∧ x1.toInt ≤ 7) {Q : Int32 → DD → LL → Prop} (hQ : ∀ (r : Int32) (d2 : DD) (l2 : LL), Sq d dl d2 l2 ∧ (0 ≤ r.toInt ∧ r.toInt ≤ 1) → Q r d2 l2) : F_X5_testHolds n k0 x1 x2 d dl Q := by
  obtain ⟨e, he⟩ : ∃ e : DD, e = d := ⟨_, rfl⟩
  obtain ⟨el, hel⟩ : ∃ el : LL, el = dl := ⟨_, rfl⟩
  have hS : Sq e el d dl := by rw [he, hel]; exact Sq.rf hI
  rw [← he, ← hel] at hQ
  show vp_in x1 8 ∧ ((d (58 + 6 * k0) x1.toNatClampNeg) = 60 → vp_in x1 8 ∧ ((d (59 + 6 * k0) x1.toNatClampNeg) ≤ x2 → b_X5_testHolds_47 n Q k0 x1 0 d dl) ∧ (¬ (d (59 + 6 * k0) x1.toNatClampNeg) ≤ x2 → b_X5_testHolds_47 n Q k0 x1 1 d dl)) ∧ ((d (58 + 6 * k0) x1.toNatClampNeg) = 61 → vp_in x1 8 ∧ (¬ x2 = (d (59 + 6 * k0) x1.toNatClampNeg) → b_X5_testHolds_66 n Q k0 x1 0 d dl) ∧ (x2 = (d (59 + 6 * k0) x1.toNatClampNeg) → b_X5_testHolds_66 n Q k0 x1 1 d dl)) ∧ (¬ (d (58 + 6 * k0) x1.toNatClampNeg) = 60 ∧ ¬ (d (58 + 6 * k0) x1.toNatClampNeg) = 61 → vp_in x1 8 ∧ (x2 ≤ (d (59 + 6 * k0) x1.toNatClampNeg) → b_X5_testHolds_85 n Q k0 x1 0 d dl) ∧ (¬ x2 ≤ (d (59 + 6 * k0) x1.toNatClampNeg) → b_X5_testHolds_85 n Q k0 x1 1 d dl))
  have ih1 : vp_in x1 8 := vin rfl (by omega) (by omega)
  refine ⟨ih1, ?_⟩
  refine ⟨fun h10 => ?_, fun h10 => ?_, fun h10 => ?_⟩
  · have h10 : (d (58 + 6 * k0) x1.toNatClampNeg).toInt = 60 := (i_eq rfl (rfl : (60 : Int32).toInt = 60)).mp h10
    have ih2 : vp_in x1 8 := vin rfl (by omega) (by omega)
    refine ⟨ih2, ?_⟩
    refine ⟨fun h3 => ?_, fun h3 => ?_⟩
    · have h3 : (d (59 + 6 * k0) x1.toNatClampNeg).toInt ≤ x2.toInt := (i_le rfl rfl).mp h3
      exact sb_X5_testHolds_47 hn hQ _ _ _ hk0 _ _ hS (by omega) (show 0 ≤ 0 ∧ 0 ≤ 1 from by omega)
    · have h3 : ¬ ((d (59 + 6 * k0) x1.toNatClampNeg).toInt ≤ x2.toInt) := fun q => h3 ((i_le rfl rfl).mpr q)
      exact sb_X5_testHolds_47 hn hQ _ _ _ hk0 _ _ hS (by omega) (show 0 ≤ 1 ∧ 1 ≤ 1 from by omega)
  · have h10 : (d (58 + 6 * k0) x1.toNatClampNeg).toInt = 61 := (i_eq rfl (rfl : (61 : Int32).toInt = 61)).mp h10
    have ih6 : vp_in x1 8 := vin rfl (by omega) (by omega)
    refine ⟨ih6, ?_⟩
    refine ⟨fun h7 => ?_, fun h7 => ?_⟩
    · have h7 : ¬ (x2.toInt = (d (59 + 6 * k0) x1.toNatClampNeg).toInt) := fun q => h7 ((i_eq rfl rfl).mpr q)
      exact sb_X5_testHolds_66 hn hQ _ _ _ hk0 _ _ hS (by omega) (show 0 ≤ 0 ∧ 0 ≤ 1 from by omega)
    · have h7 : x2.toInt = (d (59 + 6 * k0) x1.toNatClampNeg).toInt := (i_eq rfl rfl).mp h7
      exact sb_X5_testHolds_66 hn hQ _ _ _ hk0 _ _ hS (by omega) (show 0 ≤ 1 ∧ 1 ≤ 1 from by omega)
  · have _ := hn
    have ih8 : vp_in x1 8 := vin rfl (by omega) (by omega)
    refine ⟨ih8, ?_⟩
    refine ⟨fun h9 => ?_, fun h9 => ?_⟩
    · have h9 : x2.toInt ≤ (d (59 + 6 * k0) x1.toNatClampNeg).toInt := (i_le rfl rfl).mp h9
      exact sb_X5_testHolds_85 hn hQ _ _ _ hk0 _ _ hS (by omega) (show 0 ≤ 0 ∧ 0 ≤ 1 from by omega)
    · have h9 : ¬ (x2.toInt ≤ (d (59 + 6 * k0) x1.toNatClampNeg).toInt) := fun q => h9 ((i_le rfl rfl).mpr q)
      exact sb_X5_testHolds_85 hn hQ _ _ _ hk0 _ _ hS (by omega) (show 0 ≤ 1 ∧ 1 ≤ 1 from by omega)
set_option maxHeartbeats 4000000 in
set_option maxRecDepth 100000 in
theorem sb_X5_holds_68 {n : Nat} (hn : 1000000000 ≤ n) {e : DD} {el : LL} {Q : Int32 → DD → LL → Prop} (hQ : ∀ (r : Int32) (d2 : DD) (l2 : LL), Sq e el d2 l2 ∧ (0 ≤ r.toInt ∧ r.toInt ≤ 1) → Q r d2 l2) {K7 : Nat → Int32 → Int32 → Int32 → DD → LL → Prop} {j7 : Nat} (hK7 : ∀ (k0 : Nat) (x2 : Int32) (x3 : Int32) (x4 : Int32) (hk0 : k0 < 6) (d : DD) (dl : LL), Sq e el d dl → (0 ≤ x2.toInt ∧ x2.toInt ≤ 1) → (0 ≤ x3.toInt ∧ x3.toInt ≤ 1) → (0 ≤ x4.toInt ∧ x4.toInt ≤ 8) → 9 - x4.toInt < (j7 : Int) → K7 k0 x2 x3 x4 d dl) : ∀ (k0 : Nat) (x2 : Int32) (x4 : Int32) (hk0 : k0 < 6) (d : DD) (dl : LL), Sq e el d dl → (0 ≤ x2.toInt ∧ x2.toInt ≤ 1) → (0 ≤ x4.toInt ∧ x4.toInt ≤ 7) → 9 - x4.toInt ≤ (j7 : Int) → b_X5_holds_68 n Q K7 k0 x2 x4 d dl := by
  intro k0 x2 x4 hk0 d dl hS bx2 bx4 hm7
  show K7 k0 x2 0 (x4 + 1) d dl
  have t_1 : (x4 + 1).toInt = x4.toInt + 1 := ti_add rfl (rfl : (1 : Int32).toInt = 1) (by omega) (by omega)
  exact hK7 _ _ _ _ hk0 _ _ hS (by omega) (show 0 ≤ 0 ∧ 0 ≤ 1 from by omega) (by omega) (by omega)
set_option maxHeartbeats 4000000 in
set_option maxRecDepth 100000 in
theorem sb_X5_holds_42 {n : Nat} (hn : 1000000000 ≤ n) {e : DD} {el : LL} {Q : Int32 → DD → LL → Prop} (hQ : ∀ (r : Int32) (d2 : DD) (l2 : LL), Sq e el d2 l2 ∧ (0 ≤ r.toInt ∧ r.toInt ≤ 1) → Q r d2 l2) {K7 : Nat → Int32 → Int32 → Int32 → DD → LL → Prop} {j7 : Nat} (hK7 : ∀ (k0 : Nat) (x2 : Int32) (x3 : Int32) (x4 : Int32) (hk0 : k0 < 6) (d : DD) (dl : LL), Sq e el d dl → (0 ≤ x2.toInt ∧ x2.toInt ≤ 1) → (0 ≤ x3.toInt ∧ x3.toInt ≤ 1) → (0 ≤ x4.toInt ∧ x4.toInt ≤ 8) → 9 - x4.toInt < (j7 : Int) → K7 k0 x2 x3 x4 d dl) : ∀ (k0 : Nat) (x2 : Int32) (x3 : Int32) (x4 : Int32) (hk0 : k0 < 6) (d : DD) (dl : LL), Sq e el d dl → (0 ≤ x2.toInt ∧ x2.toInt ≤ 1) → (0 ≤ x3.toInt ∧ x3.toInt ≤ 1) → (0 ≤ x4.toInt ∧ x4.toInt ≤ 7) → 9 - x4.toInt ≤ (j7 : Int) → b_X5_holds_42 n Q K7 k0 x2 x3 x4 d dl := by
  intro k0 x2 x3 x4 hk0 d dl hS bx2 bx3 bx4 hm7
  show (x3 = 0 → b_X5_holds_68 n Q K7 k0 x2 x4 d dl) ∧ (¬ x3 = 0 → vp_in x4 8 ∧ vp_in (d (57 + 6 * k0) x4.toNatClampNeg) 6 ∧ F_X5_testHolds n k0 x4 (d 27 (d (57 + 6 * k0) x4.toNatClampNeg).toNatClampNeg) d dl (fun r9 d10 l11 => (r9 = 0 → b_X5_holds_68 n Q K7 k0 x2 x4 d10 l11) ∧ (¬ r9 = 0 → K7 k0 x2 1 (x4 + 1) d10 l11)))
  refine ⟨fun h6 => ?_, fun h6 => ?_⟩
  · have h6 : x3.toInt = 0 := (i_eq rfl (rfl : (0 : Int32).toInt = 0)).mp h6
    exact sb_X5_holds_68 hn hQ hK7 _ _ _ hk0 _ _ hS (by omega) (by omega) (by omega)
  · have h6 : ¬ (x3.toInt = 0) := fun q => h6 ((i_eq rfl (rfl : (0 : Int32).toInt = 0)).mpr q)
    have ih7 : vp_in x4 8 := vin rfl (by omega) (by omega)
    refine ⟨ih7, ?_⟩
    have m_2 := iv_57 hS.1 hk0 (x4.toNatClampNeg)
    have ih8 : vp_in (d (57 + 6 * k0) x4.toNatClampNeg) 6 := vin rfl (by omega) (by omega)
    refine ⟨ih8, ?_⟩
    refine sp_X5_testHolds hn hS.1 hk0 ⟨by omega, by omega⟩ (fun r9 d10 l11 ⟨p_3, u_4⟩ => ?_)
    have s_5 : Sq e el d10 l11 := hS.tr p_3
    have w_6 : d10 = d := p_3.2.1
    replace u_4 : (0 ≤ r9.toInt ∧ r9.toInt ≤ 1) := u_4
    refine ⟨fun h12 => ?_, fun h12 => ?_⟩
    · have h12 : r9.toInt = 0 := (i_eq rfl (rfl : (0 : Int32).toInt = 0)).mp h12
      exact sb_X5_holds_68 hn hQ hK7 _ _ _ hk0 _ _ s_5 (by omega) (by omega) (by omega)
    · have h12 : ¬ (r9.toInt = 0) := fun q => h12 ((i_eq rfl (rfl : (0 : Int32).toInt = 0)).mpr q)
      have t_7 : (x4 + 1).toInt = x4.toInt + 1 := ti_add rfl (rfl : (1 : Int32).toInt = 1) (by omega) (by omega)
      exact hK7 _ _ _ _ hk0 _ _ s_5 (by omega) (show 0 ≤ 1 ∧ 1 ≤ 1 from by omega) (by omega) (by omega)
