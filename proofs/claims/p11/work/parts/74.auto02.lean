set_option maxHeartbeats 4000000 in
set_option maxRecDepth 100000 in
theorem sp_X8_weigh {n : Nat} (hn : 1000000000 ≤ n) {k2 : Nat} {d : DD} {dl : LL} (hI : Inv d) (hk2 : k2 < 6) {Q : DD → LL → Prop} (hQ : ∀ (d2 : DD) (l2 : LL), St d dl d2 l2 ∧ True → Q d2 l2) : F_X8_weigh n k2 d dl Q := by
  obtain ⟨e, he⟩ : ∃ e : DD, e = d := ⟨_, rfl⟩
  obtain ⟨el, hel⟩ : ∃ el : LL, el = dl := ⟨_, rfl⟩
  have hS : St e el d dl := by rw [he, hel]; exact St.rf hI
  rw [← he, ← hel] at hQ
  show F_X1_drummerPitch n k2 d dl (fun r1 d2 l3 => ∀ d4 : DD, d4 = u2 d2 9 2 0 → ∀ d5 : DD, d5 = u2 d4 9 3 0 → b_X8_weigh_21 n Q n k2 0 r1 0 d5 l3)
  refine sp_X1_drummerPitch hn hS.1 hk2 (fun r1 d2 l3 ⟨p_31, u_32⟩ => ?_)
  have s_33 : St e el d2 l3 := hS.sq p_31
  have w_34 : d2 = d := p_31.2.1
  intro d4 ed4
  have s_35 : St e el d4 l3 := by rw [ed4]; exact pv_9_2 s_33
  intro d5 ed5
  have s_36 : St e el d5 l3 := by rw [ed5]; exact pv_9_3 s_35
  exact sb_X8_weigh_21 hn hQ n _ _ _ _ hk2 _ _ s_36 (show 0 ≤ 0 ∧ 0 ≤ 4 from by omega) (show 5 - 0 < (n : Int) from by omega)
set_option maxHeartbeats 4000000 in
set_option maxRecDepth 100000 in
theorem sp_X9_trim {n : Nat} (hn : 1000000000 ≤ n) {x1 : Int32} {x2 : Int32} {d : DD} {dl : LL} (hI : Inv d) {Q : Int32 → DD → LL → Prop} (hQ : ∀ (r : Int32) (d2 : DD) (l2 : LL), St d dl d2 l2 ∧ (True) → Q r d2 l2) : F_X9_trim n x1 x2 d dl Q := by
  obtain ⟨e, he⟩ : ∃ e : DD, e = d := ⟨_, rfl⟩
  obtain ⟨el, hel⟩ : ∃ el : LL, el = dl := ⟨_, rfl⟩
  have hS : St e el d dl := by rw [he, hel]; exact St.rf hI
  rw [← he, ← hel] at hQ
  show F_X9_isCrew n x1 d dl (fun r1 d2 l3 => (r1 = 0 → Q (-1) d2 l3) ∧ (¬ r1 = 0 → F_X9_within n x2 0 3 d2 l3 (fun r5 d6 l7 => (¬ r5 = 0 → vp_in x1 6 ∧ ∀ k10 : Nat, k10 = x1.toNatClampNeg → (¬ (d6 (37 + 3 * k10) 6) = 0 → vp_in x1 6 ∧ ∀ k13 : Nat, k13 = x1.toNatClampNeg → F_X8_weigh n k13 d6 l7 (fun d15 l16 => (x2 = 0 → Q (d15 9 0) d15 l16) ∧ (x2 = 1 → Q (d15 9 1) d15 l16) ∧ (x2 = 2 → Q (d15 9 2) d15 l16) ∧ (x2.toInt < 0 ∨ 2 < x2.toInt → Q (d15 9 3) d15 l16))) ∧ ((d6 (37 + 3 * k10) 6) = 0 → Q (-3) d6 l7)) ∧ (r5 = 0 → Q (-1) d6 l7))))
  refine sp_X9_isCrew hn hS.1 (fun r1 d2 l3 ⟨p_1, u_2⟩ => ?_)
  have s_3 : St e el d2 l3 := hS.sq p_1
  have w_4 : d2 = d := p_1.2.1
  replace u_2 : (0 ≤ r1.toInt ∧ r1.toInt ≤ 1 ∧ ((r1.toInt = 1 ∧ 0 ≤ x1.toInt ∧ x1.toInt < (d 0 2).toInt) ∨ (r1.toInt = 0 ∧ ¬ (0 ≤ x1.toInt ∧ x1.toInt < (d 0 2).toInt)))) := u_2
  have m_5 := iv_0_2 hS.1
  refine ⟨fun h4 => ?_, fun h4 => ?_⟩
  · have h4 : r1.toInt = 0 := (i_eq rfl (rfl : (0 : Int32).toInt = 0)).mp h4
    exact hQ _ _ _ ⟨s_3, trivial⟩
  · have h4 : ¬ (r1.toInt = 0) := fun q => h4 ((i_eq rfl (rfl : (0 : Int32).toInt = 0)).mpr q)
    refine sp_X9_within hn s_3.1 (fun r5 d6 l7 ⟨p_6, u_7⟩ => ?_)
    have s_8 : St e el d6 l7 := s_3.sq p_6
    have w_9 : d6 = d2 := p_6.2.1
    replace u_7 : (0 ≤ r5.toInt ∧ r5.toInt ≤ 1 ∧ ((r5.toInt = 1 ∧ 0 ≤ x2.toInt ∧ x2.toInt ≤ 3) ∨ (r5.toInt = 0 ∧ ¬ (0 ≤ x2.toInt ∧ x2.toInt ≤ 3)))) := u_7
    refine ⟨fun h8 => ?_, fun h8 => ?_⟩
    · have h8 : ¬ (r5.toInt = 0) := fun q => h8 ((i_eq rfl (rfl : (0 : Int32).toInt = 0)).mpr q)
      have ih9 : vp_in x1 6 := vin rfl (by omega) (by omega)
      refine ⟨ih9, ?_⟩
      intro k10 ek10
      have hk10 : k10 < 6 := by rw [ek10]; exact clamp_in ih9
      have q_10 : d6 (37 + 3 * k10) 6 = (d (37 + 3 * k10) 6) := by rw [w_9]; rw [w_4]
      have m_11 := iv_37_6 hS.1 hk10
      have t_12 : (d6 (37 + 3 * k10) 6).toInt = (d (37 + 3 * k10) 6).toInt := (congrArg Int32.toInt q_10).trans rfl
      refine ⟨fun h11 => ?_, fun h11 => ?_⟩
      · have h11 : ¬ ((d (37 + 3 * k10) 6).toInt = 0) := fun q => h11 ((i_eq t_12 (rfl : (0 : Int32).toInt = 0)).mpr q)
        have ih12 : vp_in x1 6 := vin rfl (by omega) (by omega)
        refine ⟨ih12, ?_⟩
        intro k13 ek13
        have hk13 : k13 < 6 := by rw [ek13]; exact clamp_in ih12
        refine sp_X8_weigh hn s_8.1 hk13 (fun d15 l16 ⟨p_13, u_14⟩ => ?_)
        have s_15 : St e el d15 l16 := s_8.tr p_13
        refine ⟨fun h17 => ?_, fun h17 => ?_, fun h17 => ?_, fun h17 => ?_⟩
        · have h17 : x2.toInt = 0 := (i_eq rfl (rfl : (0 : Int32).toInt = 0)).mp h17
          exact hQ _ _ _ ⟨s_15, trivial⟩
        · have h17 : x2.toInt = 1 := (i_eq rfl (rfl : (1 : Int32).toInt = 1)).mp h17
          exact hQ _ _ _ ⟨s_15, trivial⟩
        · have h17 : x2.toInt = 2 := (i_eq rfl (rfl : (2 : Int32).toInt = 2)).mp h17
          exact hQ _ _ _ ⟨s_15, trivial⟩
        · have _ := hn
          exact hQ _ _ _ ⟨s_15, trivial⟩
      · have h11 : (d (37 + 3 * k10) 6).toInt = 0 := (i_eq t_12 (rfl : (0 : Int32).toInt = 0)).mp h11
        exact hQ _ _ _ ⟨s_8, trivial⟩
    · have h8 : r5.toInt = 0 := (i_eq rfl (rfl : (0 : Int32).toInt = 0)).mp h8
      exact hQ _ _ _ ⟨s_8, trivial⟩
set_option maxHeartbeats 4000000 in
set_option maxRecDepth 100000 in
theorem sp_X4_maySit {n : Nat} (hn : 1000000000 ≤ n) {x1 : Int32} {x2 : Int32} {d : DD} {dl : LL} (hI : Inv d) (bx1 : 0 ≤ x1.toInt ∧ x1.toInt ≤ 39) {Q : Int32 → DD → LL → Prop} (hQ : ∀ (r : Int32) (d2 : DD) (l2 : LL), Sq d dl d2 l2 ∧ (0 ≤ r.toInt ∧ r.toInt ≤ 1) → Q r d2 l2) : F_X4_maySit n x1 x2 d dl Q := by
  obtain ⟨e, he⟩ : ∃ e : DD, e = d := ⟨_, rfl⟩
  obtain ⟨el, hel⟩ : ∃ el : LL, el = dl := ⟨_, rfl⟩
  have hS : Sq e el d dl := by rw [he, hel]; exact Sq.rf hI
  rw [← he, ← hel] at hQ
  show vp_in x1 40 ∧ ((d 4 x1.toNatClampNeg) = ((1 : Int32) - x2) → Q 0 d dl) ∧ (¬ (d 4 x1.toNatClampNeg) = ((1 : Int32) - x2) → Q 1 d dl)
  have ih1 : vp_in x1 40 := vin rfl (by omega) (by omega)
  refine ⟨ih1, ?_⟩
  have m_1 := iv_4 hS.1 (x1.toNatClampNeg)
  refine ⟨fun h2 => ?_, fun h2 => ?_⟩
  · have h2 : (d 4 x1.toNatClampNeg).toInt = ((1 : Int32) - x2).toInt := (i_eq rfl rfl).mp h2
    exact hQ _ _ _ ⟨hS, (show (0 ≤ 0 ∧ 0 ≤ 1) from by omega)⟩
  · have h2 : ¬ ((d 4 x1.toNatClampNeg).toInt = ((1 : Int32) - x2).toInt) := fun q => h2 ((i_eq rfl rfl).mpr q)
    exact hQ _ _ _ ⟨hS, (show (0 ≤ 1 ∧ 1 ≤ 1) from by omega)⟩
set_option maxHeartbeats 4000000 in
set_option maxRecDepth 100000 in
theorem sp_X1_swapSeats {n : Nat} (hn : 1000000000 ≤ n) {k0 : Nat} {x1 : Int32} {x2 : Int32} {d : DD} {dl : LL} (hI : Inv d) (hk0 : k0 < 6) (bx1 : 0 ≤ x1.toInt ∧ x1.toInt ≤ 7) (bx2 : 0 ≤ x2.toInt ∧ x2.toInt ≤ 7) {Q : DD → LL → Prop} (hQ : ∀ (d2 : DD) (l2 : LL), St d dl d2 l2 ∧ True → Q d2 l2) : F_X1_swapSeats n k0 x1 x2 d dl Q := by
  obtain ⟨e, he⟩ : ∃ e : DD, e = d := ⟨_, rfl⟩
  obtain ⟨el, hel⟩ : ∃ el : LL, el = dl := ⟨_, rfl⟩
  have hS : St e el d dl := by rw [he, hel]; exact St.rf hI
  rw [← he, ← hel] at hQ
  show vp_in x1 8 ∧ ∀ v2 : Int32, v2 = (d (39 + 3 * k0) x1.toNatClampNeg) → vp_in x2 8 ∧ vp_in x1 8 ∧ ∀ d5 : DD, d5 = u2 d (39 + 3 * k0) x1.toNatClampNeg (d (39 + 3 * k0) x2.toNatClampNeg) → vp_in x2 8 ∧ ∀ d7 : DD, d7 = u2 d5 (39 + 3 * k0) x2.toNatClampNeg v2 → Q d7 dl
  have ih1 : vp_in x1 8 := vin rfl (by omega) (by omega)
  refine ⟨ih1, ?_⟩
  have m_1 := iv_39 hS.1 hk0 (x1.toNatClampNeg)
  intro v2 e2
  have t_2 : v2.toInt = (d (39 + 3 * k0) x1.toNatClampNeg).toInt := (congrArg Int32.toInt e2).trans rfl
  have ih3 : vp_in x2 8 := vin rfl (by omega) (by omega)
  refine ⟨ih3, ?_⟩
  have ih4 : vp_in x1 8 := vin rfl (by omega) (by omega)
  refine ⟨ih4, ?_⟩
  have m_3 := iv_39 hS.1 hk0 (x2.toNatClampNeg)
  intro d5 ed5
  have s_4 : St e el d5 dl := by rw [ed5]; exact pv_39 hS hk0 (by omega) (by omega)
  have ih6 : vp_in x2 8 := vin rfl (by omega) (by omega)
  refine ⟨ih6, ?_⟩
  intro d7 ed7
  have s_5 : St e el d7 dl := by rw [ed7]; exact pv_39 s_4 hk0 (by rw [t_2]; omega) (by rw [t_2]; omega)
  exact hQ _ _ ⟨s_5, trivial⟩
set_option maxHeartbeats 4000000 in
set_option maxRecDepth 100000 in
theorem sp_X8_tilt {n : Nat} (hn : 1000000000 ≤ n) {d : DD} {dl : LL} (hI : Inv d) {Q : Int32 → DD → LL → Prop} (hQ : ∀ (r : Int32) (d2 : DD) (l2 : LL), Sq d dl d2 l2 ∧ (True) → Q r d2 l2) : F_X8_tilt n d dl Q := by
  obtain ⟨e, he⟩ : ∃ e : DD, e = d := ⟨_, rfl⟩
  obtain ⟨el, hel⟩ : ∃ el : LL, el = dl := ⟨_, rfl⟩
  have hS : Sq e el d dl := by rw [he, hel]; exact Sq.rf hI
  rw [← he, ← hel] at hQ
  show Q (((((4 : Int32) * (d 9 0)) + (d 9 1)) - (d 9 2)) - ((20 : Int32) * (d 9 3))) d dl
  exact hQ _ _ _ ⟨hS, trivial⟩
set_option maxHeartbeats 4000000 in
set_option maxRecDepth 100000 in
theorem sp_X9_change {n : Nat} (hn : 1000000000 ≤ n) {x1 : Int32} {x2 : Int32} {x3 : Int32} {d : DD} {dl : LL} (hI : Inv d) {Q : Int32 → DD → LL → Prop} (hQ : ∀ (r : Int32) (d2 : DD) (l2 : LL), St d dl d2 l2 ∧ (True) → Q r d2 l2) : F_X9_change n x1 x2 x3 d dl Q := by
  obtain ⟨e, he⟩ : ∃ e : DD, e = d := ⟨_, rfl⟩
  obtain ⟨el, hel⟩ : ∃ el : LL, el = dl := ⟨_, rfl⟩
  have hS : St e el d dl := by rw [he, hel]; exact St.rf hI
  rw [← he, ← hel] at hQ
  show F_X9_isCrew n x1 d dl (fun r1 d2 l3 => (¬ r1 = 0 → vp_in x1 6 ∧ ∀ k6 : Nat, k6 = x1.toNatClampNeg → F_X1_seatCount n k6 d2 l3 (fun r7 d8 l9 => ∀ v10 : Int32, v10 = (r7 - 1) → F_X9_within n x2 0 v10 d8 l9 (fun r11 d12 l13 => (r11 = 0 → Q (-100000) d12 l13) ∧ (¬ r11 = 0 → F_X9_within n x3 0 v10 d12 l13 (fun r15 d16 l17 => (¬ r15 = 0 → ((d16 (37 + 3 * k6) 6) = 0 → Q (-100001) d16 l17) ∧ (¬ (d16 (37 + 3 * k6) 6) = 0 → vp_in x2 8 ∧ F_X4_maySit n (d16 (39 + 3 * k6) x2.toNatClampNeg) (irem x3 2) d16 l17 (fun r21 d22 l23 => (r21 = 0 → Q (-100001) d22 l23) ∧ (¬ r21 = 0 → vp_in x3 8 ∧ F_X4_maySit n (d22 (39 + 3 * k6) x3.toNatClampNeg) (irem x2 2) d22 l23 (fun r26 d27 l28 => (¬ r26 = 0 → F_X1_swapSeats n k6 x2 x3 d27 l28 (fun d31 l32 => F_X8_weigh n k6 d31 l32 (fun d34 l35 => F_X1_swapSeats n k6 x2 x3 d34 l35 (fun d37 l38 => F_X8_tilt n d37 l38 (fun r39 d40 l41 => Q r39 d40 l41))))) ∧ (r26 = 0 → Q (-100001) d27 l28)))))) ∧ (r15 = 0 → Q (-100000) d16 l17)))))) ∧ (r1 = 0 → Q (-100000) d2 l3))
  refine sp_X9_isCrew hn hS.1 (fun r1 d2 l3 ⟨p_1, u_2⟩ => ?_)
  have s_3 : St e el d2 l3 := hS.sq p_1
  have w_4 : d2 = d := p_1.2.1
  replace u_2 : (0 ≤ r1.toInt ∧ r1.toInt ≤ 1 ∧ ((r1.toInt = 1 ∧ 0 ≤ x1.toInt ∧ x1.toInt < (d 0 2).toInt) ∨ (r1.toInt = 0 ∧ ¬ (0 ≤ x1.toInt ∧ x1.toInt < (d 0 2).toInt)))) := u_2
  have m_5 := iv_0_2 hS.1
  refine ⟨fun h4 => ?_, fun h4 => ?_⟩
  · have h4 : ¬ (r1.toInt = 0) := fun q => h4 ((i_eq rfl (rfl : (0 : Int32).toInt = 0)).mpr q)
    have ih5 : vp_in x1 6 := vin rfl (by omega) (by omega)
    refine ⟨ih5, ?_⟩
    intro k6 ek6
    have hk6 : k6 < 6 := by rw [ek6]; exact clamp_in ih5
    refine sp_X1_seatCount hn s_3.1 hk6 (fun r7 d8 l9 ⟨p_6, u_7⟩ => ?_)
    have s_8 : St e el d8 l9 := s_3.sq p_6
    have w_9 : d8 = d2 := p_6.2.1
    replace u_7 : (4 ≤ r7.toInt ∧ r7.toInt ≤ 8) := u_7
    have t_10 : (r7 - 1).toInt = r7.toInt - 1 := ti_sub rfl (rfl : (1 : Int32).toInt = 1) (by omega) (by omega)
    intro v10 e10
    have t_11 : v10.toInt = (r7.toInt - 1) := (congrArg Int32.toInt e10).trans t_10
    refine sp_X9_within hn s_8.1 (fun r11 d12 l13 ⟨p_12, u_13⟩ => ?_)
    have s_14 : St e el d12 l13 := s_8.sq p_12
    have w_15 : d12 = d8 := p_12.2.1
    replace u_13 : (0 ≤ r11.toInt ∧ r11.toInt ≤ 1 ∧ ((r11.toInt = 1 ∧ 0 ≤ x2.toInt ∧ x2.toInt ≤ v10.toInt) ∨ (r11.toInt = 0 ∧ ¬ (0 ≤ x2.toInt ∧ x2.toInt ≤ v10.toInt)))) := u_13
    refine ⟨fun h14 => ?_, fun h14 => ?_⟩
    · have h14 : r11.toInt = 0 := (i_eq rfl (rfl : (0 : Int32).toInt = 0)).mp h14
      exact hQ _ _ _ ⟨s_14, trivial⟩
    · have h14 : ¬ (r11.toInt = 0) := fun q => h14 ((i_eq rfl (rfl : (0 : Int32).toInt = 0)).mpr q)
      refine sp_X9_within hn s_14.1 (fun r15 d16 l17 ⟨p_16, u_17⟩ => ?_)
      have s_18 : St e el d16 l17 := s_14.sq p_16
      have w_19 : d16 = d12 := p_16.2.1
      replace u_17 : (0 ≤ r15.toInt ∧ r15.toInt ≤ 1 ∧ ((r15.toInt = 1 ∧ 0 ≤ x3.toInt ∧ x3.toInt ≤ v10.toInt) ∨ (r15.toInt = 0 ∧ ¬ (0 ≤ x3.toInt ∧ x3.toInt ≤ v10.toInt)))) := u_17
      refine ⟨fun h18 => ?_, fun h18 => ?_⟩
      · have h18 : ¬ (r15.toInt = 0) := fun q => h18 ((i_eq rfl (rfl : (0 : Int32).toInt = 0)).mpr q)
        have q_20 : d16 (37 + 3 * k6) 6 = (d (37 + 3 * k6) 6) := by rw [w_19]; rw [w_15]; rw [w_9]; rw [w_4]
        have m_21 := iv_37_6 hS.1 hk6
        have t_22 : (d16 (37 + 3 * k6) 6).toInt = (d (37 + 3 * k6) 6).toInt := (congrArg Int32.toInt q_20).trans rfl
        refine ⟨fun h19 => ?_, fun h19 => ?_⟩
        · have h19 : (d (37 + 3 * k6) 6).toInt = 0 := (i_eq t_22 (rfl : (0 : Int32).toInt = 0)).mp h19
          exact hQ _ _ _ ⟨s_18, trivial⟩
        · have h19 : ¬ ((d (37 + 3 * k6) 6).toInt = 0) := fun q => h19 ((i_eq t_22 (rfl : (0 : Int32).toInt = 0)).mpr q)
          have ih20 : vp_in x2 8 := vin rfl (by omega) (by omega)
          refine ⟨ih20, ?_⟩
          have q_23 : d16 (39 + 3 * k6) x2.toNatClampNeg = (d (39 + 3 * k6) x2.toNatClampNeg) := by rw [w_19]; rw [w_15]; rw [w_9]; rw [w_4]
          have m_24 := iv_39 hS.1 hk6 (x2.toNatClampNeg)
          have t_25 : (d16 (39 + 3 * k6) x2.toNatClampNeg).toInt = (d (39 + 3 * k6) x2.toNatClampNeg).toInt := (congrArg Int32.toInt q_23).trans rfl
          have t_26 : (irem x3 2).toInt = x3.toInt % 2 := ti_rem rfl (rfl : (2 : Int32).toInt = 2) (by omega) (by omega)
          refine sp_X4_maySit hn s_18.1 ⟨by rw [t_25]; omega, by rw [t_25]; omega⟩ (fun r21 d22 l23 ⟨p_27, u_28⟩ => ?_)
          have s_29 : St e el d22 l23 := s_18.sq p_27
          have w_30 : d22 = d16 := p_27.2.1
          replace u_28 : (0 ≤ r21.toInt ∧ r21.toInt ≤ 1) := u_28
          refine ⟨fun h24 => ?_, fun h24 => ?_⟩
          · have h24 : r21.toInt = 0 := (i_eq rfl (rfl : (0 : Int32).toInt = 0)).mp h24
            exact hQ _ _ _ ⟨s_29, trivial⟩
          · have h24 : ¬ (r21.toInt = 0) := fun q => h24 ((i_eq rfl (rfl : (0 : Int32).toInt = 0)).mpr q)
            have ih25 : vp_in x3 8 := vin rfl (by omega) (by omega)
            refine ⟨ih25, ?_⟩
            have q_31 : d22 (39 + 3 * k6) x3.toNatClampNeg = (d (39 + 3 * k6) x3.toNatClampNeg) := by rw [w_30]; rw [w_19]; rw [w_15]; rw [w_9]; rw [w_4]
            have m_32 := iv_39 hS.1 hk6 (x3.toNatClampNeg)
            have t_33 : (d22 (39 + 3 * k6) x3.toNatClampNeg).toInt = (d (39 + 3 * k6) x3.toNatClampNeg).toInt := (congrArg Int32.toInt q_31).trans rfl
            have t_34 : (irem x2 2).toInt = x2.toInt % 2 := ti_rem rfl (rfl : (2 : Int32).toInt = 2) (by omega) (by omega)
            refine sp_X4_maySit hn s_29.1 ⟨by rw [t_33]; omega, by rw [t_33]; omega⟩ (fun r26 d27 l28 ⟨p_35, u_36⟩ => ?_)
            have s_37 : St e el d27 l28 := s_29.sq p_35
            have w_38 : d27 = d22 := p_35.2.1
            replace u_36 : (0 ≤ r26.toInt ∧ r26.toInt ≤ 1) := u_36
            refine ⟨fun h29 => ?_, fun h29 => ?_⟩
            · have h29 : ¬ (r26.toInt = 0) := fun q => h29 ((i_eq rfl (rfl : (0 : Int32).toInt = 0)).mpr q)
              refine sp_X1_swapSeats hn s_37.1 hk6 ⟨by omega, by omega⟩ ⟨by omega, by omega⟩ (fun d31 l32 ⟨p_39, u_40⟩ => ?_)
              have s_41 : St e el d31 l32 := s_37.tr p_39
              refine sp_X8_weigh hn s_41.1 hk6 (fun d34 l35 ⟨p_42, u_43⟩ => ?_)
              have s_44 : St e el d34 l35 := s_41.tr p_42
              refine sp_X1_swapSeats hn s_44.1 hk6 ⟨by omega, by omega⟩ ⟨by omega, by omega⟩ (fun d37 l38 ⟨p_45, u_46⟩ => ?_)
              have s_47 : St e el d37 l38 := s_44.tr p_45
              refine sp_X8_tilt hn s_47.1 (fun r39 d40 l41 ⟨p_48, u_49⟩ => ?_)
              have s_50 : St e el d40 l41 := s_47.sq p_48
              have w_51 : d40 = d37 := p_48.2.1
              exact hQ _ _ _ ⟨s_50, trivial⟩
            · have h29 : r26.toInt = 0 := (i_eq rfl (rfl : (0 : Int32).toInt = 0)).mp h29
              exact hQ _ _ _ ⟨s_37, trivial⟩
      · have h18 : r15.toInt = 0 := (i_eq rfl (rfl : (0 : Int32).toInt = 0)).mp h18
        exact hQ _ _ _ ⟨s_18, trivial⟩
  · have h4 : r1.toInt = 0 := (i_eq rfl (rfl : (0 : Int32).toInt = 0)).mp h4
    exact hQ _ _ _ ⟨s_3, trivial⟩
set_option maxHeartbeats 4000000 in
set_option maxRecDepth 100000 in
theorem sp_X7_wordOf {n : Nat} (hn : 1000000000 ≤ n) {x0 : Int32} {d : DD} {dl : LL} (hI : Inv d) (bx0 : 0 ≤ x0.toInt ∧ x0.toInt ≤ 8) {Q : Nat → DD → LL → Prop} (hQ : ∀ (r : Nat) (d2 : DD) (l2 : LL), Sq d dl d2 l2 ∧ r < 19 → Q r d2 l2) : F_X7_wordOf n x0 d dl Q := by
  obtain ⟨e, he⟩ : ∃ e : DD, e = d := ⟨_, rfl⟩
  obtain ⟨el, hel⟩ : ∃ el : LL, el = dl := ⟨_, rfl⟩
  have hS : Sq e el d dl := by rw [he, hel]; exact Sq.rf hI
  rw [← he, ← hel] at hQ
  show (x0 = 0 → Q 0 d dl) ∧ (x0 = 1 → Q 1 d dl) ∧ (x0 = 2 → Q 2 d dl) ∧ (x0 = 3 → Q 3 d dl) ∧ (x0 = 4 → Q 4 d dl) ∧ (x0 = 5 → Q 5 d dl) ∧ (x0 = 6 → Q 6 d dl) ∧ (x0 = 7 → Q 7 d dl) ∧ (x0.toInt < 0 ∨ 7 < x0.toInt → Q 8 d dl)
  refine ⟨fun h1 => ?_, fun h1 => ?_, fun h1 => ?_, fun h1 => ?_, fun h1 => ?_, fun h1 => ?_, fun h1 => ?_, fun h1 => ?_, fun h1 => ?_⟩
  · have h1 : x0.toInt = 0 := (i_eq rfl (rfl : (0 : Int32).toInt = 0)).mp h1
    exact hQ _ _ _ ⟨hS, (Nat.le_of_ble_eq_true rfl)⟩
  · have h1 : x0.toInt = 1 := (i_eq rfl (rfl : (1 : Int32).toInt = 1)).mp h1
    exact hQ _ _ _ ⟨hS, (Nat.le_of_ble_eq_true rfl)⟩
  · have h1 : x0.toInt = 2 := (i_eq rfl (rfl : (2 : Int32).toInt = 2)).mp h1
    exact hQ _ _ _ ⟨hS, (Nat.le_of_ble_eq_true rfl)⟩
  · have h1 : x0.toInt = 3 := (i_eq rfl (rfl : (3 : Int32).toInt = 3)).mp h1
    exact hQ _ _ _ ⟨hS, (Nat.le_of_ble_eq_true rfl)⟩
  · have h1 : x0.toInt = 4 := (i_eq rfl (rfl : (4 : Int32).toInt = 4)).mp h1
    exact hQ _ _ _ ⟨hS, (Nat.le_of_ble_eq_true rfl)⟩
  · have h1 : x0.toInt = 5 := (i_eq rfl (rfl : (5 : Int32).toInt = 5)).mp h1
    exact hQ _ _ _ ⟨hS, (Nat.le_of_ble_eq_true rfl)⟩
  · have h1 : x0.toInt = 6 := (i_eq rfl (rfl : (6 : Int32).toInt = 6)).mp h1
    exact hQ _ _ _ ⟨hS, (Nat.le_of_ble_eq_true rfl)⟩
  · have h1 : x0.toInt = 7 := (i_eq rfl (rfl : (7 : Int32).toInt = 7)).mp h1
    exact hQ _ _ _ ⟨hS, (Nat.le_of_ble_eq_true rfl)⟩
  · have _ := hn
    exact hQ _ _ _ ⟨hS, (Nat.le_of_ble_eq_true rfl)⟩
set_option maxHeartbeats 4000000 in
set_option maxRecDepth 100000 in
theorem sp_X7_peek {n : Nat} (hn : 1000000000 ≤ n) {d : DD} {dl : LL} (hI : Inv d) {Q : Int32 → DD → LL → Prop} (hQ : ∀ (r : Int32) (d2 : DD) (l2 : LL), Sq d dl d2 l2 ∧ ((r.toInt = -1 ∨ (d 24 1).toInt < (d 24 0).toInt)) → Q r d2 l2) : F_X7_peek n d dl Q := by
  obtain ⟨e, he⟩ : ∃ e : DD, e = d := ⟨_, rfl⟩
  obtain ⟨el, hel⟩ : ∃ el : LL, el = dl := ⟨_, rfl⟩
  have hS : Sq e el d dl := by rw [he, hel]; exact Sq.rf hI
  rw [← he, ← hel] at hQ
  show ((d 24 0) ≤ (d 24 1) → Q (-1) d dl) ∧ (¬ (d 24 0) ≤ (d 24 1) → vp_in (d 24 1) 120 ∧ Q (d 25 (d 24 1).toNatClampNeg) d dl)
  have hx0 : (e 24 1).toInt = (d 24 1).toInt := by rw [he]
  have hx1 : (e 24 0).toInt = (d 24 0).toInt := by rw [he]
  have m_1 := iv_24_1 hS.1
  have m_2 := iv_24_0 hS.1
  refine ⟨fun h1 => ?_, fun h1 => ?_⟩
  · have h1 : (d 24 0).toInt ≤ (d 24 1).toInt := (i_le rfl rfl).mp h1
    exact hQ _ _ _ ⟨hS, (show (((-1) = -1 ∨ (e 24 1).toInt < (e 24 0).toInt)) from by omega)⟩
  · have h1 : ¬ ((d 24 0).toInt ≤ (d 24 1).toInt) := fun q => h1 ((i_le rfl rfl).mpr q)
    have ih2 : vp_in (d 24 1) 120 := vin rfl (by omega) (by omega)
    refine ⟨ih2, ?_⟩
    exact hQ _ _ _ ⟨hS, by omega⟩
set_option maxHeartbeats 4000000 in
set_option maxRecDepth 100000 in
theorem sp_X7_readBlank {n : Nat} (hn : 1000000000 ≤ n) {d : DD} {dl : LL} (hI : Inv d) {Q : Int32 → DD → LL → Prop} (hQ : ∀ (r : Int32) (d2 : DD) (l2 : LL), St d dl d2 l2 ∧ (0 ≤ r.toInt ∧ r.toInt ≤ 1) → Q r d2 l2) : F_X7_readBlank n d dl Q := by
  obtain ⟨e, he⟩ : ∃ e : DD, e = d := ⟨_, rfl⟩
  obtain ⟨el, hel⟩ : ∃ el : LL, el = dl := ⟨_, rfl⟩
  have hS : St e el d dl := by rw [he, hel]; exact St.rf hI
  rw [← he, ← hel] at hQ
  show F_X7_peek n d dl (fun r1 d2 l3 => (r1 = 32 → ∀ d5 : DD, d5 = u2 d2 24 1 ((d2 24 1) + 1) → Q 1 d5 l3) ∧ (¬ r1 = 32 → Q 0 d2 l3))
  refine sp_X7_peek hn hS.1 (fun r1 d2 l3 ⟨p_1, u_2⟩ => ?_)
  have s_3 : St e el d2 l3 := hS.sq p_1
  have w_4 : d2 = d := p_1.2.1
  replace u_2 : ((r1.toInt = -1 ∨ (d 24 1).toInt < (d 24 0).toInt)) := u_2
  have m_5 := iv_24_1 hS.1
  have m_6 := iv_24_0 hS.1
  refine ⟨fun h4 => ?_, fun h4 => ?_⟩
  · have h4 : r1.toInt = 32 := (i_eq rfl (rfl : (32 : Int32).toInt = 32)).mp h4
    have q_7 : d2 24 1 = (d 24 1) := by rw [w_4]
    have t_8 : (d2 24 1).toInt = (d 24 1).toInt := (congrArg Int32.toInt q_7).trans rfl
    have t_9 : ((d2 24 1) + 1).toInt = (d 24 1).toInt + 1 := ti_add t_8 (rfl : (1 : Int32).toInt = 1) (by omega) (by omega)
    intro d5 ed5
    have s_10 : St e el d5 l3 := by rw [ed5]; exact pv_24_1 s_3 (by rw [t_9]; omega) (by rw [t_9]; omega)
    exact hQ _ _ _ ⟨s_10, (show (0 ≤ 1 ∧ 1 ≤ 1) from by omega)⟩
  · have h4 : ¬ (r1.toInt = 32) := fun q => h4 ((i_eq rfl (rfl : (32 : Int32).toInt = 32)).mpr q)
    exact hQ _ _ _ ⟨s_3, (show (0 ≤ 0 ∧ 0 ≤ 1) from by omega)⟩
set_option maxHeartbeats 4000000 in
set_option maxRecDepth 100000 in
theorem sb_X7_readSign_25 {n : Nat} (hn : 1000000000 ≤ n) {e : DD} {el : LL} {Q : Int32 → DD → LL → Prop} (hQ : ∀ (r : Int32) (d2 : DD) (l2 : LL), St e el d2 l2 ∧ (0 ≤ r.toInt ∧ r.toInt ≤ 1) → Q r d2 l2) : ∀ (k1 : Nat) (x2 : Int32) (x3 : Int32) (hk1 : k1 < 6) (d : DD) (dl : LL), St e el d dl → (0 ≤ x2.toInt ∧ x2.toInt ≤ 7) → (60 ≤ x3.toInt ∧ x3.toInt ≤ 62) → ((d 24 1).toInt < (d 24 0).toInt ∧ (d 24 0).toInt ≤ 120) → b_X7_readSign_25 n Q k1 x2 x3 d dl := by
  intro k1 x2 x3 hk1 d dl hS bx2 bx3 bi0
  show vp_in x2 8 ∧ ∀ d6 : DD, d6 = u2 d (58 + 6 * k1) x2.toNatClampNeg x3 → ∀ d7 : DD, d7 = u2 d6 24 1 ((d6 24 1) + 1) → Q 1 d7 dl
  have ih5 : vp_in x2 8 := vin rfl (by omega) (by omega)
  refine ⟨ih5, ?_⟩
  intro d6 ed6
  have s_1 : St e el d6 dl := by rw [ed6]; exact pv_58 hS hk1
  have q_2 : d6 24 1 = (d 24 1) := by rw [ed6, u2_row (by omega)]
  have m_3 := iv_24_1 hS.1
  have t_4 : (d6 24 1).toInt = (d 24 1).toInt := (congrArg Int32.toInt q_2).trans rfl
  have t_5 : ((d6 24 1) + 1).toInt = (d 24 1).toInt + 1 := ti_add t_4 (rfl : (1 : Int32).toInt = 1) (by omega) (by omega)
  intro d7 ed7
  have s_6 : St e el d7 dl := by rw [ed7]; exact pv_24_1 s_1 (by rw [t_5]; omega) (by rw [t_5]; omega)
  exact hQ _ _ _ ⟨s_6, (show (0 ≤ 1 ∧ 1 ≤ 1) from by omega)⟩
set_option maxHeartbeats 4000000 in
set_option maxRecDepth 100000 in
theorem sp_X7_readSign {n : Nat} (hn : 1000000000 ≤ n) {k1 : Nat} {x2 : Int32} {d : DD} {dl : LL} (hI : Inv d) (hk1 : k1 < 6) (bx2 : 0 ≤ x2.toInt ∧ x2.toInt ≤ 7) {Q : Int32 → DD → LL → Prop} (hQ : ∀ (r : Int32) (d2 : DD) (l2 : LL), St d dl d2 l2 ∧ (0 ≤ r.toInt ∧ r.toInt ≤ 1) → Q r d2 l2) : F_X7_readSign n k1 x2 d dl Q := by
  obtain ⟨e, he⟩ : ∃ e : DD, e = d := ⟨_, rfl⟩
  obtain ⟨el, hel⟩ : ∃ el : LL, el = dl := ⟨_, rfl⟩
  have hS : St e el d dl := by rw [he, hel]; exact St.rf hI
  rw [← he, ← hel] at hQ
  show F_X7_peek n d dl (fun r1 d2 l3 => (r1 = 60 → b_X7_readSign_25 n Q k1 x2 r1 d2 l3) ∧ (¬ r1 = 60 → (r1 = 61 → b_X7_readSign_25 n Q k1 x2 r1 d2 l3) ∧ (¬ r1 = 61 → (r1 = 62 → b_X7_readSign_25 n Q k1 x2 r1 d2 l3) ∧ (¬ r1 = 62 → Q 0 d2 l3))))
  refine sp_X7_peek hn hS.1 (fun r1 d2 l3 ⟨p_7, u_8⟩ => ?_)
  have s_9 : St e el d2 l3 := hS.sq p_7
  have w_10 : d2 = d := p_7.2.1
  replace u_8 : ((r1.toInt = -1 ∨ (d 24 1).toInt < (d 24 0).toInt)) := u_8
  have m_11 := iv_24_1 hS.1
  have m_12 := iv_24_0 hS.1
  refine ⟨fun h4 => ?_, fun h4 => ?_⟩
  · have h4 : r1.toInt = 60 := (i_eq rfl (rfl : (60 : Int32).toInt = 60)).mp h4
    have q_13 : d2 24 1 = (d 24 1) := by rw [w_10]
    have t_14 : (d2 24 1).toInt = (d 24 1).toInt := (congrArg Int32.toInt q_13).trans rfl
    have q_15 : d2 24 0 = (d 24 0) := by rw [w_10]
    have t_16 : (d2 24 0).toInt = (d 24 0).toInt := (congrArg Int32.toInt q_15).trans rfl
    exact sb_X7_readSign_25 hn hQ _ _ _ hk1 _ _ s_9 (by omega) (by omega) (by omega)
  · have h4 : ¬ (r1.toInt = 60) := fun q => h4 ((i_eq rfl (rfl : (60 : Int32).toInt = 60)).mpr q)
    refine ⟨fun h8 => ?_, fun h8 => ?_⟩
    · have h8 : r1.toInt = 61 := (i_eq rfl (rfl : (61 : Int32).toInt = 61)).mp h8
      have q_17 : d2 24 1 = (d 24 1) := by rw [w_10]
      have t_18 : (d2 24 1).toInt = (d 24 1).toInt := (congrArg Int32.toInt q_17).trans rfl
      have q_19 : d2 24 0 = (d 24 0) := by rw [w_10]
      have t_20 : (d2 24 0).toInt = (d 24 0).toInt := (congrArg Int32.toInt q_19).trans rfl
      exact sb_X7_readSign_25 hn hQ _ _ _ hk1 _ _ s_9 (by omega) (by omega) (by omega)
    · have h8 : ¬ (r1.toInt = 61) := fun q => h8 ((i_eq rfl (rfl : (61 : Int32).toInt = 61)).mpr q)
      refine ⟨fun h9 => ?_, fun h9 => ?_⟩
      · have h9 : r1.toInt = 62 := (i_eq rfl (rfl : (62 : Int32).toInt = 62)).mp h9
        have q_21 : d2 24 1 = (d 24 1) := by rw [w_10]
        have t_22 : (d2 24 1).toInt = (d 24 1).toInt := (congrArg Int32.toInt q_21).trans rfl
        have q_23 : d2 24 0 = (d 24 0) := by rw [w_10]
        have t_24 : (d2 24 0).toInt = (d 24 0).toInt := (congrArg Int32.toInt q_23).trans rfl
        exact sb_X7_readSign_25 hn hQ _ _ _ hk1 _ _ s_9 (by omega) (by omega) (by omega)
      · have h9 : ¬ (r1.toInt = 62) := fun q => h9 ((i_eq rfl (rfl : (62 : Int32).toInt = 62)).mpr q)
        exact hQ _ _ _ ⟨s_9, (show (0 ≤ 0 ∧ 0 ≤ 1) from by omega)⟩
set_option maxHeartbeats 4000000 in
set_option maxRecDepth 100000 in
theorem sb_X7_readNumber_54 {n : Nat} (hn : 1000000000 ≤ n) {e : DD} {el : LL} {Q : Int32 → DD → LL → Prop} (hQ : ∀ (r : Int32) (d2 : DD) (l2 : LL), St e el d2 l2 ∧ (0 ≤ r.toInt ∧ r.toInt ≤ 1) → Q r d2 l2) : ∀ (k1 : Nat) (x2 : Int32) (x3 : Int32) (x4 : Int32) (hk1 : k1 < 6) (d : DD) (dl : LL), St e el d dl → (0 ≤ x2.toInt ∧ x2.toInt ≤ 7) → (0 ≤ x4.toInt ∧ x4.toInt ≤ 4) → b_X7_readNumber_54 n Q k1 x2 x3 x4 d dl := by
  intro k1 x2 x3 x4 hk1 d dl hS bx2 bx4
  show vp_in x2 8 ∧ ∀ d3 : DD, d3 = u2 d (59 + 6 * k1) x2.toNatClampNeg x3 → (x4 ≤ 0 → Q 0 d3 dl) ∧ (¬ x4 ≤ 0 → Q 1 d3 dl)
  have ih2 : vp_in x2 8 := vin rfl (by omega) (by omega)
  refine ⟨ih2, ?_⟩
  intro d3 ed3
  have s_1 : St e el d3 dl := by rw [ed3]; exact pv_59 hS hk1
  refine ⟨fun h4 => ?_, fun h4 => ?_⟩
  · have h4 : x4.toInt ≤ 0 := (i_le rfl (rfl : (0 : Int32).toInt = 0)).mp h4
    exact hQ _ _ _ ⟨s_1, (show (0 ≤ 0 ∧ 0 ≤ 1) from by omega)⟩
  · have h4 : ¬ (x4.toInt ≤ 0) := fun q => h4 ((i_le rfl (rfl : (0 : Int32).toInt = 0)).mpr q)
    exact hQ _ _ _ ⟨s_1, (show (0 ≤ 1 ∧ 1 ≤ 1) from by omega)⟩
set_option maxHeartbeats 4000000 in
set_option maxRecDepth 100000 in
theorem sb_X7_readNumber_5 {n : Nat} (hn : 1000000000 ≤ n) {e : DD} {el : LL} {Q : Int32 → DD → LL → Prop} (hQ : ∀ (r : Int32) (d2 : DD) (l2 : LL), St e el d2 l2 ∧ (0 ≤ r.toInt ∧ r.toInt ≤ 1) → Q r d2 l2) : ∀ (j5 : Nat) (k1 : Nat) (x2 : Int32) (x3 : Int32) (x4 : Int32) (hk1 : k1 < 6) (d : DD) (dl : LL), St e el d dl → (0 ≤ x2.toInt ∧ x2.toInt ≤ 7) → (0 ≤ x4.toInt ∧ x4.toInt ≤ 4) → 5 - x4.toInt < (j5 : Int) → b_X7_readNumber_5 n Q j5 k1 x2 x3 x4 d dl := by
  intro j5
  induction j5 with
  | zero =>
    intro k1 x2 x3 x4 hk1 d dl hS bx2 bx4 hm5
    exfalso
    omega
  | succ j5 hK5 =>
    intro k1 x2 x3 x4 hk1 d dl hS bx2 bx4 hm5
    show (4 ≤ x4 → b_X7_readNumber_54 n Q k1 x2 x3 x4 d dl) ∧ (¬ 4 ≤ x4 → F_X7_peek n d dl (fun r5 d6 l7 => F_X9_within n r5 48 57 d6 l7 (fun r8 d9 l10 => (r8 = 0 → b_X7_readNumber_54 n Q k1 x2 x3 x4 d9 l10) ∧ (¬ r8 = 0 → F_X7_peek n d9 l10 (fun r12 d13 l14 => ∀ v15 : Int32, v15 = (((10 : Int32) * x3) + (r12 - 48)) → ∀ d16 : DD, d16 = u2 d13 24 1 ((d13 24 1) + 1) → (b_X7_readNumber_5 n Q j5) k1 x2 v15 (x4 + 1) d16 l14)))))
    refine ⟨fun h1 => ?_, fun h1 => ?_⟩
    · have h1 : 4 ≤ x4.toInt := (i_le (rfl : (4 : Int32).toInt = 4) rfl).mp h1
      exact sb_X7_readNumber_54 hn hQ _ _ _ _ hk1 _ _ hS (by omega) (by omega)
    · have h1 : ¬ (4 ≤ x4.toInt) := fun q => h1 ((i_le (rfl : (4 : Int32).toInt = 4) rfl).mpr q)
      refine sp_X7_peek hn hS.1 (fun r5 d6 l7 ⟨p_2, u_3⟩ => ?_)
      have s_4 : St e el d6 l7 := hS.sq p_2
      have w_5 : d6 = d := p_2.2.1
      replace u_3 : ((r5.toInt = -1 ∨ (d 24 1).toInt < (d 24 0).toInt)) := u_3
      have m_6 := iv_24_1 hS.1
      have m_7 := iv_24_0 hS.1
      refine sp_X9_within hn s_4.1 (fun r8 d9 l10 ⟨p_8, u_9⟩ => ?_)
      have s_10 : St e el d9 l10 := s_4.sq p_8
      have w_11 : d9 = d6 := p_8.2.1
      replace u_9 : (0 ≤ r8.toInt ∧ r8.toInt ≤ 1 ∧ ((r8.toInt = 1 ∧ 48 ≤ r5.toInt ∧ r5.toInt ≤ 57) ∨ (r8.toInt = 0 ∧ ¬ (48 ≤ r5.toInt ∧ r5.toInt ≤ 57)))) := u_9
      refine ⟨fun h11 => ?_, fun h11 => ?_⟩
      · have h11 : r8.toInt = 0 := (i_eq rfl (rfl : (0 : Int32).toInt = 0)).mp h11
        exact sb_X7_readNumber_54 hn hQ _ _ _ _ hk1 _ _ s_10 (by omega) (by omega)
      · have h11 : ¬ (r8.toInt = 0) := fun q => h11 ((i_eq rfl (rfl : (0 : Int32).toInt = 0)).mpr q)
        refine sp_X7_peek hn s_10.1 (fun r12 d13 l14 ⟨p_12, u_13⟩ => ?_)
        have s_14 : St e el d13 l14 := s_10.sq p_12
        have w_15 : d13 = d9 := p_12.2.1
        replace u_13 : ((r12.toInt = -1 ∨ (d9 24 1).toInt < (d9 24 0).toInt)) := u_13
        have q_16 : d9 24 1 = (d 24 1) := by rw [w_11]; rw [w_5]
        have t_17 : (d9 24 1).toInt = (d 24 1).toInt := (congrArg Int32.toInt q_16).trans rfl
        have q_18 : d9 24 0 = (d 24 0) := by rw [w_11]; rw [w_5]
        have t_19 : (d9 24 0).toInt = (d 24 0).toInt := (congrArg Int32.toInt q_18).trans rfl
        intro v15 e15
        have t_20 : v15.toInt = (((10 : Int32) * x3) + (r12 - 48)).toInt := (congrArg Int32.toInt e15).trans rfl
        have q_21 : d13 24 1 = (d 24 1) := by rw [w_15]; rw [w_11]; rw [w_5]
        have t_22 : (d13 24 1).toInt = (d 24 1).toInt := (congrArg Int32.toInt q_21).trans rfl
        have t_23 : ((d13 24 1) + 1).toInt = (d 24 1).toInt + 1 := ti_add t_22 (rfl : (1 : Int32).toInt = 1) (by omega) (by omega)
        intro d16 ed16
        have s_24 : St e el d16 l14 := by rw [ed16]; exact pv_24_1 s_14 (by rw [t_23]; omega) (by rw [t_23]; omega)
        have t_25 : (x4 + 1).toInt = x4.toInt + 1 := ti_add rfl (rfl : (1 : Int32).toInt = 1) (by omega) (by omega)
        exact hK5 _ _ _ _ hk1 _ _ s_24 (by omega) (by omega) (by omega)
set_option maxHeartbeats 4000000 in
set_option maxRecDepth 100000 in
theorem sp_X7_readNumber {n : Nat} (hn : 1000000000 ≤ n) {k1 : Nat} {x2 : Int32} {d : DD} {dl : LL} (hI : Inv d) (hk1 : k1 < 6) (bx2 : 0 ≤ x2.toInt ∧ x2.toInt ≤ 7) {Q : Int32 → DD → LL → Prop} (hQ : ∀ (r : Int32) (d2 : DD) (l2 : LL), St d dl d2 l2 ∧ (0 ≤ r.toInt ∧ r.toInt ≤ 1) → Q r d2 l2) : F_X7_readNumber n k1 x2 d dl Q := by
  obtain ⟨e, he⟩ : ∃ e : DD, e = d := ⟨_, rfl⟩
  obtain ⟨el, hel⟩ : ∃ el : LL, el = dl := ⟨_, rfl⟩
  have hS : St e el d dl := by rw [he, hel]; exact St.rf hI
  rw [← he, ← hel] at hQ
  show b_X7_readNumber_5 n Q n k1 x2 0 0 d dl
  exact sb_X7_readNumber_5 hn hQ n _ _ _ _ hk1 _ _ hS (by omega) (show 0 ≤ 0 ∧ 0 ≤ 4 from by omega) (show 5 - 0 < (n : Int) from by omega)
