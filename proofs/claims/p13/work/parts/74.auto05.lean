set_option maxHeartbeats 4000000 in
set_option maxRecDepth 100000 in
theorem sb_X3_placeOf_15 {n : Nat} (hn : 1000000000 ≤ n) {e : DD} {el : LL} {Q : Int32 → DD → LL → Prop} (hQ : ∀ (r : Int32) (d2 : DD) (l2 : LL), Sq e el d2 l2 ∧ (0 ≤ r.toInt ∧ r.toInt ≤ 5) → Q r d2 l2) : ∀ (j15 : Nat) (k0 : Nat) (x1 : Int32) (x2 : Int32) (x3 : Int32) (hk0 : k0 < 24) (d : DD) (dl : LL), Sq e el d dl → (0 ≤ x1.toInt ∧ x1.toInt ≤ 3) → (1 ≤ x2.toInt ∧ x2.toInt ≤ 5) → (0 ≤ x3.toInt ∧ x3.toInt ≤ 4) → (x2.toInt ≤ 1 + x3.toInt) → 5 - x3.toInt < (j15 : Int) → b_X3_placeOf_15 n Q j15 k0 x1 x2 x3 d dl := by
  intro j15
  induction j15 with
  | zero =>
    intro k0 x1 x2 x3 hk0 d dl hS bx1 bx2 bx3 bi0 hm15
    exfalso
    omega
  | succ j15 hK15 =>
    intro k0 x1 x2 x3 hk0 d dl hS bx1 bx2 bx3 bi0 hm15
    show (4 ≤ x3 → Q x2 d dl) ∧ (¬ 4 ≤ x3 → vp_in x3 4 ∧ ((d (93 + 5 * k0) x3.toNatClampNeg) ≤ 0 → b_X3_placeOf_49 n Q (b_X3_placeOf_15 n Q j15) k0 x1 x3 x2 d dl) ∧ (¬ (d (93 + 5 * k0) x3.toNatClampNeg) ≤ 0 → vp_in x3 4 ∧ vp_in x1 4 ∧ ((d (93 + 5 * k0) x1.toNatClampNeg) ≤ (d (93 + 5 * k0) x3.toNatClampNeg) → b_X3_placeOf_49 n Q (b_X3_placeOf_15 n Q j15) k0 x1 x3 x2 d dl) ∧ (¬ (d (93 + 5 * k0) x1.toNatClampNeg) ≤ (d (93 + 5 * k0) x3.toNatClampNeg) → b_X3_placeOf_50 n Q (b_X3_placeOf_15 n Q j15) k0 x1 x3 1 x2 d dl)))
    refine ⟨fun h3 => ?_, fun h3 => ?_⟩
    · have h3 : 4 ≤ x3.toInt := (i_le (rfl : (4 : Int32).toInt = 4) rfl).mp h3
      exact hQ _ _ _ ⟨hS, by omega⟩
    · have h3 : ¬ (4 ≤ x3.toInt) := fun q => h3 ((i_le (rfl : (4 : Int32).toInt = 4) rfl).mpr q)
      have ih4 : vp_in x3 4 := vin rfl (by omega) (by omega)
      refine ⟨ih4, ?_⟩
      refine ⟨fun h5 => ?_, fun h5 => ?_⟩
      · have h5 : (d (93 + 5 * k0) x3.toNatClampNeg).toInt ≤ 0 := (i_le rfl (rfl : (0 : Int32).toInt = 0)).mp h5
        exact sb_X3_placeOf_49 hn hQ hK15 _ _ _ _ hk0 _ _ hS (by omega) (by omega) (by omega) (by omega) (by omega)
      · have h5 : ¬ ((d (93 + 5 * k0) x3.toNatClampNeg).toInt ≤ 0) := fun q => h5 ((i_le rfl (rfl : (0 : Int32).toInt = 0)).mpr q)
        have ih7 : vp_in x3 4 := vin rfl (by omega) (by omega)
        refine ⟨ih7, ?_⟩
        have ih8 : vp_in x1 4 := vin rfl (by omega) (by omega)
        refine ⟨ih8, ?_⟩
        refine ⟨fun h9 => ?_, fun h9 => ?_⟩
        · have h9 : (d (93 + 5 * k0) x1.toNatClampNeg).toInt ≤ (d (93 + 5 * k0) x3.toNatClampNeg).toInt := (i_le rfl rfl).mp h9
          exact sb_X3_placeOf_49 hn hQ hK15 _ _ _ _ hk0 _ _ hS (by omega) (by omega) (by omega) (by omega) (by omega)
        · have h9 : ¬ ((d (93 + 5 * k0) x1.toNatClampNeg).toInt ≤ (d (93 + 5 * k0) x3.toNatClampNeg).toInt) := fun q => h9 ((i_le rfl rfl).mpr q)
          exact sb_X3_placeOf_50 hn hQ hK15 _ _ _ _ _ hk0 _ _ hS (by omega) (by omega) (show 0 ≤ 1 ∧ 1 ≤ 1 from by omega) (by omega) (by omega) (by omega)
set_option maxHeartbeats 4000000 in
set_option maxRecDepth 100000 in
theorem sp_X3_placeOf {n : Nat} (hn : 1000000000 ≤ n) {k0 : Nat} {x1 : Int32} {d : DD} {dl : LL} (hI : Inv d) (hk0 : k0 < 24) (bx1 : 0 ≤ x1.toInt ∧ x1.toInt ≤ 3) {Q : Int32 → DD → LL → Prop} (hQ : ∀ (r : Int32) (d2 : DD) (l2 : LL), Sq d dl d2 l2 ∧ (0 ≤ r.toInt ∧ r.toInt ≤ 5) → Q r d2 l2) : F_X3_placeOf n k0 x1 d dl Q := by
  obtain ⟨e, he⟩ : ∃ e : DD, e = d := ⟨_, rfl⟩
  obtain ⟨el, hel⟩ : ∃ el : LL, el = dl := ⟨_, rfl⟩
  have hS : Sq e el d dl := by rw [he, hel]; exact Sq.rf hI
  rw [← he, ← hel] at hQ
  show vp_in x1 4 ∧ (¬ (d (93 + 5 * k0) x1.toNatClampNeg) = 0 → b_X3_placeOf_15 n Q n k0 x1 1 0 d dl) ∧ ((d (93 + 5 * k0) x1.toNatClampNeg) = 0 → Q 0 d dl)
  have ih1 : vp_in x1 4 := vin rfl (by omega) (by omega)
  refine ⟨ih1, ?_⟩
  refine ⟨fun h2 => ?_, fun h2 => ?_⟩
  · have h2 : ¬ ((d (93 + 5 * k0) x1.toNatClampNeg).toInt = 0) := fun q => h2 ((i_eq rfl (rfl : (0 : Int32).toInt = 0)).mpr q)
    exact sb_X3_placeOf_15 hn hQ n _ _ _ _ hk0 _ _ hS (by omega) (show 1 ≤ 1 ∧ 1 ≤ 5 from by omega) (show 0 ≤ 0 ∧ 0 ≤ 4 from by omega) (show 1 ≤ 1 + 0 from by omega) (show 5 - 0 < (n : Int) from by omega)
  · have h2 : (d (93 + 5 * k0) x1.toNatClampNeg).toInt = 0 := (i_eq rfl (rfl : (0 : Int32).toInt = 0)).mp h2
    exact hQ _ _ _ ⟨hS, (show (0 ≤ 0 ∧ 0 ≤ 5) from by omega)⟩
set_option maxHeartbeats 4000000 in
set_option maxRecDepth 100000 in
theorem sp_X9_told {n : Nat} (hn : 1000000000 ≤ n) {x1 : Int32} {x2 : Int32} {x3 : Int32} {d : DD} {dl : LL} (hI : Inv d) {Q : Int32 → DD → LL → Prop} (hQ : ∀ (r : Int32) (d2 : DD) (l2 : LL), Sq d dl d2 l2 ∧ (True) → Q r d2 l2) : F_X9_told n x1 x2 x3 d dl Q := by
  obtain ⟨e, he⟩ : ∃ e : DD, e = d := ⟨_, rfl⟩
  obtain ⟨el, hel⟩ : ∃ el : LL, el = dl := ⟨_, rfl⟩
  have hS : Sq e el d dl := by rw [he, hel]; exact Sq.rf hI
  rw [← he, ← hel] at hQ
  show F_X9_isRace n x1 d dl (fun r1 d2 l3 => (r1 = 0 → Q (-1) d2 l3) ∧ (¬ r1 = 0 → F_X9_isLane n x2 d2 l3 (fun r5 d6 l7 => (r5 = 0 → Q (-1) d6 l7) ∧ (¬ r5 = 0 → vp_in x1 24 ∧ ∀ k10 : Nat, k10 = x1.toNatClampNeg → vp_in x2 4 ∧ (¬ (d6 (92 + 5 * k10) x2.toNatClampNeg) = (-1) → (x3 = 0 → vp_in x1 24 ∧ ∀ k14 : Nat, k14 = x1.toNatClampNeg → vp_in x2 4 ∧ Q (d6 (92 + 5 * k14) x2.toNatClampNeg) d6 l7) ∧ (x3 = 1 → vp_in x1 24 ∧ ∀ k17 : Nat, k17 = x1.toNatClampNeg → vp_in x2 4 ∧ Q (d6 (93 + 5 * k17) x2.toNatClampNeg) d6 l7) ∧ (x3 = 2 → vp_in x1 24 ∧ ∀ k20 : Nat, k20 = x1.toNatClampNeg → F_X3_placeOf n k20 x2 d6 l7 (fun r21 d22 l23 => Q r21 d22 l23)) ∧ (x3 = 3 → vp_in x1 24 ∧ ∀ k25 : Nat, k25 = x1.toNatClampNeg → vp_in x2 4 ∧ Q (d6 (94 + 5 * k25) x2.toNatClampNeg) d6 l7) ∧ (x3.toInt < 0 ∨ 3 < x3.toInt → Q (-1) d6 l7)) ∧ ((d6 (92 + 5 * k10) x2.toNatClampNeg) = (-1) → Q (-1) d6 l7)))))
  refine sp_X9_isRace hn hS.1 (fun r1 d2 l3 ⟨p_1, u_2⟩ => ?_)
  have s_3 : Sq e el d2 l3 := hS.tr p_1
  have w_4 : d2 = d := p_1.2.1
  replace u_2 : (0 ≤ r1.toInt ∧ r1.toInt ≤ 1 ∧ ((r1.toInt = 1 ∧ 0 ≤ x1.toInt ∧ x1.toInt < (d 0 13).toInt) ∨ (r1.toInt = 0 ∧ ¬ (0 ≤ x1.toInt ∧ x1.toInt < (d 0 13).toInt)))) := u_2
  have m_5 := iv_0_13 hS.1
  refine ⟨fun h4 => ?_, fun h4 => ?_⟩
  · have h4 : r1.toInt = 0 := (i_eq rfl (rfl : (0 : Int32).toInt = 0)).mp h4
    exact hQ _ _ _ ⟨s_3, trivial⟩
  · have h4 : ¬ (r1.toInt = 0) := fun q => h4 ((i_eq rfl (rfl : (0 : Int32).toInt = 0)).mpr q)
    refine sp_X9_isLane hn s_3.1 (fun r5 d6 l7 ⟨p_6, u_7⟩ => ?_)
    have s_8 : Sq e el d6 l7 := s_3.tr p_6
    have w_9 : d6 = d2 := p_6.2.1
    replace u_7 : (0 ≤ r5.toInt ∧ r5.toInt ≤ 1 ∧ ((r5.toInt = 1 ∧ 0 ≤ x2.toInt ∧ x2.toInt ≤ 3) ∨ (r5.toInt = 0 ∧ ¬ (0 ≤ x2.toInt ∧ x2.toInt ≤ 3)))) := u_7
    refine ⟨fun h8 => ?_, fun h8 => ?_⟩
    · have h8 : r5.toInt = 0 := (i_eq rfl (rfl : (0 : Int32).toInt = 0)).mp h8
      exact hQ _ _ _ ⟨s_8, trivial⟩
    · have h8 : ¬ (r5.toInt = 0) := fun q => h8 ((i_eq rfl (rfl : (0 : Int32).toInt = 0)).mpr q)
      have ih9 : vp_in x1 24 := vin rfl (by omega) (by omega)
      refine ⟨ih9, ?_⟩
      intro k10 ek10
      have hk10 : k10 < 24 := by rw [ek10]; exact clamp_in ih9
      have ih11 : vp_in x2 4 := vin rfl (by omega) (by omega)
      refine ⟨ih11, ?_⟩
      have q_10 : d6 (92 + 5 * k10) x2.toNatClampNeg = (d (92 + 5 * k10) x2.toNatClampNeg) := by rw [w_9]; rw [w_4]
      have m_11 := iv_92 hS.1 hk10 (x2.toNatClampNeg)
      have t_12 : (d6 (92 + 5 * k10) x2.toNatClampNeg).toInt = (d (92 + 5 * k10) x2.toNatClampNeg).toInt := (congrArg Int32.toInt q_10).trans rfl
      refine ⟨fun h12 => ?_, fun h12 => ?_⟩
      · have h12 : ¬ ((d (92 + 5 * k10) x2.toNatClampNeg).toInt = (-1)) := fun q => h12 ((i_eq t_12 (rfl : ((-1) : Int32).toInt = (-1))).mpr q)
        refine ⟨fun h27 => ?_, fun h27 => ?_, fun h27 => ?_, fun h27 => ?_, fun h27 => ?_⟩
        · have h27 : x3.toInt = 0 := (i_eq rfl (rfl : (0 : Int32).toInt = 0)).mp h27
          have ih13 : vp_in x1 24 := vin rfl (by omega) (by omega)
          refine ⟨ih13, ?_⟩
          intro k14 ek14
          have hk14 : k14 < 24 := by rw [ek14]; exact clamp_in ih13
          have ih15 : vp_in x2 4 := vin rfl (by omega) (by omega)
          refine ⟨ih15, ?_⟩
          have q_13 : d6 (92 + 5 * k14) x2.toNatClampNeg = (d (92 + 5 * k14) x2.toNatClampNeg) := by rw [w_9]; rw [w_4]
          have m_14 := iv_92 hS.1 hk14 (x2.toNatClampNeg)
          have t_15 : (d6 (92 + 5 * k14) x2.toNatClampNeg).toInt = (d (92 + 5 * k14) x2.toNatClampNeg).toInt := (congrArg Int32.toInt q_13).trans rfl
          exact hQ _ _ _ ⟨s_8, trivial⟩
        · have h27 : x3.toInt = 1 := (i_eq rfl (rfl : (1 : Int32).toInt = 1)).mp h27
          have ih16 : vp_in x1 24 := vin rfl (by omega) (by omega)
          refine ⟨ih16, ?_⟩
          intro k17 ek17
          have hk17 : k17 < 24 := by rw [ek17]; exact clamp_in ih16
          have ih18 : vp_in x2 4 := vin rfl (by omega) (by omega)
          refine ⟨ih18, ?_⟩
          have q_16 : d6 (93 + 5 * k17) x2.toNatClampNeg = (d (93 + 5 * k17) x2.toNatClampNeg) := by rw [w_9]; rw [w_4]
          have t_17 : (d6 (93 + 5 * k17) x2.toNatClampNeg).toInt = (d (93 + 5 * k17) x2.toNatClampNeg).toInt := (congrArg Int32.toInt q_16).trans rfl
          exact hQ _ _ _ ⟨s_8, trivial⟩
        · have h27 : x3.toInt = 2 := (i_eq rfl (rfl : (2 : Int32).toInt = 2)).mp h27
          have ih19 : vp_in x1 24 := vin rfl (by omega) (by omega)
          refine ⟨ih19, ?_⟩
          intro k20 ek20
          have hk20 : k20 < 24 := by rw [ek20]; exact clamp_in ih19
          refine sp_X3_placeOf hn s_8.1 hk20 ⟨by omega, by omega⟩ (fun r21 d22 l23 ⟨p_18, u_19⟩ => ?_)
          have s_20 : Sq e el d22 l23 := s_8.tr p_18
          have w_21 : d22 = d6 := p_18.2.1
          replace u_19 : (0 ≤ r21.toInt ∧ r21.toInt ≤ 5) := u_19
          exact hQ _ _ _ ⟨s_20, trivial⟩
        · have h27 : x3.toInt = 3 := (i_eq rfl (rfl : (3 : Int32).toInt = 3)).mp h27
          have ih24 : vp_in x1 24 := vin rfl (by omega) (by omega)
          refine ⟨ih24, ?_⟩
          intro k25 ek25
          have hk25 : k25 < 24 := by rw [ek25]; exact clamp_in ih24
          have ih26 : vp_in x2 4 := vin rfl (by omega) (by omega)
          refine ⟨ih26, ?_⟩
          have q_22 : d6 (94 + 5 * k25) x2.toNatClampNeg = (d (94 + 5 * k25) x2.toNatClampNeg) := by rw [w_9]; rw [w_4]
          have t_23 : (d6 (94 + 5 * k25) x2.toNatClampNeg).toInt = (d (94 + 5 * k25) x2.toNatClampNeg).toInt := (congrArg Int32.toInt q_22).trans rfl
          exact hQ _ _ _ ⟨s_8, trivial⟩
        · have _ := hn
          exact hQ _ _ _ ⟨s_8, trivial⟩
      · have h12 : (d (92 + 5 * k10) x2.toNatClampNeg).toInt = (-1) := (i_eq t_12 (rfl : ((-1) : Int32).toInt = (-1))).mp h12
        exact hQ _ _ _ ⟨s_8, trivial⟩
set_option maxHeartbeats 4000000 in
set_option maxRecDepth 100000 in
theorem sb_X3_forgetTimes_7 {n : Nat} (hn : 1000000000 ≤ n) {e : DD} {el : LL} {Q : DD → LL → Prop} (hQ : ∀ (d2 : DD) (l2 : LL), St e el d2 l2 ∧ True → Q d2 l2) : ∀ (j7 : Nat) (k0 : Nat) (x1 : Int32) (hk0 : k0 < 24) (d : DD) (dl : LL), St e el d dl → (0 ≤ x1.toInt ∧ x1.toInt ≤ 4) → 5 - x1.toInt < (j7 : Int) → b_X3_forgetTimes_7 n Q j7 k0 x1 d dl := by
  intro j7
  induction j7 with
  | zero =>
    intro k0 x1 hk0 d dl hS bx1 hm7
    exfalso
    omega
  | succ j7 hK7 =>
    intro k0 x1 hk0 d dl hS bx1 hm7
    show (4 ≤ x1 → Q d dl) ∧ (¬ 4 ≤ x1 → vp_in x1 4 ∧ ∀ d4 : DD, d4 = u2 d (93 + 5 * k0) x1.toNatClampNeg 0 → vp_in x1 4 ∧ ∀ d6 : DD, d6 = u2 d4 (94 + 5 * k0) x1.toNatClampNeg 0 → (b_X3_forgetTimes_7 n Q j7) k0 (x1 + 1) d6 dl)
    refine ⟨fun h2 => ?_, fun h2 => ?_⟩
    · have h2 : 4 ≤ x1.toInt := (i_le (rfl : (4 : Int32).toInt = 4) rfl).mp h2
      exact hQ _ _ ⟨hS, trivial⟩
    · have h2 : ¬ (4 ≤ x1.toInt) := fun q => h2 ((i_le (rfl : (4 : Int32).toInt = 4) rfl).mpr q)
      have ih3 : vp_in x1 4 := vin rfl (by omega) (by omega)
      refine ⟨ih3, ?_⟩
      intro d4 ed4
      have s_1 : St e el d4 dl := by rw [ed4]; exact pv_93 hS hk0
      have ih5 : vp_in x1 4 := vin rfl (by omega) (by omega)
      refine ⟨ih5, ?_⟩
      intro d6 ed6
      have s_2 : St e el d6 dl := by rw [ed6]; exact pv_94 s_1 hk0
      have t_3 : (x1 + 1).toInt = x1.toInt + 1 := ti_add rfl (rfl : (1 : Int32).toInt = 1) (by omega) (by omega)
      exact hK7 _ _ hk0 _ _ s_2 (by omega) (by omega)
set_option maxHeartbeats 4000000 in
set_option maxRecDepth 100000 in
theorem sp_X3_forgetTimes {n : Nat} (hn : 1000000000 ≤ n) {k0 : Nat} {d : DD} {dl : LL} (hI : Inv d) (hk0 : k0 < 24) {Q : DD → LL → Prop} (hQ : ∀ (d2 : DD) (l2 : LL), St d dl d2 l2 ∧ True → Q d2 l2) : F_X3_forgetTimes n k0 d dl Q := by
  obtain ⟨e, he⟩ : ∃ e : DD, e = d := ⟨_, rfl⟩
  obtain ⟨el, hel⟩ : ∃ el : LL, el = dl := ⟨_, rfl⟩
  have hS : St e el d dl := by rw [he, hel]; exact St.rf hI
  rw [← he, ← hel] at hQ
  show ∀ d1 : DD, d1 = u2 d (91 + 5 * k0) 2 0 → b_X3_forgetTimes_7 n Q n k0 0 d1 dl
  intro d1 ed1
  have s_4 : St e el d1 dl := by rw [ed1]; exact pv_91_2 hS hk0 (by decide) (by decide)
  exact sb_X3_forgetTimes_7 hn hQ n _ _ hk0 _ _ s_4 (show 0 ≤ 0 ∧ 0 ≤ 4 from by omega) (show 5 - 0 < (n : Int) from by omega)
set_option maxHeartbeats 4000000 in
set_option maxRecDepth 100000 in
theorem sp_X9_again {n : Nat} (hn : 1000000000 ≤ n) {x1 : Int32} {d : DD} {dl : LL} (hI : Inv d) {Q : Int32 → DD → LL → Prop} (hQ : ∀ (r : Int32) (d2 : DD) (l2 : LL), St d dl d2 l2 ∧ (True) → Q r d2 l2) : F_X9_again n x1 d dl Q := by
  obtain ⟨e, he⟩ : ∃ e : DD, e = d := ⟨_, rfl⟩
  obtain ⟨el, hel⟩ : ∃ el : LL, el = dl := ⟨_, rfl⟩
  have hS : St e el d dl := by rw [he, hel]; exact St.rf hI
  rw [← he, ← hel] at hQ
  show F_X9_isRace n x1 d dl (fun r1 d2 l3 => (¬ r1 = 0 → vp_in x1 24 ∧ ∀ k6 : Nat, k6 = x1.toNatClampNeg → F_X3_timeCount n k6 d2 l3 (fun r7 d8 l9 => vp_in x1 24 ∧ ∀ k11 : Nat, k11 = x1.toNatClampNeg → F_X3_forgetTimes n k11 d8 l9 (fun d13 l14 => Q r7 d13 l14))) ∧ (r1 = 0 → Q (-1) d2 l3))
  refine sp_X9_isRace hn hS.1 (fun r1 d2 l3 ⟨p_1, u_2⟩ => ?_)
  have s_3 : St e el d2 l3 := hS.sq p_1
  have w_4 : d2 = d := p_1.2.1
  replace u_2 : (0 ≤ r1.toInt ∧ r1.toInt ≤ 1 ∧ ((r1.toInt = 1 ∧ 0 ≤ x1.toInt ∧ x1.toInt < (d 0 13).toInt) ∨ (r1.toInt = 0 ∧ ¬ (0 ≤ x1.toInt ∧ x1.toInt < (d 0 13).toInt)))) := u_2
  have m_5 := iv_0_13 hS.1
  refine ⟨fun h4 => ?_, fun h4 => ?_⟩
  · have h4 : ¬ (r1.toInt = 0) := fun q => h4 ((i_eq rfl (rfl : (0 : Int32).toInt = 0)).mpr q)
    have ih5 : vp_in x1 24 := vin rfl (by omega) (by omega)
    refine ⟨ih5, ?_⟩
    intro k6 ek6
    have hk6 : k6 < 24 := by rw [ek6]; exact clamp_in ih5
    refine sp_X3_timeCount hn s_3.1 hk6 (fun r7 d8 l9 ⟨p_6, u_7⟩ => ?_)
    have s_8 : St e el d8 l9 := s_3.sq p_6
    have w_9 : d8 = d2 := p_6.2.1
    have ih10 : vp_in x1 24 := vin rfl (by omega) (by omega)
    refine ⟨ih10, ?_⟩
    intro k11 ek11
    have hk11 : k11 < 24 := by rw [ek11]; exact clamp_in ih10
    refine sp_X3_forgetTimes hn s_8.1 hk11 (fun d13 l14 ⟨p_10, u_11⟩ => ?_)
    have s_12 : St e el d13 l14 := s_8.tr p_10
    exact hQ _ _ _ ⟨s_12, trivial⟩
  · have h4 : r1.toInt = 0 := (i_eq rfl (rfl : (0 : Int32).toInt = 0)).mp h4
    exact hQ _ _ _ ⟨s_3, trivial⟩
set_option maxHeartbeats 4000000 in
set_option maxRecDepth 100000 in
theorem sb_X3_laneOf_2 {n : Nat} (hn : 1000000000 ≤ n) {e : DD} {el : LL} {Q : Int32 → DD → LL → Prop} (hQ : ∀ (r : Int32) (d2 : DD) (l2 : LL), Sq e el d2 l2 ∧ ((-1) ≤ r.toInt ∧ r.toInt ≤ 3) → Q r d2 l2) : ∀ (j2 : Nat) (k0 : Nat) (x1 : Int32) (x2 : Int32) (hk0 : k0 < 24) (d : DD) (dl : LL), Sq e el d dl → (0 ≤ x2.toInt ∧ x2.toInt ≤ 4) → 5 - x2.toInt < (j2 : Int) → b_X3_laneOf_2 n Q j2 k0 x1 x2 d dl := by
  intro j2
  induction j2 with
  | zero =>
    intro k0 x1 x2 hk0 d dl hS bx2 hm2
    exfalso
    omega
  | succ j2 hK2 =>
    intro k0 x1 x2 hk0 d dl hS bx2 hm2
    show (4 ≤ x2 → Q (-1) d dl) ∧ (¬ 4 ≤ x2 → vp_in x2 4 ∧ (¬ (d (92 + 5 * k0) x2.toNatClampNeg) = x1 → (b_X3_laneOf_2 n Q j2) k0 x1 (x2 + 1) d dl) ∧ ((d (92 + 5 * k0) x2.toNatClampNeg) = x1 → Q x2 d dl))
    refine ⟨fun h1 => ?_, fun h1 => ?_⟩
    · have h1 : 4 ≤ x2.toInt := (i_le (rfl : (4 : Int32).toInt = 4) rfl).mp h1
      exact hQ _ _ _ ⟨hS, (show ((-1) ≤ (-1) ∧ (-1) ≤ 3) from by omega)⟩
    · have h1 : ¬ (4 ≤ x2.toInt) := fun q => h1 ((i_le (rfl : (4 : Int32).toInt = 4) rfl).mpr q)
      have ih2 : vp_in x2 4 := vin rfl (by omega) (by omega)
      refine ⟨ih2, ?_⟩
      have m_1 := iv_92 hS.1 hk0 (x2.toNatClampNeg)
      refine ⟨fun h3 => ?_, fun h3 => ?_⟩
      · have h3 : ¬ ((d (92 + 5 * k0) x2.toNatClampNeg).toInt = x1.toInt) := fun q => h3 ((i_eq rfl rfl).mpr q)
        have t_2 : (x2 + 1).toInt = x2.toInt + 1 := ti_add rfl (rfl : (1 : Int32).toInt = 1) (by omega) (by omega)
        exact hK2 _ _ _ hk0 _ _ hS (by omega) (by omega)
      · have h3 : (d (92 + 5 * k0) x2.toNatClampNeg).toInt = x1.toInt := (i_eq rfl rfl).mp h3
        exact hQ _ _ _ ⟨hS, by omega⟩
set_option maxHeartbeats 4000000 in
set_option maxRecDepth 100000 in
theorem sp_X3_laneOf {n : Nat} (hn : 1000000000 ≤ n) {k0 : Nat} {x1 : Int32} {d : DD} {dl : LL} (hI : Inv d) (hk0 : k0 < 24) {Q : Int32 → DD → LL → Prop} (hQ : ∀ (r : Int32) (d2 : DD) (l2 : LL), Sq d dl d2 l2 ∧ ((-1) ≤ r.toInt ∧ r.toInt ≤ 3) → Q r d2 l2) : F_X3_laneOf n k0 x1 d dl Q := by
  obtain ⟨e, he⟩ : ∃ e : DD, e = d := ⟨_, rfl⟩
  obtain ⟨el, hel⟩ : ∃ el : LL, el = dl := ⟨_, rfl⟩
  have hS : Sq e el d dl := by rw [he, hel]; exact Sq.rf hI
  rw [← he, ← hel] at hQ
  show b_X3_laneOf_2 n Q n k0 x1 0 d dl
  exact sb_X3_laneOf_2 hn hQ n _ _ _ hk0 _ _ hS (show 0 ≤ 0 ∧ 0 ≤ 4 from by omega) (show 5 - 0 < (n : Int) from by omega)
set_option maxHeartbeats 4000000 in
set_option maxRecDepth 100000 in
theorem sp_X9_strike {n : Nat} (hn : 1000000000 ≤ n) {x1 : Int32} {x2 : Int32} {d : DD} {dl : LL} (hI : Inv d) {Q : Int32 → DD → LL → Prop} (hQ : ∀ (r : Int32) (d2 : DD) (l2 : LL), St d dl d2 l2 ∧ ((-3) ≤ r.toInt ∧ r.toInt ≤ 5) → Q r d2 l2) : F_X9_strike n x1 x2 d dl Q := by
  obtain ⟨e, he⟩ : ∃ e : DD, e = d := ⟨_, rfl⟩
  obtain ⟨el, hel⟩ : ∃ el : LL, el = dl := ⟨_, rfl⟩
  have hS : St e el d dl := by rw [he, hel]; exact St.rf hI
  rw [← he, ← hel] at hQ
  show F_X9_isRace n x1 d dl (fun r1 d2 l3 => (r1 = 0 → Q (-1) d2 l3) ∧ (¬ r1 = 0 → F_X9_isCrew n x2 d2 l3 (fun r5 d6 l7 => (¬ r5 = 0 → vp_in x1 24 ∧ ∀ k10 : Nat, k10 = x1.toNatClampNeg → F_X3_laneOf n k10 x2 d6 l7 (fun r11 d12 l13 => (¬ r11 = (-1) → vp_in r11 4 ∧ ((d12 (95 + 5 * k10) r11.toNatClampNeg) = 0 → F_X3_placeOf n k10 r11 d12 l13 (fun r17 d18 l19 => vp_in r11 4 ∧ ∀ d21 : DD, d21 = u2 d18 (95 + 5 * k10) r11.toNatClampNeg (vp_nar .boolean 1) → vp_in r11 4 ∧ ∀ d23 : DD, d23 = u2 d21 (93 + 5 * k10) r11.toNatClampNeg 0 → Q r17 d23 l19)) ∧ (¬ (d12 (95 + 5 * k10) r11.toNatClampNeg) = 0 → Q (-3) d12 l13)) ∧ (r11 = (-1) → Q (-1) d12 l13))) ∧ (r5 = 0 → Q (-1) d6 l7))))
  refine sp_X9_isRace hn hS.1 (fun r1 d2 l3 ⟨p_1, u_2⟩ => ?_)
  have s_3 : St e el d2 l3 := hS.sq p_1
  have w_4 : d2 = d := p_1.2.1
  replace u_2 : (0 ≤ r1.toInt ∧ r1.toInt ≤ 1 ∧ ((r1.toInt = 1 ∧ 0 ≤ x1.toInt ∧ x1.toInt < (d 0 13).toInt) ∨ (r1.toInt = 0 ∧ ¬ (0 ≤ x1.toInt ∧ x1.toInt < (d 0 13).toInt)))) := u_2
  have m_5 := iv_0_13 hS.1
  refine ⟨fun h4 => ?_, fun h4 => ?_⟩
  · have h4 : r1.toInt = 0 := (i_eq rfl (rfl : (0 : Int32).toInt = 0)).mp h4
    exact hQ _ _ _ ⟨s_3, (show ((-3) ≤ (-1) ∧ (-1) ≤ 5) from by omega)⟩
  · have h4 : ¬ (r1.toInt = 0) := fun q => h4 ((i_eq rfl (rfl : (0 : Int32).toInt = 0)).mpr q)
    refine sp_X9_isCrew hn s_3.1 (fun r5 d6 l7 ⟨p_6, u_7⟩ => ?_)
    have s_8 : St e el d6 l7 := s_3.sq p_6
    have w_9 : d6 = d2 := p_6.2.1
    replace u_7 : (0 ≤ r5.toInt ∧ r5.toInt ≤ 1 ∧ ((r5.toInt = 1 ∧ 0 ≤ x2.toInt ∧ x2.toInt < (d2 0 2).toInt) ∨ (r5.toInt = 0 ∧ ¬ (0 ≤ x2.toInt ∧ x2.toInt < (d2 0 2).toInt)))) := u_7
    have q_10 : d2 0 2 = (d 0 2) := by rw [w_4]
    have m_11 := iv_0_2 hS.1
    have t_12 : (d2 0 2).toInt = (d 0 2).toInt := (congrArg Int32.toInt q_10).trans rfl
    refine ⟨fun h8 => ?_, fun h8 => ?_⟩
    · have h8 : ¬ (r5.toInt = 0) := fun q => h8 ((i_eq rfl (rfl : (0 : Int32).toInt = 0)).mpr q)
      have ih9 : vp_in x1 24 := vin rfl (by omega) (by omega)
      refine ⟨ih9, ?_⟩
      intro k10 ek10
      have hk10 : k10 < 24 := by rw [ek10]; exact clamp_in ih9
      refine sp_X3_laneOf hn s_8.1 hk10 (fun r11 d12 l13 ⟨p_13, u_14⟩ => ?_)
      have s_15 : St e el d12 l13 := s_8.sq p_13
      have w_16 : d12 = d6 := p_13.2.1
      replace u_14 : ((-1) ≤ r11.toInt ∧ r11.toInt ≤ 3) := u_14
      refine ⟨fun h14 => ?_, fun h14 => ?_⟩
      · have h14 : ¬ (r11.toInt = (-1)) := fun q => h14 ((i_eq rfl (rfl : ((-1) : Int32).toInt = (-1))).mpr q)
        have ih15 : vp_in r11 4 := vin rfl (by omega) (by omega)
        refine ⟨ih15, ?_⟩
        have q_17 : d12 (95 + 5 * k10) r11.toNatClampNeg = (d (95 + 5 * k10) r11.toNatClampNeg) := by rw [w_16]; rw [w_9]; rw [w_4]
        have m_18 := iv_95 hS.1 hk10 (r11.toNatClampNeg)
        have t_19 : (d12 (95 + 5 * k10) r11.toNatClampNeg).toInt = (d (95 + 5 * k10) r11.toNatClampNeg).toInt := (congrArg Int32.toInt q_17).trans rfl
        refine ⟨fun h16 => ?_, fun h16 => ?_⟩
        · have h16 : (d (95 + 5 * k10) r11.toNatClampNeg).toInt = 0 := (i_eq t_19 (rfl : (0 : Int32).toInt = 0)).mp h16
          refine sp_X3_placeOf hn s_15.1 hk10 ⟨by omega, by omega⟩ (fun r17 d18 l19 ⟨p_20, u_21⟩ => ?_)
          have s_22 : St e el d18 l19 := s_15.sq p_20
          have w_23 : d18 = d12 := p_20.2.1
          replace u_21 : (0 ≤ r17.toInt ∧ r17.toInt ≤ 5) := u_21
          have ih20 : vp_in r11 4 := vin rfl (by omega) (by omega)
          refine ⟨ih20, ?_⟩
          intro d21 ed21
          have s_24 : St e el d21 l19 := by rw [ed21]; exact pv_95 s_22 hk10 (vn_in _).1 (vn_in _).2
          have ih22 : vp_in r11 4 := vin rfl (by omega) (by omega)
          refine ⟨ih22, ?_⟩
          intro d23 ed23
          have s_25 : St e el d23 l19 := by rw [ed23]; exact pv_93 s_24 hk10
          exact hQ _ _ _ ⟨s_25, by omega⟩
        · have h16 : ¬ ((d (95 + 5 * k10) r11.toNatClampNeg).toInt = 0) := fun q => h16 ((i_eq t_19 (rfl : (0 : Int32).toInt = 0)).mpr q)
          exact hQ _ _ _ ⟨s_15, (show ((-3) ≤ (-3) ∧ (-3) ≤ 5) from by omega)⟩
      · have h14 : r11.toInt = (-1) := (i_eq rfl (rfl : ((-1) : Int32).toInt = (-1))).mp h14
        exact hQ _ _ _ ⟨s_15, (show ((-3) ≤ (-1) ∧ (-1) ≤ 5) from by omega)⟩
    · have h8 : r5.toInt = 0 := (i_eq rfl (rfl : (0 : Int32).toInt = 0)).mp h8
      exact hQ _ _ _ ⟨s_8, (show ((-3) ≤ (-1) ∧ (-1) ≤ 5) from by omega)⟩
set_option maxHeartbeats 4000000 in
set_option maxRecDepth 100000 in
theorem sb_X2_addHeat_116 {n : Nat} (hn : 1000000000 ≤ n) {e : DD} {el : LL} {Q : DD → LL → Prop} (hQ : ∀ (d2 : DD) (l2 : LL), St e el d2 l2 ∧ True → Q d2 l2) {K2 : Nat → Int32 → Int32 → DD → LL → Prop} {j2 : Nat} (hK2 : ∀ (k1 : Nat) (x2 : Int32) (x3 : Int32) (hk1 : k1 < 24) (d : DD) (dl : LL), St e el d dl → (0 ≤ x2.toInt ∧ x2.toInt ≤ 9) → (0 ≤ x3.toInt ∧ x3.toInt ≤ 4) → 5 - x3.toInt < (j2 : Int) → K2 k1 x2 x3 d dl) : ∀ (k1 : Nat) (x2 : Int32) (x3 : Int32) (xs0 : Int32) (hk1 : k1 < 24) (d : DD) (dl : LL), St e el d dl → (0 ≤ x2.toInt ∧ x2.toInt ≤ 9) → (0 ≤ x3.toInt ∧ x3.toInt ≤ 3) → (0 ≤ xs0.toInt ∧ xs0.toInt ≤ 5) → 5 - x3.toInt ≤ (j2 : Int) → b_X2_addHeat_116 n Q K2 k1 x2 x3 xs0 d dl := by
  intro k1 x2 x3 xs0 hk1 d dl hS bx2 bx3 bxs0 hm2
  show vp_in xs0 6 ∧ ∀ d20 : DD, d20 = u2 d 35 xs0.toNatClampNeg (vp_nar .boolean 1) → K2 k1 x2 (x3 + 1) d20 dl
  have ih19 : vp_in xs0 6 := vin rfl (by omega) (by omega)
  refine ⟨ih19, ?_⟩
  intro d20 ed20
  have s_1 : St e el d20 dl := by rw [ed20]; exact pv_35 hS (vn_in _).1 (vn_in _).2
  have t_2 : (x3 + 1).toInt = x3.toInt + 1 := ti_add rfl (rfl : (1 : Int32).toInt = 1) (by omega) (by omega)
  exact hK2 _ _ _ hk1 _ _ s_1 (by omega) (by omega) (by omega)
set_option maxHeartbeats 4000000 in
set_option maxRecDepth 100000 in
theorem sb_X2_addHeat_90 {n : Nat} (hn : 1000000000 ≤ n) {e : DD} {el : LL} {Q : DD → LL → Prop} (hQ : ∀ (d2 : DD) (l2 : LL), St e el d2 l2 ∧ True → Q d2 l2) {K2 : Nat → Int32 → Int32 → DD → LL → Prop} {j2 : Nat} (hK2 : ∀ (k1 : Nat) (x2 : Int32) (x3 : Int32) (hk1 : k1 < 24) (d : DD) (dl : LL), St e el d dl → (0 ≤ x2.toInt ∧ x2.toInt ≤ 9) → (0 ≤ x3.toInt ∧ x3.toInt ≤ 4) → 5 - x3.toInt < (j2 : Int) → K2 k1 x2 x3 d dl) : ∀ (k1 : Nat) (x2 : Int32) (x3 : Int32) (x5 : Int32) (xs0 : Int32) (xs1 : Int32) (hk1 : k1 < 24) (d : DD) (dl : LL), St e el d dl → (0 ≤ x2.toInt ∧ x2.toInt ≤ 9) → (0 ≤ x3.toInt ∧ x3.toInt ≤ 3) → (0 ≤ x5.toInt ∧ x5.toInt ≤ 5) → (0 ≤ xs1.toInt ∧ xs1.toInt ≤ 5) → 5 - x3.toInt ≤ (j2 : Int) → b_X2_addHeat_90 n Q K2 k1 x2 x3 x5 xs0 xs1 d dl := by
  intro k1 x2 x3 x5 xs0 xs1 hk1 d dl hS bx2 bx3 bx5 bxs1 hm2
  show vp_in xs1 6 ∧ ∀ d16 : DD, d16 = u2 d 34 xs1.toNatClampNeg xs0 → vp_in x5 6 ∧ (¬ (d16 35 x5.toNatClampNeg) = 0 → b_X2_addHeat_116 n Q K2 k1 x2 x3 x5 d16 dl) ∧ ((d16 35 x5.toNatClampNeg) = 0 → F_X3_placeOf n k1 x3 d16 dl (fun r21 d22 l23 => (x2 < r21 → vp_in x5 6 ∧ ∀ d26 : DD, d26 = u2 d22 35 x5.toNatClampNeg (vp_nar .boolean 0) → K2 k1 x2 (x3 + 1) d26 l23) ∧ (¬ x2 < r21 → b_X2_addHeat_116 n Q K2 k1 x2 x3 x5 d22 l23)))
  have ih15 : vp_in xs1 6 := vin rfl (by omega) (by omega)
  refine ⟨ih15, ?_⟩
  intro d16 ed16
  have s_3 : St e el d16 dl := by rw [ed16]; exact pv_34 hS
  have ih17 : vp_in x5 6 := vin rfl (by omega) (by omega)
  refine ⟨ih17, ?_⟩
  have q_4 : d16 35 x5.toNatClampNeg = (d 35 x5.toNatClampNeg) := by rw [ed16, u2_row (by omega)]
  have m_5 := iv_35 hS.1 (x5.toNatClampNeg)
  have t_6 : (d16 35 x5.toNatClampNeg).toInt = (d 35 x5.toNatClampNeg).toInt := (congrArg Int32.toInt q_4).trans rfl
  refine ⟨fun h18 => ?_, fun h18 => ?_⟩
  · have h18 : ¬ ((d 35 x5.toNatClampNeg).toInt = 0) := fun q => h18 ((i_eq t_6 (rfl : (0 : Int32).toInt = 0)).mpr q)
    exact sb_X2_addHeat_116 hn hQ hK2 _ _ _ _ hk1 _ _ s_3 (by omega) (by omega) (by omega) (by omega)
  · have h18 : (d 35 x5.toNatClampNeg).toInt = 0 := (i_eq t_6 (rfl : (0 : Int32).toInt = 0)).mp h18
    refine sp_X3_placeOf hn s_3.1 hk1 ⟨by omega, by omega⟩ (fun r21 d22 l23 ⟨p_7, u_8⟩ => ?_)
    have s_9 : St e el d22 l23 := s_3.sq p_7
    have w_10 : d22 = d16 := p_7.2.1
    replace u_8 : (0 ≤ r21.toInt ∧ r21.toInt ≤ 5) := u_8
    refine ⟨fun h24 => ?_, fun h24 => ?_⟩
    · have h24 : x2.toInt < r21.toInt := (i_lt rfl rfl).mp h24
      have ih25 : vp_in x5 6 := vin rfl (by omega) (by omega)
      refine ⟨ih25, ?_⟩
      intro d26 ed26
      have s_11 : St e el d26 l23 := by rw [ed26]; exact pv_35 s_9 (vn_in _).1 (vn_in _).2
      have t_12 : (x3 + 1).toInt = x3.toInt + 1 := ti_add rfl (rfl : (1 : Int32).toInt = 1) (by omega) (by omega)
      exact hK2 _ _ _ hk1 _ _ s_11 (by omega) (by omega) (by omega)
    · have h24 : ¬ (x2.toInt < r21.toInt) := fun q => h24 ((i_lt rfl rfl).mpr q)
      exact sb_X2_addHeat_116 hn hQ hK2 _ _ _ _ hk1 _ _ s_9 (by omega) (by omega) (by omega) (by omega)
set_option maxHeartbeats 4000000 in
set_option maxRecDepth 100000 in
theorem sb_X2_addHeat_65 {n : Nat} (hn : 1000000000 ≤ n) {e : DD} {el : LL} {Q : DD → LL → Prop} (hQ : ∀ (d2 : DD) (l2 : LL), St e el d2 l2 ∧ True → Q d2 l2) {K2 : Nat → Int32 → Int32 → DD → LL → Prop} {j2 : Nat} (hK2 : ∀ (k1 : Nat) (x2 : Int32) (x3 : Int32) (hk1 : k1 < 24) (d : DD) (dl : LL), St e el d dl → (0 ≤ x2.toInt ∧ x2.toInt ≤ 9) → (0 ≤ x3.toInt ∧ x3.toInt ≤ 4) → 5 - x3.toInt < (j2 : Int) → K2 k1 x2 x3 d dl) : ∀ (k1 : Nat) (x2 : Int32) (x3 : Int32) (x4 : Int32) (x5 : Int32) (xs0 : Int32) (hk1 : k1 < 24) (d : DD) (dl : LL), St e el d dl → (0 ≤ x2.toInt ∧ x2.toInt ≤ 9) → (0 ≤ x3.toInt ∧ x3.toInt ≤ 3) → (0 ≤ x5.toInt ∧ x5.toInt ≤ 5) → (0 ≤ xs0.toInt ∧ xs0.toInt ≤ 1) → 5 - x3.toInt ≤ (j2 : Int) → b_X2_addHeat_65 n Q K2 k1 x2 x3 x4 x5 xs0 d dl := by
  intro k1 x2 x3 x4 x5 xs0 hk1 d dl hS bx2 bx3 bx5 bxs0 hm2
  show (xs0 = 0 → vp_in x5 6 ∧ b_X2_addHeat_90 n Q K2 k1 x2 x3 x5 (d 34 x5.toNatClampNeg) x5 d dl) ∧ (¬ xs0 = 0 → b_X2_addHeat_90 n Q K2 k1 x2 x3 x5 x4 x5 d dl)
  refine ⟨fun h13 => ?_, fun h13 => ?_⟩
  · have h13 : xs0.toInt = 0 := (i_eq rfl (rfl : (0 : Int32).toInt = 0)).mp h13
    have ih14 : vp_in x5 6 := vin rfl (by omega) (by omega)
    refine ⟨ih14, ?_⟩
    exact sb_X2_addHeat_90 hn hQ hK2 _ _ _ _ _ _ hk1 _ _ hS (by omega) (by omega) (by omega) (by omega) (by omega)
  · have h13 : ¬ (xs0.toInt = 0) := fun q => h13 ((i_eq rfl (rfl : (0 : Int32).toInt = 0)).mpr q)
    exact sb_X2_addHeat_90 hn hQ hK2 _ _ _ _ _ _ hk1 _ _ hS (by omega) (by omega) (by omega) (by omega) (by omega)
set_option maxHeartbeats 4000000 in
set_option maxRecDepth 100000 in
theorem sb_X2_addHeat_60 {n : Nat} (hn : 1000000000 ≤ n) {e : DD} {el : LL} {Q : DD → LL → Prop} (hQ : ∀ (d2 : DD) (l2 : LL), St e el d2 l2 ∧ True → Q d2 l2) {K2 : Nat → Int32 → Int32 → DD → LL → Prop} {j2 : Nat} (hK2 : ∀ (k1 : Nat) (x2 : Int32) (x3 : Int32) (hk1 : k1 < 24) (d : DD) (dl : LL), St e el d dl → (0 ≤ x2.toInt ∧ x2.toInt ≤ 9) → (0 ≤ x3.toInt ∧ x3.toInt ≤ 4) → 5 - x3.toInt < (j2 : Int) → K2 k1 x2 x3 d dl) : ∀ (k1 : Nat) (x2 : Int32) (x3 : Int32) (x4 : Int32) (x5 : Int32) (hk1 : k1 < 24) (d : DD) (dl : LL), St e el d dl → (0 ≤ x2.toInt ∧ x2.toInt ≤ 9) → (0 ≤ x3.toInt ∧ x3.toInt ≤ 3) → (0 ≤ x5.toInt ∧ x5.toInt ≤ 5) → 5 - x3.toInt ≤ (j2 : Int) → b_X2_addHeat_60 n Q K2 k1 x2 x3 x4 x5 d dl := by
  intro k1 x2 x3 x4 x5 hk1 d dl hS bx2 bx3 bx5 hm2
  show b_X2_addHeat_65 n Q K2 k1 x2 x3 x4 x5 1 d dl
  exact sb_X2_addHeat_65 hn hQ hK2 _ _ _ _ _ _ hk1 _ _ hS (by omega) (by omega) (by omega) (show 0 ≤ 1 ∧ 1 ≤ 1 from by omega) (by omega)
set_option maxHeartbeats 4000000 in
set_option maxRecDepth 100000 in
theorem sb_X2_addHeat_2 {n : Nat} (hn : 1000000000 ≤ n) {e : DD} {el : LL} {Q : DD → LL → Prop} (hQ : ∀ (d2 : DD) (l2 : LL), St e el d2 l2 ∧ True → Q d2 l2) : ∀ (j2 : Nat) (k1 : Nat) (x2 : Int32) (x3 : Int32) (hk1 : k1 < 24) (d : DD) (dl : LL), St e el d dl → (0 ≤ x2.toInt ∧ x2.toInt ≤ 9) → (0 ≤ x3.toInt ∧ x3.toInt ≤ 4) → 5 - x3.toInt < (j2 : Int) → b_X2_addHeat_2 n Q j2 k1 x2 x3 d dl := by
  intro j2
  induction j2 with
  | zero =>
    intro k1 x2 x3 hk1 d dl hS bx2 bx3 hm2
    exfalso
    omega
  | succ j2 hK2 =>
    intro k1 x2 x3 hk1 d dl hS bx2 bx3 hm2
    show (4 ≤ x3 → Q d dl) ∧ (¬ 4 ≤ x3 → vp_in x3 4 ∧ ∀ v3 : Int32, v3 = (d (93 + 5 * k1) x3.toNatClampNeg) → vp_in x3 4 ∧ ∀ v5 : Int32, v5 = (d (92 + 5 * k1) x3.toNatClampNeg) → (v3 ≤ 0 → (b_X2_addHeat_2 n Q j2) k1 x2 (x3 + 1) d dl) ∧ (¬ v3 ≤ 0 → F_X9_within n v5 0 5 d dl (fun r7 d8 l9 => (r7 = 0 → (b_X2_addHeat_2 n Q j2) k1 x2 (x3 + 1) d8 l9) ∧ (¬ r7 = 0 → vp_in v5 6 ∧ ((d8 34 v5.toNatClampNeg) = 0 → b_X2_addHeat_60 n Q (b_X2_addHeat_2 n Q j2) k1 x2 x3 v3 v5 d8 l9) ∧ (¬ (d8 34 v5.toNatClampNeg) = 0 → vp_in v5 6 ∧ ((d8 34 v5.toNatClampNeg) ≤ v3 → b_X2_addHeat_65 n Q (b_X2_addHeat_2 n Q j2) k1 x2 x3 v3 v5 0 d8 l9) ∧ (¬ (d8 34 v5.toNatClampNeg) ≤ v3 → b_X2_addHeat_60 n Q (b_X2_addHeat_2 n Q j2) k1 x2 x3 v3 v5 d8 l9))))))
    refine ⟨fun h1 => ?_, fun h1 => ?_⟩
    · have h1 : 4 ≤ x3.toInt := (i_le (rfl : (4 : Int32).toInt = 4) rfl).mp h1
      exact hQ _ _ ⟨hS, trivial⟩
    · have h1 : ¬ (4 ≤ x3.toInt) := fun q => h1 ((i_le (rfl : (4 : Int32).toInt = 4) rfl).mpr q)
      have ih2 : vp_in x3 4 := vin rfl (by omega) (by omega)
      refine ⟨ih2, ?_⟩
      intro v3 e3
      have t_13 : v3.toInt = (d (93 + 5 * k1) x3.toNatClampNeg).toInt := (congrArg Int32.toInt e3).trans rfl
      have ih4 : vp_in x3 4 := vin rfl (by omega) (by omega)
      refine ⟨ih4, ?_⟩
      have m_14 := iv_92 hS.1 hk1 (x3.toNatClampNeg)
      intro v5 e5
      have t_15 : v5.toInt = (d (92 + 5 * k1) x3.toNatClampNeg).toInt := (congrArg Int32.toInt e5).trans rfl
      refine ⟨fun h6 => ?_, fun h6 => ?_⟩
      · have h6 : (d (93 + 5 * k1) x3.toNatClampNeg).toInt ≤ 0 := (i_le t_13 (rfl : (0 : Int32).toInt = 0)).mp h6
        have t_16 : (x3 + 1).toInt = x3.toInt + 1 := ti_add rfl (rfl : (1 : Int32).toInt = 1) (by omega) (by omega)
        exact hK2 _ _ _ hk1 _ _ hS (by omega) (by omega) (by omega)
      · have h6 : ¬ ((d (93 + 5 * k1) x3.toNatClampNeg).toInt ≤ 0) := fun q => h6 ((i_le t_13 (rfl : (0 : Int32).toInt = 0)).mpr q)
        refine sp_X9_within hn hS.1 (fun r7 d8 l9 ⟨p_17, u_18⟩ => ?_)
        have s_19 : St e el d8 l9 := hS.sq p_17
        have w_20 : d8 = d := p_17.2.1
        replace u_18 : (0 ≤ r7.toInt ∧ r7.toInt ≤ 1 ∧ ((r7.toInt = 1 ∧ 0 ≤ v5.toInt ∧ v5.toInt ≤ 5) ∨ (r7.toInt = 0 ∧ ¬ (0 ≤ v5.toInt ∧ v5.toInt ≤ 5)))) := u_18
        refine ⟨fun h10 => ?_, fun h10 => ?_⟩
        · have h10 : r7.toInt = 0 := (i_eq rfl (rfl : (0 : Int32).toInt = 0)).mp h10
          have t_21 : (x3 + 1).toInt = x3.toInt + 1 := ti_add rfl (rfl : (1 : Int32).toInt = 1) (by omega) (by omega)
          exact hK2 _ _ _ hk1 _ _ s_19 (by omega) (by omega) (by omega)
        · have h10 : ¬ (r7.toInt = 0) := fun q => h10 ((i_eq rfl (rfl : (0 : Int32).toInt = 0)).mpr q)
          have ih11 : vp_in v5 6 := vin t_15 (by omega) (by omega)
          refine ⟨ih11, ?_⟩
          have q_22 : d8 34 v5.toNatClampNeg = (d 34 v5.toNatClampNeg) := by rw [w_20]
          have t_23 : (d8 34 v5.toNatClampNeg).toInt = (d 34 v5.toNatClampNeg).toInt := (congrArg Int32.toInt q_22).trans rfl
          refine ⟨fun h12 => ?_, fun h12 => ?_⟩
          · have h12 : (d 34 v5.toNatClampNeg).toInt = 0 := (i_eq t_23 (rfl : (0 : Int32).toInt = 0)).mp h12
            exact sb_X2_addHeat_60 hn hQ hK2 _ _ _ _ _ hk1 _ _ s_19 (by omega) (by omega) (by omega) (by omega)
          · have h12 : ¬ ((d 34 v5.toNatClampNeg).toInt = 0) := fun q => h12 ((i_eq t_23 (rfl : (0 : Int32).toInt = 0)).mpr q)
            have ih27 : vp_in v5 6 := vin t_15 (by omega) (by omega)
            refine ⟨ih27, ?_⟩
            refine ⟨fun h28 => ?_, fun h28 => ?_⟩
            · have h28 : (d 34 v5.toNatClampNeg).toInt ≤ (d (93 + 5 * k1) x3.toNatClampNeg).toInt := (i_le t_23 t_13).mp h28
              exact sb_X2_addHeat_65 hn hQ hK2 _ _ _ _ _ _ hk1 _ _ s_19 (by omega) (by omega) (by omega) (show 0 ≤ 0 ∧ 0 ≤ 1 from by omega) (by omega)
            · have h28 : ¬ ((d 34 v5.toNatClampNeg).toInt ≤ (d (93 + 5 * k1) x3.toNatClampNeg).toInt) := fun q => h28 ((i_le t_23 t_13).mpr q)
              exact sb_X2_addHeat_60 hn hQ hK2 _ _ _ _ _ hk1 _ _ s_19 (by omega) (by omega) (by omega) (by omega)
