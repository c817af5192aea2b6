set_option maxHeartbeats 4000000 in
set_option maxRecDepth 100000 in
theorem sb_X7_readNumber_5 {n : Nat} (hn : 1000000000 ≤ n) {e : DD} {el : LL} {Q : Int32 → DD → LL → Prop} (hQ : ∀ (r : Int32) (d2 : DD) (l2 : LL), St e el d2 l2 ∧ (0 ≤ r.toInt ∧ r.toInt ≤ 1) → Q r d2 l2) : ∀ (j5 : Nat) (k1 : Nat) (x2 : Int32) (x3 : Int32) (x4 : Int32) (hk1 : k1 < 6) (d : DD) (dl : LL), St e el d dl → (0 ≤ x2.toInt ∧ x2.toInt ≤ 7) → (0 ≤ x4.toInt ∧ x4.toInt ≤ 4) → 5 - x4.toInt < (j5 : Int) → b_X7_readNumber_5 n Q j5 k1 x2 x3 x4 d dl := by
  intro j5
  induction j5 with
  | zero =>
    intro k1 x2 x3 x4 hk1 d dl hS bx2 bx4 hm5
    exfalso
    omega
  | succ j5 hK5 =>
    intro k1 x2 x3 x4 hk1 d dl hS bx2 bx4 hm5
    show (4 ≤ x4 → b_X7_readNumber_54 n Q k1 x2 x3 x4 d dl) ∧ (¬ 4 ≤ x4 → F_X7_peek n d dl (fun r5 d6 l7 => F_X9_within n r5 48 57 d6 l7 (fun r8 d9 l10 => (r8 = 0 → b_X7_readNumber_54 n Q k1 x2 x3 x4 d9 l10) ∧ (¬ r8 = 0 → F_X7_peek n d9 l10 (fun r12 d13 l14 => ∀ v15 : Int32, v15 = (((10 : Int32) * x3) + (r12 - 48)) → ∀ d16 : DD, d16 = u2 d13 24 1 ((d13 24 1) + 1) → (b_X7_readNumber_5 n Q j5) k1 x2 v15 (x4 + 1) d16 l14)))))
    refine ⟨fun h1 => ?_, fun h1 => ?_⟩
    · have h1 : 4 ≤ x4.toInt := (i_le (rfl : (4 : Int32).toInt = 4) rfl).mp h1
      exact sb_X7_readNumber_54 hn hQ _ _ _ _ hk1 _ _ hS (by omega) (by omega)
    · have h1 : ¬ (4 ≤ x4.toInt) := fun q => h1 ((i_le (rfl : (4 : Int32).toInt = 4) rfl).mpr q)
      refine sp_X7_peek hn hS.1 (fun r5 d6 l7 ⟨p_2, u_3⟩ => ?_)
      have s_4 : St e el d6 l7 := hS.sq p_2
      have w_5 : d6 = d := p_2.2.1
      replace u_3 : ((r5.toInt = -1 ∨ (d 24 1).toInt < (d 24 0).toInt)) := u_3
      have m_6 := iv_24_1 hS.1
      have m_7 := iv_24_0 hS.1
      refine sp_X9_within hn s_4.1 (fun r8 d9 l10 ⟨p_8, u_9⟩ => ?_)
      have s_10 : St e el d9 l10 := s_4.sq p_8
      have w_11 : d9 = d6 := p_8.2.1
      replace u_9 : (0 ≤ r8.toInt ∧ r8.toInt ≤ 1 ∧ ((r8.toInt = 1 ∧ 48 ≤ r5.toInt ∧ r5.toInt ≤ 57) ∨ (r8.toInt = 0 ∧ ¬ (48 ≤ r5.toInt ∧ r5.toInt ≤ 57)))) := u_9
      refine ⟨fun h11 => ?_, fun h11 => ?_⟩
      · have h11 : r8.toInt = 0 := (i_eq rfl (rfl : (0 : Int32).toInt = 0)).mp h11
        exact sb_X7_readNumber_54 hn hQ _ _ _ _ hk1 _ _ s_10 (by omega) (by omega)
      · have h11 : ¬ (r8.toInt = 0) := fun q => h11 ((i_eq rfl (rfl : (0 : Int32).toInt = 0)).mpr q)
        refine sp_X7_peek hn s_10.1 (fun r12 d13 l14 ⟨p_12, u_13⟩ => ?_)
        have s_14 : St e el d13 l14 := s_10.sq p_12
        have w_15 : d13 = d9 := p_12.2.1
        replace u_13 : ((r12.toInt = -1 ∨ (d9 24 1).toInt < (d9 24 0).toInt)) := u_13
        have q_16 : d9 24 1 = (d 24 1) := by rw [w_11]; rw [w_5]
        have t_17 : (d9 24 1).toInt = (d 24 1).toInt := (congrArg Int32.toInt q_16).trans rfl
        have q_18 : d9 24 0 = (d 24 0) := by rw [w_11]; rw [w_5]
        have t_19 : (d9 24 0).toInt = (d 24 0).toInt := (congrArg Int32.toInt q_18).trans rfl
        intro v15 e15
        have t_20 : v15.toInt = (((10 : Int32) * x3) + (r12 - 48)).toInt := (congrArg Int32.toInt e15).trans rfl
        have q_21 : d13 24 1 = (d 24 1) := by rw [w_15]; rw [w_11]; rw [w_5]
        have t_22 : (d13 24 1).toInt = (d 24 1).toInt := (congrArg Int32.toInt q_21).trans rfl
        have t_23 : ((d13 24 1) + 1).toInt = (d 24 1).toInt + 1 := ti_add t_22 (rfl : (1 : Int32).toInt = 1) (by omega) (by omega)
        intro d16 ed16
        have s_24 : St e el d16 l14 := by rw [ed16]; exact pv_24_1 s_14 (by rw [t_23]; omega) (by rw [t_23]; omega)
        have t_25 : (x4 + 1).toInt = x4.toInt + 1 := ti_add rfl (rfl : (1 : Int32).toInt = 1) (by omega) (by omega)
        exact hK5 _ _ _ _ hk1 _ _ s_24 (by omega) (by omega) (by omega)
set_option maxHeartbeats 4000000 in
set_option maxRecDepth 100000 in
theorem sp_X7_readNumber {n : Nat} (hn : 1000000000 ≤ n) {k1 : Nat} {x2 : Int32} {d : DD} {dl : LL} (hI : Inv d) (hk1 : k1 < 6) (bx2 : 0 ≤ x2.toInt ∧ x2.toInt ≤ 7) {Q : Int32 → DD → LL → Prop} (hQ : ∀ (r : Int32) (d2 : DD) (l2 : LL), St d dl d2 l2 ∧ (0 ≤ r.toInt ∧ r.toInt ≤ 1) → Q r d2 l2) : F_X7_readNumber n k1 x2 d dl Q := by
  obtain ⟨e, he⟩ : ∃ e : DD, e = d := ⟨_, rfl⟩
  obtain ⟨el, hel⟩ : ∃ el : LL, el = dl := ⟨_, rfl⟩
  have hS : St e el d dl := by rw [he, hel]; exact St.rf hI
  rw [← he, ← hel] at hQ
  show b_X7_readNumber_5 n Q n k1 x2 0 0 d dl
  exact sb_X7_readNumber_5 hn hQ n _ _ _ _ hk1 _ _ hS (by omega) (show 0 ≤ 0 ∧ 0 ≤ 4 from by omega) (show 5 - 0 < (n : Int) from by omega)
set_option maxHeartbeats 4000000 in
set_option maxRecDepth 100000 in
theorem sb_X9_tallySeated_118 {n : Nat} (hn : 1000000000 ≤ n) {e : DD} {el : LL} {Q : DD → LL → Prop} (hQ : ∀ (d2 : DD) (l2 : LL), St e el d2 l2 ∧ True → Q d2 l2) {K23 : Nat → Int32 → DD → LL → Prop} {j23 : Nat} (hK23 : ∀ (k1 : Nat) (x2 : Int32) (hk1 : k1 < 6) (d : DD) (dl : LL), St e el d dl → (0 ≤ x2.toInt ∧ x2.toInt ≤ 8) → 9 - x2.toInt < (j23 : Int) → K23 k1 x2 d dl) : ∀ (k1 : Nat) (x2 : Int32) (x3 : Int32) (xs0 : Int32) (xs1 : Int32) (xs2 : Int32) (hk1 : k1 < 6) (d : DD) (dl : LL), St e el d dl → (0 ≤ x2.toInt ∧ x2.toInt ≤ 7) → (0 ≤ x3.toInt ∧ x3.toInt ≤ 39) → (0 ≤ xs0.toInt ∧ xs0.toInt ≤ 1) → (3 ≤ xs2.toInt ∧ xs2.toInt ≤ 3) → 9 - x2.toInt ≤ (j23 : Int) → b_X9_tallySeated_118 n Q K23 k1 x2 x3 xs0 xs1 xs2 d dl := by
  intro k1 x2 x3 xs0 xs1 xs2 hk1 d dl hS bx2 bx3 bxs0 bxs2 hm23
  show vp_in xs2 6 ∧ ∀ d22 : DD, d22 = u2 d 27 xs2.toNatClampNeg (xs1 + xs0) → vp_in x3 40 ∧ ∀ d26 : DD, d26 = u2 d22 27 (4 : Int32).toNatClampNeg ((d22 27 (4 : Int32).toNatClampNeg) + (d22 2 x3.toNatClampNeg)) → ∀ d29 : DD, d29 = u2 d26 27 (5 : Int32).toNatClampNeg ((d26 27 (5 : Int32).toNatClampNeg) + 1) → K23 k1 (x2 + 1) d29 dl
  have ih21 : vp_in xs2 6 := vin rfl (by omega) (by omega)
  refine ⟨ih21, ?_⟩
  intro d22 ed22
  have s_1 : St e el d22 dl := by rw [ed22]; exact pv_27 hS
  have ih24 : vp_in x3 40 := vin rfl (by omega) (by omega)
  refine ⟨ih24, ?_⟩
  intro d26 ed26
  have s_2 : St e el d26 dl := by rw [ed26]; exact pv_27 s_1
  intro d29 ed29
  have s_3 : St e el d29 dl := by rw [ed29]; exact pv_27 s_2
  have t_4 : (x2 + 1).toInt = x2.toInt + 1 := ti_add rfl (rfl : (1 : Int32).toInt = 1) (by omega) (by omega)
  exact hK23 _ _ hk1 _ _ s_3 (by omega) (by omega)
set_option maxHeartbeats 4000000 in
set_option maxRecDepth 100000 in
theorem sb_X9_tallySeated_90 {n : Nat} (hn : 1000000000 ≤ n) {e : DD} {el : LL} {Q : DD → LL → Prop} (hQ : ∀ (d2 : DD) (l2 : LL), St e el d2 l2 ∧ True → Q d2 l2) {K23 : Nat → Int32 → DD → LL → Prop} {j23 : Nat} (hK23 : ∀ (k1 : Nat) (x2 : Int32) (hk1 : k1 < 6) (d : DD) (dl : LL), St e el d dl → (0 ≤ x2.toInt ∧ x2.toInt ≤ 8) → 9 - x2.toInt < (j23 : Int) → K23 k1 x2 d dl) : ∀ (k1 : Nat) (x2 : Int32) (x3 : Int32) (xs0 : Int32) (xs1 : Int32) (xs2 : Int32) (hk1 : k1 < 6) (d : DD) (dl : LL), St e el d dl → (0 ≤ x2.toInt ∧ x2.toInt ≤ 7) → (0 ≤ x3.toInt ∧ x3.toInt ≤ 39) → (0 ≤ xs0.toInt ∧ xs0.toInt ≤ 1) → (2 ≤ xs2.toInt ∧ xs2.toInt ≤ 2) → 9 - x2.toInt ≤ (j23 : Int) → b_X9_tallySeated_90 n Q K23 k1 x2 x3 xs0 xs1 xs2 d dl := by
  intro k1 x2 x3 xs0 xs1 xs2 hk1 d dl hS bx2 bx3 bxs0 bxs2 hm23
  show vp_in xs2 6 ∧ ∀ d17 : DD, d17 = u2 d 27 xs2.toNatClampNeg (xs1 + xs0) → vp_in x3 40 ∧ (18 ≤ (d17 6 x3.toNatClampNeg) → b_X9_tallySeated_118 n Q K23 k1 x2 x3 0 (d17 27 (3 : Int32).toNatClampNeg) 3 d17 dl) ∧ (¬ 18 ≤ (d17 6 x3.toNatClampNeg) → b_X9_tallySeated_118 n Q K23 k1 x2 x3 1 (d17 27 (3 : Int32).toNatClampNeg) 3 d17 dl)
  have ih16 : vp_in xs2 6 := vin rfl (by omega) (by omega)
  refine ⟨ih16, ?_⟩
  intro d17 ed17
  have s_5 : St e el d17 dl := by rw [ed17]; exact pv_27 hS
  have ih19 : vp_in x3 40 := vin rfl (by omega) (by omega)
  refine ⟨ih19, ?_⟩
  have q_6 : d17 6 x3.toNatClampNeg = (d 6 x3.toNatClampNeg) := by rw [ed17, u2_row (by omega)]
  have m_7 := iv_6 hS.1 (x3.toNatClampNeg)
  have t_8 : (d17 6 x3.toNatClampNeg).toInt = (d 6 x3.toNatClampNeg).toInt := (congrArg Int32.toInt q_6).trans rfl
  refine ⟨fun h20 => ?_, fun h20 => ?_⟩
  · have h20 : 18 ≤ (d 6 x3.toNatClampNeg).toInt := (i_le (rfl : (18 : Int32).toInt = 18) t_8).mp h20
    exact sb_X9_tallySeated_118 hn hQ hK23 _ _ _ _ _ _ hk1 _ _ s_5 (by omega) (by omega) (show 0 ≤ 0 ∧ 0 ≤ 1 from by omega) (show 3 ≤ 3 ∧ 3 ≤ 3 from by omega) (by omega)
  · have h20 : ¬ (18 ≤ (d 6 x3.toNatClampNeg).toInt) := fun q => h20 ((i_le (rfl : (18 : Int32).toInt = 18) t_8).mpr q)
    exact sb_X9_tallySeated_118 hn hQ hK23 _ _ _ _ _ _ hk1 _ _ s_5 (by omega) (by omega) (show 0 ≤ 1 ∧ 1 ≤ 1 from by omega) (show 3 ≤ 3 ∧ 3 ≤ 3 from by omega) (by omega)
set_option maxHeartbeats 4000000 in
set_option maxRecDepth 100000 in
theorem sb_X9_tallySeated_59 {n : Nat} (hn : 1000000000 ≤ n) {e : DD} {el : LL} {Q : DD → LL → Prop} (hQ : ∀ (d2 : DD) (l2 : LL), St e el d2 l2 ∧ True → Q d2 l2) {K23 : Nat → Int32 → DD → LL → Prop} {j23 : Nat} (hK23 : ∀ (k1 : Nat) (x2 : Int32) (hk1 : k1 < 6) (d : DD) (dl : LL), St e el d dl → (0 ≤ x2.toInt ∧ x2.toInt ≤ 8) → 9 - x2.toInt < (j23 : Int) → K23 k1 x2 d dl) : ∀ (k1 : Nat) (x2 : Int32) (x3 : Int32) (xs0 : Int32) (hk1 : k1 < 6) (d : DD) (dl : LL), St e el d dl → (0 ≤ x2.toInt ∧ x2.toInt ≤ 7) → (0 ≤ x3.toInt ∧ x3.toInt ≤ 39) → (0 ≤ xs0.toInt ∧ xs0.toInt ≤ 1) → 9 - x2.toInt ≤ (j23 : Int) → b_X9_tallySeated_59 n Q K23 k1 x2 x3 xs0 d dl := by
  intro k1 x2 x3 xs0 hk1 d dl hS bx2 bx3 bxs0 hm23
  show vp_in xs0 6 ∧ vp_in xs0 6 ∧ ∀ d12 : DD, d12 = u2 d 27 xs0.toNatClampNeg ((d 27 xs0.toNatClampNeg) + 1) → vp_in x3 40 ∧ ((d12 6 x3.toNatClampNeg) < 40 → b_X9_tallySeated_90 n Q K23 k1 x2 x3 0 (d12 27 (2 : Int32).toNatClampNeg) 2 d12 dl) ∧ (¬ (d12 6 x3.toNatClampNeg) < 40 → b_X9_tallySeated_90 n Q K23 k1 x2 x3 1 (d12 27 (2 : Int32).toNatClampNeg) 2 d12 dl)
  have ih10 : vp_in xs0 6 := vin rfl (by omega) (by omega)
  refine ⟨ih10, ?_⟩
  have ih11 : vp_in xs0 6 := vin rfl (by omega) (by omega)
  refine ⟨ih11, ?_⟩
  intro d12 ed12
  have s_9 : St e el d12 dl := by rw [ed12]; exact pv_27 hS
  have ih14 : vp_in x3 40 := vin rfl (by omega) (by omega)
  refine ⟨ih14, ?_⟩
  have q_10 : d12 6 x3.toNatClampNeg = (d 6 x3.toNatClampNeg) := by rw [ed12, u2_row (by omega)]
  have m_11 := iv_6 hS.1 (x3.toNatClampNeg)
  have t_12 : (d12 6 x3.toNatClampNeg).toInt = (d 6 x3.toNatClampNeg).toInt := (congrArg Int32.toInt q_10).trans rfl
  refine ⟨fun h15 => ?_, fun h15 => ?_⟩
  · have h15 : (d 6 x3.toNatClampNeg).toInt < 40 := (i_lt t_12 (rfl : (40 : Int32).toInt = 40)).mp h15
    exact sb_X9_tallySeated_90 hn hQ hK23 _ _ _ _ _ _ hk1 _ _ s_9 (by omega) (by omega) (show 0 ≤ 0 ∧ 0 ≤ 1 from by omega) (show 2 ≤ 2 ∧ 2 ≤ 2 from by omega) (by omega)
  · have h15 : ¬ ((d 6 x3.toNatClampNeg).toInt < 40) := fun q => h15 ((i_lt t_12 (rfl : (40 : Int32).toInt = 40)).mpr q)
    exact sb_X9_tallySeated_90 hn hQ hK23 _ _ _ _ _ _ hk1 _ _ s_9 (by omega) (by omega) (show 0 ≤ 1 ∧ 1 ≤ 1 from by omega) (show 2 ≤ 2 ∧ 2 ≤ 2 from by omega) (by omega)
set_option maxHeartbeats 4000000 in
set_option maxRecDepth 100000 in
theorem sb_X9_tallySeated_23 {n : Nat} (hn : 1000000000 ≤ n) {e : DD} {el : LL} {Q : DD → LL → Prop} (hQ : ∀ (d2 : DD) (l2 : LL), St e el d2 l2 ∧ True → Q d2 l2) : ∀ (j23 : Nat) (k1 : Nat) (x2 : Int32) (hk1 : k1 < 6) (d : DD) (dl : LL), St e el d dl → (0 ≤ x2.toInt ∧ x2.toInt ≤ 8) → 9 - x2.toInt < (j23 : Int) → b_X9_tallySeated_23 n Q j23 k1 x2 d dl := by
  intro j23
  induction j23 with
  | zero =>
    intro k1 x2 hk1 d dl hS bx2 hm23
    exfalso
    omega
  | succ j23 hK23 =>
    intro k1 x2 hk1 d dl hS bx2 hm23
    show F_X1_seatCount n k1 d dl (fun r2 d3 l4 => (r2 ≤ x2 → Q d3 l4) ∧ (¬ r2 ≤ x2 → vp_in x2 8 ∧ ∀ v7 : Int32, v7 = (d3 (39 + 3 * k1) x2.toNatClampNeg) → vp_in v7 40 ∧ (¬ (d3 5 v7.toNatClampNeg) = 0 → b_X9_tallySeated_59 n Q (b_X9_tallySeated_23 n Q j23) k1 x2 v7 1 d3 l4) ∧ ((d3 5 v7.toNatClampNeg) = 0 → b_X9_tallySeated_59 n Q (b_X9_tallySeated_23 n Q j23) k1 x2 v7 0 d3 l4)))
    refine sp_X1_seatCount hn hS.1 hk1 (fun r2 d3 l4 ⟨p_13, u_14⟩ => ?_)
    have s_15 : St e el d3 l4 := hS.sq p_13
    have w_16 : d3 = d := p_13.2.1
    replace u_14 : (4 ≤ r2.toInt ∧ r2.toInt ≤ 8) := u_14
    refine ⟨fun h5 => ?_, fun h5 => ?_⟩
    · have h5 : r2.toInt ≤ x2.toInt := (i_le rfl rfl).mp h5
      exact hQ _ _ ⟨s_15, trivial⟩
    · have h5 : ¬ (r2.toInt ≤ x2.toInt) := fun q => h5 ((i_le rfl rfl).mpr q)
      have ih6 : vp_in x2 8 := vin rfl (by omega) (by omega)
      refine ⟨ih6, ?_⟩
      have q_17 : d3 (39 + 3 * k1) x2.toNatClampNeg = (d (39 + 3 * k1) x2.toNatClampNeg) := by rw [w_16]
      have m_18 := iv_39 hS.1 hk1 (x2.toNatClampNeg)
      have t_19 : (d3 (39 + 3 * k1) x2.toNatClampNeg).toInt = (d (39 + 3 * k1) x2.toNatClampNeg).toInt := (congrArg Int32.toInt q_17).trans rfl
      intro v7 e7
      have t_20 : v7.toInt = (d (39 + 3 * k1) x2.toNatClampNeg).toInt := (congrArg Int32.toInt e7).trans t_19
      have ih8 : vp_in v7 40 := vin t_20 (by omega) (by omega)
      refine ⟨ih8, ?_⟩
      have q_21 : d3 5 v7.toNatClampNeg = (d 5 v7.toNatClampNeg) := by rw [w_16]
      have m_22 := iv_5 hS.1 (v7.toNatClampNeg)
      have t_23 : (d3 5 v7.toNatClampNeg).toInt = (d 5 v7.toNatClampNeg).toInt := (congrArg Int32.toInt q_21).trans rfl
      refine ⟨fun h9 => ?_, fun h9 => ?_⟩
      · have h9 : ¬ ((d 5 v7.toNatClampNeg).toInt = 0) := fun q => h9 ((i_eq t_23 (rfl : (0 : Int32).toInt = 0)).mpr q)
        exact sb_X9_tallySeated_59 hn hQ hK23 _ _ _ _ hk1 _ _ s_15 (by omega) (by omega) (show 0 ≤ 1 ∧ 1 ≤ 1 from by omega) (by omega)
      · have h9 : (d 5 v7.toNatClampNeg).toInt = 0 := (i_eq t_23 (rfl : (0 : Int32).toInt = 0)).mp h9
        exact sb_X9_tallySeated_59 hn hQ hK23 _ _ _ _ hk1 _ _ s_15 (by omega) (by omega) (show 0 ≤ 0 ∧ 0 ≤ 1 from by omega) (by omega)
set_option maxHeartbeats 4000000 in
set_option maxRecDepth 100000 in
theorem sb_X9_tallySeated_2 {n : Nat} (hn : 1000000000 ≤ n) {e : DD} {el : LL} {Q : DD → LL → Prop} (hQ : ∀ (d2 : DD) (l2 : LL), St e el d2 l2 ∧ True → Q d2 l2) : ∀ (j2 : Nat) (k1 : Nat) (x2 : Int32) (hk1 : k1 < 6) (d : DD) (dl : LL), St e el d dl → (0 ≤ x2.toInt ∧ x2.toInt ≤ 6) → 7 - x2.toInt < (j2 : Int) → b_X9_tallySeated_2 n Q j2 k1 x2 d dl := by
  intro j2
  induction j2 with
  | zero =>
    intro k1 x2 hk1 d dl hS bx2 hm2
    exfalso
    omega
  | succ j2 hK2 =>
    intro k1 x2 hk1 d dl hS bx2 hm2
    show (6 ≤ x2 → b_X9_tallySeated_23 n Q n k1 0 d dl) ∧ (¬ 6 ≤ x2 → vp_in x2 6 ∧ ∀ d31 : DD, d31 = u2 d 27 x2.toNatClampNeg 0 → (b_X9_tallySeated_2 n Q j2) k1 (x2 + 1) d31 dl)
    refine ⟨fun h1 => ?_, fun h1 => ?_⟩
    · have h1 : 6 ≤ x2.toInt := (i_le (rfl : (6 : Int32).toInt = 6) rfl).mp h1
      exact sb_X9_tallySeated_23 hn hQ n _ _ hk1 _ _ hS (show 0 ≤ 0 ∧ 0 ≤ 8 from by omega) (show 9 - 0 < (n : Int) from by omega)
    · have h1 : ¬ (6 ≤ x2.toInt) := fun q => h1 ((i_le (rfl : (6 : Int32).toInt = 6) rfl).mpr q)
      have ih30 : vp_in x2 6 := vin rfl (by omega) (by omega)
      refine ⟨ih30, ?_⟩
      intro d31 ed31
      have s_24 : St e el d31 dl := by rw [ed31]; exact pv_27 hS
      have t_25 : (x2 + 1).toInt = x2.toInt + 1 := ti_add rfl (rfl : (1 : Int32).toInt = 1) (by omega) (by omega)
      exact hK2 _ _ hk1 _ _ s_24 (by omega) (by omega)
set_option maxHeartbeats 4000000 in
set_option maxRecDepth 100000 in
theorem sp_X9_tallySeated {n : Nat} (hn : 1000000000 ≤ n) {k1 : Nat} {d : DD} {dl : LL} (hI : Inv d) (hk1 : k1 < 6) {Q : DD → LL → Prop} (hQ : ∀ (d2 : DD) (l2 : LL), St d dl d2 l2 ∧ True → Q d2 l2) : F_X9_tallySeated n k1 d dl Q := by
  obtain ⟨e, he⟩ : ∃ e : DD, e = d := ⟨_, rfl⟩
  obtain ⟨el, hel⟩ : ∃ el : LL, el = dl := ⟨_, rfl⟩
  have hS : St e el d dl := by rw [he, hel]; exact St.rf hI
  rw [← he, ← hel] at hQ
  show b_X9_tallySeated_2 n Q n k1 0 d dl
  exact sb_X9_tallySeated_2 hn hQ n _ _ hk1 _ _ hS (show 0 ≤ 0 ∧ 0 ≤ 6 from by omega) (show 7 - 0 < (n : Int) from by omega)
set_option maxHeartbeats 4000000 in
set_option maxRecDepth 100000 in
theorem sb_X5_testHolds_86 {n : Nat} (hn : 1000000000 ≤ n) {e : DD} {el : LL} {Q : Int32 → DD → LL → Prop} (hQ : ∀ (r : Int32) (d2 : DD) (l2 : LL), Sq e el d2 l2 ∧ (0 ≤ r.toInt ∧ r.toInt ≤ 1) → Q r d2 l2) : ∀ (k0 : Nat) (x1 : Int32) (x3 : Int32) (hk0 : k0 < 6) (d : DD) (dl : LL), Sq e el d dl → (0 ≤ x1.toInt ∧ x1.toInt ≤ 7) → (0 ≤ x3.toInt ∧ x3.toInt ≤ 1) → b_X5_testHolds_86 n Q k0 x1 x3 d dl := by
  intro k0 x1 x3 hk0 d dl hS bx1 bx3
  show vp_in x1 8 ∧ (x3 = (d (56 + 6 * k0) x1.toNatClampNeg) → Q 0 d dl) ∧ (¬ x3 = (d (56 + 6 * k0) x1.toNatClampNeg) → Q 1 d dl)
  have ih4 : vp_in x1 8 := vin rfl (by omega) (by omega)
  refine ⟨ih4, ?_⟩
  have m_1 := iv_56 hS.1 hk0 (x1.toNatClampNeg)
  refine ⟨fun h5 => ?_, fun h5 => ?_⟩
  · have h5 : x3.toInt = (d (56 + 6 * k0) x1.toNatClampNeg).toInt := (i_eq rfl rfl).mp h5
    exact hQ _ _ _ ⟨hS, (show (0 ≤ 0 ∧ 0 ≤ 1) from by omega)⟩
  · have h5 : ¬ (x3.toInt = (d (56 + 6 * k0) x1.toNatClampNeg).toInt) := fun q => h5 ((i_eq rfl rfl).mpr q)
    exact hQ _ _ _ ⟨hS, (show (0 ≤ 1 ∧ 1 ≤ 1) from by omega)⟩
set_option maxHeartbeats 4000000 in
set_option maxRecDepth 100000 in
theorem sb_X5_testHolds_85 {n : Nat} (hn : 1000000000 ≤ n) {e : DD} {el : LL} {Q : Int32 → DD → LL → Prop} (hQ : ∀ (r : Int32) (d2 : DD) (l2 : LL), Sq e el d2 l2 ∧ (0 ≤ r.toInt ∧ r.toInt ≤ 1) → Q r d2 l2) : ∀ (k0 : Nat) (x1 : Int32) (xs0 : Int32) (hk0 : k0 < 6) (d : DD) (dl : LL), Sq e el d dl → (0 ≤ x1.toInt ∧ x1.toInt ≤ 7) → (0 ≤ xs0.toInt ∧ xs0.toInt ≤ 1) → b_X5_testHolds_85 n Q k0 x1 xs0 d dl := by
  intro k0 x1 xs0 hk0 d dl hS bx1 bxs0
  show b_X5_testHolds_86 n Q k0 x1 xs0 d dl
  exact sb_X5_testHolds_86 hn hQ _ _ _ hk0 _ _ hS (by omega) (by omega)
set_option maxHeartbeats 4000000 in
set_option maxRecDepth 100000 in
theorem sb_X5_testHolds_66 {n : Nat} (hn : 1000000000 ≤ n) {e : DD} {el : LL} {Q : Int32 → DD → LL → Prop} (hQ : ∀ (r : Int32) (d2 : DD) (l2 : LL), Sq e el d2 l2 ∧ (0 ≤ r.toInt ∧ r.toInt ≤ 1) → Q r d2 l2) : ∀ (k0 : Nat) (x1 : Int32) (xs0 : Int32) (hk0 : k0 < 6) (d : DD) (dl : LL), Sq e el d dl → (0 ≤ x1.toInt ∧ x1.toInt ≤ 7) → (0 ≤ xs0.toInt ∧ xs0.toInt ≤ 1) → b_X5_testHolds_66 n Q k0 x1 xs0 d dl := by
  intro k0 x1 xs0 hk0 d dl hS bx1 bxs0
  show b_X5_testHolds_86 n Q k0 x1 xs0 d dl
  exact sb_X5_testHolds_86 hn hQ _ _ _ hk0 _ _ hS (by omega) (by omega)
set_option maxHeartbeats 4000000 in
set_option maxRecDepth 100000 in
theorem sb_X5_testHolds_47 {n : Nat} (hn : 1000000000 ≤ n) {e : DD} {el : LL} {Q : Int32 → DD → LL → Prop} (hQ : ∀ (r : Int32) (d2 : DD) (l2 : LL), Sq e el d2 l2 ∧ (0 ≤ r.toInt ∧ r.toInt ≤ 1) → Q r d2 l2) : ∀ (k0 : Nat) (x1 : Int32) (xs0 : Int32) (hk0 : k0 < 6) (d : DD) (dl : LL), Sq e el d dl → (0 ≤ x1.toInt ∧ x1.toInt ≤ 7) → (0 ≤ xs0.toInt ∧ xs0.toInt ≤ 1) → b_X5_testHolds_47 n Q k0 x1 xs0 d dl := by
  intro k0 x1 xs0 hk0 d dl hS bx1 bxs0
  show b_X5_testHolds_86 n Q k0 x1 xs0 d dl
  exact sb_X5_testHolds_86 hn hQ _ _ _ hk0 _ _ hS (by omega) (by omega)
set_option maxHeartbeats 4000000 in
set_option maxRecDepth 100000 in
theorem sp_X5_testHolds {n : Nat} (hn : 1000000000 ≤ n) {k0 : Nat} {x1 : Int32} {x2 : Int32} {d : DD} {dl : LL} (hI : Inv d) (hk0 : k0 < 6) (bx1 : 0 ≤ x1.toInt ∧ x1.toInt ≤ 7) {Q : Int32 → DD → LL → Prop} (hQ : ∀ (r : Int32) (d2 : DD) (l2 : LL), Sq d dl d2 l2 ∧ (0 ≤ r.toInt ∧ r.toInt ≤ 1) → Q r d2 l2) : F_X5_testHolds n k0 x1 x2 d dl Q := by
  obtain ⟨e, he⟩ : ∃ e : DD, e = d := ⟨_, rfl⟩
  obtain ⟨el, hel⟩ : ∃ el : LL, el = dl := ⟨_, rfl⟩
  have hS : Sq e el d dl := by rw [he, hel]; exact Sq.rf hI
  rw [← he, ← hel] at hQ
  show vp_in x1 8 ∧ ((d (58 + 6 * k0) x1.toNatClampNeg) = 60 → vp_in x1 8 ∧ ((d (59 + 6 * k0) x1.toNatClampNeg) ≤ x2 → b_X5_testHolds_47 n Q k0 x1 0 d dl) ∧ (¬ (d (59 + 6 * k0) x1.toNatClampNeg) ≤ x2 → b_X5_testHolds_47 n Q k0 x1 1 d dl)) ∧ ((d (58 + 6 * k0) x1.toNatClampNeg) = 61 → vp_in x1 8 ∧ (¬ x2 = (d (59 + 6 * k0) x1.toNatClampNeg) → b_X5_testHolds_66 n Q k0 x1 0 d dl) ∧ (x2 = (d (59 + 6 * k0) x1.toNatClampNeg) → b_X5_testHolds_66 n Q k0 x1 1 d dl)) ∧ (¬ (d (58 + 6 * k0) x1.toNatClampNeg) = 60 ∧ ¬ (d (58 + 6 * k0) x1.toNatClampNeg) = 61 → vp_in x1 8 ∧ (x2 ≤ (d (59 + 6 * k0) x1.toNatClampNeg) → b_X5_testHolds_85 n Q k0 x1 0 d dl) ∧ (¬ x2 ≤ (d (59 + 6 * k0) x1.toNatClampNeg) → b_X5_testHolds_85 n Q k0 x1 1 d dl))
  have ih1 : vp_in x1 8 := vin rfl (by omega) (by omega)
  refine ⟨ih1, ?_⟩
  refine ⟨fun h10 => ?_, fun h10 => ?_, fun h10 => ?_⟩
  · have h10 : (d (58 + 6 * k0) x1.toNatClampNeg).toInt = 60 := (i_eq rfl (rfl : (60 : Int32).toInt = 60)).mp h10
    have ih2 : vp_in x1 8 := vin rfl (by omega) (by omega)
    refine ⟨ih2, ?_⟩
    refine ⟨fun h3 => ?_, fun h3 => ?_⟩
    · have h3 : (d (59 + 6 * k0) x1.toNatClampNeg).toInt ≤ x2.toInt := (i_le rfl rfl).mp h3
      exact sb_X5_testHolds_47 hn hQ _ _ _ hk0 _ _ hS (by omega) (show 0 ≤ 0 ∧ 0 ≤ 1 from by omega)
    · have h3 : ¬ ((d (59 + 6 * k0) x1.toNatClampNeg).toInt ≤ x2.toInt) := fun q => h3 ((i_le rfl rfl).mpr q)
      exact sb_X5_testHolds_47 hn hQ _ _ _ hk0 _ _ hS (by omega) (show 0 ≤ 1 ∧ 1 ≤ 1 from by omega)
  · have h10 : (d (58 + 6 * k0) x1.toNatClampNeg).toInt = 61 := (i_eq rfl (rfl : (61 : Int32).toInt = 61)).mp h10
    have ih6 : vp_in x1 8 := vin rfl (by omega) (by omega)
    refine ⟨ih6, ?_⟩
    refine ⟨fun h7 => ?_, fun h7 => ?_⟩
    · have h7 : ¬ (x2.toInt = (d (59 + 6 * k0) x1.toNatClampNeg).toInt) := fun q => h7 ((i_eq rfl rfl).mpr q)
      exact sb_X5_testHolds_66 hn hQ _ _ _ hk0 _ _ hS (by omega) (show 0 ≤ 0 ∧ 0 ≤ 1 from by omega)
    · have h7 : x2.toInt = (d (59 + 6 * k0) x1.toNatClampNeg).toInt := (i_eq rfl rfl).mp h7
      exact sb_X5_testHolds_66 hn hQ _ _ _ hk0 _ _ hS (by omega) (show 0 ≤ 1 ∧ 1 ≤ 1 from by omega)
  · have _ := hn
    have ih8 : vp_in x1 8 := vin rfl (by omega) (by omega)
    refine ⟨ih8, ?_⟩
    refine ⟨fun h9 => ?_, fun h9 => ?_⟩
    · have h9 : x2.toInt ≤ (d (59 + 6 * k0) x1.toNatClampNeg).toInt := (i_le rfl rfl).mp h9
      exact sb_X5_testHolds_85 hn hQ _ _ _ hk0 _ _ hS (by omega) (show 0 ≤ 0 ∧ 0 ≤ 1 from by omega)
    · have h9 : ¬ (x2.toInt ≤ (d (59 + 6 * k0) x1.toNatClampNeg).toInt) := fun q => h9 ((i_le rfl rfl).mpr q)
      exact sb_X5_testHolds_85 hn hQ _ _ _ hk0 _ _ hS (by omega) (show 0 ≤ 1 ∧ 1 ≤ 1 from by omega)
set_option maxHeartbeats 4000000 in
set_option maxRecDepth 100000 in
theorem sb_X5_holds_68 {n : Nat} (hn : 1000000000 ≤ n) {e : DD} {el : LL} {Q : Int32 → DD → LL → Prop} (hQ : ∀ (r : Int32) (d2 : DD) (l2 : LL), Sq e el d2 l2 ∧ (0 ≤ r.toInt ∧ r.toInt ≤ 1) → Q r d2 l2) {K7 : Nat → Int32 → Int32 → Int32 → DD → LL → Prop} {j7 : Nat} (hK7 : ∀ (k0 : Nat) (x2 : Int32) (x3 : Int32) (x4 : Int32) (hk0 : k0 < 6) (d : DD) (dl : LL), Sq e el d dl → (0 ≤ x2.toInt ∧ x2.toInt ≤ 1) → (0 ≤ x3.toInt ∧ x3.toInt ≤ 1) → (0 ≤ x4.toInt ∧ x4.toInt ≤ 8) → 9 - x4.toInt < (j7 : Int) → K7 k0 x2 x3 x4 d dl) : ∀ (k0 : Nat) (x2 : Int32) (x4 : Int32) (hk0 : k0 < 6) (d : DD) (dl : LL), Sq e el d dl → (0 ≤ x2.toInt ∧ x2.toInt ≤ 1) → (0 ≤ x4.toInt ∧ x4.toInt ≤ 7) → 9 - x4.toInt ≤ (j7 : Int) → b_X5_holds_68 n Q K7 k0 x2 x4 d dl := by
  intro k0 x2 x4 hk0 d dl hS bx2 bx4 hm7
  show K7 k0 x2 0 (x4 + 1) d dl
  have t_1 : (x4 + 1).toInt = x4.toInt + 1 := ti_add rfl (rfl : (1 : Int32).toInt = 1) (by omega) (by omega)
  exact hK7 _ _ _ _ hk0 _ _ hS (by omega) (show 0 ≤ 0 ∧ 0 ≤ 1 from by omega) (by omega) (by omega)
set_option maxHeartbeats 4000000 in
set_option maxRecDepth 100000 in
theorem sb_X5_holds_42 {n : Nat} (hn : 1000000000 ≤ n) {e : DD} {el : LL} {Q : Int32 → DD → LL → Prop} (hQ : ∀ (r : Int32) (d2 : DD) (l2 : LL), Sq e el d2 l2 ∧ (0 ≤ r.toInt ∧ r.toInt ≤ 1) → Q r d2 l2) {K7 : Nat → Int32 → Int32 → Int32 → DD → LL → Prop} {j7 : Nat} (hK7 : ∀ (k0 : Nat) (x2 : Int32) (x3 : Int32) (x4 : Int32) (hk0 : k0 < 6) (d : DD) (dl : LL), Sq e el d dl → (0 ≤ x2.toInt ∧ x2.toInt ≤ 1) → (0 ≤ x3.toInt ∧ x3.toInt ≤ 1) → (0 ≤ x4.toInt ∧ x4.toInt ≤ 8) → 9 - x4.toInt < (j7 : Int) → K7 k0 x2 x3 x4 d dl) : ∀ (k0 : Nat) (x2 : Int32) (x3 : Int32) (x4 : Int32) (hk0 : k0 < 6) (d : DD) (dl : LL), Sq e el d dl → (0 ≤ x2.toInt ∧ x2.toInt ≤ 1) → (0 ≤ x3.toInt ∧ x3.toInt ≤ 1) → (0 ≤ x4.toInt ∧ x4.toInt ≤ 7) → 9 - x4.toInt ≤ (j7 : Int) → b_X5_holds_42 n Q K7 k0 x2 x3 x4 d dl := by
  intro k0 x2 x3 x4 hk0 d dl hS bx2 bx3 bx4 hm7
  show (x3 = 0 → b_X5_holds_68 n Q K7 k0 x2 x4 d dl) ∧ (¬ x3 = 0 → vp_in x4 8 ∧ vp_in (d (57 + 6 * k0) x4.toNatClampNeg) 6 ∧ F_X5_testHolds n k0 x4 (d 27 (d (57 + 6 * k0) x4.toNatClampNeg).toNatClampNeg) d dl (fun r9 d10 l11 => (r9 = 0 → b_X5_holds_68 n Q K7 k0 x2 x4 d10 l11) ∧ (¬ r9 = 0 → K7 k0 x2 1 (x4 + 1) d10 l11)))
  refine ⟨fun h6 => ?_, fun h6 => ?_⟩
  · have h6 : x3.toInt = 0 := (i_eq rfl (rfl : (0 : Int32).toInt = 0)).mp h6
    exact sb_X5_holds_68 hn hQ hK7 _ _ _ hk0 _ _ hS (by omega) (by omega) (by omega)
  · have h6 : ¬ (x3.toInt = 0) := fun q => h6 ((i_eq rfl (rfl : (0 : Int32).toInt = 0)).mpr q)
    have ih7 : vp_in x4 8 := vin rfl (by omega) (by omega)
    refine ⟨ih7, ?_⟩
    have m_2 := iv_57 hS.1 hk0 (x4.toNatClampNeg)
    have ih8 : vp_in (d (57 + 6 * k0) x4.toNatClampNeg) 6 := vin rfl (by omega) (by omega)
    refine ⟨ih8, ?_⟩
    refine sp_X5_testHolds hn hS.1 hk0 ⟨by omega, by omega⟩ (fun r9 d10 l11 ⟨p_3, u_4⟩ => ?_)
    have s_5 : Sq e el d10 l11 := hS.tr p_3
    have w_6 : d10 = d := p_3.2.1
    replace u_4 : (0 ≤ r9.toInt ∧ r9.toInt ≤ 1) := u_4
    refine ⟨fun h12 => ?_, fun h12 => ?_⟩
    · have h12 : r9.toInt = 0 := (i_eq rfl (rfl : (0 : Int32).toInt = 0)).mp h12
      exact sb_X5_holds_68 hn hQ hK7 _ _ _ hk0 _ _ s_5 (by omega) (by omega) (by omega)
    · have h12 : ¬ (r9.toInt = 0) := fun q => h12 ((i_eq rfl (rfl : (0 : Int32).toInt = 0)).mpr q)
      have t_7 : (x4 + 1).toInt = x4.toInt + 1 := ti_add rfl (rfl : (1 : Int32).toInt = 1) (by omega) (by omega)
      exact hK7 _ _ _ _ hk0 _ _ s_5 (by omega) (show 0 ≤ 1 ∧ 1 ≤ 1 from by omega) (by omega) (by omega)
set_option maxHeartbeats 4000000 in
set_option maxRecDepth 100000 in
theorem sb_X5_holds_39 {n : Nat} (hn : 1000000000 ≤ n) {e : DD} {el : LL} {Q : Int32 → DD → LL → Prop} (hQ : ∀ (r : Int32) (d2 : DD) (l2 : LL), Sq e el d2 l2 ∧ (0 ≤ r.toInt ∧ r.toInt ≤ 1) → Q r d2 l2) {K7 : Nat → Int32 → Int32 → Int32 → DD → LL → Prop} {j7 : Nat} (hK7 : ∀ (k0 : Nat) (x2 : Int32) (x3 : Int32) (x4 : Int32) (hk0 : k0 < 6) (d : DD) (dl : LL), Sq e el d dl → (0 ≤ x2.toInt ∧ x2.toInt ≤ 1) → (0 ≤ x3.toInt ∧ x3.toInt ≤ 1) → (0 ≤ x4.toInt ∧ x4.toInt ≤ 8) → 9 - x4.toInt < (j7 : Int) → K7 k0 x2 x3 x4 d dl) : ∀ (k0 : Nat) (x4 : Int32) (xs0 : Int32) (hk0 : k0 < 6) (d : DD) (dl : LL), Sq e el d dl → (0 ≤ x4.toInt ∧ x4.toInt ≤ 7) → (0 ≤ xs0.toInt ∧ xs0.toInt ≤ 1) → 9 - x4.toInt ≤ (j7 : Int) → b_X5_holds_39 n Q K7 k0 x4 xs0 d dl := by
  intro k0 x4 xs0 hk0 d dl hS bx4 bxs0 hm7
  show b_X5_holds_42 n Q K7 k0 xs0 1 x4 d dl
  exact sb_X5_holds_42 hn hQ hK7 _ _ _ _ hk0 _ _ hS (by omega) (show 0 ≤ 1 ∧ 1 ≤ 1 from by omega) (by omega) (by omega)
set_option maxHeartbeats 4000000 in
set_option maxRecDepth 100000 in
theorem sb_X5_holds_34 {n : Nat} (hn : 1000000000 ≤ n) {e : DD} {el : LL} {Q : Int32 → DD → LL → Prop} (hQ : ∀ (r : Int32) (d2 : DD) (l2 : LL), Sq e el d2 l2 ∧ (0 ≤ r.toInt ∧ r.toInt ≤ 1) → Q r d2 l2) {K7 : Nat → Int32 → Int32 → Int32 → DD → LL → Prop} {j7 : Nat} (hK7 : ∀ (k0 : Nat) (x2 : Int32) (x3 : Int32) (x4 : Int32) (hk0 : k0 < 6) (d : DD) (dl : LL), Sq e el d dl → (0 ≤ x2.toInt ∧ x2.toInt ≤ 1) → (0 ≤ x3.toInt ∧ x3.toInt ≤ 1) → (0 ≤ x4.toInt ∧ x4.toInt ≤ 8) → 9 - x4.toInt < (j7 : Int) → K7 k0 x2 x3 x4 d dl) : ∀ (k0 : Nat) (x4 : Int32) (hk0 : k0 < 6) (d : DD) (dl : LL), Sq e el d dl → (0 ≤ x4.toInt ∧ x4.toInt ≤ 7) → 9 - x4.toInt ≤ (j7 : Int) → b_X5_holds_34 n Q K7 k0 x4 d dl := by
  intro k0 x4 hk0 d dl hS bx4 hm7
  show b_X5_holds_39 n Q K7 k0 x4 1 d dl
  exact sb_X5_holds_39 hn hQ hK7 _ _ _ hk0 _ _ hS (by omega) (show 0 ≤ 1 ∧ 1 ≤ 1 from by omega) (by omega)
set_option maxHeartbeats 4000000 in
set_option maxRecDepth 100000 in
theorem sb_X5_holds_7 {n : Nat} (hn : 1000000000 ≤ n) {e : DD} {el : LL} {Q : Int32 → DD → LL → Prop} (hQ : ∀ (r : Int32) (d2 : DD) (l2 : LL), Sq e el d2 l2 ∧ (0 ≤ r.toInt ∧ r.toInt ≤ 1) → Q r d2 l2) : ∀ (j7 : Nat) (k0 : Nat) (x2 : Int32) (x3 : Int32) (x4 : Int32) (hk0 : k0 < 6) (d : DD) (dl : LL), Sq e el d dl → (0 ≤ x2.toInt ∧ x2.toInt ≤ 1) → (0 ≤ x3.toInt ∧ x3.toInt ≤ 1) → (0 ≤ x4.toInt ∧ x4.toInt ≤ 8) → 9 - x4.toInt < (j7 : Int) → b_X5_holds_7 n Q j7 k0 x2 x3 x4 d dl := by
  intro j7
  induction j7 with
  | zero =>
    intro k0 x2 x3 x4 hk0 d dl hS bx2 bx3 bx4 hm7
    exfalso
    omega
  | succ j7 hK7 =>
    intro k0 x2 x3 x4 hk0 d dl hS bx2 bx3 bx4 hm7
    show ((d (55 + 6 * k0) 0) ≤ x4 → (¬ x2 = 0 → Q 1 d dl) ∧ (x2 = 0 → (x3 = 0 → Q 0 d dl) ∧ (¬ x3 = 0 → Q 1 d dl))) ∧ (¬ (d (55 + 6 * k0) 0) ≤ x4 → vp_in x4 8 ∧ ((d (60 + 6 * k0) x4.toNatClampNeg) = 0 → b_X5_holds_42 n Q (b_X5_holds_7 n Q j7) k0 x2 x3 x4 d dl) ∧ (¬ (d (60 + 6 * k0) x4.toNatClampNeg) = 0 → (¬ x2 = 0 → b_X5_holds_34 n Q (b_X5_holds_7 n Q j7) k0 x4 d dl) ∧ (x2 = 0 → (x3 = 0 → b_X5_holds_39 n Q (b_X5_holds_7 n Q j7) k0 x4 0 d dl) ∧ (¬ x3 = 0 → b_X5_holds_34 n Q (b_X5_holds_7 n Q j7) k0 x4 d dl))))
    have m_8 := iv_55_0 hS.1 hk0
    refine ⟨fun h1 => ?_, fun h1 => ?_⟩
    · have h1 : (d (55 + 6 * k0) 0).toInt ≤ x4.toInt := (i_le rfl rfl).mp h1
      refine ⟨fun h2 => ?_, fun h2 => ?_⟩
      · have h2 : ¬ (x2.toInt = 0) := fun q => h2 ((i_eq rfl (rfl : (0 : Int32).toInt = 0)).mpr q)
        exact hQ _ _ _ ⟨hS, (show (0 ≤ 1 ∧ 1 ≤ 1) from by omega)⟩
      · have h2 : x2.toInt = 0 := (i_eq rfl (rfl : (0 : Int32).toInt = 0)).mp h2
        refine ⟨fun h3 => ?_, fun h3 => ?_⟩
        · have h3 : x3.toInt = 0 := (i_eq rfl (rfl : (0 : Int32).toInt = 0)).mp h3
          exact hQ _ _ _ ⟨hS, (show (0 ≤ 0 ∧ 0 ≤ 1) from by omega)⟩
        · have h3 : ¬ (x3.toInt = 0) := fun q => h3 ((i_eq rfl (rfl : (0 : Int32).toInt = 0)).mpr q)
          exact hQ _ _ _ ⟨hS, (show (0 ≤ 1 ∧ 1 ≤ 1) from by omega)⟩
    · have h1 : ¬ ((d (55 + 6 * k0) 0).toInt ≤ x4.toInt) := fun q => h1 ((i_le rfl rfl).mpr q)
      have ih4 : vp_in x4 8 := vin rfl (by omega) (by omega)
      refine ⟨ih4, ?_⟩
      have m_9 := iv_60 hS.1 hk0 (x4.toNatClampNeg)
      refine ⟨fun h5 => ?_, fun h5 => ?_⟩
      · have h5 : (d (60 + 6 * k0) x4.toNatClampNeg).toInt = 0 := (i_eq rfl (rfl : (0 : Int32).toInt = 0)).mp h5
        exact sb_X5_holds_42 hn hQ hK7 _ _ _ _ hk0 _ _ hS (by omega) (by omega) (by omega) (by omega)
      · have h5 : ¬ ((d (60 + 6 * k0) x4.toNatClampNeg).toInt = 0) := fun q => h5 ((i_eq rfl (rfl : (0 : Int32).toInt = 0)).mpr q)
        refine ⟨fun h13 => ?_, fun h13 => ?_⟩
        · have h13 : ¬ (x2.toInt = 0) := fun q => h13 ((i_eq rfl (rfl : (0 : Int32).toInt = 0)).mpr q)
          exact sb_X5_holds_34 hn hQ hK7 _ _ hk0 _ _ hS (by omega) (by omega)
        · have h13 : x2.toInt = 0 := (i_eq rfl (rfl : (0 : Int32).toInt = 0)).mp h13
          refine ⟨fun h14 => ?_, fun h14 => ?_⟩
          · have h14 : x3.toInt = 0 := (i_eq rfl (rfl : (0 : Int32).toInt = 0)).mp h14
            exact sb_X5_holds_39 hn hQ hK7 _ _ _ hk0 _ _ hS (by omega) (show 0 ≤ 0 ∧ 0 ≤ 1 from by omega) (by omega)
          · have h14 : ¬ (x3.toInt = 0) := fun q => h14 ((i_eq rfl (rfl : (0 : Int32).toInt = 0)).mpr q)
            exact sb_X5_holds_34 hn hQ hK7 _ _ hk0 _ _ hS (by omega) (by omega)
