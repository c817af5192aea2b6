set_option maxHeartbeats 4000000 in
set_option maxRecDepth 100000 in
theorem sb_X9_tallySeated_118 {n : Nat} (hn : 1000000000 ≤ n) {e : DD} {el : LL} {Q : DD → LL → Prop} (hQ : ∀ (d2 : DD) (l2 : LL), St e el d2 l2 ∧ True → Q d2 l2) {K23 : Nat → Int32 → DD → LL → Prop} {j23 : Nat} (hK23 : ∀ (k1 : Nat) (x2 : Int32) (hk1 : k1 < 6) (d : DD) (dl : LL), St e el d dl → (0 ≤ x2.toInt ∧ x2.toInt ≤ 8) → 9 - x2.toInt < (j23 : Int) → K23 k1 x2 d dl) : ∀ (k1 : Nat) (x2 : Int32) (x3 : Int32) (xs0 : Int32) (xs1 : Int32) (xs2 : Int32) (hk1 : k1 < 6) (d : DD) (dl : LL), St e el d dl → (0 ≤ x2.toInt ∧ x2.toInt ≤ 7) → (0 ≤ x3.toInt ∧ x3.toInt ≤ 39) → (0 ≤ xs0.toInt ∧ xs0.toInt ≤ 1) → (3 ≤ xs2.toInt ∧ xs2.toInt ≤ 3) → 9 - x2.toInt ≤ (j23 : Int) → b_X9_tallySeated_118 n Q K23 k1 x2 x3 xs0 xs1 xs2 d dl := by
  intro k1 x2 x3 xs0 xs1 xs2 hk1 d dl hS bx2 bx3 bxs0 bxs2 hm23
  show vp_in xs2 6 ∧ ∀ d22 : DD, d22 = u2 d 27 xs2.toNatClampNeg (xs1 + xs0) → vp_in x3 40 ∧ ∀ d26 : DD, d26 = u2 d22 27 (4 : Int32).toNatClampNeg ((d22 27 (4 : Int32).toNatClampNeg) + (d22 2 x3.toNatClampNeg)) → ∀ d29 : DD, d29 = u2 d26 27 (5 : Int32).toNatClampNeg ((d26 27 (5 : Int32).toNatClampNeg) + 1) → K23 k1 (x2 + 1) d29 dl
  have ih21 : vp_in xs2 6 := vin rfl (by omega) (by omega)
  refine ⟨ih21, ?_⟩
  intro d22 ed22
  have s_1 : St e el d22 dl := by rw [ed22]; exact pv_27 hS
  have ih24 : vp_in x3 40 := vin rfl (by omega) (by omega)
  refine ⟨ih24, ?_⟩
  intro d26 ed26
  have s_2 : St e el d26 dl := by rw [ed26]; exact pv_27 s_1
  intro d29 ed29
  have s_3 : St e el d29 dl := by rw [ed29]; exact pv_27 s_2
  have t_4 : (x2 + 1).toInt = x2.toInt + 1 := ti_add rfl (rfl : (1 : Int32).toInt = 1) (by omega) (by omega)
  exact hK23 _ _ hk1 _ _ s_3 (by omega) (by omega)
set_option maxHeartbeats 4000000 in
set_option maxRecDepth 100000 in
theorem sb_X9_tallySeated_90 {n : Nat} (hn : 1000000000 ≤ n) {e : DD} {el : LL} {Q : DD → LL → Prop} (hQ : ∀ (d2 : DD) (l2 : LL), St e el d2 l2 ∧ True → Q d2 l2) {K23 : Nat → Int32 → DD → LL → Prop} {j23 : Nat} (hK23 : ∀ (k1 : Nat) (x2 : Int32) (hk1 : k1 < 6) (d : DD) (dl : LL), St e el d dl → (0 ≤ x2.toInt ∧ x2.toInt ≤ 8) → 9 - x2.toInt < (j23 : Int) → K23 k1 x2 d dl) : ∀ (k1 : Nat) (x2 : Int32) (x3 : Int32) (xs0 : Int32) (xs1 : Int32) (xs2 : Int32) (hk1 : k1 < 6) (d : DD) (dl : LL), St e el d dl → (0 ≤ x2.toInt ∧ x2.toInt ≤ 7) → (0 ≤ x3.toInt ∧ x3.toInt ≤ 39) → (0 ≤ xs0.toInt ∧ xs0.toInt ≤ 1) → (2 ≤ xs2.toInt ∧ xs2.toInt ≤ 2) → 9 - x2.toInt ≤ (j23 : Int) → b_X9_tallySeated_90 n Q K23 k1 x2 x3 xs0 xs1 xs2 d dl := by
  intro k1 x2 x3 xs0 xs1 xs2 hk1 d dl hS bx2 bx3 bxs0 bxs2 hm23
  show vp_in xs2 6 ∧ ∀ d17 : DD, d17 = u2 d 27 xs2.toNatClampNeg (xs1 + xs0) → vp_in x3 40 ∧ (18 ≤ (d17 6 x3.toNatClampNeg) → b_X9_tallySeated_118 n Q K23 k1 x2 x3 0 (d17 27 (3 : Int32).toNatClampNeg) 3 d17 dl) ∧ (¬ 18 ≤ (d17 6 x3.toNatClampNeg) → b_X9_tallySeated_118 n Q K23 k1 x2 x3 1 (d17 27 (3 : Int32).toNatClampNeg) 3 d17 dl)
  have ih16 : vp_in xs2 6 := vin rfl (by omega) (by omega)
  refine ⟨ih16, ?_⟩
  intro d17 ed17
  have s_5 : St e el d17 dl := by rw [ed17]; exact pv_27 hS
  have ih19 : vp_in x3 40 := vin rfl (by omega) (by omega)
  refine ⟨ih19, ?_⟩
  have q_6 : d17 6 x3.toNatClampNeg = (d 6 x3.toNatClampNeg) := by rw [ed17, u2_row (by omega)]
  have m_7 := iv_6 hS.1 (x3.toNatClampNeg)
  have t_8 : (d17 6 x3.toNatClampNeg).toInt = (d 6 x3.toNatClampNeg).toInt := (congrArg Int32.toInt q_6).trans rfl
  refine ⟨fun h20 => ?_, fun h20 => ?_⟩
  · have h20 : 18 ≤ (d 6 x3.toNatClampNeg).toInt := (i_le (rfl : (18 : Int32).toInt = 18) t_8).mp h20
    exact sb_X9_tallySeated_118 hn hQ hK23 _ _ _ _ _ _ hk1 _ _ s_5 (by omega) (by omega) (show 0 ≤ 0 ∧ 0 ≤ 1 from by omega) (show 3 ≤ 3 ∧ 3 ≤ 3 from by omega) (by omega)
  · have h20 : ¬ (18 ≤ (d 6 x3.toNatClampNeg).toInt) := fun q => h20 ((i_le (rfl : (18 : Int32).toInt = 18) t_8).mpr q)
    exact sb_X9_tallySeated_118 hn hQ hK23 _ _ _ _ _ _ hk1 _ _ s_5 (by omega) (by omega) (show 0 ≤ 1 ∧ 1 ≤ 1 from by omega) (show 3 ≤ 3 ∧ 3 ≤ 3 from by omega) (by omega)
set_option maxHeartbeats 4000000 in
set_option maxRecDepth 100000 in
theorem sb_X9_tallySeated_59 {n : Nat} (hn : 1000000000 ≤ n) {e : DD} {el : LL} {Q : DD → LL → Prop} (hQ : ∀ (d2 : DD) (l2 : LL), St e el d2 l2 ∧ True → Q d2 l2) {K23 : Nat → Int32 → DD → LL → Prop} {j23 : Nat} (hK23 : ∀ (k1 : Nat) (x2 : Int32) (hk1 : k1 < 6) (d : DD) (dl : LL), St e el d dl → (0 ≤ x2.toInt ∧ x2.toInt ≤ 8) → 9 - x2.toInt < (j23 : Int) → K23 k1 x2 d dl) : ∀ (k1 : Nat) (x2 : Int32) (x3 : Int32) (xs0 : Int32) (hk1 : k1 < 6) (d : DD) (dl : LL), St e el d dl → (0 ≤ x2.toInt ∧ x2.toInt ≤ 7) → (0 ≤ x3.toInt ∧ x3.toInt ≤ 39) → (0 ≤ xs0.toInt ∧ xs0.toInt ≤ 1) → 9 - x2.toInt ≤ (j23 : Int) → b_X9_tallySeated_59 n Q K23 k1 x2 x3 xs0 d dl := by
  intro k1 x2 x3 xs0 hk1 d dl hS bx2 bx3 bxs0 hm23
  show vp_in xs0 6 ∧ vp_in xs0 6 ∧ ∀ d12 : DD, d12 = u2 d 27 xs0.toNatClampNeg ((d 27 xs0.toNatClampNeg) + 1) → vp_in x3 40 ∧ ((d12 6 x3.toNatClampNeg) < 40 → b_X9_tallySeated_90 n Q K23 k1 x2 x3 0 (d12 27 (2 : Int32).toNatClampNeg) 2 d12 dl) ∧ (¬ (d12 6 x3.toNatClampNeg) < 40 → b_X9_tallySeated_90 n Q K23 k1 x2 x3 1 (d12 27 (2 : Int32).toNatClampNeg) 2 d12 dl)
  have ih10 : vp_in xs0 6 := vin rfl (by omega) (by omega)
  refine ⟨ih10, ?_⟩
  have ih11 : vp_in xs0 6 := vin rfl (by omega) (by omega)
  refine ⟨ih11, ?_⟩
  intro d12 ed12
  have s_9 : St e el d12 dl := by rw [ed12]; exact pv_27 hS
  have ih14 : vp_in x3 40 := vin rfl (by omega) (by omega)
  refine ⟨ih14, ?_⟩
  have q_10 : d12 6 x3.toNatClampNeg = (d 6 x3.toNatClampNeg) := by rw [ed12, u2_row (by omega)]
  have m_11 := iv_6 hS.1 (x3.toNatClampNeg)
  have t_12 : (d12 6 x3.toNatClampNeg).toInt = (d 6 x3.toNatClampNeg).toInt := (congrArg Int32.toInt q_10).trans rfl
  refine ⟨fun h15 => ?_, fun h15 => ?_⟩
  · have h15 : (d 6 x3.toNatClampNeg).toInt < 40 := (i_lt t_12 (rfl : (40 : Int32).toInt = 40)).mp h15
    exact sb_X9_tallySeated_90 hn hQ hK23 _ _ _ _ _ _ hk1 _ _ s_9 (by omega) (by omega) (show 0 ≤ 0 ∧ 0 ≤ 1 from by omega) (show 2 ≤ 2 ∧ 2 ≤ 2 from by omega) (by omega)
  · have h15 : ¬ ((d 6 x3.toNatClampNeg).toInt < 40) := fun q => h15 ((i_lt t_12 (rfl : (40 : Int32).toInt = 40)).mpr q)
    exact sb_X9_tallySeated_90 hn hQ hK23 _ _ _ _ _ _ hk1 _ _ s_9 (by omega) (by omega) (show 0 ≤ 1 ∧ 1 ≤ 1 from by omega) (show 2 ≤ 2 ∧ 2 ≤ 2 from by omega) (by omega)
set_option maxHeartbeats 4000000 in
set_option maxRecDepth 100000 in
theorem sb_X9_tallySeated_23 {n : Nat} (hn : 1000000000 ≤ n) {e : DD} {el : LL} {Q : DD → LL → Prop} (hQ : ∀ (d2 : DD) (l2 : LL), St e el d2 l2 ∧ True → Q d2 l2) : ∀ (j23 : Nat) (k1 : Nat) (x2 : Int32) (hk1 : k1 < 6) (d : DD) (dl : LL), St e el d dl → (0 ≤ x2.toInt ∧ x2.toInt ≤ 8) → 9 - x2.toInt < (j23 : Int) → b_X9_tallySeated_23 n Q j23 k1 x2 d dl := by
  intro j23
  induction j23 with
  | zero =>
    intro k1 x2 hk1 d dl hS bx2 hm23
    exfalso
    omega
  | succ j23 hK23 =>
    intro k1 x2 hk1 d dl hS bx2 hm23
    show F_X1_seatCount n k1 d dl (fun r2 d3 l4 => (r2 ≤ x2 → Q d3 l4) ∧ (¬ r2 ≤ x2 → vp_in x2 8 ∧ ∀ v7 : Int32, v7 = (d3 (39 + 3 * k1) x2.toNatClampNeg) → vp_in v7 40 ∧ (¬ (d3 5 v7.toNatClampNeg) = 0 → b_X9_tallySeated_59 n Q (b_X9_tallySeated_23 n Q j23) k1 x2 v7 1 d3 l4) ∧ ((d3 5 v7.toNatClampNeg) = 0 → b_X9_tallySeated_59 n Q (b_X9_tallySeated_23 n Q j23) k1 x2 v7 0 d3 l4)))
    refine sp_X1_seatCount hn hS.1 hk1 (fun r2 d3 l4 ⟨p_13, u_14⟩ => ?_)
    have s_15 : St e el d3 l4 := hS.sq p_13
    have w_16 : d3 = d := p_13.2.1
    replace u_14 : (4 ≤ r2.toInt ∧ r2.toInt ≤ 8) := u_14
    refine ⟨fun h5 => ?_, fun h5 => ?_⟩
    · have h5 : r2.toInt ≤ x2.toInt := (i_le rfl rfl).mp h5
      exact hQ _ _ ⟨s_15, trivial⟩
    · have h5 : ¬ (r2.toInt ≤ x2.toInt) := fun q => h5 ((i_le rfl rfl).mpr q)
      have ih6 : vp_in x2 8 := vin rfl (by omega) (by omega)
      refine ⟨ih6, ?_⟩
      have q_17 : d3 (39 + 3 * k1) x2.toNatClampNeg = (d (39 + 3 * k1) x2.toNatClampNeg) := by rw [w_16]
      have m_18 := iv_39 hS.1 hk1 (x2.toNatClampNeg)
      have t_19 : (d3 (39 + 3 * k1) x2.toNatClampNeg).toInt = (d (39 + 3 * k1) x2.toNatClampNeg).toInt := (congrArg Int32.toInt q_17).trans rfl
      intro v7 e7
      have t_20 : v7.toInt = (d (39 + 3 * k1) x2.toNatClampNeg).toInt := (congrArg Int32.toInt e7).trans t_19
      have ih8 : vp_in v7 40 := vin t_20 (by omega) (by omega)
      refine ⟨ih8, ?_⟩
      have q_21 : d3 5 v7.toNatClampNeg = (d 5 v7.toNatClampNeg) := by rw [w_16]
      have m_22 := iv_5 hS.1 (v7.toNatClampNeg)
      have t_23 : (d3 5 v7.toNatClampNeg).toInt = (d 5 v7.toNatClampNeg).toInt := (congrArg Int32.toInt q_21).trans rfl
      refine ⟨fun h9 => ?_, fun h9 => ?_⟩
      · have h9 : ¬ ((d 5 v7.toNatClampNeg).toInt = 0) := fun q => h9 ((i_eq t_23 (rfl : (0 : Int32).toInt = 0)).mpr q)
        exact sb_X9_tallySeated_59 hn hQ hK23 _ _ _ _ hk1 _ _ s_15 (by omega) (by omega) (show 0 ≤ 1 ∧ 1 ≤ 1 from by omega) (by omega)
      · have h9 : (d 5 v7.toNatClampNeg).toInt = 0 := (i_eq t_23 (rfl : (0 : Int32).toInt = 0)).mp h9
        exact sb_X9_tallySeated_59 hn hQ hK23 _ _ _ _ hk1 _ _ s_15 (by omega) (by omega) (show 0 ≤ 0 ∧ 0 ≤ 1 from by omega) (by omega)
set_option maxHeartbeats 4000000 in
set_option maxRecDepth 100000 in
theorem sb_X9_tallySeated_2 {n : Nat} (hn : 1000000000 ≤ n) {e : DD} {el : LL} {Q : DD → LL → Prop} (hQ : ∀ (d2 : DD) (l2 : LL), St e el d2 l2 ∧ True → Q d2 l2) : ∀ (j2 : Nat) (k1 : Nat) (x2 : Int32) (hk1 : k1 < 6) (d : DD) (dl : LL), St e el d dl → (0 ≤ x2.toInt ∧ x2.toInt ≤ 6) → 7 - x2.toInt < (j2 : Int) → b_X9_tallySeated_2 n Q j2 k1 x2 d dl := by
  intro j2
  induction j2 with
  | zero =>
    intro k1 x2 hk1 d dl hS bx2 hm2
    exfalso
    omega
  | succ j2 hK2 =>
    intro k1 x2 hk1 d dl hS bx2 hm2
    show (6 ≤ x2 → b_X9_tallySeated_23 n Q n k1 0 d dl) ∧ (¬ 6 ≤ x2 → vp_in x2 6 ∧ ∀ d31 : DD, d31 = u2 d 27 x2.toNatClampNeg 0 → (b_X9_tallySeated_2 n Q j2) k1 (x2 + 1) d31 dl)
    refine ⟨fun h1 => ?_, fun h1 => ?_⟩
    · have h1 : 6 ≤ x2.toInt := (i_le (rfl : (6 : Int32).toInt = 6) rfl).mp h1
      exact sb_X9_tallySeated_23 hn hQ n _ _ hk1 _ _ hS (show 0 ≤ 0 ∧ 0 ≤ 8 from by omega) (show 9 - 0 < (n : Int) from by omega)
    · have h1 : ¬ (6 ≤ x2.toInt) := fun q => h1 ((i_le (rfl : (6 : Int32).toInt = 6) rfl).mpr q)
      have ih30 : vp_in x2 6 := vin rfl (by omega) (by omega)
      refine ⟨ih30, ?_⟩
      intro d31 ed31
      have s_24 : St e el d31 dl := by rw [ed31]; exact pv_27 hS
      have t_25 : (x2 + 1).toInt = x2.toInt + 1 := ti_add rfl (rfl : (1 : Int32).toInt = 1) (by omega) (by omega)
      exact hK2 _ _ hk1 _ _ s_24 (by omega) (by omega)
set_option maxHeartbeats 4000000 in
set_option maxRecDepth 100000 in
theorem sp_X9_tallySeated {n : Nat} (hn : 1000000000 ≤ n) {k1 : Nat} {d : DD} {dl : LL} (hI : Inv d) (hk1 : k1 < 6) {Q : DD → LL → Prop} (hQ : ∀ (d2 : DD) (l2 : LL), St d dl d2 l2 ∧ True → Q d2 l2) : F_X9_tallySeated n k1 d dl Q := by
  obtain ⟨e, he⟩ : ∃ e : DD, e = d := ⟨_, rfl⟩
  obtain ⟨el, hel⟩ : ∃ el : LL, el = dl := ⟨_, rfl⟩
  have hS : St e el d dl := by rw [he, hel]; exact St.rf hI
  rw [← he, ← hel] at hQ
  show b_X9_tallySeated_2 n Q n k1 0 d dl
  exact sb_X9_tallySeated_2 hn hQ n _ _ hk1 _ _ hS (show 0 ≤ 0 ∧ 0 ≤ 6 from by omega) (show 7 - 0 < (n : Int) from by omega)
set_option maxHeartbeats 4000000 in
set_option maxRecDepth 100000 in
theorem sb_X5_testHolds_86 {n : Nat} (hn : 1000000000 ≤ n) {e : DD} {el : LL} {Q : Int32 → DD → LL → Prop} (hQ : ∀ (r : Int32) (d2 : DD) (l2 : LL), Sq e el d2 l2 ∧ (0 ≤ r.toInt ∧ r.toInt ≤ 1) → Q r d2 l2) : ∀ (k0 : Nat) (x1 : Int32) (x3 : Int32) (hk0 : k0 < 6) (d : DD) (dl : LL), Sq e el d dl → (0 ≤ x1.toInt ∧ x1.toInt ≤ 7) → (0 ≤ x3.toInt ∧ x3.toInt ≤ 1) → b_X5_testHolds_86 n Q k0 x1 x3 d dl := by
  intro k0 x1 x3 hk0 d dl hS bx1 bx3
  show vp_in x1 8 ∧ (x3 = (d (56 + 6 * k0) x1.toNatClampNeg) → Q 0 d dl) ∧ (¬ x3 = (d (56 + 6 * k0) x1.toNatClampNeg) → Q 1 d dl)
  have ih4 : vp_in x1 8 := vin rfl (by omega) (by omega)
  refine ⟨ih4, ?_⟩
  have m_1 := iv_56 hS.1 hk0 (x1.toNatClampNeg)
  refine ⟨fun h5 => ?_, fun h5 => ?_⟩
  · have h5 : x3.toInt = (d (56 + 6 * k0) x1.toNatClampNeg).toInt := (i_eq rfl rfl).mp h5
    exact hQ _ _ _ ⟨hS, (show (0 ≤ 0 ∧ 0 ≤ 1) from by omega)⟩
  · have h5 : ¬ (x3.toInt = (d (56 + 6 * k0) x1.toNatClampNeg).toInt) := fun q => h5 ((i_eq rfl rfl).mpr q)
    exact hQ _ _ _ ⟨hS, (show (0 ≤ 1 ∧ 1 ≤ 1) from by omega)⟩
set_option maxHeartbeats 4000000 in
set_option maxRecDepth 100000 in
theorem sb_X5_testHolds_85 {n : Nat} (hn : 1000000000 ≤ n) {e : DD} {el : LL} {Q : Int32 → DD → LL → Prop} (hQ : ∀ (r : Int32) (d2 : DD) (l2 : LL), Sq e el d2 l2 ∧ (0 ≤ r.toInt ∧ r.toInt ≤ 1) → Q r d2 l2) : ∀ (k0 : Nat) (x1 : Int32) (xs0 : Int32) (hk0 : k0 < 6) (d : DD) (dl : LL), Sq e el d dl → (0 ≤ x1.toInt ∧ x1.toInt ≤ 7) → (0 ≤ xs0.toInt ∧ xs0.toInt ≤ 1) → b_X5_testHolds_85 n Q k0 x1 xs0 d dl := by
  intro k0 x1 xs0 hk0 d dl hS bx1 bxs0
  show b_X5_testHolds_86 n Q k0 x1 xs0 d dl
  exact sb_X5_testHolds_86 hn hQ _ _ _ hk0 _ _ hS (by omega) (by omega)
set_option maxHeartbeats 4000000 in
set_option maxRecDepth 100000 in
theorem sb_X5_testHolds_66 {n : Nat} (hn : 1000000000 ≤ n) {e : DD} {el : LL} {Q : Int32 → DD → LL → Prop} (hQ : ∀ (r : Int32) (d2 : DD) (l2 : LL), Sq e el d2 l2 ∧ (0 ≤ r.toInt ∧ r.toInt ≤ 1) → Q r d2 l2) : ∀ (k0 : Nat) (x1 : Int32) (xs0 : Int32) (hk0 : k0 < 6) (d : DD) (dl : LL), Sq e el d dl → (0 ≤ x1.toInt ∧ x1.toInt ≤ 7) → (0 ≤ xs0.toInt ∧ xs0.toInt ≤ 1) → b_X5_testHolds_66 n Q k0 x1 xs0 d dl := by
  intro k0 x1 xs0 hk0 d dl hS bx1 bxs0
  show b_X5_testHolds_86 n Q k0 x1 xs0 d dl
  exact sb_X5_testHolds_86 hn hQ _ _ _ hk0 _ _ hS (by omega) (by omega)
set_option maxHeartbeats 4000000 in
set_option maxRecDepth 100000 in
theorem sb_X5_testHolds_47 {n : Nat} (hn : 1000000000 ≤ n) {e : DD} {el : LL} {Q : Int32 → DD → LL → Prop} (hQ : ∀ (r : Int32) (d2 : DD) (l2 : LL), Sq e el d2 l2 ∧ (0 ≤ r.toInt ∧ r.toInt ≤ 1) → Q r d2 l2) : ∀ (k0 : Nat) (x1 : Int32) (xs0 : Int32) (hk0 : k0 < 6) (d : DD) (dl : LL), Sq e el d dl → (0 ≤ x1.toInt ∧ x1.toInt ≤ 7) → (0 ≤ xs0.toInt ∧ xs0.toInt ≤ 1) → b_X5_testHolds_47 n Q k0 x1 xs0 d dl := by
  intro k0 x1 xs0 hk0 d dl hS bx1 bxs0
  show b_X5_testHolds_86 n Q k0 x1 xs0 d dl
  exact sb_X5_testHolds_86 hn hQ _ _ _ hk0 _ _ hS (by omega) (by omega)
set_option maxHeartbeats 4000000 in
set_option maxRecDepth 100000 in
theorem sp_X5_testHolds {n : Nat} (hn : 1000000000 ≤ n) {k0 : Nat} {x1 : Int32} {x2 : Int32} {d : DD} {dl : LL} (hI : Inv d) (hk0 : k0 < 6) (bx1 : 0 ≤ x1.toInt ∧ x1.toInt ≤ 7) {Q : Int32 → DD → LL → Prop} (hQ : ∀ (r : Int32) (d2 : DD) (l2 : LL), Sq d dl d2 l2 ∧ (0 ≤ r.toInt ∧ r.toInt ≤ 1) → Q r d2 l2) : F_X5_testHolds n k0 x1 x2 d dl Q := by
  obtain ⟨e, he⟩ : ∃ e : DD, e = d := ⟨_, rfl⟩
  obtain ⟨el, hel⟩ : ∃ el : LL, el = dl := ⟨_, rfl⟩
  have hS : Sq e el d dl := by rw [he, hel]; exact Sq.rf hI
  rw [← he, ← hel] at hQ
  show vp_in x1 8 ∧ ((d (58 + 6 * k0) x1.toNatClampNeg) = 60 → vp_in x1 8 ∧ ((d (59 + 6 * k0) x1.toNatClampNeg) ≤ x2 → b_X5_testHolds_47 n Q k0 x1 0 d dl) ∧ (¬ (d (59 + 6 * k0) x1.toNatClampNeg) ≤ x2 → b_X5_testHolds_47 n Q k0 x1 1 d dl)) ∧ ((d (58 + 6 * k0) x1.toNatClampNeg) = 61 → vp_in x1 8 ∧ (¬ x2 = (d (59 + 6 * k0) x1.toNatClampNeg) → b_X5_testHolds_66 n Q k0 x1 0 d dl) ∧ (x2 = (d (59 + 6 * k0) x1.toNatClampNeg) → b_X5_testHolds_66 n Q k0 x1 1 d dl)) ∧ (¬ (d (58 + 6 * k0) x1.toNatClampNeg) = 60 ∧ ¬ (d (58 + 6 * k0) x1.toNatClampNeg) = 61 → vp_in x1 8 ∧ (x2 ≤ (d (59 + 6 * k0) x1.toNatClampNeg) → b_X5_testHolds_85 n Q k0 x1 0 d dl) ∧ (¬ x2 ≤ (d (59 + 6 * k0) x1.toNatClampNeg) → b_X5_testHolds_85 n Q k0 x1 1 d dl))
  have ih1 : vp_in x1 8 := vin rfl (by omega) (by omega)
  refine ⟨ih1, ?_⟩
  refine ⟨fun h10 => ?_, fun h10 => ?_, fun h10 => ?_⟩
  · have h10 : (d (58 + 6 * k0) x1.toNatClampNeg).toInt = 60 := (i_eq rfl (rfl : (60 : Int32).toInt = 60)).mp h10
    have ih2 : vp_in x1 8 := vin rfl (by omega) (by omega)
    refine ⟨ih2, ?_⟩
    refine ⟨fun h3 => ?_, fun h3 => ?_⟩
    · have h3 : (d (59 + 6 * k0) x1.toNatClampNeg).toInt ≤ x2.toInt := (i_le rfl rfl).mp h3
      exact sb_X5_testHolds_47 hn hQ _ _ _ hk0 _ _ hS (by omega) (show 0 ≤ 0 ∧ 0 ≤ 1 from by omega)
    · have h3 : ¬ ((d (59 + 6 * k0) x1.toNatClampNeg).toInt ≤ x2.toInt) := fun q => h3 ((i_le rfl rfl).mpr q)
      exact sb_X5_testHolds_47 hn hQ _ _ _ hk0 _ _ hS (by omega) (show 0 ≤ 1 ∧ 1 ≤ 1 from by omega)
  · have h10 : (d (58 + 6 * k0) x1.toNatClampNeg).toInt = 61 := (i_eq rfl (rfl : (61 : Int32).toInt = 61)).mp h10
    have ih6 : vp_in x1 8 := vin rfl (by omega) (by omega)
    refine ⟨ih6, ?_⟩
    refine ⟨fun h7 => ?_, fun h7 => ?_⟩
    · have h7 : ¬ (x2.toInt = (d (59 + 6 * k0) x1.toNatClampNeg).toInt) := fun q => h7 ((i_eq rfl rfl).mpr q)
      exact sb_X5_testHolds_66 hn hQ _ _ _ hk0 _ _ hS (by omega) (show 0 ≤ 0 ∧ 0 ≤ 1 from by omega)
    · have h7 : x2.toInt = (d (59 + 6 * k0) x1.toNatClampNeg).toInt := (i_eq rfl rfl).mp h7
      exact sb_X5_testHolds_66 hn hQ _ _ _ hk0 _ _ hS (by omega) (show 0 ≤ 1 ∧ 1 ≤ 1 from by omega)
  · have _ := hn
    have ih8 : vp_in x1 8 := vin rfl (by omega) (by omega)
    refine ⟨ih8, ?_⟩
    refine ⟨fun h9 => ?_, fun h9 => ?_⟩
    · have h9 : x2.toInt ≤ (d (59 + 6 * k0) x1.toNatClampNeg).toInt := (i_le rfl rfl).mp h9
      exact sb_X5_testHolds_85 hn hQ _ _ _ hk0 _ _ hS (by omega) (show 0 ≤ 0 ∧ 0 ≤ 1 from by omega)
    · have h9 : ¬ (x2.toInt ≤ (d (59 + 6 * k0) x1.toNatClampNeg).toInt) := fun q => h9 ((i_le rfl rfl).mpr q)
      exact sb_X5_testHolds_85 hn hQ _ _ _ hk0 _ _ hS (by omega) (show 0 ≤ 1 ∧ 1 ≤ 1 from by omega)
set_option maxHeartbeats 4000000 in
set_option maxRecDepth 100000 in
theorem sb_X5_holds_68 {n : Nat} (hn : 1000000000 ≤ n) {e : DD} {el : LL} {Q : Int32 → DD → LL → Prop} (hQ : ∀ (r : Int32) (d2 : DD) (l2 : LL), Sq e el d2 l2 ∧ (0 ≤ r.toInt ∧ r.toInt ≤ 1) → Q r d2 l2) {K7 : Nat → Int32 → Int32 → Int32 → DD → LL → Prop} {j7 : Nat} (hK7 : ∀ (k0 : Nat) (x2 : Int32) (x3 : Int32) (x4 : Int32) (hk0 : k0 < 6) (d : DD) (dl : LL), Sq e el d dl → (0 ≤ x2.toInt ∧ x2.toInt ≤ 1) → (0 ≤ x3.toInt ∧ x3.toInt ≤ 1) → (0 ≤ x4.toInt ∧ x4.toInt ≤ 8) → 9 - x4.toInt < (j7 : Int) → K7 k0 x2 x3 x4 d dl) : ∀ (k0 : Nat) (x2 : Int32) (x4 : Int32) (hk0 : k0 < 6) (d : DD) (dl : LL), Sq e el d dl → (0 ≤ x2.toInt ∧ x2.toInt ≤ 1) → (0 ≤ x4.toInt ∧ x4.toInt ≤ 7) → 9 - x4.toInt ≤ (j7 : Int) → b_X5_holds_68 n Q K7 k0 x2 x4 d dl := by
  intro k0 x2 x4 hk0 d dl hS bx2 bx4 hm7
  show K7 k0 x2 0 (x4 + 1) d dl
  have t_1 : (x4 + 1).toInt = x4.toInt + 1 := ti_add rfl (rfl : (1 : Int32).toInt = 1) (by omega) (by omega)
  exact hK7 _ _ _ _ hk0 _ _ hS (by omega) (show 0 ≤ 0 ∧ 0 ≤ 1 from by omega) (by omega) (by omega)
set_option maxHeartbeats 4000000 in
set_option maxRecDepth 100000 in
theorem sb_X5_holds_42 {n : Nat} (hn : 1000000000 ≤ n) {e : DD} {el : LL} {Q : Int32 → DD → LL → Prop} (hQ : ∀ (r : Int32) (d2 : DD) (l2 : LL), Sq e el d2 l2 ∧ (0 ≤ r.toInt ∧ r.toInt ≤ 1) → Q r d2 l2) {K7 : Nat → Int32 → Int32 → Int32 → DD → LL → Prop} {j7 : Nat} (hK7 : ∀ (k0 : Nat) (x2 : Int32) (x3 : Int32) (x4 : Int32) (hk0 : k0 < 6) (d : DD) (dl : LL), Sq e el d dl → (0 ≤ x2.toInt ∧ x2.toInt ≤ 1) → (0 ≤ x3.toInt ∧ x3.toInt ≤ 1) → (0 ≤ x4.toInt ∧ x4.toInt ≤ 8) → 9 - x4.toInt < (j7 : Int) → K7 k0 x2 x3 x4 d dl) : ∀ (k0 : Nat) (x2 : Int32) (x3 : Int32) (x4 : Int32) (hk0 : k0 < 6) (d : DD) (dl : LL), Sq e el d dl → (0 ≤ x2.toInt ∧ x2.toInt ≤ 1) → (0 ≤ x3.toInt ∧ x3.toInt ≤ 1) → (0 ≤ x4.toInt ∧ x4.toInt ≤ 7) → 9 - x4.toInt ≤ (j7 : Int) → b_X5_holds_42 n Q K7 k0 x2 x3 x4 d dl := by
  intro k0 x2 x3 x4 hk0 d dl hS bx2 bx3 bx4 hm7
  show (x3 = 0 → b_X5_holds_68 n Q K7 k0 x2 x4 d dl) ∧ (¬ x3 = 0 → vp_in x4 8 ∧ vp_in (d (57 + 6 * k0) x4.toNatClampNeg) 6 ∧ F_X5_testHolds n k0 x4 (d 27 (d (57 + 6 * k0) x4.toNatClampNeg).toNatClampNeg) d dl (fun r9 d10 l11 => (r9 = 0 → b_X5_holds_68 n Q K7 k0 x2 x4 d10 l11) ∧ (¬ r9 = 0 → K7 k0 x2 1 (x4 + 1) d10 l11)))
  refine ⟨fun h6 => ?_, fun h6 => ?_⟩
  · have h6 : x3.toInt = 0 := (i_eq rfl (rfl : (0 : Int32).toInt = 0)).mp h6
    exact sb_X5_holds_68 hn hQ hK7 _ _ _ hk0 _ _ hS (by omega) (by omega) (by omega)
  · have h6 : ¬ (x3.toInt = 0) := fun q => h6 ((i_eq rfl (rfl : (0 : Int32).toInt = 0)).mpr q)
    have ih7 : vp_in x4 8 := vin rfl (by omega) (by omega)
    refine ⟨ih7, ?_⟩
    have m_2 := iv_57 hS.1 hk0 (x4.toNatClampNeg)
    have ih8 : vp_in (d (57 + 6 * k0) x4.toNatClampNeg) 6 := vin rfl (by omega) (by omega)
    refine ⟨ih8, ?_⟩
    refine sp_X5_testHolds hn hS.1 hk0 ⟨by omega, by omega⟩ (fun r9 d10 l11 ⟨p_3, u_4⟩ => ?_)
    have s_5 : Sq e el d10 l11 := hS.tr p_3
    have w_6 : d10 = d := p_3.2.1
    replace u_4 : (0 ≤ r9.toInt ∧ r9.toInt ≤ 1) := u_4
    refine ⟨fun h12 => ?_, fun h12 => ?_⟩
    · have h12 : r9.toInt = 0 := (i_eq rfl (rfl : (0 : Int32).toInt = 0)).mp h12
      exact sb_X5_holds_68 hn hQ hK7 _ _ _ hk0 _ _ s_5 (by omega) (by omega) (by omega)
    · have h12 : ¬ (r9.toInt = 0) := fun q => h12 ((i_eq rfl (rfl : (0 : Int32).toInt = 0)).mpr q)
      have t_7 : (x4 + 1).toInt = x4.toInt + 1 := ti_add rfl (rfl : (1 : Int32).toInt = 1) (by omega) (by omega)
      exact hK7 _ _ _ _ hk0 _ _ s_5 (by omega) (show 0 ≤ 1 ∧ 1 ≤ 1 from by omega) (by omega) (by omega)
set_option maxHeartbeats 4000000 in
set_option maxRecDepth 100000 in
theorem sb_X5_holds_39 {n : Nat} (hn : 1000000000 ≤ n) {e : DD} {el : LL} {Q : Int32 → DD → LL → Prop} (hQ : ∀ (r : Int32) (d2 : DD) (l2 : LL), Sq e el d2 l2 ∧ (0 ≤ r.toInt ∧ r.toInt ≤ 1) → Q r d2 l2) {K7 : Nat → Int32 → Int32 → Int32 → DD → LL → Prop} {j7 : Nat} (hK7 : ∀ (k0 : Nat) (x2 : Int32) (x3 : Int32) (x4 : Int32) (hk0 : k0 < 6) (d : DD) (dl : LL), Sq e el d dl → (0 ≤ x2.toInt ∧ x2.toInt ≤ 1) → (0 ≤ x3.toInt ∧ x3.toInt ≤ 1) → (0 ≤ x4.toInt ∧ x4.toInt ≤ 8) → 9 - x4.toInt < (j7 : Int) → K7 k0 x2 x3 x4 d dl) : ∀ (k0 : Nat) (x4 : Int32) (xs0 : Int32) (hk0 : k0 < 6) (d : DD) (dl : LL), Sq e el d dl → (0 ≤ x4.toInt ∧ x4.toInt ≤ 7) → (0 ≤ xs0.toInt ∧ xs0.toInt ≤ 1) → 9 - x4.toInt ≤ (j7 : Int) → b_X5_holds_39 n Q K7 k0 x4 xs0 d dl := by
  intro k0 x4 xs0 hk0 d dl hS bx4 bxs0 hm7
  show b_X5_holds_42 n Q K7 k0 xs0 1 x4 d dl
  exact sb_X5_holds_42 hn hQ hK7 _ _ _ _ hk0 _ _ hS (by omega) (show 0 ≤ 1 ∧ 1 ≤ 1 from by omega) (by omega) (by omega)
set_option maxHeartbeats 4000000 in
set_option maxRecDepth 100000 in
theorem sb_X5_holds_34 {n : Nat} (hn : 1000000000 ≤ n) {e : DD} {el : LL} {Q : Int32 → DD → LL → Prop} (hQ : ∀ (r : Int32) (d2 : DD) (l2 : LL), Sq e el d2 l2 ∧ (0 ≤ r.toInt ∧ r.toInt ≤ 1) → Q r d2 l2) {K7 : Nat → Int32 → Int32 → Int32 → DD → LL → Prop} {j7 : Nat} (hK7 : ∀ (k0 : Nat) (x2 : Int32) (x3 : Int32) (x4 : Int32) (hk0 : k0 < 6) (d : DD) (dl : LL), Sq e el d dl → (0 ≤ x2.toInt ∧ x2.toInt ≤ 1) → (0 ≤ x3.toInt ∧ x3.toInt ≤ 1) → (0 ≤ x4.toInt ∧ x4.toInt ≤ 8) → 9 - x4.toInt < (j7 : Int) → K7 k0 x2 x3 x4 d dl) : ∀ (k0 : Nat) (x4 : Int32) (hk0 : k0 < 6) (d : DD) (dl : LL), Sq e el d dl → (0 ≤ x4.toInt ∧ x4.toInt ≤ 7) → 9 - x4.toInt ≤ (j7 : Int) → b_X5_holds_34 n Q K7 k0 x4 d dl := by
  intro k0 x4 hk0 d dl hS bx4 hm7
  show b_X5_holds_39 n Q K7 k0 x4 1 d dl
  exact sb_X5_holds_39 hn hQ hK7 _ _ _ hk0 _ _ hS (by omega) (show 0 ≤ 1 ∧ 1 ≤ 1 from by omega) (by omega)
set_option maxHeartbeats 4000000 in
set_option maxRecDepth 100000 in
theorem sb_X5_holds_7 {n : Nat} (hn : 1000000000 ≤ n) {e : DD} {el : LL} {Q : Int32 → DD → LL → Prop} (hQ : ∀ (r : Int32) (d2 : DD) (l2 : LL), Sq e el d2 l2 ∧ (0 ≤ r.toInt ∧ r.toInt ≤ 1) → Q r d2 l2) : ∀ (j7 : Nat) (k0 : Nat) (x2 : Int32) (x3 : Int32) (x4 : Int32) (hk0 : k0 < 6) (d : DD) (dl : LL), Sq e el d dl → (0 ≤ x2.toInt ∧ x2.toInt ≤ 1) → (0 ≤ x3.toInt ∧ x3.toInt ≤ 1) → (0 ≤ x4.toInt ∧ x4.toInt ≤ 8) → 9 - x4.toInt < (j7 : Int) → b_X5_holds_7 n Q j7 k0 x2 x3 x4 d dl := by
  intro j7
  induction j7 with
  | zero =>
    intro k0 x2 x3 x4 hk0 d dl hS bx2 bx3 bx4 hm7
    exfalso
    omega
  | succ j7 hK7 =>
    intro k0 x2 x3 x4 hk0 d dl hS bx2 bx3 bx4 hm7
    show ((d (55 + 6 * k0) 0) ≤ x4 → (¬ x2 = 0 → Q 1 d dl) ∧ (x2 = 0 → (x3 = 0 → Q 0 d dl) ∧ (¬ x3 = 0 → Q 1 d dl))) ∧ (¬ (d (55 + 6 * k0) 0) ≤ x4 → vp_in x4 8 ∧ ((d (60 + 6 * k0) x4.toNatClampNeg) = 0 → b_X5_holds_42 n Q (b_X5_holds_7 n Q j7) k0 x2 x3 x4 d dl) ∧ (¬ (d (60 + 6 * k0) x4.toNatClampNeg) = 0 → (¬ x2 = 0 → b_X5_holds_34 n Q (b_X5_holds_7 n Q j7) k0 x4 d dl) ∧ (x2 = 0 → (x3 = 0 → b_X5_holds_39 n Q (b_X5_holds_7 n Q j7) k0 x4 0 d dl) ∧ (¬ x3 = 0 → b_X5_holds_34 n Q (b_X5_holds_7 n Q j7) k0 x4 d dl))))
    have m_8 := iv_55_0 hS.1 hk0
    refine ⟨fun h1 => ?_, fun h1 => ?_⟩
    · have h1 : (d (55 + 6 * k0) 0).toInt ≤ x4.toInt := (i_le rfl rfl).mp h1
      refine ⟨fun h2 => ?_, fun h2 => ?_⟩
      · have h2 : ¬ (x2.toInt = 0) := fun q => h2 ((i_eq rfl (rfl : (0 : Int32).toInt = 0)).mpr q)
        exact hQ _ _ _ ⟨hS, (show (0 ≤ 1 ∧ 1 ≤ 1) from by omega)⟩
      · have h2 : x2.toInt = 0 := (i_eq rfl (rfl : (0 : Int32).toInt = 0)).mp h2
        refine ⟨fun h3 => ?_, fun h3 => ?_⟩
        · have h3 : x3.toInt = 0 := (i_eq rfl (rfl : (0 : Int32).toInt = 0)).mp h3
          exact hQ _ _ _ ⟨hS, (show (0 ≤ 0 ∧ 0 ≤ 1) from by omega)⟩
        · have h3 : ¬ (x3.toInt = 0) := fun q => h3 ((i_eq rfl (rfl : (0 : Int32).toInt = 0)).mpr q)
          exact hQ _ _ _ ⟨hS, (show (0 ≤ 1 ∧ 1 ≤ 1) from by omega)⟩
    · have h1 : ¬ ((d (55 + 6 * k0) 0).toInt ≤ x4.toInt) := fun q => h1 ((i_le rfl rfl).mpr q)
      have ih4 : vp_in x4 8 := vin rfl (by omega) (by omega)
      refine ⟨ih4, ?_⟩
      have m_9 := iv_60 hS.1 hk0 (x4.toNatClampNeg)
      refine ⟨fun h5 => ?_, fun h5 => ?_⟩
      · have h5 : (d (60 + 6 * k0) x4.toNatClampNeg).toInt = 0 := (i_eq rfl (rfl : (0 : Int32).toInt = 0)).mp h5
        exact sb_X5_holds_42 hn hQ hK7 _ _ _ _ hk0 _ _ hS (by omega) (by omega) (by omega) (by omega)
      · have h5 : ¬ ((d (60 + 6 * k0) x4.toNatClampNeg).toInt = 0) := fun q => h5 ((i_eq rfl (rfl : (0 : Int32).toInt = 0)).mpr q)
        refine ⟨fun h13 => ?_, fun h13 => ?_⟩
        · have h13 : ¬ (x2.toInt = 0) := fun q => h13 ((i_eq rfl (rfl : (0 : Int32).toInt = 0)).mpr q)
          exact sb_X5_holds_34 hn hQ hK7 _ _ hk0 _ _ hS (by omega) (by omega)
        · have h13 : x2.toInt = 0 := (i_eq rfl (rfl : (0 : Int32).toInt = 0)).mp h13
          refine ⟨fun h14 => ?_, fun h14 => ?_⟩
          · have h14 : x3.toInt = 0 := (i_eq rfl (rfl : (0 : Int32).toInt = 0)).mp h14
            exact sb_X5_holds_39 hn hQ hK7 _ _ _ hk0 _ _ hS (by omega) (show 0 ≤ 0 ∧ 0 ≤ 1 from by omega) (by omega)
          · have h14 : ¬ (x3.toInt = 0) := fun q => h14 ((i_eq rfl (rfl : (0 : Int32).toInt = 0)).mpr q)
            exact sb_X5_holds_34 hn hQ hK7 _ _ hk0 _ _ hS (by omega) (by omega)
set_option maxHeartbeats 4000000 in
set_option maxRecDepth 100000 in
theorem sp_X5_holds {n : Nat} (hn : 1000000000 ≤ n) {k0 : Nat} {d : DD} {dl : LL} (hI : Inv d) (hk0 : k0 < 6) {Q : Int32 → DD → LL → Prop} (hQ : ∀ (r : Int32) (d2 : DD) (l2 : LL), Sq d dl d2 l2 ∧ (0 ≤ r.toInt ∧ r.toInt ≤ 1) → Q r d2 l2) : F_X5_holds n k0 d dl Q := by
  obtain ⟨e, he⟩ : ∃ e : DD, e = d := ⟨_, rfl⟩
  obtain ⟨el, hel⟩ : ∃ el : LL, el = dl := ⟨_, rfl⟩
  have hS : Sq e el d dl := by rw [he, hel]; exact Sq.rf hI
  rw [← he, ← hel] at hQ
  show b_X5_holds_7 n Q n k0 0 1 0 d dl
  exact sb_X5_holds_7 hn hQ n _ _ _ _ hk0 _ _ hS (show 0 ≤ 0 ∧ 0 ≤ 1 from by omega) (show 0 ≤ 1 ∧ 1 ≤ 1 from by omega) (show 0 ≤ 0 ∧ 0 ≤ 8 from by omega) (show 9 - 0 < (n : Int) from by omega)
set_option maxHeartbeats 4000000 in
set_option maxRecDepth 100000 in
theorem sp_X9_keeps {n : Nat} (hn : 1000000000 ≤ n) {x1 : Int32} {x2 : Int32} {d : DD} {dl : LL} (hI : Inv d) {Q : Int32 → DD → LL → Prop} (hQ : ∀ (r : Int32) (d2 : DD) (l2 : LL), St d dl d2 l2 ∧ ((-3) ≤ r.toInt ∧ r.toInt ≤ 1) → Q r d2 l2) : F_X9_keeps n x1 x2 d dl Q := by
  obtain ⟨e, he⟩ : ∃ e : DD, e = d := ⟨_, rfl⟩
  obtain ⟨el, hel⟩ : ∃ el : LL, el = dl := ⟨_, rfl⟩
  have hS : St e el d dl := by rw [he, hel]; exact St.rf hI
  rw [← he, ← hel] at hQ
  show F_X9_isCrew n x1 d dl (fun r1 d2 l3 => (r1 = 0 → Q (-1) d2 l3) ∧ (¬ r1 = 0 → F_X9_within n x2 0 ((d2 0 7) - 1) d2 l3 (fun r5 d6 l7 => (¬ r5 = 0 → vp_in x1 6 ∧ ∀ k10 : Nat, k10 = x1.toNatClampNeg → (¬ (d6 (37 + 3 * k10) 6) = 0 → vp_in x1 6 ∧ ∀ k13 : Nat, k13 = x1.toNatClampNeg → F_X9_tallySeated n k13 d6 l7 (fun d15 l16 => vp_in x2 6 ∧ ∀ k18 : Nat, k18 = x2.toNatClampNeg → F_X5_holds n k18 d15 l16 (fun r19 d20 l21 => (r19 = 0 → Q 0 d20 l21) ∧ (¬ r19 = 0 → Q 1 d20 l21)))) ∧ ((d6 (37 + 3 * k10) 6) = 0 → Q (-3) d6 l7)) ∧ (r5 = 0 → Q (-1) d6 l7))))
  refine sp_X9_isCrew hn hS.1 (fun r1 d2 l3 ⟨p_1, u_2⟩ => ?_)
  have s_3 : St e el d2 l3 := hS.sq p_1
  have w_4 : d2 = d := p_1.2.1
  replace u_2 : (0 ≤ r1.toInt ∧ r1.toInt ≤ 1 ∧ ((r1.toInt = 1 ∧ 0 ≤ x1.toInt ∧ x1.toInt < (d 0 2).toInt) ∨ (r1.toInt = 0 ∧ ¬ (0 ≤ x1.toInt ∧ x1.toInt < (d 0 2).toInt)))) := u_2
  have m_5 := iv_0_2 hS.1
  refine ⟨fun h4 => ?_, fun h4 => ?_⟩
  · have h4 : r1.toInt = 0 := (i_eq rfl (rfl : (0 : Int32).toInt = 0)).mp h4
    exact hQ _ _ _ ⟨s_3, (show ((-3) ≤ (-1) ∧ (-1) ≤ 1) from by omega)⟩
  · have h4 : ¬ (r1.toInt = 0) := fun q => h4 ((i_eq rfl (rfl : (0 : Int32).toInt = 0)).mpr q)
    have q_6 : d2 0 7 = (d 0 7) := by rw [w_4]
    have m_7 := iv_0_7 hS.1
    have t_8 : (d2 0 7).toInt = (d 0 7).toInt := (congrArg Int32.toInt q_6).trans rfl
    have t_9 : ((d2 0 7) - 1).toInt = (d 0 7).toInt - 1 := ti_sub t_8 (rfl : (1 : Int32).toInt = 1) (by omega) (by omega)
    refine sp_X9_within hn s_3.1 (fun r5 d6 l7 ⟨p_10, u_11⟩ => ?_)
    have s_12 : St e el d6 l7 := s_3.sq p_10
    have w_13 : d6 = d2 := p_10.2.1
    replace u_11 : (0 ≤ r5.toInt ∧ r5.toInt ≤ 1 ∧ ((r5.toInt = 1 ∧ 0 ≤ x2.toInt ∧ x2.toInt ≤ ((d2 0 7) - 1).toInt) ∨ (r5.toInt = 0 ∧ ¬ (0 ≤ x2.toInt ∧ x2.toInt ≤ ((d2 0 7) - 1).toInt)))) := u_11
    refine ⟨fun h8 => ?_, fun h8 => ?_⟩
    · have h8 : ¬ (r5.toInt = 0) := fun q => h8 ((i_eq rfl (rfl : (0 : Int32).toInt = 0)).mpr q)
      have ih9 : vp_in x1 6 := vin rfl (by omega) (by omega)
      refine ⟨ih9, ?_⟩
      intro k10 ek10
      have hk10 : k10 < 6 := by rw [ek10]; exact clamp_in ih9
      have q_14 : d6 (37 + 3 * k10) 6 = (d (37 + 3 * k10) 6) := by rw [w_13]; rw [w_4]
      have m_15 := iv_37_6 hS.1 hk10
      have t_16 : (d6 (37 + 3 * k10) 6).toInt = (d (37 + 3 * k10) 6).toInt := (congrArg Int32.toInt q_14).trans rfl
      refine ⟨fun h11 => ?_, fun h11 => ?_⟩
      · have h11 : ¬ ((d (37 + 3 * k10) 6).toInt = 0) := fun q => h11 ((i_eq t_16 (rfl : (0 : Int32).toInt = 0)).mpr q)
        have ih12 : vp_in x1 6 := vin rfl (by omega) (by omega)
        refine ⟨ih12, ?_⟩
        intro k13 ek13
        have hk13 : k13 < 6 := by rw [ek13]; exact clamp_in ih12
        refine sp_X9_tallySeated hn s_12.1 hk13 (fun d15 l16 ⟨p_17, u_18⟩ => ?_)
        have s_19 : St e el d15 l16 := s_12.tr p_17
        have ih17 : vp_in x2 6 := vin rfl (by omega) (by omega)
        refine ⟨ih17, ?_⟩
        intro k18 ek18
        have hk18 : k18 < 6 := by rw [ek18]; exact clamp_in ih17
        refine sp_X5_holds hn s_19.1 hk18 (fun r19 d20 l21 ⟨p_20, u_21⟩ => ?_)
        have s_22 : St e el d20 l21 := s_19.sq p_20
        have w_23 : d20 = d15 := p_20.2.1
        replace u_21 : (0 ≤ r19.toInt ∧ r19.toInt ≤ 1) := u_21
        refine ⟨fun h22 => ?_, fun h22 => ?_⟩
        · have h22 : r19.toInt = 0 := (i_eq rfl (rfl : (0 : Int32).toInt = 0)).mp h22
          exact hQ _ _ _ ⟨s_22, (show ((-3) ≤ 0 ∧ 0 ≤ 1) from by omega)⟩
        · have h22 : ¬ (r19.toInt = 0) := fun q => h22 ((i_eq rfl (rfl : (0 : Int32).toInt = 0)).mpr q)
          exact hQ _ _ _ ⟨s_22, (show ((-3) ≤ 1 ∧ 1 ≤ 1) from by omega)⟩
      · have h11 : (d (37 + 3 * k10) 6).toInt = 0 := (i_eq t_16 (rfl : (0 : Int32).toInt = 0)).mp h11
        exact hQ _ _ _ ⟨s_12, (show ((-3) ≤ (-3) ∧ (-3) ≤ 1) from by omega)⟩
    · have h8 : r5.toInt = 0 := (i_eq rfl (rfl : (0 : Int32).toInt = 0)).mp h8
      exact hQ _ _ _ ⟨s_12, (show ((-3) ≤ (-1) ∧ (-1) ≤ 1) from by omega)⟩
