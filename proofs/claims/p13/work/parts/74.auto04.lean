set_option maxHeartbeats 4000000 in
set_option maxRecDepth 100000 in
theorem sp_X0_driveOf {n : Nat} (hn : 1000000000 ≤ n) {k1 : Nat} {x2 : Int32} {d : DD} {dl : LL} (hI : Inv d) (hk1 : k1 < 6) {Q : Int32 → DD → LL → Prop} (hQ : ∀ (r : Int32) (d2 : DD) (l2 : LL), Sq d dl d2 l2 ∧ (True) → Q r d2 l2) : F_X0_driveOf n k1 x2 d dl Q := by
  obtain ⟨e, he⟩ : ∃ e : DD, e = d := ⟨_, rfl⟩
  obtain ⟨el, hel⟩ : ∃ el : LL, el = dl := ⟨_, rfl⟩
  have hS : Sq e el d dl := by rw [he, hel]; exact Sq.rf hI
  rw [← he, ← hel] at hQ
  show b_X0_driveOf_5 n Q n k1 x2 0 0 d dl
  exact sb_X0_driveOf_5 hn hQ n _ _ _ _ hk1 _ _ hS (show 0 ≤ 0 ∧ 0 ≤ 8 from by omega) (show 9 - 0 < (n : Int) from by omega)
set_option maxHeartbeats 4000000 in
set_option maxRecDepth 100000 in
theorem sb_X0_paddle_96 {n : Nat} (hn : 1000000000 ≤ n) {e : DD} {el : LL} {Q : DD → LL → Prop} (hQ : ∀ (d2 : DD) (l2 : LL), St e el d2 l2 ∧ True → Q d2 l2) {K27 : Nat → Int32 → Int32 → Int32 → Int32 → Int32 → Int32 → DD → LL → Prop} {j27 : Nat} (hK27 : ∀ (k2 : Nat) (x3 : Int32) (x4 : Int32) (x5 : Int32) (x6 : Int32) (x7 : Int32) (x8 : Int32) (hk2 : k2 < 6) (d : DD) (dl : LL), St e el d dl → (0 ≤ x8.toInt ∧ x8.toInt ≤ 2000) → 2001 - x8.toInt < (j27 : Int) → K27 k2 x3 x4 x5 x6 x7 x8 d dl) : ∀ (k2 : Nat) (x3 : Int32) (x4 : Int32) (x5 : Int32) (x6 : Int32) (x7 : Int32) (x8 : Int32) (x9 : Int32) (hk2 : k2 < 6) (d : DD) (dl : LL), St e el d dl → (0 ≤ x8.toInt ∧ x8.toInt ≤ 1999) → 2001 - x8.toInt ≤ (j27 : Int) → b_X0_paddle_96 n Q K27 k2 x3 x4 x5 x6 x7 x8 x9 d dl := by
  intro k2 x3 x4 x5 x6 x7 x8 x9 hk2 d dl hS bx8 hm27
  show ∀ d10 : DD, d10 = u2 d 31 1 ((d 31 1) + x9) → (x6 ≤ 200 → K27 k2 x3 x4 x5 x6 x7 (x8 + 1) d10 dl) ∧ (¬ x6 ≤ 200 → ∀ v12 : Int32, v12 = (if (200 : Int32) < (x6 - ((d10 (37 + 3 * k2) 2) * (d10 (37 + 3 * k2) 2))) then (x6 - ((d10 (37 + 3 * k2) 2) * (d10 (37 + 3 * k2) 2))) else 200) → F_X0_driveOf n k2 v12 d10 dl (fun r13 d14 l15 => K27 k2 x3 x4 x5 v12 r13 (x8 + 1) d14 l15))
  intro d10 ed10
  have s_1 : St e el d10 dl := by rw [ed10]; exact pv_31_1 hS
  refine ⟨fun h11 => ?_, fun h11 => ?_⟩
  · have h11 : x6.toInt ≤ 200 := (i_le rfl (rfl : (200 : Int32).toInt = 200)).mp h11
    have t_2 : (x8 + 1).toInt = x8.toInt + 1 := ti_add rfl (rfl : (1 : Int32).toInt = 1) (by omega) (by omega)
    exact hK27 _ _ _ _ _ _ _ hk2 _ _ s_1 (by omega) (by omega)
  · have h11 : ¬ (x6.toInt ≤ 200) := fun q => h11 ((i_le rfl (rfl : (200 : Int32).toInt = 200)).mpr q)
    have t_3 : (if (200 : Int32) < (x6 - ((d10 (37 + 3 * k2) 2) * (d10 (37 + 3 * k2) 2))) then (x6 - ((d10 (37 + 3 * k2) 2) * (d10 (37 + 3 * k2) 2))) else 200).toInt = max 200 (x6 - ((d10 (37 + 3 * k2) 2) * (d10 (37 + 3 * k2) 2))).toInt := ti_max (rfl : (200 : Int32).toInt = 200) rfl
    intro v12 e12
    have t_4 : v12.toInt = (max 200 (x6 - ((d10 (37 + 3 * k2) 2) * (d10 (37 + 3 * k2) 2))).toInt) := (congrArg Int32.toInt e12).trans t_3
    refine sp_X0_driveOf hn s_1.1 hk2 (fun r13 d14 l15 ⟨p_5, u_6⟩ => ?_)
    have s_7 : St e el d14 l15 := s_1.sq p_5
    have w_8 : d14 = d10 := p_5.2.1
    have t_9 : (x8 + 1).toInt = x8.toInt + 1 := ti_add rfl (rfl : (1 : Int32).toInt = 1) (by omega) (by omega)
    exact hK27 _ _ _ _ _ _ _ hk2 _ _ s_7 (by omega) (by omega)
set_option maxHeartbeats 4000000 in
set_option maxRecDepth 100000 in
theorem sb_X0_paddle_27 {n : Nat} (hn : 1000000000 ≤ n) {e : DD} {el : LL} {Q : DD → LL → Prop} (hQ : ∀ (d2 : DD) (l2 : LL), St e el d2 l2 ∧ True → Q d2 l2) : ∀ (j27 : Nat) (k2 : Nat) (x3 : Int32) (x4 : Int32) (x5 : Int32) (x6 : Int32) (x7 : Int32) (x8 : Int32) (hk2 : k2 < 6) (d : DD) (dl : LL), St e el d dl → (0 ≤ x8.toInt ∧ x8.toInt ≤ 2000) → 2001 - x8.toInt < (j27 : Int) → b_X0_paddle_27 n Q j27 k2 x3 x4 x5 x6 x7 x8 d dl := by
  intro j27
  induction j27 with
  | zero =>
    intro k2 x3 x4 x5 x6 x7 x8 hk2 d dl hS bx8 hm27
    exfalso
    omega
  | succ j27 hK27 =>
    intro k2 x3 x4 x5 x6 x7 x8 hk2 d dl hS bx8 hm27
    show (2000 ≤ x8 → Q d dl) ∧ (¬ 2000 ≤ x8 → (x5 ≤ (d 31 1) → Q d dl) ∧ (¬ x5 ≤ (d 31 1) → ∀ v8 : Int32, v8 = (if (1 : Int32) < ((if (1 : Int32) < (x7 - x3) then (x7 - x3) else 1) + x4) then ((if (1 : Int32) < (x7 - x3) then (x7 - x3) else 1) + x4) else 1) → (((d 31 1) + v8) < x5 → b_X0_paddle_96 n Q (b_X0_paddle_27 n Q j27) k2 x3 x4 x5 x6 x7 x8 v8 d dl) ∧ (¬ ((d 31 1) + v8) < x5 → ¬ v8 = 0 ∧ ∀ d17 : DD, d17 = u2 d 31 0 (((100 : Int32) * x8) + (((x5 - (d 31 1)) * 100) / v8)) → b_X0_paddle_96 n Q (b_X0_paddle_27 n Q j27) k2 x3 x4 x5 x6 x7 x8 v8 d17 dl)))
    refine ⟨fun h6 => ?_, fun h6 => ?_⟩
    · have h6 : 2000 ≤ x8.toInt := (i_le (rfl : (2000 : Int32).toInt = 2000) rfl).mp h6
      exact hQ _ _ ⟨hS, trivial⟩
    · have h6 : ¬ (2000 ≤ x8.toInt) := fun q => h6 ((i_le (rfl : (2000 : Int32).toInt = 2000) rfl).mpr q)
      refine ⟨fun h7 => ?_, fun h7 => ?_⟩
      · have h7 : x5.toInt ≤ (d 31 1).toInt := (i_le rfl rfl).mp h7
        exact hQ _ _ ⟨hS, trivial⟩
      · have h7 : ¬ (x5.toInt ≤ (d 31 1).toInt) := fun q => h7 ((i_le rfl rfl).mpr q)
        have t_10 : (if (1 : Int32) < ((if (1 : Int32) < (x7 - x3) then (x7 - x3) else 1) + x4) then ((if (1 : Int32) < (x7 - x3) then (x7 - x3) else 1) + x4) else 1).toInt = max 1 ((if (1 : Int32) < (x7 - x3) then (x7 - x3) else 1) + x4).toInt := ti_max (rfl : (1 : Int32).toInt = 1) rfl
        intro v8 e8
        have t_11 : v8.toInt = (max 1 ((if (1 : Int32) < (x7 - x3) then (x7 - x3) else 1) + x4).toInt) := (congrArg Int32.toInt e8).trans t_10
        refine ⟨fun h9 => ?_, fun h9 => ?_⟩
        · have h9 : ((d 31 1) + v8).toInt < x5.toInt := (i_lt rfl rfl).mp h9
          exact sb_X0_paddle_96 hn hQ hK27 _ _ _ _ _ _ _ _ hk2 _ _ hS (by omega) (by omega)
        · have h9 : ¬ (((d 31 1) + v8).toInt < x5.toInt) := fun q => h9 ((i_lt rfl rfl).mpr q)
          have z_12 : ¬ v8.toInt = 0 := by omega
          refine ⟨fun q => z_12 ((i_eq rfl (rfl : (0 : Int32).toInt = 0)).mp q), ?_⟩
          intro d17 ed17
          have s_13 : St e el d17 dl := by rw [ed17]; exact pv_31_0 hS
          exact sb_X0_paddle_96 hn hQ hK27 _ _ _ _ _ _ _ _ hk2 _ _ s_13 (by omega) (by omega)
set_option maxHeartbeats 4000000 in
set_option maxRecDepth 100000 in
theorem sp_X0_paddle {n : Nat} (hn : 1000000000 ≤ n) {k2 : Nat} {x3 : Int32} {x4 : Int32} {x5 : Int32} {d : DD} {dl : LL} (hI : Inv d) (hk2 : k2 < 6) {Q : DD → LL → Prop} (hQ : ∀ (d2 : DD) (l2 : LL), St d dl d2 l2 ∧ True → Q d2 l2) : F_X0_paddle n k2 x3 x4 x5 d dl Q := by
  obtain ⟨e, he⟩ : ∃ e : DD, e = d := ⟨_, rfl⟩
  obtain ⟨el, hel⟩ : ∃ el : LL, el = dl := ⟨_, rfl⟩
  have hS : St e el d dl := by rw [he, hel]; exact St.rf hI
  rw [← he, ← hel] at hQ
  show F_X0_driveOf n k2 1000 d dl (fun r1 d2 l3 => ∀ d4 : DD, d4 = u2 d2 31 0 0 → ∀ d5 : DD, d5 = u2 d4 31 1 0 → b_X0_paddle_27 n Q n k2 x3 x4 x5 1000 r1 0 d5 l3)
  refine sp_X0_driveOf hn hS.1 hk2 (fun r1 d2 l3 ⟨p_14, u_15⟩ => ?_)
  have s_16 : St e el d2 l3 := hS.sq p_14
  have w_17 : d2 = d := p_14.2.1
  intro d4 ed4
  have s_18 : St e el d4 l3 := by rw [ed4]; exact pv_31_0 s_16
  intro d5 ed5
  have s_19 : St e el d5 l3 := by rw [ed5]; exact pv_31_1 s_18
  exact sb_X0_paddle_27 hn hQ n _ _ _ _ _ _ _ hk2 _ _ s_19 (show 0 ≤ 0 ∧ 0 ≤ 2000 from by omega) (show 2001 - 0 < (n : Int) from by omega)
set_option maxHeartbeats 4000000 in
set_option maxRecDepth 100000 in
theorem sp_X9_goDown {n : Nat} (hn : 1000000000 ≤ n) {k1 : Nat} {x2 : Int32} {x3 : Int32} {d : DD} {dl : LL} (hI : Inv d) (hk1 : k1 < 24) (bx2 : 0 ≤ x2.toInt ∧ x2.toInt ≤ 3) (bx3 : 100 ≤ x3.toInt ∧ x3.toInt ≤ 2000) (hgo : 0 ≤ (d (92 + 5 * k1) x2.toNatClampNeg).toInt) {Q : DD → LL → Prop} (hQ : ∀ (d2 : DD) (l2 : LL), St d dl d2 l2 ∧ True → Q d2 l2) : F_X9_goDown n k1 x2 x3 d dl Q := by
  obtain ⟨e, he⟩ : ∃ e : DD, e = d := ⟨_, rfl⟩
  obtain ⟨el, hel⟩ : ∃ el : LL, el = dl := ⟨_, rfl⟩
  have hS : St e el d dl := by rw [he, hel]; exact St.rf hI
  rw [← he, ← hel] at hQ
  show vp_in x2 4 ∧ vp_in (d (92 + 5 * k1) x2.toNatClampNeg) 6 ∧ ∀ k3 : Nat, k3 = (d (92 + 5 * k1) x2.toNatClampNeg).toNatClampNeg → (¬ (d (37 + 3 * k3) 6) = 0 → F_X8_weigh n k3 d dl (fun d6 l7 => F_X8_tilt n d6 l7 (fun r8 d9 l10 => ∀ v11 : Int32, v11 = ((if (0 : Int32) < r8 then r8 else 0) / 10) → vp_in x2 4 ∧ F_X0_paddle n k3 v11 (d9 29 x2.toNatClampNeg) ((10 : Int32) * x3) d9 l10 (fun d14 l15 => vp_in x2 4 ∧ ∀ d17 : DD, d17 = u2 d14 (93 + 5 * k1) x2.toNatClampNeg (d14 31 0) → vp_in x2 4 ∧ ∀ d19 : DD, d19 = u2 d17 (94 + 5 * k1) x2.toNatClampNeg (d17 31 1) → Q d19 l15)))) ∧ ((d (37 + 3 * k3) 6) = 0 → Q d dl)
  have ih1 : vp_in x2 4 := vin rfl (by omega) (by omega)
  refine ⟨ih1, ?_⟩
  have m_1 := iv_92 hS.1 hk1 (x2.toNatClampNeg)
  have ih2 : vp_in (d (92 + 5 * k1) x2.toNatClampNeg) 6 := vin rfl (by omega) (by omega)
  refine ⟨ih2, ?_⟩
  intro k3 ek3
  have hk3 : k3 < 6 := by rw [ek3]; exact clamp_in ih2
  have m_2 := iv_37_6 hS.1 hk3
  refine ⟨fun h4 => ?_, fun h4 => ?_⟩
  · have h4 : ¬ ((d (37 + 3 * k3) 6).toInt = 0) := fun q => h4 ((i_eq rfl (rfl : (0 : Int32).toInt = 0)).mpr q)
    refine sp_X8_weigh hn hS.1 hk3 (fun d6 l7 ⟨p_3, u_4⟩ => ?_)
    have s_5 : St e el d6 l7 := hS.tr p_3
    refine sp_X8_tilt hn s_5.1 (fun r8 d9 l10 ⟨p_6, u_7⟩ => ?_)
    have s_8 : St e el d9 l10 := s_5.sq p_6
    have w_9 : d9 = d6 := p_6.2.1
    have t_10 : (if (0 : Int32) < r8 then r8 else 0).toInt = max 0 r8.toInt := ti_max (rfl : (0 : Int32).toInt = 0) rfl
    have t_11 : ((if (0 : Int32) < r8 then r8 else 0) / 10).toInt = (max 0 r8.toInt) / 10 := ti_div t_10 (rfl : (10 : Int32).toInt = 10) (by omega) (by omega)
    intro v11 e11
    have t_12 : v11.toInt = ((max 0 r8.toInt) / 10) := (congrArg Int32.toInt e11).trans t_11
    have ih12 : vp_in x2 4 := vin rfl (by omega) (by omega)
    refine ⟨ih12, ?_⟩
    have q_13 : d9 29 x2.toNatClampNeg = (d 29 x2.toNatClampNeg) := by rw [w_9]; rw [p_3.2.1 29 x2.toNatClampNeg rfl]
    have t_14 : (d9 29 x2.toNatClampNeg).toInt = (d 29 x2.toNatClampNeg).toInt := (congrArg Int32.toInt q_13).trans rfl
    have t_15 : ((10 : Int32) * x3).toInt = 10 * x3.toInt := ti_mul (rfl : (10 : Int32).toInt = 10) rfl (by omega) (by omega)
    refine sp_X0_paddle hn s_8.1 hk3 (fun d14 l15 ⟨p_16, u_17⟩ => ?_)
    have s_18 : St e el d14 l15 := s_8.tr p_16
    have ih16 : vp_in x2 4 := vin rfl (by omega) (by omega)
    refine ⟨ih16, ?_⟩
    intro d17 ed17
    have s_19 : St e el d17 l15 := by rw [ed17]; exact pv_93 s_18 hk1
    have ih18 : vp_in x2 4 := vin rfl (by omega) (by omega)
    refine ⟨ih18, ?_⟩
    intro d19 ed19
    have s_20 : St e el d19 l15 := by rw [ed19]; exact pv_94 s_19 hk1
    exact hQ _ _ ⟨s_20, trivial⟩
  · have h4 : (d (37 + 3 * k3) 6).toInt = 0 := (i_eq rfl (rfl : (0 : Int32).toInt = 0)).mp h4
    exact hQ _ _ ⟨hS, trivial⟩
set_option maxHeartbeats 4000000 in
set_option maxRecDepth 100000 in
theorem sb_X3_timeCount_24 {n : Nat} (hn : 1000000000 ≤ n) {e : DD} {el : LL} {Q : Int32 → DD → LL → Prop} (hQ : ∀ (r : Int32) (d2 : DD) (l2 : LL), Sq e el d2 l2 ∧ (True) → Q r d2 l2) {K4 : Nat → Int32 → Int32 → DD → LL → Prop} {j4 : Nat} (hK4 : ∀ (k0 : Nat) (x1 : Int32) (x2 : Int32) (hk0 : k0 < 24) (d : DD) (dl : LL), Sq e el d dl → (0 ≤ x2.toInt ∧ x2.toInt ≤ 4) → 5 - x2.toInt < (j4 : Int) → K4 k0 x1 x2 d dl) : ∀ (k0 : Nat) (x2 : Int32) (xs0 : Int32) (xs1 : Int32) (hk0 : k0 < 24) (d : DD) (dl : LL), Sq e el d dl → (0 ≤ x2.toInt ∧ x2.toInt ≤ 3) → (0 ≤ xs0.toInt ∧ xs0.toInt ≤ 1) → 5 - x2.toInt ≤ (j4 : Int) → b_X3_timeCount_24 n Q K4 k0 x2 xs0 xs1 d dl := by
  intro k0 x2 xs0 xs1 hk0 d dl hS bx2 bxs0 hm4
  show ∀ v4 : Int32, v4 = (xs1 + xs0) → K4 k0 v4 (x2 + 1) d dl
  intro v4 e4
  have t_1 : v4.toInt = (xs1 + xs0).toInt := (congrArg Int32.toInt e4).trans rfl
  have t_2 : (x2 + 1).toInt = x2.toInt + 1 := ti_add rfl (rfl : (1 : Int32).toInt = 1) (by omega) (by omega)
  exact hK4 _ _ _ hk0 _ _ hS (by omega) (by omega)
set_option maxHeartbeats 4000000 in
set_option maxRecDepth 100000 in
theorem sb_X3_timeCount_4 {n : Nat} (hn : 1000000000 ≤ n) {e : DD} {el : LL} {Q : Int32 → DD → LL → Prop} (hQ : ∀ (r : Int32) (d2 : DD) (l2 : LL), Sq e el d2 l2 ∧ (True) → Q r d2 l2) : ∀ (j4 : Nat) (k0 : Nat) (x1 : Int32) (x2 : Int32) (hk0 : k0 < 24) (d : DD) (dl : LL), Sq e el d dl → (0 ≤ x2.toInt ∧ x2.toInt ≤ 4) → 5 - x2.toInt < (j4 : Int) → b_X3_timeCount_4 n Q j4 k0 x1 x2 d dl := by
  intro j4
  induction j4 with
  | zero =>
    intro k0 x1 x2 hk0 d dl hS bx2 hm4
    exfalso
    omega
  | succ j4 hK4 =>
    intro k0 x1 x2 hk0 d dl hS bx2 hm4
    show (4 ≤ x2 → Q x1 d dl) ∧ (¬ 4 ≤ x2 → vp_in x2 4 ∧ ((d (93 + 5 * k0) x2.toNatClampNeg) ≤ 0 → b_X3_timeCount_24 n Q (b_X3_timeCount_4 n Q j4) k0 x2 0 x1 d dl) ∧ (¬ (d (93 + 5 * k0) x2.toNatClampNeg) ≤ 0 → b_X3_timeCount_24 n Q (b_X3_timeCount_4 n Q j4) k0 x2 1 x1 d dl))
    refine ⟨fun h1 => ?_, fun h1 => ?_⟩
    · have h1 : 4 ≤ x2.toInt := (i_le (rfl : (4 : Int32).toInt = 4) rfl).mp h1
      exact hQ _ _ _ ⟨hS, trivial⟩
    · have h1 : ¬ (4 ≤ x2.toInt) := fun q => h1 ((i_le (rfl : (4 : Int32).toInt = 4) rfl).mpr q)
      have ih2 : vp_in x2 4 := vin rfl (by omega) (by omega)
      refine ⟨ih2, ?_⟩
      refine ⟨fun h3 => ?_, fun h3 => ?_⟩
      · have h3 : (d (93 + 5 * k0) x2.toNatClampNeg).toInt ≤ 0 := (i_le rfl (rfl : (0 : Int32).toInt = 0)).mp h3
        exact sb_X3_timeCount_24 hn hQ hK4 _ _ _ _ hk0 _ _ hS (by omega) (show 0 ≤ 0 ∧ 0 ≤ 1 from by omega) (by omega)
      · have h3 : ¬ ((d (93 + 5 * k0) x2.toNatClampNeg).toInt ≤ 0) := fun q => h3 ((i_le rfl (rfl : (0 : Int32).toInt = 0)).mpr q)
        exact sb_X3_timeCount_24 hn hQ hK4 _ _ _ _ hk0 _ _ hS (by omega) (show 0 ≤ 1 ∧ 1 ≤ 1 from by omega) (by omega)
set_option maxHeartbeats 4000000 in
set_option maxRecDepth 100000 in
theorem sp_X3_timeCount {n : Nat} (hn : 1000000000 ≤ n) {k0 : Nat} {d : DD} {dl : LL} (hI : Inv d) (hk0 : k0 < 24) {Q : Int32 → DD → LL → Prop} (hQ : ∀ (r : Int32) (d2 : DD) (l2 : LL), Sq d dl d2 l2 ∧ (True) → Q r d2 l2) : F_X3_timeCount n k0 d dl Q := by
  obtain ⟨e, he⟩ : ∃ e : DD, e = d := ⟨_, rfl⟩
  obtain ⟨el, hel⟩ : ∃ el : LL, el = dl := ⟨_, rfl⟩
  have hS : Sq e el d dl := by rw [he, hel]; exact Sq.rf hI
  rw [← he, ← hel] at hQ
  show b_X3_timeCount_4 n Q n k0 0 0 d dl
  exact sb_X3_timeCount_4 hn hQ n _ _ _ hk0 _ _ hS (show 0 ≤ 0 ∧ 0 ≤ 4 from by omega) (show 5 - 0 < (n : Int) from by omega)
set_option maxHeartbeats 4000000 in
set_option maxRecDepth 100000 in
theorem sb_X9_run_50 {n : Nat} (hn : 1000000000 ≤ n) {e : DD} {el : LL} {Q : Int32 → DD → LL → Prop} (hQ : ∀ (r : Int32) (d2 : DD) (l2 : LL), St e el d2 l2 ∧ (True) → Q r d2 l2) : ∀ (j50 : Nat) (x2 : Int32) (k3 : Nat) (x4 : Int32) (hk3 : k3 < 24) (d : DD) (dl : LL), St e el d dl → (100 ≤ x2.toInt ∧ x2.toInt ≤ 2000) → (0 ≤ x4.toInt ∧ x4.toInt ≤ 4) → 5 - x4.toInt < (j50 : Int) → b_X9_run_50 n Q j50 x2 k3 x4 d dl := by
  intro j50
  induction j50 with
  | zero =>
    intro x2 k3 x4 hk3 d dl hS bx2 bx4 hm50
    exfalso
    omega
  | succ j50 hK50 =>
    intro x2 k3 x4 hk3 d dl hS bx2 bx4 hm50
    show (4 ≤ x4 → F_X3_timeCount n k3 d dl (fun r14 d15 l16 => Q r14 d15 l16)) ∧ (¬ 4 ≤ x4 → vp_in x4 4 ∧ ((d (92 + 5 * k3) x4.toNatClampNeg) = (-1) → (b_X9_run_50 n Q j50) x2 k3 (x4 + 1) d dl) ∧ (¬ (d (92 + 5 * k3) x4.toNatClampNeg) = (-1) → vp_in x4 4 ∧ (¬ (d (95 + 5 * k3) x4.toNatClampNeg) = 0 → (b_X9_run_50 n Q j50) x2 k3 (x4 + 1) d dl) ∧ ((d (95 + 5 * k3) x4.toNatClampNeg) = 0 → F_X9_goDown n k3 x4 x2 d dl (fun d22 l23 => (b_X9_run_50 n Q j50) x2 k3 (x4 + 1) d22 l23))))
    refine ⟨fun h13 => ?_, fun h13 => ?_⟩
    · have h13 : 4 ≤ x4.toInt := (i_le (rfl : (4 : Int32).toInt = 4) rfl).mp h13
      refine sp_X3_timeCount hn hS.1 hk3 (fun r14 d15 l16 ⟨p_1, u_2⟩ => ?_)
      have s_3 : St e el d15 l16 := hS.sq p_1
      have w_4 : d15 = d := p_1.2.1
      exact hQ _ _ _ ⟨s_3, trivial⟩
    · have h13 : ¬ (4 ≤ x4.toInt) := fun q => h13 ((i_le (rfl : (4 : Int32).toInt = 4) rfl).mpr q)
      have ih17 : vp_in x4 4 := vin rfl (by omega) (by omega)
      refine ⟨ih17, ?_⟩
      have m_5 := iv_92 hS.1 hk3 (x4.toNatClampNeg)
      refine ⟨fun h18 => ?_, fun h18 => ?_⟩
      · have h18 : (d (92 + 5 * k3) x4.toNatClampNeg).toInt = (-1) := (i_eq rfl (rfl : ((-1) : Int32).toInt = (-1))).mp h18
        have t_6 : (x4 + 1).toInt = x4.toInt + 1 := ti_add rfl (rfl : (1 : Int32).toInt = 1) (by omega) (by omega)
        exact hK50 _ _ _ hk3 _ _ hS (by omega) (by omega) (by omega)
      · have h18 : ¬ ((d (92 + 5 * k3) x4.toNatClampNeg).toInt = (-1)) := fun q => h18 ((i_eq rfl (rfl : ((-1) : Int32).toInt = (-1))).mpr q)
        have ih19 : vp_in x4 4 := vin rfl (by omega) (by omega)
        refine ⟨ih19, ?_⟩
        have m_7 := iv_95 hS.1 hk3 (x4.toNatClampNeg)
        refine ⟨fun h20 => ?_, fun h20 => ?_⟩
        · have h20 : ¬ ((d (95 + 5 * k3) x4.toNatClampNeg).toInt = 0) := fun q => h20 ((i_eq rfl (rfl : (0 : Int32).toInt = 0)).mpr q)
          have t_8 : (x4 + 1).toInt = x4.toInt + 1 := ti_add rfl (rfl : (1 : Int32).toInt = 1) (by omega) (by omega)
          exact hK50 _ _ _ hk3 _ _ hS (by omega) (by omega) (by omega)
        · have h20 : (d (95 + 5 * k3) x4.toNatClampNeg).toInt = 0 := (i_eq rfl (rfl : (0 : Int32).toInt = 0)).mp h20
          refine sp_X9_goDown hn hS.1 hk3 ⟨by omega, by omega⟩ ⟨by omega, by omega⟩ (by omega) (fun d22 l23 ⟨p_9, u_10⟩ => ?_)
          have s_11 : St e el d22 l23 := hS.tr p_9
          have t_12 : (x4 + 1).toInt = x4.toInt + 1 := ti_add rfl (rfl : (1 : Int32).toInt = 1) (by omega) (by omega)
          exact hK50 _ _ _ hk3 _ _ s_11 (by omega) (by omega) (by omega)
set_option maxHeartbeats 4000000 in
set_option maxRecDepth 100000 in
theorem sp_X9_run {n : Nat} (hn : 1000000000 ≤ n) {x1 : Int32} {x2 : Int32} {d : DD} {dl : LL} (hI : Inv d) {Q : Int32 → DD → LL → Prop} (hQ : ∀ (r : Int32) (d2 : DD) (l2 : LL), St d dl d2 l2 ∧ (True) → Q r d2 l2) : F_X9_run n x1 x2 d dl Q := by
  obtain ⟨e, he⟩ : ∃ e : DD, e = d := ⟨_, rfl⟩
  obtain ⟨el, hel⟩ : ∃ el : LL, el = dl := ⟨_, rfl⟩
  have hS : St e el d dl := by rw [he, hel]; exact St.rf hI
  rw [← he, ← hel] at hQ
  show F_X9_isRace n x1 d dl (fun r1 d2 l3 => (¬ r1 = 0 → F_X9_within n x2 100 2000 d2 l3 (fun r5 d6 l7 => (¬ r5 = 0 → vp_in x1 24 ∧ ∀ k10 : Nat, k10 = x1.toNatClampNeg → ((d6 (91 + 5 * k10) 2) = 0 → ∀ d12 : DD, d12 = u2 d6 (91 + 5 * k10) 2 1 → b_X9_run_50 n Q n x2 k10 0 d12 l7) ∧ (¬ (d6 (91 + 5 * k10) 2) = 0 → Q (-3) d6 l7)) ∧ (r5 = 0 → Q (-2) d6 l7))) ∧ (r1 = 0 → Q (-1) d2 l3))
  refine sp_X9_isRace hn hS.1 (fun r1 d2 l3 ⟨p_13, u_14⟩ => ?_)
  have s_15 : St e el d2 l3 := hS.sq p_13
  have w_16 : d2 = d := p_13.2.1
  replace u_14 : (0 ≤ r1.toInt ∧ r1.toInt ≤ 1 ∧ ((r1.toInt = 1 ∧ 0 ≤ x1.toInt ∧ x1.toInt < (d 0 13).toInt) ∨ (r1.toInt = 0 ∧ ¬ (0 ≤ x1.toInt ∧ x1.toInt < (d 0 13).toInt)))) := u_14
  have m_17 := iv_0_13 hS.1
  refine ⟨fun h4 => ?_, fun h4 => ?_⟩
  · have h4 : ¬ (r1.toInt = 0) := fun q => h4 ((i_eq rfl (rfl : (0 : Int32).toInt = 0)).mpr q)
    refine sp_X9_within hn s_15.1 (fun r5 d6 l7 ⟨p_18, u_19⟩ => ?_)
    have s_20 : St e el d6 l7 := s_15.sq p_18
    have w_21 : d6 = d2 := p_18.2.1
    replace u_19 : (0 ≤ r5.toInt ∧ r5.toInt ≤ 1 ∧ ((r5.toInt = 1 ∧ 100 ≤ x2.toInt ∧ x2.toInt ≤ 2000) ∨ (r5.toInt = 0 ∧ ¬ (100 ≤ x2.toInt ∧ x2.toInt ≤ 2000)))) := u_19
    refine ⟨fun h8 => ?_, fun h8 => ?_⟩
    · have h8 : ¬ (r5.toInt = 0) := fun q => h8 ((i_eq rfl (rfl : (0 : Int32).toInt = 0)).mpr q)
      have ih9 : vp_in x1 24 := vin rfl (by omega) (by omega)
      refine ⟨ih9, ?_⟩
      intro k10 ek10
      have hk10 : k10 < 24 := by rw [ek10]; exact clamp_in ih9
      have q_22 : d6 (91 + 5 * k10) 2 = (d (91 + 5 * k10) 2) := by rw [w_21]; rw [w_16]
      have m_23 := iv_91_2 hS.1 hk10
      have t_24 : (d6 (91 + 5 * k10) 2).toInt = (d (91 + 5 * k10) 2).toInt := (congrArg Int32.toInt q_22).trans rfl
      refine ⟨fun h11 => ?_, fun h11 => ?_⟩
      · have h11 : (d (91 + 5 * k10) 2).toInt = 0 := (i_eq t_24 (rfl : (0 : Int32).toInt = 0)).mp h11
        intro d12 ed12
        have s_25 : St e el d12 l7 := by rw [ed12]; exact pv_91_2 s_20 hk10 (by decide) (by decide)
        exact sb_X9_run_50 hn hQ n _ _ _ hk10 _ _ s_25 (by omega) (show 0 ≤ 0 ∧ 0 ≤ 4 from by omega) (show 5 - 0 < (n : Int) from by omega)
      · have h11 : ¬ ((d (91 + 5 * k10) 2).toInt = 0) := fun q => h11 ((i_eq t_24 (rfl : (0 : Int32).toInt = 0)).mpr q)
        exact hQ _ _ _ ⟨s_20, trivial⟩
    · have h8 : r5.toInt = 0 := (i_eq rfl (rfl : (0 : Int32).toInt = 0)).mp h8
      exact hQ _ _ _ ⟨s_20, trivial⟩
  · have h4 : r1.toInt = 0 := (i_eq rfl (rfl : (0 : Int32).toInt = 0)).mp h4
    exact hQ _ _ _ ⟨s_15, trivial⟩
set_option maxHeartbeats 4000000 in
set_option maxRecDepth 100000 in
theorem sp_X9_time {n : Nat} (hn : 1000000000 ≤ n) {x1 : Int32} {x2 : Int32} {x3 : Int32} {d : DD} {dl : LL} (hI : Inv d) {Q : Int32 → DD → LL → Prop} (hQ : ∀ (r : Int32) (d2 : DD) (l2 : LL), St d dl d2 l2 ∧ (True) → Q r d2 l2) : F_X9_time n x1 x2 x3 d dl Q := by
  obtain ⟨e, he⟩ : ∃ e : DD, e = d := ⟨_, rfl⟩
  obtain ⟨el, hel⟩ : ∃ el : LL, el = dl := ⟨_, rfl⟩
  have hS : St e el d dl := by rw [he, hel]; exact St.rf hI
  rw [← he, ← hel] at hQ
  show F_X9_isRace n x1 d dl (fun r1 d2 l3 => (r1 = 0 → Q (-1) d2 l3) ∧ (¬ r1 = 0 → F_X9_isLane n x2 d2 l3 (fun r5 d6 l7 => (r5 = 0 → Q (-1) d6 l7) ∧ (¬ r5 = 0 → vp_in x1 24 ∧ ∀ k10 : Nat, k10 = x1.toNatClampNeg → vp_in x2 4 ∧ (¬ (d6 (92 + 5 * k10) x2.toNatClampNeg) = (-1) → F_X9_within n x3 0 99999 d6 l7 (fun r13 d14 l15 => (¬ r13 = 0 → vp_in x1 24 ∧ ∀ k18 : Nat, k18 = x1.toNatClampNeg → vp_in x2 4 ∧ ((d14 (95 + 5 * k18) x2.toNatClampNeg) = 0 → vp_in x2 4 ∧ ∀ v22 : Int32, v22 = (d14 (93 + 5 * k18) x2.toNatClampNeg) → vp_in x2 4 ∧ ∀ d24 : DD, d24 = u2 d14 (93 + 5 * k18) x2.toNatClampNeg x3 → (¬ (d24 (91 + 5 * k18) 2) = 0 → ∀ d26 : DD, d26 = u2 d24 (91 + 5 * k18) 2 1 → Q v22 d26 l15) ∧ ((d24 (91 + 5 * k18) 2) = 0 → (x3 ≤ 0 → ∀ d28 : DD, d28 = u2 d24 (91 + 5 * k18) 2 0 → Q v22 d28 l15) ∧ (¬ x3 ≤ 0 → ∀ d29 : DD, d29 = u2 d24 (91 + 5 * k18) 2 1 → Q v22 d29 l15))) ∧ (¬ (d14 (95 + 5 * k18) x2.toNatClampNeg) = 0 → Q (-3) d14 l15)) ∧ (r13 = 0 → Q (-2) d14 l15))) ∧ ((d6 (92 + 5 * k10) x2.toNatClampNeg) = (-1) → Q (-1) d6 l7)))))
  refine sp_X9_isRace hn hS.1 (fun r1 d2 l3 ⟨p_1, u_2⟩ => ?_)
  have s_3 : St e el d2 l3 := hS.sq p_1
  have w_4 : d2 = d := p_1.2.1
  replace u_2 : (0 ≤ r1.toInt ∧ r1.toInt ≤ 1 ∧ ((r1.toInt = 1 ∧ 0 ≤ x1.toInt ∧ x1.toInt < (d 0 13).toInt) ∨ (r1.toInt = 0 ∧ ¬ (0 ≤ x1.toInt ∧ x1.toInt < (d 0 13).toInt)))) := u_2
  have m_5 := iv_0_13 hS.1
  refine ⟨fun h4 => ?_, fun h4 => ?_⟩
  · have h4 : r1.toInt = 0 := (i_eq rfl (rfl : (0 : Int32).toInt = 0)).mp h4
    exact hQ _ _ _ ⟨s_3, trivial⟩
  · have h4 : ¬ (r1.toInt = 0) := fun q => h4 ((i_eq rfl (rfl : (0 : Int32).toInt = 0)).mpr q)
    refine sp_X9_isLane hn s_3.1 (fun r5 d6 l7 ⟨p_6, u_7⟩ => ?_)
    have s_8 : St e el d6 l7 := s_3.sq p_6
    have w_9 : d6 = d2 := p_6.2.1
    replace u_7 : (0 ≤ r5.toInt ∧ r5.toInt ≤ 1 ∧ ((r5.toInt = 1 ∧ 0 ≤ x2.toInt ∧ x2.toInt ≤ 3) ∨ (r5.toInt = 0 ∧ ¬ (0 ≤ x2.toInt ∧ x2.toInt ≤ 3)))) := u_7
    refine ⟨fun h8 => ?_, fun h8 => ?_⟩
    · have h8 : r5.toInt = 0 := (i_eq rfl (rfl : (0 : Int32).toInt = 0)).mp h8
      exact hQ _ _ _ ⟨s_8, trivial⟩
    · have h8 : ¬ (r5.toInt = 0) := fun q => h8 ((i_eq rfl (rfl : (0 : Int32).toInt = 0)).mpr q)
      have ih9 : vp_in x1 24 := vin rfl (by omega) (by omega)
      refine ⟨ih9, ?_⟩
      intro k10 ek10
      have hk10 : k10 < 24 := by rw [ek10]; exact clamp_in ih9
      have ih11 : vp_in x2 4 := vin rfl (by omega) (by omega)
      refine ⟨ih11, ?_⟩
      have q_10 : d6 (92 + 5 * k10) x2.toNatClampNeg = (d (92 + 5 * k10) x2.toNatClampNeg) := by rw [w_9]; rw [w_4]
      have m_11 := iv_92 hS.1 hk10 (x2.toNatClampNeg)
      have t_12 : (d6 (92 + 5 * k10) x2.toNatClampNeg).toInt = (d (92 + 5 * k10) x2.toNatClampNeg).toInt := (congrArg Int32.toInt q_10).trans rfl
      refine ⟨fun h12 => ?_, fun h12 => ?_⟩
      · have h12 : ¬ ((d (92 + 5 * k10) x2.toNatClampNeg).toInt = (-1)) := fun q => h12 ((i_eq t_12 (rfl : ((-1) : Int32).toInt = (-1))).mpr q)
        refine sp_X9_within hn s_8.1 (fun r13 d14 l15 ⟨p_13, u_14⟩ => ?_)
        have s_15 : St e el d14 l15 := s_8.sq p_13
        have w_16 : d14 = d6 := p_13.2.1
        replace u_14 : (0 ≤ r13.toInt ∧ r13.toInt ≤ 1 ∧ ((r13.toInt = 1 ∧ 0 ≤ x3.toInt ∧ x3.toInt ≤ 99999) ∨ (r13.toInt = 0 ∧ ¬ (0 ≤ x3.toInt ∧ x3.toInt ≤ 99999)))) := u_14
        refine ⟨fun h16 => ?_, fun h16 => ?_⟩
        · have h16 : ¬ (r13.toInt = 0) := fun q => h16 ((i_eq rfl (rfl : (0 : Int32).toInt = 0)).mpr q)
          have ih17 : vp_in x1 24 := vin rfl (by omega) (by omega)
          refine ⟨ih17, ?_⟩
          intro k18 ek18
          have hk18 : k18 < 24 := by rw [ek18]; exact clamp_in ih17
          have ih19 : vp_in x2 4 := vin rfl (by omega) (by omega)
          refine ⟨ih19, ?_⟩
          have q_17 : d14 (95 + 5 * k18) x2.toNatClampNeg = (d (95 + 5 * k18) x2.toNatClampNeg) := by rw [w_16]; rw [w_9]; rw [w_4]
          have m_18 := iv_95 hS.1 hk18 (x2.toNatClampNeg)
          have t_19 : (d14 (95 + 5 * k18) x2.toNatClampNeg).toInt = (d (95 + 5 * k18) x2.toNatClampNeg).toInt := (congrArg Int32.toInt q_17).trans rfl
          refine ⟨fun h20 => ?_, fun h20 => ?_⟩
          · have h20 : (d (95 + 5 * k18) x2.toNatClampNeg).toInt = 0 := (i_eq t_19 (rfl : (0 : Int32).toInt = 0)).mp h20
            have ih21 : vp_in x2 4 := vin rfl (by omega) (by omega)
            refine ⟨ih21, ?_⟩
            have q_20 : d14 (93 + 5 * k18) x2.toNatClampNeg = (d (93 + 5 * k18) x2.toNatClampNeg) := by rw [w_16]; rw [w_9]; rw [w_4]
            have t_21 : (d14 (93 + 5 * k18) x2.toNatClampNeg).toInt = (d (93 + 5 * k18) x2.toNatClampNeg).toInt := (congrArg Int32.toInt q_20).trans rfl
            intro v22 e22
            have t_22 : v22.toInt = (d (93 + 5 * k18) x2.toNatClampNeg).toInt := (congrArg Int32.toInt e22).trans t_21
            have ih23 : vp_in x2 4 := vin rfl (by omega) (by omega)
            refine ⟨ih23, ?_⟩
            intro d24 ed24
            have s_23 : St e el d24 l15 := by rw [ed24]; exact pv_93 s_15 hk18
            have q_24 : d24 (91 + 5 * k18) 2 = (d (91 + 5 * k18) 2) := by rw [ed24, u2_row (by omega)]; rw [w_16]; rw [w_9]; rw [w_4]
            have m_25 := iv_91_2 hS.1 hk18
            have t_26 : (d24 (91 + 5 * k18) 2).toInt = (d (91 + 5 * k18) 2).toInt := (congrArg Int32.toInt q_24).trans rfl
            refine ⟨fun h25 => ?_, fun h25 => ?_⟩
            · have h25 : ¬ ((d (91 + 5 * k18) 2).toInt = 0) := fun q => h25 ((i_eq t_26 (rfl : (0 : Int32).toInt = 0)).mpr q)
              intro d26 ed26
              have s_27 : St e el d26 l15 := by rw [ed26]; exact pv_91_2 s_23 hk18 (by decide) (by decide)
              exact hQ _ _ _ ⟨s_27, trivial⟩
            · have h25 : (d (91 + 5 * k18) 2).toInt = 0 := (i_eq t_26 (rfl : (0 : Int32).toInt = 0)).mp h25
              refine ⟨fun h27 => ?_, fun h27 => ?_⟩
              · have h27 : x3.toInt ≤ 0 := (i_le rfl (rfl : (0 : Int32).toInt = 0)).mp h27
                intro d28 ed28
                have s_28 : St e el d28 l15 := by rw [ed28]; exact pv_91_2 s_23 hk18 (by decide) (by decide)
                exact hQ _ _ _ ⟨s_28, trivial⟩
              · have h27 : ¬ (x3.toInt ≤ 0) := fun q => h27 ((i_le rfl (rfl : (0 : Int32).toInt = 0)).mpr q)
                intro d29 ed29
                have s_29 : St e el d29 l15 := by rw [ed29]; exact pv_91_2 s_23 hk18 (by decide) (by decide)
                exact hQ _ _ _ ⟨s_29, trivial⟩
          · have h20 : ¬ ((d (95 + 5 * k18) x2.toNatClampNeg).toInt = 0) := fun q => h20 ((i_eq t_19 (rfl : (0 : Int32).toInt = 0)).mpr q)
            exact hQ _ _ _ ⟨s_15, trivial⟩
        · have h16 : r13.toInt = 0 := (i_eq rfl (rfl : (0 : Int32).toInt = 0)).mp h16
          exact hQ _ _ _ ⟨s_15, trivial⟩
      · have h12 : (d (92 + 5 * k10) x2.toNatClampNeg).toInt = (-1) := (i_eq t_12 (rfl : ((-1) : Int32).toInt = (-1))).mp h12
        exact hQ _ _ _ ⟨s_8, trivial⟩
set_option maxHeartbeats 4000000 in
set_option maxRecDepth 100000 in
theorem sb_X3_placeOf_50 {n : Nat} (hn : 1000000000 ≤ n) {e : DD} {el : LL} {Q : Int32 → DD → LL → Prop} (hQ : ∀ (r : Int32) (d2 : DD) (l2 : LL), Sq e el d2 l2 ∧ (0 ≤ r.toInt ∧ r.toInt ≤ 5) → Q r d2 l2) {K15 : Nat → Int32 → Int32 → Int32 → DD → LL → Prop} {j15 : Nat} (hK15 : ∀ (k0 : Nat) (x1 : Int32) (x2 : Int32) (x3 : Int32) (hk0 : k0 < 24) (d : DD) (dl : LL), Sq e el d dl → (0 ≤ x1.toInt ∧ x1.toInt ≤ 3) → (1 ≤ x2.toInt ∧ x2.toInt ≤ 5) → (0 ≤ x3.toInt ∧ x3.toInt ≤ 4) → (x2.toInt ≤ 1 + x3.toInt) → 5 - x3.toInt < (j15 : Int) → K15 k0 x1 x2 x3 d dl) : ∀ (k0 : Nat) (x1 : Int32) (x3 : Int32) (xs0 : Int32) (xs1 : Int32) (hk0 : k0 < 24) (d : DD) (dl : LL), Sq e el d dl → (0 ≤ x1.toInt ∧ x1.toInt ≤ 3) → (0 ≤ x3.toInt ∧ x3.toInt ≤ 3) → (0 ≤ xs0.toInt ∧ xs0.toInt ≤ 1) → (1 ≤ xs1.toInt ∧ xs1.toInt ≤ 5) → (xs1.toInt ≤ 1 + x3.toInt) → 5 - x3.toInt ≤ (j15 : Int) → b_X3_placeOf_50 n Q K15 k0 x1 x3 xs0 xs1 d dl := by
  intro k0 x1 x3 xs0 xs1 hk0 d dl hS bx1 bx3 bxs0 bxs1 bi0 hm15
  show ∀ v6 : Int32, v6 = (xs1 + xs0) → K15 k0 x1 v6 (x3 + 1) d dl
  have t_1 : (xs1 + xs0).toInt = xs1.toInt + xs0.toInt := ti_add rfl rfl (by omega) (by omega)
  intro v6 e6
  have t_2 : v6.toInt = (xs1.toInt + xs0.toInt) := (congrArg Int32.toInt e6).trans t_1
  have t_3 : (x3 + 1).toInt = x3.toInt + 1 := ti_add rfl (rfl : (1 : Int32).toInt = 1) (by omega) (by omega)
  exact hK15 _ _ _ _ hk0 _ _ hS (by omega) (by omega) (by omega) (by omega) (by omega)
set_option maxHeartbeats 4000000 in
set_option maxRecDepth 100000 in
theorem sb_X3_placeOf_49 {n : Nat} (hn : 1000000000 ≤ n) {e : DD} {el : LL} {Q : Int32 → DD → LL → Prop} (hQ : ∀ (r : Int32) (d2 : DD) (l2 : LL), Sq e el d2 l2 ∧ (0 ≤ r.toInt ∧ r.toInt ≤ 5) → Q r d2 l2) {K15 : Nat → Int32 → Int32 → Int32 → DD → LL → Prop} {j15 : Nat} (hK15 : ∀ (k0 : Nat) (x1 : Int32) (x2 : Int32) (x3 : Int32) (hk0 : k0 < 24) (d : DD) (dl : LL), Sq e el d dl → (0 ≤ x1.toInt ∧ x1.toInt ≤ 3) → (1 ≤ x2.toInt ∧ x2.toInt ≤ 5) → (0 ≤ x3.toInt ∧ x3.toInt ≤ 4) → (x2.toInt ≤ 1 + x3.toInt) → 5 - x3.toInt < (j15 : Int) → K15 k0 x1 x2 x3 d dl) : ∀ (k0 : Nat) (x1 : Int32) (x3 : Int32) (xs0 : Int32) (hk0 : k0 < 24) (d : DD) (dl : LL), Sq e el d dl → (0 ≤ x1.toInt ∧ x1.toInt ≤ 3) → (0 ≤ x3.toInt ∧ x3.toInt ≤ 3) → (1 ≤ xs0.toInt ∧ xs0.toInt ≤ 5) → (xs0.toInt ≤ 1 + x3.toInt) → 5 - x3.toInt ≤ (j15 : Int) → b_X3_placeOf_49 n Q K15 k0 x1 x3 xs0 d dl := by
  intro k0 x1 x3 xs0 hk0 d dl hS bx1 bx3 bxs0 bi0 hm15
  show b_X3_placeOf_50 n Q K15 k0 x1 x3 0 xs0 d dl
  exact sb_X3_placeOf_50 hn hQ hK15 _ _ _ _ _ hk0 _ _ hS (by omega) (by omega) (show 0 ≤ 0 ∧ 0 ≤ 1 from by omega) (by omega) (by omega) (by omega)
