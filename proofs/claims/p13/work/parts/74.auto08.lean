set_option maxHeartbeats 4000000 in
set_option maxRecDepth 100000 in
theorem sb_X10_trims_163 {n : Nat} (hn : 1000000000 ≤ n) {e : DD} {el : LL} {Q : Int32 → DD → LL → Prop} (hQ : ∀ (r : Int32) (d2 : DD) (l2 : LL), Sq e el d2 l2 ∧ (True) → Q r d2 l2) {K33 : Nat → Int32 → Int32 → Int32 → Int32 → Int32 → DD → LL → Prop} {j33 : Nat} (hK33 : ∀ (c2 : Nat) (x3 : Int32) (x4 : Int32) (x5 : Int32) (x6 : Int32) (x7 : Int32) (hc2 : KL c2 11 (ln c2)) (d : DD) (dl : LL), Sq e el d dl → (0 ≤ x3.toInt ∧ x3.toInt ≤ 40) → (0 ≤ x5.toInt ∧ x5.toInt ≤ 4) → (0 ≤ x7.toInt ∧ x7.toInt ≤ 8) → (RowT c2) → (x3.toInt + 8 ≤ ((ln c2 : Nat) : Int)) → 9 - x7.toInt < (j33 : Int) → K33 c2 x3 x4 x5 x6 x7 d dl) : ∀ (c2 : Nat) (x3 : Int32) (x4 : Int32) (x5 : Int32) (x7 : Int32) (xs0 : Int32) (xs1 : Int32) (xs2 : Int32) (hc2 : KL c2 11 (ln c2)) (d : DD) (dl : LL), Sq e el d dl → (0 ≤ x3.toInt ∧ x3.toInt ≤ 40) → (2 ≤ x4.toInt ∧ x4.toInt ≤ 2) → (0 ≤ x5.toInt ∧ x5.toInt ≤ 4) → (0 ≤ x7.toInt ∧ x7.toInt ≤ 7) → ((-4) ≤ xs0.toInt ∧ xs0.toInt ≤ 3) → (0 ≤ xs1.toInt ∧ xs1.toInt ≤ 99) → (RowT c2) → (x3.toInt + 8 ≤ ((ln c2 : Nat) : Int)) → 9 - x7.toInt ≤ (j33 : Int) → b_X10_trims_163 n Q K33 c2 x3 x4 x5 x7 xs0 xs1 xs2 d dl := by
  intro c2 x3 x4 x5 x7 xs0 xs1 xs2 hc2 d dl hS bx3 bx4 bx5 bx7 bxs0 bxs1 hrow hlen hm33
  show ∀ v22 : Int32, v22 = (xs2 + (xs1 * xs0)) → K33 c2 x3 x4 x5 v22 (x7 + 1) d dl
  intro v22 e22
  have t_1 : v22.toInt = (xs2 + (xs1 * xs0)).toInt := (congrArg Int32.toInt e22).trans rfl
  have t_2 : (x7 + 1).toInt = x7.toInt + 1 := ti_add rfl (rfl : (1 : Int32).toInt = 1) (by omega) (by omega)
  exact hK33 _ _ _ _ _ _ hc2 _ _ hS (by omega) (by omega) (by omega) hrow hlen (by omega)
set_option maxHeartbeats 4000000 in
set_option maxRecDepth 100000 in
theorem sb_X10_trims_97 {n : Nat} (hn : 1000000000 ≤ n) {e : DD} {el : LL} {Q : Int32 → DD → LL → Prop} (hQ : ∀ (r : Int32) (d2 : DD) (l2 : LL), Sq e el d2 l2 ∧ (True) → Q r d2 l2) {K33 : Nat → Int32 → Int32 → Int32 → Int32 → Int32 → DD → LL → Prop} {j33 : Nat} (hK33 : ∀ (c2 : Nat) (x3 : Int32) (x4 : Int32) (x5 : Int32) (x6 : Int32) (x7 : Int32) (hc2 : KL c2 11 (ln c2)) (d : DD) (dl : LL), Sq e el d dl → (0 ≤ x3.toInt ∧ x3.toInt ≤ 40) → (0 ≤ x5.toInt ∧ x5.toInt ≤ 4) → (0 ≤ x7.toInt ∧ x7.toInt ≤ 8) → (RowT c2) → (x3.toInt + 8 ≤ ((ln c2 : Nat) : Int)) → 9 - x7.toInt < (j33 : Int) → K33 c2 x3 x4 x5 x6 x7 d dl) : ∀ (c2 : Nat) (x3 : Int32) (x4 : Int32) (x5 : Int32) (x7 : Int32) (xs0 : Int32) (xs1 : Int32) (hc2 : KL c2 11 (ln c2)) (d : DD) (dl : LL), Sq e el d dl → (0 ≤ x3.toInt ∧ x3.toInt ≤ 40) → (0 ≤ x4.toInt ∧ x4.toInt ≤ 0) → (0 ≤ x5.toInt ∧ x5.toInt ≤ 4) → (0 ≤ x7.toInt ∧ x7.toInt ≤ 7) → ((-150) ≤ xs0.toInt ∧ xs0.toInt ≤ 150) → (RowT c2) → (x3.toInt + 8 ≤ ((ln c2 : Nat) : Int)) → 9 - x7.toInt ≤ (j33 : Int) → b_X10_trims_97 n Q K33 c2 x3 x4 x5 x7 xs0 xs1 d dl := by
  intro c2 x3 x4 x5 x7 xs0 xs1 hc2 d dl hS bx3 bx4 bx5 bx7 bxs0 hrow hlen hm33
  show ∀ v27 : Int32, v27 = (xs1 + xs0) → K33 c2 x3 x4 x5 v27 (x7 + 1) d dl
  intro v27 e27
  have t_3 : v27.toInt = (xs1 + xs0).toInt := (congrArg Int32.toInt e27).trans rfl
  have t_4 : (x7 + 1).toInt = x7.toInt + 1 := ti_add rfl (rfl : (1 : Int32).toInt = 1) (by omega) (by omega)
  exact hK33 _ _ _ _ _ _ hc2 _ _ hS (by omega) (by omega) (by omega) hrow hlen (by omega)
set_option maxHeartbeats 4000000 in
set_option maxRecDepth 100000 in
theorem sb_X10_trims_33 {n : Nat} (hn : 1000000000 ≤ n) {e : DD} {el : LL} {Q : Int32 → DD → LL → Prop} (hQ : ∀ (r : Int32) (d2 : DD) (l2 : LL), Sq e el d2 l2 ∧ (True) → Q r d2 l2) : ∀ (j33 : Nat) (c2 : Nat) (x3 : Int32) (x4 : Int32) (x5 : Int32) (x6 : Int32) (x7 : Int32) (hc2 : KL c2 11 (ln c2)) (d : DD) (dl : LL), Sq e el d dl → (0 ≤ x3.toInt ∧ x3.toInt ≤ 40) → (0 ≤ x5.toInt ∧ x5.toInt ≤ 4) → (0 ≤ x7.toInt ∧ x7.toInt ≤ 8) → (RowT c2) → (x3.toInt + 8 ≤ ((ln c2 : Nat) : Int)) → 9 - x7.toInt < (j33 : Int) → b_X10_trims_33 n Q j33 c2 x3 x4 x5 x6 x7 d dl := by
  intro j33
  induction j33 with
  | zero =>
    intro c2 x3 x4 x5 x6 x7 hc2 d dl hS bx3 bx5 bx7 hrow hlen hm33
    exfalso
    omega
  | succ j33 hK33 =>
    intro c2 x3 x4 x5 x6 x7 hc2 d dl hS bx3 bx5 bx7 hrow hlen hm33
    show (((2 : Int32) * x5) ≤ x7 → (2 ≤ x4 → Q x6 d dl) ∧ (¬ 2 ≤ x4 → F_X10_size n x6 d dl (fun r6 d7 l8 => Q r6 d7 l8))) ∧ (¬ ((2 : Int32) * x5) ≤ x7 → vp_in (x3 + x7) (ln c2) ∧ ∀ v10 : Int32, v10 = (d c2 (x3 + x7).toNatClampNeg) → ∀ v11 : Int32, v11 = (x7 / 2) → ∀ v12 : Int32, v12 = ((x5 - 1) - v11) → (¬ x4 = 0 → (¬ x4 = 1 → (¬ x4 = 2 → (¬ (irem x7 2) = 0 → (b_X10_trims_33 n Q j33) c2 x3 x4 x5 x6 (x7 + 1) d dl) ∧ ((irem x7 2) = 0 → vp_in ((x3 + x7) + 1) (ln c2) ∧ vp_in (((40 : Int32) * v10) + (d c2 ((x3 + x7) + 1).toNatClampNeg)) 1600 ∧ ((d 217 (((40 : Int32) * v10) + (d c2 ((x3 + x7) + 1).toNatClampNeg)).toNatClampNeg) = 0 → (b_X10_trims_33 n Q j33) c2 x3 x4 x5 x6 (x7 + 1) d dl) ∧ (¬ (d 217 (((40 : Int32) * v10) + (d c2 ((x3 + x7) + 1).toNatClampNeg)).toNatClampNeg) = 0 → (b_X10_trims_33 n Q j33) c2 x3 x4 x5 (x6 + 1) (x7 + 1) d dl))) ∧ (x4 = 2 → vp_in v10 40 ∧ (v12 ≤ v11 → b_X10_trims_163 n Q (b_X10_trims_33 n Q j33) c2 x3 x4 x5 x7 v12 (d 213 v10.toNatClampNeg) x6 d dl) ∧ (¬ v12 ≤ v11 → b_X10_trims_163 n Q (b_X10_trims_33 n Q j33) c2 x3 x4 x5 x7 v11 (d 213 v10.toNatClampNeg) x6 d dl))) ∧ (x4 = 1 → vp_in v10 40 ∧ ∀ v24 : Int32, v24 = (x6 + ((d 212 v10.toNatClampNeg) * (((2 : Int32) * v11) - (x5 - 1)))) → (b_X10_trims_33 n Q j33) c2 x3 x4 x5 v24 (x7 + 1) d dl)) ∧ (x4 = 0 → (¬ (irem x7 2) = 0 → vp_in v10 40 ∧ b_X10_trims_97 n Q (b_X10_trims_33 n Q j33) c2 x3 x4 x5 x7 (-(d 212 v10.toNatClampNeg)) x6 d dl) ∧ ((irem x7 2) = 0 → vp_in v10 40 ∧ b_X10_trims_97 n Q (b_X10_trims_33 n Q j33) c2 x3 x4 x5 x7 (d 212 v10.toNatClampNeg) x6 d dl)))
    have t_5 : ((2 : Int32) * x5).toInt = 2 * x5.toInt := ti_mul (rfl : (2 : Int32).toInt = 2) rfl (by omega) (by omega)
    refine ⟨fun h4 => ?_, fun h4 => ?_⟩
    · have h4 : (2 * x5.toInt) ≤ x7.toInt := (i_le t_5 rfl).mp h4
      refine ⟨fun h5 => ?_, fun h5 => ?_⟩
      · have h5 : 2 ≤ x4.toInt := (i_le (rfl : (2 : Int32).toInt = 2) rfl).mp h5
        exact hQ _ _ _ ⟨hS, trivial⟩
      · have h5 : ¬ (2 ≤ x4.toInt) := fun q => h5 ((i_le (rfl : (2 : Int32).toInt = 2) rfl).mpr q)
        refine sp_X10_size hn hS.1 (fun r6 d7 l8 ⟨p_6, u_7⟩ => ?_)
        have s_8 : Sq e el d7 l8 := hS.tr p_6
        have w_9 : d7 = d := p_6.2.1
        exact hQ _ _ _ ⟨s_8, trivial⟩
    · have h4 : ¬ ((2 * x5.toInt) ≤ x7.toInt) := fun q => h4 ((i_le t_5 rfl).mpr q)
      have t_10 : (x3 + x7).toInt = x3.toInt + x7.toInt := ti_add rfl rfl (by omega) (by omega)
      have ih9 : vp_in (x3 + x7) (ln c2) := vin t_10 (by omega) (by omega)
      refine ⟨ih9, ?_⟩
      have m_11 := rowt_iv hS.1 hrow ((x3 + x7).toNatClampNeg)
      intro v10 e10
      have t_12 : v10.toInt = (d c2 (x3 + x7).toNatClampNeg).toInt := (congrArg Int32.toInt e10).trans rfl
      have t_13 : (x7 / 2).toInt = x7.toInt / 2 := ti_div rfl (rfl : (2 : Int32).toInt = 2) (by omega) (by omega)
      intro v11 e11
      have t_14 : v11.toInt = (x7.toInt / 2) := (congrArg Int32.toInt e11).trans t_13
      have t_15 : (x5 - 1).toInt = x5.toInt - 1 := ti_sub rfl (rfl : (1 : Int32).toInt = 1) (by omega) (by omega)
      have t_16 : ((x5 - 1) - v11).toInt = (x5.toInt - 1) - (x7.toInt / 2) := ti_sub t_15 t_14 (by omega) (by omega)
      intro v12 e12
      have t_17 : v12.toInt = ((x5.toInt - 1) - (x7.toInt / 2)) := (congrArg Int32.toInt e12).trans t_16
      refine ⟨fun h13 => ?_, fun h13 => ?_⟩
      · have h13 : ¬ (x4.toInt = 0) := fun q => h13 ((i_eq rfl (rfl : (0 : Int32).toInt = 0)).mpr q)
        refine ⟨fun h14 => ?_, fun h14 => ?_⟩
        · have h14 : ¬ (x4.toInt = 1) := fun q => h14 ((i_eq rfl (rfl : (1 : Int32).toInt = 1)).mpr q)
          refine ⟨fun h15 => ?_, fun h15 => ?_⟩
          · have h15 : ¬ (x4.toInt = 2) := fun q => h15 ((i_eq rfl (rfl : (2 : Int32).toInt = 2)).mpr q)
            have t_18 : (irem x7 2).toInt = x7.toInt % 2 := ti_rem rfl (rfl : (2 : Int32).toInt = 2) (by omega) (by omega)
            refine ⟨fun h16 => ?_, fun h16 => ?_⟩
            · have h16 : ¬ ((x7.toInt % 2) = 0) := fun q => h16 ((i_eq t_18 (rfl : (0 : Int32).toInt = 0)).mpr q)
              have t_19 : (x7 + 1).toInt = x7.toInt + 1 := ti_add rfl (rfl : (1 : Int32).toInt = 1) (by omega) (by omega)
              exact hK33 _ _ _ _ _ _ hc2 _ _ hS (by omega) (by omega) (by omega) hrow hlen (by omega)
            · have h16 : (x7.toInt % 2) = 0 := (i_eq t_18 (rfl : (0 : Int32).toInt = 0)).mp h16
              have t_20 : ((x3 + x7) + 1).toInt = (x3.toInt + x7.toInt) + 1 := ti_add t_10 (rfl : (1 : Int32).toInt = 1) (by omega) (by omega)
              have ih17 : vp_in ((x3 + x7) + 1) (ln c2) := vin t_20 (by omega) (by omega)
              refine ⟨ih17, ?_⟩
              have t_21 : ((40 : Int32) * v10).toInt = 40 * (d c2 (x3 + x7).toNatClampNeg).toInt := ti_mul (rfl : (40 : Int32).toInt = 40) t_12 (by omega) (by omega)
              have m_22 := rowt_iv hS.1 hrow (((x3 + x7) + 1).toNatClampNeg)
              have t_23 : (((40 : Int32) * v10) + (d c2 ((x3 + x7) + 1).toNatClampNeg)).toInt = (40 * (d c2 (x3 + x7).toNatClampNeg).toInt) + (d c2 ((x3 + x7) + 1).toNatClampNeg).toInt := ti_add t_21 rfl (by omega) (by omega)
              have ih18 : vp_in (((40 : Int32) * v10) + (d c2 ((x3 + x7) + 1).toNatClampNeg)) 1600 := vin t_23 (by omega) (by omega)
              refine ⟨ih18, ?_⟩
              have m_24 := iv_217 hS.1 ((((40 : Int32) * v10) + (d c2 ((x3 + x7) + 1).toNatClampNeg)).toNatClampNeg)
              refine ⟨fun h19 => ?_, fun h19 => ?_⟩
              · have h19 : (d 217 (((40 : Int32) * v10) + (d c2 ((x3 + x7) + 1).toNatClampNeg)).toNatClampNeg).toInt = 0 := (i_eq rfl (rfl : (0 : Int32).toInt = 0)).mp h19
                have t_25 : (x7 + 1).toInt = x7.toInt + 1 := ti_add rfl (rfl : (1 : Int32).toInt = 1) (by omega) (by omega)
                exact hK33 _ _ _ _ _ _ hc2 _ _ hS (by omega) (by omega) (by omega) hrow hlen (by omega)
              · have h19 : ¬ ((d 217 (((40 : Int32) * v10) + (d c2 ((x3 + x7) + 1).toNatClampNeg)).toNatClampNeg).toInt = 0) := fun q => h19 ((i_eq rfl (rfl : (0 : Int32).toInt = 0)).mpr q)
                have t_26 : (x7 + 1).toInt = x7.toInt + 1 := ti_add rfl (rfl : (1 : Int32).toInt = 1) (by omega) (by omega)
                exact hK33 _ _ _ _ _ _ hc2 _ _ hS (by omega) (by omega) (by omega) hrow hlen (by omega)
          · have h15 : x4.toInt = 2 := (i_eq rfl (rfl : (2 : Int32).toInt = 2)).mp h15
            have ih20 : vp_in v10 40 := vin t_12 (by omega) (by omega)
            refine ⟨ih20, ?_⟩
            refine ⟨fun h21 => ?_, fun h21 => ?_⟩
            · have h21 : ((x5.toInt - 1) - (x7.toInt / 2)) ≤ (x7.toInt / 2) := (i_le t_17 t_14).mp h21
              have m_27 := iv_213 hS.1 (v10.toNatClampNeg)
              exact sb_X10_trims_163 hn hQ hK33 _ _ _ _ _ _ _ _ hc2 _ _ hS (by omega) (by omega) (by omega) (by omega) (by omega) (by omega) hrow hlen (by omega)
            · have h21 : ¬ (((x5.toInt - 1) - (x7.toInt / 2)) ≤ (x7.toInt / 2)) := fun q => h21 ((i_le t_17 t_14).mpr q)
              have m_28 := iv_213 hS.1 (v10.toNatClampNeg)
              exact sb_X10_trims_163 hn hQ hK33 _ _ _ _ _ _ _ _ hc2 _ _ hS (by omega) (by omega) (by omega) (by omega) (by omega) (by omega) hrow hlen (by omega)
        · have h14 : x4.toInt = 1 := (i_eq rfl (rfl : (1 : Int32).toInt = 1)).mp h14
          have ih23 : vp_in v10 40 := vin t_12 (by omega) (by omega)
          refine ⟨ih23, ?_⟩
          intro v24 e24
          have t_29 : v24.toInt = (x6 + ((d 212 v10.toNatClampNeg) * (((2 : Int32) * v11) - (x5 - 1)))).toInt := (congrArg Int32.toInt e24).trans rfl
          have t_30 : (x7 + 1).toInt = x7.toInt + 1 := ti_add rfl (rfl : (1 : Int32).toInt = 1) (by omega) (by omega)
          exact hK33 _ _ _ _ _ _ hc2 _ _ hS (by omega) (by omega) (by omega) hrow hlen (by omega)
      · have h13 : x4.toInt = 0 := (i_eq rfl (rfl : (0 : Int32).toInt = 0)).mp h13
        have t_31 : (irem x7 2).toInt = x7.toInt % 2 := ti_rem rfl (rfl : (2 : Int32).toInt = 2) (by omega) (by omega)
        refine ⟨fun h25 => ?_, fun h25 => ?_⟩
        · have h25 : ¬ ((x7.toInt % 2) = 0) := fun q => h25 ((i_eq t_31 (rfl : (0 : Int32).toInt = 0)).mpr q)
          have ih26 : vp_in v10 40 := vin t_12 (by omega) (by omega)
          refine ⟨ih26, ?_⟩
          have m_32 := iv_212 hS.1 (v10.toNatClampNeg)
          have t_33 : (-(d 212 v10.toNatClampNeg)).toInt = -(d 212 v10.toNatClampNeg).toInt := ti_neg rfl (by omega) (by omega)
          exact sb_X10_trims_97 hn hQ hK33 _ _ _ _ _ _ _ hc2 _ _ hS (by omega) (by omega) (by omega) (by omega) (by omega) hrow hlen (by omega)
        · have h25 : (x7.toInt % 2) = 0 := (i_eq t_31 (rfl : (0 : Int32).toInt = 0)).mp h25
          have ih28 : vp_in v10 40 := vin t_12 (by omega) (by omega)
          refine ⟨ih28, ?_⟩
          have m_34 := iv_212 hS.1 (v10.toNatClampNeg)
          exact sb_X10_trims_97 hn hQ hK33 _ _ _ _ _ _ _ hc2 _ _ hS (by omega) (by omega) (by omega) (by omega) (by omega) hrow hlen (by omega)
set_option maxHeartbeats 4000000 in
set_option maxRecDepth 100000 in
theorem sb_X10_trims_28 {n : Nat} (hn : 1000000000 ≤ n) {e : DD} {el : LL} {Q : Int32 → DD → LL → Prop} (hQ : ∀ (r : Int32) (d2 : DD) (l2 : LL), Sq e el d2 l2 ∧ (True) → Q r d2 l2) : ∀ (c2 : Nat) (x3 : Int32) (x4 : Int32) (x5 : Int32) (xs0 : Int32) (hc2 : KL c2 11 (ln c2)) (d : DD) (dl : LL), Sq e el d dl → (0 ≤ x3.toInt ∧ x3.toInt ≤ 40) → (0 ≤ x5.toInt ∧ x5.toInt ≤ 4) → (RowT c2) → (x3.toInt + 8 ≤ ((ln c2 : Nat) : Int)) → b_X10_trims_28 n Q c2 x3 x4 x5 xs0 d dl := by
  intro c2 x3 x4 x5 xs0 hc2 d dl hS bx3 bx5 hrow hlen
  show b_X10_trims_33 n Q n c2 x3 x4 x5 xs0 0 d dl
  exact sb_X10_trims_33 hn hQ n _ _ _ _ _ _ hc2 _ _ hS (by omega) (by omega) (show 0 ≤ 0 ∧ 0 ≤ 8 from by omega) hrow hlen (show 9 - 0 < (n : Int) from by omega)
set_option maxHeartbeats 4000000 in
set_option maxRecDepth 100000 in
theorem sp_X10_trims {n : Nat} (hn : 1000000000 ≤ n) {x1 : Int32} {c2 : Nat} {x3 : Int32} {x4 : Int32} {d : DD} {dl : LL} (hI : Inv d) (hc2 : KL c2 11 (ln c2)) (bx1 : 0 ≤ x1.toInt ∧ x1.toInt ≤ 5) (bx3 : 0 ≤ x3.toInt ∧ x3.toInt ≤ 40) (hrow : RowT c2) (hlen : x3.toInt + 8 ≤ ((ln c2 : Nat) : Int)) {Q : Int32 → DD → LL → Prop} (hQ : ∀ (r : Int32) (d2 : DD) (l2 : LL), Sq d dl d2 l2 ∧ (True) → Q r d2 l2) : F_X10_trims n x1 c2 x3 x4 d dl Q := by
  obtain ⟨e, he⟩ : ∃ e : DD, e = d := ⟨_, rfl⟩
  obtain ⟨el, hel⟩ : ∃ el : LL, el = dl := ⟨_, rfl⟩
  have hS : Sq e el d dl := by rw [he, hel]; exact Sq.rf hI
  rw [← he, ← hel] at hQ
  show vp_in x1 6 ∧ ∀ v2 : Int32, v2 = (d 218 x1.toNatClampNeg) → (¬ x4 = 1 → b_X10_trims_28 n Q c2 x3 x4 v2 0 d dl) ∧ (x4 = 1 → vp_in x1 6 ∧ b_X10_trims_28 n Q c2 x3 x4 v2 ((-v2) * (d 219 x1.toNatClampNeg)) d dl)
  have ih1 : vp_in x1 6 := vin rfl (by omega) (by omega)
  refine ⟨ih1, ?_⟩
  have m_35 := iv_218 hS.1 (x1.toNatClampNeg)
  intro v2 e2
  have t_36 : v2.toInt = (d 218 x1.toNatClampNeg).toInt := (congrArg Int32.toInt e2).trans rfl
  refine ⟨fun h3 => ?_, fun h3 => ?_⟩
  · have h3 : ¬ (x4.toInt = 1) := fun q => h3 ((i_eq rfl (rfl : (1 : Int32).toInt = 1)).mpr q)
    exact sb_X10_trims_28 hn hQ _ _ _ _ _ hc2 _ _ hS (by omega) (by omega) hrow hlen
  · have h3 : x4.toInt = 1 := (i_eq rfl (rfl : (1 : Int32).toInt = 1)).mp h3
    have ih29 : vp_in x1 6 := vin rfl (by omega) (by omega)
    refine ⟨ih29, ?_⟩
    exact sb_X10_trims_28 hn hQ _ _ _ _ _ hc2 _ _ hS (by omega) (by omega) hrow hlen
set_option maxHeartbeats 4000000 in
set_option maxRecDepth 100000 in
theorem sp_X10_tilt {n : Nat} (hn : 1000000000 ≤ n) {x1 : Int32} {c2 : Nat} {x3 : Int32} {d : DD} {dl : LL} (hI : Inv d) (hc2 : KL c2 11 (ln c2)) (bx1 : 0 ≤ x1.toInt ∧ x1.toInt ≤ 5) (bx3 : 0 ≤ x3.toInt ∧ x3.toInt ≤ 40) (hrow : RowT c2) (hlen : x3.toInt + 8 ≤ ((ln c2 : Nat) : Int)) {Q : Int32 → DD → LL → Prop} (hQ : ∀ (r : Int32) (d2 : DD) (l2 : LL), Sq d dl d2 l2 ∧ (True) → Q r d2 l2) : F_X10_tilt n x1 c2 x3 d dl Q := by
  obtain ⟨e, he⟩ : ∃ e : DD, e = d := ⟨_, rfl⟩
  obtain ⟨el, hel⟩ : ∃ el : LL, el = dl := ⟨_, rfl⟩
  have hS : Sq e el d dl := by rw [he, hel]; exact Sq.rf hI
  rw [← he, ← hel] at hQ
  show F_X10_trims n x1 c2 x3 0 d dl (fun r1 d2 l3 => F_X10_trims n x1 c2 x3 1 d2 l3 (fun r4 d5 l6 => F_X10_trims n x1 c2 x3 2 d5 l6 (fun r7 d8 l9 => F_X10_trims n x1 c2 x3 3 d8 l9 (fun r10 d11 l12 => Q (((((4 : Int32) * r1) + r4) - r7) - ((20 : Int32) * r10)) d11 l12))))
  refine sp_X10_trims hn hS.1 hc2 ⟨by omega, by omega⟩ ⟨by omega, by omega⟩ hrow hlen (fun r1 d2 l3 ⟨p_1, u_2⟩ => ?_)
  have s_3 : Sq e el d2 l3 := hS.tr p_1
  have w_4 : d2 = d := p_1.2.1
  refine sp_X10_trims hn s_3.1 hc2 ⟨by omega, by omega⟩ ⟨by omega, by omega⟩ hrow hlen (fun r4 d5 l6 ⟨p_5, u_6⟩ => ?_)
  have s_7 : Sq e el d5 l6 := s_3.tr p_5
  have w_8 : d5 = d2 := p_5.2.1
  refine sp_X10_trims hn s_7.1 hc2 ⟨by omega, by omega⟩ ⟨by omega, by omega⟩ hrow hlen (fun r7 d8 l9 ⟨p_9, u_10⟩ => ?_)
  have s_11 : Sq e el d8 l9 := s_7.tr p_9
  have w_12 : d8 = d5 := p_9.2.1
  refine sp_X10_trims hn s_11.1 hc2 ⟨by omega, by omega⟩ ⟨by omega, by omega⟩ hrow hlen (fun r10 d11 l12 ⟨p_13, u_14⟩ => ?_)
  have s_15 : Sq e el d11 l12 := s_11.tr p_13
  have w_16 : d11 = d8 := p_13.2.1
  exact hQ _ _ _ ⟨s_15, trivial⟩
set_option maxHeartbeats 4000000 in
set_option maxRecDepth 100000 in
theorem sp_X10_sits {n : Nat} (hn : 1000000000 ≤ n) {x1 : Int32} {x2 : Int32} {x3 : Int32} {d : DD} {dl : LL} (hI : Inv d) {Q : Int32 → DD → LL → Prop} (hQ : ∀ (r : Int32) (d2 : DD) (l2 : LL), Sq d dl d2 l2 ∧ ((-1) ≤ r.toInt ∧ r.toInt ≤ 39) → Q r d2 l2) : F_X10_sits n x1 x2 x3 d dl Q := by
  obtain ⟨e, he⟩ : ∃ e : DD, e = d := ⟨_, rfl⟩
  obtain ⟨el, hel⟩ : ∃ el : LL, el = dl := ⟨_, rfl⟩
  have hS : Sq e el d dl := by rw [he, hel]; exact Sq.rf hI
  rw [← he, ← hel] at hQ
  show F_X10_isCrew n x1 d dl (fun r1 d2 l3 => (r1 = 0 → Q (-1) d2 l3) ∧ (¬ r1 = 0 → (x2 < 0 → Q (-1) d2 l3) ∧ (¬ x2 < 0 → vp_in x1 6 ∧ ((d2 218 x1.toNatClampNeg) ≤ x2 → Q (-1) d2 l3) ∧ (¬ (d2 218 x1.toNatClampNeg) ≤ x2 → (x3 < 0 → Q (-1) d2 l3) ∧ (¬ x3 < 0 → (1 < x3 → Q (-1) d2 l3) ∧ (¬ 1 < x3 → vp_in x1 6 ∧ (¬ (d2 224 x1.toNatClampNeg) = 0 → vp_in ((((8 : Int32) * x1) + ((2 : Int32) * x2)) + x3) 48 ∧ Q (d2 223 ((((8 : Int32) * x1) + ((2 : Int32) * x2)) + x3).toNatClampNeg) d2 l3) ∧ ((d2 224 x1.toNatClampNeg) = 0 → Q (-1) d2 l3)))))))
  refine sp_X10_isCrew hn hS.1 (fun r1 d2 l3 ⟨p_1, u_2⟩ => ?_)
  have s_3 : Sq e el d2 l3 := hS.tr p_1
  have w_4 : d2 = d := p_1.2.1
  replace u_2 : (0 ≤ r1.toInt ∧ r1.toInt ≤ 1 ∧ ((r1.toInt = 1 ∧ 0 ≤ x1.toInt ∧ x1.toInt < (d 211 1).toInt) ∨ (r1.toInt = 0 ∧ ¬ (0 ≤ x1.toInt ∧ x1.toInt < (d 211 1).toInt)))) := u_2
  have m_5 := iv_211_1 hS.1
  refine ⟨fun h4 => ?_, fun h4 => ?_⟩
  · have h4 : r1.toInt = 0 := (i_eq rfl (rfl : (0 : Int32).toInt = 0)).mp h4
    exact hQ _ _ _ ⟨s_3, (show ((-1) ≤ (-1) ∧ (-1) ≤ 39) from by omega)⟩
  · have h4 : ¬ (r1.toInt = 0) := fun q => h4 ((i_eq rfl (rfl : (0 : Int32).toInt = 0)).mpr q)
    refine ⟨fun h5 => ?_, fun h5 => ?_⟩
    · have h5 : x2.toInt < 0 := (i_lt rfl (rfl : (0 : Int32).toInt = 0)).mp h5
      exact hQ _ _ _ ⟨s_3, (show ((-1) ≤ (-1) ∧ (-1) ≤ 39) from by omega)⟩
    · have h5 : ¬ (x2.toInt < 0) := fun q => h5 ((i_lt rfl (rfl : (0 : Int32).toInt = 0)).mpr q)
      have ih6 : vp_in x1 6 := vin rfl (by omega) (by omega)
      refine ⟨ih6, ?_⟩
      have q_6 : d2 218 x1.toNatClampNeg = (d 218 x1.toNatClampNeg) := by rw [w_4]
      have m_7 := iv_218 hS.1 (x1.toNatClampNeg)
      have t_8 : (d2 218 x1.toNatClampNeg).toInt = (d 218 x1.toNatClampNeg).toInt := (congrArg Int32.toInt q_6).trans rfl
      refine ⟨fun h7 => ?_, fun h7 => ?_⟩
      · have h7 : (d 218 x1.toNatClampNeg).toInt ≤ x2.toInt := (i_le t_8 rfl).mp h7
        exact hQ _ _ _ ⟨s_3, (show ((-1) ≤ (-1) ∧ (-1) ≤ 39) from by omega)⟩
      · have h7 : ¬ ((d 218 x1.toNatClampNeg).toInt ≤ x2.toInt) := fun q => h7 ((i_le t_8 rfl).mpr q)
        refine ⟨fun h8 => ?_, fun h8 => ?_⟩
        · have h8 : x3.toInt < 0 := (i_lt rfl (rfl : (0 : Int32).toInt = 0)).mp h8
          exact hQ _ _ _ ⟨s_3, (show ((-1) ≤ (-1) ∧ (-1) ≤ 39) from by omega)⟩
        · have h8 : ¬ (x3.toInt < 0) := fun q => h8 ((i_lt rfl (rfl : (0 : Int32).toInt = 0)).mpr q)
          refine ⟨fun h9 => ?_, fun h9 => ?_⟩
          · have h9 : 1 < x3.toInt := (i_lt (rfl : (1 : Int32).toInt = 1) rfl).mp h9
            exact hQ _ _ _ ⟨s_3, (show ((-1) ≤ (-1) ∧ (-1) ≤ 39) from by omega)⟩
          · have h9 : ¬ (1 < x3.toInt) := fun q => h9 ((i_lt (rfl : (1 : Int32).toInt = 1) rfl).mpr q)
            have ih10 : vp_in x1 6 := vin rfl (by omega) (by omega)
            refine ⟨ih10, ?_⟩
            have q_9 : d2 224 x1.toNatClampNeg = (d 224 x1.toNatClampNeg) := by rw [w_4]
            have m_10 := iv_224 hS.1 (x1.toNatClampNeg)
            have t_11 : (d2 224 x1.toNatClampNeg).toInt = (d 224 x1.toNatClampNeg).toInt := (congrArg Int32.toInt q_9).trans rfl
            refine ⟨fun h11 => ?_, fun h11 => ?_⟩
            · have h11 : ¬ ((d 224 x1.toNatClampNeg).toInt = 0) := fun q => h11 ((i_eq t_11 (rfl : (0 : Int32).toInt = 0)).mpr q)
              have t_12 : ((8 : Int32) * x1).toInt = 8 * x1.toInt := ti_mul (rfl : (8 : Int32).toInt = 8) rfl (by omega) (by omega)
              have t_13 : ((2 : Int32) * x2).toInt = 2 * x2.toInt := ti_mul (rfl : (2 : Int32).toInt = 2) rfl (by omega) (by omega)
              have t_14 : (((8 : Int32) * x1) + ((2 : Int32) * x2)).toInt = (8 * x1.toInt) + (2 * x2.toInt) := ti_add t_12 t_13 (by omega) (by omega)
              have t_15 : ((((8 : Int32) * x1) + ((2 : Int32) * x2)) + x3).toInt = ((8 * x1.toInt) + (2 * x2.toInt)) + x3.toInt := ti_add t_14 rfl (by omega) (by omega)
              have ih12 : vp_in ((((8 : Int32) * x1) + ((2 : Int32) * x2)) + x3) 48 := vin t_15 (by omega) (by omega)
              refine ⟨ih12, ?_⟩
              have q_16 : d2 223 ((((8 : Int32) * x1) + ((2 : Int32) * x2)) + x3).toNatClampNeg = (d 223 ((((8 : Int32) * x1) + ((2 : Int32) * x2)) + x3).toNatClampNeg) := by rw [w_4]
              have m_17 := iv_223 hS.1 (((((8 : Int32) * x1) + ((2 : Int32) * x2)) + x3).toNatClampNeg)
              have t_18 : (d2 223 ((((8 : Int32) * x1) + ((2 : Int32) * x2)) + x3).toNatClampNeg).toInt = (d 223 ((((8 : Int32) * x1) + ((2 : Int32) * x2)) + x3).toNatClampNeg).toInt := (congrArg Int32.toInt q_16).trans rfl
              exact hQ _ _ _ ⟨s_3, by omega⟩
            · have h11 : (d 224 x1.toNatClampNeg).toInt = 0 := (i_eq t_11 (rfl : (0 : Int32).toInt = 0)).mp h11
              exact hQ _ _ _ ⟨s_3, (show ((-1) ≤ (-1) ∧ (-1) ≤ 39) from by omega)⟩
set_option maxHeartbeats 4000000 in
set_option maxRecDepth 100000 in
theorem sp_X10_trim {n : Nat} (hn : 1000000000 ≤ n) {x1 : Int32} {x2 : Int32} {d : DD} {dl : LL} (hI : Inv d) {Q : Int32 → DD → LL → Prop} (hQ : ∀ (r : Int32) (d2 : DD) (l2 : LL), Sq d dl d2 l2 ∧ (True) → Q r d2 l2) : F_X10_trim n x1 x2 d dl Q := by
  obtain ⟨e, he⟩ : ∃ e : DD, e = d := ⟨_, rfl⟩
  obtain ⟨el, hel⟩ : ∃ el : LL, el = dl := ⟨_, rfl⟩
  have hS : Sq e el d dl := by rw [he, hel]; exact Sq.rf hI
  rw [← he, ← hel] at hQ
  show F_X10_isCrew n x1 d dl (fun r1 d2 l3 => (r1 = 0 → Q (-1) d2 l3) ∧ (¬ r1 = 0 → (x2 < 0 → Q (-1) d2 l3) ∧ (¬ x2 < 0 → (x2 ≤ 3 → vp_in x1 6 ∧ ((d2 224 x1.toNatClampNeg) = 0 → Q (-3) d2 l3) ∧ (¬ (d2 224 x1.toNatClampNeg) = 0 → F_X10_trims n x1 223 ((8 : Int32) * x1) x2 d2 l3 (fun r9 d10 l11 => Q r9 d10 l11))) ∧ (¬ x2 ≤ 3 → Q (-1) d2 l3))))
  refine sp_X10_isCrew hn hS.1 (fun r1 d2 l3 ⟨p_1, u_2⟩ => ?_)
  have s_3 : Sq e el d2 l3 := hS.tr p_1
  have w_4 : d2 = d := p_1.2.1
  replace u_2 : (0 ≤ r1.toInt ∧ r1.toInt ≤ 1 ∧ ((r1.toInt = 1 ∧ 0 ≤ x1.toInt ∧ x1.toInt < (d 211 1).toInt) ∨ (r1.toInt = 0 ∧ ¬ (0 ≤ x1.toInt ∧ x1.toInt < (d 211 1).toInt)))) := u_2
  have m_5 := iv_211_1 hS.1
  refine ⟨fun h4 => ?_, fun h4 => ?_⟩
  · have h4 : r1.toInt = 0 := (i_eq rfl (rfl : (0 : Int32).toInt = 0)).mp h4
    exact hQ _ _ _ ⟨s_3, trivial⟩
  · have h4 : ¬ (r1.toInt = 0) := fun q => h4 ((i_eq rfl (rfl : (0 : Int32).toInt = 0)).mpr q)
    refine ⟨fun h5 => ?_, fun h5 => ?_⟩
    · have h5 : x2.toInt < 0 := (i_lt rfl (rfl : (0 : Int32).toInt = 0)).mp h5
      exact hQ _ _ _ ⟨s_3, trivial⟩
    · have h5 : ¬ (x2.toInt < 0) := fun q => h5 ((i_lt rfl (rfl : (0 : Int32).toInt = 0)).mpr q)
      refine ⟨fun h6 => ?_, fun h6 => ?_⟩
      · have h6 : x2.toInt ≤ 3 := (i_le rfl (rfl : (3 : Int32).toInt = 3)).mp h6
        have ih7 : vp_in x1 6 := vin rfl (by omega) (by omega)
        refine ⟨ih7, ?_⟩
        have q_6 : d2 224 x1.toNatClampNeg = (d 224 x1.toNatClampNeg) := by rw [w_4]
        have m_7 := iv_224 hS.1 (x1.toNatClampNeg)
        have t_8 : (d2 224 x1.toNatClampNeg).toInt = (d 224 x1.toNatClampNeg).toInt := (congrArg Int32.toInt q_6).trans rfl
        refine ⟨fun h8 => ?_, fun h8 => ?_⟩
        · have h8 : (d 224 x1.toNatClampNeg).toInt = 0 := (i_eq t_8 (rfl : (0 : Int32).toInt = 0)).mp h8
          exact hQ _ _ _ ⟨s_3, trivial⟩
        · have h8 : ¬ ((d 224 x1.toNatClampNeg).toInt = 0) := fun q => h8 ((i_eq t_8 (rfl : (0 : Int32).toInt = 0)).mpr q)
          have t_9 : ((8 : Int32) * x1).toInt = 8 * x1.toInt := ti_mul (rfl : (8 : Int32).toInt = 8) rfl (by omega) (by omega)
          refine sp_X10_trims hn s_3.1 ⟨kn_223.1, kn_223.2.1, rfl⟩ ⟨by omega, by omega⟩ ⟨by rw [t_9]; omega, by rw [t_9]; omega⟩ (Or.inr rfl) (by rw [show ln 223 = 48 from rfl]; omega) (fun r9 d10 l11 ⟨p_10, u_11⟩ => ?_)
          have s_12 : Sq e el d10 l11 := s_3.tr p_10
          have w_13 : d10 = d2 := p_10.2.1
          exact hQ _ _ _ ⟨s_12, trivial⟩
      · have h6 : ¬ (x2.toInt ≤ 3) := fun q => h6 ((i_le rfl (rfl : (3 : Int32).toInt = 3)).mpr q)
        exact hQ _ _ _ ⟨s_3, trivial⟩
set_option maxHeartbeats 4000000 in
set_option maxRecDepth 100000 in
theorem sb_X10_change_58 {n : Nat} (hn : 1000000000 ≤ n) {e : DD} {el : LL} {Q : Int32 → DD → LL → Prop} (hQ : ∀ (r : Int32) (d2 : DD) (l2 : LL), St e el d2 l2 ∧ (True) → Q r d2 l2) : ∀ (j58 : Nat) (x1 : Int32) (x2 : Int32) (x3 : Int32) (x4 : Int32) (d : DD) (dl : LL), St e el d dl → (0 ≤ x1.toInt ∧ x1.toInt ≤ 5) → (0 ≤ x2.toInt ∧ x2.toInt ≤ 7) → (0 ≤ x3.toInt ∧ x3.toInt ≤ 7) → (0 ≤ x4.toInt ∧ x4.toInt ≤ 8) → 9 - x4.toInt < (j58 : Int) → b_X10_change_58 n Q j58 x1 x2 x3 x4 d dl := by
  intro j58
  induction j58 with
  | zero =>
    intro x1 x2 x3 x4 d dl hS bx1 bx2 bx3 bx4 hm58
    exfalso
    omega
  | succ j58 hK58 =>
    intro x1 x2 x3 x4 d dl hS bx1 bx2 bx3 bx4 hm58
    show vp_in x1 6 ∧ (((2 : Int32) * (d 218 x1.toNatClampNeg)) ≤ x4 → vp_in x2 8 ∧ ∀ v16 : Int32, v16 = (d 247 x2.toNatClampNeg) → vp_in x3 8 ∧ vp_in x2 8 ∧ ∀ d19 : DD, d19 = u2 d 247 x2.toNatClampNeg (d 247 x3.toNatClampNeg) → vp_in x3 8 ∧ ∀ d21 : DD, d21 = u2 d19 247 x3.toNatClampNeg v16 → vp_in x2 8 ∧ F_X10_fits n (d21 247 x2.toNatClampNeg) x2 d21 dl (fun r23 d24 l25 => (r23 = 0 → Q (-100001) d24 l25) ∧ (¬ r23 = 0 → vp_in x3 8 ∧ F_X10_fits n (d24 247 x3.toNatClampNeg) x3 d24 l25 (fun r28 d29 l30 => (¬ r28 = 0 → F_X10_tilt n x1 247 0 d29 l30 (fun r32 d33 l34 => Q r32 d33 l34)) ∧ (r28 = 0 → Q (-100001) d29 l30))))) ∧ (¬ ((2 : Int32) * (d 218 x1.toNatClampNeg)) ≤ x4 → vp_in (((8 : Int32) * x1) + x4) 48 ∧ vp_in x4 8 ∧ ∀ d37 : DD, d37 = u2 d 247 x4.toNatClampNeg (d 223 (((8 : Int32) * x1) + x4).toNatClampNeg) → (b_X10_change_58 n Q j58) x1 x2 x3 (x4 + 1) d37 dl)
    have ih13 : vp_in x1 6 := vin rfl (by omega) (by omega)
    refine ⟨ih13, ?_⟩
    have m_1 := iv_218 hS.1 (x1.toNatClampNeg)
    have t_2 : ((2 : Int32) * (d 218 x1.toNatClampNeg)).toInt = 2 * (d 218 x1.toNatClampNeg).toInt := ti_mul (rfl : (2 : Int32).toInt = 2) rfl (by omega) (by omega)
    refine ⟨fun h14 => ?_, fun h14 => ?_⟩
    · have h14 : (2 * (d 218 x1.toNatClampNeg).toInt) ≤ x4.toInt := (i_le t_2 rfl).mp h14
      have ih15 : vp_in x2 8 := vin rfl (by omega) (by omega)
      refine ⟨ih15, ?_⟩
      have m_3 := iv_247 hS.1 (x2.toNatClampNeg)
      intro v16 e16
      have t_4 : v16.toInt = (d 247 x2.toNatClampNeg).toInt := (congrArg Int32.toInt e16).trans rfl
      have ih17 : vp_in x3 8 := vin rfl (by omega) (by omega)
      refine ⟨ih17, ?_⟩
      have ih18 : vp_in x2 8 := vin rfl (by omega) (by omega)
      refine ⟨ih18, ?_⟩
      have m_5 := iv_247 hS.1 (x3.toNatClampNeg)
      intro d19 ed19
      have s_6 : St e el d19 dl := by rw [ed19]; exact pv_247 hS (by omega) (by omega)
      have ih20 : vp_in x3 8 := vin rfl (by omega) (by omega)
      refine ⟨ih20, ?_⟩
      intro d21 ed21
      have s_7 : St e el d21 dl := by rw [ed21]; exact pv_247 s_6 (by rw [t_4]; omega) (by rw [t_4]; omega)
      have ih22 : vp_in x2 8 := vin rfl (by omega) (by omega)
      refine ⟨ih22, ?_⟩
      have m_8 := iv_247 s_7.1 (x2.toNatClampNeg)
      refine sp_X10_fits hn s_7.1 ⟨by omega, by omega⟩ (fun r23 d24 l25 ⟨p_9, u_10⟩ => ?_)
      have s_11 : St e el d24 l25 := s_7.sq p_9
      have w_12 : d24 = d21 := p_9.2.1
      replace u_10 : (0 ≤ r23.toInt ∧ r23.toInt ≤ 1) := u_10
      refine ⟨fun h26 => ?_, fun h26 => ?_⟩
      · have h26 : r23.toInt = 0 := (i_eq rfl (rfl : (0 : Int32).toInt = 0)).mp h26
        exact hQ _ _ _ ⟨s_11, trivial⟩
      · have h26 : ¬ (r23.toInt = 0) := fun q => h26 ((i_eq rfl (rfl : (0 : Int32).toInt = 0)).mpr q)
        have ih27 : vp_in x3 8 := vin rfl (by omega) (by omega)
        refine ⟨ih27, ?_⟩
        have q_13 : d24 247 x3.toNatClampNeg = v16 := by rw [w_12]; rw [ed21, u2_eq]
        have t_14 : (d24 247 x3.toNatClampNeg).toInt = (d 247 x2.toNatClampNeg).toInt := (congrArg Int32.toInt q_13).trans t_4
        refine sp_X10_fits hn s_11.1 ⟨by rw [t_14]; omega, by rw [t_14]; omega⟩ (fun r28 d29 l30 ⟨p_15, u_16⟩ => ?_)
        have s_17 : St e el d29 l30 := s_11.sq p_15
        have w_18 : d29 = d24 := p_15.2.1
        replace u_16 : (0 ≤ r28.toInt ∧ r28.toInt ≤ 1) := u_16
        refine ⟨fun h31 => ?_, fun h31 => ?_⟩
        · have h31 : ¬ (r28.toInt = 0) := fun q => h31 ((i_eq rfl (rfl : (0 : Int32).toInt = 0)).mpr q)
          refine sp_X10_tilt hn s_17.1 ⟨kn_247.1, kn_247.2.1, rfl⟩ ⟨by omega, by omega⟩ ⟨by decide, by decide⟩ (Or.inl rfl) (by decide) (fun r32 d33 l34 ⟨p_19, u_20⟩ => ?_)
          have s_21 : St e el d33 l34 := s_17.sq p_19
          have w_22 : d33 = d29 := p_19.2.1
          exact hQ _ _ _ ⟨s_21, trivial⟩
        · have h31 : r28.toInt = 0 := (i_eq rfl (rfl : (0 : Int32).toInt = 0)).mp h31
          exact hQ _ _ _ ⟨s_17, trivial⟩
    · have h14 : ¬ ((2 * (d 218 x1.toNatClampNeg).toInt) ≤ x4.toInt) := fun q => h14 ((i_le t_2 rfl).mpr q)
      have t_23 : ((8 : Int32) * x1).toInt = 8 * x1.toInt := ti_mul (rfl : (8 : Int32).toInt = 8) rfl (by omega) (by omega)
      have t_24 : (((8 : Int32) * x1) + x4).toInt = (8 * x1.toInt) + x4.toInt := ti_add t_23 rfl (by omega) (by omega)
      have ih35 : vp_in (((8 : Int32) * x1) + x4) 48 := vin t_24 (by omega) (by omega)
      refine ⟨ih35, ?_⟩
      have ih36 : vp_in x4 8 := vin rfl (by omega) (by omega)
      refine ⟨ih36, ?_⟩
      have m_25 := iv_223 hS.1 ((((8 : Int32) * x1) + x4).toNatClampNeg)
      intro d37 ed37
      have s_26 : St e el d37 dl := by rw [ed37]; exact pv_247 hS (by omega) (by omega)
      have t_27 : (x4 + 1).toInt = x4.toInt + 1 := ti_add rfl (rfl : (1 : Int32).toInt = 1) (by omega) (by omega)
      exact hK58 _ _ _ _ _ _ s_26 (by omega) (by omega) (by omega) (by omega) (by omega)
