set_option maxHeartbeats 4000000 in
set_option maxRecDepth 100000 in
theorem sp_X10_keeps {n : Nat} (hn : 1000000000 ≤ n) {x1 : Int32} {x2 : Int32} {d : DD} {dl : LL} (hI : Inv d) {Q : Int32 → DD → LL → Prop} (hQ : ∀ (r : Int32) (d2 : DD) (l2 : LL), Sq d dl d2 l2 ∧ ((-3) ≤ r.toInt ∧ r.toInt ≤ 1) → Q r d2 l2) : F_X10_keeps n x1 x2 d dl Q := by
  obtain ⟨e, he⟩ : ∃ e : DD, e = d := ⟨_, rfl⟩
  obtain ⟨el, hel⟩ : ∃ el : LL, el = dl := ⟨_, rfl⟩
  have hS : Sq e el d dl := by rw [he, hel]; exact Sq.rf hI
  rw [← he, ← hel] at hQ
  show F_X10_isCrew n x1 d dl (fun r1 d2 l3 => (r1 = 0 → Q (-1) d2 l3) ∧ (¬ r1 = 0 → (x2 < 0 → Q (-1) d2 l3) ∧ (¬ x2 < 0 → (x2 < (d2 211 2) → vp_in x1 6 ∧ (¬ (d2 224 x1.toNatClampNeg) = 0 → b_X10_keeps_42 n Q n x1 x2 0 1 0 d2 l3) ∧ ((d2 224 x1.toNatClampNeg) = 0 → Q (-3) d2 l3)) ∧ (¬ x2 < (d2 211 2) → Q (-1) d2 l3))))
  refine sp_X10_isCrew hn hS.1 (fun r1 d2 l3 ⟨p_16, u_17⟩ => ?_)
  have s_18 : Sq e el d2 l3 := hS.tr p_16
  have w_19 : d2 = d := p_16.2.1
  replace u_17 : (0 ≤ r1.toInt ∧ r1.toInt ≤ 1 ∧ ((r1.toInt = 1 ∧ 0 ≤ x1.toInt ∧ x1.toInt < (d 211 1).toInt) ∨ (r1.toInt = 0 ∧ ¬ (0 ≤ x1.toInt ∧ x1.toInt < (d 211 1).toInt)))) := u_17
  have m_20 := iv_211_1 hS.1
  refine ⟨fun h4 => ?_, fun h4 => ?_⟩
  · have h4 : r1.toInt = 0 := (i_eq rfl (rfl : (0 : Int32).toInt = 0)).mp h4
    exact hQ _ _ _ ⟨s_18, (show ((-3) ≤ (-1) ∧ (-1) ≤ 1) from by omega)⟩
  · have h4 : ¬ (r1.toInt = 0) := fun q => h4 ((i_eq rfl (rfl : (0 : Int32).toInt = 0)).mpr q)
    refine ⟨fun h5 => ?_, fun h5 => ?_⟩
    · have h5 : x2.toInt < 0 := (i_lt rfl (rfl : (0 : Int32).toInt = 0)).mp h5
      exact hQ _ _ _ ⟨s_18, (show ((-3) ≤ (-1) ∧ (-1) ≤ 1) from by omega)⟩
    · have h5 : ¬ (x2.toInt < 0) := fun q => h5 ((i_lt rfl (rfl : (0 : Int32).toInt = 0)).mpr q)
      have q_21 : d2 211 2 = (d 211 2) := by rw [w_19]
      have m_22 := iv_211_2 hS.1
      have t_23 : (d2 211 2).toInt = (d 211 2).toInt := (congrArg Int32.toInt q_21).trans rfl
      refine ⟨fun h6 => ?_, fun h6 => ?_⟩
      · have h6 : x2.toInt < (d 211 2).toInt := (i_lt rfl t_23).mp h6
        have ih7 : vp_in x1 6 := vin rfl (by omega) (by omega)
        refine ⟨ih7, ?_⟩
        have q_24 : d2 224 x1.toNatClampNeg = (d 224 x1.toNatClampNeg) := by rw [w_19]
        have m_25 := iv_224 hS.1 (x1.toNatClampNeg)
        have t_26 : (d2 224 x1.toNatClampNeg).toInt = (d 224 x1.toNatClampNeg).toInt := (congrArg Int32.toInt q_24).trans rfl
        refine ⟨fun h8 => ?_, fun h8 => ?_⟩
        · have h8 : ¬ ((d 224 x1.toNatClampNeg).toInt = 0) := fun q => h8 ((i_eq t_26 (rfl : (0 : Int32).toInt = 0)).mpr q)
          exact sb_X10_keeps_42 hn hQ n _ _ _ _ _ _ _ s_18 (by omega) (by omega) (show 0 ≤ 0 ∧ 0 ≤ 1 from by omega) (show 0 ≤ 1 ∧ 1 ≤ 1 from by omega) (show 0 ≤ 0 ∧ 0 ≤ 8 from by omega) (show 9 - 0 < (n : Int) from by omega)
        · have h8 : (d 224 x1.toNatClampNeg).toInt = 0 := (i_eq t_26 (rfl : (0 : Int32).toInt = 0)).mp h8
          exact hQ _ _ _ ⟨s_18, (show ((-3) ≤ (-3) ∧ (-3) ≤ 1) from by omega)⟩
      · have h6 : ¬ (x2.toInt < (d 211 2).toInt) := fun q => h6 ((i_lt rfl t_23).mpr q)
        exact hQ _ _ _ ⟨s_18, (show ((-3) ≤ (-1) ∧ (-1) ≤ 1) from by omega)⟩
set_option maxHeartbeats 4000000 in
set_option maxRecDepth 100000 in
theorem sb_X10_haveCommon_9 {n : Nat} (hn : 1000000000 ≤ n) {e : DD} {el : LL} {Q : Int32 → DD → LL → Prop} (hQ : ∀ (r : Int32) (d2 : DD) (l2 : LL), Sq e el d2 l2 ∧ (0 ≤ r.toInt ∧ r.toInt ≤ 1) → Q r d2 l2) : ∀ (j9 : Nat) (x1 : Int32) (x2 : Int32) (x3 : Int32) (d : DD) (dl : LL), Sq e el d dl → (0 ≤ x1.toInt ∧ x1.toInt ≤ 5) → (0 ≤ x2.toInt ∧ x2.toInt ≤ 5) → (0 ≤ x3.toInt ∧ x3.toInt ≤ 8) → 9 - x3.toInt < (j9 : Int) → b_X10_haveCommon_9 n Q j9 x1 x2 x3 d dl := by
  intro j9
  induction j9 with
  | zero =>
    intro x1 x2 x3 d dl hS bx1 bx2 bx3 hm9
    exfalso
    omega
  | succ j9 hK9 =>
    intro x1 x2 x3 d dl hS bx1 bx2 bx3 hm9
    show vp_in x1 6 ∧ ((d 220 x1.toNatClampNeg) ≤ x3 → Q 0 d dl) ∧ (¬ (d 220 x1.toNatClampNeg) ≤ x3 → vp_in (((8 : Int32) * x1) + x3) 48 ∧ F_X10_isMember n x2 (d 222 (((8 : Int32) * x1) + x3).toNatClampNeg) d dl (fun r5 d6 l7 => (r5 = 0 → (b_X10_haveCommon_9 n Q j9) x1 x2 (x3 + 1) d6 l7) ∧ (¬ r5 = 0 → Q 1 d6 l7)))
    have ih2 : vp_in x1 6 := vin rfl (by omega) (by omega)
    refine ⟨ih2, ?_⟩
    have m_1 := iv_220 hS.1 (x1.toNatClampNeg)
    refine ⟨fun h3 => ?_, fun h3 => ?_⟩
    · have h3 : (d 220 x1.toNatClampNeg).toInt ≤ x3.toInt := (i_le rfl rfl).mp h3
      exact hQ _ _ _ ⟨hS, (show (0 ≤ 0 ∧ 0 ≤ 1) from by omega)⟩
    · have h3 : ¬ ((d 220 x1.toNatClampNeg).toInt ≤ x3.toInt) := fun q => h3 ((i_le rfl rfl).mpr q)
      have t_2 : ((8 : Int32) * x1).toInt = 8 * x1.toInt := ti_mul (rfl : (8 : Int32).toInt = 8) rfl (by omega) (by omega)
      have t_3 : (((8 : Int32) * x1) + x3).toInt = (8 * x1.toInt) + x3.toInt := ti_add t_2 rfl (by omega) (by omega)
      have ih4 : vp_in (((8 : Int32) * x1) + x3) 48 := vin t_3 (by omega) (by omega)
      refine ⟨ih4, ?_⟩
      have m_4 := iv_222 hS.1 ((((8 : Int32) * x1) + x3).toNatClampNeg)
      refine sp_X10_isMember hn hS.1 ⟨by omega, by omega⟩ (fun r5 d6 l7 ⟨p_5, u_6⟩ => ?_)
      have s_7 : Sq e el d6 l7 := hS.tr p_5
      have w_8 : d6 = d := p_5.2.1
      replace u_6 : (0 ≤ r5.toInt ∧ r5.toInt ≤ 1) := u_6
      refine ⟨fun h8 => ?_, fun h8 => ?_⟩
      · have h8 : r5.toInt = 0 := (i_eq rfl (rfl : (0 : Int32).toInt = 0)).mp h8
        have t_9 : (x3 + 1).toInt = x3.toInt + 1 := ti_add rfl (rfl : (1 : Int32).toInt = 1) (by omega) (by omega)
        exact hK9 _ _ _ _ _ s_7 (by omega) (by omega) (by omega) (by omega)
      · have h8 : ¬ (r5.toInt = 0) := fun q => h8 ((i_eq rfl (rfl : (0 : Int32).toInt = 0)).mpr q)
        exact hQ _ _ _ ⟨s_7, (show (0 ≤ 1 ∧ 1 ≤ 1) from by omega)⟩
set_option maxHeartbeats 4000000 in
set_option maxRecDepth 100000 in
theorem sp_X10_haveCommon {n : Nat} (hn : 1000000000 ≤ n) {x1 : Int32} {x2 : Int32} {d : DD} {dl : LL} (hI : Inv d) (bx1 : 0 ≤ x1.toInt ∧ x1.toInt ≤ 5) (bx2 : 0 ≤ x2.toInt ∧ x2.toInt ≤ 5) {Q : Int32 → DD → LL → Prop} (hQ : ∀ (r : Int32) (d2 : DD) (l2 : LL), Sq d dl d2 l2 ∧ (0 ≤ r.toInt ∧ r.toInt ≤ 1) → Q r d2 l2) : F_X10_haveCommon n x1 x2 d dl Q := by
  obtain ⟨e, he⟩ : ∃ e : DD, e = d := ⟨_, rfl⟩
  obtain ⟨el, hel⟩ : ∃ el : LL, el = dl := ⟨_, rfl⟩
  have hS : Sq e el d dl := by rw [he, hel]; exact Sq.rf hI
  rw [← he, ← hel] at hQ
  show (¬ x1 = x2 → b_X10_haveCommon_9 n Q n x1 x2 0 d dl) ∧ (x1 = x2 → Q 1 d dl)
  refine ⟨fun h1 => ?_, fun h1 => ?_⟩
  · have h1 : ¬ (x1.toInt = x2.toInt) := fun q => h1 ((i_eq rfl rfl).mpr q)
    exact sb_X10_haveCommon_9 hn hQ n _ _ _ _ _ hS (by omega) (by omega) (show 0 ≤ 0 ∧ 0 ≤ 8 from by omega) (show 9 - 0 < (n : Int) from by omega)
  · have h1 : x1.toInt = x2.toInt := (i_eq rfl rfl).mp h1
    exact hQ _ _ _ ⟨hS, (show (0 ≤ 1 ∧ 1 ≤ 1) from by omega)⟩
set_option maxHeartbeats 4000000 in
set_option maxRecDepth 100000 in
theorem sp_X10_isRace {n : Nat} (hn : 1000000000 ≤ n) {x1 : Int32} {d : DD} {dl : LL} (hI : Inv d) {Q : Int32 → DD → LL → Prop} (hQ : ∀ (r : Int32) (d2 : DD) (l2 : LL), Sq d dl d2 l2 ∧ (0 ≤ r.toInt ∧ r.toInt ≤ 1 ∧ ((r.toInt = 1 ∧ 0 ≤ x1.toInt ∧ x1.toInt < (d 211 3).toInt) ∨ (r.toInt = 0 ∧ ¬ (0 ≤ x1.toInt ∧ x1.toInt < (d 211 3).toInt)))) → Q r d2 l2) : F_X10_isRace n x1 d dl Q := by
  obtain ⟨e, he⟩ : ∃ e : DD, e = d := ⟨_, rfl⟩
  obtain ⟨el, hel⟩ : ∃ el : LL, el = dl := ⟨_, rfl⟩
  have hS : Sq e el d dl := by rw [he, hel]; exact Sq.rf hI
  rw [← he, ← hel] at hQ
  show (x1 < 0 → Q 0 d dl) ∧ (¬ x1 < 0 → ((d 211 3) ≤ x1 → Q 0 d dl) ∧ (¬ (d 211 3) ≤ x1 → Q 1 d dl))
  have hx0 : (e 211 3).toInt = (d 211 3).toInt := by rw [he]
  refine ⟨fun h1 => ?_, fun h1 => ?_⟩
  · have h1 : x1.toInt < 0 := (i_lt rfl (rfl : (0 : Int32).toInt = 0)).mp h1
    exact hQ _ _ _ ⟨hS, (show (0 ≤ 0 ∧ 0 ≤ 1 ∧ ((0 = 1 ∧ 0 ≤ x1.toInt ∧ x1.toInt < (e 211 3).toInt) ∨ (0 = 0 ∧ ¬ (0 ≤ x1.toInt ∧ x1.toInt < (e 211 3).toInt)))) from by omega)⟩
  · have h1 : ¬ (x1.toInt < 0) := fun q => h1 ((i_lt rfl (rfl : (0 : Int32).toInt = 0)).mpr q)
    have m_1 := iv_211_3 hS.1
    refine ⟨fun h2 => ?_, fun h2 => ?_⟩
    · have h2 : (d 211 3).toInt ≤ x1.toInt := (i_le rfl rfl).mp h2
      exact hQ _ _ _ ⟨hS, (show (0 ≤ 0 ∧ 0 ≤ 1 ∧ ((0 = 1 ∧ 0 ≤ x1.toInt ∧ x1.toInt < (e 211 3).toInt) ∨ (0 = 0 ∧ ¬ (0 ≤ x1.toInt ∧ x1.toInt < (e 211 3).toInt)))) from by omega)⟩
    · have h2 : ¬ ((d 211 3).toInt ≤ x1.toInt) := fun q => h2 ((i_le rfl rfl).mpr q)
      exact hQ _ _ _ ⟨hS, (show (0 ≤ 1 ∧ 1 ≤ 1 ∧ ((1 = 1 ∧ 0 ≤ x1.toInt ∧ x1.toInt < (e 211 3).toInt) ∨ (1 = 0 ∧ ¬ (0 ≤ x1.toInt ∧ x1.toInt < (e 211 3).toInt)))) from by omega)⟩
set_option maxHeartbeats 4000000 in
set_option maxRecDepth 100000 in
theorem sb_X10_goes_203 {n : Nat} (hn : 1000000000 ≤ n) {e : DD} {el : LL} {Q : Int32 → DD → LL → Prop} (hQ : ∀ (r : Int32) (d2 : DD) (l2 : LL), St e el d2 l2 ∧ (0 ≤ r.toInt ∧ r.toInt ≤ 1) → Q r d2 l2) {K90 : Int32 → Int32 → Int32 → Int32 → Int32 → Int32 → Int32 → Int32 → DD → LL → Prop} {j90 : Nat} (hK90 : ∀ (x1 : Int32) (x2 : Int32) (x4 : Int32) (x5 : Int32) (x7 : Int32) (x8 : Int32) (x9 : Int32) (x10 : Int32) (d : DD) (dl : LL), St e el d dl → (0 ≤ x1.toInt ∧ x1.toInt ≤ 95) → (0 ≤ x2.toInt ∧ x2.toInt ≤ 3) → (0 ≤ x4.toInt ∧ x4.toInt ≤ 5) → (0 ≤ x5.toInt ∧ x5.toInt ≤ 8) → (1000 ≤ x8.toInt ∧ x8.toInt ≤ 20000) → (1 ≤ x10.toInt ∧ x10.toInt ≤ 2001) → (0 ≤ (d 234 x1.toNatClampNeg).toInt) → 2002 - x10.toInt < (j90 : Int) → K90 x1 x2 x4 x5 x7 x8 x9 x10 d dl) : ∀ (j203 : Nat) (x1 : Int32) (x2 : Int32) (x4 : Int32) (x5 : Int32) (x7 : Int32) (x8 : Int32) (x9 : Int32) (x10 : Int32) (x12 : Int32) (x13 : Int32) (d : DD) (dl : LL), St e el d dl → (0 ≤ x1.toInt ∧ x1.toInt ≤ 95) → (0 ≤ x2.toInt ∧ x2.toInt ≤ 3) → (0 ≤ x4.toInt ∧ x4.toInt ≤ 5) → (0 ≤ x5.toInt ∧ x5.toInt ≤ 8) → (1000 ≤ x8.toInt ∧ x8.toInt ≤ 20000) → (1 ≤ x10.toInt ∧ x10.toInt ≤ 2000) → (0 ≤ x13.toInt ∧ x13.toInt ≤ 8) → (0 ≤ (d 234 x1.toNatClampNeg).toInt) → (1 ≤ x12.toInt) → 2002 - x10.toInt ≤ (j90 : Int) → 9 - x13.toInt < (j203 : Int) → b_X10_goes_203 n Q K90 j203 x1 x2 x4 x5 x7 x8 x9 x10 x12 x13 d dl := by
  intro j203
  induction j203 with
  | zero =>
    intro x1 x2 x4 x5 x7 x8 x9 x10 x12 x13 d dl hS bx1 bx2 bx4 bx5 bx8 bx10 bx13 bi0 bi1 hm90 hm203
    exfalso
    omega
  | succ j203 hK203 =>
    intro x1 x2 x4 x5 x7 x8 x9 x10 x12 x13 d dl hS bx1 bx2 bx4 bx5 bx8 bx10 bx13 bi0 bi1 hm90 hm203
    show (x5 ≤ x13 → ∀ v20 : Int32, v20 = (x8 - x9) → ∀ v21 : Int32, v21 = (x9 + x12) → vp_in x1 96 ∧ ∀ d23 : DD, d23 = u2 d 236 x1.toNatClampNeg v21 → (v21 < x8 → K90 x1 x2 x4 x5 x7 x8 v21 (x10 + 1) d23 dl) ∧ (¬ v21 < x8 → ¬ x12 = 0 ∧ vp_in x1 96 ∧ ∀ d27 : DD, d27 = u2 d23 235 x1.toNatClampNeg (((100 : Int32) * (x10 - 1)) + ((v20 * 100) / x12)) → Q 1 d27 dl)) ∧ (¬ x5 ≤ x13 → vp_in x13 8 ∧ vp_in x4 6 ∧ vp_in x4 6 ∧ (200 ≤ ((d 246 x13.toNatClampNeg) - ((d 221 x4.toNatClampNeg) * (d 221 x4.toNatClampNeg))) → vp_in x13 8 ∧ vp_in x4 6 ∧ vp_in x4 6 ∧ vp_in x13 8 ∧ ∀ d36 : DD, d36 = u2 d 246 x13.toNatClampNeg ((d 246 x13.toNatClampNeg) - ((d 221 x4.toNatClampNeg) * (d 221 x4.toNatClampNeg))) → (b_X10_goes_203 n Q K90 j203) x1 x2 x4 x5 x7 x8 x9 x10 x12 (x13 + 1) d36 dl) ∧ (¬ 200 ≤ ((d 246 x13.toNatClampNeg) - ((d 221 x4.toNatClampNeg) * (d 221 x4.toNatClampNeg))) → vp_in x13 8 ∧ ∀ d38 : DD, d38 = u2 d 246 x13.toNatClampNeg 200 → (b_X10_goes_203 n Q K90 j203) x1 x2 x4 x5 x7 x8 x9 x10 x12 (x13 + 1) d38 dl))
    refine ⟨fun h19 => ?_, fun h19 => ?_⟩
    · have h19 : x5.toInt ≤ x13.toInt := (i_le rfl rfl).mp h19
      intro v20 e20
      have t_1 : v20.toInt = (x8 - x9).toInt := (congrArg Int32.toInt e20).trans rfl
      intro v21 e21
      have t_2 : v21.toInt = (x9 + x12).toInt := (congrArg Int32.toInt e21).trans rfl
      have ih22 : vp_in x1 96 := vin rfl (by omega) (by omega)
      refine ⟨ih22, ?_⟩
      intro d23 ed23
      have s_3 : St e el d23 dl := by rw [ed23]; exact pv_236 hS
      refine ⟨fun h24 => ?_, fun h24 => ?_⟩
      · have h24 : (x9 + x12).toInt < x8.toInt := (i_lt t_2 rfl).mp h24
        have t_4 : (x10 + 1).toInt = x10.toInt + 1 := ti_add rfl (rfl : (1 : Int32).toInt = 1) (by omega) (by omega)
        have q_5 : d23 234 x1.toNatClampNeg = (d 234 x1.toNatClampNeg) := by rw [ed23, u2_row (by omega)]
        have m_6 := iv_234 hS.1 (x1.toNatClampNeg)
        have t_7 : (d23 234 x1.toNatClampNeg).toInt = (d 234 x1.toNatClampNeg).toInt := (congrArg Int32.toInt q_5).trans rfl
        exact hK90 _ _ _ _ _ _ _ _ _ _ s_3 (by omega) (by omega) (by omega) (by omega) (by omega) (by omega) (by omega) (by omega)
      · have h24 : ¬ ((x9 + x12).toInt < x8.toInt) := fun q => h24 ((i_lt t_2 rfl).mpr q)
        have z_8 : ¬ x12.toInt = 0 := by omega
        refine ⟨fun q => z_8 ((i_eq rfl (rfl : (0 : Int32).toInt = 0)).mp q), ?_⟩
        have ih26 : vp_in x1 96 := vin rfl (by omega) (by omega)
        refine ⟨ih26, ?_⟩
        have q_9 : d23 234 x1.toNatClampNeg = (d 234 x1.toNatClampNeg) := by rw [ed23, u2_row (by omega)]
        have m_10 := iv_234 hS.1 (x1.toNatClampNeg)
        have t_11 : (d23 234 x1.toNatClampNeg).toInt = (d 234 x1.toNatClampNeg).toInt := (congrArg Int32.toInt q_9).trans rfl
        intro d27 ed27
        have s_12 : St e el d27 dl := by rw [ed27]; exact pv_235 s_3 (Or.inr (by omega))
        exact hQ _ _ _ ⟨s_12, (show (0 ≤ 1 ∧ 1 ≤ 1) from by omega)⟩
    · have h19 : ¬ (x5.toInt ≤ x13.toInt) := fun q => h19 ((i_le rfl rfl).mpr q)
      have ih28 : vp_in x13 8 := vin rfl (by omega) (by omega)
      refine ⟨ih28, ?_⟩
      have ih29 : vp_in x4 6 := vin rfl (by omega) (by omega)
      refine ⟨ih29, ?_⟩
      have ih30 : vp_in x4 6 := vin rfl (by omega) (by omega)
      refine ⟨ih30, ?_⟩
      refine ⟨fun h31 => ?_, fun h31 => ?_⟩
      · have h31 : 200 ≤ ((d 246 x13.toNatClampNeg) - ((d 221 x4.toNatClampNeg) * (d 221 x4.toNatClampNeg))).toInt := (i_le (rfl : (200 : Int32).toInt = 200) rfl).mp h31
        have ih32 : vp_in x13 8 := vin rfl (by omega) (by omega)
        refine ⟨ih32, ?_⟩
        have ih33 : vp_in x4 6 := vin rfl (by omega) (by omega)
        refine ⟨ih33, ?_⟩
        have ih34 : vp_in x4 6 := vin rfl (by omega) (by omega)
        refine ⟨ih34, ?_⟩
        have ih35 : vp_in x13 8 := vin rfl (by omega) (by omega)
        refine ⟨ih35, ?_⟩
        intro d36 ed36
        have s_13 : St e el d36 dl := by rw [ed36]; exact pv_246 hS
        have t_14 : (x13 + 1).toInt = x13.toInt + 1 := ti_add rfl (rfl : (1 : Int32).toInt = 1) (by omega) (by omega)
        have q_15 : d36 234 x1.toNatClampNeg = (d 234 x1.toNatClampNeg) := by rw [ed36, u2_row (by omega)]
        have m_16 := iv_234 hS.1 (x1.toNatClampNeg)
        have t_17 : (d36 234 x1.toNatClampNeg).toInt = (d 234 x1.toNatClampNeg).toInt := (congrArg Int32.toInt q_15).trans rfl
        exact hK203 _ _ _ _ _ _ _ _ _ _ _ _ s_13 (by omega) (by omega) (by omega) (by omega) (by omega) (by omega) (by omega) (by omega) (by omega) (by omega) (by omega)
      · have h31 : ¬ (200 ≤ ((d 246 x13.toNatClampNeg) - ((d 221 x4.toNatClampNeg) * (d 221 x4.toNatClampNeg))).toInt) := fun q => h31 ((i_le (rfl : (200 : Int32).toInt = 200) rfl).mpr q)
        have ih37 : vp_in x13 8 := vin rfl (by omega) (by omega)
        refine ⟨ih37, ?_⟩
        intro d38 ed38
        have s_18 : St e el d38 dl := by rw [ed38]; exact pv_246 hS
        have t_19 : (x13 + 1).toInt = x13.toInt + 1 := ti_add rfl (rfl : (1 : Int32).toInt = 1) (by omega) (by omega)
        have q_20 : d38 234 x1.toNatClampNeg = (d 234 x1.toNatClampNeg) := by rw [ed38, u2_row (by omega)]
        have m_21 := iv_234 hS.1 (x1.toNatClampNeg)
        have t_22 : (d38 234 x1.toNatClampNeg).toInt = (d 234 x1.toNatClampNeg).toInt := (congrArg Int32.toInt q_20).trans rfl
        exact hK203 _ _ _ _ _ _ _ _ _ _ _ _ s_18 (by omega) (by omega) (by omega) (by omega) (by omega) (by omega) (by omega) (by omega) (by omega) (by omega) (by omega)
set_option maxHeartbeats 4000000 in
set_option maxRecDepth 100000 in
theorem sb_X10_goes_200 {n : Nat} (hn : 1000000000 ≤ n) {e : DD} {el : LL} {Q : Int32 → DD → LL → Prop} (hQ : ∀ (r : Int32) (d2 : DD) (l2 : LL), St e el d2 l2 ∧ (0 ≤ r.toInt ∧ r.toInt ≤ 1) → Q r d2 l2) {K90 : Int32 → Int32 → Int32 → Int32 → Int32 → Int32 → Int32 → Int32 → DD → LL → Prop} {j90 : Nat} (hK90 : ∀ (x1 : Int32) (x2 : Int32) (x4 : Int32) (x5 : Int32) (x7 : Int32) (x8 : Int32) (x9 : Int32) (x10 : Int32) (d : DD) (dl : LL), St e el d dl → (0 ≤ x1.toInt ∧ x1.toInt ≤ 95) → (0 ≤ x2.toInt ∧ x2.toInt ≤ 3) → (0 ≤ x4.toInt ∧ x4.toInt ≤ 5) → (0 ≤ x5.toInt ∧ x5.toInt ≤ 8) → (1000 ≤ x8.toInt ∧ x8.toInt ≤ 20000) → (1 ≤ x10.toInt ∧ x10.toInt ≤ 2001) → (0 ≤ (d 234 x1.toNatClampNeg).toInt) → 2002 - x10.toInt < (j90 : Int) → K90 x1 x2 x4 x5 x7 x8 x9 x10 d dl) : ∀ (x1 : Int32) (x2 : Int32) (x4 : Int32) (x5 : Int32) (x7 : Int32) (x8 : Int32) (x9 : Int32) (x10 : Int32) (x12 : Int32) (d : DD) (dl : LL), St e el d dl → (0 ≤ x1.toInt ∧ x1.toInt ≤ 95) → (0 ≤ x2.toInt ∧ x2.toInt ≤ 3) → (0 ≤ x4.toInt ∧ x4.toInt ≤ 5) → (0 ≤ x5.toInt ∧ x5.toInt ≤ 8) → (1000 ≤ x8.toInt ∧ x8.toInt ≤ 20000) → (1 ≤ x10.toInt ∧ x10.toInt ≤ 2000) → (0 ≤ (d 234 x1.toNatClampNeg).toInt) → (1 ≤ x12.toInt) → 2002 - x10.toInt ≤ (j90 : Int) → b_X10_goes_200 n Q K90 x1 x2 x4 x5 x7 x8 x9 x10 x12 d dl := by
  intro x1 x2 x4 x5 x7 x8 x9 x10 x12 d dl hS bx1 bx2 bx4 bx5 bx8 bx10 bi0 bi1 hm90
  show b_X10_goes_203 n Q K90 n x1 x2 x4 x5 x7 x8 x9 x10 x12 0 d dl
  have m_23 := iv_234 hS.1 (x1.toNatClampNeg)
  exact sb_X10_goes_203 hn hQ hK90 n _ _ _ _ _ _ _ _ _ _ _ _ hS (by omega) (by omega) (by omega) (by omega) (by omega) (by omega) (show 0 ≤ 0 ∧ 0 ≤ 8 from by omega) (by omega) (by omega) (by omega) (show 9 - 0 < (n : Int) from by omega)
set_option maxHeartbeats 4000000 in
set_option maxRecDepth 100000 in
theorem sb_X10_goes_182 {n : Nat} (hn : 1000000000 ≤ n) {e : DD} {el : LL} {Q : Int32 → DD → LL → Prop} (hQ : ∀ (r : Int32) (d2 : DD) (l2 : LL), St e el d2 l2 ∧ (0 ≤ r.toInt ∧ r.toInt ≤ 1) → Q r d2 l2) {K90 : Int32 → Int32 → Int32 → Int32 → Int32 → Int32 → Int32 → Int32 → DD → LL → Prop} {j90 : Nat} (hK90 : ∀ (x1 : Int32) (x2 : Int32) (x4 : Int32) (x5 : Int32) (x7 : Int32) (x8 : Int32) (x9 : Int32) (x10 : Int32) (d : DD) (dl : LL), St e el d dl → (0 ≤ x1.toInt ∧ x1.toInt ≤ 95) → (0 ≤ x2.toInt ∧ x2.toInt ≤ 3) → (0 ≤ x4.toInt ∧ x4.toInt ≤ 5) → (0 ≤ x5.toInt ∧ x5.toInt ≤ 8) → (1000 ≤ x8.toInt ∧ x8.toInt ≤ 20000) → (1 ≤ x10.toInt ∧ x10.toInt ≤ 2001) → (0 ≤ (d 234 x1.toNatClampNeg).toInt) → 2002 - x10.toInt < (j90 : Int) → K90 x1 x2 x4 x5 x7 x8 x9 x10 d dl) : ∀ (x1 : Int32) (x2 : Int32) (x4 : Int32) (x5 : Int32) (x7 : Int32) (x8 : Int32) (x9 : Int32) (x10 : Int32) (xs0 : Int32) (d : DD) (dl : LL), St e el d dl → (0 ≤ x1.toInt ∧ x1.toInt ≤ 95) → (0 ≤ x2.toInt ∧ x2.toInt ≤ 3) → (0 ≤ x4.toInt ∧ x4.toInt ≤ 5) → (0 ≤ x5.toInt ∧ x5.toInt ≤ 8) → (1000 ≤ x8.toInt ∧ x8.toInt ≤ 20000) → (1 ≤ x10.toInt ∧ x10.toInt ≤ 2000) → (0 ≤ (d 234 x1.toNatClampNeg).toInt) → 2002 - x10.toInt ≤ (j90 : Int) → b_X10_goes_182 n Q K90 x1 x2 x4 x5 x7 x8 x9 x10 xs0 d dl := by
  intro x1 x2 x4 x5 x7 x8 x9 x10 xs0 d dl hS bx1 bx2 bx4 bx5 bx8 bx10 bi0 hm90
  show vp_in x2 4 ∧ ∀ v17 : Int32, v17 = (xs0 + (d 240 x2.toNatClampNeg)) → (1 ≤ v17 → b_X10_goes_200 n Q K90 x1 x2 x4 x5 x7 x8 x9 x10 v17 d dl) ∧ (¬ 1 ≤ v17 → b_X10_goes_200 n Q K90 x1 x2 x4 x5 x7 x8 x9 x10 1 d dl)
  have ih16 : vp_in x2 4 := vin rfl (by omega) (by omega)
  refine ⟨ih16, ?_⟩
  intro v17 e17
  have t_24 : v17.toInt = (xs0 + (d 240 x2.toNatClampNeg)).toInt := (congrArg Int32.toInt e17).trans rfl
  refine ⟨fun h18 => ?_, fun h18 => ?_⟩
  · have h18 : 1 ≤ (xs0 + (d 240 x2.toNatClampNeg)).toInt := (i_le (rfl : (1 : Int32).toInt = 1) t_24).mp h18
    have m_25 := iv_234 hS.1 (x1.toNatClampNeg)
    exact sb_X10_goes_200 hn hQ hK90 _ _ _ _ _ _ _ _ _ _ _ hS (by omega) (by omega) (by omega) (by omega) (by omega) (by omega) (by omega) (by omega) (by omega)
  · have h18 : ¬ (1 ≤ (xs0 + (d 240 x2.toNatClampNeg)).toInt) := fun q => h18 ((i_le (rfl : (1 : Int32).toInt = 1) t_24).mpr q)
    have m_26 := iv_234 hS.1 (x1.toNatClampNeg)
    exact sb_X10_goes_200 hn hQ hK90 _ _ _ _ _ _ _ _ _ _ _ hS (by omega) (by omega) (by omega) (by omega) (by omega) (by omega) (by omega) (show 1 ≤ 1 from by omega) (by omega)
set_option maxHeartbeats 4000000 in
set_option maxRecDepth 100000 in
theorem sb_X10_goes_104 {n : Nat} (hn : 1000000000 ≤ n) {e : DD} {el : LL} {Q : Int32 → DD → LL → Prop} (hQ : ∀ (r : Int32) (d2 : DD) (l2 : LL), St e el d2 l2 ∧ (0 ≤ r.toInt ∧ r.toInt ≤ 1) → Q r d2 l2) {K90 : Int32 → Int32 → Int32 → Int32 → Int32 → Int32 → Int32 → Int32 → DD → LL → Prop} {j90 : Nat} (hK90 : ∀ (x1 : Int32) (x2 : Int32) (x4 : Int32) (x5 : Int32) (x7 : Int32) (x8 : Int32) (x9 : Int32) (x10 : Int32) (d : DD) (dl : LL), St e el d dl → (0 ≤ x1.toInt ∧ x1.toInt ≤ 95) → (0 ≤ x2.toInt ∧ x2.toInt ≤ 3) → (0 ≤ x4.toInt ∧ x4.toInt ≤ 5) → (0 ≤ x5.toInt ∧ x5.toInt ≤ 8) → (1000 ≤ x8.toInt ∧ x8.toInt ≤ 20000) → (1 ≤ x10.toInt ∧ x10.toInt ≤ 2001) → (0 ≤ (d 234 x1.toNatClampNeg).toInt) → 2002 - x10.toInt < (j90 : Int) → K90 x1 x2 x4 x5 x7 x8 x9 x10 d dl) : ∀ (j104 : Nat) (x1 : Int32) (x2 : Int32) (x4 : Int32) (x5 : Int32) (x7 : Int32) (x8 : Int32) (x9 : Int32) (x10 : Int32) (x11 : Int32) (x12 : Int32) (d : DD) (dl : LL), St e el d dl → (0 ≤ x1.toInt ∧ x1.toInt ≤ 95) → (0 ≤ x2.toInt ∧ x2.toInt ≤ 3) → (0 ≤ x4.toInt ∧ x4.toInt ≤ 5) → (0 ≤ x5.toInt ∧ x5.toInt ≤ 8) → (1000 ≤ x8.toInt ∧ x8.toInt ≤ 20000) → (1 ≤ x10.toInt ∧ x10.toInt ≤ 2000) → (0 ≤ x12.toInt ∧ x12.toInt ≤ 8) → (0 ≤ (d 234 x1.toNatClampNeg).toInt) → 2002 - x10.toInt ≤ (j90 : Int) → 9 - x12.toInt < (j104 : Int) → b_X10_goes_104 n Q K90 j104 x1 x2 x4 x5 x7 x8 x9 x10 x11 x12 d dl := by
  intro j104
  induction j104 with
  | zero =>
    intro x1 x2 x4 x5 x7 x8 x9 x10 x11 x12 d dl hS bx1 bx2 bx4 bx5 bx8 bx10 bx12 bi0 hm90 hm104
    exfalso
    omega
  | succ j104 hK104 =>
    intro x1 x2 x4 x5 x7 x8 x9 x10 x11 x12 d dl hS bx1 bx2 bx4 bx5 bx8 bx10 bx12 bi0 hm90 hm104
    show (x5 ≤ x12 → vp_in x4 6 ∧ ∀ v14 : Int32, v14 = (x11 * (d 221 x4.toNatClampNeg)) → (1 ≤ (v14 - x7) → b_X10_goes_182 n Q K90 x1 x2 x4 x5 x7 x8 x9 x10 (v14 - x7) d dl) ∧ (¬ 1 ≤ (v14 - x7) → b_X10_goes_182 n Q K90 x1 x2 x4 x5 x7 x8 x9 x10 1 d dl)) ∧ (¬ x5 ≤ x12 → vp_in (((8 : Int32) * x4) + x12) 48 ∧ vp_in (d 223 (((8 : Int32) * x4) + x12).toNatClampNeg) 40 ∧ vp_in x12 8 ∧ ∀ v42 : Int32, v42 = (x11 + (((d 213 (d 223 (((8 : Int32) * x4) + x12).toNatClampNeg).toNatClampNeg) * (d 246 x12.toNatClampNeg)) / 1000)) → (b_X10_goes_104 n Q K90 j104) x1 x2 x4 x5 x7 x8 x9 x10 v42 (x12 + 1) d dl)
    refine ⟨fun h12 => ?_, fun h12 => ?_⟩
    · have h12 : x5.toInt ≤ x12.toInt := (i_le rfl rfl).mp h12
      have ih13 : vp_in x4 6 := vin rfl (by omega) (by omega)
      refine ⟨ih13, ?_⟩
      intro v14 e14
      have t_27 : v14.toInt = (x11 * (d 221 x4.toNatClampNeg)).toInt := (congrArg Int32.toInt e14).trans rfl
      refine ⟨fun h15 => ?_, fun h15 => ?_⟩
      · have h15 : 1 ≤ (v14 - x7).toInt := (i_le (rfl : (1 : Int32).toInt = 1) rfl).mp h15
        have m_28 := iv_234 hS.1 (x1.toNatClampNeg)
        exact sb_X10_goes_182 hn hQ hK90 _ _ _ _ _ _ _ _ _ _ _ hS (by omega) (by omega) (by omega) (by omega) (by omega) (by omega) (by omega) (by omega)
      · have h15 : ¬ (1 ≤ (v14 - x7).toInt) := fun q => h15 ((i_le (rfl : (1 : Int32).toInt = 1) rfl).mpr q)
        have m_29 := iv_234 hS.1 (x1.toNatClampNeg)
        exact sb_X10_goes_182 hn hQ hK90 _ _ _ _ _ _ _ _ _ _ _ hS (by omega) (by omega) (by omega) (by omega) (by omega) (by omega) (by omega) (by omega)
    · have h12 : ¬ (x5.toInt ≤ x12.toInt) := fun q => h12 ((i_le rfl rfl).mpr q)
      have t_30 : ((8 : Int32) * x4).toInt = 8 * x4.toInt := ti_mul (rfl : (8 : Int32).toInt = 8) rfl (by omega) (by omega)
      have t_31 : (((8 : Int32) * x4) + x12).toInt = (8 * x4.toInt) + x12.toInt := ti_add t_30 rfl (by omega) (by omega)
      have ih39 : vp_in (((8 : Int32) * x4) + x12) 48 := vin t_31 (by omega) (by omega)
      refine ⟨ih39, ?_⟩
      have m_32 := iv_223 hS.1 ((((8 : Int32) * x4) + x12).toNatClampNeg)
      have ih40 : vp_in (d 223 (((8 : Int32) * x4) + x12).toNatClampNeg) 40 := vin rfl (by omega) (by omega)
      refine ⟨ih40, ?_⟩
      have ih41 : vp_in x12 8 := vin rfl (by omega) (by omega)
      refine ⟨ih41, ?_⟩
      intro v42 e42
      have t_33 : v42.toInt = (x11 + (((d 213 (d 223 (((8 : Int32) * x4) + x12).toNatClampNeg).toNatClampNeg) * (d 246 x12.toNatClampNeg)) / 1000)).toInt := (congrArg Int32.toInt e42).trans rfl
      have t_34 : (x12 + 1).toInt = x12.toInt + 1 := ti_add rfl (rfl : (1 : Int32).toInt = 1) (by omega) (by omega)
      have m_35 := iv_234 hS.1 (x1.toNatClampNeg)
      exact hK104 _ _ _ _ _ _ _ _ _ _ _ _ hS (by omega) (by omega) (by omega) (by omega) (by omega) (by omega) (by omega) (by omega) (by omega) (by omega)
set_option maxHeartbeats 4000000 in
set_option maxRecDepth 100000 in
theorem sb_X10_goes_90 {n : Nat} (hn : 1000000000 ≤ n) {e : DD} {el : LL} {Q : Int32 → DD → LL → Prop} (hQ : ∀ (r : Int32) (d2 : DD) (l2 : LL), St e el d2 l2 ∧ (0 ≤ r.toInt ∧ r.toInt ≤ 1) → Q r d2 l2) : ∀ (j90 : Nat) (x1 : Int32) (x2 : Int32) (x4 : Int32) (x5 : Int32) (x7 : Int32) (x8 : Int32) (x9 : Int32) (x10 : Int32) (d : DD) (dl : LL), St e el d dl → (0 ≤ x1.toInt ∧ x1.toInt ≤ 95) → (0 ≤ x2.toInt ∧ x2.toInt ≤ 3) → (0 ≤ x4.toInt ∧ x4.toInt ≤ 5) → (0 ≤ x5.toInt ∧ x5.toInt ≤ 8) → (1000 ≤ x8.toInt ∧ x8.toInt ≤ 20000) → (1 ≤ x10.toInt ∧ x10.toInt ≤ 2001) → (0 ≤ (d 234 x1.toNatClampNeg).toInt) → 2002 - x10.toInt < (j90 : Int) → b_X10_goes_90 n Q j90 x1 x2 x4 x5 x7 x8 x9 x10 d dl := by
  intro j90
  induction j90 with
  | zero =>
    intro x1 x2 x4 x5 x7 x8 x9 x10 d dl hS bx1 bx2 bx4 bx5 bx8 bx10 bi0 hm90
    exfalso
    omega
  | succ j90 hK90 =>
    intro x1 x2 x4 x5 x7 x8 x9 x10 d dl hS bx1 bx2 bx4 bx5 bx8 bx10 bi0 hm90
    show (2000 < x10 → Q 0 d dl) ∧ (¬ 2000 < x10 → b_X10_goes_104 n Q (b_X10_goes_90 n Q j90) n x1 x2 x4 x5 x7 x8 x9 x10 0 0 d dl)
    refine ⟨fun h11 => ?_, fun h11 => ?_⟩
    · have h11 : 2000 < x10.toInt := (i_lt (rfl : (2000 : Int32).toInt = 2000) rfl).mp h11
      exact hQ _ _ _ ⟨hS, (show (0 ≤ 0 ∧ 0 ≤ 1) from by omega)⟩
    · have h11 : ¬ (2000 < x10.toInt) := fun q => h11 ((i_lt (rfl : (2000 : Int32).toInt = 2000) rfl).mpr q)
      have m_36 := iv_234 hS.1 (x1.toNatClampNeg)
      exact sb_X10_goes_104 hn hQ hK90 n _ _ _ _ _ _ _ _ _ _ _ _ hS (by omega) (by omega) (by omega) (by omega) (by omega) (by omega) (show 0 ≤ 0 ∧ 0 ≤ 8 from by omega) (by omega) (by omega) (show 9 - 0 < (n : Int) from by omega)
set_option maxHeartbeats 4000000 in
set_option maxRecDepth 100000 in
theorem sb_X10_goes_76 {n : Nat} (hn : 1000000000 ≤ n) {e : DD} {el : LL} {Q : Int32 → DD → LL → Prop} (hQ : ∀ (r : Int32) (d2 : DD) (l2 : LL), St e el d2 l2 ∧ (0 ≤ r.toInt ∧ r.toInt ≤ 1) → Q r d2 l2) : ∀ (x1 : Int32) (x2 : Int32) (x3 : Int32) (x4 : Int32) (x5 : Int32) (xs0 : Int32) (d : DD) (dl : LL), St e el d dl → (0 ≤ x1.toInt ∧ x1.toInt ≤ 95) → (0 ≤ x2.toInt ∧ x2.toInt ≤ 3) → (100 ≤ x3.toInt ∧ x3.toInt ≤ 2000) → (0 ≤ x4.toInt ∧ x4.toInt ≤ 5) → (0 ≤ x5.toInt ∧ x5.toInt ≤ 8) → (0 ≤ (d 234 x1.toNatClampNeg).toInt) → b_X10_goes_76 n Q x1 x2 x3 x4 x5 xs0 d dl := by
  intro x1 x2 x3 x4 x5 xs0 d dl hS bx1 bx2 bx3 bx4 bx5 bi0
  show ∀ v10 : Int32, v10 = ((10 : Int32) * x3) → b_X10_goes_90 n Q n x1 x2 x4 x5 xs0 v10 0 1 d dl
  have t_37 : ((10 : Int32) * x3).toInt = 10 * x3.toInt := ti_mul (rfl : (10 : Int32).toInt = 10) rfl (by omega) (by omega)
  intro v10 e10
  have t_38 : v10.toInt = (10 * x3.toInt) := (congrArg Int32.toInt e10).trans t_37
  have m_39 := iv_234 hS.1 (x1.toNatClampNeg)
  exact sb_X10_goes_90 hn hQ n _ _ _ _ _ _ _ _ _ _ hS (by omega) (by omega) (by omega) (by omega) (by omega) (show 1 ≤ 1 ∧ 1 ≤ 2001 from by omega) (by omega) (show 2002 - 1 < (n : Int) from by omega)
set_option maxHeartbeats 4000000 in
set_option maxRecDepth 100000 in
theorem sb_X10_goes_22 {n : Nat} (hn : 1000000000 ≤ n) {e : DD} {el : LL} {Q : Int32 → DD → LL → Prop} (hQ : ∀ (r : Int32) (d2 : DD) (l2 : LL), St e el d2 l2 ∧ (0 ≤ r.toInt ∧ r.toInt ≤ 1) → Q r d2 l2) : ∀ (j22 : Nat) (x1 : Int32) (x2 : Int32) (x3 : Int32) (x4 : Int32) (x5 : Int32) (x6 : Int32) (d : DD) (dl : LL), St e el d dl → (0 ≤ x1.toInt ∧ x1.toInt ≤ 95) → (0 ≤ x2.toInt ∧ x2.toInt ≤ 3) → (100 ≤ x3.toInt ∧ x3.toInt ≤ 2000) → (0 ≤ x4.toInt ∧ x4.toInt ≤ 5) → (0 ≤ x5.toInt ∧ x5.toInt ≤ 8) → (0 ≤ x6.toInt ∧ x6.toInt ≤ 8) → (0 ≤ (d 234 x1.toNatClampNeg).toInt) → 9 - x6.toInt < (j22 : Int) → b_X10_goes_22 n Q j22 x1 x2 x3 x4 x5 x6 d dl := by
  intro j22
  induction j22 with
  | zero =>
    intro x1 x2 x3 x4 x5 x6 d dl hS bx1 bx2 bx3 bx4 bx5 bx6 bi0 hm22
    exfalso
    omega
  | succ j22 hK22 =>
    intro x1 x2 x3 x4 x5 x6 d dl hS bx1 bx2 bx3 bx4 bx5 bx6 bi0 hm22
    show (x5 ≤ x6 → F_X10_tilt n x4 223 ((8 : Int32) * x4) d dl (fun r6 d7 l8 => (0 ≤ r6 → b_X10_goes_76 n Q x1 x2 x3 x4 x5 (r6 / 10) d7 l8) ∧ (¬ 0 ≤ r6 → b_X10_goes_76 n Q x1 x2 x3 x4 x5 0 d7 l8))) ∧ (¬ x5 ≤ x6 → vp_in x6 8 ∧ ∀ d44 : DD, d44 = u2 d 246 x6.toNatClampNeg 1000 → (b_X10_goes_22 n Q j22) x1 x2 x3 x4 x5 (x6 + 1) d44 dl)
    refine ⟨fun h5 => ?_, fun h5 => ?_⟩
    · have h5 : x5.toInt ≤ x6.toInt := (i_le rfl rfl).mp h5
      have t_40 : ((8 : Int32) * x4).toInt = 8 * x4.toInt := ti_mul (rfl : (8 : Int32).toInt = 8) rfl (by omega) (by omega)
      refine sp_X10_tilt hn hS.1 ⟨kn_223.1, kn_223.2.1, rfl⟩ ⟨by omega, by omega⟩ ⟨by rw [t_40]; omega, by rw [t_40]; omega⟩ (Or.inr rfl) (by rw [show ln 223 = 48 from rfl]; omega) (fun r6 d7 l8 ⟨p_41, u_42⟩ => ?_)
      have s_43 : St e el d7 l8 := hS.sq p_41
      have w_44 : d7 = d := p_41.2.1
      refine ⟨fun h9 => ?_, fun h9 => ?_⟩
      · have h9 : 0 ≤ r6.toInt := (i_le (rfl : (0 : Int32).toInt = 0) rfl).mp h9
        have t_45 : (r6 / 10).toInt = r6.toInt / 10 := ti_div rfl (rfl : (10 : Int32).toInt = 10) (by omega) (by omega)
        have q_46 : d7 234 x1.toNatClampNeg = (d 234 x1.toNatClampNeg) := by rw [w_44]
        have m_47 := iv_234 hS.1 (x1.toNatClampNeg)
        have t_48 : (d7 234 x1.toNatClampNeg).toInt = (d 234 x1.toNatClampNeg).toInt := (congrArg Int32.toInt q_46).trans rfl
        exact sb_X10_goes_76 hn hQ _ _ _ _ _ _ _ _ s_43 (by omega) (by omega) (by omega) (by omega) (by omega) (by omega)
      · have h9 : ¬ (0 ≤ r6.toInt) := fun q => h9 ((i_le (rfl : (0 : Int32).toInt = 0) rfl).mpr q)
        have q_49 : d7 234 x1.toNatClampNeg = (d 234 x1.toNatClampNeg) := by rw [w_44]
        have m_50 := iv_234 hS.1 (x1.toNatClampNeg)
        have t_51 : (d7 234 x1.toNatClampNeg).toInt = (d 234 x1.toNatClampNeg).toInt := (congrArg Int32.toInt q_49).trans rfl
        exact sb_X10_goes_76 hn hQ _ _ _ _ _ _ _ _ s_43 (by omega) (by omega) (by omega) (by omega) (by omega) (by omega)
    · have h5 : ¬ (x5.toInt ≤ x6.toInt) := fun q => h5 ((i_le rfl rfl).mpr q)
      have ih43 : vp_in x6 8 := vin rfl (by omega) (by omega)
      refine ⟨ih43, ?_⟩
      intro d44 ed44
      have s_52 : St e el d44 dl := by rw [ed44]; exact pv_246 hS
      have t_53 : (x6 + 1).toInt = x6.toInt + 1 := ti_add rfl (rfl : (1 : Int32).toInt = 1) (by omega) (by omega)
      have q_54 : d44 234 x1.toNatClampNeg = (d 234 x1.toNatClampNeg) := by rw [ed44, u2_row (by omega)]
      have m_55 := iv_234 hS.1 (x1.toNatClampNeg)
      have t_56 : (d44 234 x1.toNatClampNeg).toInt = (d 234 x1.toNatClampNeg).toInt := (congrArg Int32.toInt q_54).trans rfl
      exact hK22 _ _ _ _ _ _ _ _ s_52 (by omega) (by omega) (by omega) (by omega) (by omega) (by omega) (by omega) (by omega)
