set_option maxHeartbeats 4000000 in
set_option maxRecDepth 100000 in
theorem sp_X10_goes {n : Nat} (hn : 1000000000 ≤ n) {x1 : Int32} {x2 : Int32} {x3 : Int32} {d : DD} {dl : LL} (hI : Inv d) (bx1 : 0 ≤ x1.toInt ∧ x1.toInt ≤ 95) (bx2 : 0 ≤ x2.toInt ∧ x2.toInt ≤ 3) (bx3 : 100 ≤ x3.toInt ∧ x3.toInt ≤ 2000) (hgo : 0 ≤ (d 234 x1.toNatClampNeg).toInt) {Q : Int32 → DD → LL → Prop} (hQ : ∀ (r : Int32) (d2 : DD) (l2 : LL), St d dl d2 l2 ∧ (0 ≤ r.toInt ∧ r.toInt ≤ 1) → Q r d2 l2) : F_X10_goes n x1 x2 x3 d dl Q := by
  obtain ⟨e, he⟩ : ∃ e : DD, e = d := ⟨_, rfl⟩
  obtain ⟨el, hel⟩ : ∃ el : LL, el = dl := ⟨_, rfl⟩
  have hS : St e el d dl := by rw [he, hel]; exact St.rf hI
  rw [← he, ← hel] at hQ
  show vp_in x1 96 ∧ ∀ v2 : Int32, v2 = (d 234 x1.toNatClampNeg) → vp_in v2 6 ∧ ∀ v4 : Int32, v4 = ((2 : Int32) * (d 218 v2.toNatClampNeg)) → b_X10_goes_22 n Q n x1 x2 x3 v2 v4 0 d dl
  have ih1 : vp_in x1 96 := vin rfl (by omega) (by omega)
  refine ⟨ih1, ?_⟩
  have m_57 := iv_234 hS.1 (x1.toNatClampNeg)
  intro v2 e2
  have t_58 : v2.toInt = (d 234 x1.toNatClampNeg).toInt := (congrArg Int32.toInt e2).trans rfl
  have ih3 : vp_in v2 6 := vin t_58 (by omega) (by omega)
  refine ⟨ih3, ?_⟩
  have m_59 := iv_218 hS.1 (v2.toNatClampNeg)
  have t_60 : ((2 : Int32) * (d 218 v2.toNatClampNeg)).toInt = 2 * (d 218 v2.toNatClampNeg).toInt := ti_mul (rfl : (2 : Int32).toInt = 2) rfl (by omega) (by omega)
  intro v4 e4
  have t_61 : v4.toInt = (2 * (d 218 v2.toNatClampNeg).toInt) := (congrArg Int32.toInt e4).trans t_60
  exact sb_X10_goes_22 hn hQ n _ _ _ _ _ _ _ _ hS (by omega) (by omega) (by omega) (by omega) (by omega) (show 0 ≤ 0 ∧ 0 ≤ 8 from by omega) (by omega) (show 9 - 0 < (n : Int) from by omega)
set_option maxHeartbeats 4000000 in
set_option maxRecDepth 100000 in
theorem sb_X10_run_79 {n : Nat} (hn : 1000000000 ≤ n) {e : DD} {el : LL} {Q : Int32 → DD → LL → Prop} (hQ : ∀ (r : Int32) (d2 : DD) (l2 : LL), St e el d2 l2 ∧ (True) → Q r d2 l2) : ∀ (j79 : Nat) (x1 : Int32) (x2 : Int32) (x3 : Int32) (x4 : Int32) (d : DD) (dl : LL), St e el d dl → (0 ≤ x1.toInt ∧ x1.toInt ≤ 23) → (100 ≤ x2.toInt ∧ x2.toInt ≤ 2000) → (0 ≤ x4.toInt ∧ x4.toInt ≤ 4) → 5 - x4.toInt < (j79 : Int) → b_X10_run_79 n Q j79 x1 x2 x3 x4 d dl := by
  intro j79
  induction j79 with
  | zero =>
    intro x1 x2 x3 x4 d dl hS bx1 bx2 bx4 hm79
    exfalso
    omega
  | succ j79 hK79 =>
    intro x1 x2 x3 x4 d dl hS bx1 bx2 bx4 hm79
    show (4 ≤ x4 → Q x3 d dl) ∧ (¬ 4 ≤ x4 → ∀ v13 : Int32, v13 = (((4 : Int32) * x1) + x4) → vp_in v13 96 ∧ ((d 234 v13.toNatClampNeg) = (-1) → (b_X10_run_79 n Q j79) x1 x2 x3 (x4 + 1) d dl) ∧ (¬ (d 234 v13.toNatClampNeg) = (-1) → vp_in v13 96 ∧ (¬ (d 237 v13.toNatClampNeg) = 0 → (b_X10_run_79 n Q j79) x1 x2 x3 (x4 + 1) d dl) ∧ ((d 237 v13.toNatClampNeg) = 0 → vp_in v13 96 ∧ vp_in (d 234 v13.toNatClampNeg) 6 ∧ ((d 224 (d 234 v13.toNatClampNeg).toNatClampNeg) = 0 → (b_X10_run_79 n Q j79) x1 x2 x3 (x4 + 1) d dl) ∧ (¬ (d 224 (d 234 v13.toNatClampNeg).toNatClampNeg) = 0 → F_X10_goes n v13 x4 x2 d dl (fun r21 d22 l23 => (r21 = 0 → (b_X10_run_79 n Q j79) x1 x2 x3 (x4 + 1) d22 l23) ∧ (¬ r21 = 0 → (b_X10_run_79 n Q j79) x1 x2 (x3 + 1) (x4 + 1) d22 l23))))))
    refine ⟨fun h12 => ?_, fun h12 => ?_⟩
    · have h12 : 4 ≤ x4.toInt := (i_le (rfl : (4 : Int32).toInt = 4) rfl).mp h12
      exact hQ _ _ _ ⟨hS, trivial⟩
    · have h12 : ¬ (4 ≤ x4.toInt) := fun q => h12 ((i_le (rfl : (4 : Int32).toInt = 4) rfl).mpr q)
      have t_1 : ((4 : Int32) * x1).toInt = 4 * x1.toInt := ti_mul (rfl : (4 : Int32).toInt = 4) rfl (by omega) (by omega)
      have t_2 : (((4 : Int32) * x1) + x4).toInt = (4 * x1.toInt) + x4.toInt := ti_add t_1 rfl (by omega) (by omega)
      intro v13 e13
      have t_3 : v13.toInt = ((4 * x1.toInt) + x4.toInt) := (congrArg Int32.toInt e13).trans t_2
      have ih14 : vp_in v13 96 := vin t_3 (by omega) (by omega)
      refine ⟨ih14, ?_⟩
      have m_4 := iv_234 hS.1 (v13.toNatClampNeg)
      refine ⟨fun h15 => ?_, fun h15 => ?_⟩
      · have h15 : (d 234 v13.toNatClampNeg).toInt = (-1) := (i_eq rfl (rfl : ((-1) : Int32).toInt = (-1))).mp h15
        have t_5 : (x4 + 1).toInt = x4.toInt + 1 := ti_add rfl (rfl : (1 : Int32).toInt = 1) (by omega) (by omega)
        exact hK79 _ _ _ _ _ _ hS (by omega) (by omega) (by omega) (by omega)
      · have h15 : ¬ ((d 234 v13.toNatClampNeg).toInt = (-1)) := fun q => h15 ((i_eq rfl (rfl : ((-1) : Int32).toInt = (-1))).mpr q)
        have ih16 : vp_in v13 96 := vin t_3 (by omega) (by omega)
        refine ⟨ih16, ?_⟩
        have m_6 := iv_237 hS.1 (v13.toNatClampNeg)
        refine ⟨fun h17 => ?_, fun h17 => ?_⟩
        · have h17 : ¬ ((d 237 v13.toNatClampNeg).toInt = 0) := fun q => h17 ((i_eq rfl (rfl : (0 : Int32).toInt = 0)).mpr q)
          have t_7 : (x4 + 1).toInt = x4.toInt + 1 := ti_add rfl (rfl : (1 : Int32).toInt = 1) (by omega) (by omega)
          exact hK79 _ _ _ _ _ _ hS (by omega) (by omega) (by omega) (by omega)
        · have h17 : (d 237 v13.toNatClampNeg).toInt = 0 := (i_eq rfl (rfl : (0 : Int32).toInt = 0)).mp h17
          have ih18 : vp_in v13 96 := vin t_3 (by omega) (by omega)
          refine ⟨ih18, ?_⟩
          have ih19 : vp_in (d 234 v13.toNatClampNeg) 6 := vin rfl (by omega) (by omega)
          refine ⟨ih19, ?_⟩
          have m_8 := iv_224 hS.1 ((d 234 v13.toNatClampNeg).toNatClampNeg)
          refine ⟨fun h20 => ?_, fun h20 => ?_⟩
          · have h20 : (d 224 (d 234 v13.toNatClampNeg).toNatClampNeg).toInt = 0 := (i_eq rfl (rfl : (0 : Int32).toInt = 0)).mp h20
            have t_9 : (x4 + 1).toInt = x4.toInt + 1 := ti_add rfl (rfl : (1 : Int32).toInt = 1) (by omega) (by omega)
            exact hK79 _ _ _ _ _ _ hS (by omega) (by omega) (by omega) (by omega)
          · have h20 : ¬ ((d 224 (d 234 v13.toNatClampNeg).toNatClampNeg).toInt = 0) := fun q => h20 ((i_eq rfl (rfl : (0 : Int32).toInt = 0)).mpr q)
            refine sp_X10_goes hn hS.1 ⟨by rw [t_3]; omega, by rw [t_3]; omega⟩ ⟨by omega, by omega⟩ ⟨by omega, by omega⟩ (by omega) (fun r21 d22 l23 ⟨p_10, u_11⟩ => ?_)
            have s_12 : St e el d22 l23 := hS.tr p_10
            replace u_11 : (0 ≤ r21.toInt ∧ r21.toInt ≤ 1) := u_11
            refine ⟨fun h24 => ?_, fun h24 => ?_⟩
            · have h24 : r21.toInt = 0 := (i_eq rfl (rfl : (0 : Int32).toInt = 0)).mp h24
              have t_13 : (x4 + 1).toInt = x4.toInt + 1 := ti_add rfl (rfl : (1 : Int32).toInt = 1) (by omega) (by omega)
              exact hK79 _ _ _ _ _ _ s_12 (by omega) (by omega) (by omega) (by omega)
            · have h24 : ¬ (r21.toInt = 0) := fun q => h24 ((i_eq rfl (rfl : (0 : Int32).toInt = 0)).mpr q)
              have t_14 : (x4 + 1).toInt = x4.toInt + 1 := ti_add rfl (rfl : (1 : Int32).toInt = 1) (by omega) (by omega)
              exact hK79 _ _ _ _ _ _ s_12 (by omega) (by omega) (by omega) (by omega)
set_option maxHeartbeats 4000000 in
set_option maxRecDepth 100000 in
theorem sb_X10_run_28 {n : Nat} (hn : 1000000000 ≤ n) {e : DD} {el : LL} {Q : Int32 → DD → LL → Prop} (hQ : ∀ (r : Int32) (d2 : DD) (l2 : LL), St e el d2 l2 ∧ (True) → Q r d2 l2) : ∀ (j28 : Nat) (x1 : Int32) (x2 : Int32) (x3 : Int32) (d : DD) (dl : LL), St e el d dl → (0 ≤ x1.toInt ∧ x1.toInt ≤ 23) → (100 ≤ x2.toInt ∧ x2.toInt ≤ 2000) → (0 ≤ x3.toInt ∧ x3.toInt ≤ 4) → 5 - x3.toInt < (j28 : Int) → b_X10_run_28 n Q j28 x1 x2 x3 d dl := by
  intro j28
  induction j28 with
  | zero =>
    intro x1 x2 x3 d dl hS bx1 bx2 bx3 hm28
    exfalso
    omega
  | succ j28 hK28 =>
    intro x1 x2 x3 d dl hS bx1 bx2 bx3 hm28
    show (4 ≤ x3 → vp_in x1 24 ∧ ((d 238 x1.toNatClampNeg) = 0 → vp_in x1 24 ∧ ∀ d11 : DD, d11 = u2 d 238 x1.toNatClampNeg (vp_nar .boolean 1) → b_X10_run_79 n Q n x1 x2 0 0 d11 dl) ∧ (¬ (d 238 x1.toNatClampNeg) = 0 → Q (-3) d dl)) ∧ (¬ 4 ≤ x3 → vp_in (((4 : Int32) * x1) + x3) 96 ∧ ((d 235 (((4 : Int32) * x1) + x3).toNatClampNeg) ≤ 0 → (b_X10_run_28 n Q j28) x1 x2 (x3 + 1) d dl) ∧ (¬ (d 235 (((4 : Int32) * x1) + x3).toNatClampNeg) ≤ 0 → Q (-3) d dl))
    refine ⟨fun h7 => ?_, fun h7 => ?_⟩
    · have h7 : 4 ≤ x3.toInt := (i_le (rfl : (4 : Int32).toInt = 4) rfl).mp h7
      have ih8 : vp_in x1 24 := vin rfl (by omega) (by omega)
      refine ⟨ih8, ?_⟩
      have m_15 := iv_238 hS.1 (x1.toNatClampNeg)
      refine ⟨fun h9 => ?_, fun h9 => ?_⟩
      · have h9 : (d 238 x1.toNatClampNeg).toInt = 0 := (i_eq rfl (rfl : (0 : Int32).toInt = 0)).mp h9
        have ih10 : vp_in x1 24 := vin rfl (by omega) (by omega)
        refine ⟨ih10, ?_⟩
        intro d11 ed11
        have s_16 : St e el d11 dl := by rw [ed11]; exact pv_238 hS (vn_in _).1 (vn_in _).2
        exact sb_X10_run_79 hn hQ n _ _ _ _ _ _ s_16 (by omega) (by omega) (show 0 ≤ 0 ∧ 0 ≤ 4 from by omega) (show 5 - 0 < (n : Int) from by omega)
      · have h9 : ¬ ((d 238 x1.toNatClampNeg).toInt = 0) := fun q => h9 ((i_eq rfl (rfl : (0 : Int32).toInt = 0)).mpr q)
        exact hQ _ _ _ ⟨hS, trivial⟩
    · have h7 : ¬ (4 ≤ x3.toInt) := fun q => h7 ((i_le (rfl : (4 : Int32).toInt = 4) rfl).mpr q)
      have t_17 : ((4 : Int32) * x1).toInt = 4 * x1.toInt := ti_mul (rfl : (4 : Int32).toInt = 4) rfl (by omega) (by omega)
      have t_18 : (((4 : Int32) * x1) + x3).toInt = (4 * x1.toInt) + x3.toInt := ti_add t_17 rfl (by omega) (by omega)
      have ih25 : vp_in (((4 : Int32) * x1) + x3) 96 := vin t_18 (by omega) (by omega)
      refine ⟨ih25, ?_⟩
      refine ⟨fun h26 => ?_, fun h26 => ?_⟩
      · have h26 : (d 235 (((4 : Int32) * x1) + x3).toNatClampNeg).toInt ≤ 0 := (i_le rfl (rfl : (0 : Int32).toInt = 0)).mp h26
        have t_19 : (x3 + 1).toInt = x3.toInt + 1 := ti_add rfl (rfl : (1 : Int32).toInt = 1) (by omega) (by omega)
        exact hK28 _ _ _ _ _ hS (by omega) (by omega) (by omega) (by omega)
      · have h26 : ¬ ((d 235 (((4 : Int32) * x1) + x3).toNatClampNeg).toInt ≤ 0) := fun q => h26 ((i_le rfl (rfl : (0 : Int32).toInt = 0)).mpr q)
        exact hQ _ _ _ ⟨hS, trivial⟩
set_option maxHeartbeats 4000000 in
set_option maxRecDepth 100000 in
theorem sp_X10_run {n : Nat} (hn : 1000000000 ≤ n) {x1 : Int32} {x2 : Int32} {d : DD} {dl : LL} (hI : Inv d) {Q : Int32 → DD → LL → Prop} (hQ : ∀ (r : Int32) (d2 : DD) (l2 : LL), St d dl d2 l2 ∧ (True) → Q r d2 l2) : F_X10_run n x1 x2 d dl Q := by
  obtain ⟨e, he⟩ : ∃ e : DD, e = d := ⟨_, rfl⟩
  obtain ⟨el, hel⟩ : ∃ el : LL, el = dl := ⟨_, rfl⟩
  have hS : St e el d dl := by rw [he, hel]; exact St.rf hI
  rw [← he, ← hel] at hQ
  show F_X10_isRace n x1 d dl (fun r1 d2 l3 => (¬ r1 = 0 → (x2 < 100 → Q (-2) d2 l3) ∧ (¬ x2 < 100 → (x2 ≤ 2000 → b_X10_run_28 n Q n x1 x2 0 d2 l3) ∧ (¬ x2 ≤ 2000 → Q (-2) d2 l3))) ∧ (r1 = 0 → Q (-1) d2 l3))
  refine sp_X10_isRace hn hS.1 (fun r1 d2 l3 ⟨p_20, u_21⟩ => ?_)
  have s_22 : St e el d2 l3 := hS.sq p_20
  have w_23 : d2 = d := p_20.2.1
  replace u_21 : (0 ≤ r1.toInt ∧ r1.toInt ≤ 1 ∧ ((r1.toInt = 1 ∧ 0 ≤ x1.toInt ∧ x1.toInt < (d 211 3).toInt) ∨ (r1.toInt = 0 ∧ ¬ (0 ≤ x1.toInt ∧ x1.toInt < (d 211 3).toInt)))) := u_21
  have m_24 := iv_211_3 hS.1
  refine ⟨fun h4 => ?_, fun h4 => ?_⟩
  · have h4 : ¬ (r1.toInt = 0) := fun q => h4 ((i_eq rfl (rfl : (0 : Int32).toInt = 0)).mpr q)
    refine ⟨fun h5 => ?_, fun h5 => ?_⟩
    · have h5 : x2.toInt < 100 := (i_lt rfl (rfl : (100 : Int32).toInt = 100)).mp h5
      exact hQ _ _ _ ⟨s_22, trivial⟩
    · have h5 : ¬ (x2.toInt < 100) := fun q => h5 ((i_lt rfl (rfl : (100 : Int32).toInt = 100)).mpr q)
      refine ⟨fun h6 => ?_, fun h6 => ?_⟩
      · have h6 : x2.toInt ≤ 2000 := (i_le rfl (rfl : (2000 : Int32).toInt = 2000)).mp h6
        exact sb_X10_run_28 hn hQ n _ _ _ _ _ s_22 (by omega) (by omega) (show 0 ≤ 0 ∧ 0 ≤ 4 from by omega) (show 5 - 0 < (n : Int) from by omega)
      · have h6 : ¬ (x2.toInt ≤ 2000) := fun q => h6 ((i_le rfl (rfl : (2000 : Int32).toInt = 2000)).mpr q)
        exact hQ _ _ _ ⟨s_22, trivial⟩
  · have h4 : r1.toInt = 0 := (i_eq rfl (rfl : (0 : Int32).toInt = 0)).mp h4
    exact hQ _ _ _ ⟨s_22, trivial⟩
set_option maxHeartbeats 4000000 in
set_option maxRecDepth 100000 in
theorem sp_X10_isIn {n : Nat} (hn : 1000000000 ≤ n) {x1 : Int32} {x2 : Int32} {d : DD} {dl : LL} (hI : Inv d) {Q : Int32 → DD → LL → Prop} (hQ : ∀ (r : Int32) (d2 : DD) (l2 : LL), Sq d dl d2 l2 ∧ (0 ≤ r.toInt ∧ r.toInt ≤ 1 ∧ (r.toInt = 0 ∨ (0 ≤ x1.toInt ∧ x1.toInt < (d 211 3).toInt ∧ 0 ≤ x2.toInt ∧ x2.toInt ≤ 3 ∧ 0 ≤ (d 234 (((4 : Int32) * x1) + x2).toNatClampNeg).toInt))) → Q r d2 l2) : F_X10_isIn n x1 x2 d dl Q := by
  obtain ⟨e, he⟩ : ∃ e : DD, e = d := ⟨_, rfl⟩
  obtain ⟨el, hel⟩ : ∃ el : LL, el = dl := ⟨_, rfl⟩
  have hS : Sq e el d dl := by rw [he, hel]; exact Sq.rf hI
  rw [← he, ← hel] at hQ
  show F_X10_isRace n x1 d dl (fun r1 d2 l3 => (r1 = 0 → Q 0 d2 l3) ∧ (¬ r1 = 0 → (x2 < 0 → Q 0 d2 l3) ∧ (¬ x2 < 0 → (4 ≤ x2 → Q 0 d2 l3) ∧ (¬ 4 ≤ x2 → vp_in (((4 : Int32) * x1) + x2) 96 ∧ ((d2 234 (((4 : Int32) * x1) + x2).toNatClampNeg) = (-1) → Q 0 d2 l3) ∧ (¬ (d2 234 (((4 : Int32) * x1) + x2).toNatClampNeg) = (-1) → Q 1 d2 l3)))))
  have hx0 : (e 211 3).toInt = (d 211 3).toInt := by rw [he]
  have hx1 : (e 234 (((4 : Int32) * x1) + x2).toNatClampNeg).toInt = (d 234 (((4 : Int32) * x1) + x2).toNatClampNeg).toInt := by rw [he]
  refine sp_X10_isRace hn hS.1 (fun r1 d2 l3 ⟨p_1, u_2⟩ => ?_)
  have s_3 : Sq e el d2 l3 := hS.tr p_1
  have w_4 : d2 = d := p_1.2.1
  replace u_2 : (0 ≤ r1.toInt ∧ r1.toInt ≤ 1 ∧ ((r1.toInt = 1 ∧ 0 ≤ x1.toInt ∧ x1.toInt < (d 211 3).toInt) ∨ (r1.toInt = 0 ∧ ¬ (0 ≤ x1.toInt ∧ x1.toInt < (d 211 3).toInt)))) := u_2
  have m_5 := iv_211_3 hS.1
  refine ⟨fun h4 => ?_, fun h4 => ?_⟩
  · have h4 : r1.toInt = 0 := (i_eq rfl (rfl : (0 : Int32).toInt = 0)).mp h4
    exact hQ _ _ _ ⟨s_3, (show (0 ≤ 0 ∧ 0 ≤ 1 ∧ (0 = 0 ∨ (0 ≤ x1.toInt ∧ x1.toInt < (e 211 3).toInt ∧ 0 ≤ x2.toInt ∧ x2.toInt ≤ 3 ∧ 0 ≤ (e 234 (((4 : Int32) * x1) + x2).toNatClampNeg).toInt))) from by omega)⟩
  · have h4 : ¬ (r1.toInt = 0) := fun q => h4 ((i_eq rfl (rfl : (0 : Int32).toInt = 0)).mpr q)
    refine ⟨fun h5 => ?_, fun h5 => ?_⟩
    · have h5 : x2.toInt < 0 := (i_lt rfl (rfl : (0 : Int32).toInt = 0)).mp h5
      exact hQ _ _ _ ⟨s_3, (show (0 ≤ 0 ∧ 0 ≤ 1 ∧ (0 = 0 ∨ (0 ≤ x1.toInt ∧ x1.toInt < (e 211 3).toInt ∧ 0 ≤ x2.toInt ∧ x2.toInt ≤ 3 ∧ 0 ≤ (e 234 (((4 : Int32) * x1) + x2).toNatClampNeg).toInt))) from by omega)⟩
    · have h5 : ¬ (x2.toInt < 0) := fun q => h5 ((i_lt rfl (rfl : (0 : Int32).toInt = 0)).mpr q)
      refine ⟨fun h6 => ?_, fun h6 => ?_⟩
      · have h6 : 4 ≤ x2.toInt := (i_le (rfl : (4 : Int32).toInt = 4) rfl).mp h6
        exact hQ _ _ _ ⟨s_3, (show (0 ≤ 0 ∧ 0 ≤ 1 ∧ (0 = 0 ∨ (0 ≤ x1.toInt ∧ x1.toInt < (e 211 3).toInt ∧ 0 ≤ x2.toInt ∧ x2.toInt ≤ 3 ∧ 0 ≤ (e 234 (((4 : Int32) * x1) + x2).toNatClampNeg).toInt))) from by omega)⟩
      · have h6 : ¬ (4 ≤ x2.toInt) := fun q => h6 ((i_le (rfl : (4 : Int32).toInt = 4) rfl).mpr q)
        have t_6 : ((4 : Int32) * x1).toInt = 4 * x1.toInt := ti_mul (rfl : (4 : Int32).toInt = 4) rfl (by omega) (by omega)
        have t_7 : (((4 : Int32) * x1) + x2).toInt = (4 * x1.toInt) + x2.toInt := ti_add t_6 rfl (by omega) (by omega)
        have ih7 : vp_in (((4 : Int32) * x1) + x2) 96 := vin t_7 (by omega) (by omega)
        refine ⟨ih7, ?_⟩
        have q_8 : d2 234 (((4 : Int32) * x1) + x2).toNatClampNeg = (d 234 (((4 : Int32) * x1) + x2).toNatClampNeg) := by rw [w_4]
        have m_9 := iv_234 hS.1 ((((4 : Int32) * x1) + x2).toNatClampNeg)
        have t_10 : (d2 234 (((4 : Int32) * x1) + x2).toNatClampNeg).toInt = (d 234 (((4 : Int32) * x1) + x2).toNatClampNeg).toInt := (congrArg Int32.toInt q_8).trans rfl
        refine ⟨fun h8 => ?_, fun h8 => ?_⟩
        · have h8 : (d 234 (((4 : Int32) * x1) + x2).toNatClampNeg).toInt = (-1) := (i_eq t_10 (rfl : ((-1) : Int32).toInt = (-1))).mp h8
          exact hQ _ _ _ ⟨s_3, (show (0 ≤ 0 ∧ 0 ≤ 1 ∧ (0 = 0 ∨ (0 ≤ x1.toInt ∧ x1.toInt < (e 211 3).toInt ∧ 0 ≤ x2.toInt ∧ x2.toInt ≤ 3 ∧ 0 ≤ (e 234 (((4 : Int32) * x1) + x2).toNatClampNeg).toInt))) from by omega)⟩
        · have h8 : ¬ ((d 234 (((4 : Int32) * x1) + x2).toNatClampNeg).toInt = (-1)) := fun q => h8 ((i_eq t_10 (rfl : ((-1) : Int32).toInt = (-1))).mpr q)
          exact hQ _ _ _ ⟨s_3, (show (0 ≤ 1 ∧ 1 ≤ 1 ∧ (1 = 0 ∨ (0 ≤ x1.toInt ∧ x1.toInt < (e 211 3).toInt ∧ 0 ≤ x2.toInt ∧ x2.toInt ≤ 3 ∧ 0 ≤ (e 234 (((4 : Int32) * x1) + x2).toNatClampNeg).toInt))) from by omega)⟩
set_option maxHeartbeats 4000000 in
set_option maxRecDepth 100000 in
theorem sp_X10_time {n : Nat} (hn : 1000000000 ≤ n) {x1 : Int32} {x2 : Int32} {x3 : Int32} {d : DD} {dl : LL} (hI : Inv d) {Q : Int32 → DD → LL → Prop} (hQ : ∀ (r : Int32) (d2 : DD) (l2 : LL), St d dl d2 l2 ∧ (True) → Q r d2 l2) : F_X10_time n x1 x2 x3 d dl Q := by
  obtain ⟨e, he⟩ : ∃ e : DD, e = d := ⟨_, rfl⟩
  obtain ⟨el, hel⟩ : ∃ el : LL, el = dl := ⟨_, rfl⟩
  have hS : St e el d dl := by rw [he, hel]; exact St.rf hI
  rw [← he, ← hel] at hQ
  show F_X10_isIn n x1 x2 d dl (fun r1 d2 l3 => (¬ r1 = 0 → (x3 < 0 → Q (-2) d2 l3) ∧ (¬ x3 < 0 → (x3 ≤ 99999 → vp_in (((4 : Int32) * x1) + x2) 96 ∧ ((d2 237 (((4 : Int32) * x1) + x2).toNatClampNeg) = 0 → vp_in (((4 : Int32) * x1) + x2) 96 ∧ ∀ v10 : Int32, v10 = (d2 235 (((4 : Int32) * x1) + x2).toNatClampNeg) → vp_in (((4 : Int32) * x1) + x2) 96 ∧ ∀ d12 : DD, d12 = u2 d2 235 (((4 : Int32) * x1) + x2).toNatClampNeg x3 → Q v10 d12 l3) ∧ (¬ (d2 237 (((4 : Int32) * x1) + x2).toNatClampNeg) = 0 → Q (-3) d2 l3)) ∧ (¬ x3 ≤ 99999 → Q (-2) d2 l3))) ∧ (r1 = 0 → Q (-1) d2 l3))
  refine sp_X10_isIn hn hS.1 (fun r1 d2 l3 ⟨p_1, u_2⟩ => ?_)
  have s_3 : St e el d2 l3 := hS.sq p_1
  have w_4 : d2 = d := p_1.2.1
  replace u_2 : (0 ≤ r1.toInt ∧ r1.toInt ≤ 1 ∧ (r1.toInt = 0 ∨ (0 ≤ x1.toInt ∧ x1.toInt < (d 211 3).toInt ∧ 0 ≤ x2.toInt ∧ x2.toInt ≤ 3 ∧ 0 ≤ (d 234 (((4 : Int32) * x1) + x2).toNatClampNeg).toInt))) := u_2
  have m_5 := iv_211_3 hS.1
  refine ⟨fun h4 => ?_, fun h4 => ?_⟩
  · have h4 : ¬ (r1.toInt = 0) := fun q => h4 ((i_eq rfl (rfl : (0 : Int32).toInt = 0)).mpr q)
    refine ⟨fun h5 => ?_, fun h5 => ?_⟩
    · have h5 : x3.toInt < 0 := (i_lt rfl (rfl : (0 : Int32).toInt = 0)).mp h5
      exact hQ _ _ _ ⟨s_3, trivial⟩
    · have h5 : ¬ (x3.toInt < 0) := fun q => h5 ((i_lt rfl (rfl : (0 : Int32).toInt = 0)).mpr q)
      refine ⟨fun h6 => ?_, fun h6 => ?_⟩
      · have h6 : x3.toInt ≤ 99999 := (i_le rfl (rfl : (99999 : Int32).toInt = 99999)).mp h6
        have t_6 : ((4 : Int32) * x1).toInt = 4 * x1.toInt := ti_mul (rfl : (4 : Int32).toInt = 4) rfl (by omega) (by omega)
        have t_7 : (((4 : Int32) * x1) + x2).toInt = (4 * x1.toInt) + x2.toInt := ti_add t_6 rfl (by omega) (by omega)
        have ih7 : vp_in (((4 : Int32) * x1) + x2) 96 := vin t_7 (by omega) (by omega)
        refine ⟨ih7, ?_⟩
        have q_8 : d2 237 (((4 : Int32) * x1) + x2).toNatClampNeg = (d 237 (((4 : Int32) * x1) + x2).toNatClampNeg) := by rw [w_4]
        have m_9 := iv_237 hS.1 ((((4 : Int32) * x1) + x2).toNatClampNeg)
        have t_10 : (d2 237 (((4 : Int32) * x1) + x2).toNatClampNeg).toInt = (d 237 (((4 : Int32) * x1) + x2).toNatClampNeg).toInt := (congrArg Int32.toInt q_8).trans rfl
        refine ⟨fun h8 => ?_, fun h8 => ?_⟩
        · have h8 : (d 237 (((4 : Int32) * x1) + x2).toNatClampNeg).toInt = 0 := (i_eq t_10 (rfl : (0 : Int32).toInt = 0)).mp h8
          have ih9 : vp_in (((4 : Int32) * x1) + x2) 96 := vin t_7 (by omega) (by omega)
          refine ⟨ih9, ?_⟩
          have q_11 : d2 235 (((4 : Int32) * x1) + x2).toNatClampNeg = (d 235 (((4 : Int32) * x1) + x2).toNatClampNeg) := by rw [w_4]
          have t_12 : (d2 235 (((4 : Int32) * x1) + x2).toNatClampNeg).toInt = (d 235 (((4 : Int32) * x1) + x2).toNatClampNeg).toInt := (congrArg Int32.toInt q_11).trans rfl
          intro v10 e10
          have t_13 : v10.toInt = (d 235 (((4 : Int32) * x1) + x2).toNatClampNeg).toInt := (congrArg Int32.toInt e10).trans t_12
          have ih11 : vp_in (((4 : Int32) * x1) + x2) 96 := vin t_7 (by omega) (by omega)
          refine ⟨ih11, ?_⟩
          have q_14 : d2 234 (((4 : Int32) * x1) + x2).toNatClampNeg = (d 234 (((4 : Int32) * x1) + x2).toNatClampNeg) := by rw [w_4]
          have m_15 := iv_234 hS.1 ((((4 : Int32) * x1) + x2).toNatClampNeg)
          have t_16 : (d2 234 (((4 : Int32) * x1) + x2).toNatClampNeg).toInt = (d 234 (((4 : Int32) * x1) + x2).toNatClampNeg).toInt := (congrArg Int32.toInt q_14).trans rfl
          intro d12 ed12
          have s_17 : St e el d12 l3 := by rw [ed12]; exact pv_235 s_3 (Or.inr (by omega))
          exact hQ _ _ _ ⟨s_17, trivial⟩
        · have h8 : ¬ ((d 237 (((4 : Int32) * x1) + x2).toNatClampNeg).toInt = 0) := fun q => h8 ((i_eq t_10 (rfl : (0 : Int32).toInt = 0)).mpr q)
          exact hQ _ _ _ ⟨s_3, trivial⟩
      · have h6 : ¬ (x3.toInt ≤ 99999) := fun q => h6 ((i_le rfl (rfl : (99999 : Int32).toInt = 99999)).mpr q)
        exact hQ _ _ _ ⟨s_3, trivial⟩
  · have h4 : r1.toInt = 0 := (i_eq rfl (rfl : (0 : Int32).toInt = 0)).mp h4
    exact hQ _ _ _ ⟨s_3, trivial⟩
set_option maxHeartbeats 4000000 in
set_option maxRecDepth 100000 in
theorem sb_X10_place_23 {n : Nat} (hn : 1000000000 ≤ n) {e : DD} {el : LL} {Q : Int32 → DD → LL → Prop} (hQ : ∀ (r : Int32) (d2 : DD) (l2 : LL), Sq e el d2 l2 ∧ (True) → Q r d2 l2) : ∀ (j23 : Nat) (x1 : Int32) (x3 : Int32) (x4 : Int32) (x5 : Int32) (d : DD) (dl : LL), Sq e el d dl → (0 ≤ x1.toInt ∧ x1.toInt ≤ 23) → (0 ≤ x5.toInt ∧ x5.toInt ≤ 4) → 5 - x5.toInt < (j23 : Int) → b_X10_place_23 n Q j23 x1 x3 x4 x5 d dl := by
  intro j23
  induction j23 with
  | zero =>
    intro x1 x3 x4 x5 d dl hS bx1 bx5 hm23
    exfalso
    omega
  | succ j23 hK23 =>
    intro x1 x3 x4 x5 d dl hS bx1 bx5 hm23
    show (4 ≤ x5 → Q x4 d dl) ∧ (¬ 4 ≤ x5 → vp_in (((4 : Int32) * x1) + x5) 96 ∧ ((d 235 (((4 : Int32) * x1) + x5).toNatClampNeg) ≤ 0 → (b_X10_place_23 n Q j23) x1 x3 x4 (x5 + 1) d dl) ∧ (¬ (d 235 (((4 : Int32) * x1) + x5).toNatClampNeg) ≤ 0 → vp_in (((4 : Int32) * x1) + x5) 96 ∧ (x3 ≤ (d 235 (((4 : Int32) * x1) + x5).toNatClampNeg) → (b_X10_place_23 n Q j23) x1 x3 x4 (x5 + 1) d dl) ∧ (¬ x3 ≤ (d 235 (((4 : Int32) * x1) + x5).toNatClampNeg) → (b_X10_place_23 n Q j23) x1 x3 (x4 + 1) (x5 + 1) d dl)))
    refine ⟨fun h4 => ?_, fun h4 => ?_⟩
    · have h4 : 4 ≤ x5.toInt := (i_le (rfl : (4 : Int32).toInt = 4) rfl).mp h4
      exact hQ _ _ _ ⟨hS, trivial⟩
    · have h4 : ¬ (4 ≤ x5.toInt) := fun q => h4 ((i_le (rfl : (4 : Int32).toInt = 4) rfl).mpr q)
      have t_1 : ((4 : Int32) * x1).toInt = 4 * x1.toInt := ti_mul (rfl : (4 : Int32).toInt = 4) rfl (by omega) (by omega)
      have t_2 : (((4 : Int32) * x1) + x5).toInt = (4 * x1.toInt) + x5.toInt := ti_add t_1 rfl (by omega) (by omega)
      have ih5 : vp_in (((4 : Int32) * x1) + x5) 96 := vin t_2 (by omega) (by omega)
      refine ⟨ih5, ?_⟩
      refine ⟨fun h6 => ?_, fun h6 => ?_⟩
      · have h6 : (d 235 (((4 : Int32) * x1) + x5).toNatClampNeg).toInt ≤ 0 := (i_le rfl (rfl : (0 : Int32).toInt = 0)).mp h6
        have t_3 : (x5 + 1).toInt = x5.toInt + 1 := ti_add rfl (rfl : (1 : Int32).toInt = 1) (by omega) (by omega)
        exact hK23 _ _ _ _ _ _ hS (by omega) (by omega) (by omega)
      · have h6 : ¬ ((d 235 (((4 : Int32) * x1) + x5).toNatClampNeg).toInt ≤ 0) := fun q => h6 ((i_le rfl (rfl : (0 : Int32).toInt = 0)).mpr q)
        have ih7 : vp_in (((4 : Int32) * x1) + x5) 96 := vin t_2 (by omega) (by omega)
        refine ⟨ih7, ?_⟩
        refine ⟨fun h8 => ?_, fun h8 => ?_⟩
        · have h8 : x3.toInt ≤ (d 235 (((4 : Int32) * x1) + x5).toNatClampNeg).toInt := (i_le rfl rfl).mp h8
          have t_4 : (x5 + 1).toInt = x5.toInt + 1 := ti_add rfl (rfl : (1 : Int32).toInt = 1) (by omega) (by omega)
          exact hK23 _ _ _ _ _ _ hS (by omega) (by omega) (by omega)
        · have h8 : ¬ (x3.toInt ≤ (d 235 (((4 : Int32) * x1) + x5).toNatClampNeg).toInt) := fun q => h8 ((i_le rfl rfl).mpr q)
          have t_5 : (x5 + 1).toInt = x5.toInt + 1 := ti_add rfl (rfl : (1 : Int32).toInt = 1) (by omega) (by omega)
          exact hK23 _ _ _ _ _ _ hS (by omega) (by omega) (by omega)
set_option maxHeartbeats 4000000 in
set_option maxRecDepth 100000 in
theorem sp_X10_place {n : Nat} (hn : 1000000000 ≤ n) {x1 : Int32} {x2 : Int32} {d : DD} {dl : LL} (hI : Inv d) (bx1 : 0 ≤ x1.toInt ∧ x1.toInt ≤ 23) (bx2 : 0 ≤ x2.toInt ∧ x2.toInt ≤ 3) {Q : Int32 → DD → LL → Prop} (hQ : ∀ (r : Int32) (d2 : DD) (l2 : LL), Sq d dl d2 l2 ∧ (True) → Q r d2 l2) : F_X10_place n x1 x2 d dl Q := by
  obtain ⟨e, he⟩ : ∃ e : DD, e = d := ⟨_, rfl⟩
  obtain ⟨el, hel⟩ : ∃ el : LL, el = dl := ⟨_, rfl⟩
  have hS : Sq e el d dl := by rw [he, hel]; exact Sq.rf hI
  rw [← he, ← hel] at hQ
  show vp_in (((4 : Int32) * x1) + x2) 96 ∧ ∀ v2 : Int32, v2 = (d 235 (((4 : Int32) * x1) + x2).toNatClampNeg) → (¬ v2 = 0 → b_X10_place_23 n Q n x1 v2 1 0 d dl) ∧ (v2 = 0 → Q 0 d dl)
  have t_6 : ((4 : Int32) * x1).toInt = 4 * x1.toInt := ti_mul (rfl : (4 : Int32).toInt = 4) rfl (by omega) (by omega)
  have t_7 : (((4 : Int32) * x1) + x2).toInt = (4 * x1.toInt) + x2.toInt := ti_add t_6 rfl (by omega) (by omega)
  have ih1 : vp_in (((4 : Int32) * x1) + x2) 96 := vin t_7 (by omega) (by omega)
  refine ⟨ih1, ?_⟩
  intro v2 e2
  have t_8 : v2.toInt = (d 235 (((4 : Int32) * x1) + x2).toNatClampNeg).toInt := (congrArg Int32.toInt e2).trans rfl
  refine ⟨fun h3 => ?_, fun h3 => ?_⟩
  · have h3 : ¬ ((d 235 (((4 : Int32) * x1) + x2).toNatClampNeg).toInt = 0) := fun q => h3 ((i_eq t_8 (rfl : (0 : Int32).toInt = 0)).mpr q)
    exact sb_X10_place_23 hn hQ n _ _ _ _ _ _ hS (by omega) (show 0 ≤ 0 ∧ 0 ≤ 4 from by omega) (show 5 - 0 < (n : Int) from by omega)
  · have h3 : (d 235 (((4 : Int32) * x1) + x2).toNatClampNeg).toInt = 0 := (i_eq t_8 (rfl : (0 : Int32).toInt = 0)).mp h3
    exact hQ _ _ _ ⟨hS, trivial⟩
set_option maxHeartbeats 4000000 in
set_option maxRecDepth 100000 in
theorem sp_X10_told {n : Nat} (hn : 1000000000 ≤ n) {x1 : Int32} {x2 : Int32} {x3 : Int32} {d : DD} {dl : LL} (hI : Inv d) {Q : Int32 → DD → LL → Prop} (hQ : ∀ (r : Int32) (d2 : DD) (l2 : LL), Sq d dl d2 l2 ∧ (True) → Q r d2 l2) : F_X10_told n x1 x2 x3 d dl Q := by
  obtain ⟨e, he⟩ : ∃ e : DD, e = d := ⟨_, rfl⟩
  obtain ⟨el, hel⟩ : ∃ el : LL, el = dl := ⟨_, rfl⟩
  have hS : Sq e el d dl := by rw [he, hel]; exact Sq.rf hI
  rw [← he, ← hel] at hQ
  show F_X10_isIn n x1 x2 d dl (fun r1 d2 l3 => (¬ r1 = 0 → (x3 = 0 → vp_in (((4 : Int32) * x1) + x2) 96 ∧ Q (d2 234 (((4 : Int32) * x1) + x2).toNatClampNeg) d2 l3) ∧ (x3 = 1 → vp_in (((4 : Int32) * x1) + x2) 96 ∧ Q (d2 235 (((4 : Int32) * x1) + x2).toNatClampNeg) d2 l3) ∧ (x3 = 2 → F_X10_place n x1 x2 d2 l3 (fun r7 d8 l9 => Q r7 d8 l9)) ∧ (x3 = 3 → vp_in (((4 : Int32) * x1) + x2) 96 ∧ Q (d2 236 (((4 : Int32) * x1) + x2).toNatClampNeg) d2 l3) ∧ (x3.toInt < 0 ∨ 3 < x3.toInt → Q (-1) d2 l3)) ∧ (r1 = 0 → Q (-1) d2 l3))
  refine sp_X10_isIn hn hS.1 (fun r1 d2 l3 ⟨p_1, u_2⟩ => ?_)
  have s_3 : Sq e el d2 l3 := hS.tr p_1
  have w_4 : d2 = d := p_1.2.1
  replace u_2 : (0 ≤ r1.toInt ∧ r1.toInt ≤ 1 ∧ (r1.toInt = 0 ∨ (0 ≤ x1.toInt ∧ x1.toInt < (d 211 3).toInt ∧ 0 ≤ x2.toInt ∧ x2.toInt ≤ 3 ∧ 0 ≤ (d 234 (((4 : Int32) * x1) + x2).toNatClampNeg).toInt))) := u_2
  have m_5 := iv_211_3 hS.1
  refine ⟨fun h4 => ?_, fun h4 => ?_⟩
  · have h4 : ¬ (r1.toInt = 0) := fun q => h4 ((i_eq rfl (rfl : (0 : Int32).toInt = 0)).mpr q)
    refine ⟨fun h11 => ?_, fun h11 => ?_, fun h11 => ?_, fun h11 => ?_, fun h11 => ?_⟩
    · have h11 : x3.toInt = 0 := (i_eq rfl (rfl : (0 : Int32).toInt = 0)).mp h11
      have t_6 : ((4 : Int32) * x1).toInt = 4 * x1.toInt := ti_mul (rfl : (4 : Int32).toInt = 4) rfl (by omega) (by omega)
      have t_7 : (((4 : Int32) * x1) + x2).toInt = (4 * x1.toInt) + x2.toInt := ti_add t_6 rfl (by omega) (by omega)
      have ih5 : vp_in (((4 : Int32) * x1) + x2) 96 := vin t_7 (by omega) (by omega)
      refine ⟨ih5, ?_⟩
      have q_8 : d2 234 (((4 : Int32) * x1) + x2).toNatClampNeg = (d 234 (((4 : Int32) * x1) + x2).toNatClampNeg) := by rw [w_4]
      have m_9 := iv_234 hS.1 ((((4 : Int32) * x1) + x2).toNatClampNeg)
      have t_10 : (d2 234 (((4 : Int32) * x1) + x2).toNatClampNeg).toInt = (d 234 (((4 : Int32) * x1) + x2).toNatClampNeg).toInt := (congrArg Int32.toInt q_8).trans rfl
      exact hQ _ _ _ ⟨s_3, trivial⟩
    · have h11 : x3.toInt = 1 := (i_eq rfl (rfl : (1 : Int32).toInt = 1)).mp h11
      have t_11 : ((4 : Int32) * x1).toInt = 4 * x1.toInt := ti_mul (rfl : (4 : Int32).toInt = 4) rfl (by omega) (by omega)
      have t_12 : (((4 : Int32) * x1) + x2).toInt = (4 * x1.toInt) + x2.toInt := ti_add t_11 rfl (by omega) (by omega)
      have ih6 : vp_in (((4 : Int32) * x1) + x2) 96 := vin t_12 (by omega) (by omega)
      refine ⟨ih6, ?_⟩
      have q_13 : d2 235 (((4 : Int32) * x1) + x2).toNatClampNeg = (d 235 (((4 : Int32) * x1) + x2).toNatClampNeg) := by rw [w_4]
      have t_14 : (d2 235 (((4 : Int32) * x1) + x2).toNatClampNeg).toInt = (d 235 (((4 : Int32) * x1) + x2).toNatClampNeg).toInt := (congrArg Int32.toInt q_13).trans rfl
      exact hQ _ _ _ ⟨s_3, trivial⟩
    · have h11 : x3.toInt = 2 := (i_eq rfl (rfl : (2 : Int32).toInt = 2)).mp h11
      refine sp_X10_place hn s_3.1 ⟨by omega, by omega⟩ ⟨by omega, by omega⟩ (fun r7 d8 l9 ⟨p_15, u_16⟩ => ?_)
      have s_17 : Sq e el d8 l9 := s_3.tr p_15
      have w_18 : d8 = d2 := p_15.2.1
      exact hQ _ _ _ ⟨s_17, trivial⟩
    · have h11 : x3.toInt = 3 := (i_eq rfl (rfl : (3 : Int32).toInt = 3)).mp h11
      have t_19 : ((4 : Int32) * x1).toInt = 4 * x1.toInt := ti_mul (rfl : (4 : Int32).toInt = 4) rfl (by omega) (by omega)
      have t_20 : (((4 : Int32) * x1) + x2).toInt = (4 * x1.toInt) + x2.toInt := ti_add t_19 rfl (by omega) (by omega)
      have ih10 : vp_in (((4 : Int32) * x1) + x2) 96 := vin t_20 (by omega) (by omega)
      refine ⟨ih10, ?_⟩
      have q_21 : d2 236 (((4 : Int32) * x1) + x2).toNatClampNeg = (d 236 (((4 : Int32) * x1) + x2).toNatClampNeg) := by rw [w_4]
      have t_22 : (d2 236 (((4 : Int32) * x1) + x2).toNatClampNeg).toInt = (d 236 (((4 : Int32) * x1) + x2).toNatClampNeg).toInt := (congrArg Int32.toInt q_21).trans rfl
      exact hQ _ _ _ ⟨s_3, trivial⟩
    · have _ := hn
      exact hQ _ _ _ ⟨s_3, trivial⟩
  · have h4 : r1.toInt = 0 := (i_eq rfl (rfl : (0 : Int32).toInt = 0)).mp h4
    exact hQ _ _ _ ⟨s_3, trivial⟩
set_option maxHeartbeats 4000000 in
set_option maxRecDepth 100000 in
theorem sb_X10_again_35 {n : Nat} (hn : 1000000000 ≤ n) {e : DD} {el : LL} {Q : Int32 → DD → LL → Prop} (hQ : ∀ (r : Int32) (d2 : DD) (l2 : LL), St e el d2 l2 ∧ (True) → Q r d2 l2) {K14 : Int32 → Int32 → Int32 → DD → LL → Prop} {j14 : Nat} (hK14 : ∀ (x1 : Int32) (x2 : Int32) (x3 : Int32) (d : DD) (dl : LL), St e el d dl → (0 ≤ x1.toInt ∧ x1.toInt ≤ 23) → (0 ≤ x3.toInt ∧ x3.toInt ≤ 4) → 5 - x3.toInt < (j14 : Int) → K14 x1 x2 x3 d dl) : ∀ (x1 : Int32) (x2 : Int32) (x3 : Int32) (d : DD) (dl : LL), St e el d dl → (0 ≤ x1.toInt ∧ x1.toInt ≤ 23) → (0 ≤ x3.toInt ∧ x3.toInt ≤ 3) → 5 - x3.toInt ≤ (j14 : Int) → b_X10_again_35 n Q K14 x1 x2 x3 d dl := by
  intro x1 x2 x3 d dl hS bx1 bx3 hm14
  show vp_in (((4 : Int32) * x1) + x3) 96 ∧ ∀ d11 : DD, d11 = u2 d 235 (((4 : Int32) * x1) + x3).toNatClampNeg 0 → vp_in (((4 : Int32) * x1) + x3) 96 ∧ ∀ d13 : DD, d13 = u2 d11 236 (((4 : Int32) * x1) + x3).toNatClampNeg 0 → K14 x1 x2 (x3 + 1) d13 dl
  have t_1 : ((4 : Int32) * x1).toInt = 4 * x1.toInt := ti_mul (rfl : (4 : Int32).toInt = 4) rfl (by omega) (by omega)
  have t_2 : (((4 : Int32) * x1) + x3).toInt = (4 * x1.toInt) + x3.toInt := ti_add t_1 rfl (by omega) (by omega)
  have ih10 : vp_in (((4 : Int32) * x1) + x3) 96 := vin t_2 (by omega) (by omega)
  refine ⟨ih10, ?_⟩
  intro d11 ed11
  have s_3 : St e el d11 dl := by rw [ed11]; exact pv_235 hS (Or.inl rfl)
  have ih12 : vp_in (((4 : Int32) * x1) + x3) 96 := vin t_2 (by omega) (by omega)
  refine ⟨ih12, ?_⟩
  intro d13 ed13
  have s_4 : St e el d13 dl := by rw [ed13]; exact pv_236 s_3
  have t_5 : (x3 + 1).toInt = x3.toInt + 1 := ti_add rfl (rfl : (1 : Int32).toInt = 1) (by omega) (by omega)
  exact hK14 _ _ _ _ _ s_4 (by omega) (by omega) (by omega)
