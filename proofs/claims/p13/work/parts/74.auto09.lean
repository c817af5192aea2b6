set_option maxHeartbeats 4000000 in
set_option maxRecDepth 100000 in
theorem sp_X10_change {n : Nat} (hn : 1000000000 ≤ n) {x1 : Int32} {x2 : Int32} {x3 : Int32} {d : DD} {dl : LL} (hI : Inv d) {Q : Int32 → DD → LL → Prop} (hQ : ∀ (r : Int32) (d2 : DD) (l2 : LL), St d dl d2 l2 ∧ (True) → Q r d2 l2) : F_X10_change n x1 x2 x3 d dl Q := by
  obtain ⟨e, he⟩ : ∃ e : DD, e = d := ⟨_, rfl⟩
  obtain ⟨el, hel⟩ : ∃ el : LL, el = dl := ⟨_, rfl⟩
  have hS : St e el d dl := by rw [he, hel]; exact St.rf hI
  rw [← he, ← hel] at hQ
  show F_X10_isCrew n x1 d dl (fun r1 d2 l3 => (r1 = 0 → Q (-100000) d2 l3) ∧ (¬ r1 = 0 → (x2 < 0 → Q (-100000) d2 l3) ∧ (¬ x2 < 0 → (x3 < 0 → Q (-100000) d2 l3) ∧ (¬ x3 < 0 → vp_in x1 6 ∧ (((2 : Int32) * (d2 218 x1.toNatClampNeg)) ≤ x2 → Q (-100000) d2 l3) ∧ (¬ ((2 : Int32) * (d2 218 x1.toNatClampNeg)) ≤ x2 → vp_in x1 6 ∧ (x3 < ((2 : Int32) * (d2 218 x1.toNatClampNeg)) → vp_in x1 6 ∧ (¬ (d2 224 x1.toNatClampNeg) = 0 → b_X10_change_58 n Q n x1 x2 x3 0 d2 l3) ∧ ((d2 224 x1.toNatClampNeg) = 0 → Q (-100001) d2 l3)) ∧ (¬ x3 < ((2 : Int32) * (d2 218 x1.toNatClampNeg)) → Q (-100000) d2 l3))))))
  refine sp_X10_isCrew hn hS.1 (fun r1 d2 l3 ⟨p_28, u_29⟩ => ?_)
  have s_30 : St e el d2 l3 := hS.sq p_28
  have w_31 : d2 = d := p_28.2.1
  replace u_29 : (0 ≤ r1.toInt ∧ r1.toInt ≤ 1 ∧ ((r1.toInt = 1 ∧ 0 ≤ x1.toInt ∧ x1.toInt < (d 211 1).toInt) ∨ (r1.toInt = 0 ∧ ¬ (0 ≤ x1.toInt ∧ x1.toInt < (d 211 1).toInt)))) := u_29
  have m_32 := iv_211_1 hS.1
  refine ⟨fun h4 => ?_, fun h4 => ?_⟩
  · have h4 : r1.toInt = 0 := (i_eq rfl (rfl : (0 : Int32).toInt = 0)).mp h4
    exact hQ _ _ _ ⟨s_30, trivial⟩
  · have h4 : ¬ (r1.toInt = 0) := fun q => h4 ((i_eq rfl (rfl : (0 : Int32).toInt = 0)).mpr q)
    refine ⟨fun h5 => ?_, fun h5 => ?_⟩
    · have h5 : x2.toInt < 0 := (i_lt rfl (rfl : (0 : Int32).toInt = 0)).mp h5
      exact hQ _ _ _ ⟨s_30, trivial⟩
    · have h5 : ¬ (x2.toInt < 0) := fun q => h5 ((i_lt rfl (rfl : (0 : Int32).toInt = 0)).mpr q)
      refine ⟨fun h6 => ?_, fun h6 => ?_⟩
      · have h6 : x3.toInt < 0 := (i_lt rfl (rfl : (0 : Int32).toInt = 0)).mp h6
        exact hQ _ _ _ ⟨s_30, trivial⟩
      · have h6 : ¬ (x3.toInt < 0) := fun q => h6 ((i_lt rfl (rfl : (0 : Int32).toInt = 0)).mpr q)
        have ih7 : vp_in x1 6 := vin rfl (by omega) (by omega)
        refine ⟨ih7, ?_⟩
        have q_33 : d2 218 x1.toNatClampNeg = (d 218 x1.toNatClampNeg) := by rw [w_31]
        have m_34 := iv_218 hS.1 (x1.toNatClampNeg)
        have t_35 : (d2 218 x1.toNatClampNeg).toInt = (d 218 x1.toNatClampNeg).toInt := (congrArg Int32.toInt q_33).trans rfl
        have t_36 : ((2 : Int32) * (d2 218 x1.toNatClampNeg)).toInt = 2 * (d 218 x1.toNatClampNeg).toInt := ti_mul (rfl : (2 : Int32).toInt = 2) t_35 (by omega) (by omega)
        refine ⟨fun h8 => ?_, fun h8 => ?_⟩
        · have h8 : (2 * (d 218 x1.toNatClampNeg).toInt) ≤ x2.toInt := (i_le t_36 rfl).mp h8
          exact hQ _ _ _ ⟨s_30, trivial⟩
        · have h8 : ¬ ((2 * (d 218 x1.toNatClampNeg).toInt) ≤ x2.toInt) := fun q => h8 ((i_le t_36 rfl).mpr q)
          have ih9 : vp_in x1 6 := vin rfl (by omega) (by omega)
          refine ⟨ih9, ?_⟩
          refine ⟨fun h10 => ?_, fun h10 => ?_⟩
          · have h10 : x3.toInt < (2 * (d 218 x1.toNatClampNeg).toInt) := (i_lt rfl t_36).mp h10
            have ih11 : vp_in x1 6 := vin rfl (by omega) (by omega)
            refine ⟨ih11, ?_⟩
            have q_37 : d2 224 x1.toNatClampNeg = (d 224 x1.toNatClampNeg) := by rw [w_31]
            have m_38 := iv_224 hS.1 (x1.toNatClampNeg)
            have t_39 : (d2 224 x1.toNatClampNeg).toInt = (d 224 x1.toNatClampNeg).toInt := (congrArg Int32.toInt q_37).trans rfl
            refine ⟨fun h12 => ?_, fun h12 => ?_⟩
            · have h12 : ¬ ((d 224 x1.toNatClampNeg).toInt = 0) := fun q => h12 ((i_eq t_39 (rfl : (0 : Int32).toInt = 0)).mpr q)
              exact sb_X10_change_58 hn hQ n _ _ _ _ _ _ s_30 (by omega) (by omega) (by omega) (show 0 ≤ 0 ∧ 0 ≤ 8 from by omega) (show 9 - 0 < (n : Int) from by omega)
            · have h12 : (d 224 x1.toNatClampNeg).toInt = 0 := (i_eq t_39 (rfl : (0 : Int32).toInt = 0)).mp h12
              exact hQ _ _ _ ⟨s_30, trivial⟩
          · have h10 : ¬ (x3.toInt < (2 * (d 218 x1.toNatClampNeg).toInt)) := fun q => h10 ((i_lt rfl t_36).mpr q)
            exact hQ _ _ _ ⟨s_30, trivial⟩
set_option maxHeartbeats 4000000 in
set_option maxRecDepth 100000 in
theorem sp_X10_now {n : Nat} (hn : 1000000000 ≤ n) {d : DD} {dl : LL} (hI : Inv d) {Q : Int32 → DD → LL → Prop} (hQ : ∀ (r : Int32) (d2 : DD) (l2 : LL), Sq d dl d2 l2 ∧ ((r.toInt = -1 ∨ (d 211 46).toInt < (d 211 4).toInt)) → Q r d2 l2) : F_X10_now n d dl Q := by
  obtain ⟨e, he⟩ : ∃ e : DD, e = d := ⟨_, rfl⟩
  obtain ⟨el, hel⟩ : ∃ el : LL, el = dl := ⟨_, rfl⟩
  have hS : Sq e el d dl := by rw [he, hel]; exact Sq.rf hI
  rw [← he, ← hel] at hQ
  show ((d 211 4) ≤ (d 211 46) → Q (-1) d dl) ∧ (¬ (d 211 4) ≤ (d 211 46) → vp_in (d 211 46) 120 ∧ Q (d 225 (d 211 46).toNatClampNeg) d dl)
  have hx0 : (e 211 46).toInt = (d 211 46).toInt := by rw [he]
  have hx1 : (e 211 4).toInt = (d 211 4).toInt := by rw [he]
  have m_1 := iv_211_46 hS.1
  have m_2 := iv_211_4 hS.1
  refine ⟨fun h1 => ?_, fun h1 => ?_⟩
  · have h1 : (d 211 4).toInt ≤ (d 211 46).toInt := (i_le rfl rfl).mp h1
    exact hQ _ _ _ ⟨hS, (show (((-1) = -1 ∨ (e 211 46).toInt < (e 211 4).toInt)) from by omega)⟩
  · have h1 : ¬ ((d 211 4).toInt ≤ (d 211 46).toInt) := fun q => h1 ((i_le rfl rfl).mpr q)
    have ih2 : vp_in (d 211 46) 120 := vin rfl (by omega) (by omega)
    refine ⟨ih2, ?_⟩
    exact hQ _ _ _ ⟨hS, by omega⟩
set_option maxHeartbeats 4000000 in
set_option maxRecDepth 100000 in
theorem sb_X10_field_143 {n : Nat} (hn : 1000000000 ≤ n) {e : DD} {el : LL} {Q : Int32 → DD → LL → Prop} (hQ : ∀ (r : Int32) (d2 : DD) (l2 : LL), Sq e el d2 l2 ∧ (True) → Q r d2 l2) {K5 : Int32 → Int32 → Int32 → Int32 → DD → LL → Prop} {j5 : Nat} (hK5 : ∀ (x1 : Int32) (x2 : Int32) (x3 : Int32) (x4 : Int32) (d : DD) (dl : LL), Sq e el d dl → (0 ≤ x1.toInt ∧ x1.toInt ≤ 5) → (0 ≤ x4.toInt ∧ x4.toInt ≤ 8) → 9 - x4.toInt < (j5 : Int) → K5 x1 x2 x3 x4 d dl) : ∀ (x1 : Int32) (x2 : Int32) (x4 : Int32) (xs0 : Int32) (xs1 : Int32) (d : DD) (dl : LL), Sq e el d dl → (0 ≤ x1.toInt ∧ x1.toInt ≤ 5) → (3 ≤ x2.toInt ∧ x2.toInt ≤ 3) → (0 ≤ x4.toInt ∧ x4.toInt ≤ 7) → (0 ≤ xs0.toInt ∧ xs0.toInt ≤ 1) → 9 - x4.toInt ≤ (j5 : Int) → b_X10_field_143 n Q K5 x1 x2 x4 xs0 xs1 d dl := by
  intro x1 x2 x4 xs0 xs1 d dl hS bx1 bx2 bx4 bxs0 hm5
  show ∀ v15 : Int32, v15 = (xs1 + xs0) → K5 x1 x2 v15 (x4 + 1) d dl
  intro v15 e15
  have t_1 : v15.toInt = (xs1 + xs0).toInt := (congrArg Int32.toInt e15).trans rfl
  have t_2 : (x4 + 1).toInt = x4.toInt + 1 := ti_add rfl (rfl : (1 : Int32).toInt = 1) (by omega) (by omega)
  exact hK5 _ _ _ _ _ _ hS (by omega) (by omega) (by omega)
set_option maxHeartbeats 4000000 in
set_option maxRecDepth 100000 in
theorem sb_X10_field_120 {n : Nat} (hn : 1000000000 ≤ n) {e : DD} {el : LL} {Q : Int32 → DD → LL → Prop} (hQ : ∀ (r : Int32) (d2 : DD) (l2 : LL), Sq e el d2 l2 ∧ (True) → Q r d2 l2) {K5 : Int32 → Int32 → Int32 → Int32 → DD → LL → Prop} {j5 : Nat} (hK5 : ∀ (x1 : Int32) (x2 : Int32) (x3 : Int32) (x4 : Int32) (d : DD) (dl : LL), Sq e el d dl → (0 ≤ x1.toInt ∧ x1.toInt ≤ 5) → (0 ≤ x4.toInt ∧ x4.toInt ≤ 8) → 9 - x4.toInt < (j5 : Int) → K5 x1 x2 x3 x4 d dl) : ∀ (x1 : Int32) (x2 : Int32) (x4 : Int32) (xs0 : Int32) (xs1 : Int32) (d : DD) (dl : LL), Sq e el d dl → (0 ≤ x1.toInt ∧ x1.toInt ≤ 5) → (2 ≤ x2.toInt ∧ x2.toInt ≤ 2) → (0 ≤ x4.toInt ∧ x4.toInt ≤ 7) → (0 ≤ xs0.toInt ∧ xs0.toInt ≤ 1) → 9 - x4.toInt ≤ (j5 : Int) → b_X10_field_120 n Q K5 x1 x2 x4 xs0 xs1 d dl := by
  intro x1 x2 x4 xs0 xs1 d dl hS bx1 bx2 bx4 bxs0 hm5
  show ∀ v12 : Int32, v12 = (xs1 + xs0) → K5 x1 x2 v12 (x4 + 1) d dl
  intro v12 e12
  have t_3 : v12.toInt = (xs1 + xs0).toInt := (congrArg Int32.toInt e12).trans rfl
  have t_4 : (x4 + 1).toInt = x4.toInt + 1 := ti_add rfl (rfl : (1 : Int32).toInt = 1) (by omega) (by omega)
  exact hK5 _ _ _ _ _ _ hS (by omega) (by omega) (by omega)
set_option maxHeartbeats 4000000 in
set_option maxRecDepth 100000 in
theorem sb_X10_field_84 {n : Nat} (hn : 1000000000 ≤ n) {e : DD} {el : LL} {Q : Int32 → DD → LL → Prop} (hQ : ∀ (r : Int32) (d2 : DD) (l2 : LL), Sq e el d2 l2 ∧ (True) → Q r d2 l2) {K5 : Int32 → Int32 → Int32 → Int32 → DD → LL → Prop} {j5 : Nat} (hK5 : ∀ (x1 : Int32) (x2 : Int32) (x3 : Int32) (x4 : Int32) (d : DD) (dl : LL), Sq e el d dl → (0 ≤ x1.toInt ∧ x1.toInt ≤ 5) → (0 ≤ x4.toInt ∧ x4.toInt ≤ 8) → 9 - x4.toInt < (j5 : Int) → K5 x1 x2 x3 x4 d dl) : ∀ (x1 : Int32) (x2 : Int32) (x4 : Int32) (xs0 : Int32) (xs1 : Int32) (d : DD) (dl : LL), Sq e el d dl → (0 ≤ x1.toInt ∧ x1.toInt ≤ 5) → (0 ≤ x2.toInt ∧ x2.toInt ≤ 0) → (0 ≤ x4.toInt ∧ x4.toInt ≤ 7) → (0 ≤ xs0.toInt ∧ xs0.toInt ≤ 1) → 9 - x4.toInt ≤ (j5 : Int) → b_X10_field_84 n Q K5 x1 x2 x4 xs0 xs1 d dl := by
  intro x1 x2 x4 xs0 xs1 d dl hS bx1 bx2 bx4 bxs0 hm5
  show ∀ v7 : Int32, v7 = (xs1 + xs0) → K5 x1 x2 v7 (x4 + 1) d dl
  intro v7 e7
  have t_5 : v7.toInt = (xs1 + xs0).toInt := (congrArg Int32.toInt e7).trans rfl
  have t_6 : (x4 + 1).toInt = x4.toInt + 1 := ti_add rfl (rfl : (1 : Int32).toInt = 1) (by omega) (by omega)
  exact hK5 _ _ _ _ _ _ hS (by omega) (by omega) (by omega)
set_option maxHeartbeats 4000000 in
set_option maxRecDepth 100000 in
theorem sb_X10_field_5 {n : Nat} (hn : 1000000000 ≤ n) {e : DD} {el : LL} {Q : Int32 → DD → LL → Prop} (hQ : ∀ (r : Int32) (d2 : DD) (l2 : LL), Sq e el d2 l2 ∧ (True) → Q r d2 l2) : ∀ (j5 : Nat) (x1 : Int32) (x2 : Int32) (x3 : Int32) (x4 : Int32) (d : DD) (dl : LL), Sq e el d dl → (0 ≤ x1.toInt ∧ x1.toInt ≤ 5) → (0 ≤ x4.toInt ∧ x4.toInt ≤ 8) → 9 - x4.toInt < (j5 : Int) → b_X10_field_5 n Q j5 x1 x2 x3 x4 d dl := by
  intro j5
  induction j5 with
  | zero =>
    intro x1 x2 x3 x4 d dl hS bx1 bx4 hm5
    exfalso
    omega
  | succ j5 hK5 =>
    intro x1 x2 x3 x4 d dl hS bx1 bx4 hm5
    show vp_in x1 6 ∧ (((2 : Int32) * (d 218 x1.toNatClampNeg)) ≤ x4 → Q x3 d dl) ∧ (¬ ((2 : Int32) * (d 218 x1.toNatClampNeg)) ≤ x4 → vp_in (((8 : Int32) * x1) + x4) 48 ∧ ∀ v4 : Int32, v4 = (d 223 (((8 : Int32) * x1) + x4).toNatClampNeg) → (x2 = 0 → vp_in v4 40 ∧ (¬ (d 215 v4.toNatClampNeg) = 0 → b_X10_field_84 n Q (b_X10_field_5 n Q j5) x1 x2 x4 0 x3 d dl) ∧ ((d 215 v4.toNatClampNeg) = 0 → b_X10_field_84 n Q (b_X10_field_5 n Q j5) x1 x2 x4 1 x3 d dl)) ∧ (x2 = 1 → vp_in v4 40 ∧ ∀ v9 : Int32, v9 = (x3 + (d 215 v4.toNatClampNeg)) → (b_X10_field_5 n Q j5) x1 x2 v9 (x4 + 1) d dl) ∧ (x2 = 2 → vp_in v4 40 ∧ ((d 216 v4.toNatClampNeg) < 40 → b_X10_field_120 n Q (b_X10_field_5 n Q j5) x1 x2 x4 0 x3 d dl) ∧ (¬ (d 216 v4.toNatClampNeg) < 40 → b_X10_field_120 n Q (b_X10_field_5 n Q j5) x1 x2 x4 1 x3 d dl)) ∧ (x2 = 3 → vp_in v4 40 ∧ (18 ≤ (d 216 v4.toNatClampNeg) → b_X10_field_143 n Q (b_X10_field_5 n Q j5) x1 x2 x4 0 x3 d dl) ∧ (¬ 18 ≤ (d 216 v4.toNatClampNeg) → b_X10_field_143 n Q (b_X10_field_5 n Q j5) x1 x2 x4 1 x3 d dl)) ∧ (x2 = 4 → vp_in v4 40 ∧ ∀ v17 : Int32, v17 = (x3 + (d 212 v4.toNatClampNeg)) → (b_X10_field_5 n Q j5) x1 x2 v17 (x4 + 1) d dl) ∧ (x2.toInt < 0 ∨ 4 < x2.toInt → (b_X10_field_5 n Q j5) x1 x2 (x3 + 1) (x4 + 1) d dl))
    have ih1 : vp_in x1 6 := vin rfl (by omega) (by omega)
    refine ⟨ih1, ?_⟩
    have m_7 := iv_218 hS.1 (x1.toNatClampNeg)
    have t_8 : ((2 : Int32) * (d 218 x1.toNatClampNeg)).toInt = 2 * (d 218 x1.toNatClampNeg).toInt := ti_mul (rfl : (2 : Int32).toInt = 2) rfl (by omega) (by omega)
    refine ⟨fun h2 => ?_, fun h2 => ?_⟩
    · have h2 : (2 * (d 218 x1.toNatClampNeg).toInt) ≤ x4.toInt := (i_le t_8 rfl).mp h2
      exact hQ _ _ _ ⟨hS, trivial⟩
    · have h2 : ¬ ((2 * (d 218 x1.toNatClampNeg).toInt) ≤ x4.toInt) := fun q => h2 ((i_le t_8 rfl).mpr q)
      have t_9 : ((8 : Int32) * x1).toInt = 8 * x1.toInt := ti_mul (rfl : (8 : Int32).toInt = 8) rfl (by omega) (by omega)
      have t_10 : (((8 : Int32) * x1) + x4).toInt = (8 * x1.toInt) + x4.toInt := ti_add t_9 rfl (by omega) (by omega)
      have ih3 : vp_in (((8 : Int32) * x1) + x4) 48 := vin t_10 (by omega) (by omega)
      refine ⟨ih3, ?_⟩
      have m_11 := iv_223 hS.1 ((((8 : Int32) * x1) + x4).toNatClampNeg)
      intro v4 e4
      have t_12 : v4.toInt = (d 223 (((8 : Int32) * x1) + x4).toNatClampNeg).toInt := (congrArg Int32.toInt e4).trans rfl
      refine ⟨fun h18 => ?_, fun h18 => ?_, fun h18 => ?_, fun h18 => ?_, fun h18 => ?_, fun h18 => ?_⟩
      · have h18 : x2.toInt = 0 := (i_eq rfl (rfl : (0 : Int32).toInt = 0)).mp h18
        have ih5 : vp_in v4 40 := vin t_12 (by omega) (by omega)
        refine ⟨ih5, ?_⟩
        have m_13 := iv_215 hS.1 (v4.toNatClampNeg)
        refine ⟨fun h6 => ?_, fun h6 => ?_⟩
        · have h6 : ¬ ((d 215 v4.toNatClampNeg).toInt = 0) := fun q => h6 ((i_eq rfl (rfl : (0 : Int32).toInt = 0)).mpr q)
          exact sb_X10_field_84 hn hQ hK5 _ _ _ _ _ _ _ hS (by omega) (by omega) (by omega) (show 0 ≤ 0 ∧ 0 ≤ 1 from by omega) (by omega)
        · have h6 : (d 215 v4.toNatClampNeg).toInt = 0 := (i_eq rfl (rfl : (0 : Int32).toInt = 0)).mp h6
          exact sb_X10_field_84 hn hQ hK5 _ _ _ _ _ _ _ hS (by omega) (by omega) (by omega) (show 0 ≤ 1 ∧ 1 ≤ 1 from by omega) (by omega)
      · have h18 : x2.toInt = 1 := (i_eq rfl (rfl : (1 : Int32).toInt = 1)).mp h18
        have ih8 : vp_in v4 40 := vin t_12 (by omega) (by omega)
        refine ⟨ih8, ?_⟩
        intro v9 e9
        have t_14 : v9.toInt = (x3 + (d 215 v4.toNatClampNeg)).toInt := (congrArg Int32.toInt e9).trans rfl
        have t_15 : (x4 + 1).toInt = x4.toInt + 1 := ti_add rfl (rfl : (1 : Int32).toInt = 1) (by omega) (by omega)
        exact hK5 _ _ _ _ _ _ hS (by omega) (by omega) (by omega)
      · have h18 : x2.toInt = 2 := (i_eq rfl (rfl : (2 : Int32).toInt = 2)).mp h18
        have ih10 : vp_in v4 40 := vin t_12 (by omega) (by omega)
        refine ⟨ih10, ?_⟩
        have m_16 := iv_216 hS.1 (v4.toNatClampNeg)
        refine ⟨fun h11 => ?_, fun h11 => ?_⟩
        · have h11 : (d 216 v4.toNatClampNeg).toInt < 40 := (i_lt rfl (rfl : (40 : Int32).toInt = 40)).mp h11
          exact sb_X10_field_120 hn hQ hK5 _ _ _ _ _ _ _ hS (by omega) (by omega) (by omega) (show 0 ≤ 0 ∧ 0 ≤ 1 from by omega) (by omega)
        · have h11 : ¬ ((d 216 v4.toNatClampNeg).toInt < 40) := fun q => h11 ((i_lt rfl (rfl : (40 : Int32).toInt = 40)).mpr q)
          exact sb_X10_field_120 hn hQ hK5 _ _ _ _ _ _ _ hS (by omega) (by omega) (by omega) (show 0 ≤ 1 ∧ 1 ≤ 1 from by omega) (by omega)
      · have h18 : x2.toInt = 3 := (i_eq rfl (rfl : (3 : Int32).toInt = 3)).mp h18
        have ih13 : vp_in v4 40 := vin t_12 (by omega) (by omega)
        refine ⟨ih13, ?_⟩
        have m_17 := iv_216 hS.1 (v4.toNatClampNeg)
        refine ⟨fun h14 => ?_, fun h14 => ?_⟩
        · have h14 : 18 ≤ (d 216 v4.toNatClampNeg).toInt := (i_le (rfl : (18 : Int32).toInt = 18) rfl).mp h14
          exact sb_X10_field_143 hn hQ hK5 _ _ _ _ _ _ _ hS (by omega) (by omega) (by omega) (show 0 ≤ 0 ∧ 0 ≤ 1 from by omega) (by omega)
        · have h14 : ¬ (18 ≤ (d 216 v4.toNatClampNeg).toInt) := fun q => h14 ((i_le (rfl : (18 : Int32).toInt = 18) rfl).mpr q)
          exact sb_X10_field_143 hn hQ hK5 _ _ _ _ _ _ _ hS (by omega) (by omega) (by omega) (show 0 ≤ 1 ∧ 1 ≤ 1 from by omega) (by omega)
      · have h18 : x2.toInt = 4 := (i_eq rfl (rfl : (4 : Int32).toInt = 4)).mp h18
        have ih16 : vp_in v4 40 := vin t_12 (by omega) (by omega)
        refine ⟨ih16, ?_⟩
        intro v17 e17
        have t_18 : v17.toInt = (x3 + (d 212 v4.toNatClampNeg)).toInt := (congrArg Int32.toInt e17).trans rfl
        have t_19 : (x4 + 1).toInt = x4.toInt + 1 := ti_add rfl (rfl : (1 : Int32).toInt = 1) (by omega) (by omega)
        exact hK5 _ _ _ _ _ _ hS (by omega) (by omega) (by omega)
      · have _ := hn
        have t_20 : (x4 + 1).toInt = x4.toInt + 1 := ti_add rfl (rfl : (1 : Int32).toInt = 1) (by omega) (by omega)
        exact hK5 _ _ _ _ _ _ hS (by omega) (by omega) (by omega)
set_option maxHeartbeats 4000000 in
set_option maxRecDepth 100000 in
theorem sp_X10_field {n : Nat} (hn : 1000000000 ≤ n) {x1 : Int32} {x2 : Int32} {d : DD} {dl : LL} (hI : Inv d) (bx1 : 0 ≤ x1.toInt ∧ x1.toInt ≤ 5) {Q : Int32 → DD → LL → Prop} (hQ : ∀ (r : Int32) (d2 : DD) (l2 : LL), Sq d dl d2 l2 ∧ (True) → Q r d2 l2) : F_X10_field n x1 x2 d dl Q := by
  obtain ⟨e, he⟩ : ∃ e : DD, e = d := ⟨_, rfl⟩
  obtain ⟨el, hel⟩ : ∃ el : LL, el = dl := ⟨_, rfl⟩
  have hS : Sq e el d dl := by rw [he, hel]; exact Sq.rf hI
  rw [← he, ← hel] at hQ
  show b_X10_field_5 n Q n x1 x2 0 0 d dl
  exact sb_X10_field_5 hn hQ n _ _ _ _ _ _ hS (by omega) (show 0 ≤ 0 ∧ 0 ≤ 8 from by omega) (show 9 - 0 < (n : Int) from by omega)
set_option maxHeartbeats 4000000 in
set_option maxRecDepth 100000 in
theorem sb_X10_keeps_175 {n : Nat} (hn : 1000000000 ≤ n) {e : DD} {el : LL} {Q : Int32 → DD → LL → Prop} (hQ : ∀ (r : Int32) (d2 : DD) (l2 : LL), Sq e el d2 l2 ∧ ((-3) ≤ r.toInt ∧ r.toInt ≤ 1) → Q r d2 l2) {K42 : Int32 → Int32 → Int32 → Int32 → Int32 → DD → LL → Prop} {j42 : Nat} (hK42 : ∀ (x1 : Int32) (x2 : Int32) (x3 : Int32) (x4 : Int32) (x5 : Int32) (d : DD) (dl : LL), Sq e el d dl → (0 ≤ x1.toInt ∧ x1.toInt ≤ 5) → (0 ≤ x2.toInt ∧ x2.toInt ≤ 5) → (0 ≤ x3.toInt ∧ x3.toInt ≤ 1) → (0 ≤ x4.toInt ∧ x4.toInt ≤ 1) → (0 ≤ x5.toInt ∧ x5.toInt ≤ 8) → 9 - x5.toInt < (j42 : Int) → K42 x1 x2 x3 x4 x5 d dl) : ∀ (x1 : Int32) (x2 : Int32) (x3 : Int32) (x5 : Int32) (d : DD) (dl : LL), Sq e el d dl → (0 ≤ x1.toInt ∧ x1.toInt ≤ 5) → (0 ≤ x2.toInt ∧ x2.toInt ≤ 5) → (0 ≤ x3.toInt ∧ x3.toInt ≤ 1) → (0 ≤ x5.toInt ∧ x5.toInt ≤ 7) → 9 - x5.toInt ≤ (j42 : Int) → b_X10_keeps_175 n Q K42 x1 x2 x3 x5 d dl := by
  intro x1 x2 x3 x5 d dl hS bx1 bx2 bx3 bx5 hm42
  show K42 x1 x2 x3 0 (x5 + 1) d dl
  have t_1 : (x5 + 1).toInt = x5.toInt + 1 := ti_add rfl (rfl : (1 : Int32).toInt = 1) (by omega) (by omega)
  exact hK42 _ _ _ _ _ _ _ hS (by omega) (by omega) (by omega) (show 0 ≤ 0 ∧ 0 ≤ 1 from by omega) (by omega) (by omega)
set_option maxHeartbeats 4000000 in
set_option maxRecDepth 100000 in
theorem sb_X10_keeps_161 {n : Nat} (hn : 1000000000 ≤ n) {e : DD} {el : LL} {Q : Int32 → DD → LL → Prop} (hQ : ∀ (r : Int32) (d2 : DD) (l2 : LL), Sq e el d2 l2 ∧ ((-3) ≤ r.toInt ∧ r.toInt ≤ 1) → Q r d2 l2) {K42 : Int32 → Int32 → Int32 → Int32 → Int32 → DD → LL → Prop} {j42 : Nat} (hK42 : ∀ (x1 : Int32) (x2 : Int32) (x3 : Int32) (x4 : Int32) (x5 : Int32) (d : DD) (dl : LL), Sq e el d dl → (0 ≤ x1.toInt ∧ x1.toInt ≤ 5) → (0 ≤ x2.toInt ∧ x2.toInt ≤ 5) → (0 ≤ x3.toInt ∧ x3.toInt ≤ 1) → (0 ≤ x4.toInt ∧ x4.toInt ≤ 1) → (0 ≤ x5.toInt ∧ x5.toInt ≤ 8) → 9 - x5.toInt < (j42 : Int) → K42 x1 x2 x3 x4 x5 d dl) : ∀ (x1 : Int32) (x2 : Int32) (x3 : Int32) (x5 : Int32) (x6 : Int32) (xs0 : Int32) (d : DD) (dl : LL), Sq e el d dl → (0 ≤ x1.toInt ∧ x1.toInt ≤ 5) → (0 ≤ x2.toInt ∧ x2.toInt ≤ 5) → (0 ≤ x3.toInt ∧ x3.toInt ≤ 1) → (0 ≤ x5.toInt ∧ x5.toInt ≤ 7) → (0 ≤ x6.toInt ∧ x6.toInt ≤ 47) → (0 ≤ xs0.toInt ∧ xs0.toInt ≤ 1) → 9 - x5.toInt ≤ (j42 : Int) → b_X10_keeps_161 n Q K42 x1 x2 x3 x5 x6 xs0 d dl := by
  intro x1 x2 x3 x5 x6 xs0 d dl hS bx1 bx2 bx3 bx5 bx6 bxs0 hm42
  show vp_in x6 48 ∧ (xs0 = (d 230 x6.toNatClampNeg) → b_X10_keeps_175 n Q K42 x1 x2 x3 x5 d dl) ∧ (¬ xs0 = (d 230 x6.toNatClampNeg) → K42 x1 x2 x3 1 (x5 + 1) d dl)
  have ih27 : vp_in x6 48 := vin rfl (by omega) (by omega)
  refine ⟨ih27, ?_⟩
  have m_2 := iv_230 hS.1 (x6.toNatClampNeg)
  refine ⟨fun h28 => ?_, fun h28 => ?_⟩
  · have h28 : xs0.toInt = (d 230 x6.toNatClampNeg).toInt := (i_eq rfl rfl).mp h28
    exact sb_X10_keeps_175 hn hQ hK42 _ _ _ _ _ _ hS (by omega) (by omega) (by omega) (by omega) (by omega)
  · have h28 : ¬ (xs0.toInt = (d 230 x6.toNatClampNeg).toInt) := fun q => h28 ((i_eq rfl rfl).mpr q)
    have t_3 : (x5 + 1).toInt = x5.toInt + 1 := ti_add rfl (rfl : (1 : Int32).toInt = 1) (by omega) (by omega)
    exact hK42 _ _ _ _ _ _ _ hS (by omega) (by omega) (by omega) (show 0 ≤ 1 ∧ 1 ≤ 1 from by omega) (by omega) (by omega)
set_option maxHeartbeats 4000000 in
set_option maxRecDepth 100000 in
theorem sb_X10_keeps_137 {n : Nat} (hn : 1000000000 ≤ n) {e : DD} {el : LL} {Q : Int32 → DD → LL → Prop} (hQ : ∀ (r : Int32) (d2 : DD) (l2 : LL), Sq e el d2 l2 ∧ ((-3) ≤ r.toInt ∧ r.toInt ≤ 1) → Q r d2 l2) {K42 : Int32 → Int32 → Int32 → Int32 → Int32 → DD → LL → Prop} {j42 : Nat} (hK42 : ∀ (x1 : Int32) (x2 : Int32) (x3 : Int32) (x4 : Int32) (x5 : Int32) (d : DD) (dl : LL), Sq e el d dl → (0 ≤ x1.toInt ∧ x1.toInt ≤ 5) → (0 ≤ x2.toInt ∧ x2.toInt ≤ 5) → (0 ≤ x3.toInt ∧ x3.toInt ≤ 1) → (0 ≤ x4.toInt ∧ x4.toInt ≤ 1) → (0 ≤ x5.toInt ∧ x5.toInt ≤ 8) → 9 - x5.toInt < (j42 : Int) → K42 x1 x2 x3 x4 x5 d dl) : ∀ (x1 : Int32) (x2 : Int32) (x3 : Int32) (x4 : Int32) (x5 : Int32) (x6 : Int32) (xs0 : Int32) (d : DD) (dl : LL), Sq e el d dl → (0 ≤ x1.toInt ∧ x1.toInt ≤ 5) → (0 ≤ x2.toInt ∧ x2.toInt ≤ 5) → (0 ≤ x3.toInt ∧ x3.toInt ≤ 1) → (0 ≤ x4.toInt ∧ x4.toInt ≤ 1) → (0 ≤ x5.toInt ∧ x5.toInt ≤ 7) → (0 ≤ x6.toInt ∧ x6.toInt ≤ 47) → ((-1) ≤ xs0.toInt ∧ xs0.toInt ≤ 1) → 9 - x5.toInt ≤ (j42 : Int) → b_X10_keeps_137 n Q K42 x1 x2 x3 x4 x5 x6 xs0 d dl := by
  intro x1 x2 x3 x4 x5 x6 xs0 d dl hS bx1 bx2 bx3 bx4 bx5 bx6 bxs0 hm42
  show (x4 = 0 → b_X10_keeps_175 n Q K42 x1 x2 x3 x5 d dl) ∧ (¬ x4 = 0 → vp_in x6 48 ∧ (¬ xs0 = (d 228 x6.toNatClampNeg) → b_X10_keeps_161 n Q K42 x1 x2 x3 x5 x6 0 d dl) ∧ (xs0 = (d 228 x6.toNatClampNeg) → b_X10_keeps_161 n Q K42 x1 x2 x3 x5 x6 1 d dl))
  refine ⟨fun h24 => ?_, fun h24 => ?_⟩
  · have h24 : x4.toInt = 0 := (i_eq rfl (rfl : (0 : Int32).toInt = 0)).mp h24
    exact sb_X10_keeps_175 hn hQ hK42 _ _ _ _ _ _ hS (by omega) (by omega) (by omega) (by omega) (by omega)
  · have h24 : ¬ (x4.toInt = 0) := fun q => h24 ((i_eq rfl (rfl : (0 : Int32).toInt = 0)).mpr q)
    have ih25 : vp_in x6 48 := vin rfl (by omega) (by omega)
    refine ⟨ih25, ?_⟩
    refine ⟨fun h26 => ?_, fun h26 => ?_⟩
    · have h26 : ¬ (xs0.toInt = (d 228 x6.toNatClampNeg).toInt) := fun q => h26 ((i_eq rfl rfl).mpr q)
      exact sb_X10_keeps_161 hn hQ hK42 _ _ _ _ _ _ _ _ hS (by omega) (by omega) (by omega) (by omega) (by omega) (show 0 ≤ 0 ∧ 0 ≤ 1 from by omega) (by omega)
    · have h26 : xs0.toInt = (d 228 x6.toNatClampNeg).toInt := (i_eq rfl rfl).mp h26
      exact sb_X10_keeps_161 hn hQ hK42 _ _ _ _ _ _ _ _ hS (by omega) (by omega) (by omega) (by omega) (by omega) (show 0 ≤ 1 ∧ 1 ≤ 1 from by omega) (by omega)
set_option maxHeartbeats 4000000 in
set_option maxRecDepth 100000 in
theorem sb_X10_keeps_90 {n : Nat} (hn : 1000000000 ≤ n) {e : DD} {el : LL} {Q : Int32 → DD → LL → Prop} (hQ : ∀ (r : Int32) (d2 : DD) (l2 : LL), Sq e el d2 l2 ∧ ((-3) ≤ r.toInt ∧ r.toInt ≤ 1) → Q r d2 l2) {K42 : Int32 → Int32 → Int32 → Int32 → Int32 → DD → LL → Prop} {j42 : Nat} (hK42 : ∀ (x1 : Int32) (x2 : Int32) (x3 : Int32) (x4 : Int32) (x5 : Int32) (d : DD) (dl : LL), Sq e el d dl → (0 ≤ x1.toInt ∧ x1.toInt ≤ 5) → (0 ≤ x2.toInt ∧ x2.toInt ≤ 5) → (0 ≤ x3.toInt ∧ x3.toInt ≤ 1) → (0 ≤ x4.toInt ∧ x4.toInt ≤ 1) → (0 ≤ x5.toInt ∧ x5.toInt ≤ 8) → 9 - x5.toInt < (j42 : Int) → K42 x1 x2 x3 x4 x5 d dl) : ∀ (x1 : Int32) (x2 : Int32) (x3 : Int32) (x4 : Int32) (x5 : Int32) (x6 : Int32) (d : DD) (dl : LL), Sq e el d dl → (0 ≤ x1.toInt ∧ x1.toInt ≤ 5) → (0 ≤ x2.toInt ∧ x2.toInt ≤ 5) → (0 ≤ x3.toInt ∧ x3.toInt ≤ 1) → (0 ≤ x4.toInt ∧ x4.toInt ≤ 1) → (0 ≤ x5.toInt ∧ x5.toInt ≤ 7) → (0 ≤ x6.toInt ∧ x6.toInt ≤ 47) → 9 - x5.toInt ≤ (j42 : Int) → b_X10_keeps_90 n Q K42 x1 x2 x3 x4 x5 x6 d dl := by
  intro x1 x2 x3 x4 x5 x6 d dl hS bx1 bx2 bx3 bx4 bx5 bx6 hm42
  show vp_in x6 48 ∧ F_X10_field n x1 (d 227 x6.toNatClampNeg) d dl (fun r17 d18 l19 => vp_in x6 48 ∧ ((d18 229 x6.toNatClampNeg) ≤ r17 → vp_in x6 48 ∧ (r17 ≤ (d18 229 x6.toNatClampNeg) → b_X10_keeps_137 n Q K42 x1 x2 x3 x4 x5 x6 0 d18 l19) ∧ (¬ r17 ≤ (d18 229 x6.toNatClampNeg) → b_X10_keeps_137 n Q K42 x1 x2 x3 x4 x5 x6 1 d18 l19)) ∧ (¬ (d18 229 x6.toNatClampNeg) ≤ r17 → b_X10_keeps_137 n Q K42 x1 x2 x3 x4 x5 x6 (-1) d18 l19))
  have ih16 : vp_in x6 48 := vin rfl (by omega) (by omega)
  refine ⟨ih16, ?_⟩
  have m_4 := iv_227 hS.1 (x6.toNatClampNeg)
  refine sp_X10_field hn hS.1 ⟨by omega, by omega⟩ (fun r17 d18 l19 ⟨p_5, u_6⟩ => ?_)
  have s_7 : Sq e el d18 l19 := hS.tr p_5
  have w_8 : d18 = d := p_5.2.1
  have ih20 : vp_in x6 48 := vin rfl (by omega) (by omega)
  refine ⟨ih20, ?_⟩
  have q_9 : d18 229 x6.toNatClampNeg = (d 229 x6.toNatClampNeg) := by rw [w_8]
  have t_10 : (d18 229 x6.toNatClampNeg).toInt = (d 229 x6.toNatClampNeg).toInt := (congrArg Int32.toInt q_9).trans rfl
  refine ⟨fun h21 => ?_, fun h21 => ?_⟩
  · have h21 : (d 229 x6.toNatClampNeg).toInt ≤ r17.toInt := (i_le t_10 rfl).mp h21
    have ih22 : vp_in x6 48 := vin rfl (by omega) (by omega)
    refine ⟨ih22, ?_⟩
    refine ⟨fun h23 => ?_, fun h23 => ?_⟩
    · have h23 : r17.toInt ≤ (d 229 x6.toNatClampNeg).toInt := (i_le rfl t_10).mp h23
      exact sb_X10_keeps_137 hn hQ hK42 _ _ _ _ _ _ _ _ _ s_7 (by omega) (by omega) (by omega) (by omega) (by omega) (by omega) (show (-1) ≤ 0 ∧ 0 ≤ 1 from by omega) (by omega)
    · have h23 : ¬ (r17.toInt ≤ (d 229 x6.toNatClampNeg).toInt) := fun q => h23 ((i_le rfl t_10).mpr q)
      exact sb_X10_keeps_137 hn hQ hK42 _ _ _ _ _ _ _ _ _ s_7 (by omega) (by omega) (by omega) (by omega) (by omega) (by omega) (show (-1) ≤ 1 ∧ 1 ≤ 1 from by omega) (by omega)
  · have h21 : ¬ ((d 229 x6.toNatClampNeg).toInt ≤ r17.toInt) := fun q => h21 ((i_le t_10 rfl).mpr q)
    exact sb_X10_keeps_137 hn hQ hK42 _ _ _ _ _ _ _ _ _ s_7 (by omega) (by omega) (by omega) (by omega) (by omega) (by omega) (show (-1) ≤ (-1) ∧ (-1) ≤ 1 from by omega) (by omega)
set_option maxHeartbeats 4000000 in
set_option maxRecDepth 100000 in
theorem sb_X10_keeps_86 {n : Nat} (hn : 1000000000 ≤ n) {e : DD} {el : LL} {Q : Int32 → DD → LL → Prop} (hQ : ∀ (r : Int32) (d2 : DD) (l2 : LL), Sq e el d2 l2 ∧ ((-3) ≤ r.toInt ∧ r.toInt ≤ 1) → Q r d2 l2) {K42 : Int32 → Int32 → Int32 → Int32 → Int32 → DD → LL → Prop} {j42 : Nat} (hK42 : ∀ (x1 : Int32) (x2 : Int32) (x3 : Int32) (x4 : Int32) (x5 : Int32) (d : DD) (dl : LL), Sq e el d dl → (0 ≤ x1.toInt ∧ x1.toInt ≤ 5) → (0 ≤ x2.toInt ∧ x2.toInt ≤ 5) → (0 ≤ x3.toInt ∧ x3.toInt ≤ 1) → (0 ≤ x4.toInt ∧ x4.toInt ≤ 1) → (0 ≤ x5.toInt ∧ x5.toInt ≤ 8) → 9 - x5.toInt < (j42 : Int) → K42 x1 x2 x3 x4 x5 d dl) : ∀ (x1 : Int32) (x2 : Int32) (x5 : Int32) (x6 : Int32) (xs0 : Int32) (d : DD) (dl : LL), Sq e el d dl → (0 ≤ x1.toInt ∧ x1.toInt ≤ 5) → (0 ≤ x2.toInt ∧ x2.toInt ≤ 5) → (0 ≤ x5.toInt ∧ x5.toInt ≤ 7) → (0 ≤ x6.toInt ∧ x6.toInt ≤ 47) → (0 ≤ xs0.toInt ∧ xs0.toInt ≤ 1) → 9 - x5.toInt ≤ (j42 : Int) → b_X10_keeps_86 n Q K42 x1 x2 x5 x6 xs0 d dl := by
  intro x1 x2 x5 x6 xs0 d dl hS bx1 bx2 bx5 bx6 bxs0 hm42
  show b_X10_keeps_90 n Q K42 x1 x2 xs0 1 x5 x6 d dl
  exact sb_X10_keeps_90 hn hQ hK42 _ _ _ _ _ _ _ _ hS (by omega) (by omega) (by omega) (show 0 ≤ 1 ∧ 1 ≤ 1 from by omega) (by omega) (by omega) (by omega)
set_option maxHeartbeats 4000000 in
set_option maxRecDepth 100000 in
theorem sb_X10_keeps_81 {n : Nat} (hn : 1000000000 ≤ n) {e : DD} {el : LL} {Q : Int32 → DD → LL → Prop} (hQ : ∀ (r : Int32) (d2 : DD) (l2 : LL), Sq e el d2 l2 ∧ ((-3) ≤ r.toInt ∧ r.toInt ≤ 1) → Q r d2 l2) {K42 : Int32 → Int32 → Int32 → Int32 → Int32 → DD → LL → Prop} {j42 : Nat} (hK42 : ∀ (x1 : Int32) (x2 : Int32) (x3 : Int32) (x4 : Int32) (x5 : Int32) (d : DD) (dl : LL), Sq e el d dl → (0 ≤ x1.toInt ∧ x1.toInt ≤ 5) → (0 ≤ x2.toInt ∧ x2.toInt ≤ 5) → (0 ≤ x3.toInt ∧ x3.toInt ≤ 1) → (0 ≤ x4.toInt ∧ x4.toInt ≤ 1) → (0 ≤ x5.toInt ∧ x5.toInt ≤ 8) → 9 - x5.toInt < (j42 : Int) → K42 x1 x2 x3 x4 x5 d dl) : ∀ (x1 : Int32) (x2 : Int32) (x5 : Int32) (x6 : Int32) (d : DD) (dl : LL), Sq e el d dl → (0 ≤ x1.toInt ∧ x1.toInt ≤ 5) → (0 ≤ x2.toInt ∧ x2.toInt ≤ 5) → (0 ≤ x5.toInt ∧ x5.toInt ≤ 7) → (0 ≤ x6.toInt ∧ x6.toInt ≤ 47) → 9 - x5.toInt ≤ (j42 : Int) → b_X10_keeps_81 n Q K42 x1 x2 x5 x6 d dl := by
  intro x1 x2 x5 x6 d dl hS bx1 bx2 bx5 bx6 hm42
  show b_X10_keeps_86 n Q K42 x1 x2 x5 x6 1 d dl
  exact sb_X10_keeps_86 hn hQ hK42 _ _ _ _ _ _ _ hS (by omega) (by omega) (by omega) (by omega) (show 0 ≤ 1 ∧ 1 ≤ 1 from by omega) (by omega)
set_option maxHeartbeats 4000000 in
set_option maxRecDepth 100000 in
theorem sb_X10_keeps_42 {n : Nat} (hn : 1000000000 ≤ n) {e : DD} {el : LL} {Q : Int32 → DD → LL → Prop} (hQ : ∀ (r : Int32) (d2 : DD) (l2 : LL), Sq e el d2 l2 ∧ ((-3) ≤ r.toInt ∧ r.toInt ≤ 1) → Q r d2 l2) : ∀ (j42 : Nat) (x1 : Int32) (x2 : Int32) (x3 : Int32) (x4 : Int32) (x5 : Int32) (d : DD) (dl : LL), Sq e el d dl → (0 ≤ x1.toInt ∧ x1.toInt ≤ 5) → (0 ≤ x2.toInt ∧ x2.toInt ≤ 5) → (0 ≤ x3.toInt ∧ x3.toInt ≤ 1) → (0 ≤ x4.toInt ∧ x4.toInt ≤ 1) → (0 ≤ x5.toInt ∧ x5.toInt ≤ 8) → 9 - x5.toInt < (j42 : Int) → b_X10_keeps_42 n Q j42 x1 x2 x3 x4 x5 d dl := by
  intro j42
  induction j42 with
  | zero =>
    intro x1 x2 x3 x4 x5 d dl hS bx1 bx2 bx3 bx4 bx5 hm42
    exfalso
    omega
  | succ j42 hK42 =>
    intro x1 x2 x3 x4 x5 d dl hS bx1 bx2 bx3 bx4 bx5 hm42
    show vp_in x2 6 ∧ ((d 226 x2.toNatClampNeg) ≤ x5 → (¬ x3 = 0 → Q 1 d dl) ∧ (x3 = 0 → (x4 = 0 → Q 0 d dl) ∧ (¬ x4 = 0 → Q 1 d dl))) ∧ (¬ (d 226 x2.toNatClampNeg) ≤ x5 → ∀ v13 : Int32, v13 = (((8 : Int32) * x2) + x5) → vp_in v13 48 ∧ ((d 231 v13.toNatClampNeg) = 0 → b_X10_keeps_90 n Q (b_X10_keeps_42 n Q j42) x1 x2 x3 x4 x5 v13 d dl) ∧ (¬ (d 231 v13.toNatClampNeg) = 0 → (¬ x3 = 0 → b_X10_keeps_81 n Q (b_X10_keeps_42 n Q j42) x1 x2 x5 v13 d dl) ∧ (x3 = 0 → (x4 = 0 → b_X10_keeps_86 n Q (b_X10_keeps_42 n Q j42) x1 x2 x5 v13 0 d dl) ∧ (¬ x4 = 0 → b_X10_keeps_81 n Q (b_X10_keeps_42 n Q j42) x1 x2 x5 v13 d dl))))
    have ih9 : vp_in x2 6 := vin rfl (by omega) (by omega)
    refine ⟨ih9, ?_⟩
    have m_11 := iv_226 hS.1 (x2.toNatClampNeg)
    refine ⟨fun h10 => ?_, fun h10 => ?_⟩
    · have h10 : (d 226 x2.toNatClampNeg).toInt ≤ x5.toInt := (i_le rfl rfl).mp h10
      refine ⟨fun h11 => ?_, fun h11 => ?_⟩
      · have h11 : ¬ (x3.toInt = 0) := fun q => h11 ((i_eq rfl (rfl : (0 : Int32).toInt = 0)).mpr q)
        exact hQ _ _ _ ⟨hS, (show ((-3) ≤ 1 ∧ 1 ≤ 1) from by omega)⟩
      · have h11 : x3.toInt = 0 := (i_eq rfl (rfl : (0 : Int32).toInt = 0)).mp h11
        refine ⟨fun h12 => ?_, fun h12 => ?_⟩
        · have h12 : x4.toInt = 0 := (i_eq rfl (rfl : (0 : Int32).toInt = 0)).mp h12
          exact hQ _ _ _ ⟨hS, (show ((-3) ≤ 0 ∧ 0 ≤ 1) from by omega)⟩
        · have h12 : ¬ (x4.toInt = 0) := fun q => h12 ((i_eq rfl (rfl : (0 : Int32).toInt = 0)).mpr q)
          exact hQ _ _ _ ⟨hS, (show ((-3) ≤ 1 ∧ 1 ≤ 1) from by omega)⟩
    · have h10 : ¬ ((d 226 x2.toNatClampNeg).toInt ≤ x5.toInt) := fun q => h10 ((i_le rfl rfl).mpr q)
      have t_12 : ((8 : Int32) * x2).toInt = 8 * x2.toInt := ti_mul (rfl : (8 : Int32).toInt = 8) rfl (by omega) (by omega)
      have t_13 : (((8 : Int32) * x2) + x5).toInt = (8 * x2.toInt) + x5.toInt := ti_add t_12 rfl (by omega) (by omega)
      intro v13 e13
      have t_14 : v13.toInt = ((8 * x2.toInt) + x5.toInt) := (congrArg Int32.toInt e13).trans t_13
      have ih14 : vp_in v13 48 := vin t_14 (by omega) (by omega)
      refine ⟨ih14, ?_⟩
      have m_15 := iv_231 hS.1 (v13.toNatClampNeg)
      refine ⟨fun h15 => ?_, fun h15 => ?_⟩
      · have h15 : (d 231 v13.toNatClampNeg).toInt = 0 := (i_eq rfl (rfl : (0 : Int32).toInt = 0)).mp h15
        exact sb_X10_keeps_90 hn hQ hK42 _ _ _ _ _ _ _ _ hS (by omega) (by omega) (by omega) (by omega) (by omega) (by omega) (by omega)
      · have h15 : ¬ ((d 231 v13.toNatClampNeg).toInt = 0) := fun q => h15 ((i_eq rfl (rfl : (0 : Int32).toInt = 0)).mpr q)
        refine ⟨fun h29 => ?_, fun h29 => ?_⟩
        · have h29 : ¬ (x3.toInt = 0) := fun q => h29 ((i_eq rfl (rfl : (0 : Int32).toInt = 0)).mpr q)
          exact sb_X10_keeps_81 hn hQ hK42 _ _ _ _ _ _ hS (by omega) (by omega) (by omega) (by omega) (by omega)
        · have h29 : x3.toInt = 0 := (i_eq rfl (rfl : (0 : Int32).toInt = 0)).mp h29
          refine ⟨fun h30 => ?_, fun h30 => ?_⟩
          · have h30 : x4.toInt = 0 := (i_eq rfl (rfl : (0 : Int32).toInt = 0)).mp h30
            exact sb_X10_keeps_86 hn hQ hK42 _ _ _ _ _ _ _ hS (by omega) (by omega) (by omega) (by omega) (show 0 ≤ 0 ∧ 0 ≤ 1 from by omega) (by omega)
          · have h30 : ¬ (x4.toInt = 0) := fun q => h30 ((i_eq rfl (rfl : (0 : Int32).toInt = 0)).mpr q)
            exact sb_X10_keeps_81 hn hQ hK42 _ _ _ _ _ _ hS (by omega) (by omega) (by omega) (by omega) (by omega)
