set_option maxHeartbeats 4000000 in
set_option maxRecDepth 100000 in
theorem sb_X10_goes_200 {n : Nat} (hn : 1000000000 ≤ n) {e : DD} {el : LL} {Q : Int32 → DD → LL → Prop} (hQ : ∀ (r : Int32) (d2 : DD) (l2 : LL), St e el d2 l2 ∧ (0 ≤ r.toInt ∧ r.toInt ≤ 1) → Q r d2 l2) {K90 : Int32 → Int32 → Int32 → Int32 → Int32 → Int32 → Int32 → Int32 → DD → LL → Prop} {j90 : Nat} (hK90 : ∀ (x1 : Int32) (x2 : Int32) (x4 : Int32) (x5 : Int32) (x7 : Int32) (x8 : Int32) (x9 : Int32) (x10 : Int32) (d : DD) (dl : LL), St e el d dl → (0 ≤ x1.toInt ∧ x1.toInt ≤ 95) → (0 ≤ x2.toInt ∧ x2.toInt ≤ 3) → (0 ≤ x4.toInt ∧ x4.toInt ≤ 5) → (0 ≤ x5.toInt ∧ x5.toInt ≤ 8) → (1000 ≤ x8.toInt ∧ x8.toInt ≤ 20000) → (1 ≤ x10.toInt ∧ x10.toInt ≤ 2001) → (0 ≤ (d 234 x1.toNatClampNeg).toInt) → 2002 - x10.toInt < (j90 : Int) → K90 x1 x2 x4 x5 x7 x8 x9 x10 d dl) : ∀ (x1 : Int32) (x2 : Int32) (x4 : Int32) (x5 : Int32) (x7 : Int32) (x8 : Int32) (x9 : Int32) (x10 : Int32) (x12 : Int32) (d : DD) (dl : LL), St e el d dl → (0 ≤ x1.toInt ∧ x1.toInt ≤ 95) → (0 ≤ x2.toInt ∧ x2.toInt ≤ 3) → (0 ≤ x4.toInt ∧ x4.toInt ≤ 5) → (0 ≤ x5.toInt ∧ x5.toInt ≤ 8) → (1000 ≤ x8.toInt ∧ x8.toInt ≤ 20000) → (1 ≤ x10.toInt ∧ x10.toInt ≤ 2000) → (0 ≤ (d 234 x1.toNatClampNeg).toInt) → (1 ≤ x12.toInt) → 2002 - x10.toInt ≤ (j90 : Int) → b_X10_goes_200 n Q K90 x1 x2 x4 x5 x7 x8 x9 x10 x12 d dl := by
  intro x1 x2 x4 x5 x7 x8 x9 x10 x12 d dl hS bx1 bx2 bx4 bx5 bx8 bx10 bi0 bi1 hm90
  show b_X10_goes_203 n Q K90 n x1 x2 x4 x5 x7 x8 x9 x10 x12 0 d dl
  have m_23 := iv_234 hS.1 (x1.toNatClampNeg)
  exact sb_X10_goes_203 hn hQ hK90 n _ _ _ _ _ _ _ _ _ _ _ _ hS (by omega) (by omega) (by omega) (by omega) (by omega) (by omega) (show 0 ≤ 0 ∧ 0 ≤ 8 from by omega) (by omega) (by omega) (by omega) (show 9 - 0 < (n : Int) from by omega)
set_option maxHeartbeats 4000000 in
set_option maxRecDepth 100000 in
theorem sb_X10_goes_182 {n : Nat} (hn : 1000000000 ≤ n) {e : DD} {el : LL} {Q : Int32 → DD → LL → Prop} (hQ : ∀ (r : Int32) (d2 : DD) (l2 : LL), St e el d2 l2 ∧ (0 ≤ r.toInt ∧ r.toInt ≤ 1) → Q r d2 l2) {K90 : Int32 → Int32 → Int32 → Int32 → Int32 → Int32 → Int32 → Int32 → DD → LL → Prop} {j90 : Nat} (hK90 : ∀ (x1 : Int32) (x2 : Int32) (x4 : Int32) (x5 : Int32) (x7 : Int32) (x8 : Int32) (x9 : Int32) (x10 : Int32) (d : DD) (dl : LL), St e el d dl → (0 ≤ x1.toInt ∧ x1.toInt ≤ 95) → (0 ≤ x2.toInt ∧ x2.toInt ≤ 3) → (0 ≤ x4.toInt ∧ x4.toInt ≤ 5) → (0 ≤ x5.toInt ∧ x5.toInt ≤ 8) → (1000 ≤ x8.toInt ∧ x8.toInt ≤ 20000) → (1 ≤ x10.toInt ∧ x10.toInt ≤ 2001) → (0 ≤ (d 234 x1.toNatClampNeg).toInt) → 2002 - x10.toInt < (j90 : Int) → K90 x1 x2 x4 x5 x7 x8 x9 x10 d dl) : ∀ (x1 : Int32) (x2 : Int32) (x4 : Int32) (x5 : Int32) (x7 : Int32) (x8 : Int32) (x9 : Int32) (x10 : Int32) (xs0 : Int32) (d : DD) (dl : LL), St e el d dl → (0 ≤ x1.toInt ∧ x1.toInt ≤ 95) → (0 ≤ x2.toInt ∧ x2.toInt ≤ 3) → (0 ≤ x4.toInt ∧ x4.toInt ≤ 5) → (0 ≤ x5.toInt ∧ x5.toInt ≤ 8) → (1000 ≤ x8.toInt ∧ x8.toInt ≤ 20000) → (1 ≤ x10.toInt ∧ x10.toInt ≤ 2000) → (0 ≤ (d 234 x1.toNatClampNeg).toInt) → 2002 - x10.toInt ≤ (j90 : Int) → b_X10_goes_182 n Q K90 x1 x2 x4 x5 x7 x8 x9 x10 xs0 d dl := by
  intro x1 x2 x4 x5 x7 x8 x9 x10 xs0 d dl hS bx1 bx2 bx4 bx5 bx8 bx10 bi0 hm90
  show vp_in x2 4 ∧ ∀ v17 : Int32, v17 = (xs0 + (d 240 x2.toNatClampNeg)) → (1 ≤ v17 → b_X10_goes_200 n Q K90 x1 x2 x4 x5 x7 x8 x9 x10 v17 d dl) ∧ (¬ 1 ≤ v17 → b_X10_goes_200 n Q K90 x1 x2 x4 x5 x7 x8 x9 x10 1 d dl)
  have ih16 : vp_in x2 4 := vin rfl (by omega) (by omega)
  refine ⟨ih16, ?_⟩
  intro v17 e17
  have t_24 : v17.toInt = (xs0 + (d 240 x2.toNatClampNeg)).toInt := (congrArg Int32.toInt e17).trans rfl
  refine ⟨fun h18 => ?_, fun h18 => ?_⟩
  · have h18 : 1 ≤ (xs0 + (d 240 x2.toNatClampNeg)).toInt := (i_le (rfl : (1 : Int32).toInt = 1) t_24).mp h18
    have m_25 := iv_234 hS.1 (x1.toNatClampNeg)
    exact sb_X10_goes_200 hn hQ hK90 _ _ _ _ _ _ _ _ _ _ _ hS (by omega) (by omega) (by omega) (by omega) (by omega) (by omega) (by omega) (by omega) (by omega)
  · have h18 : ¬ (1 ≤ (xs0 + (d 240 x2.toNatClampNeg)).toInt) := fun q => h18 ((i_le (rfl : (1 : Int32).toInt = 1) t_24).mpr q)
    have m_26 := iv_234 hS.1 (x1.toNatClampNeg)
    exact sb_X10_goes_200 hn hQ hK90 _ _ _ _ _ _ _ _ _ _ _ hS (by omega) (by omega) (by omega) (by omega) (by omega) (by omega) (by omega) (show 1 ≤ 1 from by omega) (by omega)
set_option maxHeartbeats 4000000 in
set_option maxRecDepth 100000 in
theorem sb_X10_goes_104 {n : Nat} (hn : 1000000000 ≤ n) {e : DD} {el : LL} {Q : Int32 → DD → LL → Prop} (hQ : ∀ (r : Int32) (d2 : DD) (l2 : LL), St e el d2 l2 ∧ (0 ≤ r.toInt ∧ r.toInt ≤ 1) → Q r d2 l2) {K90 : Int32 → Int32 → Int32 → Int32 → Int32 → Int32 → Int32 → Int32 → DD → LL → Prop} {j90 : Nat} (hK90 : ∀ (x1 : Int32) (x2 : Int32) (x4 : Int32) (x5 : Int32) (x7 : Int32) (x8 : Int32) (x9 : Int32) (x10 : Int32) (d : DD) (dl : LL), St e el d dl → (0 ≤ x1.toInt ∧ x1.toInt ≤ 95) → (0 ≤ x2.toInt ∧ x2.toInt ≤ 3) → (0 ≤ x4.toInt ∧ x4.toInt ≤ 5) → (0 ≤ x5.toInt ∧ x5.toInt ≤ 8) → (1000 ≤ x8.toInt ∧ x8.toInt ≤ 20000) → (1 ≤ x10.toInt ∧ x10.toInt ≤ 2001) → (0 ≤ (d 234 x1.toNatClampNeg).toInt) → 2002 - x10.toInt < (j90 : Int) → K90 x1 x2 x4 x5 x7 x8 x9 x10 d dl) : ∀ (j104 : Nat) (x1 : Int32) (x2 : Int32) (x4 : Int32) (x5 : Int32) (x7 : Int32) (x8 : Int32) (x9 : Int32) (x10 : Int32) (x11 : Int32) (x12 : Int32) (d : DD) (dl : LL), St e el d dl → (0 ≤ x1.toInt ∧ x1.toInt ≤ 95) → (0 ≤ x2.toInt ∧ x2.toInt ≤ 3) → (0 ≤ x4.toInt ∧ x4.toInt ≤ 5) → (0 ≤ x5.toInt ∧ x5.toInt ≤ 8) → (1000 ≤ x8.toInt ∧ x8.toInt ≤ 20000) → (1 ≤ x10.toInt ∧ x10.toInt ≤ 2000) → (0 ≤ x12.toInt ∧ x12.toInt ≤ 8) → (0 ≤ (d 234 x1.toNatClampNeg).toInt) → 2002 - x10.toInt ≤ (j90 : Int) → 9 - x12.toInt < (j104 : Int) → b_X10_goes_104 n Q K90 j104 x1 x2 x4 x5 x7 x8 x9 x10 x11 x12 d dl := by
  intro j104
  induction j104 with
  | zero =>
    intro x1 x2 x4 x5 x7 x8 x9 x10 x11 x12 d dl hS bx1 bx2 bx4 bx5 bx8 bx10 bx12 bi0 hm90 hm104
    exfalso
    omega
  | succ j104 hK104 =>
    intro x1 x2 x4 x5 x7 x8 x9 x10 x11 x12 d dl hS bx1 bx2 bx4 bx5 bx8 bx10 bx12 bi0 hm90 hm104
    show (x5 ≤ x12 → vp_in x4 6 ∧ ∀ v14 : Int32, v14 = (x11 * (d 221 x4.toNatClampNeg)) → (1 ≤ (v14 - x7) → b_X10_goes_182 n Q K90 x1 x2 x4 x5 x7 x8 x9 x10 (v14 - x7) d dl) ∧ (¬ 1 ≤ (v14 - x7) → b_X10_goes_182 n Q K90 x1 x2 x4 x5 x7 x8 x9 x10 1 d dl)) ∧ (¬ x5 ≤ x12 → vp_in (((8 : Int32) * x4) + x12) 48 ∧ vp_in (d 223 (((8 : Int32) * x4) + x12).toNatClampNeg) 40 ∧ vp_in x12 8 ∧ ∀ v42 : Int32, v42 = (x11 + (((d 213 (d 223 (((8 : Int32) * x4) + x12).toNatClampNeg).toNatClampNeg) * (d 246 x12.toNatClampNeg)) / 1000)) → (b_X10_goes_104 n Q K90 j104) x1 x2 x4 x5 x7 x8 x9 x10 v42 (x12 + 1) d dl)
    refine ⟨fun h12 => ?_, fun h12 => ?_⟩
    · have h12 : x5.toInt ≤ x12.toInt := (i_le rfl rfl).mp h12
      have ih13 : vp_in x4 6 := vin rfl (by omega) (by omega)
      refine ⟨ih13, ?_⟩
      intro v14 e14
      have t_27 : v14.toInt = (x11 * (d 221 x4.toNatClampNeg)).toInt := (congrArg Int32.toInt e14).trans rfl
      refine ⟨fun h15 => ?_, fun h15 => ?_⟩
      · have h15 : 1 ≤ (v14 - x7).toInt := (i_le (rfl : (1 : Int32).toInt = 1) rfl).mp h15
        have m_28 := iv_234 hS.1 (x1.toNatClampNeg)
        exact sb_X10_goes_182 hn hQ hK90 _ _ _ _ _ _ _ _ _ _ _ hS (by omega) (by omega) (by omega) (by omega) (by omega) (by omega) (by omega) (by omega)
      · have h15 : ¬ (1 ≤ (v14 - x7).toInt) := fun q => h15 ((i_le (rfl : (1 : Int32).toInt = 1) rfl).mpr q)
        have m_29 := iv_234 hS.1 (x1.toNatClampNeg)
        exact sb_X10_goes_182 hn hQ hK90 _ _ _ _ _ _ _ _ _ _ _ hS (by omega) (by omega) (by omega) (by omega) (by omega) (by omega) (by omega) (by omega)
    · have h12 : ¬ (x5.toInt ≤ x12.toInt) := fun q => h12 ((i_le rfl rfl).mpr q)
      have t_30 : ((8 : Int32) * x4).toInt = 8 * x4.toInt := ti_mul (rfl : (8 : Int32).toInt = 8) rfl (by omega) (by omega)
      have t_31 : (((8 : Int32) * x4) + x12).toInt = (8 * x4.toInt) + x12.toInt := ti_add t_30 rfl (by omega) (by omega)
      have ih39 : vp_in (((8 : Int32) * x4) + x12) 48 := vin t_31 (by omega) (by omega)
      refine ⟨ih39, ?_⟩
      have m_32 := iv_223 hS.1 ((((8 : Int32) * x4) + x12).toNatClampNeg)
      have ih40 : vp_in (d 223 (((8 : Int32) * x4) + x12).toNatClampNeg) 40 := vin rfl (by omega) (by omega)
      refine ⟨ih40, ?_⟩
      have ih41 : vp_in x12 8 := vin rfl (by omega) (by omega)
      refine ⟨ih41, ?_⟩
      intro v42 e42
      have t_33 : v42.toInt = (x11 + (((d 213 (d 223 (((8 : Int32) * x4) + x12).toNatClampNeg).toNatClampNeg) * (d 246 x12.toNatClampNeg)) / 1000)).toInt := (congrArg Int32.toInt e42).trans rfl
      have t_34 : (x12 + 1).toInt = x12.toInt + 1 := ti_add rfl (rfl : (1 : Int32).toInt = 1) (by omega) (by omega)
      have m_35 := iv_234 hS.1 (x1.toNatClampNeg)
      exact hK104 _ _ _ _ _ _ _ _ _ _ _ _ hS (by omega) (by omega) (by omega) (by omega) (by omega) (by omega) (by omega) (by omega) (by omega) (by omega)
set_option maxHeartbeats 4000000 in
set_option maxRecDepth 100000 in
theorem sb_X10_goes_90 {n : Nat} (hn : 1000000000 ≤ n) {e : DD} {el : LL} {Q : Int32 → DD → LL → Prop} (hQ : ∀ (r : Int32) (d2 : DD) (l2 : LL), St e el d2 l2 ∧ (0 ≤ r.toInt ∧ r.toInt ≤ 1) → Q r d2 l2) : ∀ (j90 : Nat) (x1 : Int32) (x2 : Int32) (x4 : Int32) (x5 : Int32) (x7 : Int32) (x8 : Int32) (x9 : Int32) (x10 : Int32) (d : DD) (dl : LL), St e el d dl → (0 ≤ x1.toInt ∧ x1.toInt ≤ 95) → (0 ≤ x2.toInt ∧ x2.toInt ≤ 3) → (0 ≤ x4.toInt ∧ x4.toInt ≤ 5) → (0 ≤ x5.toInt ∧ x5.toInt ≤ 8) → (1000 ≤ x8.toInt ∧ x8.toInt ≤ 20000) → (1 ≤ x10.toInt ∧ x10.toInt ≤ 2001) → (0 ≤ (d 234 x1.toNatClampNeg).toInt) → 2002 - x10.toInt < (j90 : Int) → b_X10_goes_90 n Q j90 x1 x2 x4 x5 x7 x8 x9 x10 d dl := by
  intro j90
  induction j90 with
  | zero =>
    intro x1 x2 x4 x5 x7 x8 x9 x10 d dl hS bx1 bx2 bx4 bx5 bx8 bx10 bi0 hm90
    exfalso
    omega
  | succ j90 hK90 =>
    intro x1 x2 x4 x5 x7 x8 x9 x10 d dl hS bx1 bx2 bx4 bx5 bx8 bx10 bi0 hm90
    show (2000 < x10 → Q 0 d dl) ∧ (¬ 2000 < x10 → b_X10_goes_104 n Q (b_X10_goes_90 n Q j90) n x1 x2 x4 x5 x7 x8 x9 x10 0 0 d dl)
    refine ⟨fun h11 => ?_, fun h11 => ?_⟩
    · have h11 : 2000 < x10.toInt := (i_lt (rfl : (2000 : Int32).toInt = 2000) rfl).mp h11
      exact hQ _ _ _ ⟨hS, (show (0 ≤ 0 ∧ 0 ≤ 1) from by omega)⟩
    · have h11 : ¬ (2000 < x10.toInt) := fun q => h11 ((i_lt (rfl : (2000 : Int32).toInt = 2000) rfl).mpr q)
      have m_36 := iv_234 hS.1 (x1.toNatClampNeg)
      exact sb_X10_goes_104 hn hQ hK90 n _ _ _ _ _ _ _ _ _ _ _ _ hS (by omega) (by omega) (by omega) (by omega) (by omega) (by omega) (show 0 ≤ 0 ∧ 0 ≤ 8 from by omega) (by omega) (by omega) (show 9 - 0 < (n : Int) from by omega)
set_option maxHeartbeats 4000000 in
set_option maxRecDepth 100000 in
theorem sb_X10_goes_76 {n : Nat} (hn : 1000000000 ≤ n) {e : DD} {el : LL} {Q : Int32 → DD → LL → Prop} (hQ : ∀ (r : Int32) (d2 : DD) (l2 : LL), St e el d2 l2 ∧ (0 ≤ r.toInt ∧ r.toInt ≤ 1) → Q r d2 l2) : ∀ (x1 : Int32) (x2 : Int32) (x3 : Int32) (x4 : Int32) (x5 : Int32) (xs0 : Int32) (d : DD) (dl : LL), St e el d dl → (0 ≤ x1.toInt ∧ x1.toInt ≤ 95) → (0 ≤ x2.toInt ∧ x2.toInt ≤ 3) → (100 ≤ x3.toInt ∧ x3.toInt ≤ 2000) → (0 ≤ x4.toInt ∧ x4.toInt ≤ 5) → (0 ≤ x5.toInt ∧ x5.toInt ≤ 8) → (0 ≤ (d 234 x1.toNatClampNeg).toInt) → b_X10_goes_76 n Q x1 x2 x3 x4 x5 xs0 d dl := by
  intro x1 x2 x3 x4 x5 xs0 d dl hS bx1 bx2 bx3 bx4 bx5 bi0
  show ∀ v10 : Int32, v10 = ((10 : Int32) * x3) → b_X10_goes_90 n Q n x1 x2 x4 x5 xs0 v10 0 1 d dl
  have t_37 : ((10 : Int32) * x3).toInt = 10 * x3.toInt := ti_mul (rfl : (10 : Int32).toInt = 10) rfl (by omega) (by omega)
  intro v10 e10
  have t_38 : v10.toInt = (10 * x3.toInt) := (congrArg Int32.toInt e10).trans t_37
  have m_39 := iv_234 hS.1 (x1.toNatClampNeg)
  exact sb_X10_goes_90 hn hQ n _ _ _ _ _ _ _ _ _ _ hS (by omega) (by omega) (by omega) (by omega) (by omega) (show 1 ≤ 1 ∧ 1 ≤ 2001 from by omega) (by omega) (show 2002 - 1 < (n : Int) from by omega)
set_option maxHeartbeats 4000000 in
set_option maxRecDepth 100000 in
theorem sb_X10_goes_22 {n : Nat} (hn : 1000000000 ≤ n) {e : DD} {el : LL} {Q : Int32 → DD → LL → Prop} (hQ : ∀ (r : Int32) (d2 : DD) (l2 : LL), St e el d2 l2 ∧ (0 ≤ r.toInt ∧ r.toInt ≤ 1) → Q r d2 l2) : ∀ (j22 : Nat) (x1 : Int32) (x2 : Int32) (x3 : Int32) (x4 : Int32) (x5 : Int32) (x6 : Int32) (d : DD) (dl : LL), St e el d dl → (0 ≤ x1.toInt ∧ x1.toInt ≤ 95) → (0 ≤ x2.toInt ∧ x2.toInt ≤ 3) → (100 ≤ x3.toInt ∧ x3.toInt ≤ 2000) → (0 ≤ x4.toInt ∧ x4.toInt ≤ 5) → (0 ≤ x5.toInt ∧ x5.toInt ≤ 8) → (0 ≤ x6.toInt ∧ x6.toInt ≤ 8) → (0 ≤ (d 234 x1.toNatClampNeg).toInt) → 9 - x6.toInt < (j22 : Int) → b_X10_goes_22 n Q j22 x1 x2 x3 x4 x5 x6 d dl := by
  intro j22
  induction j22 with
  | zero =>
    intro x1 x2 x3 x4 x5 x6 d dl hS bx1 bx2 bx3 bx4 bx5 bx6 bi0 hm22
    exfalso
    omega
  | succ j22 hK22 =>
    intro x1 x2 x3 x4 x5 x6 d dl hS bx1 bx2 bx3 bx4 bx5 bx6 bi0 hm22
    show (x5 ≤ x6 → F_X10_tilt n x4 223 ((8 : Int32) * x4) d dl (fun r6 d7 l8 => (0 ≤ r6 → b_X10_goes_76 n Q x1 x2 x3 x4 x5 (r6 / 10) d7 l8) ∧ (¬ 0 ≤ r6 → b_X10_goes_76 n Q x1 x2 x3 x4 x5 0 d7 l8))) ∧ (¬ x5 ≤ x6 → vp_in x6 8 ∧ ∀ d44 : DD, d44 = u2 d 246 x6.toNatClampNeg 1000 → (b_X10_goes_22 n Q j22) x1 x2 x3 x4 x5 (x6 + 1) d44 dl)
    refine ⟨fun h5 => ?_, fun h5 => ?_⟩
    · have h5 : x5.toInt ≤ x6.toInt := (i_le rfl rfl).mp h5
      have t_40 : ((8 : Int32) * x4).toInt = 8 * x4.toInt := ti_mul (rfl : (8 : Int32).toInt = 8) rfl (by omega) (by omega)
      refine sp_X10_tilt hn hS.1 ⟨kn_223.1, kn_223.2.1, rfl⟩ ⟨by omega, by omega⟩ ⟨by rw [t_40]; omega, by rw [t_40]; omega⟩ (Or.inr rfl) (by rw [show ln 223 = 48 from rfl]; omega) (fun r6 d7 l8 ⟨p_41, u_42⟩ => ?_)
      have s_43 : St e el d7 l8 := hS.sq p_41
      have w_44 : d7 = d := p_41.2.1
      refine ⟨fun h9 => ?_, fun h9 => ?_⟩
      · have h9 : 0 ≤ r6.toInt := (i_le (rfl : (0 : Int32).toInt = 0) rfl).mp h9
        have t_45 : (r6 / 10).toInt = r6.toInt / 10 := ti_div rfl (rfl : (10 : Int32).toInt = 10) (by omega) (by omega)
        have q_46 : d7 234 x1.toNatClampNeg = (d 234 x1.toNatClampNeg) := by rw [w_44]
        have m_47 := iv_234 hS.1 (x1.toNatClampNeg)
        have t_48 : (d7 234 x1.toNatClampNeg).toInt = (d 234 x1.toNatClampNeg).toInt := (congrArg Int32.toInt q_46).trans rfl
        exact sb_X10_goes_76 hn hQ _ _ _ _ _ _ _ _ s_43 (by omega) (by omega) (by omega) (by omega) (by omega) (by omega)
      · have h9 : ¬ (0 ≤ r6.toInt) := fun q => h9 ((i_le (rfl : (0 : Int32).toInt = 0) rfl).mpr q)
        have q_49 : d7 234 x1.toNatClampNeg = (d 234 x1.toNatClampNeg) := by rw [w_44]
        have m_50 := iv_234 hS.1 (x1.toNatClampNeg)
        have t_51 : (d7 234 x1.toNatClampNeg).toInt = (d 234 x1.toNatClampNeg).toInt := (congrArg Int32.toInt q_49).trans rfl
        exact sb_X10_goes_76 hn hQ _ _ _ _ _ _ _ _ s_43 (by omega) (by omega) (by omega) (by omega) (by omega) (by omega)
    · have h5 : ¬ (x5.toInt ≤ x6.toInt) := fun q => h5 ((i_le rfl rfl).mpr q)
      have ih43 : vp_in x6 8 := vin rfl (by omega) (by omega)
      refine ⟨ih43, ?_⟩
      intro d44 ed44
      have s_52 : St e el d44 dl := by rw [ed44]; exact pv_246 hS
      have t_53 : (x6 + 1).toInt = x6.toInt + 1 := ti_add rfl (rfl : (1 : Int32).toInt = 1) (by omega) (by omega)
      have q_54 : d44 234 x1.toNatClampNeg = (d 234 x1.toNatClampNeg) := by rw [ed44, u2_row (by omega)]
      have m_55 := iv_234 hS.1 (x1.toNatClampNeg)
      have t_56 : (d44 234 x1.toNatClampNeg).toInt = (d 234 x1.toNatClampNeg).toInt := (congrArg Int32.toInt q_54).trans rfl
      exact hK22 _ _ _ _ _ _ _ _ s_52 (by omega) (by omega) (by omega) (by omega) (by omega) (by omega) (by omega) (by omega)
set_option maxHeartbeats 4000000 in
set_option maxRecDepth 100000 in
theorem sp_X10_goes {n : Nat} (hn : 1000000000 ≤ n) {x1 : Int32} {x2 : Int32} {x3 : Int32} {d : DD} {dl : LL} (hI : Inv d) (bx1 : 0 ≤ x1.toInt ∧ x1.toInt ≤ 95) (bx2 : 0 ≤ x2.toInt ∧ x2.toInt ≤ 3) (bx3 : 100 ≤ x3.toInt ∧ x3.toInt ≤ 2000) (hgo : 0 ≤ (d 234 x1.toNatClampNeg).toInt) {Q : Int32 → DD → LL → Prop} (hQ : ∀ (r : Int32) (d2 : DD) (l2 : LL), St d dl d2 l2 ∧ (0 ≤ r.toInt ∧ r.toInt ≤ 1) → Q r d2 l2) : F_X10_goes n x1 x2 x3 d dl Q := by
  obtain ⟨e, he⟩ : ∃ e : DD, e = d := ⟨_, rfl⟩
  obtain ⟨el, hel⟩ : ∃ el : LL, el = dl := ⟨_, rfl⟩
  have hS : St e el d dl := by rw [he, hel]; exact St.rf hI
  rw [← he, ← hel] at hQ
  show vp_in x1 96 ∧ ∀ v2 : Int32, v2 = (d 234 x1.toNatClampNeg) → vp_in v2 6 ∧ ∀ v4 : Int32, v4 = ((2 : Int32) * (d 218 v2.toNatClampNeg)) → b_X10_goes_22 n Q n x1 x2 x3 v2 v4 0 d dl
  have ih1 : vp_in x1 96 := vin rfl (by omega) (by omega)
  refine ⟨ih1, ?_⟩
  have m_57 := iv_234 hS.1 (x1.toNatClampNeg)
  intro v2 e2
  have t_58 : v2.toInt = (d 234 x1.toNatClampNeg).toInt := (congrArg Int32.toInt e2).trans rfl
  have ih3 : vp_in v2 6 := vin t_58 (by omega) (by omega)
  refine ⟨ih3, ?_⟩
  have m_59 := iv_218 hS.1 (v2.toNatClampNeg)
  have t_60 : ((2 : Int32) * (d 218 v2.toNatClampNeg)).toInt = 2 * (d 218 v2.toNatClampNeg).toInt := ti_mul (rfl : (2 : Int32).toInt = 2) rfl (by omega) (by omega)
  intro v4 e4
  have t_61 : v4.toInt = (2 * (d 218 v2.toNatClampNeg).toInt) := (congrArg Int32.toInt e4).trans t_60
  exact sb_X10_goes_22 hn hQ n _ _ _ _ _ _ _ _ hS (by omega) (by omega) (by omega) (by omega) (by omega) (show 0 ≤ 0 ∧ 0 ≤ 8 from by omega) (by omega) (show 9 - 0 < (n : Int) from by omega)
set_option maxHeartbeats 4000000 in
set_option maxRecDepth 100000 in
theorem sb_X10_run_79 {n : Nat} (hn : 1000000000 ≤ n) {e : DD} {el : LL} {Q : Int32 → DD → LL → Prop} (hQ : ∀ (r : Int32) (d2 : DD) (l2 : LL), St e el d2 l2 ∧ (True) → Q r d2 l2) : ∀ (j79 : Nat) (x1 : Int32) (x2 : Int32) (x3 : Int32) (x4 : Int32) (d : DD) (dl : LL), St e el d dl → (0 ≤ x1.toInt ∧ x1.toInt ≤ 23) → (100 ≤ x2.toInt ∧ x2.toInt ≤ 2000) → (0 ≤ x4.toInt ∧ x4.toInt ≤ 4) → 5 - x4.toInt < (j79 : Int) → b_X10_run_79 n Q j79 x1 x2 x3 x4 d dl := by
  intro j79
  induction j79 with
  | zero =>
    intro x1 x2 x3 x4 d dl hS bx1 bx2 bx4 hm79
    exfalso
    omega
  | succ j79 hK79 =>
    intro x1 x2 x3 x4 d dl hS bx1 bx2 bx4 hm79
    show (4 ≤ x4 → Q x3 d dl) ∧ (¬ 4 ≤ x4 → ∀ v13 : Int32, v13 = (((4 : Int32) * x1) + x4) → vp_in v13 96 ∧ ((d 234 v13.toNatClampNeg) = (-1) → (b_X10_run_79 n Q j79) x1 x2 x3 (x4 + 1) d dl) ∧ (¬ (d 234 v13.toNatClampNeg) = (-1) → vp_in v13 96 ∧ (¬ (d 237 v13.toNatClampNeg) = 0 → (b_X10_run_79 n Q j79) x1 x2 x3 (x4 + 1) d dl) ∧ ((d 237 v13.toNatClampNeg) = 0 → vp_in v13 96 ∧ vp_in (d 234 v13.toNatClampNeg) 6 ∧ ((d 224 (d 234 v13.toNatClampNeg).toNatClampNeg) = 0 → (b_X10_run_79 n Q j79) x1 x2 x3 (x4 + 1) d dl) ∧ (¬ (d 224 (d 234 v13.toNatClampNeg).toNatClampNeg) = 0 → F_X10_goes n v13 x4 x2 d dl (fun r21 d22 l23 => (r21 = 0 → (b_X10_run_79 n Q j79) x1 x2 x3 (x4 + 1) d22 l23) ∧ (¬ r21 = 0 → (b_X10_run_79 n Q j79) x1 x2 (x3 + 1) (x4 + 1) d22 l23))))))
    refine ⟨fun h12 => ?_, fun h12 => ?_⟩
    · have h12 : 4 ≤ x4.toInt := (i_le (rfl : (4 : Int32).toInt = 4) rfl).mp h12
      exact hQ _ _ _ ⟨hS, trivial⟩
    · have h12 : ¬ (4 ≤ x4.toInt) := fun q => h12 ((i_le (rfl : (4 : Int32).toInt = 4) rfl).mpr q)
      have t_1 : ((4 : Int32) * x1).toInt = 4 * x1.toInt := ti_mul (rfl : (4 : Int32).toInt = 4) rfl (by omega) (by omega)
      have t_2 : (((4 : Int32) * x1) + x4).toInt = (4 * x1.toInt) + x4.toInt := ti_add t_1 rfl (by omega) (by omega)
      intro v13 e13
      have t_3 : v13.toInt = ((4 * x1.toInt) + x4.toInt) := (congrArg Int32.toInt e13).trans t_2
      have ih14 : vp_in v13 96 := vin t_3 (by omega) (by omega)
      refine ⟨ih14, ?_⟩
      have m_4 := iv_234 hS.1 (v13.toNatClampNeg)
      refine ⟨fun h15 => ?_, fun h15 => ?_⟩
      · have h15 : (d 234 v13.toNatClampNeg).toInt = (-1) := (i_eq rfl (rfl : ((-1) : Int32).toInt = (-1))).mp h15
        have t_5 : (x4 + 1).toInt = x4.toInt + 1 := ti_add rfl (rfl : (1 : Int32).toInt = 1) (by omega) (by omega)
        exact hK79 _ _ _ _ _ _ hS (by omega) (by omega) (by omega) (by omega)
      · have h15 : ¬ ((d 234 v13.toNatClampNeg).toInt = (-1)) := fun q => h15 ((i_eq rfl (rfl : ((-1) : Int32).toInt = (-1))).mpr q)
        have ih16 : vp_in v13 96 := vin t_3 (by omega) (by omega)
        refine ⟨ih16, ?_⟩
        have m_6 := iv_237 hS.1 (v13.toNatClampNeg)
        refine ⟨fun h17 => ?_, fun h17 => ?_⟩
        · have h17 : ¬ ((d 237 v13.toNatClampNeg).toInt = 0) := fun q => h17 ((i_eq rfl (rfl : (0 : Int32).toInt = 0)).mpr q)
          have t_7 : (x4 + 1).toInt = x4.toInt + 1 := ti_add rfl (rfl : (1 : Int32).toInt = 1) (by omega) (by omega)
          exact hK79 _ _ _ _ _ _ hS (by omega) (by omega) (by omega) (by omega)
        · have h17 : (d 237 v13.toNatClampNeg).toInt = 0 := (i_eq rfl (rfl : (0 : Int32).toInt = 0)).mp h17
          have ih18 : vp_in v13 96 := vin t_3 (by omega) (by omega)
          refine ⟨ih18, ?_⟩
          have ih19 : vp_in (d 234 v13.toNatClampNeg) 6 := vin rfl (by omega) (by omega)
          refine ⟨ih19, ?_⟩
          have m_8 := iv_224 hS.1 ((d 234 v13.toNatClampNeg).toNatClampNeg)
          refine ⟨fun h20 => ?_, fun h20 => ?_⟩
          · have h20 : (d 224 (d 234 v13.toNatClampNeg).toNatClampNeg).toInt = 0 := (i_eq rfl (rfl : (0 : Int32).toInt = 0)).mp h20
            have t_9 : (x4 + 1).toInt = x4.toInt + 1 := ti_add rfl (rfl : (1 : Int32).toInt = 1) (by omega) (by omega)
            exact hK79 _ _ _ _ _ _ hS (by omega) (by omega) (by omega) (by omega)
          · have h20 : ¬ ((d 224 (d 234 v13.toNatClampNeg).toNatClampNeg).toInt = 0) := fun q => h20 ((i_eq rfl (rfl : (0 : Int32).toInt = 0)).mpr q)
            refine sp_X10_goes hn hS.1 ⟨by rw [t_3]; omega, by rw [t_3]; omega⟩ ⟨by omega, by omega⟩ ⟨by omega, by omega⟩ (by omega) (fun r21 d22 l23 ⟨p_10, u_11⟩ => ?_)
            have s_12 : St e el d22 l23 := hS.tr p_10
            replace u_11 : (0 ≤ r21.toInt ∧ r21.toInt ≤ 1) := u_11
            refine ⟨fun h24 => ?_, fun h24 => ?_⟩
            · have h24 : r21.toInt = 0 := (i_eq rfl (rfl : (0 : Int32).toInt = 0)).mp h24
              have t_13 : (x4 + 1).toInt = x4.toInt + 1 := ti_add rfl (rfl : (1 : Int32).toInt = 1) (by omega) (by omega)
              exact hK79 _ _ _ _ _ _ s_12 (by omega) (by omega) (by omega) (by omega)
            · have h24 : ¬ (r21.toInt = 0) := fun q => h24 ((i_eq rfl (rfl : (0 : Int32).toInt = 0)).mpr q)
              have t_14 : (x4 + 1).toInt = x4.toInt + 1 := ti_add rfl (rfl : (1 : Int32).toInt = 1) (by omega) (by omega)
              exact hK79 _ _ _ _ _ _ s_12 (by omega) (by omega) (by omega) (by omega)
set_option maxHeartbeats 4000000 in
set_option maxRecDepth 100000 in
theorem sb_X10_run_28 {n : Nat} (hn : 1000000000 ≤ n) {e : DD} {el : LL} {Q : Int32 → DD → LL → Prop} (hQ : ∀ (r : Int32) (d2 : DD) (l2 : LL), St e el d2 l2 ∧ (True) → Q r d2 l2) : ∀ (j28 : Nat) (x1 : Int32) (x2 : Int32) (x3 : Int32) (d : DD) (dl : LL), St e el d dl → (0 ≤ x1.toInt ∧ x1.toInt ≤ 23) → (100 ≤ x2.toInt ∧ x2.toInt ≤ 2000) → (0 ≤ x3.toInt ∧ x3.toInt ≤ 4) → 5 - x3.toInt < (j28 : Int) → b_X10_run_28 n Q j28 x1 x2 x3 d dl := by
  intro j28
  induction j28 with
  | zero =>
    intro x1 x2 x3 d dl hS bx1 bx2 bx3 hm28
    exfalso
    omega
  | succ j28 hK28 =>
    intro x1 x2 x3 d dl hS bx1 bx2 bx3 hm28
    show (4 ≤ x3 → vp_in x1 24 ∧ ((d 238 x1.toNatClampNeg) = 0 → vp_in x1 24 ∧ ∀ d11 : DD, d11 = u2 d 238 x1.toNatClampNeg (vp_nar .boolean 1) → b_X10_run_79 n Q n x1 x2 0 0 d11 dl) ∧ (¬ (d 238 x1.toNatClampNeg) = 0 → Q (-3) d dl)) ∧ (¬ 4 ≤ x3 → vp_in (((4 : Int32) * x1) + x3) 96 ∧ ((d 235 (((4 : Int32) * x1) + x3).toNatClampNeg) ≤ 0 → (b_X10_run_28 n Q j28) x1 x2 (x3 + 1) d dl) ∧ (¬ (d 235 (((4 : Int32) * x1) + x3).toNatClampNeg) ≤ 0 → Q (-3) d dl))
    refine ⟨fun h7 => ?_, fun h7 => ?_⟩
    · have h7 : 4 ≤ x3.toInt := (i_le (rfl : (4 : Int32).toInt = 4) rfl).mp h7
      have ih8 : vp_in x1 24 := vin rfl (by omega) (by omega)
      refine ⟨ih8, ?_⟩
      have m_15 := iv_238 hS.1 (x1.toNatClampNeg)
      refine ⟨fun h9 => ?_, fun h9 => ?_⟩
      · have h9 : (d 238 x1.toNatClampNeg).toInt = 0 := (i_eq rfl (rfl : (0 : Int32).toInt = 0)).mp h9
        have ih10 : vp_in x1 24 := vin rfl (by omega) (by omega)
        refine ⟨ih10, ?_⟩
        intro d11 ed11
        have s_16 : St e el d11 dl := by rw [ed11]; exact pv_238 hS (vn_in _).1 (vn_in _).2
        exact sb_X10_run_79 hn hQ n _ _ _ _ _ _ s_16 (by omega) (by omega) (show 0 ≤ 0 ∧ 0 ≤ 4 from by omega) (show 5 - 0 < (n : Int) from by omega)
      · have h9 : ¬ ((d 238 x1.toNatClampNeg).toInt = 0) := fun q => h9 ((i_eq rfl (rfl : (0 : Int32).toInt = 0)).mpr q)
        exact hQ _ _ _ ⟨hS, trivial⟩
    · have h7 : ¬ (4 ≤ x3.toInt) := fun q => h7 ((i_le (rfl : (4 : Int32).toInt = 4) rfl).mpr q)
      have t_17 : ((4 : Int32) * x1).toInt = 4 * x1.toInt := ti_mul (rfl : (4 : Int32).toInt = 4) rfl (by omega) (by omega)
      have t_18 : (((4 : Int32) * x1) + x3).toInt = (4 * x1.toInt) + x3.toInt := ti_add t_17 rfl (by omega) (by omega)
      have ih25 : vp_in (((4 : Int32) * x1) + x3) 96 := vin t_18 (by omega) (by omega)
      refine ⟨ih25, ?_⟩
      refine ⟨fun h26 => ?_, fun h26 => ?_⟩
      · have h26 : (d 235 (((4 : Int32) * x1) + x3).toNatClampNeg).toInt ≤ 0 := (i_le rfl (rfl : (0 : Int32).toInt = 0)).mp h26
        have t_19 : (x3 + 1).toInt = x3.toInt + 1 := ti_add rfl (rfl : (1 : Int32).toInt = 1) (by omega) (by omega)
        exact hK28 _ _ _ _ _ hS (by omega) (by omega) (by omega) (by omega)
      · have h26 : ¬ ((d 235 (((4 : Int32) * x1) + x3).toNatClampNeg).toInt ≤ 0) := fun q => h26 ((i_le rfl (rfl : (0 : Int32).toInt = 0)).mpr q)
        exact hQ _ _ _ ⟨hS, trivial⟩
set_option maxHeartbeats 4000000 in
set_option maxRecDepth 100000 in
theorem sp_X10_run {n : Nat} (hn : 1000000000 ≤ n) {x1 : Int32} {x2 : Int32} {d : DD} {dl : LL} (hI : Inv d) {Q : Int32 → DD → LL → Prop} (hQ : ∀ (r : Int32) (d2 : DD) (l2 : LL), St d dl d2 l2 ∧ (True) → Q r d2 l2) : F_X10_run n x1 x2 d dl Q := by
  obtain ⟨e, he⟩ : ∃ e : DD, e = d := ⟨_, rfl⟩
  obtain ⟨el, hel⟩ : ∃ el : LL, el = dl := ⟨_, rfl⟩
  have hS : St e el d dl := by rw [he, hel]; exact St.rf hI
  rw [← he, ← hel] at hQ
  show F_X10_isRace n x1 d dl (fun r1 d2 l3 => (¬ r1 = 0 → (x2 < 100 → Q (-2) d2 l3) ∧ (¬ x2 < 100 → (x2 ≤ 2000 → b_X10_run_28 n Q n x1 x2 0 d2 l3) ∧ (¬ x2 ≤ 2000 → Q (-2) d2 l3))) ∧ (r1 = 0 → Q (-1) d2 l3))
  refine sp_X10_isRace hn hS.1 (fun r1 d2 l3 ⟨p_20, u_21⟩ => ?_)
  have s_22 : St e el d2 l3 := hS.sq p_20
  have w_23 : d2 = d := p_20.2.1
  replace u_21 : (0 ≤ r1.toInt ∧ r1.toInt ≤ 1 ∧ ((r1.toInt = 1 ∧ 0 ≤ x1.toInt ∧ x1.toInt < (d 211 3).toInt) ∨ (r1.toInt = 0 ∧ ¬ (0 ≤ x1.toInt ∧ x1.toInt < (d 211 3).toInt)))) := u_21
  have m_24 := iv_211_3 hS.1
  refine ⟨fun h4 => ?_, fun h4 => ?_⟩
  · have h4 : ¬ (r1.toInt = 0) := fun q => h4 ((i_eq rfl (rfl : (0 : Int32).toInt = 0)).mpr q)
    refine ⟨fun h5 => ?_, fun h5 => ?_⟩
    · have h5 : x2.toInt < 100 := (i_lt rfl (rfl : (100 : Int32).toInt = 100)).mp h5
      exact hQ _ _ _ ⟨s_22, trivial⟩
    · have h5 : ¬ (x2.toInt < 100) := fun q => h5 ((i_lt rfl (rfl : (100 : Int32).toInt = 100)).mpr q)
      refine ⟨fun h6 => ?_, fun h6 => ?_⟩
      · have h6 : x2.toInt ≤ 2000 := (i_le rfl (rfl : (2000 : Int32).toInt = 2000)).mp h6
        exact sb_X10_run_28 hn hQ n _ _ _ _ _ s_22 (by omega) (by omega) (show 0 ≤ 0 ∧ 0 ≤ 4 from by omega) (show 5 - 0 < (n : Int) from by omega)
      · have h6 : ¬ (x2.toInt ≤ 2000) := fun q => h6 ((i_le rfl (rfl : (2000 : Int32).toInt = 2000)).mpr q)
        exact hQ _ _ _ ⟨s_22, trivial⟩
  · have h4 : r1.toInt = 0 := (i_eq rfl (rfl : (0 : Int32).toInt = 0)).mp h4
    exact hQ _ _ _ ⟨s_22, trivial⟩
set_option maxHeartbeats 4000000 in
set_option maxRecDepth 100000 in
theorem sp_X10_isIn {n : Nat} (hn : 1000000000 ≤ n) {x1 : Int32} {x2 : Int32} {d : DD} {dl : LL} (hI : Inv d) {Q : Int32 → DD → LL → Prop} (hQ : ∀ (r : Int32) (d2 : DD) (l2 : LL), Sq d dl d2 l2 ∧ (0 ≤ r.toInt ∧ r.toInt ≤ 1 ∧ (r.toInt = 0 ∨ (0 ≤ x1.toInt ∧ x1.toInt < (d 211 3).toInt ∧ 0 ≤ x2.toInt ∧ x2.toInt ≤ 3 ∧ 0 ≤ (d 234 (((4 : Int32) * x1) + x2).toNatClampNeg).toInt))) → Q r d2 l2) : F_X10_isIn n x1 x2 d dl Q := by
  obtain ⟨e, he⟩ : ∃ e : DD, e = d := ⟨_, rfl⟩
  obtain ⟨el, hel⟩ : ∃ el : LL, el = dl := ⟨_, rfl⟩
  have hS : Sq e el d dl := by rw [he, hel]; exact Sq.rf hI
  rw [← he, ← hel] at hQ
  show F_X10_isRace n x1 d dl (fun r1 d2 l3 => (r1 = 0 → Q 0 d2 l3) ∧ (¬ r1 = 0 → (x2 < 0 → Q 0 d2 l3) ∧ (¬ x2 < 0 → (4 ≤ x2 → Q 0 d2 l3) ∧ (¬ 4 ≤ x2 → vp_in (((4 : Int32) * x1) + x2) 96 ∧ ((d2 234 (((4 : Int32) * x1) + x2).toNatClampNeg) = (-1) → Q 0 d2 l3) ∧ (¬ (d2 234 (((4 : Int32) * x1) + x2).toNatClampNeg) = (-1) → Q 1 d2 l3)))))
  have hx0 : (e 211 3).toInt = (d 211 3).toInt := by rw [he]
  have hx1 : (e 234 (((4 : Int32) * x1) + x2).toNatClampNeg).toInt = (d 234 (((4 : Int32) * x1) + x2).toNatClampNeg).toInt := by rw [he]
  refine sp_X10_isRace hn hS.1 (fun r1 d2 l3 ⟨p_1, u_2⟩ => ?_)
  have s_3 : Sq e el d2 l3 := hS.tr p_1
  have w_4 : d2 = d := p_1.2.1
  replace u_2 : (0 ≤ r1.toInt ∧ r1.toInt ≤ 1 ∧ ((r1.toInt = 1 ∧ 0 ≤ x1.toInt ∧ x1.toInt < (d 211 3).toInt) ∨ (r1.toInt = 0 ∧ ¬ (0 ≤ x1.toInt ∧ x1.toInt < (d 211 3).toInt)))) := u_2
  have m_5 := iv_211_3 hS.1
  refine ⟨fun h4 => ?_, fun h4 => ?_⟩
  · have h4 : r1.toInt = 0 := (i_eq rfl (rfl : (0 : Int32).toInt = 0)).mp h4
    exact hQ _ _ _ ⟨s_3, (show (0 ≤ 0 ∧ 0 ≤ 1 ∧ (0 = 0 ∨ (0 ≤ x1.toInt ∧ x1.toInt < (e 211 3).toInt ∧ 0 ≤ x2.toInt ∧ x2.toInt ≤ 3 ∧ 0 ≤ (e 234 (((4 : Int32) * x1) + x2).toNatClampNeg).toInt))) from by omega)⟩
  · have h4 : ¬ (r1.toInt = 0) := fun q => h4 ((i_eq rfl (rfl : (0 : Int32).toInt = 0)).mpr q)
    refine ⟨fun h5 => ?_, fun h5 => ?_⟩
    · have h5 : x2.toInt < 0 := (i_lt rfl (rfl : (0 : Int32).toInt = 0)).mp h5
      exact hQ _ _ _ ⟨s_3, (show (0 ≤ 0 ∧ 0 ≤ 1 ∧ (0 = 0 ∨ (0 ≤ x1.toInt ∧ x1.toInt < (e 211 3).toInt ∧ 0 ≤ x2.toInt ∧ x2.toInt ≤ 3 ∧ 0 ≤ (e 234 (((4 : Int32) * x1) + x2).toNatClampNeg).toInt))) from by omega)⟩
    · have h5 : ¬ (x2.toInt < 0) := fun q => h5 ((i_lt rfl (rfl : (0 : Int32).toInt = 0)).mpr q)
      refine ⟨fun h6 => ?_, fun h6 => ?_⟩
      · have h6 : 4 ≤ x2.toInt := (i_le (rfl : (4 : Int32).toInt = 4) rfl).mp h6
        exact hQ _ _ _ ⟨s_3, (show (0 ≤ 0 ∧ 0 ≤ 1 ∧ (0 = 0 ∨ (0 ≤ x1.toInt ∧ x1.toInt < (e 211 3).toInt ∧ 0 ≤ x2.toInt ∧ x2.toInt ≤ 3 ∧ 0 ≤ (e 234 (((4 : Int32) * x1) + x2).toNatClampNeg).toInt))) from by omega)⟩
      · have h6 : ¬ (4 ≤ x2.toInt) := fun q => h6 ((i_le (rfl : (4 : Int32).toInt = 4) rfl).mpr q)
        have t_6 : ((4 : Int32) * x1).toInt = 4 * x1.toInt := ti_mul (rfl : (4 : Int32).toInt = 4) rfl (by omega) (by omega)
        have t_7 : (((4 : Int32) * x1) + x2).toInt = (4 * x1.toInt) + x2.toInt := ti_add t_6 rfl (by omega) (by omega)
        have ih7 : vp_in (((4 : Int32) * x1) + x2) 96 := vin t_7 (by omega) (by omega)
        refine ⟨ih7, ?_⟩
        have q_8 : d2 234 (((4 : Int32) * x1) + x2).toNatClampNeg = (d 234 (((4 : Int32) * x1) + x2).toNatClampNeg) := by rw [w_4]
        have m_9 := iv_234 hS.1 ((((4 : Int32) * x1) + x2).toNatClampNeg)
        have t_10 : (d2 234 (((4 : Int32) * x1) + x2).toNatClampNeg).toInt = (d 234 (((4 : Int32) * x1) + x2).toNatClampNeg).toInt := (congrArg Int32.toInt q_8).trans rfl
        refine ⟨fun h8 => ?_, fun h8 => ?_⟩
        · have h8 : (d 234 (((4 : Int32) * x1) + x2).toNatClampNeg).toInt = (-1) := (i_eq t_10 (rfl : ((-1) : Int32).toInt = (-1))).mp h8
          exact hQ _ _ _ ⟨s_3, (show (0 ≤ 0 ∧ 0 ≤ 1 ∧ (0 = 0 ∨ (0 ≤ x1.toInt ∧ x1.toInt < (e 211 3).toInt ∧ 0 ≤ x2.toInt ∧ x2.toInt ≤ 3 ∧ 0 ≤ (e 234 (((4 : Int32) * x1) + x2).toNatClampNeg).toInt))) from by omega)⟩
        · have h8 : ¬ ((d 234 (((4 : Int32) * x1) + x2).toNatClampNeg).toInt = (-1)) := fun q => h8 ((i_eq t_10 (rfl : ((-1) : Int32).toInt = (-1))).mpr q)
          exact hQ _ _ _ ⟨s_3, (show (0 ≤ 1 ∧ 1 ≤ 1 ∧ (1 = 0 ∨ (0 ≤ x1.toInt ∧ x1.toInt < (e 211 3).toInt ∧ 0 ≤ x2.toInt ∧ x2.toInt ≤ 3 ∧ 0 ≤ (e 234 (((4 : Int32) * x1) + x2).toNatClampNeg).toInt))) from by omega)⟩
