set_option maxHeartbeats 4000000 in
set_option maxRecDepth 100000 in
theorem sb_X10_seat_302 {n : Nat} (hn : 1000000000 ≤ n) {e : DD} {el : LL} {Q : Int32 → DD → LL → Prop} (hQ : ∀ (r : Int32) (d2 : DD) (l2 : LL), St e el d2 l2 ∧ (True) → Q r d2 l2) : ∀ (j302 : Nat) (x1 : Int32) (x2 : Int32) (x4 : Int32) (x8 : Int32) (d : DD) (dl : LL), St e el d dl → (0 ≤ x1.toInt ∧ x1.toInt ≤ 5) → (0 ≤ x2.toInt ∧ x2.toInt ≤ 8) → (0 ≤ x8.toInt ∧ x8.toInt ≤ 8) → 9 - x8.toInt < (j302 : Int) → b_X10_seat_302 n Q j302 x1 x2 x4 x8 d dl := by
  intro j302
  induction j302 with
  | zero =>
    intro x1 x2 x4 x8 d dl hS bx1 bx2 bx8 hm302
    exfalso
    omega
  | succ j302 hK302 =>
    intro x1 x2 x4 x8 d dl hS bx1 bx2 bx8 hm302
    show (x2 ≤ x8 → Q x4 d dl) ∧ (¬ x2 ≤ x8 → vp_in x8 8 ∧ vp_in (((8 : Int32) * x1) + x8) 48 ∧ ∀ d17 : DD, d17 = u2 d 223 (((8 : Int32) * x1) + x8).toNatClampNeg (d 245 x8.toNatClampNeg) → (b_X10_seat_302 n Q j302) x1 x2 x4 (x8 + 1) d17 dl)
    refine ⟨fun h14 => ?_, fun h14 => ?_⟩
    · have h14 : x2.toInt ≤ x8.toInt := (i_le rfl rfl).mp h14
      exact hQ _ _ _ ⟨hS, trivial⟩
    · have h14 : ¬ (x2.toInt ≤ x8.toInt) := fun q => h14 ((i_le rfl rfl).mpr q)
      have ih15 : vp_in x8 8 := vin rfl (by omega) (by omega)
      refine ⟨ih15, ?_⟩
      have t_1 : ((8 : Int32) * x1).toInt = 8 * x1.toInt := ti_mul (rfl : (8 : Int32).toInt = 8) rfl (by omega) (by omega)
      have t_2 : (((8 : Int32) * x1) + x8).toInt = (8 * x1.toInt) + x8.toInt := ti_add t_1 rfl (by omega) (by omega)
      have ih16 : vp_in (((8 : Int32) * x1) + x8) 48 := vin t_2 (by omega) (by omega)
      refine ⟨ih16, ?_⟩
      have m_3 := iv_245 hS.1 (x8.toNatClampNeg)
      intro d17 ed17
      have s_4 : St e el d17 dl := by rw [ed17]; exact pv_223 hS (by omega) (by omega)
      have t_5 : (x8 + 1).toInt = x8.toInt + 1 := ti_add rfl (rfl : (1 : Int32).toInt = 1) (by omega) (by omega)
      exact hK302 _ _ _ _ _ _ s_4 (by omega) (by omega) (by omega) (by omega)
set_option maxHeartbeats 4000000 in
set_option maxRecDepth 100000 in
theorem sb_X10_seat_254 {n : Nat} (hn : 1000000000 ≤ n) {e : DD} {el : LL} {Q : Int32 → DD → LL → Prop} (hQ : ∀ (r : Int32) (d2 : DD) (l2 : LL), St e el d2 l2 ∧ (True) → Q r d2 l2) {K63 : Int32 → Int32 → Int32 → Int32 → Int32 → Int32 → Int32 → DD → LL → Prop} {j63 : Nat} (hK63 : ∀ (x1 : Int32) (x2 : Int32) (x3 : Int32) (x4 : Int32) (x5 : Int32) (x6 : Int32) (x7 : Int32) (d : DD) (dl : LL), St e el d dl → (0 ≤ x1.toInt ∧ x1.toInt ≤ 5) → (0 ≤ x2.toInt ∧ x2.toInt ≤ 8) → (0 ≤ x3.toInt ∧ x3.toInt ≤ 8) → (0 ≤ x5.toInt ∧ x5.toInt ≤ 1) → ((-1) ≤ x6.toInt ∧ x6.toInt ≤ 7) → (PN d x3.toInt) → muS d x6.toInt < (j63 : Int) → K63 x1 x2 x3 x4 x5 x6 x7 d dl) : ∀ (j254 : Nat) (x1 : Int32) (x2 : Int32) (x3 : Int32) (x4 : Int32) (x5 : Int32) (x6 : Int32) (x7 : Int32) (x10 : Int32) (d : DD) (dl : LL), St e el d dl → (0 ≤ x1.toInt ∧ x1.toInt ≤ 5) → (0 ≤ x2.toInt ∧ x2.toInt ≤ 8) → (0 ≤ x3.toInt ∧ x3.toInt ≤ 8) → (1 ≤ x5.toInt ∧ x5.toInt ≤ 1) → (0 ≤ x6.toInt ∧ x6.toInt ≤ 7) → (0 ≤ x10.toInt ∧ x10.toInt ≤ 8) → (PN d x3.toInt) → muS d x6.toInt + 1 ≤ (j63 : Int) → 9 - x10.toInt < (j254 : Int) → b_X10_seat_254 n Q K63 j254 x1 x2 x3 x4 x5 x6 x7 x10 d dl := by
  intro j254
  induction j254 with
  | zero =>
    intro x1 x2 x3 x4 x5 x6 x7 x10 d dl hS bx1 bx2 bx3 bx5 bx6 bx10 hpn hm63 hm254
    exfalso
    omega
  | succ j254 hK254 =>
    intro x1 x2 x3 x4 x5 x6 x7 x10 d dl hS bx1 bx2 bx3 bx5 bx6 bx10 hpn hm63 hm254
    show (x2 ≤ x10 → K63 x1 x2 x3 x4 x5 x6 x7 d dl) ∧ (¬ x2 ≤ x10 → vp_in x10 8 ∧ vp_in x10 8 ∧ ∀ d38 : DD, d38 = u2 d 245 x10.toNatClampNeg (d 247 x10.toNatClampNeg) → (b_X10_seat_254 n Q K63 j254) x1 x2 x3 x4 x5 x6 x7 (x10 + 1) d38 dl)
    refine ⟨fun h35 => ?_, fun h35 => ?_⟩
    · have h35 : x2.toInt ≤ x10.toInt := (i_le rfl rfl).mp h35
      exact hK63 _ _ _ _ _ _ _ _ _ hS (by omega) (by omega) (by omega) (by omega) (by omega) hpn (by omega)
    · have h35 : ¬ (x2.toInt ≤ x10.toInt) := fun q => h35 ((i_le rfl rfl).mpr q)
      have ih36 : vp_in x10 8 := vin rfl (by omega) (by omega)
      refine ⟨ih36, ?_⟩
      have ih37 : vp_in x10 8 := vin rfl (by omega) (by omega)
      refine ⟨ih37, ?_⟩
      have m_6 := iv_247 hS.1 (x10.toNatClampNeg)
      intro d38 ed38
      have s_7 : St e el d38 dl := by rw [ed38]; exact pv_245 hS (by omega) (by omega)
      have n_8 : PN d38 x3.toInt := by rw [ed38]; exact PN_row hpn (by omega)
      have t_9 : (x10 + 1).toInt = x10.toInt + 1 := ti_add rfl (rfl : (1 : Int32).toInt = 1) (by omega) (by omega)
      have g_10 : muS d38 x6.toInt = muS d x6.toInt := muS_congr (fun i => by rw [ed38, u2_row (by omega)]) _
      exact hK254 _ _ _ _ _ _ _ _ _ _ s_7 (by omega) (by omega) (by omega) (by omega) (by omega) (by omega) n_8 (by omega) (by omega)
set_option maxHeartbeats 4000000 in
set_option maxRecDepth 100000 in
theorem sb_X10_seat_244 {n : Nat} (hn : 1000000000 ≤ n) {e : DD} {el : LL} {Q : Int32 → DD → LL → Prop} (hQ : ∀ (r : Int32) (d2 : DD) (l2 : LL), St e el d2 l2 ∧ (True) → Q r d2 l2) {K63 : Int32 → Int32 → Int32 → Int32 → Int32 → Int32 → Int32 → DD → LL → Prop} {j63 : Nat} (hK63 : ∀ (x1 : Int32) (x2 : Int32) (x3 : Int32) (x4 : Int32) (x5 : Int32) (x6 : Int32) (x7 : Int32) (d : DD) (dl : LL), St e el d dl → (0 ≤ x1.toInt ∧ x1.toInt ≤ 5) → (0 ≤ x2.toInt ∧ x2.toInt ≤ 8) → (0 ≤ x3.toInt ∧ x3.toInt ≤ 8) → (0 ≤ x5.toInt ∧ x5.toInt ≤ 1) → ((-1) ≤ x6.toInt ∧ x6.toInt ≤ 7) → (PN d x3.toInt) → muS d x6.toInt < (j63 : Int) → K63 x1 x2 x3 x4 x5 x6 x7 d dl) : ∀ (x1 : Int32) (x2 : Int32) (x3 : Int32) (x6 : Int32) (x7 : Int32) (x9 : Int32) (d : DD) (dl : LL), St e el d dl → (0 ≤ x1.toInt ∧ x1.toInt ≤ 5) → (0 ≤ x2.toInt ∧ x2.toInt ≤ 8) → (0 ≤ x3.toInt ∧ x3.toInt ≤ 8) → (0 ≤ x6.toInt ∧ x6.toInt ≤ 7) → (PN d x3.toInt) → muS d x6.toInt + 1 ≤ (j63 : Int) → b_X10_seat_244 n Q K63 x1 x2 x3 x6 x7 x9 d dl := by
  intro x1 x2 x3 x6 x7 x9 d dl hS bx1 bx2 bx3 bx6 hpn hm63
  show b_X10_seat_254 n Q K63 n x1 x2 x3 x9 1 x6 x7 0 d dl
  exact sb_X10_seat_254 hn hQ hK63 n _ _ _ _ _ _ _ _ _ _ hS (by omega) (by omega) (by omega) (show 1 ≤ 1 ∧ 1 ≤ 1 from by omega) (by omega) (show 0 ≤ 0 ∧ 0 ≤ 8 from by omega) hpn (by omega) (show 9 - 0 < (n : Int) from by omega)
set_option maxHeartbeats 4000000 in
set_option maxRecDepth 100000 in
theorem sb_X10_seat_149 {n : Nat} (hn : 1000000000 ≤ n) {e : DD} {el : LL} {Q : Int32 → DD → LL → Prop} (hQ : ∀ (r : Int32) (d2 : DD) (l2 : LL), St e el d2 l2 ∧ (True) → Q r d2 l2) {K63 : Int32 → Int32 → Int32 → Int32 → Int32 → Int32 → Int32 → DD → LL → Prop} {j63 : Nat} (hK63 : ∀ (x1 : Int32) (x2 : Int32) (x3 : Int32) (x4 : Int32) (x5 : Int32) (x6 : Int32) (x7 : Int32) (d : DD) (dl : LL), St e el d dl → (0 ≤ x1.toInt ∧ x1.toInt ≤ 5) → (0 ≤ x2.toInt ∧ x2.toInt ≤ 8) → (0 ≤ x3.toInt ∧ x3.toInt ≤ 8) → (0 ≤ x5.toInt ∧ x5.toInt ≤ 1) → ((-1) ≤ x6.toInt ∧ x6.toInt ≤ 7) → (PN d x3.toInt) → muS d x6.toInt < (j63 : Int) → K63 x1 x2 x3 x4 x5 x6 x7 d dl) : ∀ (x1 : Int32) (x2 : Int32) (x3 : Int32) (x4 : Int32) (x5 : Int32) (x6 : Int32) (x7 : Int32) (x8 : Int32) (d : DD) (dl : LL), St e el d dl → (0 ≤ x1.toInt ∧ x1.toInt ≤ 5) → (0 ≤ x2.toInt ∧ x2.toInt ≤ 8) → (0 ≤ x3.toInt ∧ x3.toInt ≤ 8) → (0 ≤ x5.toInt ∧ x5.toInt ≤ 1) → (0 ≤ x6.toInt ∧ x6.toInt ≤ 7) → (0 ≤ x8.toInt ∧ x8.toInt ≤ 8) → ((d 244 x6.toNatClampNeg).toInt + 1 ≤ x8.toInt) → (x8.toInt ≤ x3.toInt) → (PN d x3.toInt) → muS d x6.toInt ≤ (j63 : Int) → b_X10_seat_149 n Q K63 x1 x2 x3 x4 x5 x6 x7 x8 d dl := by
  intro x1 x2 x3 x4 x5 x6 x7 x8 d dl hS bx1 bx2 bx3 bx5 bx6 bx8 bi0 bi1 hpn hm63
  show (¬ x8 = x3 → vp_in x6 8 ∧ ∀ d25 : DD, d25 = u2 d 244 x6.toNatClampNeg x8 → ∀ v26 : Int32, v26 = (x7 ||| ((1 : Int32) <<< (x8 &&& 31))) → vp_in (((8 : Int32) * x1) + x8) 48 ∧ vp_in x6 8 ∧ ∀ d29 : DD, d29 = u2 d25 247 x6.toNatClampNeg (d25 222 (((8 : Int32) * x1) + x8).toNatClampNeg) → (x2 ≤ (x6 + 1) → F_X10_tilt n x1 247 0 d29 dl (fun r31 d32 l33 => (x5 = 0 → b_X10_seat_244 n Q K63 x1 x2 x3 x6 v26 r31 d32 l33) ∧ (¬ x5 = 0 → (x4 ≤ r31 → K63 x1 x2 x3 x4 x5 x6 v26 d32 l33) ∧ (¬ x4 ≤ r31 → b_X10_seat_244 n Q K63 x1 x2 x3 x6 v26 r31 d32 l33)))) ∧ (¬ x2 ≤ (x6 + 1) → K63 x1 x2 x3 x4 x5 (x6 + 1) v26 d29 dl)) ∧ (x8 = x3 → vp_in x6 8 ∧ ∀ d41 : DD, d41 = u2 d 244 x6.toNatClampNeg (-1) → K63 x1 x2 x3 x4 x5 (x6 + (-1)) x7 d41 dl)
  refine ⟨fun h23 => ?_, fun h23 => ?_⟩
  · have h23 : ¬ (x8.toInt = x3.toInt) := fun q => h23 ((i_eq rfl rfl).mpr q)
    have ih24 : vp_in x6 8 := vin rfl (by omega) (by omega)
    refine ⟨ih24, ?_⟩
    intro d25 ed25
    have s_11 : St e el d25 dl := by rw [ed25]; exact pv_244 hS (by omega) (by omega)
    have n_12 : PN d25 x3.toInt := by rw [ed25]; exact PN_put hpn (by omega)
    intro v26 e26
    have t_13 : v26.toInt = (x7 ||| ((1 : Int32) <<< (x8 &&& 31))).toInt := (congrArg Int32.toInt e26).trans rfl
    have t_14 : ((8 : Int32) * x1).toInt = 8 * x1.toInt := ti_mul (rfl : (8 : Int32).toInt = 8) rfl (by omega) (by omega)
    have t_15 : (((8 : Int32) * x1) + x8).toInt = (8 * x1.toInt) + x8.toInt := ti_add t_14 rfl (by omega) (by omega)
    have ih27 : vp_in (((8 : Int32) * x1) + x8) 48 := vin t_15 (by omega) (by omega)
    refine ⟨ih27, ?_⟩
    have ih28 : vp_in x6 8 := vin rfl (by omega) (by omega)
    refine ⟨ih28, ?_⟩
    have q_16 : d25 222 (((8 : Int32) * x1) + x8).toNatClampNeg = (d 222 (((8 : Int32) * x1) + x8).toNatClampNeg) := by rw [ed25, u2_row (by omega)]
    have m_17 := iv_222 hS.1 ((((8 : Int32) * x1) + x8).toNatClampNeg)
    have t_18 : (d25 222 (((8 : Int32) * x1) + x8).toNatClampNeg).toInt = (d 222 (((8 : Int32) * x1) + x8).toNatClampNeg).toInt := (congrArg Int32.toInt q_16).trans rfl
    intro d29 ed29
    have s_19 : St e el d29 dl := by rw [ed29]; exact pv_247 s_11 (by rw [t_18]; omega) (by rw [t_18]; omega)
    have n_20 : PN d29 x3.toInt := by rw [ed29]; exact PN_row n_12 (by omega)
    have t_21 : (x6 + 1).toInt = x6.toInt + 1 := ti_add rfl (rfl : (1 : Int32).toInt = 1) (by omega) (by omega)
    refine ⟨fun h30 => ?_, fun h30 => ?_⟩
    · have h30 : x2.toInt ≤ (x6.toInt + 1) := (i_le rfl t_21).mp h30
      refine sp_X10_tilt hn s_19.1 ⟨kn_247.1, kn_247.2.1, rfl⟩ ⟨by omega, by omega⟩ ⟨by decide, by decide⟩ (Or.inl rfl) (by decide) (fun r31 d32 l33 ⟨p_22, u_23⟩ => ?_)
      have s_24 : St e el d32 l33 := s_19.sq p_22
      have w_25 : d32 = d29 := p_22.2.1
      have n_26 : PN d32 x3.toInt := by rw [w_25]; exact n_20
      refine ⟨fun h34 => ?_, fun h34 => ?_⟩
      · have h34 : x5.toInt = 0 := (i_eq rfl (rfl : (0 : Int32).toInt = 0)).mp h34
        have g_27 := mu_up (d := d) (d2 := d32) (x6 := x6) (x8 := x8) hS.1 (by omega) (by omega) (by omega) (fun i => by rw [w_25]; rw [ed29, u2_row (by omega)]; rw [ed25])
        exact sb_X10_seat_244 hn hQ hK63 _ _ _ _ _ _ _ _ s_24 (by omega) (by omega) (by omega) (by omega) n_26 (by omega)
      · have h34 : ¬ (x5.toInt = 0) := fun q => h34 ((i_eq rfl (rfl : (0 : Int32).toInt = 0)).mpr q)
        refine ⟨fun h39 => ?_, fun h39 => ?_⟩
        · have h39 : x4.toInt ≤ r31.toInt := (i_le rfl rfl).mp h39
          have g_28 := mu_up (d := d) (d2 := d32) (x6 := x6) (x8 := x8) hS.1 (by omega) (by omega) (by omega) (fun i => by rw [w_25]; rw [ed29, u2_row (by omega)]; rw [ed25])
          exact hK63 _ _ _ _ _ _ _ _ _ s_24 (by omega) (by omega) (by omega) (by omega) (by omega) n_26 (by omega)
        · have h39 : ¬ (x4.toInt ≤ r31.toInt) := fun q => h39 ((i_le rfl rfl).mpr q)
          have g_29 := mu_up (d := d) (d2 := d32) (x6 := x6) (x8 := x8) hS.1 (by omega) (by omega) (by omega) (fun i => by rw [w_25]; rw [ed29, u2_row (by omega)]; rw [ed25])
          exact sb_X10_seat_244 hn hQ hK63 _ _ _ _ _ _ _ _ s_24 (by omega) (by omega) (by omega) (by omega) n_26 (by omega)
    · have h30 : ¬ (x2.toInt ≤ (x6.toInt + 1)) := fun q => h30 ((i_le rfl t_21).mpr q)
      have g_30 := mu_up (d := d) (d2 := d29) (x6 := x6) (x8 := x8) hS.1 (by omega) (by omega) (by omega) (fun i => by rw [ed29, u2_row (by omega)]; rw [ed25])
      exact hK63 _ _ _ _ _ _ _ _ _ s_19 (by omega) (by omega) (by omega) (by omega) (by omega) n_20 (by rw [t_21]; omega)
  · have h23 : x8.toInt = x3.toInt := (i_eq rfl rfl).mp h23
    have ih40 : vp_in x6 8 := vin rfl (by omega) (by omega)
    refine ⟨ih40, ?_⟩
    intro d41 ed41
    have s_31 : St e el d41 dl := by rw [ed41]; exact pv_244 hS (by decide) (by decide)
    have n_32 : PN d41 x3.toInt := by rw [ed41]; exact PN_put hpn (show (-1 : Int) < x3.toInt from by omega)
    have t_33 : (x6 + (-1)).toInt = x6.toInt + (-1) := ti_add rfl (rfl : ((-1) : Int32).toInt = (-1)) (by omega) (by omega)
    generalize (x6 + (-1)) = z_34 at t_33 ⊢
    have g_35 := mu_dn (d := d) (d2 := d41) (x6 := x6) (v := -1) hS.1 (by omega) (by omega) (by rw [ed41])
    exact hK63 _ _ _ _ _ _ _ _ _ s_31 (by omega) (by omega) (by omega) (by omega) (by omega) n_32 (by rw [t_33]; omega)
set_option maxHeartbeats 4000000 in
set_option maxRecDepth 100000 in
theorem sb_X10_seat_105 {n : Nat} (hn : 1000000000 ≤ n) {e : DD} {el : LL} {Q : Int32 → DD → LL → Prop} (hQ : ∀ (r : Int32) (d2 : DD) (l2 : LL), St e el d2 l2 ∧ (True) → Q r d2 l2) {K63 : Int32 → Int32 → Int32 → Int32 → Int32 → Int32 → Int32 → DD → LL → Prop} {j63 : Nat} (hK63 : ∀ (x1 : Int32) (x2 : Int32) (x3 : Int32) (x4 : Int32) (x5 : Int32) (x6 : Int32) (x7 : Int32) (d : DD) (dl : LL), St e el d dl → (0 ≤ x1.toInt ∧ x1.toInt ≤ 5) → (0 ≤ x2.toInt ∧ x2.toInt ≤ 8) → (0 ≤ x3.toInt ∧ x3.toInt ≤ 8) → (0 ≤ x5.toInt ∧ x5.toInt ≤ 1) → ((-1) ≤ x6.toInt ∧ x6.toInt ≤ 7) → (PN d x3.toInt) → muS d x6.toInt < (j63 : Int) → K63 x1 x2 x3 x4 x5 x6 x7 d dl) : ∀ (j105 : Nat) (x1 : Int32) (x2 : Int32) (x3 : Int32) (x4 : Int32) (x5 : Int32) (x6 : Int32) (x7 : Int32) (x8 : Int32) (d : DD) (dl : LL), St e el d dl → (0 ≤ x1.toInt ∧ x1.toInt ≤ 5) → (0 ≤ x2.toInt ∧ x2.toInt ≤ 8) → (0 ≤ x3.toInt ∧ x3.toInt ≤ 8) → (0 ≤ x5.toInt ∧ x5.toInt ≤ 1) → (0 ≤ x6.toInt ∧ x6.toInt ≤ 7) → (0 ≤ x8.toInt ∧ x8.toInt ≤ 8) → ((d 244 x6.toNatClampNeg).toInt + 1 ≤ x8.toInt) → (x8.toInt ≤ x3.toInt) → (PN d x3.toInt) → muS d x6.toInt ≤ (j63 : Int) → 9 - x8.toInt < (j105 : Int) → b_X10_seat_105 n Q K63 j105 x1 x2 x3 x4 x5 x6 x7 x8 d dl := by
  intro j105
  induction j105 with
  | zero =>
    intro x1 x2 x3 x4 x5 x6 x7 x8 d dl hS bx1 bx2 bx3 bx5 bx6 bx8 bi0 bi1 hpn hm63 hm105
    exfalso
    omega
  | succ j105 hK105 =>
    intro x1 x2 x3 x4 x5 x6 x7 x8 d dl hS bx1 bx2 bx3 bx5 bx6 bx8 bi0 bi1 hpn hm63 hm105
    show (x3 ≤ x8 → b_X10_seat_149 n Q K63 x1 x2 x3 x4 x5 x6 x7 x8 d dl) ∧ (¬ x3 ≤ x8 → (((x7 >>> (x8 &&& 31)) &&& 1) = 1 → (b_X10_seat_105 n Q K63 j105) x1 x2 x3 x4 x5 x6 x7 (x8 + 1) d dl) ∧ (¬ ((x7 >>> (x8 &&& 31)) &&& 1) = 1 → vp_in (((8 : Int32) * x1) + x8) 48 ∧ F_X10_fits n (d 222 (((8 : Int32) * x1) + x8).toNatClampNeg) x6 d dl (fun r44 d45 l46 => (¬ r44 = 0 → b_X10_seat_149 n Q K63 x1 x2 x3 x4 x5 x6 x7 x8 d45 l46) ∧ (r44 = 0 → (b_X10_seat_105 n Q K63 j105) x1 x2 x3 x4 x5 x6 x7 (x8 + 1) d45 l46))))
    refine ⟨fun h22 => ?_, fun h22 => ?_⟩
    · have h22 : x3.toInt ≤ x8.toInt := (i_le rfl rfl).mp h22
      have m_36 := iv_244 hS.1 (x6.toNatClampNeg)
      exact sb_X10_seat_149 hn hQ hK63 _ _ _ _ _ _ _ _ _ _ hS (by omega) (by omega) (by omega) (by omega) (by omega) (by omega) (by omega) (by omega) hpn (by omega)
    · have h22 : ¬ (x3.toInt ≤ x8.toInt) := fun q => h22 ((i_le rfl rfl).mpr q)
      refine ⟨fun h42 => ?_, fun h42 => ?_⟩
      · have h42 : ((x7 >>> (x8 &&& 31)) &&& 1).toInt = 1 := (i_eq rfl (rfl : (1 : Int32).toInt = 1)).mp h42
        have t_37 : (x8 + 1).toInt = x8.toInt + 1 := ti_add rfl (rfl : (1 : Int32).toInt = 1) (by omega) (by omega)
        have m_38 := iv_244 hS.1 (x6.toNatClampNeg)
        exact hK105 _ _ _ _ _ _ _ _ _ _ hS (by omega) (by omega) (by omega) (by omega) (by omega) (by omega) (by omega) (by omega) hpn (by omega) (by omega)
      · have h42 : ¬ (((x7 >>> (x8 &&& 31)) &&& 1).toInt = 1) := fun q => h42 ((i_eq rfl (rfl : (1 : Int32).toInt = 1)).mpr q)
        have t_39 : ((8 : Int32) * x1).toInt = 8 * x1.toInt := ti_mul (rfl : (8 : Int32).toInt = 8) rfl (by omega) (by omega)
        have t_40 : (((8 : Int32) * x1) + x8).toInt = (8 * x1.toInt) + x8.toInt := ti_add t_39 rfl (by omega) (by omega)
        have ih43 : vp_in (((8 : Int32) * x1) + x8) 48 := vin t_40 (by omega) (by omega)
        refine ⟨ih43, ?_⟩
        have m_41 := iv_222 hS.1 ((((8 : Int32) * x1) + x8).toNatClampNeg)
        refine sp_X10_fits hn hS.1 ⟨by omega, by omega⟩ (fun r44 d45 l46 ⟨p_42, u_43⟩ => ?_)
        have s_44 : St e el d45 l46 := hS.sq p_42
        have w_45 : d45 = d := p_42.2.1
        have n_46 : PN d45 x3.toInt := by rw [w_45]; exact hpn
        replace u_43 : (0 ≤ r44.toInt ∧ r44.toInt ≤ 1) := u_43
        refine ⟨fun h47 => ?_, fun h47 => ?_⟩
        · have h47 : ¬ (r44.toInt = 0) := fun q => h47 ((i_eq rfl (rfl : (0 : Int32).toInt = 0)).mpr q)
          have g_47 : muS d45 x6.toInt = muS d x6.toInt := muS_congr (fun i => by rw [w_45]) _
          have q_48 : d45 244 x6.toNatClampNeg = (d 244 x6.toNatClampNeg) := by rw [w_45]
          have m_49 := iv_244 hS.1 (x6.toNatClampNeg)
          have t_50 : (d45 244 x6.toNatClampNeg).toInt = (d 244 x6.toNatClampNeg).toInt := (congrArg Int32.toInt q_48).trans rfl
          exact sb_X10_seat_149 hn hQ hK63 _ _ _ _ _ _ _ _ _ _ s_44 (by omega) (by omega) (by omega) (by omega) (by omega) (by omega) (by omega) (by omega) n_46 (by omega)
        · have h47 : r44.toInt = 0 := (i_eq rfl (rfl : (0 : Int32).toInt = 0)).mp h47
          have t_51 : (x8 + 1).toInt = x8.toInt + 1 := ti_add rfl (rfl : (1 : Int32).toInt = 1) (by omega) (by omega)
          have g_52 : muS d45 x6.toInt = muS d x6.toInt := muS_congr (fun i => by rw [w_45]) _
          have q_53 : d45 244 x6.toNatClampNeg = (d 244 x6.toNatClampNeg) := by rw [w_45]
          have m_54 := iv_244 hS.1 (x6.toNatClampNeg)
          have t_55 : (d45 244 x6.toNatClampNeg).toInt = (d 244 x6.toNatClampNeg).toInt := (congrArg Int32.toInt q_53).trans rfl
          exact hK105 _ _ _ _ _ _ _ _ _ _ s_44 (by omega) (by omega) (by omega) (by omega) (by omega) (by omega) (by omega) (by omega) n_46 (by omega) (by omega)
set_option maxHeartbeats 4000000 in
set_option maxRecDepth 100000 in
theorem sb_X10_seat_94 {n : Nat} (hn : 1000000000 ≤ n) {e : DD} {el : LL} {Q : Int32 → DD → LL → Prop} (hQ : ∀ (r : Int32) (d2 : DD) (l2 : LL), St e el d2 l2 ∧ (True) → Q r d2 l2) {K63 : Int32 → Int32 → Int32 → Int32 → Int32 → Int32 → Int32 → DD → LL → Prop} {j63 : Nat} (hK63 : ∀ (x1 : Int32) (x2 : Int32) (x3 : Int32) (x4 : Int32) (x5 : Int32) (x6 : Int32) (x7 : Int32) (d : DD) (dl : LL), St e el d dl → (0 ≤ x1.toInt ∧ x1.toInt ≤ 5) → (0 ≤ x2.toInt ∧ x2.toInt ≤ 8) → (0 ≤ x3.toInt ∧ x3.toInt ≤ 8) → (0 ≤ x5.toInt ∧ x5.toInt ≤ 1) → ((-1) ≤ x6.toInt ∧ x6.toInt ≤ 7) → (PN d x3.toInt) → muS d x6.toInt < (j63 : Int) → K63 x1 x2 x3 x4 x5 x6 x7 d dl) : ∀ (x1 : Int32) (x2 : Int32) (x3 : Int32) (x4 : Int32) (x5 : Int32) (x6 : Int32) (x7 : Int32) (d : DD) (dl : LL), St e el d dl → (0 ≤ x1.toInt ∧ x1.toInt ≤ 5) → (0 ≤ x2.toInt ∧ x2.toInt ≤ 8) → (0 ≤ x3.toInt ∧ x3.toInt ≤ 8) → (0 ≤ x5.toInt ∧ x5.toInt ≤ 1) → (0 ≤ x6.toInt ∧ x6.toInt ≤ 7) → (PN d x3.toInt) → muS d x6.toInt ≤ (j63 : Int) → b_X10_seat_94 n Q K63 x1 x2 x3 x4 x5 x6 x7 d dl := by
  intro x1 x2 x3 x4 x5 x6 x7 d dl hS bx1 bx2 bx3 bx5 bx6 hpn hm63
  show vp_in x6 8 ∧ ∀ v21 : Int32, v21 = ((d 244 x6.toNatClampNeg) + 1) → b_X10_seat_105 n Q K63 n x1 x2 x3 x4 x5 x6 x7 v21 d dl
  have hp9 := PN_at hpn (x := x6) (by omega) (by omega)
  have ih20 : vp_in x6 8 := vin rfl (by omega) (by omega)
  refine ⟨ih20, ?_⟩
  have m_56 := iv_244 hS.1 (x6.toNatClampNeg)
  have t_57 : ((d 244 x6.toNatClampNeg) + 1).toInt = (d 244 x6.toNatClampNeg).toInt + 1 := ti_add rfl (rfl : (1 : Int32).toInt = 1) (by omega) (by omega)
  intro v21 e21
  have t_58 : v21.toInt = ((d 244 x6.toNatClampNeg).toInt + 1) := (congrArg Int32.toInt e21).trans t_57
  exact sb_X10_seat_105 hn hQ hK63 n _ _ _ _ _ _ _ _ _ _ hS (by omega) (by omega) (by omega) (by omega) (by omega) (by omega) (by omega) (by omega) hpn (by omega) (by omega)
set_option maxHeartbeats 4000000 in
set_option maxRecDepth 100000 in
theorem sb_X10_seat_63 {n : Nat} (hn : 1000000000 ≤ n) {e : DD} {el : LL} {Q : Int32 → DD → LL → Prop} (hQ : ∀ (r : Int32) (d2 : DD) (l2 : LL), St e el d2 l2 ∧ (True) → Q r d2 l2) : ∀ (j63 : Nat) (x1 : Int32) (x2 : Int32) (x3 : Int32) (x4 : Int32) (x5 : Int32) (x6 : Int32) (x7 : Int32) (d : DD) (dl : LL), St e el d dl → (0 ≤ x1.toInt ∧ x1.toInt ≤ 5) → (0 ≤ x2.toInt ∧ x2.toInt ≤ 8) → (0 ≤ x3.toInt ∧ x3.toInt ≤ 8) → (0 ≤ x5.toInt ∧ x5.toInt ≤ 1) → ((-1) ≤ x6.toInt ∧ x6.toInt ≤ 7) → (PN d x3.toInt) → muS d x6.toInt < (j63 : Int) → b_X10_seat_63 n Q j63 x1 x2 x3 x4 x5 x6 x7 d dl := by
  intro j63
  induction j63 with
  | zero =>
    intro x1 x2 x3 x4 x5 x6 x7 d dl hS bx1 bx2 bx3 bx5 bx6 hpn hm63
    exfalso
    have hz9 := muS_nn hS.1 x6.toInt
    omega
  | succ j63 hK63 =>
    intro x1 x2 x3 x4 x5 x6 x7 d dl hS bx1 bx2 bx3 bx5 bx6 hpn hm63
    show (x6 < 0 → vp_in x1 6 ∧ ∀ d12 : DD, d12 = u2 d 224 x1.toNatClampNeg (vp_nar .boolean x5) → (¬ x5 = 0 → b_X10_seat_302 n Q n x1 x2 x4 0 d12 dl) ∧ (x5 = 0 → Q (-100001) d12 dl)) ∧ (¬ x6 < 0 → vp_in x6 8 ∧ ((d 244 x6.toNatClampNeg) < 0 → b_X10_seat_94 n Q (b_X10_seat_63 n Q j63) x1 x2 x3 x4 x5 x6 x7 d dl) ∧ (¬ (d 244 x6.toNatClampNeg) < 0 → vp_in x6 8 ∧ ∀ v49 : Int32, v49 = (x7 &&& (((1 : Int32) <<< ((d 244 x6.toNatClampNeg) &&& 31)) ^^^ (-1))) → b_X10_seat_94 n Q (b_X10_seat_63 n Q j63) x1 x2 x3 x4 x5 x6 v49 d dl))
    refine ⟨fun h10 => ?_, fun h10 => ?_⟩
    · have h10 : x6.toInt < 0 := (i_lt rfl (rfl : (0 : Int32).toInt = 0)).mp h10
      have ih11 : vp_in x1 6 := vin rfl (by omega) (by omega)
      refine ⟨ih11, ?_⟩
      intro d12 ed12
      have s_59 : St e el d12 dl := by rw [ed12]; exact pv_224 hS (vn_in _).1 (vn_in _).2
      have n_60 : PN d12 x3.toInt := by rw [ed12]; exact PN_row hpn (by omega)
      refine ⟨fun h13 => ?_, fun h13 => ?_⟩
      · have h13 : ¬ (x5.toInt = 0) := fun q => h13 ((i_eq rfl (rfl : (0 : Int32).toInt = 0)).mpr q)
        have g_61 : muS d12 x6.toInt = muS d x6.toInt := muS_congr (fun i => by rw [ed12, u2_row (by omega)]) _
        exact sb_X10_seat_302 hn hQ n _ _ _ _ _ _ s_59 (by omega) (by omega) (show 0 ≤ 0 ∧ 0 ≤ 8 from by omega) (show 9 - 0 < (n : Int) from by omega)
      · have h13 : x5.toInt = 0 := (i_eq rfl (rfl : (0 : Int32).toInt = 0)).mp h13
        exact hQ _ _ _ ⟨s_59, trivial⟩
    · have h10 : ¬ (x6.toInt < 0) := fun q => h10 ((i_lt rfl (rfl : (0 : Int32).toInt = 0)).mpr q)
      have ih18 : vp_in x6 8 := vin rfl (by omega) (by omega)
      refine ⟨ih18, ?_⟩
      have m_62 := iv_244 hS.1 (x6.toNatClampNeg)
      refine ⟨fun h19 => ?_, fun h19 => ?_⟩
      · have h19 : (d 244 x6.toNatClampNeg).toInt < 0 := (i_lt rfl (rfl : (0 : Int32).toInt = 0)).mp h19
        exact sb_X10_seat_94 hn hQ hK63 _ _ _ _ _ _ _ _ _ hS (by omega) (by omega) (by omega) (by omega) (by omega) hpn (by omega)
      · have h19 : ¬ ((d 244 x6.toNatClampNeg).toInt < 0) := fun q => h19 ((i_lt rfl (rfl : (0 : Int32).toInt = 0)).mpr q)
        have ih48 : vp_in x6 8 := vin rfl (by omega) (by omega)
        refine ⟨ih48, ?_⟩
        intro v49 e49
        have t_63 : v49.toInt = (x7 &&& (((1 : Int32) <<< ((d 244 x6.toNatClampNeg) &&& 31)) ^^^ (-1))).toInt := (congrArg Int32.toInt e49).trans rfl
        exact sb_X10_seat_94 hn hQ hK63 _ _ _ _ _ _ _ _ _ hS (by omega) (by omega) (by omega) (by omega) (by omega) hpn (by omega)
set_option maxHeartbeats 4000000 in
set_option maxRecDepth 100000 in
theorem sb_X10_seat_42 {n : Nat} (hn : 1000000000 ≤ n) {e : DD} {el : LL} {Q : Int32 → DD → LL → Prop} (hQ : ∀ (r : Int32) (d2 : DD) (l2 : LL), St e el d2 l2 ∧ (True) → Q r d2 l2) : ∀ (j42 : Nat) (x1 : Int32) (x2 : Int32) (x3 : Int32) (x4 : Int32) (x5 : Int32) (x6 : Int32) (x7 : Int32) (x8 : Int32) (d : DD) (dl : LL), St e el d dl → (0 ≤ x1.toInt ∧ x1.toInt ≤ 5) → (0 ≤ x2.toInt ∧ x2.toInt ≤ 8) → (0 ≤ x3.toInt ∧ x3.toInt ≤ 8) → (0 ≤ x4.toInt ∧ x4.toInt ≤ 0) → (0 ≤ x5.toInt ∧ x5.toInt ≤ 0) → (0 ≤ x6.toInt ∧ x6.toInt ≤ 0) → (0 ≤ x7.toInt ∧ x7.toInt ≤ 0) → (0 ≤ x8.toInt ∧ x8.toInt ≤ 8) → (P42 d x8.toInt) → 9 - x8.toInt < (j42 : Int) → b_X10_seat_42 n Q j42 x1 x2 x3 x4 x5 x6 x7 x8 d dl := by
  intro j42
  induction j42 with
  | zero =>
    intro x1 x2 x3 x4 x5 x6 x7 x8 d dl hS bx1 bx2 bx3 bx4 bx5 bx6 bx7 bx8 hp42 hm42
    exfalso
    omega
  | succ j42 hK42 =>
    intro x1 x2 x3 x4 x5 x6 x7 x8 d dl hS bx1 bx2 bx3 bx4 bx5 bx6 bx7 bx8 hp42 hm42
    show (8 ≤ x8 → b_X10_seat_63 n Q n x1 x2 x3 x4 x5 x6 x7 d dl) ∧ (¬ 8 ≤ x8 → vp_in x8 8 ∧ ∀ d51 : DD, d51 = u2 d 244 x8.toNatClampNeg (-1) → (b_X10_seat_42 n Q j42) x1 x2 x3 x4 x5 x6 x7 (x8 + 1) d51 dl)
    refine ⟨fun h9 => ?_, fun h9 => ?_⟩
    · have h9 : 8 ≤ x8.toInt := (i_le (rfl : (8 : Int32).toInt = 8) rfl).mp h9
      have hz9 := muS_nn hS.1 x6.toInt
      exact sb_X10_seat_63 hn hQ n _ _ _ _ _ _ _ _ _ hS (by omega) (by omega) (by omega) (by omega) (by omega) (P42_PN hp42 (by omega) (by omega)) (by omega)
    · have h9 : ¬ (8 ≤ x8.toInt) := fun q => h9 ((i_le (rfl : (8 : Int32).toInt = 8) rfl).mpr q)
      have ih50 : vp_in x8 8 := vin rfl (by omega) (by omega)
      refine ⟨ih50, ?_⟩
      intro d51 ed51
      have s_64 : St e el d51 dl := by rw [ed51]; exact pv_244 hS (by decide) (by decide)
      have n_65 : P42 d51 (x8.toInt + 1) := by rw [ed51]; exact P42_s hp42 (by omega)
      have t_66 : (x8 + 1).toInt = x8.toInt + 1 := ti_add rfl (rfl : (1 : Int32).toInt = 1) (by omega) (by omega)
      exact hK42 _ _ _ _ _ _ _ _ _ _ s_64 (by omega) (by omega) (by omega) (by omega) (by omega) (by omega) (by omega) (by omega) (by rw [t_66]; exact n_65) (by omega)
set_option maxHeartbeats 4000000 in
set_option maxRecDepth 100000 in
theorem sp_X10_seat {n : Nat} (hn : 1000000000 ≤ n) {x1 : Int32} {d : DD} {dl : LL} (hI : Inv d) {Q : Int32 → DD → LL → Prop} (hQ : ∀ (r : Int32) (d2 : DD) (l2 : LL), St d dl d2 l2 ∧ (True) → Q r d2 l2) : F_X10_seat n x1 d dl Q := by
  obtain ⟨e, he⟩ : ∃ e : DD, e = d := ⟨_, rfl⟩
  obtain ⟨el, hel⟩ : ∃ el : LL, el = dl := ⟨_, rfl⟩
  have hS : St e el d dl := by rw [he, hel]; exact St.rf hI
  rw [← he, ← hel] at hQ
  show F_X10_isCrew n x1 d dl (fun r1 d2 l3 => (¬ r1 = 0 → vp_in x1 6 ∧ ∀ v6 : Int32, v6 = ((2 : Int32) * (d2 218 x1.toNatClampNeg)) → vp_in x1 6 ∧ ∀ v8 : Int32, v8 = (d2 220 x1.toNatClampNeg) → b_X10_seat_42 n Q n x1 v6 v8 0 0 0 0 0 d2 l3) ∧ (r1 = 0 → Q (-100000) d2 l3))
  refine sp_X10_isCrew hn hS.1 (fun r1 d2 l3 ⟨p_67, u_68⟩ => ?_)
  have s_69 : St e el d2 l3 := hS.sq p_67
  have w_70 : d2 = d := p_67.2.1
  replace u_68 : (0 ≤ r1.toInt ∧ r1.toInt ≤ 1 ∧ ((r1.toInt = 1 ∧ 0 ≤ x1.toInt ∧ x1.toInt < (d 211 1).toInt) ∨ (r1.toInt = 0 ∧ ¬ (0 ≤ x1.toInt ∧ x1.toInt < (d 211 1).toInt)))) := u_68
  have m_71 := iv_211_1 hS.1
  refine ⟨fun h4 => ?_, fun h4 => ?_⟩
  · have h4 : ¬ (r1.toInt = 0) := fun q => h4 ((i_eq rfl (rfl : (0 : Int32).toInt = 0)).mpr q)
    have ih5 : vp_in x1 6 := vin rfl (by omega) (by omega)
    refine ⟨ih5, ?_⟩
    have q_72 : d2 218 x1.toNatClampNeg = (d 218 x1.toNatClampNeg) := by rw [w_70]
    have m_73 := iv_218 hS.1 (x1.toNatClampNeg)
    have t_74 : (d2 218 x1.toNatClampNeg).toInt = (d 218 x1.toNatClampNeg).toInt := (congrArg Int32.toInt q_72).trans rfl
    have t_75 : ((2 : Int32) * (d2 218 x1.toNatClampNeg)).toInt = 2 * (d 218 x1.toNatClampNeg).toInt := ti_mul (rfl : (2 : Int32).toInt = 2) t_74 (by omega) (by omega)
    intro v6 e6
    have t_76 : v6.toInt = (2 * (d 218 x1.toNatClampNeg).toInt) := (congrArg Int32.toInt e6).trans t_75
    have ih7 : vp_in x1 6 := vin rfl (by omega) (by omega)
    refine ⟨ih7, ?_⟩
    have q_77 : d2 220 x1.toNatClampNeg = (d 220 x1.toNatClampNeg) := by rw [w_70]
    have m_78 := iv_220 hS.1 (x1.toNatClampNeg)
    have t_79 : (d2 220 x1.toNatClampNeg).toInt = (d 220 x1.toNatClampNeg).toInt := (congrArg Int32.toInt q_77).trans rfl
    intro v8 e8
    have t_80 : v8.toInt = (d 220 x1.toNatClampNeg).toInt := (congrArg Int32.toInt e8).trans t_79
    exact sb_X10_seat_42 hn hQ n _ _ _ _ _ _ _ _ _ _ s_69 (by omega) (by omega) (by omega) (show 0 ≤ 0 ∧ 0 ≤ 0 from by omega) (show 0 ≤ 0 ∧ 0 ≤ 0 from by omega) (show 0 ≤ 0 ∧ 0 ≤ 0 from by omega) (show 0 ≤ 0 ∧ 0 ≤ 0 from by omega) (show 0 ≤ 0 ∧ 0 ≤ 8 from by omega) (P42_0 _) (show 9 - 0 < (n : Int) from by omega)
  · have h4 : r1.toInt = 0 := (i_eq rfl (rfl : (0 : Int32).toInt = 0)).mp h4
    exact hQ _ _ _ ⟨s_69, trivial⟩
set_option maxHeartbeats 4000000 in
set_option maxRecDepth 100000 in
theorem sb_X10_level_49 {n : Nat} (hn : 1000000000 ≤ n) {e : DD} {el : LL} {Q : Int64 → DD → LL → Prop} (hQ : ∀ (r : Int64) (d2 : DD) (l2 : LL), St e el d2 l2 ∧ True → Q r d2 l2) : ∀ (j49 : Nat) (x1 : Int32) (x2 : Int32) (x3 : Int32) (x4 : Int32) (d : DD) (dl : LL), St e el d dl → (0 ≤ x1.toInt ∧ x1.toInt ≤ 3) → (0 ≤ x2.toInt ∧ x2.toInt ≤ 3) → (0 ≤ x3.toInt ∧ x3.toInt ≤ 1) → (0 ≤ x4.toInt ∧ x4.toInt ≤ 6) → 7 - x4.toInt < (j49 : Int) → b_X10_level_49 n Q j49 x1 x2 x3 x4 d dl := by
  intro j49
  induction j49 with
  | zero =>
    intro x1 x2 x3 x4 d dl hS bx1 bx2 bx3 bx4 hm49
    exfalso
    omega
  | succ j49 hK49 =>
    intro x1 x2 x3 x4 d dl hS bx1 bx2 bx3 bx4 hm49
    show ((d 211 1) ≤ x4 → (¬ (lg_cmp (dl 211 45) 0) = 0 → (0 ≤ (lg_cmp (dl 211 44) 0) → b_X10_level_154 n Q x3 (dl 211 44) d dl) ∧ (¬ 0 ≤ (lg_cmp (dl 211 44) 0) → b_X10_level_154 n Q x3 (-(dl 211 44)) d dl)) ∧ ((lg_cmp (dl 211 45) 0) = 0 → Q (-9223372036854775808) d dl)) ∧ (¬ (d 211 1) ≤ x4 → F_X10_leastTime n x4 x1 d dl (fun r20 d21 l22 => F_X10_leastTime n x4 x2 d21 l22 (fun r23 d24 l25 => (r20 = 0 → (b_X10_level_49 n Q j49) x1 x2 x3 (x4 + 1) d24 l25) ∧ (¬ r20 = 0 → (¬ r23 = 0 → ∀ l28 : LL, l28 = l2 l25 211 44 ((l25 211 44) + ((r20 - r23).toInt64)) → ∀ l29 : LL, l29 = l2 l28 211 45 ((l28 211 45) + 1) → (b_X10_level_49 n Q j49) x1 x2 x3 (x4 + 1) d24 l29) ∧ (r23 = 0 → (b_X10_level_49 n Q j49) x1 x2 x3 (x4 + 1) d24 l25)))))
    have m_1 := iv_211_1 hS.1
    refine ⟨fun h10 => ?_, fun h10 => ?_⟩
    · have h10 : (d 211 1).toInt ≤ x4.toInt := (i_le rfl rfl).mp h10
      refine ⟨fun h11 => ?_, fun h11 => ?_⟩
      · have h11 : ¬ ((lg_cmp (dl 211 45) 0).toInt = 0) := fun q => h11 ((i_eq rfl (rfl : (0 : Int32).toInt = 0)).mpr q)
        refine ⟨fun h12 => ?_, fun h12 => ?_⟩
        · have h12 : 0 ≤ (lg_cmp (dl 211 44) 0).toInt := (i_le (rfl : (0 : Int32).toInt = 0) rfl).mp h12
          exact sb_X10_level_154 hn hQ _ _ _ _ hS (by omega) (lgc (by omega))
        · have h12 : ¬ (0 ≤ (lg_cmp (dl 211 44) 0).toInt) := fun q => h12 ((i_le (rfl : (0 : Int32).toInt = 0) rfl).mpr q)
          exact sb_X10_level_154 hn hQ _ _ _ _ hS (by omega) (lgc (by omega))
      · have h11 : (lg_cmp (dl 211 45) 0).toInt = 0 := (i_eq rfl (rfl : (0 : Int32).toInt = 0)).mp h11
        exact hQ _ _ _ ⟨hS, trivial⟩
    · have h10 : ¬ ((d 211 1).toInt ≤ x4.toInt) := fun q => h10 ((i_le rfl rfl).mpr q)
      refine sp_X10_leastTime hn hS.1 ⟨by omega, by omega⟩ (fun r20 d21 l22 ⟨p_2, u_3⟩ => ?_)
      have s_4 : St e el d21 l22 := hS.sq p_2
      have w_5 : d21 = d := p_2.2.1
      refine sp_X10_leastTime hn s_4.1 ⟨by omega, by omega⟩ (fun r23 d24 l25 ⟨p_6, u_7⟩ => ?_)
      have s_8 : St e el d24 l25 := s_4.sq p_6
      have w_9 : d24 = d21 := p_6.2.1
      refine ⟨fun h26 => ?_, fun h26 => ?_⟩
      · have h26 : r20.toInt = 0 := (i_eq rfl (rfl : (0 : Int32).toInt = 0)).mp h26
        have t_10 : (x4 + 1).toInt = x4.toInt + 1 := ti_add rfl (rfl : (1 : Int32).toInt = 1) (by omega) (by omega)
        exact hK49 _ _ _ _ _ _ s_8 (by omega) (by omega) (by omega) (by omega) (by omega)
      · have h26 : ¬ (r20.toInt = 0) := fun q => h26 ((i_eq rfl (rfl : (0 : Int32).toInt = 0)).mpr q)
        refine ⟨fun h27 => ?_, fun h27 => ?_⟩
        · have h27 : ¬ (r23.toInt = 0) := fun q => h27 ((i_eq rfl (rfl : (0 : Int32).toInt = 0)).mpr q)
          intro l28 el28
          have s_11 : St e el d24 l28 := by rw [el28]; exact pv_211_44 s_8
          intro l29 el29
          have s_12 : St e el d24 l29 := by rw [el29]; exact pv_211_45 s_11
          have t_13 : (x4 + 1).toInt = x4.toInt + 1 := ti_add rfl (rfl : (1 : Int32).toInt = 1) (by omega) (by omega)
          exact hK49 _ _ _ _ _ _ s_12 (by omega) (by omega) (by omega) (by omega) (by omega)
        · have h27 : r23.toInt = 0 := (i_eq rfl (rfl : (0 : Int32).toInt = 0)).mp h27
          have t_14 : (x4 + 1).toInt = x4.toInt + 1 := ti_add rfl (rfl : (1 : Int32).toInt = 1) (by omega) (by omega)
          exact hK49 _ _ _ _ _ _ s_8 (by omega) (by omega) (by omega) (by omega) (by omega)
set_option maxHeartbeats 4000000 in
set_option maxRecDepth 100000 in
theorem sp_X10_level {n : Nat} (hn : 1000000000 ≤ n) {x1 : Int32} {x2 : Int32} {x3 : Int32} {d : DD} {dl : LL} (hI : Inv d) {Q : Int64 → DD → LL → Prop} (hQ : ∀ (r : Int64) (d2 : DD) (l2 : LL), St d dl d2 l2 ∧ True → Q r d2 l2) : F_X10_level n x1 x2 x3 d dl Q := by
  obtain ⟨e, he⟩ : ∃ e : DD, e = d := ⟨_, rfl⟩
  obtain ⟨el, hel⟩ : ∃ el : LL, el = dl := ⟨_, rfl⟩
  have hS : St e el d dl := by rw [he, hel]; exact St.rf hI
  rw [← he, ← hel] at hQ
  show (x1 < 0 → Q (-9223372036854775808) d dl) ∧ (¬ x1 < 0 → (3 < x1 → Q (-9223372036854775808) d dl) ∧ (¬ 3 < x1 → (x2 < 0 → Q (-9223372036854775808) d dl) ∧ (¬ x2 < 0 → (3 < x2 → Q (-9223372036854775808) d dl) ∧ (¬ 3 < x2 → (x1 = x2 → Q (-9223372036854775808) d dl) ∧ (¬ x1 = x2 → (x3 < 0 → Q (-9223372036854775808) d dl) ∧ (¬ x3 < 0 → (x3 ≤ 1 → ∀ l8 : LL, l8 = l2 dl 211 44 0 → ∀ l9 : LL, l9 = l2 l8 211 45 0 → b_X10_level_49 n Q n x1 x2 x3 0 d l9) ∧ (¬ x3 ≤ 1 → Q (-9223372036854775808) d dl)))))))
  refine ⟨fun h1 => ?_, fun h1 => ?_⟩
  · have h1 : x1.toInt < 0 := (i_lt rfl (rfl : (0 : Int32).toInt = 0)).mp h1
    exact hQ _ _ _ ⟨hS, trivial⟩
  · have h1 : ¬ (x1.toInt < 0) := fun q => h1 ((i_lt rfl (rfl : (0 : Int32).toInt = 0)).mpr q)
    refine ⟨fun h2 => ?_, fun h2 => ?_⟩
    · have h2 : 3 < x1.toInt := (i_lt (rfl : (3 : Int32).toInt = 3) rfl).mp h2
      exact hQ _ _ _ ⟨hS, trivial⟩
    · have h2 : ¬ (3 < x1.toInt) := fun q => h2 ((i_lt (rfl : (3 : Int32).toInt = 3) rfl).mpr q)
      refine ⟨fun h3 => ?_, fun h3 => ?_⟩
      · have h3 : x2.toInt < 0 := (i_lt rfl (rfl : (0 : Int32).toInt = 0)).mp h3
        exact hQ _ _ _ ⟨hS, trivial⟩
      · have h3 : ¬ (x2.toInt < 0) := fun q => h3 ((i_lt rfl (rfl : (0 : Int32).toInt = 0)).mpr q)
        refine ⟨fun h4 => ?_, fun h4 => ?_⟩
        · have h4 : 3 < x2.toInt := (i_lt (rfl : (3 : Int32).toInt = 3) rfl).mp h4
          exact hQ _ _ _ ⟨hS, trivial⟩
        · have h4 : ¬ (3 < x2.toInt) := fun q => h4 ((i_lt (rfl : (3 : Int32).toInt = 3) rfl).mpr q)
          refine ⟨fun h5 => ?_, fun h5 => ?_⟩
          · have h5 : x1.toInt = x2.toInt := (i_eq rfl rfl).mp h5
            exact hQ _ _ _ ⟨hS, trivial⟩
          · have h5 : ¬ (x1.toInt = x2.toInt) := fun q => h5 ((i_eq rfl rfl).mpr q)
            refine ⟨fun h6 => ?_, fun h6 => ?_⟩
            · have h6 : x3.toInt < 0 := (i_lt rfl (rfl : (0 : Int32).toInt = 0)).mp h6
              exact hQ _ _ _ ⟨hS, trivial⟩
            · have h6 : ¬ (x3.toInt < 0) := fun q => h6 ((i_lt rfl (rfl : (0 : Int32).toInt = 0)).mpr q)
              refine ⟨fun h7 => ?_, fun h7 => ?_⟩
              · have h7 : x3.toInt ≤ 1 := (i_le rfl (rfl : (1 : Int32).toInt = 1)).mp h7
                intro l8 el8
                have s_15 : St e el d l8 := by rw [el8]; exact pv_211_44 hS
                intro l9 el9
                have s_16 : St e el d l9 := by rw [el9]; exact pv_211_45 s_15
                exact sb_X10_level_49 hn hQ n _ _ _ _ _ _ s_16 (by omega) (by omega) (by omega) (show 0 ≤ 0 ∧ 0 ≤ 6 from by omega) (show 7 - 0 < (n : Int) from by omega)
              · have h7 : ¬ (x3.toInt ≤ 1) := fun q => h7 ((i_le rfl (rfl : (1 : Int32).toInt = 1)).mpr q)
                exact hQ _ _ _ ⟨hS, trivial⟩
