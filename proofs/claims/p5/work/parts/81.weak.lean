set_option maxHeartbeats 4000000 in
set_option maxRecDepth 100000 in
theorem sp_X9_rule {n : Nat} (hn : 1000000000 ≤ n) {d : DD} {dl : LL} (hI : Inv d) {Q : Int32 → DD → LL → Prop} (hQ : ∀ (r : Int32) (d2 : DD) (l2 : LL), StS d dl d2 l2 ∧ ((-130) ≤ r.toInt ∧ r.toInt ≤ 5) → Q r d2 l2) : F_X9_rule n d dl Q := by
  obtain ⟨e, he⟩ : ∃ e : DD, e = d := ⟨_, rfl⟩
  obtain ⟨el, hel⟩ : ∃ el : LL, el = dl := ⟨_, rfl⟩
  have hS : StS e el d dl := by rw [he, hel]; exact StS.rf hI
  rw [← he, ← hel] at hQ
  show ((d 0 7) < 6 → vp_in (d 0 7) 6 ∧ ∀ k3 : Nat, k3 = (d 0 7).toNatClampNeg → F_X7_readInto n k3 d dl (fun r4 d5 l6 => ∀ d7 : DD, d7 = u2 d5 24 0 0 → (¬ r4 = 0 → ∀ d9 : DD, d9 = u2 d7 0 7 ((d7 0 7) + 1) → Q ((d9 0 7) - 1) d9 l6) ∧ (r4 = 0 → Q (((-10) : Int32) - (d7 24 1)) d7 l6))) ∧ (¬ (d 0 7) < 6 → Q (-4) d dl)
  have m_1 := iv_0_7 hS.1
  refine ⟨fun h1 => ?_, fun h1 => ?_⟩
  · have h1 : (d 0 7).toInt < 6 := (i_lt rfl (rfl : (6 : Int32).toInt = 6)).mp h1
    have ih2 : vp_in (d 0 7) 6 := vin rfl (by omega) (by omega)
    refine ⟨ih2, ?_⟩
    intro k3 ek3
    have hk3 : k3 < 6 := by rw [ek3]; exact clamp_in ih2
    refine sp_X7_readInto hn hS.1 hk3 (fun r4 d5 l6 ⟨p_2, u_3⟩ => ?_)
    have s_4 : StS e el d5 l6 := hS.tr le_StS_St p_2
    replace u_3 : (0 ≤ r4.toInt ∧ r4.toInt ≤ 1) := u_3
    intro d7 ed7
    have s_5 : StS e el d7 l6 := by rw [ed7]; exact pw_24_0 s_4 (by decide) (by decide) rfl
    refine ⟨fun h8 => ?_, fun h8 => ?_⟩
    · have h8 : ¬ (r4.toInt = 0) := fun q => h8 ((i_eq rfl (rfl : (0 : Int32).toInt = 0)).mpr q)
      have q_6 : d7 0 7 = (d 0 7) := by rw [ed7, u2_row (by omega)]; rw [p_2.2.1 0 7 rfl]
      have t_7 : (d7 0 7).toInt = (d 0 7).toInt := (congrArg Int32.toInt q_6).trans rfl
      have t_8 : ((d7 0 7) + 1).toInt = (d 0 7).toInt + 1 := ti_add t_7 (rfl : (1 : Int32).toInt = 1) (by omega) (by omega)
      intro d9 ed9
      have s_9 : StS e el d9 l6 := by rw [ed9]; exact pw_0_7 s_5 (by rw [t_8]; omega) (by rw [t_8]; omega) rfl
      have q_10 : d9 0 7 = ((d7 0 7) + 1) := by rw [ed9, u2_eq]
      have t_11 : (d9 0 7).toInt = ((d 0 7).toInt + 1) := (congrArg Int32.toInt q_10).trans t_8
      have t_12 : ((d9 0 7) - 1).toInt = ((d 0 7).toInt + 1) - 1 := ti_sub t_11 (rfl : (1 : Int32).toInt = 1) (by omega) (by omega)
      exact hQ _ _ _ ⟨s_9, by omega⟩
    · have h8 : r4.toInt = 0 := (i_eq rfl (rfl : (0 : Int32).toInt = 0)).mp h8
      have q_13 : d7 24 1 = (d5 24 1) := by rw [ed7, u2_ne (Or.inr (by omega))]
      have m_14 := iv_24_1 s_4.1
      have t_15 : (d7 24 1).toInt = (d5 24 1).toInt := (congrArg Int32.toInt q_13).trans rfl
      have t_16 : (((-10) : Int32) - (d7 24 1)).toInt = (-10) - (d5 24 1).toInt := ti_sub (rfl : ((-10) : Int32).toInt = (-10)) t_15 (by omega) (by omega)
      generalize (((-10) : Int32) - (d7 24 1)) = z_17 at t_16 ⊢
      exact hQ _ _ _ ⟨s_5, by omega⟩
  · have h1 : ¬ ((d 0 7).toInt < 6) := fun q => h1 ((i_lt rfl (rfl : (6 : Int32).toInt = 6)).mpr q)
    exact hQ _ _ _ ⟨hS, (show ((-130) ≤ (-4) ∧ (-4) ≤ 5) from by omega)⟩
set_option maxHeartbeats 4000000 in
set_option maxRecDepth 100000 in
theorem sb_X10_rule_163 {n : Nat} (hn : 1000000000 ≤ n) {e : DD} {el : LL} {Q : Int32 → DD → LL → Prop} (hQ : ∀ (r : Int32) (d2 : DD) (l2 : LL), StT e el d2 l2 ∧ ((-131) ≤ r.toInt ∧ r.toInt ≤ 5) → Q r d2 l2) : ∀ (x1 : Int32) (d : DD) (dl : LL), StT e el d dl → (1 ≤ x1.toInt ∧ x1.toInt ≤ 8) → ((d 211 2).toInt ≤ 5) → b_X10_rule_163 n Q x1 d dl := by
  intro x1 d dl hS bx1 bi0
  show ∀ d11 : DD, d11 = u2 d 211 4 0 → ((d11 211 47) = (-1) → vp_in (d11 211 2) 6 ∧ ∀ d14 : DD, d14 = u2 d11 226 (d11 211 2).toNatClampNeg x1 → ∀ d15 : DD, d15 = u2 d14 211 2 ((d14 211 2) + 1) → Q (d14 211 2) d15 dl) ∧ (¬ (d11 211 47) = (-1) → Q (((-10) : Int32) - (d11 211 47)) d11 dl)
  intro d11 ed11
  have s_1 : StT e el d11 dl := by rw [ed11]; exact pw_211_4 hS (by decide) (by decide) rfl
  have q_2 : d11 211 47 = (d 211 47) := by rw [ed11, u2_ne (Or.inr (by omega))]
  have m_3 := iv_211_47 hS.1
  have t_4 : (d11 211 47).toInt = (d 211 47).toInt := (congrArg Int32.toInt q_2).trans rfl
  refine ⟨fun h12 => ?_, fun h12 => ?_⟩
  · have h12 : (d 211 47).toInt = (-1) := (i_eq t_4 (rfl : ((-1) : Int32).toInt = (-1))).mp h12
    have q_5 : d11 211 2 = (d 211 2) := by rw [ed11, u2_ne (Or.inr (by omega))]
    have m_6 := iv_211_2 hS.1
    have t_7 : (d11 211 2).toInt = (d 211 2).toInt := (congrArg Int32.toInt q_5).trans rfl
    have ih13 : vp_in (d11 211 2) 6 := vin t_7 (by omega) (by omega)
    refine ⟨ih13, ?_⟩
    intro d14 ed14
    have s_8 : StT e el d14 dl := by rw [ed14]; exact pw_226 s_1 (by omega) (by omega) rfl
    have q_9 : d14 211 2 = (d 211 2) := by rw [ed14, u2_row (by omega)]; rw [ed11, u2_ne (Or.inr (by omega))]
    have t_10 : (d14 211 2).toInt = (d 211 2).toInt := (congrArg Int32.toInt q_9).trans rfl
    have t_11 : ((d14 211 2) + 1).toInt = (d 211 2).toInt + 1 := ti_add t_10 (rfl : (1 : Int32).toInt = 1) (by omega) (by omega)
    intro d15 ed15
    have s_12 : StT e el d15 dl := by rw [ed15]; exact pw_211_2 s_8 (by rw [t_11]; omega) (by rw [t_11]; omega) rfl
    exact hQ _ _ _ ⟨s_12, by omega⟩
  · have h12 : ¬ ((d 211 47).toInt = (-1)) := fun q => h12 ((i_eq t_4 (rfl : ((-1) : Int32).toInt = (-1))).mpr q)
    have t_13 : (((-10) : Int32) - (d11 211 47)).toInt = (-10) - (d 211 47).toInt := ti_sub (rfl : ((-10) : Int32).toInt = (-10)) t_4 (by omega) (by omega)
    generalize (((-10) : Int32) - (d11 211 47)) = z_14 at t_13 ⊢
    exact hQ _ _ _ ⟨s_1, by omega⟩
set_option maxHeartbeats 4000000 in
set_option maxRecDepth 100000 in
theorem sb_X10_rule_127 {n : Nat} (hn : 1000000000 ≤ n) {e : DD} {el : LL} {Q : Int32 → DD → LL → Prop} (hQ : ∀ (r : Int32) (d2 : DD) (l2 : LL), StT e el d2 l2 ∧ ((-131) ≤ r.toInt ∧ r.toInt ≤ 5) → Q r d2 l2) {K47 : Int32 → Int32 → DD → LL → Prop} {j47 : Nat} (hK47 : ∀ (x1 : Int32) (x2 : Int32) (d : DD) (dl : LL), StT e el d dl → (1 ≤ x1.toInt ∧ x1.toInt ≤ 8) → (0 ≤ x2.toInt ∧ x2.toInt ≤ 40) → ((d 211 2).toInt ≤ 5) → 9 - x1.toInt < (j47 : Int) → K47 x1 x2 d dl) : ∀ (x1 : Int32) (x2 : Int32) (x3 : Int32) (ws0 : Nat) (hws0 : ws0 < 19) (d : DD) (dl : LL), StT e el d dl → (1 ≤ x1.toInt ∧ x1.toInt ≤ 7) → (0 ≤ x2.toInt ∧ x2.toInt ≤ 40) → (0 ≤ x3.toInt ∧ x3.toInt ≤ 1) → ((d 211 2).toInt ≤ 5) → 9 - x1.toInt ≤ (j47 : Int) → b_X10_rule_127 n Q K47 x1 x2 x3 ws0 d dl := by
  intro x1 x2 x3 ws0 hws0 d dl hS bx1 bx2 bx3 bi0 hm47
  show F_X10_expect n ws0 d dl (fun d28 l29 => ((d28 211 47) = (-1) → vp_in (x2 + x1) 48 ∧ ∀ d32 : DD, d32 = u2 d28 231 (x2 + x1).toNatClampNeg (vp_nar .boolean x3) → F_X10_test n (x2 + x1) d32 l29 (fun d34 l35 => K47 (x1 + 1) x2 d34 l35)) ∧ (¬ (d28 211 47) = (-1) → b_X10_rule_163 n Q x1 d28 l29))
  refine sp_X10_expect hn hS.1 hws0 (fun d28 l29 ⟨p_15, u_16⟩ => ?_)
  have s_17 : StT e el d28 l29 := hS.tr le_StT_St p_15
  have m_18 := iv_211_47 s_17.1
  refine ⟨fun h30 => ?_, fun h30 => ?_⟩
  · have h30 : (d28 211 47).toInt = (-1) := (i_eq rfl (rfl : ((-1) : Int32).toInt = (-1))).mp h30
    have t_19 : (x2 + x1).toInt = x2.toInt + x1.toInt := ti_add rfl rfl (by omega) (by omega)
    have ih31 : vp_in (x2 + x1) 48 := vin t_19 (by omega) (by omega)
    refine ⟨ih31, ?_⟩
    intro d32 ed32
    have s_20 : StT e el d32 l29 := by rw [ed32]; exact pw_231 s_17 (vn_in _).1 (vn_in _).2 rfl
    refine sp_X10_test hn s_20.1 ⟨by rw [t_19]; omega, by rw [t_19]; omega⟩ (fun d34 l35 ⟨p_21, u_22⟩ => ?_)
    have s_23 : StT e el d34 l35 := s_20.tr le_StT_St p_21
    have t_24 : (x1 + 1).toInt = x1.toInt + 1 := ti_add rfl (rfl : (1 : Int32).toInt = 1) (by omega) (by omega)
    have q_25 : d34 211 2 = (d 211 2) := by rw [p_21.2.1 211 2 rfl]; rw [ed32, u2_row (by omega)]; rw [p_15.2.1 211 2 rfl]
    have m_26 := iv_211_2 hS.1
    have t_27 : (d34 211 2).toInt = (d 211 2).toInt := (congrArg Int32.toInt q_25).trans rfl
    exact hK47 _ _ _ _ s_23 (by omega) (by omega) (by omega) (by omega)
  · have h30 : ¬ ((d28 211 47).toInt = (-1)) := fun q => h30 ((i_eq rfl (rfl : ((-1) : Int32).toInt = (-1))).mpr q)
    have q_28 : d28 211 2 = (d 211 2) := by rw [p_15.2.1 211 2 rfl]
    have m_29 := iv_211_2 hS.1
    have t_30 : (d28 211 2).toInt = (d 211 2).toInt := (congrArg Int32.toInt q_28).trans rfl
    exact sb_X10_rule_163 hn hQ _ _ _ s_17 (by omega) (by omega)
set_option maxHeartbeats 4000000 in
set_option maxRecDepth 100000 in
theorem sb_X10_rule_114 {n : Nat} (hn : 1000000000 ≤ n) {e : DD} {el : LL} {Q : Int32 → DD → LL → Prop} (hQ : ∀ (r : Int32) (d2 : DD) (l2 : LL), StT e el d2 l2 ∧ ((-131) ≤ r.toInt ∧ r.toInt ≤ 5) → Q r d2 l2) {K47 : Int32 → Int32 → DD → LL → Prop} {j47 : Nat} (hK47 : ∀ (x1 : Int32) (x2 : Int32) (d : DD) (dl : LL), StT e el d dl → (1 ≤ x1.toInt ∧ x1.toInt ≤ 8) → (0 ≤ x2.toInt ∧ x2.toInt ≤ 40) → ((d 211 2).toInt ≤ 5) → 9 - x1.toInt < (j47 : Int) → K47 x1 x2 d dl) : ∀ (x1 : Int32) (x2 : Int32) (xs0 : Int32) (d : DD) (dl : LL), StT e el d dl → (1 ≤ x1.toInt ∧ x1.toInt ≤ 7) → (0 ≤ x2.toInt ∧ x2.toInt ≤ 40) → (0 ≤ xs0.toInt ∧ xs0.toInt ≤ 1) → ((d 211 2).toInt ≤ 5) → 9 - x1.toInt ≤ (j47 : Int) → b_X10_rule_114 n Q K47 x1 x2 xs0 d dl := by
  intro x1 x2 xs0 d dl hS bx1 bx2 bxs0 bi0 hm47
  show (xs0 = 0 → b_X10_rule_127 n Q K47 x1 x2 xs0 18 d dl) ∧ (¬ xs0 = 0 → b_X10_rule_127 n Q K47 x1 x2 xs0 17 d dl)
  refine ⟨fun h26 => ?_, fun h26 => ?_⟩
  · have h26 : xs0.toInt = 0 := (i_eq rfl (rfl : (0 : Int32).toInt = 0)).mp h26
    have m_31 := iv_211_2 hS.1
    exact sb_X10_rule_127 hn hQ hK47 _ _ _ _ (Nat.le_of_ble_eq_true rfl) _ _ hS (by omega) (by omega) (by omega) (by omega) (by omega)
  · have h26 : ¬ (xs0.toInt = 0) := fun q => h26 ((i_eq rfl (rfl : (0 : Int32).toInt = 0)).mpr q)
    have m_32 := iv_211_2 hS.1
    exact sb_X10_rule_127 hn hQ hK47 _ _ _ _ (Nat.le_of_ble_eq_true rfl) _ _ hS (by omega) (by omega) (by omega) (by omega) (by omega)
set_option maxHeartbeats 4000000 in
set_option maxRecDepth 100000 in
theorem sb_X10_rule_47 {n : Nat} (hn : 1000000000 ≤ n) {e : DD} {el : LL} {Q : Int32 → DD → LL → Prop} (hQ : ∀ (r : Int32) (d2 : DD) (l2 : LL), StT e el d2 l2 ∧ ((-131) ≤ r.toInt ∧ r.toInt ≤ 5) → Q r d2 l2) : ∀ (j47 : Nat) (x1 : Int32) (x2 : Int32) (d : DD) (dl : LL), StT e el d dl → (1 ≤ x1.toInt ∧ x1.toInt ≤ 8) → (0 ≤ x2.toInt ∧ x2.toInt ≤ 40) → ((d 211 2).toInt ≤ 5) → 9 - x1.toInt < (j47 : Int) → b_X10_rule_47 n Q j47 x1 x2 d dl := by
  intro j47
  induction j47 with
  | zero =>
    intro x1 x2 d dl hS bx1 bx2 bi0 hm47
    exfalso
    omega
  | succ j47 hK47 =>
    intro x1 x2 d dl hS bx1 bx2 bi0 hm47
    show (¬ (d 211 47) = (-1) → b_X10_rule_163 n Q x1 d dl) ∧ ((d 211 47) = (-1) → ((d 211 4) ≤ (d 211 46) → b_X10_rule_163 n Q x1 d dl) ∧ (¬ (d 211 4) ≤ (d 211 46) → (¬ x1 = 8 → F_X10_expect n 16 d dl (fun d19 l20 => ((d19 211 47) = (-1) → F_X10_now n d19 l20 (fun r22 d23 l24 => (¬ r22 = 111 → b_X10_rule_114 n Q (b_X10_rule_47 n Q j47) x1 x2 0 d23 l24) ∧ (r22 = 111 → b_X10_rule_114 n Q (b_X10_rule_47 n Q j47) x1 x2 1 d23 l24))) ∧ (¬ (d19 211 47) = (-1) → b_X10_rule_163 n Q x1 d19 l20))) ∧ (x1 = 8 → ∀ d36 : DD, d36 = u2 d 211 47 (d 211 46) → b_X10_rule_163 n Q x1 d36 dl)))
    have m_33 := iv_211_47 hS.1
    refine ⟨fun h10 => ?_, fun h10 => ?_⟩
    · have h10 : ¬ ((d 211 47).toInt = (-1)) := fun q => h10 ((i_eq rfl (rfl : ((-1) : Int32).toInt = (-1))).mpr q)
      have m_34 := iv_211_2 hS.1
      exact sb_X10_rule_163 hn hQ _ _ _ hS (by omega) (by omega)
    · have h10 : (d 211 47).toInt = (-1) := (i_eq rfl (rfl : ((-1) : Int32).toInt = (-1))).mp h10
      have m_35 := iv_211_46 hS.1
      have m_36 := iv_211_4 hS.1
      refine ⟨fun h16 => ?_, fun h16 => ?_⟩
      · have h16 : (d 211 4).toInt ≤ (d 211 46).toInt := (i_le rfl rfl).mp h16
        have m_37 := iv_211_2 hS.1
        exact sb_X10_rule_163 hn hQ _ _ _ hS (by omega) (by omega)
      · have h16 : ¬ ((d 211 4).toInt ≤ (d 211 46).toInt) := fun q => h16 ((i_le rfl rfl).mpr q)
        refine ⟨fun h17 => ?_, fun h17 => ?_⟩
        · have h17 : ¬ (x1.toInt = 8) := fun q => h17 ((i_eq rfl (rfl : (8 : Int32).toInt = 8)).mpr q)
          refine sp_X10_expect hn hS.1 (Nat.le_of_ble_eq_true rfl) (fun d19 l20 ⟨p_38, u_39⟩ => ?_)
          have s_40 : StT e el d19 l20 := hS.tr le_StT_St p_38
          have m_41 := iv_211_47 s_40.1
          refine ⟨fun h21 => ?_, fun h21 => ?_⟩
          · have h21 : (d19 211 47).toInt = (-1) := (i_eq rfl (rfl : ((-1) : Int32).toInt = (-1))).mp h21
            refine sp_X10_now hn s_40.1 (fun r22 d23 l24 ⟨p_42, u_43⟩ => ?_)
            have s_44 : StT e el d23 l24 := s_40.sq p_42
            have w_45 : d23 = d19 := p_42.2.1
            replace u_43 : ((r22.toInt = -1 ∨ (d19 211 46).toInt < (d19 211 4).toInt)) := u_43
            have m_46 := iv_211_46 s_40.1
            have m_47 := iv_211_4 s_40.1
            refine ⟨fun h25 => ?_, fun h25 => ?_⟩
            · have h25 : ¬ (r22.toInt = 111) := fun q => h25 ((i_eq rfl (rfl : (111 : Int32).toInt = 111)).mpr q)
              have q_48 : d23 211 2 = (d 211 2) := by rw [w_45]; rw [p_38.2.1 211 2 rfl]
              have m_49 := iv_211_2 hS.1
              have t_50 : (d23 211 2).toInt = (d 211 2).toInt := (congrArg Int32.toInt q_48).trans rfl
              exact sb_X10_rule_114 hn hQ hK47 _ _ _ _ _ s_44 (by omega) (by omega) (show 0 ≤ 0 ∧ 0 ≤ 1 from by omega) (by omega) (by omega)
            · have h25 : r22.toInt = 111 := (i_eq rfl (rfl : (111 : Int32).toInt = 111)).mp h25
              have q_51 : d23 211 2 = (d 211 2) := by rw [w_45]; rw [p_38.2.1 211 2 rfl]
              have m_52 := iv_211_2 hS.1
              have t_53 : (d23 211 2).toInt = (d 211 2).toInt := (congrArg Int32.toInt q_51).trans rfl
              exact sb_X10_rule_114 hn hQ hK47 _ _ _ _ _ s_44 (by omega) (by omega) (show 0 ≤ 1 ∧ 1 ≤ 1 from by omega) (by omega) (by omega)
          · have h21 : ¬ ((d19 211 47).toInt = (-1)) := fun q => h21 ((i_eq rfl (rfl : ((-1) : Int32).toInt = (-1))).mpr q)
            have q_54 : d19 211 2 = (d 211 2) := by rw [p_38.2.1 211 2 rfl]
            have m_55 := iv_211_2 hS.1
            have t_56 : (d19 211 2).toInt = (d 211 2).toInt := (congrArg Int32.toInt q_54).trans rfl
            exact sb_X10_rule_163 hn hQ _ _ _ s_40 (by omega) (by omega)
        · have h17 : x1.toInt = 8 := (i_eq rfl (rfl : (8 : Int32).toInt = 8)).mp h17
          intro d36 ed36
          have s_57 : StT e el d36 dl := by rw [ed36]; exact pw_211_47 hS (by omega) (by omega) rfl
          have q_58 : d36 211 2 = (d 211 2) := by rw [ed36, u2_ne (Or.inr (by omega))]
          have m_59 := iv_211_2 hS.1
          have t_60 : (d36 211 2).toInt = (d 211 2).toInt := (congrArg Int32.toInt q_58).trans rfl
          exact sb_X10_rule_163 hn hQ _ _ _ s_57 (by omega) (by omega)
set_option maxHeartbeats 4000000 in
set_option maxRecDepth 100000 in
theorem sp_X10_rule {n : Nat} (hn : 1000000000 ≤ n) {d : DD} {dl : LL} (hI : Inv d) {Q : Int32 → DD → LL → Prop} (hQ : ∀ (r : Int32) (d2 : DD) (l2 : LL), StT d dl d2 l2 ∧ ((-131) ≤ r.toInt ∧ r.toInt ≤ 5) → Q r d2 l2) : F_X10_rule n d dl Q := by
  obtain ⟨e, he⟩ : ∃ e : DD, e = d := ⟨_, rfl⟩
  obtain ⟨el, hel⟩ : ∃ el : LL, el = dl := ⟨_, rfl⟩
  have hS : StT e el d dl := by rw [he, hel]; exact StT.rf hI
  rw [← he, ← hel] at hQ
  show (¬ (d 211 2) = 6 → ∀ d2 : DD, d2 = u2 d 211 46 0 → ∀ d3 : DD, d3 = u2 d2 211 47 (-1) → ∀ v4 : Int32, v4 = ((8 : Int32) * (d3 211 2)) → vp_in v4 48 ∧ ∀ d6 : DD, d6 = u2 d3 231 v4.toNatClampNeg (vp_nar .boolean 0) → F_X10_test n v4 d6 dl (fun d8 l9 => b_X10_rule_47 n Q n ((0 : Int32) + 1) v4 d8 l9)) ∧ ((d 211 2) = 6 → Q (-4) d dl)
  have m_61 := iv_211_2 hS.1
  refine ⟨fun h1 => ?_, fun h1 => ?_⟩
  · have h1 : ¬ ((d 211 2).toInt = 6) := fun q => h1 ((i_eq rfl (rfl : (6 : Int32).toInt = 6)).mpr q)
    intro d2 ed2
    have s_62 : StT e el d2 dl := by rw [ed2]; exact pw_211_46 hS (by decide) (by decide) rfl
    intro d3 ed3
    have s_63 : StT e el d3 dl := by rw [ed3]; exact pw_211_47 s_62 (by decide) (by decide) rfl
    have q_64 : d3 211 2 = (d 211 2) := by rw [ed3, u2_ne (Or.inr (by omega))]; rw [ed2, u2_ne (Or.inr (by omega))]
    have t_65 : (d3 211 2).toInt = (d 211 2).toInt := (congrArg Int32.toInt q_64).trans rfl
    have t_66 : ((8 : Int32) * (d3 211 2)).toInt = 8 * (d 211 2).toInt := ti_mul (rfl : (8 : Int32).toInt = 8) t_65 (by omega) (by omega)
    intro v4 e4
    have t_67 : v4.toInt = (8 * (d 211 2).toInt) := (congrArg Int32.toInt e4).trans t_66
    have ih5 : vp_in v4 48 := vin t_67 (by omega) (by omega)
    refine ⟨ih5, ?_⟩
    intro d6 ed6
    have s_68 : StT e el d6 dl := by rw [ed6]; exact pw_231 s_63 (vn_in _).1 (vn_in _).2 rfl
    refine sp_X10_test hn s_68.1 ⟨by rw [t_67]; omega, by rw [t_67]; omega⟩ (fun d8 l9 ⟨p_69, u_70⟩ => ?_)
    have s_71 : StT e el d8 l9 := s_68.tr le_StT_St p_69
    have t_72 : ((0 : Int32) + 1).toInt = 0 + 1 := ti_add (rfl : (0 : Int32).toInt = 0) (rfl : (1 : Int32).toInt = 1) (by omega) (by omega)
    have q_73 : d8 211 2 = (d 211 2) := by rw [p_69.2.1 211 2 rfl]; rw [ed6, u2_row (by omega)]; rw [ed3, u2_ne (Or.inr (by omega))]; rw [ed2, u2_ne (Or.inr (by omega))]
    have t_74 : (d8 211 2).toInt = (d 211 2).toInt := (congrArg Int32.toInt q_73).trans rfl
    exact sb_X10_rule_47 hn hQ n _ _ _ _ s_71 (by omega) (by omega) (by omega) (by omega)
  · have h1 : (d 211 2).toInt = 6 := (i_eq rfl (rfl : (6 : Int32).toInt = 6)).mp h1
    exact hQ _ _ _ ⟨hS, (show ((-131) ≤ (-4) ∧ (-4) ≤ 5) from by omega)⟩
