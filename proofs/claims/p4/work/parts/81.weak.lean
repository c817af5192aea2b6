set_option maxHeartbeats 4000000 in
set_option maxRecDepth 100000 in
theorem sb_X4_setFriends_44 {n : Nat} (hn : 1000000000 ≤ n) {e : DD} {el : LL} {Q : DD → LL → Prop} (hQ : ∀ (d2 : DD) (l2 : LL), StV e el d2 l2 ∧ True → Q d2 l2) : ∀ (x2 : Int32) (x3 : Int32) (y4 : Int64) (ys0 : Int64) (xs1 : Int32) (d : DD) (dl : LL), StV e el d dl → (0 ≤ x2.toInt ∧ x2.toInt ≤ 39) → (0 ≤ xs1.toInt ∧ xs1.toInt ≤ 39) → b_X4_setFriends_44 n Q x2 x3 y4 ys0 xs1 d dl := by
  intro x2 x3 y4 ys0 xs1 d dl hS bx2 bxs1
  show vp_in xs1 40 ∧ ∀ l6 : LL, l6 = l2 dl 7 xs1.toNatClampNeg ys0 → (x3 = 0 → vp_in x2 40 ∧ vp_in x2 40 ∧ ∀ l10 : LL, l10 = l2 l6 7 x2.toNatClampNeg ((l6 7 x2.toNatClampNeg) &&& (y4 ^^^ (-1))) → Q d l10) ∧ (¬ x3 = 0 → vp_in x2 40 ∧ vp_in x2 40 ∧ ∀ l13 : LL, l13 = l2 l6 7 x2.toNatClampNeg ((l6 7 x2.toNatClampNeg) ||| y4) → Q d l13)
  have ih5 : vp_in xs1 40 := vin rfl (by omega) (by omega)
  refine ⟨ih5, ?_⟩
  intro l6 el6
  have s_1 : StV e el d l6 := hS.lng
  refine ⟨fun h7 => ?_, fun h7 => ?_⟩
  · have h7 : x3.toInt = 0 := (i_eq rfl (rfl : (0 : Int32).toInt = 0)).mp h7
    have ih8 : vp_in x2 40 := vin rfl (by omega) (by omega)
    refine ⟨ih8, ?_⟩
    have ih9 : vp_in x2 40 := vin rfl (by omega) (by omega)
    refine ⟨ih9, ?_⟩
    intro l10 el10
    have s_2 : StV e el d l10 := s_1.lng
    exact hQ _ _ ⟨s_2, trivial⟩
  · have h7 : ¬ (x3.toInt = 0) := fun q => h7 ((i_eq rfl (rfl : (0 : Int32).toInt = 0)).mpr q)
    have ih11 : vp_in x2 40 := vin rfl (by omega) (by omega)
    refine ⟨ih11, ?_⟩
    have ih12 : vp_in x2 40 := vin rfl (by omega) (by omega)
    refine ⟨ih12, ?_⟩
    intro l13 el13
    have s_3 : StV e el d l13 := s_1.lng
    exact hQ _ _ ⟨s_3, trivial⟩
set_option maxHeartbeats 4000000 in
set_option maxRecDepth 100000 in
theorem sp_X4_setFriends {n : Nat} (hn : 1000000000 ≤ n) {x1 : Int32} {x2 : Int32} {x3 : Int32} {d : DD} {dl : LL} (hI : Inv d) (bx1 : 0 ≤ x1.toInt ∧ x1.toInt ≤ 39) (bx2 : 0 ≤ x2.toInt ∧ x2.toInt ≤ 39) {Q : DD → LL → Prop} (hQ : ∀ (d2 : DD) (l2 : LL), StV d dl d2 l2 ∧ True → Q d2 l2) : F_X4_setFriends n x1 x2 x3 d dl Q := by
  obtain ⟨e, he⟩ : ∃ e : DD, e = d := ⟨_, rfl⟩
  obtain ⟨el, hel⟩ : ∃ el : LL, el = dl := ⟨_, rfl⟩
  have hS : StV e el d dl := by rw [he, hel]; exact StV.rf hI
  rw [← he, ← hel] at hQ
  show ∀ v1 : Int64, v1 = (lshl 1 x1) → ∀ v2 : Int64, v2 = (lshl 1 x2) → (x3 = 0 → vp_in x1 40 ∧ b_X4_setFriends_44 n Q x2 x3 v1 ((dl 7 x1.toNatClampNeg) &&& (v2 ^^^ (-1))) x1 d dl) ∧ (¬ x3 = 0 → vp_in x1 40 ∧ b_X4_setFriends_44 n Q x2 x3 v1 ((dl 7 x1.toNatClampNeg) ||| v2) x1 d dl)
  intro v1 e1
  intro v2 e2
  refine ⟨fun h3 => ?_, fun h3 => ?_⟩
  · have h3 : x3.toInt = 0 := (i_eq rfl (rfl : (0 : Int32).toInt = 0)).mp h3
    have ih4 : vp_in x1 40 := vin rfl (by omega) (by omega)
    refine ⟨ih4, ?_⟩
    exact sb_X4_setFriends_44 hn hQ _ _ _ _ _ _ _ hS (by omega) (by omega)
  · have h3 : ¬ (x3.toInt = 0) := fun q => h3 ((i_eq rfl (rfl : (0 : Int32).toInt = 0)).mpr q)
    have ih14 : vp_in x1 40 := vin rfl (by omega) (by omega)
    refine ⟨ih14, ?_⟩
    exact sb_X4_setFriends_44 hn hQ _ _ _ _ _ _ _ hS (by omega) (by omega)
set_option maxHeartbeats 4000000 in
set_option maxRecDepth 100000 in
theorem sp_X1_addMember {n : Nat} (hn : 1000000000 ≤ n) {k0 : Nat} {x1 : Int32} {d : DD} {dl : LL} (hI : Inv d) (hk0 : k0 < 6) (bx1 : 0 ≤ x1.toInt ∧ x1.toInt ≤ 39) (hmc : (d (37 + 3 * k0) 3).toInt < 8) {Q : DD → LL → Prop} (hQ : ∀ (d2 : DD) (l2 : LL), StV d dl d2 l2 ∧ True → Q d2 l2) : F_X1_addMember n k0 x1 d dl Q := by
  obtain ⟨e, he⟩ : ∃ e : DD, e = d := ⟨_, rfl⟩
  obtain ⟨el, hel⟩ : ∃ el : LL, el = dl := ⟨_, rfl⟩
  have hS : StV e el d dl := by rw [he, hel]; exact StV.rf hI
  rw [← he, ← hel] at hQ
  show vp_in (d (37 + 3 * k0) 3) 8 ∧ ∀ d2 : DD, d2 = u2 d (38 + 3 * k0) (d (37 + 3 * k0) 3).toNatClampNeg x1 → ∀ d3 : DD, d3 = u2 d2 (37 + 3 * k0) 3 ((d2 (37 + 3 * k0) 3) + 1) → ∀ l4 : LL, l4 = l2 dl (37 + 3 * k0) 5 ((dl (37 + 3 * k0) 5) ||| (lshl 1 x1)) → ∀ d5 : DD, d5 = u2 d3 (37 + 3 * k0) 6 0 → Q d5 l4
  have m_1 := iv_37_3 hS.1 hk0
  have ih1 : vp_in (d (37 + 3 * k0) 3) 8 := vin rfl (by omega) (by omega)
  refine ⟨ih1, ?_⟩
  intro d2 ed2
  have s_2 : StV e el d2 dl := by rw [ed2]; exact pw_38 hS hk0 (by omega) (by omega) rfl
  have q_3 : d2 (37 + 3 * k0) 3 = (d (37 + 3 * k0) 3) := by rw [ed2, u2_row (by omega)]
  have t_4 : (d2 (37 + 3 * k0) 3).toInt = (d (37 + 3 * k0) 3).toInt := (congrArg Int32.toInt q_3).trans rfl
  have t_5 : ((d2 (37 + 3 * k0) 3) + 1).toInt = (d (37 + 3 * k0) 3).toInt + 1 := ti_add t_4 (rfl : (1 : Int32).toInt = 1) (by omega) (by omega)
  intro d3 ed3
  have s_6 : StV e el d3 dl := by rw [ed3]; exact pw_37_3 s_2 hk0 (by rw [t_5]; omega) (by rw [t_5]; omega) rfl
  intro l4 el4
  have s_7 : StV e el d3 l4 := s_6.lng
  intro d5 ed5
  have s_8 : StV e el d5 l4 := by rw [ed5]; exact pw_37_6 s_7 hk0 (by decide) (by decide) rfl
  exact hQ _ _ ⟨s_8, trivial⟩
set_option maxHeartbeats 4000000 in
set_option maxRecDepth 100000 in
theorem sb_X3_set_13 {n : Nat} (hn : 1000000000 ≤ n) {e : DD} {el : LL} {Q : DD → LL → Prop} (hQ : ∀ (d2 : DD) (l2 : LL), StV e el d2 l2 ∧ True → Q d2 l2) : ∀ (j13 : Nat) (k0 : Nat) (x4 : Int32) (hk0 : k0 < 24) (d : DD) (dl : LL), StV e el d dl → (0 ≤ x4.toInt ∧ x4.toInt ≤ 4) → 5 - x4.toInt < (j13 : Int) → b_X3_set_13 n Q j13 k0 x4 d dl := by
  intro j13
  induction j13 with
  | zero =>
    intro k0 x4 hk0 d dl hS bx4 hm13
    exfalso
    omega
  | succ j13 hK13 =>
    intro k0 x4 hk0 d dl hS bx4 hm13
    show (4 ≤ x4 → Q d dl) ∧ (¬ 4 ≤ x4 → vp_in x4 4 ∧ vp_in x4 4 ∧ ∀ d6 : DD, d6 = u2 d (92 + 5 * k0) x4.toNatClampNeg (d 28 x4.toNatClampNeg) → (b_X3_set_13 n Q j13) k0 (x4 + 1) d6 dl)
    refine ⟨fun h3 => ?_, fun h3 => ?_⟩
    · have h3 : 4 ≤ x4.toInt := (i_le (rfl : (4 : Int32).toInt = 4) rfl).mp h3
      exact hQ _ _ ⟨hS, trivial⟩
    · have h3 : ¬ (4 ≤ x4.toInt) := fun q => h3 ((i_le (rfl : (4 : Int32).toInt = 4) rfl).mpr q)
      have ih4 : vp_in x4 4 := vin rfl (by omega) (by omega)
      refine ⟨ih4, ?_⟩
      have ih5 : vp_in x4 4 := vin rfl (by omega) (by omega)
      refine ⟨ih5, ?_⟩
      have m_1 := iv_28 hS.1 (x4.toNatClampNeg)
      intro d6 ed6
      have s_2 : StV e el d6 dl := by rw [ed6]; exact pw_92 hS hk0 (by omega) (by omega) rfl
      have t_3 : (x4 + 1).toInt = x4.toInt + 1 := ti_add rfl (rfl : (1 : Int32).toInt = 1) (by omega) (by omega)
      exact hK13 _ _ hk0 _ _ s_2 (by omega) (by omega)
set_option maxHeartbeats 4000000 in
set_option maxRecDepth 100000 in
theorem sp_X3_set {n : Nat} (hn : 1000000000 ≤ n) {k0 : Nat} {x1 : Int32} {x2 : Int32} {d : DD} {dl : LL} (hI : Inv d) (hk0 : k0 < 24) (bx1 : 0 ≤ x1.toInt ∧ x1.toInt ≤ 999) (bx2 : 0 ≤ x2.toInt ∧ x2.toInt ≤ 1) {Q : DD → LL → Prop} (hQ : ∀ (d2 : DD) (l2 : LL), StV d dl d2 l2 ∧ True → Q d2 l2) : F_X3_set n k0 x1 x2 d dl Q := by
  obtain ⟨e, he⟩ : ∃ e : DD, e = d := ⟨_, rfl⟩
  obtain ⟨el, hel⟩ : ∃ el : LL, el = dl := ⟨_, rfl⟩
  have hS : StV e el d dl := by rw [he, hel]; exact StV.rf hI
  rw [← he, ← hel] at hQ
  show ∀ d1 : DD, d1 = u2 d (91 + 5 * k0) 0 x1 → ∀ d2 : DD, d2 = u2 d1 (91 + 5 * k0) 1 x2 → b_X3_set_13 n Q n k0 0 d2 dl
  intro d1 ed1
  have s_4 : StV e el d1 dl := by rw [ed1]; exact pw_91_0 hS hk0 (by omega) (by omega) rfl
  intro d2 ed2
  have s_5 : StV e el d2 dl := by rw [ed2]; exact pw_91_1 s_4 hk0 (by omega) (by omega) rfl
  exact sb_X3_set_13 hn hQ n _ _ hk0 _ _ s_5 (show 0 ≤ 0 ∧ 0 ≤ 4 from by omega) (show 5 - 0 < (n : Int) from by omega)
set_option maxHeartbeats 4000000 in
set_option maxRecDepth 100000 in
theorem sb_X9_like_76 {n : Nat} (hn : 1000000000 ≤ n) {e : DD} {el : LL} {Q : Int32 → DD → LL → Prop} (hQ : ∀ (r : Int32) (d2 : DD) (l2 : LL), StW e el d2 l2 ∧ ((-2) ≤ r.toInt ∧ r.toInt ≤ 1) → Q r d2 l2) : ∀ (x4 : Int32) (xs0 : Int32) (xs1 : Int32) (xs2 : Int32) (d : DD) (dl : LL), StW e el d dl → (0 ≤ x4.toInt ∧ x4.toInt ≤ 1) → (0 ≤ xs0.toInt ∧ xs0.toInt ≤ 1) → (0 ≤ xs1.toInt ∧ xs1.toInt ≤ 39) → (0 ≤ xs2.toInt ∧ xs2.toInt ≤ 39) → b_X9_like_76 n Q x4 xs0 xs1 xs2 d dl := by
  intro x4 xs0 xs1 xs2 d dl hS bx4 bxs0 bxs1 bxs2
  show F_X4_setFriends n xs2 xs1 xs0 d dl (fun d20 l21 => Q x4 d20 l21)
  refine sp_X4_setFriends hn hS.1 ⟨by omega, by omega⟩ ⟨by omega, by omega⟩ (fun d20 l21 ⟨p_1, u_2⟩ => ?_)
  have s_3 : StW e el d20 l21 := hS.trV le_StW_StV p_1
  exact hQ _ _ _ ⟨s_3, by omega⟩
set_option maxHeartbeats 4000000 in
set_option maxRecDepth 100000 in
theorem sb_X9_like_58 {n : Nat} (hn : 1000000000 ≤ n) {e : DD} {el : LL} {Q : Int32 → DD → LL → Prop} (hQ : ∀ (r : Int32) (d2 : DD) (l2 : LL), StW e el d2 l2 ∧ ((-2) ≤ r.toInt ∧ r.toInt ≤ 1) → Q r d2 l2) : ∀ (x1 : Int32) (x2 : Int32) (x3 : Int32) (xs0 : Int32) (d : DD) (dl : LL), StW e el d dl → (0 ≤ x1.toInt ∧ x1.toInt ≤ 39) → (0 ≤ x2.toInt ∧ x2.toInt ≤ 39) → (0 ≤ x3.toInt ∧ x3.toInt ≤ 1) → (0 ≤ xs0.toInt ∧ xs0.toInt ≤ 1) → b_X9_like_58 n Q x1 x2 x3 xs0 d dl := by
  intro x1 x2 x3 xs0 d dl hS bx1 bx2 bx3 bxs0
  show (¬ x3 = 1 → b_X9_like_76 n Q xs0 0 x2 x1 d dl) ∧ (x3 = 1 → b_X9_like_76 n Q xs0 1 x2 x1 d dl)
  refine ⟨fun h18 => ?_, fun h18 => ?_⟩
  · have h18 : ¬ (x3.toInt = 1) := fun q => h18 ((i_eq rfl (rfl : (1 : Int32).toInt = 1)).mpr q)
    exact sb_X9_like_76 hn hQ _ _ _ _ _ _ hS (by omega) (show 0 ≤ 0 ∧ 0 ≤ 1 from by omega) (by omega) (by omega)
  · have h18 : x3.toInt = 1 := (i_eq rfl (rfl : (1 : Int32).toInt = 1)).mp h18
    exact sb_X9_like_76 hn hQ _ _ _ _ _ _ hS (by omega) (show 0 ≤ 1 ∧ 1 ≤ 1 from by omega) (by omega) (by omega)
set_option maxHeartbeats 4000000 in
set_option maxRecDepth 100000 in
theorem sp_X9_like {n : Nat} (hn : 1000000000 ≤ n) {x1 : Int32} {x2 : Int32} {x3 : Int32} {d : DD} {dl : LL} (hI : Inv d) {Q : Int32 → DD → LL → Prop} (hQ : ∀ (r : Int32) (d2 : DD) (l2 : LL), StW d dl d2 l2 ∧ ((-2) ≤ r.toInt ∧ r.toInt ≤ 1) → Q r d2 l2) : F_X9_like n x1 x2 x3 d dl Q := by
  obtain ⟨e, he⟩ : ∃ e : DD, e = d := ⟨_, rfl⟩
  obtain ⟨el, hel⟩ : ∃ el : LL, el = dl := ⟨_, rfl⟩
  have hS : StW e el d dl := by rw [he, hel]; exact StW.rf hI
  rw [← he, ← hel] at hQ
  show F_X4_has n x1 d dl (fun r1 d2 l3 => (r1 = 0 → Q (-1) d2 l3) ∧ (¬ r1 = 0 → F_X4_has n x2 d2 l3 (fun r5 d6 l7 => (¬ r5 = 0 → F_X9_within n x3 0 1 d6 l7 (fun r9 d10 l11 => (r9 = 0 → Q (-2) d10 l11) ∧ (¬ r9 = 0 → (¬ x1 = x2 → F_X4_areFriends n x1 x2 d10 l11 (fun r14 d15 l16 => (r14 = 0 → b_X9_like_58 n Q x1 x2 x3 0 d15 l16) ∧ (¬ r14 = 0 → b_X9_like_58 n Q x1 x2 x3 1 d15 l16))) ∧ (x1 = x2 → Q (-2) d10 l11)))) ∧ (r5 = 0 → Q (-1) d6 l7))))
  refine sp_X4_has hn hS.1 (fun r1 d2 l3 ⟨p_4, u_5⟩ => ?_)
  have s_6 : StW e el d2 l3 := hS.sq p_4
  have w_7 : d2 = d := p_4.2.1
  replace u_5 : (0 ≤ r1.toInt ∧ r1.toInt ≤ 1 ∧ ((r1.toInt = 1 ∧ 0 ≤ x1.toInt ∧ x1.toInt < (d 1 0).toInt) ∨ (r1.toInt = 0 ∧ ¬ (0 ≤ x1.toInt ∧ x1.toInt < (d 1 0).toInt)))) := u_5
  have m_8 := iv_1_0 hS.1
  refine ⟨fun h4 => ?_, fun h4 => ?_⟩
  · have h4 : r1.toInt = 0 := (i_eq rfl (rfl : (0 : Int32).toInt = 0)).mp h4
    exact hQ _ _ _ ⟨s_6, (show ((-2) ≤ (-1) ∧ (-1) ≤ 1) from by omega)⟩
  · have h4 : ¬ (r1.toInt = 0) := fun q => h4 ((i_eq rfl (rfl : (0 : Int32).toInt = 0)).mpr q)
    refine sp_X4_has hn s_6.1 (fun r5 d6 l7 ⟨p_9, u_10⟩ => ?_)
    have s_11 : StW e el d6 l7 := s_6.sq p_9
    have w_12 : d6 = d2 := p_9.2.1
    replace u_10 : (0 ≤ r5.toInt ∧ r5.toInt ≤ 1 ∧ ((r5.toInt = 1 ∧ 0 ≤ x2.toInt ∧ x2.toInt < (d2 1 0).toInt) ∨ (r5.toInt = 0 ∧ ¬ (0 ≤ x2.toInt ∧ x2.toInt < (d2 1 0).toInt)))) := u_10
    have q_13 : d2 1 0 = (d 1 0) := by rw [w_7]
    have t_14 : (d2 1 0).toInt = (d 1 0).toInt := (congrArg Int32.toInt q_13).trans rfl
    refine ⟨fun h8 => ?_, fun h8 => ?_⟩
    · have h8 : ¬ (r5.toInt = 0) := fun q => h8 ((i_eq rfl (rfl : (0 : Int32).toInt = 0)).mpr q)
      refine sp_X9_within hn s_11.1 (fun r9 d10 l11 ⟨p_15, u_16⟩ => ?_)
      have s_17 : StW e el d10 l11 := s_11.sq p_15
      have w_18 : d10 = d6 := p_15.2.1
      replace u_16 : (0 ≤ r9.toInt ∧ r9.toInt ≤ 1 ∧ ((r9.toInt = 1 ∧ 0 ≤ x3.toInt ∧ x3.toInt ≤ 1) ∨ (r9.toInt = 0 ∧ ¬ (0 ≤ x3.toInt ∧ x3.toInt ≤ 1)))) := u_16
      refine ⟨fun h12 => ?_, fun h12 => ?_⟩
      · have h12 : r9.toInt = 0 := (i_eq rfl (rfl : (0 : Int32).toInt = 0)).mp h12
        exact hQ _ _ _ ⟨s_17, (show ((-2) ≤ (-2) ∧ (-2) ≤ 1) from by omega)⟩
      · have h12 : ¬ (r9.toInt = 0) := fun q => h12 ((i_eq rfl (rfl : (0 : Int32).toInt = 0)).mpr q)
        refine ⟨fun h13 => ?_, fun h13 => ?_⟩
        · have h13 : ¬ (x1.toInt = x2.toInt) := fun q => h13 ((i_eq rfl rfl).mpr q)
          refine sp_X4_areFriends hn s_17.1 ⟨by omega, by omega⟩ (fun r14 d15 l16 ⟨p_19, u_20⟩ => ?_)
          have s_21 : StW e el d15 l16 := s_17.sq p_19
          have w_22 : d15 = d10 := p_19.2.1
          replace u_20 : (0 ≤ r14.toInt ∧ r14.toInt ≤ 1) := u_20
          refine ⟨fun h17 => ?_, fun h17 => ?_⟩
          · have h17 : r14.toInt = 0 := (i_eq rfl (rfl : (0 : Int32).toInt = 0)).mp h17
            exact sb_X9_like_58 hn hQ _ _ _ _ _ _ s_21 (by omega) (by omega) (by omega) (show 0 ≤ 0 ∧ 0 ≤ 1 from by omega)
          · have h17 : ¬ (r14.toInt = 0) := fun q => h17 ((i_eq rfl (rfl : (0 : Int32).toInt = 0)).mpr q)
            exact sb_X9_like_58 hn hQ _ _ _ _ _ _ s_21 (by omega) (by omega) (by omega) (show 0 ≤ 1 ∧ 1 ≤ 1 from by omega)
        · have h13 : x1.toInt = x2.toInt := (i_eq rfl rfl).mp h13
          exact hQ _ _ _ ⟨s_17, (show ((-2) ≤ (-2) ∧ (-2) ≤ 1) from by omega)⟩
    · have h8 : r5.toInt = 0 := (i_eq rfl (rfl : (0 : Int32).toInt = 0)).mp h8
      exact hQ _ _ _ ⟨s_11, (show ((-2) ≤ (-1) ∧ (-1) ≤ 1) from by omega)⟩
set_option maxHeartbeats 4000000 in
set_option maxRecDepth 100000 in
theorem sp_X9_join {n : Nat} (hn : 1000000000 ≤ n) {x1 : Int32} {x2 : Int32} {d : DD} {dl : LL} (hI : Inv d) {Q : Int32 → DD → LL → Prop} (hQ : ∀ (r : Int32) (d2 : DD) (l2 : LL), StW d dl d2 l2 ∧ ((-4) ≤ r.toInt ∧ r.toInt ≤ 8) → Q r d2 l2) : F_X9_join n x1 x2 d dl Q := by
  obtain ⟨e, he⟩ : ∃ e : DD, e = d := ⟨_, rfl⟩
  obtain ⟨el, hel⟩ : ∃ el : LL, el = dl := ⟨_, rfl⟩
  have hS : StW e el d dl := by rw [he, hel]; exact StW.rf hI
  rw [← he, ← hel] at hQ
  show F_X9_isCrew n x1 d dl (fun r1 d2 l3 => (r1 = 0 → Q (-1) d2 l3) ∧ (¬ r1 = 0 → F_X4_has n x2 d2 l3 (fun r5 d6 l7 => (¬ r5 = 0 → vp_in x1 6 ∧ ∀ k10 : Nat, k10 = x1.toNatClampNeg → F_X1_hasMember n k10 x2 d6 l7 (fun r11 d12 l13 => (r11 = 0 → ((d12 (37 + 3 * k10) 3) < 8 → F_X1_addMember n k10 x2 d12 l13 (fun d17 l18 => Q (d17 (37 + 3 * k10) 3) d17 l18)) ∧ (¬ (d12 (37 + 3 * k10) 3) < 8 → Q (-4) d12 l13)) ∧ (¬ r11 = 0 → Q (-3) d12 l13))) ∧ (r5 = 0 → Q (-1) d6 l7))))
  refine sp_X9_isCrew hn hS.1 (fun r1 d2 l3 ⟨p_1, u_2⟩ => ?_)
  have s_3 : StW e el d2 l3 := hS.sq p_1
  have w_4 : d2 = d := p_1.2.1
  replace u_2 : (0 ≤ r1.toInt ∧ r1.toInt ≤ 1 ∧ ((r1.toInt = 1 ∧ 0 ≤ x1.toInt ∧ x1.toInt < (d 0 2).toInt) ∨ (r1.toInt = 0 ∧ ¬ (0 ≤ x1.toInt ∧ x1.toInt < (d 0 2).toInt)))) := u_2
  have m_5 := iv_0_2 hS.1
  refine ⟨fun h4 => ?_, fun h4 => ?_⟩
  · have h4 : r1.toInt = 0 := (i_eq rfl (rfl : (0 : Int32).toInt = 0)).mp h4
    exact hQ _ _ _ ⟨s_3, (show ((-4) ≤ (-1) ∧ (-1) ≤ 8) from by omega)⟩
  · have h4 : ¬ (r1.toInt = 0) := fun q => h4 ((i_eq rfl (rfl : (0 : Int32).toInt = 0)).mpr q)
    refine sp_X4_has hn s_3.1 (fun r5 d6 l7 ⟨p_6, u_7⟩ => ?_)
    have s_8 : StW e el d6 l7 := s_3.sq p_6
    have w_9 : d6 = d2 := p_6.2.1
    replace u_7 : (0 ≤ r5.toInt ∧ r5.toInt ≤ 1 ∧ ((r5.toInt = 1 ∧ 0 ≤ x2.toInt ∧ x2.toInt < (d2 1 0).toInt) ∨ (r5.toInt = 0 ∧ ¬ (0 ≤ x2.toInt ∧ x2.toInt < (d2 1 0).toInt)))) := u_7
    have q_10 : d2 1 0 = (d 1 0) := by rw [w_4]
    have m_11 := iv_1_0 hS.1
    have t_12 : (d2 1 0).toInt = (d 1 0).toInt := (congrArg Int32.toInt q_10).trans rfl
    refine ⟨fun h8 => ?_, fun h8 => ?_⟩
    · have h8 : ¬ (r5.toInt = 0) := fun q => h8 ((i_eq rfl (rfl : (0 : Int32).toInt = 0)).mpr q)
      have ih9 : vp_in x1 6 := vin rfl (by omega) (by omega)
      refine ⟨ih9, ?_⟩
      intro k10 ek10
      have hk10 : k10 < 6 := by rw [ek10]; exact clamp_in ih9
      refine sp_X1_hasMember hn s_8.1 hk10 (fun r11 d12 l13 ⟨p_13, u_14⟩ => ?_)
      have s_15 : StW e el d12 l13 := s_8.sq p_13
      have w_16 : d12 = d6 := p_13.2.1
      replace u_14 : (0 ≤ r11.toInt ∧ r11.toInt ≤ 1) := u_14
      refine ⟨fun h14 => ?_, fun h14 => ?_⟩
      · have h14 : r11.toInt = 0 := (i_eq rfl (rfl : (0 : Int32).toInt = 0)).mp h14
        have q_17 : d12 (37 + 3 * k10) 3 = (d (37 + 3 * k10) 3) := by rw [w_16]; rw [w_9]; rw [w_4]
        have m_18 := iv_37_3 hS.1 hk10
        have t_19 : (d12 (37 + 3 * k10) 3).toInt = (d (37 + 3 * k10) 3).toInt := (congrArg Int32.toInt q_17).trans rfl
        refine ⟨fun h15 => ?_, fun h15 => ?_⟩
        · have h15 : (d (37 + 3 * k10) 3).toInt < 8 := (i_lt t_19 (rfl : (8 : Int32).toInt = 8)).mp h15
          refine sp_X1_addMember hn s_15.1 hk10 ⟨by omega, by omega⟩ (by omega) (fun d17 l18 ⟨p_20, u_21⟩ => ?_)
          have s_22 : StW e el d17 l18 := s_15.trV le_StW_StV p_20
          have m_23 := iv_37_3 s_22.1 hk10
          exact hQ _ _ _ ⟨s_22, by omega⟩
        · have h15 : ¬ ((d (37 + 3 * k10) 3).toInt < 8) := fun q => h15 ((i_lt t_19 (rfl : (8 : Int32).toInt = 8)).mpr q)
          exact hQ _ _ _ ⟨s_15, (show ((-4) ≤ (-4) ∧ (-4) ≤ 8) from by omega)⟩
      · have h14 : ¬ (r11.toInt = 0) := fun q => h14 ((i_eq rfl (rfl : (0 : Int32).toInt = 0)).mpr q)
        exact hQ _ _ _ ⟨s_15, (show ((-4) ≤ (-3) ∧ (-3) ≤ 8) from by omega)⟩
    · have h8 : r5.toInt = 0 := (i_eq rfl (rfl : (0 : Int32).toInt = 0)).mp h8
      exact hQ _ _ _ ⟨s_8, (show ((-4) ≤ (-1) ∧ (-1) ≤ 8) from by omega)⟩
set_option maxHeartbeats 4000000 in
set_option maxRecDepth 100000 in
theorem sp_X9_lane {n : Nat} (hn : 1000000000 ≤ n) {x1 : Int32} {x2 : Int32} {d : DD} {dl : LL} (hI : Inv d) {Q : Int32 → DD → LL → Prop} (hQ : ∀ (r : Int32) (d2 : DD) (l2 : LL), StW d dl d2 l2 ∧ (True) → Q r d2 l2) : F_X9_lane n x1 x2 d dl Q := by
  obtain ⟨e, he⟩ : ∃ e : DD, e = d := ⟨_, rfl⟩
  obtain ⟨el, hel⟩ : ∃ el : LL, el = dl := ⟨_, rfl⟩
  have hS : StW e el d dl := by rw [he, hel]; exact StW.rf hI
  rw [← he, ← hel] at hQ
  show F_X9_isCrew n x1 d dl (fun r1 d2 l3 => (r1 = 0 → Q (-1) d2 l3) ∧ (¬ r1 = 0 → F_X9_isLane n x2 d2 l3 (fun r5 d6 l7 => (¬ r5 = 0 → vp_in x2 4 ∧ (¬ (d6 28 x2.toNatClampNeg) = (-1) → Q (-3) d6 l7) ∧ ((d6 28 x2.toNatClampNeg) = (-1) → F_X9_isMetByOneOf n 28 x1 d6 l7 (fun r11 d12 l13 => (r11 = 0 → vp_in x2 4 ∧ ∀ d16 : DD, d16 = u2 d12 28 x2.toNatClampNeg x1 → F_X9_howManyWait n d16 l13 (fun r17 d18 l19 => Q r17 d18 l19)) ∧ (¬ r11 = 0 → Q (-3) d12 l13)))) ∧ (r5 = 0 → Q (-1) d6 l7))))
  refine sp_X9_isCrew hn hS.1 (fun r1 d2 l3 ⟨p_1, u_2⟩ => ?_)
  have s_3 : StW e el d2 l3 := hS.sq p_1
  have w_4 : d2 = d := p_1.2.1
  replace u_2 : (0 ≤ r1.toInt ∧ r1.toInt ≤ 1 ∧ ((r1.toInt = 1 ∧ 0 ≤ x1.toInt ∧ x1.toInt < (d 0 2).toInt) ∨ (r1.toInt = 0 ∧ ¬ (0 ≤ x1.toInt ∧ x1.toInt < (d 0 2).toInt)))) := u_2
  have m_5 := iv_0_2 hS.1
  refine ⟨fun h4 => ?_, fun h4 => ?_⟩
  · have h4 : r1.toInt = 0 := (i_eq rfl (rfl : (0 : Int32).toInt = 0)).mp h4
    exact hQ _ _ _ ⟨s_3, trivial⟩
  · have h4 : ¬ (r1.toInt = 0) := fun q => h4 ((i_eq rfl (rfl : (0 : Int32).toInt = 0)).mpr q)
    refine sp_X9_isLane hn s_3.1 (fun r5 d6 l7 ⟨p_6, u_7⟩ => ?_)
    have s_8 : StW e el d6 l7 := s_3.sq p_6
    have w_9 : d6 = d2 := p_6.2.1
    replace u_7 : (0 ≤ r5.toInt ∧ r5.toInt ≤ 1 ∧ ((r5.toInt = 1 ∧ 0 ≤ x2.toInt ∧ x2.toInt ≤ 3) ∨ (r5.toInt = 0 ∧ ¬ (0 ≤ x2.toInt ∧ x2.toInt ≤ 3)))) := u_7
    refine ⟨fun h8 => ?_, fun h8 => ?_⟩
    · have h8 : ¬ (r5.toInt = 0) := fun q => h8 ((i_eq rfl (rfl : (0 : Int32).toInt = 0)).mpr q)
      have ih9 : vp_in x2 4 := vin rfl (by omega) (by omega)
      refine ⟨ih9, ?_⟩
      have q_10 : d6 28 x2.toNatClampNeg = (d 28 x2.toNatClampNeg) := by rw [w_9]; rw [w_4]
      have m_11 := iv_28 hS.1 (x2.toNatClampNeg)
      have t_12 : (d6 28 x2.toNatClampNeg).toInt = (d 28 x2.toNatClampNeg).toInt := (congrArg Int32.toInt q_10).trans rfl
      refine ⟨fun h10 => ?_, fun h10 => ?_⟩
      · have h10 : ¬ ((d 28 x2.toNatClampNeg).toInt = (-1)) := fun q => h10 ((i_eq t_12 (rfl : ((-1) : Int32).toInt = (-1))).mpr q)
        exact hQ _ _ _ ⟨s_8, trivial⟩
      · have h10 : (d 28 x2.toNatClampNeg).toInt = (-1) := (i_eq t_12 (rfl : ((-1) : Int32).toInt = (-1))).mp h10
        refine sp_X9_isMetByOneOf hn s_8.1 kn_28 ⟨by omega, by omega⟩ (Or.inl rfl) (fun r11 d12 l13 ⟨p_13, u_14⟩ => ?_)
        have s_15 : StW e el d12 l13 := s_8.sq p_13
        have w_16 : d12 = d6 := p_13.2.1
        replace u_14 : (0 ≤ r11.toInt ∧ r11.toInt ≤ 1) := u_14
        refine ⟨fun h14 => ?_, fun h14 => ?_⟩
        · have h14 : r11.toInt = 0 := (i_eq rfl (rfl : (0 : Int32).toInt = 0)).mp h14
          have ih15 : vp_in x2 4 := vin rfl (by omega) (by omega)
          refine ⟨ih15, ?_⟩
          intro d16 ed16
          have s_17 : StW e el d16 l13 := by rw [ed16]; exact pw_28 s_15 (by omega) (by omega) rfl
          refine sp_X9_howManyWait hn s_17.1 (fun r17 d18 l19 ⟨p_18, u_19⟩ => ?_)
          have s_20 : StW e el d18 l19 := s_17.sq p_18
          have w_21 : d18 = d16 := p_18.2.1
          exact hQ _ _ _ ⟨s_20, trivial⟩
        · have h14 : ¬ (r11.toInt = 0) := fun q => h14 ((i_eq rfl (rfl : (0 : Int32).toInt = 0)).mpr q)
          exact hQ _ _ _ ⟨s_15, trivial⟩
    · have h8 : r5.toInt = 0 := (i_eq rfl (rfl : (0 : Int32).toInt = 0)).mp h8
      exact hQ _ _ _ ⟨s_8, trivial⟩
set_option maxHeartbeats 4000000 in
set_option maxRecDepth 100000 in
theorem sb_X9_race_86 {n : Nat} (hn : 1000000000 ≤ n) {e : DD} {el : LL} {Q : Int32 → DD → LL → Prop} (hQ : ∀ (r : Int32) (d2 : DD) (l2 : LL), StW e el d2 l2 ∧ ((-32) ≤ r.toInt ∧ r.toInt ≤ 24) → Q r d2 l2) : ∀ (j86 : Nat) (x4 : Int32) (d : DD) (dl : LL), StW e el d dl → (0 ≤ x4.toInt ∧ x4.toInt ≤ 4) → ((d 0 13).toInt ≤ 23) → 5 - x4.toInt < (j86 : Int) → b_X9_race_86 n Q j86 x4 d dl := by
  intro j86
  induction j86 with
  | zero =>
    intro x4 d dl hS bx4 bi0 hm86
    exfalso
    omega
  | succ j86 hK86 =>
    intro x4 d dl hS bx4 bi0 hm86
    show (4 ≤ x4 → ∀ d24 : DD, d24 = u2 d 0 13 ((d 0 13) + 1) → Q ((d24 0 13) - 1) d24 dl) ∧ (¬ 4 ≤ x4 → vp_in x4 4 ∧ ∀ d26 : DD, d26 = u2 d 28 x4.toNatClampNeg (-1) → (b_X9_race_86 n Q j86) (x4 + 1) d26 dl)
    refine ⟨fun h23 => ?_, fun h23 => ?_⟩
    · have h23 : 4 ≤ x4.toInt := (i_le (rfl : (4 : Int32).toInt = 4) rfl).mp h23
      have m_1 := iv_0_13 hS.1
      have t_2 : ((d 0 13) + 1).toInt = (d 0 13).toInt + 1 := ti_add rfl (rfl : (1 : Int32).toInt = 1) (by omega) (by omega)
      intro d24 ed24
      have s_3 : StW e el d24 dl := by rw [ed24]; exact pw_0_13 hS (by rw [t_2]; omega) (by rw [t_2]; omega) rfl
      have q_4 : d24 0 13 = ((d 0 13) + 1) := by rw [ed24, u2_eq]
      have t_5 : (d24 0 13).toInt = ((d 0 13).toInt + 1) := (congrArg Int32.toInt q_4).trans t_2
      have t_6 : ((d24 0 13) - 1).toInt = ((d 0 13).toInt + 1) - 1 := ti_sub t_5 (rfl : (1 : Int32).toInt = 1) (by omega) (by omega)
      exact hQ _ _ _ ⟨s_3, by omega⟩
    · have h23 : ¬ (4 ≤ x4.toInt) := fun q => h23 ((i_le (rfl : (4 : Int32).toInt = 4) rfl).mpr q)
      have ih25 : vp_in x4 4 := vin rfl (by omega) (by omega)
      refine ⟨ih25, ?_⟩
      intro d26 ed26
      have s_7 : StW e el d26 dl := by rw [ed26]; exact pw_28 hS (by decide) (by decide) rfl
      have t_8 : (x4 + 1).toInt = x4.toInt + 1 := ti_add rfl (rfl : (1 : Int32).toInt = 1) (by omega) (by omega)
      have q_9 : d26 0 13 = (d 0 13) := by rw [ed26, u2_row (by omega)]
      have m_10 := iv_0_13 hS.1
      have t_11 : (d26 0 13).toInt = (d 0 13).toInt := (congrArg Int32.toInt q_9).trans rfl
      exact hK86 _ _ _ s_7 (by omega) (by omega) (by omega)
set_option maxHeartbeats 4000000 in
set_option maxRecDepth 100000 in
theorem sp_X9_race {n : Nat} (hn : 1000000000 ≤ n) {x1 : Int32} {x2 : Int32} {d : DD} {dl : LL} (hI : Inv d) {Q : Int32 → DD → LL → Prop} (hQ : ∀ (r : Int32) (d2 : DD) (l2 : LL), StW d dl d2 l2 ∧ ((-32) ≤ r.toInt ∧ r.toInt ≤ 24) → Q r d2 l2) : F_X9_race n x1 x2 d dl Q := by
  obtain ⟨e, he⟩ : ∃ e : DD, e = d := ⟨_, rfl⟩
  obtain ⟨el, hel⟩ : ∃ el : LL, el = dl := ⟨_, rfl⟩
  have hS : StW e el d dl := by rw [he, hel]; exact StW.rf hI
  rw [← he, ← hel] at hQ
  show F_X9_within n x1 0 999 d dl (fun r1 d2 l3 => (r1 = 0 → Q (-2) d2 l3) ∧ (¬ r1 = 0 → F_X9_within n x2 0 1 d2 l3 (fun r5 d6 l7 => (¬ r5 = 0 → F_X9_howManyWait n d6 l7 (fun r9 d10 l11 => (2 ≤ r9 → ((d10 0 13) < 24 → vp_in (d10 0 13) 24 ∧ ∀ k15 : Nat, k15 = (d10 0 13).toNatClampNeg → F_X3_set n k15 x1 x2 d10 l11 (fun d17 l18 => F_X9_firstBarring n (d17 0 13) d17 l18 (fun r19 d20 l21 => (r19 = (-1) → b_X9_race_86 n Q n 0 d20 l21) ∧ (¬ r19 = (-1) → Q (((-10) : Int32) - r19) d20 l21)))) ∧ (¬ (d10 0 13) < 24 → Q (-4) d10 l11)) ∧ (¬ 2 ≤ r9 → Q (-3) d10 l11))) ∧ (r5 = 0 → Q (-2) d6 l7))))
  refine sp_X9_within hn hS.1 (fun r1 d2 l3 ⟨p_12, u_13⟩ => ?_)
  have s_14 : StW e el d2 l3 := hS.sq p_12
  have w_15 : d2 = d := p_12.2.1
  replace u_13 : (0 ≤ r1.toInt ∧ r1.toInt ≤ 1 ∧ ((r1.toInt = 1 ∧ 0 ≤ x1.toInt ∧ x1.toInt ≤ 999) ∨ (r1.toInt = 0 ∧ ¬ (0 ≤ x1.toInt ∧ x1.toInt ≤ 999)))) := u_13
  refine ⟨fun h4 => ?_, fun h4 => ?_⟩
  · have h4 : r1.toInt = 0 := (i_eq rfl (rfl : (0 : Int32).toInt = 0)).mp h4
    exact hQ _ _ _ ⟨s_14, (show ((-32) ≤ (-2) ∧ (-2) ≤ 24) from by omega)⟩
  · have h4 : ¬ (r1.toInt = 0) := fun q => h4 ((i_eq rfl (rfl : (0 : Int32).toInt = 0)).mpr q)
    refine sp_X9_within hn s_14.1 (fun r5 d6 l7 ⟨p_16, u_17⟩ => ?_)
    have s_18 : StW e el d6 l7 := s_14.sq p_16
    have w_19 : d6 = d2 := p_16.2.1
    replace u_17 : (0 ≤ r5.toInt ∧ r5.toInt ≤ 1 ∧ ((r5.toInt = 1 ∧ 0 ≤ x2.toInt ∧ x2.toInt ≤ 1) ∨ (r5.toInt = 0 ∧ ¬ (0 ≤ x2.toInt ∧ x2.toInt ≤ 1)))) := u_17
    refine ⟨fun h8 => ?_, fun h8 => ?_⟩
    · have h8 : ¬ (r5.toInt = 0) := fun q => h8 ((i_eq rfl (rfl : (0 : Int32).toInt = 0)).mpr q)
      refine sp_X9_howManyWait hn s_18.1 (fun r9 d10 l11 ⟨p_20, u_21⟩ => ?_)
      have s_22 : StW e el d10 l11 := s_18.sq p_20
      have w_23 : d10 = d6 := p_20.2.1
      refine ⟨fun h12 => ?_, fun h12 => ?_⟩
      · have h12 : 2 ≤ r9.toInt := (i_le (rfl : (2 : Int32).toInt = 2) rfl).mp h12
        have q_24 : d10 0 13 = (d 0 13) := by rw [w_23]; rw [w_19]; rw [w_15]
        have m_25 := iv_0_13 hS.1
        have t_26 : (d10 0 13).toInt = (d 0 13).toInt := (congrArg Int32.toInt q_24).trans rfl
        refine ⟨fun h13 => ?_, fun h13 => ?_⟩
        · have h13 : (d 0 13).toInt < 24 := (i_lt t_26 (rfl : (24 : Int32).toInt = 24)).mp h13
          have ih14 : vp_in (d10 0 13) 24 := vin t_26 (by omega) (by omega)
          refine ⟨ih14, ?_⟩
          intro k15 ek15
          have hk15 : k15 < 24 := by rw [ek15]; exact clamp_in ih14
          refine sp_X3_set hn s_22.1 hk15 ⟨by omega, by omega⟩ ⟨by omega, by omega⟩ (fun d17 l18 ⟨p_27, u_28⟩ => ?_)
          have s_29 : StW e el d17 l18 := s_22.trV le_StW_StV p_27
          have q_30 : d17 0 13 = (d 0 13) := by rw [p_27.2.1 0 13 rfl]; rw [w_23]; rw [w_19]; rw [w_15]
          have t_31 : (d17 0 13).toInt = (d 0 13).toInt := (congrArg Int32.toInt q_30).trans rfl
          refine sp_X9_firstBarring hn s_29.1 ⟨by rw [t_31]; omega, by rw [t_31]; omega⟩ (fun r19 d20 l21 ⟨p_32, u_33⟩ => ?_)
          have s_34 : StW e el d20 l21 := s_29.sq p_32
          have w_35 : d20 = d17 := p_32.2.1
          replace u_33 : ((-1) ≤ r19.toInt ∧ r19.toInt ≤ 22) := u_33
          refine ⟨fun h22 => ?_, fun h22 => ?_⟩
          · have h22 : r19.toInt = (-1) := (i_eq rfl (rfl : ((-1) : Int32).toInt = (-1))).mp h22
            have q_36 : d20 0 13 = (d 0 13) := by rw [w_35]; rw [p_27.2.1 0 13 rfl]; rw [w_23]; rw [w_19]; rw [w_15]
            have t_37 : (d20 0 13).toInt = (d 0 13).toInt := (congrArg Int32.toInt q_36).trans rfl
            exact sb_X9_race_86 hn hQ n _ _ _ s_34 (show 0 ≤ 0 ∧ 0 ≤ 4 from by omega) (by omega) (show 5 - 0 < (n : Int) from by omega)
          · have h22 : ¬ (r19.toInt = (-1)) := fun q => h22 ((i_eq rfl (rfl : ((-1) : Int32).toInt = (-1))).mpr q)
            have t_38 : (((-10) : Int32) - r19).toInt = (-10) - r19.toInt := ti_sub (rfl : ((-10) : Int32).toInt = (-10)) rfl (by omega) (by omega)
            generalize (((-10) : Int32) - r19) = z_39 at t_38 ⊢
            exact hQ _ _ _ ⟨s_34, by omega⟩
        · have h13 : ¬ ((d 0 13).toInt < 24) := fun q => h13 ((i_lt t_26 (rfl : (24 : Int32).toInt = 24)).mpr q)
          exact hQ _ _ _ ⟨s_22, (show ((-32) ≤ (-4) ∧ (-4) ≤ 24) from by omega)⟩
      · have h12 : ¬ (2 ≤ r9.toInt) := fun q => h12 ((i_le (rfl : (2 : Int32).toInt = 2) rfl).mpr q)
        exact hQ _ _ _ ⟨s_22, (show ((-32) ≤ (-3) ∧ (-3) ≤ 24) from by omega)⟩
    · have h8 : r5.toInt = 0 := (i_eq rfl (rfl : (0 : Int32).toInt = 0)).mp h8
      exact hQ _ _ _ ⟨s_18, (show ((-32) ≤ (-2) ∧ (-2) ≤ 24) from by omega)⟩
set_option maxHeartbeats 4000000 in
set_option maxRecDepth 100000 in
theorem sp_X9_rule {n : Nat} (hn : 1000000000 ≤ n) {d : DD} {dl : LL} (hI : Inv d) {Q : Int32 → DD → LL → Prop} (hQ : ∀ (r : Int32) (d2 : DD) (l2 : LL), StW d dl d2 l2 ∧ ((-130) ≤ r.toInt ∧ r.toInt ≤ 5) → Q r d2 l2) : F_X9_rule n d dl Q := by
  obtain ⟨e, he⟩ : ∃ e : DD, e = d := ⟨_, rfl⟩
  obtain ⟨el, hel⟩ : ∃ el : LL, el = dl := ⟨_, rfl⟩
  have hS : StW e el d dl := by rw [he, hel]; exact StW.rf hI
  rw [← he, ← hel] at hQ
  show ((d 0 7) < 6 → vp_in (d 0 7) 6 ∧ ∀ k3 : Nat, k3 = (d 0 7).toNatClampNeg → F_X7_readInto n k3 d dl (fun r4 d5 l6 => ∀ d7 : DD, d7 = u2 d5 24 0 0 → (¬ r4 = 0 → ∀ d9 : DD, d9 = u2 d7 0 7 ((d7 0 7) + 1) → Q ((d9 0 7) - 1) d9 l6) ∧ (r4 = 0 → Q (((-10) : Int32) - (d7 24 1)) d7 l6))) ∧ (¬ (d 0 7) < 6 → Q (-4) d dl)
  have m_1 := iv_0_7 hS.1
  refine ⟨fun h1 => ?_, fun h1 => ?_⟩
  · have h1 : (d 0 7).toInt < 6 := (i_lt rfl (rfl : (6 : Int32).toInt = 6)).mp h1
    have ih2 : vp_in (d 0 7) 6 := vin rfl (by omega) (by omega)
    refine ⟨ih2, ?_⟩
    intro k3 ek3
    have hk3 : k3 < 6 := by rw [ek3]; exact clamp_in ih2
    refine sp_X7_readInto hn hS.1 hk3 (fun r4 d5 l6 ⟨p_2, u_3⟩ => ?_)
    have s_4 : StW e el d5 l6 := hS.tr le_StW_St p_2
    replace u_3 : (0 ≤ r4.toInt ∧ r4.toInt ≤ 1) := u_3
    intro d7 ed7
    have s_5 : StW e el d7 l6 := by rw [ed7]; exact pw_24_0 s_4 (by decide) (by decide) rfl
    refine ⟨fun h8 => ?_, fun h8 => ?_⟩
    · have h8 : ¬ (r4.toInt = 0) := fun q => h8 ((i_eq rfl (rfl : (0 : Int32).toInt = 0)).mpr q)
      have q_6 : d7 0 7 = (d 0 7) := by rw [ed7, u2_row (by omega)]; rw [p_2.2.1 0 7 rfl]
      have t_7 : (d7 0 7).toInt = (d 0 7).toInt := (congrArg Int32.toInt q_6).trans rfl
      have t_8 : ((d7 0 7) + 1).toInt = (d 0 7).toInt + 1 := ti_add t_7 (rfl : (1 : Int32).toInt = 1) (by omega) (by omega)
      intro d9 ed9
      have s_9 : StW e el d9 l6 := by rw [ed9]; exact pw_0_7 s_5 (by rw [t_8]; omega) (by rw [t_8]; omega) rfl
      have q_10 : d9 0 7 = ((d7 0 7) + 1) := by rw [ed9, u2_eq]
      have t_11 : (d9 0 7).toInt = ((d 0 7).toInt + 1) := (congrArg Int32.toInt q_10).trans t_8
      have t_12 : ((d9 0 7) - 1).toInt = ((d 0 7).toInt + 1) - 1 := ti_sub t_11 (rfl : (1 : Int32).toInt = 1) (by omega) (by omega)
      exact hQ _ _ _ ⟨s_9, by omega⟩
    · have h8 : r4.toInt = 0 := (i_eq rfl (rfl : (0 : Int32).toInt = 0)).mp h8
      have q_13 : d7 24 1 = (d5 24 1) := by rw [ed7, u2_ne (Or.inr (by omega))]
      have m_14 := iv_24_1 s_4.1
      have t_15 : (d7 24 1).toInt = (d5 24 1).toInt := (congrArg Int32.toInt q_13).trans rfl
      have t_16 : (((-10) : Int32) - (d7 24 1)).toInt = (-10) - (d5 24 1).toInt := ti_sub (rfl : ((-10) : Int32).toInt = (-10)) t_15 (by omega) (by omega)
      generalize (((-10) : Int32) - (d7 24 1)) = z_17 at t_16 ⊢
      exact hQ _ _ _ ⟨s_5, by omega⟩
  · have h1 : ¬ ((d 0 7).toInt < 6) := fun q => h1 ((i_lt rfl (rfl : (6 : Int32).toInt = 6)).mpr q)
    exact hQ _ _ _ ⟨hS, (show ((-130) ≤ (-4) ∧ (-4) ≤ 5) from by omega)⟩
set_option maxHeartbeats 4000000 in
set_option maxRecDepth 100000 in
theorem sb_X10_like_89 {n : Nat} (hn : 1000000000 ≤ n) {e : DD} {el : LL} {Q : Int32 → DD → LL → Prop} (hQ : ∀ (r : Int32) (d2 : DD) (l2 : LL), StW e el d2 l2 ∧ ((-2) ≤ r.toInt ∧ r.toInt ≤ 1) → Q r d2 l2) : ∀ (x4 : Int32) (xs0 : Int32) (xs1 : Int32) (d : DD) (dl : LL), StW e el d dl → (0 ≤ x4.toInt ∧ x4.toInt ≤ 1) → (0 ≤ xs0.toInt ∧ xs0.toInt ≤ 1) → (0 ≤ xs1.toInt ∧ xs1.toInt ≤ 1599) → b_X10_like_89 n Q x4 xs0 xs1 d dl := by
  intro x4 xs0 xs1 d dl hS bx4 bxs0 bxs1
  show vp_in xs1 1600 ∧ ∀ d19 : DD, d19 = u2 d 217 xs1.toNatClampNeg (vp_nar .boolean xs0) → (x4 = 0 → Q 0 d19 dl) ∧ (¬ x4 = 0 → Q 1 d19 dl)
  have ih18 : vp_in xs1 1600 := vin rfl (by omega) (by omega)
  refine ⟨ih18, ?_⟩
  intro d19 ed19
  have s_1 : StW e el d19 dl := by rw [ed19]; exact pw_217 hS (vn_in _).1 (vn_in _).2 rfl
  refine ⟨fun h20 => ?_, fun h20 => ?_⟩
  · have h20 : x4.toInt = 0 := (i_eq rfl (rfl : (0 : Int32).toInt = 0)).mp h20
    exact hQ _ _ _ ⟨s_1, (show ((-2) ≤ 0 ∧ 0 ≤ 1) from by omega)⟩
  · have h20 : ¬ (x4.toInt = 0) := fun q => h20 ((i_eq rfl (rfl : (0 : Int32).toInt = 0)).mpr q)
    exact hQ _ _ _ ⟨s_1, (show ((-2) ≤ 1 ∧ 1 ≤ 1) from by omega)⟩
set_option maxHeartbeats 4000000 in
set_option maxRecDepth 100000 in
theorem sb_X10_like_68 {n : Nat} (hn : 1000000000 ≤ n) {e : DD} {el : LL} {Q : Int32 → DD → LL → Prop} (hQ : ∀ (r : Int32) (d2 : DD) (l2 : LL), StW e el d2 l2 ∧ ((-2) ≤ r.toInt ∧ r.toInt ≤ 1) → Q r d2 l2) : ∀ (x1 : Int32) (x2 : Int32) (x3 : Int32) (x4 : Int32) (xs0 : Int32) (xs1 : Int32) (d : DD) (dl : LL), StW e el d dl → (0 ≤ x1.toInt ∧ x1.toInt ≤ 39) → (0 ≤ x2.toInt ∧ x2.toInt ≤ 39) → (0 ≤ x3.toInt ∧ x3.toInt ≤ 1) → (0 ≤ x4.toInt ∧ x4.toInt ≤ 1) → (0 ≤ xs0.toInt ∧ xs0.toInt ≤ 1) → (0 ≤ xs1.toInt ∧ xs1.toInt ≤ 1599) → b_X10_like_68 n Q x1 x2 x3 x4 xs0 xs1 d dl := by
  intro x1 x2 x3 x4 xs0 xs1 d dl hS bx1 bx2 bx3 bx4 bxs0 bxs1
  show vp_in xs1 1600 ∧ ∀ d16 : DD, d16 = u2 d 217 xs1.toNatClampNeg (vp_nar .boolean xs0) → (¬ x3 = 1 → b_X10_like_89 n Q x4 0 (((40 : Int32) * x2) + x1) d16 dl) ∧ (x3 = 1 → b_X10_like_89 n Q x4 1 (((40 : Int32) * x2) + x1) d16 dl)
  have ih15 : vp_in xs1 1600 := vin rfl (by omega) (by omega)
  refine ⟨ih15, ?_⟩
  intro d16 ed16
  have s_2 : StW e el d16 dl := by rw [ed16]; exact pw_217 hS (vn_in _).1 (vn_in _).2 rfl
  refine ⟨fun h17 => ?_, fun h17 => ?_⟩
  · have h17 : ¬ (x3.toInt = 1) := fun q => h17 ((i_eq rfl (rfl : (1 : Int32).toInt = 1)).mpr q)
    have t_3 : ((40 : Int32) * x2).toInt = 40 * x2.toInt := ti_mul (rfl : (40 : Int32).toInt = 40) rfl (by omega) (by omega)
    have t_4 : (((40 : Int32) * x2) + x1).toInt = (40 * x2.toInt) + x1.toInt := ti_add t_3 rfl (by omega) (by omega)
    exact sb_X10_like_89 hn hQ _ _ _ _ _ s_2 (by omega) (show 0 ≤ 0 ∧ 0 ≤ 1 from by omega) (by omega)
  · have h17 : x3.toInt = 1 := (i_eq rfl (rfl : (1 : Int32).toInt = 1)).mp h17
    have t_5 : ((40 : Int32) * x2).toInt = 40 * x2.toInt := ti_mul (rfl : (40 : Int32).toInt = 40) rfl (by omega) (by omega)
    have t_6 : (((40 : Int32) * x2) + x1).toInt = (40 * x2.toInt) + x1.toInt := ti_add t_5 rfl (by omega) (by omega)
    exact sb_X10_like_89 hn hQ _ _ _ _ _ s_2 (by omega) (show 0 ≤ 1 ∧ 1 ≤ 1 from by omega) (by omega)
set_option maxHeartbeats 4000000 in
set_option maxRecDepth 100000 in
theorem sp_X10_like {n : Nat} (hn : 1000000000 ≤ n) {x1 : Int32} {x2 : Int32} {x3 : Int32} {d : DD} {dl : LL} (hI : Inv d) {Q : Int32 → DD → LL → Prop} (hQ : ∀ (r : Int32) (d2 : DD) (l2 : LL), StW d dl d2 l2 ∧ ((-2) ≤ r.toInt ∧ r.toInt ≤ 1) → Q r d2 l2) : F_X10_like n x1 x2 x3 d dl Q := by
  obtain ⟨e, he⟩ : ∃ e : DD, e = d := ⟨_, rfl⟩
  obtain ⟨el, hel⟩ : ∃ el : LL, el = dl := ⟨_, rfl⟩
  have hS : StW e el d dl := by rw [he, hel]; exact StW.rf hI
  rw [← he, ← hel] at hQ
  show F_X10_isPaddler n x1 d dl (fun r1 d2 l3 => (r1 = 0 → Q (-1) d2 l3) ∧ (¬ r1 = 0 → F_X10_isPaddler n x2 d2 l3 (fun r5 d6 l7 => (¬ r5 = 0 → (x3 < 0 → Q (-2) d6 l7) ∧ (¬ x3 < 0 → (1 < x3 → Q (-2) d6 l7) ∧ (¬ 1 < x3 → (¬ x1 = x2 → vp_in (((40 : Int32) * x1) + x2) 1600 ∧ ∀ v13 : Int32, v13 = (d6 217 (((40 : Int32) * x1) + x2).toNatClampNeg) → (¬ x3 = 1 → b_X10_like_68 n Q x1 x2 x3 v13 0 (((40 : Int32) * x1) + x2) d6 l7) ∧ (x3 = 1 → b_X10_like_68 n Q x1 x2 x3 v13 1 (((40 : Int32) * x1) + x2) d6 l7)) ∧ (x1 = x2 → Q (-2) d6 l7)))) ∧ (r5 = 0 → Q (-1) d6 l7))))
  refine sp_X10_isPaddler hn hS.1 (fun r1 d2 l3 ⟨p_7, u_8⟩ => ?_)
  have s_9 : StW e el d2 l3 := hS.sq p_7
  have w_10 : d2 = d := p_7.2.1
  replace u_8 : (0 ≤ r1.toInt ∧ r1.toInt ≤ 1 ∧ ((r1.toInt = 1 ∧ 0 ≤ x1.toInt ∧ x1.toInt < (d 211 0).toInt) ∨ (r1.toInt = 0 ∧ ¬ (0 ≤ x1.toInt ∧ x1.toInt < (d 211 0).toInt)))) := u_8
  have m_11 := iv_211_0 hS.1
  refine ⟨fun h4 => ?_, fun h4 => ?_⟩
  · have h4 : r1.toInt = 0 := (i_eq rfl (rfl : (0 : Int32).toInt = 0)).mp h4
    exact hQ _ _ _ ⟨s_9, (show ((-2) ≤ (-1) ∧ (-1) ≤ 1) from by omega)⟩
  · have h4 : ¬ (r1.toInt = 0) := fun q => h4 ((i_eq rfl (rfl : (0 : Int32).toInt = 0)).mpr q)
    refine sp_X10_isPaddler hn s_9.1 (fun r5 d6 l7 ⟨p_12, u_13⟩ => ?_)
    have s_14 : StW e el d6 l7 := s_9.sq p_12
    have w_15 : d6 = d2 := p_12.2.1
    replace u_13 : (0 ≤ r5.toInt ∧ r5.toInt ≤ 1 ∧ ((r5.toInt = 1 ∧ 0 ≤ x2.toInt ∧ x2.toInt < (d2 211 0).toInt) ∨ (r5.toInt = 0 ∧ ¬ (0 ≤ x2.toInt ∧ x2.toInt < (d2 211 0).toInt)))) := u_13
    have q_16 : d2 211 0 = (d 211 0) := by rw [w_10]
    have t_17 : (d2 211 0).toInt = (d 211 0).toInt := (congrArg Int32.toInt q_16).trans rfl
    refine ⟨fun h8 => ?_, fun h8 => ?_⟩
    · have h8 : ¬ (r5.toInt = 0) := fun q => h8 ((i_eq rfl (rfl : (0 : Int32).toInt = 0)).mpr q)
      refine ⟨fun h9 => ?_, fun h9 => ?_⟩
      · have h9 : x3.toInt < 0 := (i_lt rfl (rfl : (0 : Int32).toInt = 0)).mp h9
        exact hQ _ _ _ ⟨s_14, (show ((-2) ≤ (-2) ∧ (-2) ≤ 1) from by omega)⟩
      · have h9 : ¬ (x3.toInt < 0) := fun q => h9 ((i_lt rfl (rfl : (0 : Int32).toInt = 0)).mpr q)
        refine ⟨fun h10 => ?_, fun h10 => ?_⟩
        · have h10 : 1 < x3.toInt := (i_lt (rfl : (1 : Int32).toInt = 1) rfl).mp h10
          exact hQ _ _ _ ⟨s_14, (show ((-2) ≤ (-2) ∧ (-2) ≤ 1) from by omega)⟩
        · have h10 : ¬ (1 < x3.toInt) := fun q => h10 ((i_lt (rfl : (1 : Int32).toInt = 1) rfl).mpr q)
          refine ⟨fun h11 => ?_, fun h11 => ?_⟩
          · have h11 : ¬ (x1.toInt = x2.toInt) := fun q => h11 ((i_eq rfl rfl).mpr q)
            have t_18 : ((40 : Int32) * x1).toInt = 40 * x1.toInt := ti_mul (rfl : (40 : Int32).toInt = 40) rfl (by omega) (by omega)
            have t_19 : (((40 : Int32) * x1) + x2).toInt = (40 * x1.toInt) + x2.toInt := ti_add t_18 rfl (by omega) (by omega)
            have ih12 : vp_in (((40 : Int32) * x1) + x2) 1600 := vin t_19 (by omega) (by omega)
            refine ⟨ih12, ?_⟩
            have q_20 : d6 217 (((40 : Int32) * x1) + x2).toNatClampNeg = (d 217 (((40 : Int32) * x1) + x2).toNatClampNeg) := by rw [w_15]; rw [w_10]
            have m_21 := iv_217 hS.1 ((((40 : Int32) * x1) + x2).toNatClampNeg)
            have t_22 : (d6 217 (((40 : Int32) * x1) + x2).toNatClampNeg).toInt = (d 217 (((40 : Int32) * x1) + x2).toNatClampNeg).toInt := (congrArg Int32.toInt q_20).trans rfl
            intro v13 e13
            have t_23 : v13.toInt = (d 217 (((40 : Int32) * x1) + x2).toNatClampNeg).toInt := (congrArg Int32.toInt e13).trans t_22
            refine ⟨fun h14 => ?_, fun h14 => ?_⟩
            · have h14 : ¬ (x3.toInt = 1) := fun q => h14 ((i_eq rfl (rfl : (1 : Int32).toInt = 1)).mpr q)
              exact sb_X10_like_68 hn hQ _ _ _ _ _ _ _ _ s_14 (by omega) (by omega) (by omega) (by omega) (show 0 ≤ 0 ∧ 0 ≤ 1 from by omega) (by omega)
            · have h14 : x3.toInt = 1 := (i_eq rfl (rfl : (1 : Int32).toInt = 1)).mp h14
              exact sb_X10_like_68 hn hQ _ _ _ _ _ _ _ _ s_14 (by omega) (by omega) (by omega) (by omega) (show 0 ≤ 1 ∧ 1 ≤ 1 from by omega) (by omega)
          · have h11 : x1.toInt = x2.toInt := (i_eq rfl rfl).mp h11
            exact hQ _ _ _ ⟨s_14, (show ((-2) ≤ (-2) ∧ (-2) ≤ 1) from by omega)⟩
    · have h8 : r5.toInt = 0 := (i_eq rfl (rfl : (0 : Int32).toInt = 0)).mp h8
      exact hQ _ _ _ ⟨s_14, (show ((-2) ≤ (-1) ∧ (-1) ≤ 1) from by omega)⟩
set_option maxHeartbeats 4000000 in
set_option maxRecDepth 100000 in
theorem sp_X10_join {n : Nat} (hn : 1000000000 ≤ n) {x1 : Int32} {x2 : Int32} {d : DD} {dl : LL} (hI : Inv d) {Q : Int32 → DD → LL → Prop} (hQ : ∀ (r : Int32) (d2 : DD) (l2 : LL), StW d dl d2 l2 ∧ ((-4) ≤ r.toInt ∧ r.toInt ≤ 8) → Q r d2 l2) : F_X10_join n x1 x2 d dl Q := by
  obtain ⟨e, he⟩ : ∃ e : DD, e = d := ⟨_, rfl⟩
  obtain ⟨el, hel⟩ : ∃ el : LL, el = dl := ⟨_, rfl⟩
  have hS : StW e el d dl := by rw [he, hel]; exact StW.rf hI
  rw [← he, ← hel] at hQ
  show F_X10_isCrew n x1 d dl (fun r1 d2 l3 => (r1 = 0 → Q (-1) d2 l3) ∧ (¬ r1 = 0 → F_X10_isPaddler n x2 d2 l3 (fun r5 d6 l7 => (¬ r5 = 0 → F_X10_isMember n x1 x2 d6 l7 (fun r9 d10 l11 => (r9 = 0 → vp_in x1 6 ∧ (¬ (d10 220 x1.toNatClampNeg) = 8 → vp_in x1 6 ∧ vp_in (((8 : Int32) * x1) + (d10 220 x1.toNatClampNeg)) 48 ∧ ∀ d17 : DD, d17 = u2 d10 222 (((8 : Int32) * x1) + (d10 220 x1.toNatClampNeg)).toNatClampNeg x2 → vp_in x1 6 ∧ ∀ d19 : DD, d19 = u2 d17 224 x1.toNatClampNeg (vp_nar .boolean 0) → vp_in x1 6 ∧ vp_in x1 6 ∧ ∀ d22 : DD, d22 = u2 d19 220 x1.toNatClampNeg ((d19 220 x1.toNatClampNeg) + 1) → Q ((d19 220 x1.toNatClampNeg) + 1) d22 l11) ∧ ((d10 220 x1.toNatClampNeg) = 8 → Q (-4) d10 l11)) ∧ (¬ r9 = 0 → Q (-3) d10 l11))) ∧ (r5 = 0 → Q (-1) d6 l7))))
  refine sp_X10_isCrew hn hS.1 (fun r1 d2 l3 ⟨p_1, u_2⟩ => ?_)
  have s_3 : StW e el d2 l3 := hS.sq p_1
  have w_4 : d2 = d := p_1.2.1
  replace u_2 : (0 ≤ r1.toInt ∧ r1.toInt ≤ 1 ∧ ((r1.toInt = 1 ∧ 0 ≤ x1.toInt ∧ x1.toInt < (d 211 1).toInt) ∨ (r1.toInt = 0 ∧ ¬ (0 ≤ x1.toInt ∧ x1.toInt < (d 211 1).toInt)))) := u_2
  have m_5 := iv_211_1 hS.1
  refine ⟨fun h4 => ?_, fun h4 => ?_⟩
  · have h4 : r1.toInt = 0 := (i_eq rfl (rfl : (0 : Int32).toInt = 0)).mp h4
    exact hQ _ _ _ ⟨s_3, (show ((-4) ≤ (-1) ∧ (-1) ≤ 8) from by omega)⟩
  · have h4 : ¬ (r1.toInt = 0) := fun q => h4 ((i_eq rfl (rfl : (0 : Int32).toInt = 0)).mpr q)
    refine sp_X10_isPaddler hn s_3.1 (fun r5 d6 l7 ⟨p_6, u_7⟩ => ?_)
    have s_8 : StW e el d6 l7 := s_3.sq p_6
    have w_9 : d6 = d2 := p_6.2.1
    replace u_7 : (0 ≤ r5.toInt ∧ r5.toInt ≤ 1 ∧ ((r5.toInt = 1 ∧ 0 ≤ x2.toInt ∧ x2.toInt < (d2 211 0).toInt) ∨ (r5.toInt = 0 ∧ ¬ (0 ≤ x2.toInt ∧ x2.toInt < (d2 211 0).toInt)))) := u_7
    have q_10 : d2 211 0 = (d 211 0) := by rw [w_4]
    have m_11 := iv_211_0 hS.1
    have t_12 : (d2 211 0).toInt = (d 211 0).toInt := (congrArg Int32.toInt q_10).trans rfl
    refine ⟨fun h8 => ?_, fun h8 => ?_⟩
    · have h8 : ¬ (r5.toInt = 0) := fun q => h8 ((i_eq rfl (rfl : (0 : Int32).toInt = 0)).mpr q)
      refine sp_X10_isMember hn s_8.1 ⟨by omega, by omega⟩ (fun r9 d10 l11 ⟨p_13, u_14⟩ => ?_)
      have s_15 : StW e el d10 l11 := s_8.sq p_13
      have w_16 : d10 = d6 := p_13.2.1
      replace u_14 : (0 ≤ r9.toInt ∧ r9.toInt ≤ 1) := u_14
      refine ⟨fun h12 => ?_, fun h12 => ?_⟩
      · have h12 : r9.toInt = 0 := (i_eq rfl (rfl : (0 : Int32).toInt = 0)).mp h12
        have ih13 : vp_in x1 6 := vin rfl (by omega) (by omega)
        refine ⟨ih13, ?_⟩
        have q_17 : d10 220 x1.toNatClampNeg = (d 220 x1.toNatClampNeg) := by rw [w_16]; rw [w_9]; rw [w_4]
        have m_18 := iv_220 hS.1 (x1.toNatClampNeg)
        have t_19 : (d10 220 x1.toNatClampNeg).toInt = (d 220 x1.toNatClampNeg).toInt := (congrArg Int32.toInt q_17).trans rfl
        refine ⟨fun h14 => ?_, fun h14 => ?_⟩
        · have h14 : ¬ ((d 220 x1.toNatClampNeg).toInt = 8) := fun q => h14 ((i_eq t_19 (rfl : (8 : Int32).toInt = 8)).mpr q)
          have ih15 : vp_in x1 6 := vin rfl (by omega) (by omega)
          refine ⟨ih15, ?_⟩
          have t_20 : ((8 : Int32) * x1).toInt = 8 * x1.toInt := ti_mul (rfl : (8 : Int32).toInt = 8) rfl (by omega) (by omega)
          have t_21 : (((8 : Int32) * x1) + (d10 220 x1.toNatClampNeg)).toInt = (8 * x1.toInt) + (d 220 x1.toNatClampNeg).toInt := ti_add t_20 t_19 (by omega) (by omega)
          have ih16 : vp_in (((8 : Int32) * x1) + (d10 220 x1.toNatClampNeg)) 48 := vin t_21 (by omega) (by omega)
          refine ⟨ih16, ?_⟩
          intro d17 ed17
          have s_22 : StW e el d17 l11 := by rw [ed17]; exact pw_222 s_15 (by omega) (by omega) rfl
          have ih18 : vp_in x1 6 := vin rfl (by omega) (by omega)
          refine ⟨ih18, ?_⟩
          intro d19 ed19
          have s_23 : StW e el d19 l11 := by rw [ed19]; exact pw_224 s_22 (vn_in _).1 (vn_in _).2 rfl
          have ih20 : vp_in x1 6 := vin rfl (by omega) (by omega)
          refine ⟨ih20, ?_⟩
          have ih21 : vp_in x1 6 := vin rfl (by omega) (by omega)
          refine ⟨ih21, ?_⟩
          have q_24 : d19 220 x1.toNatClampNeg = (d 220 x1.toNatClampNeg) := by rw [ed19, u2_row (by omega)]; rw [ed17, u2_row (by omega)]; rw [w_16]; rw [w_9]; rw [w_4]
          have t_25 : (d19 220 x1.toNatClampNeg).toInt = (d 220 x1.toNatClampNeg).toInt := (congrArg Int32.toInt q_24).trans rfl
          have t_26 : ((d19 220 x1.toNatClampNeg) + 1).toInt = (d 220 x1.toNatClampNeg).toInt + 1 := ti_add t_25 (rfl : (1 : Int32).toInt = 1) (by omega) (by omega)
          intro d22 ed22
          have s_27 : StW e el d22 l11 := by rw [ed22]; exact pw_220 s_23 (by rw [t_26]; omega) (by rw [t_26]; omega) rfl
          exact hQ _ _ _ ⟨s_27, by omega⟩
        · have h14 : (d 220 x1.toNatClampNeg).toInt = 8 := (i_eq t_19 (rfl : (8 : Int32).toInt = 8)).mp h14
          exact hQ _ _ _ ⟨s_15, (show ((-4) ≤ (-4) ∧ (-4) ≤ 8) from by omega)⟩
      · have h12 : ¬ (r9.toInt = 0) := fun q => h12 ((i_eq rfl (rfl : (0 : Int32).toInt = 0)).mpr q)
        exact hQ _ _ _ ⟨s_15, (show ((-4) ≤ (-3) ∧ (-3) ≤ 8) from by omega)⟩
    · have h8 : r5.toInt = 0 := (i_eq rfl (rfl : (0 : Int32).toInt = 0)).mp h8
      exact hQ _ _ _ ⟨s_8, (show ((-4) ≤ (-1) ∧ (-1) ≤ 8) from by omega)⟩
set_option maxHeartbeats 4000000 in
set_option maxRecDepth 100000 in
theorem sb_X10_lane_34 {n : Nat} (hn : 1000000000 ≤ n) {e : DD} {el : LL} {Q : Int32 → DD → LL → Prop} (hQ : ∀ (r : Int32) (d2 : DD) (l2 : LL), StW e el d2 l2 ∧ (True) → Q r d2 l2) : ∀ (j34 : Nat) (x1 : Int32) (x2 : Int32) (x3 : Int32) (d : DD) (dl : LL), StW e el d dl → (0 ≤ x1.toInt ∧ x1.toInt ≤ 5) → (0 ≤ x2.toInt ∧ x2.toInt ≤ 3) → (0 ≤ x3.toInt ∧ x3.toInt ≤ 4) → 5 - x3.toInt < (j34 : Int) → b_X10_lane_34 n Q j34 x1 x2 x3 d dl := by
  intro j34
  induction j34 with
  | zero =>
    intro x1 x2 x3 d dl hS bx1 bx2 bx3 hm34
    exfalso
    omega
  | succ j34 hK34 =>
    intro x1 x2 x3 d dl hS bx1 bx2 bx3 hm34
    show (4 ≤ x3 → vp_in x2 4 ∧ ∀ d11 : DD, d11 = u2 d 239 x2.toNatClampNeg x1 → ∀ d12 : DD, d12 = u2 d11 211 6 ((d11 211 6) + 1) → Q ((d11 211 6) + 1) d12 dl) ∧ (¬ 4 ≤ x3 → vp_in x3 4 ∧ ((d 239 x3.toNatClampNeg) = (-1) → (b_X10_lane_34 n Q j34) x1 x2 (x3 + 1) d dl) ∧ (¬ (d 239 x3.toNatClampNeg) = (-1) → vp_in x3 4 ∧ F_X10_haveCommon n x1 (d 239 x3.toNatClampNeg) d dl (fun r16 d17 l18 => (r16 = 0 → (b_X10_lane_34 n Q j34) x1 x2 (x3 + 1) d17 l18) ∧ (¬ r16 = 0 → Q (-3) d17 l18))))
    refine ⟨fun h9 => ?_, fun h9 => ?_⟩
    · have h9 : 4 ≤ x3.toInt := (i_le (rfl : (4 : Int32).toInt = 4) rfl).mp h9
      have ih10 : vp_in x2 4 := vin rfl (by omega) (by omega)
      refine ⟨ih10, ?_⟩
      intro d11 ed11
      have s_1 : StW e el d11 dl := by rw [ed11]; exact pw_239 hS (by omega) (by omega) rfl
      intro d12 ed12
      have s_2 : StW e el d12 dl := by rw [ed12]; exact pw_211_6 s_1 rfl
      exact hQ _ _ _ ⟨s_2, trivial⟩
    · have h9 : ¬ (4 ≤ x3.toInt) := fun q => h9 ((i_le (rfl : (4 : Int32).toInt = 4) rfl).mpr q)
      have ih13 : vp_in x3 4 := vin rfl (by omega) (by omega)
      refine ⟨ih13, ?_⟩
      have m_3 := iv_239 hS.1 (x3.toNatClampNeg)
      refine ⟨fun h14 => ?_, fun h14 => ?_⟩
      · have h14 : (d 239 x3.toNatClampNeg).toInt = (-1) := (i_eq rfl (rfl : ((-1) : Int32).toInt = (-1))).mp h14
        have t_4 : (x3 + 1).toInt = x3.toInt + 1 := ti_add rfl (rfl : (1 : Int32).toInt = 1) (by omega) (by omega)
        exact hK34 _ _ _ _ _ hS (by omega) (by omega) (by omega) (by omega)
      · have h14 : ¬ ((d 239 x3.toNatClampNeg).toInt = (-1)) := fun q => h14 ((i_eq rfl (rfl : ((-1) : Int32).toInt = (-1))).mpr q)
        have ih15 : vp_in x3 4 := vin rfl (by omega) (by omega)
        refine ⟨ih15, ?_⟩
        refine sp_X10_haveCommon hn hS.1 ⟨by omega, by omega⟩ ⟨by omega, by omega⟩ (fun r16 d17 l18 ⟨p_5, u_6⟩ => ?_)
        have s_7 : StW e el d17 l18 := hS.sq p_5
        have w_8 : d17 = d := p_5.2.1
        replace u_6 : (0 ≤ r16.toInt ∧ r16.toInt ≤ 1) := u_6
        refine ⟨fun h19 => ?_, fun h19 => ?_⟩
        · have h19 : r16.toInt = 0 := (i_eq rfl (rfl : (0 : Int32).toInt = 0)).mp h19
          have t_9 : (x3 + 1).toInt = x3.toInt + 1 := ti_add rfl (rfl : (1 : Int32).toInt = 1) (by omega) (by omega)
          exact hK34 _ _ _ _ _ s_7 (by omega) (by omega) (by omega) (by omega)
        · have h19 : ¬ (r16.toInt = 0) := fun q => h19 ((i_eq rfl (rfl : (0 : Int32).toInt = 0)).mpr q)
          exact hQ _ _ _ ⟨s_7, trivial⟩
set_option maxHeartbeats 4000000 in
set_option maxRecDepth 100000 in
theorem sp_X10_lane {n : Nat} (hn : 1000000000 ≤ n) {x1 : Int32} {x2 : Int32} {d : DD} {dl : LL} (hI : Inv d) {Q : Int32 → DD → LL → Prop} (hQ : ∀ (r : Int32) (d2 : DD) (l2 : LL), StW d dl d2 l2 ∧ (True) → Q r d2 l2) : F_X10_lane n x1 x2 d dl Q := by
  obtain ⟨e, he⟩ : ∃ e : DD, e = d := ⟨_, rfl⟩
  obtain ⟨el, hel⟩ : ∃ el : LL, el = dl := ⟨_, rfl⟩
  have hS : StW e el d dl := by rw [he, hel]; exact StW.rf hI
  rw [← he, ← hel] at hQ
  show F_X10_isCrew n x1 d dl (fun r1 d2 l3 => (r1 = 0 → Q (-1) d2 l3) ∧ (¬ r1 = 0 → (x2 < 0 → Q (-1) d2 l3) ∧ (¬ x2 < 0 → (x2 ≤ 3 → vp_in x2 4 ∧ ((d2 239 x2.toNatClampNeg) = (-1) → b_X10_lane_34 n Q n x1 x2 0 d2 l3) ∧ (¬ (d2 239 x2.toNatClampNeg) = (-1) → Q (-3) d2 l3)) ∧ (¬ x2 ≤ 3 → Q (-1) d2 l3))))
  refine sp_X10_isCrew hn hS.1 (fun r1 d2 l3 ⟨p_10, u_11⟩ => ?_)
  have s_12 : StW e el d2 l3 := hS.sq p_10
  have w_13 : d2 = d := p_10.2.1
  replace u_11 : (0 ≤ r1.toInt ∧ r1.toInt ≤ 1 ∧ ((r1.toInt = 1 ∧ 0 ≤ x1.toInt ∧ x1.toInt < (d 211 1).toInt) ∨ (r1.toInt = 0 ∧ ¬ (0 ≤ x1.toInt ∧ x1.toInt < (d 211 1).toInt)))) := u_11
  have m_14 := iv_211_1 hS.1
  refine ⟨fun h4 => ?_, fun h4 => ?_⟩
  · have h4 : r1.toInt = 0 := (i_eq rfl (rfl : (0 : Int32).toInt = 0)).mp h4
    exact hQ _ _ _ ⟨s_12, trivial⟩
  · have h4 : ¬ (r1.toInt = 0) := fun q => h4 ((i_eq rfl (rfl : (0 : Int32).toInt = 0)).mpr q)
    refine ⟨fun h5 => ?_, fun h5 => ?_⟩
    · have h5 : x2.toInt < 0 := (i_lt rfl (rfl : (0 : Int32).toInt = 0)).mp h5
      exact hQ _ _ _ ⟨s_12, trivial⟩
    · have h5 : ¬ (x2.toInt < 0) := fun q => h5 ((i_lt rfl (rfl : (0 : Int32).toInt = 0)).mpr q)
      refine ⟨fun h6 => ?_, fun h6 => ?_⟩
      · have h6 : x2.toInt ≤ 3 := (i_le rfl (rfl : (3 : Int32).toInt = 3)).mp h6
        have ih7 : vp_in x2 4 := vin rfl (by omega) (by omega)
        refine ⟨ih7, ?_⟩
        have q_15 : d2 239 x2.toNatClampNeg = (d 239 x2.toNatClampNeg) := by rw [w_13]
        have m_16 := iv_239 hS.1 (x2.toNatClampNeg)
        have t_17 : (d2 239 x2.toNatClampNeg).toInt = (d 239 x2.toNatClampNeg).toInt := (congrArg Int32.toInt q_15).trans rfl
        refine ⟨fun h8 => ?_, fun h8 => ?_⟩
        · have h8 : (d 239 x2.toNatClampNeg).toInt = (-1) := (i_eq t_17 (rfl : ((-1) : Int32).toInt = (-1))).mp h8
          exact sb_X10_lane_34 hn hQ n _ _ _ _ _ s_12 (by omega) (by omega) (show 0 ≤ 0 ∧ 0 ≤ 4 from by omega) (show 5 - 0 < (n : Int) from by omega)
        · have h8 : ¬ ((d 239 x2.toNatClampNeg).toInt = (-1)) := fun q => h8 ((i_eq t_17 (rfl : ((-1) : Int32).toInt = (-1))).mpr q)
          exact hQ _ _ _ ⟨s_12, trivial⟩
      · have h6 : ¬ (x2.toInt ≤ 3) := fun q => h6 ((i_le rfl (rfl : (3 : Int32).toInt = 3)).mpr q)
        exact hQ _ _ _ ⟨s_12, trivial⟩
theorem StP.pair {P : Nat → Nat → Bool} {e d : DD} {el dl : LL} {j : Nat} {v : Int32} (h : StP P e el d dl) (h1 : -1 ≤ v.toInt) (h2 : v.toInt ≤ 5) (p4 : P 234 j = false) (p5 : P 235 j = false) : StP P e el (u2 (u2 d 234 j v) 235 j 0) dl := by
  refine ⟨⟨InI2_put (InI2_put h.1.1 h1 h2) (i_rg 0).1 (i_rg 0).2, ?_⟩, ?_, trivial⟩
  · intro a ha
    by_cases hj : a = j
    · subst hj
      rw [u2_eq] at ha
      exact absurd rfl ha
    · rw [u2_ne (Or.inr hj), u2_row (by decide)] at ha
      rw [u2_row (by decide), u2_ne (Or.inr hj)]
      exact h.1.2 a ha
  · intro a b hr
    have g5 : a ≠ 235 ∨ b ≠ j := by
      by_cases ha : a = 235
      · refine Or.inr (fun hb => ?_)
        subst ha; subst hb
        exact absurd (hr.symm.trans p5) (by decide)
      · exact Or.inl ha
    have g4 : a ≠ 234 ∨ b ≠ j := by
      by_cases ha : a = 234
      · refine Or.inr (fun hb => ?_)
        subst ha; subst hb
        exact absurd (hr.symm.trans p4) (by decide)
      · exact Or.inl ha
    rw [u2_ne g5, u2_ne g4]
    exact h.2.1 a b hr
set_option maxHeartbeats 4000000 in
theorem sb_X10_race_201 {n : Nat} (hn : 1000000000 ≤ n) {e : DD} {el : LL} {Q : Int32 → DD → LL → Prop} (hQ : ∀ (r : Int32) (d2 : DD) (l2 : LL), StW e el d2 l2 ∧ (-33 ≤ r.toInt ∧ r.toInt ≤ 24) → Q r d2 l2) : ∀ (j201 : Nat) (x3 : Int32) (d : DD) (dl : LL), StW e el d dl → (0 ≤ x3.toInt ∧ x3.toInt ≤ 4) → ((d 211 3).toInt ≤ 23) → 4 - x3.toInt < (j201 : Int) → b_X10_race_201 n Q j201 x3 d dl := by
  intro j
  induction j with
  | zero =>
    intro x3 d dl hS bx3 bi0 hm
    exfalso
    omega
  | succ j hK =>
    intro x3 d dl hS bx3 bi0 hm
    show _ ∧ _
    have m := iv_211_3 hS.1
    refine ⟨fun h1 => ?_, fun h1 => ?_⟩
    · intro d15 e15 d16 e16
      have s1 : StW e el d15 dl := by rw [e15]; exact pw_211_6 hS rfl
      have h3 : d15 211 3 = d 211 3 := by rw [e15, u2_ne (Or.inr (by omega))]
      have t : ((d15 211 3) + 1).toInt = (d 211 3).toInt + 1 := ti_add (congrArg Int32.toInt h3) (rfl : (1 : Int32).toInt = 1) (by omega) (by omega)
      have s2 : StW e el d16 dl := by rw [e16]; exact pw_211_3 s1 (by rw [t]; omega) (by rw [t]; omega) rfl
      exact hQ _ _ _ ⟨s2, by rw [h3]; omega⟩
    · have hx : ¬ 4 ≤ x3.toInt := fun q => h1 ((i_le (rfl : (4 : Int32).toInt = 4) rfl).mpr q)
      have hi : vp_in x3 4 := vin rfl (by omega) (by omega)
      have t4 : ((4 : Int32) * (d 211 3)).toInt = 4 * (d 211 3).toInt := ti_mul (rfl : (4 : Int32).toInt = 4) rfl (by omega) (by omega)
      have t : (((4 : Int32) * (d 211 3)) + x3).toInt = 4 * (d 211 3).toInt + x3.toInt := ti_add t4 rfl (by omega) (by omega)
      have hp : vp_in (((4 : Int32) * (d 211 3)) + x3) 96 := vin t (by omega) (by omega)
      refine ⟨hi, hp, ?_⟩
      intro d19 e19
      have k19 : d19 211 3 = d 211 3 := by rw [e19, u2_row (by omega)]
      rw [k19]
      refine ⟨hp, ?_⟩
      intro d21 e21
      have m9 := iv_239 hS.1 x3.toNatClampNeg
      have s21 : StW e el d21 dl := by rw [e21, e19]; exact StP.pair hS m9.1 m9.2 rfl rfl
      have k21 : d21 211 3 = d 211 3 := by rw [e21, u2_row (by omega), k19]
      rw [k21]
      refine ⟨hp, ?_⟩
      intro d23 e23
      have s23 : StW e el d23 dl := by rw [e23]; exact pw_236 s21 rfl
      have k23 : d23 211 3 = d 211 3 := by rw [e23, u2_row (by omega), k21]
      rw [k23]
      refine ⟨hp, ?_⟩
      intro d25 e25
      have s25 : StW e el d25 dl := by rw [e25]; exact pw_237 s23 (vn_in _).1 (vn_in _).2 rfl
      refine ⟨hi, ?_⟩
      intro d27 e27
      have s27 : StW e el d27 dl := by rw [e27]; exact pw_239 s25 (by decide) (by decide) rfl
      have k27 : d27 211 3 = d 211 3 := by rw [e27, u2_row (by omega), e25, u2_row (by omega), k23]
      have tx : (x3 + 1).toInt = x3.toInt + 1 := ti_add rfl (rfl : (1 : Int32).toInt = 1) (by omega) (by omega)
      exact hK _ _ _ s27 ⟨by rw [tx]; omega, by rw [tx]; omega⟩ (by rw [k27]; exact bi0) (by rw [tx]; omega)

set_option maxHeartbeats 4000000 in
set_option maxRecDepth 100000 in
theorem sb_X10_race_89 {n : Nat} (hn : 1000000000 ≤ n) {e : DD} {el : LL} {Q : Int32 → DD → LL → Prop} (hQ : ∀ (r : Int32) (d2 : DD) (l2 : LL), StW e el d2 l2 ∧ ((-33) ≤ r.toInt ∧ r.toInt ≤ 24) → Q r d2 l2) {K48 : Int32 → Int32 → Int32 → DD → LL → Prop} {j48 : Nat} (hK48 : ∀ (x1 : Int32) (x2 : Int32) (x3 : Int32) (d : DD) (dl : LL), StW e el d dl → (0 ≤ x1.toInt ∧ x1.toInt ≤ 999) → (0 ≤ x2.toInt ∧ x2.toInt ≤ 1) → (0 ≤ x3.toInt ∧ x3.toInt ≤ 24) → ((d 211 3).toInt ≤ 23) → 24 - x3.toInt < (j48 : Int) → K48 x1 x2 x3 d dl) {K80 : Int32 → Int32 → Int32 → Int32 → DD → LL → Prop} {j80 : Nat} (hK80 : ∀ (x1 : Int32) (x2 : Int32) (x3 : Int32) (x4 : Int32) (d : DD) (dl : LL), StW e el d dl → (0 ≤ x1.toInt ∧ x1.toInt ≤ 999) → (0 ≤ x2.toInt ∧ x2.toInt ≤ 1) → (0 ≤ x3.toInt ∧ x3.toInt ≤ 23) → (0 ≤ x4.toInt ∧ x4.toInt ≤ 4) → ((d 211 3).toInt ≤ 23) → 24 - x3.toInt ≤ (j48 : Int) → 4 - x4.toInt < (j80 : Int) → K80 x1 x2 x3 x4 d dl) : ∀ (j89 : Nat) (x1 : Int32) (x2 : Int32) (x3 : Int32) (x4 : Int32) (x5 : Int32) (d : DD) (dl : LL), StW e el d dl → (0 ≤ x1.toInt ∧ x1.toInt ≤ 999) → (0 ≤ x2.toInt ∧ x2.toInt ≤ 1) → (0 ≤ x3.toInt ∧ x3.toInt ≤ 23) → (0 ≤ x4.toInt ∧ x4.toInt ≤ 3) → (0 ≤ x5.toInt ∧ x5.toInt ≤ 4) → ((d 211 3).toInt ≤ 23) → 24 - x3.toInt ≤ (j48 : Int) → 4 - x4.toInt ≤ (j80 : Int) → 4 - x5.toInt < (j89 : Int) → b_X10_race_89 n Q K48 K80 j89 x1 x2 x3 x4 x5 d dl := by
  intro j89
  induction j89 with
  | zero =>
    intro x1 x2 x3 x4 x5 d dl hS bx1 bx2 bx3 bx4 bx5 bi0 hm48 hm80 hm89
    exfalso
    omega
  | succ j89 hK89 =>
    intro x1 x2 x3 x4 x5 d dl hS bx1 bx2 bx3 bx4 bx5 bi0 hm48 hm80 hm89
    show (4 ≤ x5 → K80 x1 x2 x3 (x4 + 1) d dl) ∧ (¬ 4 ≤ x5 → vp_in x4 4 ∧ ((d 239 x4.toNatClampNeg) = (-1) → (b_X10_race_89 n Q K48 K80 j89) x1 x2 x3 x4 (x5 + 1) d dl) ∧ (¬ (d 239 x4.toNatClampNeg) = (-1) → vp_in (((4 : Int32) * x3) + x5) 96 ∧ ((d 234 (((4 : Int32) * x3) + x5).toNatClampNeg) = (-1) → (b_X10_race_89 n Q K48 K80 j89) x1 x2 x3 x4 (x5 + 1) d dl) ∧ (¬ (d 234 (((4 : Int32) * x3) + x5).toNatClampNeg) = (-1) → vp_in x4 4 ∧ vp_in (((4 : Int32) * x3) + x5) 96 ∧ F_X10_haveCommon n (d 239 x4.toNatClampNeg) (d 234 (((4 : Int32) * x3) + x5).toNatClampNeg) d dl (fun r41 d42 l43 => (r41 = 0 → (b_X10_race_89 n Q K48 K80 j89) x1 x2 x3 x4 (x5 + 1) d42 l43) ∧ (¬ r41 = 0 → Q (((-10) : Int32) - x3) d42 l43)))))
    refine ⟨fun h34 => ?_, fun h34 => ?_⟩
    · have h34 : 4 ≤ x5.toInt := (i_le (rfl : (4 : Int32).toInt = 4) rfl).mp h34
      have t_1 : (x4 + 1).toInt = x4.toInt + 1 := ti_add rfl (rfl : (1 : Int32).toInt = 1) (by omega) (by omega)
      have m_2 := iv_211_3 hS.1
      exact hK80 _ _ _ _ _ _ hS (by omega) (by omega) (by omega) (by omega) (by omega) (by omega) (by omega)
    · have h34 : ¬ (4 ≤ x5.toInt) := fun q => h34 ((i_le (rfl : (4 : Int32).toInt = 4) rfl).mpr q)
      have ih35 : vp_in x4 4 := vin rfl (by omega) (by omega)
      refine ⟨ih35, ?_⟩
      have m_3 := iv_239 hS.1 (x4.toNatClampNeg)
      refine ⟨fun h36 => ?_, fun h36 => ?_⟩
      · have h36 : (d 239 x4.toNatClampNeg).toInt = (-1) := (i_eq rfl (rfl : ((-1) : Int32).toInt = (-1))).mp h36
        have t_4 : (x5 + 1).toInt = x5.toInt + 1 := ti_add rfl (rfl : (1 : Int32).toInt = 1) (by omega) (by omega)
        have m_5 := iv_211_3 hS.1
        exact hK89 _ _ _ _ _ _ _ hS (by omega) (by omega) (by omega) (by omega) (by omega) (by omega) (by omega) (by omega) (by omega)
      · have h36 : ¬ ((d 239 x4.toNatClampNeg).toInt = (-1)) := fun q => h36 ((i_eq rfl (rfl : ((-1) : Int32).toInt = (-1))).mpr q)
        have t_6 : ((4 : Int32) * x3).toInt = 4 * x3.toInt := ti_mul (rfl : (4 : Int32).toInt = 4) rfl (by omega) (by omega)
        have t_7 : (((4 : Int32) * x3) + x5).toInt = (4 * x3.toInt) + x5.toInt := ti_add t_6 rfl (by omega) (by omega)
        have ih37 : vp_in (((4 : Int32) * x3) + x5) 96 := vin t_7 (by omega) (by omega)
        refine ⟨ih37, ?_⟩
        have m_8 := iv_234 hS.1 ((((4 : Int32) * x3) + x5).toNatClampNeg)
        refine ⟨fun h38 => ?_, fun h38 => ?_⟩
        · have h38 : (d 234 (((4 : Int32) * x3) + x5).toNatClampNeg).toInt = (-1) := (i_eq rfl (rfl : ((-1) : Int32).toInt = (-1))).mp h38
          have t_9 : (x5 + 1).toInt = x5.toInt + 1 := ti_add rfl (rfl : (1 : Int32).toInt = 1) (by omega) (by omega)
          have m_10 := iv_211_3 hS.1
          exact hK89 _ _ _ _ _ _ _ hS (by omega) (by omega) (by omega) (by omega) (by omega) (by omega) (by omega) (by omega) (by omega)
        · have h38 : ¬ ((d 234 (((4 : Int32) * x3) + x5).toNatClampNeg).toInt = (-1)) := fun q => h38 ((i_eq rfl (rfl : ((-1) : Int32).toInt = (-1))).mpr q)
          have ih39 : vp_in x4 4 := vin rfl (by omega) (by omega)
          refine ⟨ih39, ?_⟩
          have ih40 : vp_in (((4 : Int32) * x3) + x5) 96 := vin t_7 (by omega) (by omega)
          refine ⟨ih40, ?_⟩
          refine sp_X10_haveCommon hn hS.1 ⟨by omega, by omega⟩ ⟨by omega, by omega⟩ (fun r41 d42 l43 ⟨p_11, u_12⟩ => ?_)
          have s_13 : StW e el d42 l43 := hS.sq p_11
          have w_14 : d42 = d := p_11.2.1
          replace u_12 : (0 ≤ r41.toInt ∧ r41.toInt ≤ 1) := u_12
          refine ⟨fun h44 => ?_, fun h44 => ?_⟩
          · have h44 : r41.toInt = 0 := (i_eq rfl (rfl : (0 : Int32).toInt = 0)).mp h44
            have t_15 : (x5 + 1).toInt = x5.toInt + 1 := ti_add rfl (rfl : (1 : Int32).toInt = 1) (by omega) (by omega)
            have q_16 : d42 211 3 = (d 211 3) := by rw [w_14]
            have m_17 := iv_211_3 hS.1
            have t_18 : (d42 211 3).toInt = (d 211 3).toInt := (congrArg Int32.toInt q_16).trans rfl
            exact hK89 _ _ _ _ _ _ _ s_13 (by omega) (by omega) (by omega) (by omega) (by omega) (by omega) (by omega) (by omega) (by omega)
          · have h44 : ¬ (r41.toInt = 0) := fun q => h44 ((i_eq rfl (rfl : (0 : Int32).toInt = 0)).mpr q)
            have t_19 : (((-10) : Int32) - x3).toInt = (-10) - x3.toInt := ti_sub (rfl : ((-10) : Int32).toInt = (-10)) rfl (by omega) (by omega)
            generalize (((-10) : Int32) - x3) = z_20 at t_19 ⊢
            exact hQ _ _ _ ⟨s_13, by omega⟩
set_option maxHeartbeats 4000000 in
set_option maxRecDepth 100000 in
theorem sb_X10_race_80 {n : Nat} (hn : 1000000000 ≤ n) {e : DD} {el : LL} {Q : Int32 → DD → LL → Prop} (hQ : ∀ (r : Int32) (d2 : DD) (l2 : LL), StW e el d2 l2 ∧ ((-33) ≤ r.toInt ∧ r.toInt ≤ 24) → Q r d2 l2) {K48 : Int32 → Int32 → Int32 → DD → LL → Prop} {j48 : Nat} (hK48 : ∀ (x1 : Int32) (x2 : Int32) (x3 : Int32) (d : DD) (dl : LL), StW e el d dl → (0 ≤ x1.toInt ∧ x1.toInt ≤ 999) → (0 ≤ x2.toInt ∧ x2.toInt ≤ 1) → (0 ≤ x3.toInt ∧ x3.toInt ≤ 24) → ((d 211 3).toInt ≤ 23) → 24 - x3.toInt < (j48 : Int) → K48 x1 x2 x3 d dl) : ∀ (j80 : Nat) (x1 : Int32) (x2 : Int32) (x3 : Int32) (x4 : Int32) (d : DD) (dl : LL), StW e el d dl → (0 ≤ x1.toInt ∧ x1.toInt ≤ 999) → (0 ≤ x2.toInt ∧ x2.toInt ≤ 1) → (0 ≤ x3.toInt ∧ x3.toInt ≤ 23) → (0 ≤ x4.toInt ∧ x4.toInt ≤ 4) → ((d 211 3).toInt ≤ 23) → 24 - x3.toInt ≤ (j48 : Int) → 4 - x4.toInt < (j80 : Int) → b_X10_race_80 n Q K48 j80 x1 x2 x3 x4 d dl := by
  intro j80
  induction j80 with
  | zero =>
    intro x1 x2 x3 x4 d dl hS bx1 bx2 bx3 bx4 bi0 hm48 hm80
    exfalso
    omega
  | succ j80 hK80 =>
    intro x1 x2 x3 x4 d dl hS bx1 bx2 bx3 bx4 bi0 hm48 hm80
    show (4 ≤ x4 → K48 x1 x2 (x3 + 1) d dl) ∧ (¬ 4 ≤ x4 → b_X10_race_89 n Q K48 (b_X10_race_80 n Q K48 j80) n x1 x2 x3 x4 0 d dl)
    refine ⟨fun h33 => ?_, fun h33 => ?_⟩
    · have h33 : 4 ≤ x4.toInt := (i_le (rfl : (4 : Int32).toInt = 4) rfl).mp h33
      have t_21 : (x3 + 1).toInt = x3.toInt + 1 := ti_add rfl (rfl : (1 : Int32).toInt = 1) (by omega) (by omega)
      have m_22 := iv_211_3 hS.1
      exact hK48 _ _ _ _ _ hS (by omega) (by omega) (by omega) (by omega) (by omega)
    · have h33 : ¬ (4 ≤ x4.toInt) := fun q => h33 ((i_le (rfl : (4 : Int32).toInt = 4) rfl).mpr q)
      have m_23 := iv_211_3 hS.1
      exact sb_X10_race_89 hn hQ hK48 hK80 n _ _ _ _ _ _ _ hS (by omega) (by omega) (by omega) (by omega) (show 0 ≤ 0 ∧ 0 ≤ 4 from by omega) (by omega) (by omega) (by omega) (show 4 - 0 < (n : Int) from by omega)
set_option maxHeartbeats 4000000 in
set_option maxRecDepth 100000 in
theorem sb_X10_race_48 {n : Nat} (hn : 1000000000 ≤ n) {e : DD} {el : LL} {Q : Int32 → DD → LL → Prop} (hQ : ∀ (r : Int32) (d2 : DD) (l2 : LL), StW e el d2 l2 ∧ ((-33) ≤ r.toInt ∧ r.toInt ≤ 24) → Q r d2 l2) : ∀ (j48 : Nat) (x1 : Int32) (x2 : Int32) (x3 : Int32) (d : DD) (dl : LL), StW e el d dl → (0 ≤ x1.toInt ∧ x1.toInt ≤ 999) → (0 ≤ x2.toInt ∧ x2.toInt ≤ 1) → (0 ≤ x3.toInt ∧ x3.toInt ≤ 24) → ((d 211 3).toInt ≤ 23) → 24 - x3.toInt < (j48 : Int) → b_X10_race_48 n Q j48 x1 x2 x3 d dl := by
  intro j48
  induction j48 with
  | zero =>
    intro x1 x2 x3 d dl hS bx1 bx2 bx3 bi0 hm48
    exfalso
    omega
  | succ j48 hK48 =>
    intro x1 x2 x3 d dl hS bx1 bx2 bx3 bi0 hm48
    show ((d 211 3) ≤ x3 → vp_in (d 211 3) 24 ∧ ∀ d9 : DD, d9 = u2 d 232 (d 211 3).toNatClampNeg x1 → vp_in (d9 211 3) 24 ∧ ∀ d11 : DD, d11 = u2 d9 233 (d9 211 3).toNatClampNeg x2 → vp_in (d11 211 3) 24 ∧ ∀ d13 : DD, d13 = u2 d11 238 (d11 211 3).toNatClampNeg (vp_nar .boolean 0) → b_X10_race_201 n Q n 0 d13 dl) ∧ (¬ (d 211 3) ≤ x3 → vp_in x3 24 ∧ F_X10_size n ((d 232 x3.toNatClampNeg) - x1) d dl (fun r29 d30 l31 => (r29 < (d30 211 5) → b_X10_race_80 n Q (b_X10_race_48 n Q j48) n x1 x2 x3 0 d30 l31) ∧ (¬ r29 < (d30 211 5) → (b_X10_race_48 n Q j48) x1 x2 (x3 + 1) d30 l31)))
    have m_24 := iv_211_3 hS.1
    refine ⟨fun h7 => ?_, fun h7 => ?_⟩
    · have h7 : (d 211 3).toInt ≤ x3.toInt := (i_le rfl rfl).mp h7
      have ih8 : vp_in (d 211 3) 24 := vin rfl (by omega) (by omega)
      refine ⟨ih8, ?_⟩
      intro d9 ed9
      have s_25 : StW e el d9 dl := by rw [ed9]; exact pw_232 hS (by omega) (by omega) rfl
      have q_26 : d9 211 3 = (d 211 3) := by rw [ed9, u2_row (by omega)]
      have t_27 : (d9 211 3).toInt = (d 211 3).toInt := (congrArg Int32.toInt q_26).trans rfl
      have ih10 : vp_in (d9 211 3) 24 := vin t_27 (by omega) (by omega)
      refine ⟨ih10, ?_⟩
      intro d11 ed11
      have s_28 : StW e el d11 dl := by rw [ed11]; exact pw_233 s_25 (by omega) (by omega) rfl
      have q_29 : d11 211 3 = (d 211 3) := by rw [ed11, u2_row (by omega)]; rw [ed9, u2_row (by omega)]
      have t_30 : (d11 211 3).toInt = (d 211 3).toInt := (congrArg Int32.toInt q_29).trans rfl
      have ih12 : vp_in (d11 211 3) 24 := vin t_30 (by omega) (by omega)
      refine ⟨ih12, ?_⟩
      intro d13 ed13
      have s_31 : StW e el d13 dl := by rw [ed13]; exact pw_238 s_28 (vn_in _).1 (vn_in _).2 rfl
      have q_32 : d13 211 3 = (d 211 3) := by rw [ed13, u2_row (by omega)]; rw [ed11, u2_row (by omega)]; rw [ed9, u2_row (by omega)]
      have t_33 : (d13 211 3).toInt = (d 211 3).toInt := (congrArg Int32.toInt q_32).trans rfl
      exact sb_X10_race_201 hn hQ n _ _ _ s_31 (show 0 ≤ 0 ∧ 0 ≤ 4 from by omega) (by omega) (show 4 - 0 < (n : Int) from by omega)
    · have h7 : ¬ ((d 211 3).toInt ≤ x3.toInt) := fun q => h7 ((i_le rfl rfl).mpr q)
      have ih28 : vp_in x3 24 := vin rfl (by omega) (by omega)
      refine ⟨ih28, ?_⟩
      have m_34 := iv_232 hS.1 (x3.toNatClampNeg)
      have t_35 : ((d 232 x3.toNatClampNeg) - x1).toInt = (d 232 x3.toNatClampNeg).toInt - x1.toInt := ti_sub rfl rfl (by omega) (by omega)
      refine sp_X10_size hn hS.1 (fun r29 d30 l31 ⟨p_36, u_37⟩ => ?_)
      have s_38 : StW e el d30 l31 := hS.sq p_36
      have w_39 : d30 = d := p_36.2.1
      have q_40 : d30 211 5 = (d 211 5) := by rw [w_39]
      have m_41 := iv_211_5 hS.1
      have t_42 : (d30 211 5).toInt = (d 211 5).toInt := (congrArg Int32.toInt q_40).trans rfl
      refine ⟨fun h32 => ?_, fun h32 => ?_⟩
      · have h32 : r29.toInt < (d 211 5).toInt := (i_lt rfl t_42).mp h32
        have q_43 : d30 211 3 = (d 211 3) := by rw [w_39]
        have t_44 : (d30 211 3).toInt = (d 211 3).toInt := (congrArg Int32.toInt q_43).trans rfl
        exact sb_X10_race_80 hn hQ hK48 n _ _ _ _ _ _ s_38 (by omega) (by omega) (by omega) (show 0 ≤ 0 ∧ 0 ≤ 4 from by omega) (by omega) (by omega) (show 4 - 0 < (n : Int) from by omega)
      · have h32 : ¬ (r29.toInt < (d 211 5).toInt) := fun q => h32 ((i_lt rfl t_42).mpr q)
        have t_45 : (x3 + 1).toInt = x3.toInt + 1 := ti_add rfl (rfl : (1 : Int32).toInt = 1) (by omega) (by omega)
        have q_46 : d30 211 3 = (d 211 3) := by rw [w_39]
        have t_47 : (d30 211 3).toInt = (d 211 3).toInt := (congrArg Int32.toInt q_46).trans rfl
        exact hK48 _ _ _ _ _ s_38 (by omega) (by omega) (by omega) (by omega) (by omega)
set_option maxHeartbeats 4000000 in
set_option maxRecDepth 100000 in
theorem sp_X10_race {n : Nat} (hn : 1000000000 ≤ n) {x1 : Int32} {x2 : Int32} {d : DD} {dl : LL} (hI : Inv d) {Q : Int32 → DD → LL → Prop} (hQ : ∀ (r : Int32) (d2 : DD) (l2 : LL), StW d dl d2 l2 ∧ ((-33) ≤ r.toInt ∧ r.toInt ≤ 24) → Q r d2 l2) : F_X10_race n x1 x2 d dl Q := by
  obtain ⟨e, he⟩ : ∃ e : DD, e = d := ⟨_, rfl⟩
  obtain ⟨el, hel⟩ : ∃ el : LL, el = dl := ⟨_, rfl⟩
  have hS : StW e el d dl := by rw [he, hel]; exact StW.rf hI
  rw [← he, ← hel] at hQ
  show (x1 < 0 → Q (-2) d dl) ∧ (¬ x1 < 0 → (999 < x1 → Q (-2) d dl) ∧ (¬ 999 < x1 → (x2 < 0 → Q (-2) d dl) ∧ (¬ x2 < 0 → (x2 ≤ 1 → (2 ≤ (d 211 6) → (¬ (d 211 3) = 24 → b_X10_race_48 n Q n x1 x2 0 d dl) ∧ ((d 211 3) = 24 → Q (-4) d dl)) ∧ (¬ 2 ≤ (d 211 6) → Q (-3) d dl)) ∧ (¬ x2 ≤ 1 → Q (-2) d dl))))
  refine ⟨fun h1 => ?_, fun h1 => ?_⟩
  · have h1 : x1.toInt < 0 := (i_lt rfl (rfl : (0 : Int32).toInt = 0)).mp h1
    exact hQ _ _ _ ⟨hS, (show ((-33) ≤ (-2) ∧ (-2) ≤ 24) from by omega)⟩
  · have h1 : ¬ (x1.toInt < 0) := fun q => h1 ((i_lt rfl (rfl : (0 : Int32).toInt = 0)).mpr q)
    refine ⟨fun h2 => ?_, fun h2 => ?_⟩
    · have h2 : 999 < x1.toInt := (i_lt (rfl : (999 : Int32).toInt = 999) rfl).mp h2
      exact hQ _ _ _ ⟨hS, (show ((-33) ≤ (-2) ∧ (-2) ≤ 24) from by omega)⟩
    · have h2 : ¬ (999 < x1.toInt) := fun q => h2 ((i_lt (rfl : (999 : Int32).toInt = 999) rfl).mpr q)
      refine ⟨fun h3 => ?_, fun h3 => ?_⟩
      · have h3 : x2.toInt < 0 := (i_lt rfl (rfl : (0 : Int32).toInt = 0)).mp h3
        exact hQ _ _ _ ⟨hS, (show ((-33) ≤ (-2) ∧ (-2) ≤ 24) from by omega)⟩
      · have h3 : ¬ (x2.toInt < 0) := fun q => h3 ((i_lt rfl (rfl : (0 : Int32).toInt = 0)).mpr q)
        refine ⟨fun h4 => ?_, fun h4 => ?_⟩
        · have h4 : x2.toInt ≤ 1 := (i_le rfl (rfl : (1 : Int32).toInt = 1)).mp h4
          refine ⟨fun h5 => ?_, fun h5 => ?_⟩
          · have h5 : 2 ≤ (d 211 6).toInt := (i_le (rfl : (2 : Int32).toInt = 2) rfl).mp h5
            have m_48 := iv_211_3 hS.1
            refine ⟨fun h6 => ?_, fun h6 => ?_⟩
            · have h6 : ¬ ((d 211 3).toInt = 24) := fun q => h6 ((i_eq rfl (rfl : (24 : Int32).toInt = 24)).mpr q)
              exact sb_X10_race_48 hn hQ n _ _ _ _ _ hS (by omega) (by omega) (show 0 ≤ 0 ∧ 0 ≤ 24 from by omega) (by omega) (show 24 - 0 < (n : Int) from by omega)
            · have h6 : (d 211 3).toInt = 24 := (i_eq rfl (rfl : (24 : Int32).toInt = 24)).mp h6
              exact hQ _ _ _ ⟨hS, (show ((-33) ≤ (-4) ∧ (-4) ≤ 24) from by omega)⟩
          · have h5 : ¬ (2 ≤ (d 211 6).toInt) := fun q => h5 ((i_le (rfl : (2 : Int32).toInt = 2) rfl).mpr q)
            exact hQ _ _ _ ⟨hS, (show ((-33) ≤ (-3) ∧ (-3) ≤ 24) from by omega)⟩
        · have h4 : ¬ (x2.toInt ≤ 1) := fun q => h4 ((i_le rfl (rfl : (1 : Int32).toInt = 1)).mpr q)
          exact hQ _ _ _ ⟨hS, (show ((-33) ≤ (-2) ∧ (-2) ≤ 24) from by omega)⟩
set_option maxHeartbeats 4000000 in
set_option maxRecDepth 100000 in
theorem sb_X10_rule_163 {n : Nat} (hn : 1000000000 ≤ n) {e : DD} {el : LL} {Q : Int32 → DD → LL → Prop} (hQ : ∀ (r : Int32) (d2 : DD) (l2 : LL), StW e el d2 l2 ∧ ((-131) ≤ r.toInt ∧ r.toInt ≤ 5) → Q r d2 l2) : ∀ (x1 : Int32) (d : DD) (dl : LL), StW e el d dl → (1 ≤ x1.toInt ∧ x1.toInt ≤ 8) → ((d 211 2).toInt ≤ 5) → b_X10_rule_163 n Q x1 d dl := by
  intro x1 d dl hS bx1 bi0
  show ∀ d11 : DD, d11 = u2 d 211 4 0 → ((d11 211 47) = (-1) → vp_in (d11 211 2) 6 ∧ ∀ d14 : DD, d14 = u2 d11 226 (d11 211 2).toNatClampNeg x1 → ∀ d15 : DD, d15 = u2 d14 211 2 ((d14 211 2) + 1) → Q (d14 211 2) d15 dl) ∧ (¬ (d11 211 47) = (-1) → Q (((-10) : Int32) - (d11 211 47)) d11 dl)
  intro d11 ed11
  have s_1 : StW e el d11 dl := by rw [ed11]; exact pw_211_4 hS (by decide) (by decide) rfl
  have q_2 : d11 211 47 = (d 211 47) := by rw [ed11, u2_ne (Or.inr (by omega))]
  have m_3 := iv_211_47 hS.1
  have t_4 : (d11 211 47).toInt = (d 211 47).toInt := (congrArg Int32.toInt q_2).trans rfl
  refine ⟨fun h12 => ?_, fun h12 => ?_⟩
  · have h12 : (d 211 47).toInt = (-1) := (i_eq t_4 (rfl : ((-1) : Int32).toInt = (-1))).mp h12
    have q_5 : d11 211 2 = (d 211 2) := by rw [ed11, u2_ne (Or.inr (by omega))]
    have m_6 := iv_211_2 hS.1
    have t_7 : (d11 211 2).toInt = (d 211 2).toInt := (congrArg Int32.toInt q_5).trans rfl
    have ih13 : vp_in (d11 211 2) 6 := vin t_7 (by omega) (by omega)
    refine ⟨ih13, ?_⟩
    intro d14 ed14
    have s_8 : StW e el d14 dl := by rw [ed14]; exact pw_226 s_1 (by omega) (by omega) rfl
    have q_9 : d14 211 2 = (d 211 2) := by rw [ed14, u2_row (by omega)]; rw [ed11, u2_ne (Or.inr (by omega))]
    have t_10 : (d14 211 2).toInt = (d 211 2).toInt := (congrArg Int32.toInt q_9).trans rfl
    have t_11 : ((d14 211 2) + 1).toInt = (d 211 2).toInt + 1 := ti_add t_10 (rfl : (1 : Int32).toInt = 1) (by omega) (by omega)
    intro d15 ed15
    have s_12 : StW e el d15 dl := by rw [ed15]; exact pw_211_2 s_8 (by rw [t_11]; omega) (by rw [t_11]; omega) rfl
    exact hQ _ _ _ ⟨s_12, by omega⟩
  · have h12 : ¬ ((d 211 47).toInt = (-1)) := fun q => h12 ((i_eq t_4 (rfl : ((-1) : Int32).toInt = (-1))).mpr q)
    have t_13 : (((-10) : Int32) - (d11 211 47)).toInt = (-10) - (d 211 47).toInt := ti_sub (rfl : ((-10) : Int32).toInt = (-10)) t_4 (by omega) (by omega)
    generalize (((-10) : Int32) - (d11 211 47)) = z_14 at t_13 ⊢
    exact hQ _ _ _ ⟨s_1, by omega⟩
set_option maxHeartbeats 4000000 in
set_option maxRecDepth 100000 in
theorem sb_X10_rule_127 {n : Nat} (hn : 1000000000 ≤ n) {e : DD} {el : LL} {Q : Int32 → DD → LL → Prop} (hQ : ∀ (r : Int32) (d2 : DD) (l2 : LL), StW e el d2 l2 ∧ ((-131) ≤ r.toInt ∧ r.toInt ≤ 5) → Q r d2 l2) {K47 : Int32 → Int32 → DD → LL → Prop} {j47 : Nat} (hK47 : ∀ (x1 : Int32) (x2 : Int32) (d : DD) (dl : LL), StW e el d dl → (1 ≤ x1.toInt ∧ x1.toInt ≤ 8) → (0 ≤ x2.toInt ∧ x2.toInt ≤ 40) → ((d 211 2).toInt ≤ 5) → 9 - x1.toInt < (j47 : Int) → K47 x1 x2 d dl) : ∀ (x1 : Int32) (x2 : Int32) (x3 : Int32) (ws0 : Nat) (hws0 : ws0 < 19) (d : DD) (dl : LL), StW e el d dl → (1 ≤ x1.toInt ∧ x1.toInt ≤ 7) → (0 ≤ x2.toInt ∧ x2.toInt ≤ 40) → (0 ≤ x3.toInt ∧ x3.toInt ≤ 1) → ((d 211 2).toInt ≤ 5) → 9 - x1.toInt ≤ (j47 : Int) → b_X10_rule_127 n Q K47 x1 x2 x3 ws0 d dl := by
  intro x1 x2 x3 ws0 hws0 d dl hS bx1 bx2 bx3 bi0 hm47
  show F_X10_expect n ws0 d dl (fun d28 l29 => ((d28 211 47) = (-1) → vp_in (x2 + x1) 48 ∧ ∀ d32 : DD, d32 = u2 d28 231 (x2 + x1).toNatClampNeg (vp_nar .boolean x3) → F_X10_test n (x2 + x1) d32 l29 (fun d34 l35 => K47 (x1 + 1) x2 d34 l35)) ∧ (¬ (d28 211 47) = (-1) → b_X10_rule_163 n Q x1 d28 l29))
  refine sp_X10_expect hn hS.1 hws0 (fun d28 l29 ⟨p_15, u_16⟩ => ?_)
  have s_17 : StW e el d28 l29 := hS.tr le_StW_St p_15
  have m_18 := iv_211_47 s_17.1
  refine ⟨fun h30 => ?_, fun h30 => ?_⟩
  · have h30 : (d28 211 47).toInt = (-1) := (i_eq rfl (rfl : ((-1) : Int32).toInt = (-1))).mp h30
    have t_19 : (x2 + x1).toInt = x2.toInt + x1.toInt := ti_add rfl rfl (by omega) (by omega)
    have ih31 : vp_in (x2 + x1) 48 := vin t_19 (by omega) (by omega)
    refine ⟨ih31, ?_⟩
    intro d32 ed32
    have s_20 : StW e el d32 l29 := by rw [ed32]; exact pw_231 s_17 (vn_in _).1 (vn_in _).2 rfl
    refine sp_X10_test hn s_20.1 ⟨by rw [t_19]; omega, by rw [t_19]; omega⟩ (fun d34 l35 ⟨p_21, u_22⟩ => ?_)
    have s_23 : StW e el d34 l35 := s_20.tr le_StW_St p_21
    have t_24 : (x1 + 1).toInt = x1.toInt + 1 := ti_add rfl (rfl : (1 : Int32).toInt = 1) (by omega) (by omega)
    have q_25 : d34 211 2 = (d 211 2) := by rw [p_21.2.1 211 2 rfl]; rw [ed32, u2_row (by omega)]; rw [p_15.2.1 211 2 rfl]
    have m_26 := iv_211_2 hS.1
    have t_27 : (d34 211 2).toInt = (d 211 2).toInt := (congrArg Int32.toInt q_25).trans rfl
    exact hK47 _ _ _ _ s_23 (by omega) (by omega) (by omega) (by omega)
  · have h30 : ¬ ((d28 211 47).toInt = (-1)) := fun q => h30 ((i_eq rfl (rfl : ((-1) : Int32).toInt = (-1))).mpr q)
    have q_28 : d28 211 2 = (d 211 2) := by rw [p_15.2.1 211 2 rfl]
    have m_29 := iv_211_2 hS.1
    have t_30 : (d28 211 2).toInt = (d 211 2).toInt := (congrArg Int32.toInt q_28).trans rfl
    exact sb_X10_rule_163 hn hQ _ _ _ s_17 (by omega) (by omega)
set_option maxHeartbeats 4000000 in
set_option maxRecDepth 100000 in
theorem sb_X10_rule_114 {n : Nat} (hn : 1000000000 ≤ n) {e : DD} {el : LL} {Q : Int32 → DD → LL → Prop} (hQ : ∀ (r : Int32) (d2 : DD) (l2 : LL), StW e el d2 l2 ∧ ((-131) ≤ r.toInt ∧ r.toInt ≤ 5) → Q r d2 l2) {K47 : Int32 → Int32 → DD → LL → Prop} {j47 : Nat} (hK47 : ∀ (x1 : Int32) (x2 : Int32) (d : DD) (dl : LL), StW e el d dl → (1 ≤ x1.toInt ∧ x1.toInt ≤ 8) → (0 ≤ x2.toInt ∧ x2.toInt ≤ 40) → ((d 211 2).toInt ≤ 5) → 9 - x1.toInt < (j47 : Int) → K47 x1 x2 d dl) : ∀ (x1 : Int32) (x2 : Int32) (xs0 : Int32) (d : DD) (dl : LL), StW e el d dl → (1 ≤ x1.toInt ∧ x1.toInt ≤ 7) → (0 ≤ x2.toInt ∧ x2.toInt ≤ 40) → (0 ≤ xs0.toInt ∧ xs0.toInt ≤ 1) → ((d 211 2).toInt ≤ 5) → 9 - x1.toInt ≤ (j47 : Int) → b_X10_rule_114 n Q K47 x1 x2 xs0 d dl := by
  intro x1 x2 xs0 d dl hS bx1 bx2 bxs0 bi0 hm47
  show (xs0 = 0 → b_X10_rule_127 n Q K47 x1 x2 xs0 18 d dl) ∧ (¬ xs0 = 0 → b_X10_rule_127 n Q K47 x1 x2 xs0 17 d dl)
  refine ⟨fun h26 => ?_, fun h26 => ?_⟩
  · have h26 : xs0.toInt = 0 := (i_eq rfl (rfl : (0 : Int32).toInt = 0)).mp h26
    have m_31 := iv_211_2 hS.1
    exact sb_X10_rule_127 hn hQ hK47 _ _ _ _ (Nat.le_of_ble_eq_true rfl) _ _ hS (by omega) (by omega) (by omega) (by omega) (by omega)
  · have h26 : ¬ (xs0.toInt = 0) := fun q => h26 ((i_eq rfl (rfl : (0 : Int32).toInt = 0)).mpr q)
    have m_32 := iv_211_2 hS.1
    exact sb_X10_rule_127 hn hQ hK47 _ _ _ _ (Nat.le_of_ble_eq_true rfl) _ _ hS (by omega) (by omega) (by omega) (by omega) (by omega)
set_option maxHeartbeats 4000000 in
set_option maxRecDepth 100000 in
theorem sb_X10_rule_47 {n : Nat} (hn : 1000000000 ≤ n) {e : DD} {el : LL} {Q : Int32 → DD → LL → Prop} (hQ : ∀ (r : Int32) (d2 : DD) (l2 : LL), StW e el d2 l2 ∧ ((-131) ≤ r.toInt ∧ r.toInt ≤ 5) → Q r d2 l2) : ∀ (j47 : Nat) (x1 : Int32) (x2 : Int32) (d : DD) (dl : LL), StW e el d dl → (1 ≤ x1.toInt ∧ x1.toInt ≤ 8) → (0 ≤ x2.toInt ∧ x2.toInt ≤ 40) → ((d 211 2).toInt ≤ 5) → 9 - x1.toInt < (j47 : Int) → b_X10_rule_47 n Q j47 x1 x2 d dl := by
  intro j47
  induction j47 with
  | zero =>
    intro x1 x2 d dl hS bx1 bx2 bi0 hm47
    exfalso
    omega
  | succ j47 hK47 =>
    intro x1 x2 d dl hS bx1 bx2 bi0 hm47
    show (¬ (d 211 47) = (-1) → b_X10_rule_163 n Q x1 d dl) ∧ ((d 211 47) = (-1) → ((d 211 4) ≤ (d 211 46) → b_X10_rule_163 n Q x1 d dl) ∧ (¬ (d 211 4) ≤ (d 211 46) → (¬ x1 = 8 → F_X10_expect n 16 d dl (fun d19 l20 => ((d19 211 47) = (-1) → F_X10_now n d19 l20 (fun r22 d23 l24 => (¬ r22 = 111 → b_X10_rule_114 n Q (b_X10_rule_47 n Q j47) x1 x2 0 d23 l24) ∧ (r22 = 111 → b_X10_rule_114 n Q (b_X10_rule_47 n Q j47) x1 x2 1 d23 l24))) ∧ (¬ (d19 211 47) = (-1) → b_X10_rule_163 n Q x1 d19 l20))) ∧ (x1 = 8 → ∀ d36 : DD, d36 = u2 d 211 47 (d 211 46) → b_X10_rule_163 n Q x1 d36 dl)))
    have m_33 := iv_211_47 hS.1
    refine ⟨fun h10 => ?_, fun h10 => ?_⟩
    · have h10 : ¬ ((d 211 47).toInt = (-1)) := fun q => h10 ((i_eq rfl (rfl : ((-1) : Int32).toInt = (-1))).mpr q)
      have m_34 := iv_211_2 hS.1
      exact sb_X10_rule_163 hn hQ _ _ _ hS (by omega) (by omega)
    · have h10 : (d 211 47).toInt = (-1) := (i_eq rfl (rfl : ((-1) : Int32).toInt = (-1))).mp h10
      have m_35 := iv_211_46 hS.1
      have m_36 := iv_211_4 hS.1
      refine ⟨fun h16 => ?_, fun h16 => ?_⟩
      · have h16 : (d 211 4).toInt ≤ (d 211 46).toInt := (i_le rfl rfl).mp h16
        have m_37 := iv_211_2 hS.1
        exact sb_X10_rule_163 hn hQ _ _ _ hS (by omega) (by omega)
      · have h16 : ¬ ((d 211 4).toInt ≤ (d 211 46).toInt) := fun q => h16 ((i_le rfl rfl).mpr q)
        refine ⟨fun h17 => ?_, fun h17 => ?_⟩
        · have h17 : ¬ (x1.toInt = 8) := fun q => h17 ((i_eq rfl (rfl : (8 : Int32).toInt = 8)).mpr q)
          refine sp_X10_expect hn hS.1 (Nat.le_of_ble_eq_true rfl) (fun d19 l20 ⟨p_38, u_39⟩ => ?_)
          have s_40 : StW e el d19 l20 := hS.tr le_StW_St p_38
          have m_41 := iv_211_47 s_40.1
          refine ⟨fun h21 => ?_, fun h21 => ?_⟩
          · have h21 : (d19 211 47).toInt = (-1) := (i_eq rfl (rfl : ((-1) : Int32).toInt = (-1))).mp h21
            refine sp_X10_now hn s_40.1 (fun r22 d23 l24 ⟨p_42, u_43⟩ => ?_)
            have s_44 : StW e el d23 l24 := s_40.sq p_42
            have w_45 : d23 = d19 := p_42.2.1
            replace u_43 : ((r22.toInt = -1 ∨ (d19 211 46).toInt < (d19 211 4).toInt)) := u_43
            have m_46 := iv_211_46 s_40.1
            have m_47 := iv_211_4 s_40.1
            refine ⟨fun h25 => ?_, fun h25 => ?_⟩
            · have h25 : ¬ (r22.toInt = 111) := fun q => h25 ((i_eq rfl (rfl : (111 : Int32).toInt = 111)).mpr q)
              have q_48 : d23 211 2 = (d 211 2) := by rw [w_45]; rw [p_38.2.1 211 2 rfl]
              have m_49 := iv_211_2 hS.1
              have t_50 : (d23 211 2).toInt = (d 211 2).toInt := (congrArg Int32.toInt q_48).trans rfl
              exact sb_X10_rule_114 hn hQ hK47 _ _ _ _ _ s_44 (by omega) (by omega) (show 0 ≤ 0 ∧ 0 ≤ 1 from by omega) (by omega) (by omega)
            · have h25 : r22.toInt = 111 := (i_eq rfl (rfl : (111 : Int32).toInt = 111)).mp h25
              have q_51 : d23 211 2 = (d 211 2) := by rw [w_45]; rw [p_38.2.1 211 2 rfl]
              have m_52 := iv_211_2 hS.1
              have t_53 : (d23 211 2).toInt = (d 211 2).toInt := (congrArg Int32.toInt q_51).trans rfl
              exact sb_X10_rule_114 hn hQ hK47 _ _ _ _ _ s_44 (by omega) (by omega) (show 0 ≤ 1 ∧ 1 ≤ 1 from by omega) (by omega) (by omega)
          · have h21 : ¬ ((d19 211 47).toInt = (-1)) := fun q => h21 ((i_eq rfl (rfl : ((-1) : Int32).toInt = (-1))).mpr q)
            have q_54 : d19 211 2 = (d 211 2) := by rw [p_38.2.1 211 2 rfl]
            have m_55 := iv_211_2 hS.1
            have t_56 : (d19 211 2).toInt = (d 211 2).toInt := (congrArg Int32.toInt q_54).trans rfl
            exact sb_X10_rule_163 hn hQ _ _ _ s_40 (by omega) (by omega)
        · have h17 : x1.toInt = 8 := (i_eq rfl (rfl : (8 : Int32).toInt = 8)).mp h17
          intro d36 ed36
          have s_57 : StW e el d36 dl := by rw [ed36]; exact pw_211_47 hS (by omega) (by omega) rfl
          have q_58 : d36 211 2 = (d 211 2) := by rw [ed36, u2_ne (Or.inr (by omega))]
          have m_59 := iv_211_2 hS.1
          have t_60 : (d36 211 2).toInt = (d 211 2).toInt := (congrArg Int32.toInt q_58).trans rfl
          exact sb_X10_rule_163 hn hQ _ _ _ s_57 (by omega) (by omega)
set_option maxHeartbeats 4000000 in
set_option maxRecDepth 100000 in
theorem sp_X10_rule {n : Nat} (hn : 1000000000 ≤ n) {d : DD} {dl : LL} (hI : Inv d) {Q : Int32 → DD → LL → Prop} (hQ : ∀ (r : Int32) (d2 : DD) (l2 : LL), StW d dl d2 l2 ∧ ((-131) ≤ r.toInt ∧ r.toInt ≤ 5) → Q r d2 l2) : F_X10_rule n d dl Q := by
  obtain ⟨e, he⟩ : ∃ e : DD, e = d := ⟨_, rfl⟩
  obtain ⟨el, hel⟩ : ∃ el : LL, el = dl := ⟨_, rfl⟩
  have hS : StW e el d dl := by rw [he, hel]; exact StW.rf hI
  rw [← he, ← hel] at hQ
  show (¬ (d 211 2) = 6 → ∀ d2 : DD, d2 = u2 d 211 46 0 → ∀ d3 : DD, d3 = u2 d2 211 47 (-1) → ∀ v4 : Int32, v4 = ((8 : Int32) * (d3 211 2)) → vp_in v4 48 ∧ ∀ d6 : DD, d6 = u2 d3 231 v4.toNatClampNeg (vp_nar .boolean 0) → F_X10_test n v4 d6 dl (fun d8 l9 => b_X10_rule_47 n Q n ((0 : Int32) + 1) v4 d8 l9)) ∧ ((d 211 2) = 6 → Q (-4) d dl)
  have m_61 := iv_211_2 hS.1
  refine ⟨fun h1 => ?_, fun h1 => ?_⟩
  · have h1 : ¬ ((d 211 2).toInt = 6) := fun q => h1 ((i_eq rfl (rfl : (6 : Int32).toInt = 6)).mpr q)
    intro d2 ed2
    have s_62 : StW e el d2 dl := by rw [ed2]; exact pw_211_46 hS (by decide) (by decide) rfl
    intro d3 ed3
    have s_63 : StW e el d3 dl := by rw [ed3]; exact pw_211_47 s_62 (by decide) (by decide) rfl
    have q_64 : d3 211 2 = (d 211 2) := by rw [ed3, u2_ne (Or.inr (by omega))]; rw [ed2, u2_ne (Or.inr (by omega))]
    have t_65 : (d3 211 2).toInt = (d 211 2).toInt := (congrArg Int32.toInt q_64).trans rfl
    have t_66 : ((8 : Int32) * (d3 211 2)).toInt = 8 * (d 211 2).toInt := ti_mul (rfl : (8 : Int32).toInt = 8) t_65 (by omega) (by omega)
    intro v4 e4
    have t_67 : v4.toInt = (8 * (d 211 2).toInt) := (congrArg Int32.toInt e4).trans t_66
    have ih5 : vp_in v4 48 := vin t_67 (by omega) (by omega)
    refine ⟨ih5, ?_⟩
    intro d6 ed6
    have s_68 : StW e el d6 dl := by rw [ed6]; exact pw_231 s_63 (vn_in _).1 (vn_in _).2 rfl
    refine sp_X10_test hn s_68.1 ⟨by rw [t_67]; omega, by rw [t_67]; omega⟩ (fun d8 l9 ⟨p_69, u_70⟩ => ?_)
    have s_71 : StW e el d8 l9 := s_68.tr le_StW_St p_69
    have t_72 : ((0 : Int32) + 1).toInt = 0 + 1 := ti_add (rfl : (0 : Int32).toInt = 0) (rfl : (1 : Int32).toInt = 1) (by omega) (by omega)
    have q_73 : d8 211 2 = (d 211 2) := by rw [p_69.2.1 211 2 rfl]; rw [ed6, u2_row (by omega)]; rw [ed3, u2_ne (Or.inr (by omega))]; rw [ed2, u2_ne (Or.inr (by omega))]
    have t_74 : (d8 211 2).toInt = (d 211 2).toInt := (congrArg Int32.toInt q_73).trans rfl
    exact sb_X10_rule_47 hn hQ n _ _ _ _ s_71 (by omega) (by omega) (by omega) (by omega)
  · have h1 : (d 211 2).toInt = 6 := (i_eq rfl (rfl : (6 : Int32).toInt = 6)).mp h1
    exact hQ _ _ _ ⟨hS, (show ((-131) ≤ (-4) ∧ (-4) ≤ 5) from by omega)⟩
