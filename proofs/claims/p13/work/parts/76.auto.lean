set_option maxHeartbeats 4000000 in
set_option maxRecDepth 100000 in
theorem sb_X6_fillFrom_137 {n : Nat} (hn : 1000000000 ≤ n) {e : DD} {el : LL} {Q : DD → LL → Prop} {rec : Int32 → Int32 → Int32 → Int32 → Int32 → DD → LL → (DD → LL → Prop) → Prop} {kk : Nat} (hrec : ∀ (x1 : Int32) (x2 : Int32) (x3 : Int32) (x4 : Int32) (x5 : Int32) (d : DD) (dl : LL) (Q : DD → LL → Prop), Inv d → (0 ≤ x1.toInt ∧ x1.toInt ≤ 8) → 9 ≤ (kk : Int) + x1.toInt → (∀ (d2 : DD) (l2 : LL), St d dl d2 l2 ∧ True → Q d2 l2) → rec x1 x2 x3 x4 x5 d dl Q) (hQ : ∀ (d2 : DD) (l2 : LL), St e el d2 l2 ∧ True → Q d2 l2) {K61 : Int32 → Int32 → Int32 → Int32 → Int32 → Int32 → Int32 → DD → LL → Prop} {j61 : Nat} (hK61 : ∀ (x1 : Int32) (x2 : Int32) (x3 : Int32) (x4 : Int32) (x5 : Int32) (x6 : Int32) (x7 : Int32) (d : DD) (dl : LL), St e el d dl → (0 ≤ x1.toInt ∧ x1.toInt ≤ 7) → (0 ≤ x6.toInt ∧ x6.toInt ≤ 1) → (0 ≤ x7.toInt ∧ x7.toInt ≤ 8) → (8 ≤ (kk : Int) + x1.toInt) → 9 - x7.toInt < (j61 : Int) → K61 x1 x2 x3 x4 x5 x6 x7 d dl) : ∀ (x1 : Int32) (x2 : Int32) (x3 : Int32) (x4 : Int32) (x5 : Int32) (x6 : Int32) (x7 : Int32) (xs0 : Int32) (xs1 : Int32) (xs2 : Int32) (d : DD) (dl : LL), St e el d dl → (0 ≤ x1.toInt ∧ x1.toInt ≤ 7) → (0 ≤ x6.toInt ∧ x6.toInt ≤ 1) → (0 ≤ x7.toInt ∧ x7.toInt ≤ 7) → (1 ≤ xs2.toInt ∧ xs2.toInt ≤ 8) → (xs2.toInt = x1.toInt + 1) → (8 ≤ (kk : Int) + x1.toInt) → 9 - x7.toInt ≤ (j61 : Int) → b_X6_fillFrom_137 n rec Q K61 x1 x2 x3 x4 x5 x6 x7 xs0 xs1 xs2 d dl := by
  intro x1 x2 x3 x4 x5 x6 x7 xs0 xs1 xs2 d dl hS bx1 bx6 bx7 bxs2 bi0 hkk hm61
  show vp_in x7 8 ∧ vp_in x1 8 ∧ F_X6_gainOf n x1 x7 d dl (fun r14 d15 l16 => rec xs2 xs1 xs0 (x4 + ((d 11 x7.toNatClampNeg) * (d 15 x1.toNatClampNeg))) (x5 + r14) d15 l16 (fun d18 l19 => K61 x1 x2 x3 x4 x5 x6 (x7 + 1) d18 l19))
  have ih12 : vp_in x7 8 := vin rfl (by omega) (by omega)
  refine ⟨ih12, ?_⟩
  have ih13 : vp_in x1 8 := vin rfl (by omega) (by omega)
  refine ⟨ih13, ?_⟩
  refine sp_X6_gainOf hn hS.1 ⟨by omega, by omega⟩ ⟨by omega, by omega⟩ (fun r14 d15 l16 ⟨p_1, u_2⟩ => ?_)
  have s_3 : St e el d15 l16 := hS.sq p_1
  have w_4 : d15 = d := p_1.2.1
  refine hrec _ _ _ _ _ _ _ _ s_3.1 ⟨by omega, by omega⟩ (by omega) (fun d18 l19 ⟨p_5, u_6⟩ => ?_)
  have s_7 : St e el d18 l19 := s_3.tr p_5
  have t_8 : (x7 + 1).toInt = x7.toInt + 1 := ti_add rfl (rfl : (1 : Int32).toInt = 1) (by omega) (by omega)
  exact hK61 _ _ _ _ _ _ _ _ _ s_7 (by omega) (by omega) (by omega) (by omega) (by omega)
set_option maxHeartbeats 4000000 in
set_option maxRecDepth 100000 in
theorem sb_X6_fillFrom_61 {n : Nat} (hn : 1000000000 ≤ n) {e : DD} {el : LL} {Q : DD → LL → Prop} {rec : Int32 → Int32 → Int32 → Int32 → Int32 → DD → LL → (DD → LL → Prop) → Prop} {kk : Nat} (hrec : ∀ (x1 : Int32) (x2 : Int32) (x3 : Int32) (x4 : Int32) (x5 : Int32) (d : DD) (dl : LL) (Q : DD → LL → Prop), Inv d → (0 ≤ x1.toInt ∧ x1.toInt ≤ 8) → 9 ≤ (kk : Int) + x1.toInt → (∀ (d2 : DD) (l2 : LL), St d dl d2 l2 ∧ True → Q d2 l2) → rec x1 x2 x3 x4 x5 d dl Q) (hQ : ∀ (d2 : DD) (l2 : LL), St e el d2 l2 ∧ True → Q d2 l2) : ∀ (j61 : Nat) (x1 : Int32) (x2 : Int32) (x3 : Int32) (x4 : Int32) (x5 : Int32) (x6 : Int32) (x7 : Int32) (d : DD) (dl : LL), St e el d dl → (0 ≤ x1.toInt ∧ x1.toInt ≤ 7) → (0 ≤ x6.toInt ∧ x6.toInt ≤ 1) → (0 ≤ x7.toInt ∧ x7.toInt ≤ 8) → (8 ≤ (kk : Int) + x1.toInt) → 9 - x7.toInt < (j61 : Int) → b_X6_fillFrom_61 n rec Q j61 x1 x2 x3 x4 x5 x6 x7 d dl := by
  intro j61
  induction j61 with
  | zero =>
    intro x1 x2 x3 x4 x5 x6 x7 d dl hS bx1 bx6 bx7 hkk hm61
    exfalso
    omega
  | succ j61 hK61 =>
    intro x1 x2 x3 x4 x5 x6 x7 d dl hS bx1 bx6 bx7 hkk hm61
    show ((d 10 3) ≤ x7 → Q d dl) ∧ (¬ (d 10 3) ≤ x7 → (¬ ((ushr x2 x7) &&& 1) = 0 → (b_X6_fillFrom_61 n rec Q j61) x1 x2 x3 x4 x5 x6 (x7 + 1) d dl) ∧ (((ushr x2 x7) &&& 1) = 0 → vp_in x7 8 ∧ ((d 13 x7.toNatClampNeg) = ((1 : Int32) - x6) → (b_X6_fillFrom_61 n rec Q j61) x1 x2 x3 x4 x5 x6 (x7 + 1) d dl) ∧ (¬ (d 13 x7.toNatClampNeg) = ((1 : Int32) - x6) → vp_in x1 8 ∧ ∀ d9 : DD, d9 = u2 d 17 x1.toNatClampNeg x7 → (¬ x6 = 0 → vp_in x7 8 ∧ b_X6_fillFrom_137 n rec Q (b_X6_fillFrom_61 n rec Q j61) x1 x2 x3 x4 x5 x6 x7 (x3 - (d9 11 x7.toNatClampNeg)) (x2 ||| ((1 : Int32) <<< (x7 &&& 31))) (x1 + 1) d9 dl) ∧ (x6 = 0 → vp_in x7 8 ∧ b_X6_fillFrom_137 n rec Q (b_X6_fillFrom_61 n rec Q j61) x1 x2 x3 x4 x5 x6 x7 (x3 + (d9 11 x7.toNatClampNeg)) (x2 ||| ((1 : Int32) <<< (x7 &&& 31))) (x1 + 1) d9 dl))))
    have m_9 := iv_10_3 hS.1
    refine ⟨fun h4 => ?_, fun h4 => ?_⟩
    · have h4 : (d 10 3).toInt ≤ x7.toInt := (i_le rfl rfl).mp h4
      exact hQ _ _ ⟨hS, trivial⟩
    · have h4 : ¬ ((d 10 3).toInt ≤ x7.toInt) := fun q => h4 ((i_le rfl rfl).mpr q)
      refine ⟨fun h5 => ?_, fun h5 => ?_⟩
      · have h5 : ¬ (((ushr x2 x7) &&& 1).toInt = 0) := fun q => h5 ((i_eq rfl (rfl : (0 : Int32).toInt = 0)).mpr q)
        have t_10 : (x7 + 1).toInt = x7.toInt + 1 := ti_add rfl (rfl : (1 : Int32).toInt = 1) (by omega) (by omega)
        exact hK61 _ _ _ _ _ _ _ _ _ hS (by omega) (by omega) (by omega) (by omega) (by omega)
      · have h5 : ((ushr x2 x7) &&& 1).toInt = 0 := (i_eq rfl (rfl : (0 : Int32).toInt = 0)).mp h5
        have ih6 : vp_in x7 8 := vin rfl (by omega) (by omega)
        refine ⟨ih6, ?_⟩
        have t_11 : ((1 : Int32) - x6).toInt = 1 - x6.toInt := ti_sub (rfl : (1 : Int32).toInt = 1) rfl (by omega) (by omega)
        refine ⟨fun h7 => ?_, fun h7 => ?_⟩
        · have h7 : (d 13 x7.toNatClampNeg).toInt = (1 - x6.toInt) := (i_eq rfl t_11).mp h7
          have t_12 : (x7 + 1).toInt = x7.toInt + 1 := ti_add rfl (rfl : (1 : Int32).toInt = 1) (by omega) (by omega)
          exact hK61 _ _ _ _ _ _ _ _ _ hS (by omega) (by omega) (by omega) (by omega) (by omega)
        · have h7 : ¬ ((d 13 x7.toNatClampNeg).toInt = (1 - x6.toInt)) := fun q => h7 ((i_eq rfl t_11).mpr q)
          have ih8 : vp_in x1 8 := vin rfl (by omega) (by omega)
          refine ⟨ih8, ?_⟩
          intro d9 ed9
          have s_13 : St e el d9 dl := by rw [ed9]; exact pv_17 hS (by omega) (by omega)
          refine ⟨fun h10 => ?_, fun h10 => ?_⟩
          · have h10 : ¬ (x6.toInt = 0) := fun q => h10 ((i_eq rfl (rfl : (0 : Int32).toInt = 0)).mpr q)
            have ih11 : vp_in x7 8 := vin rfl (by omega) (by omega)
            refine ⟨ih11, ?_⟩
            have t_14 : (x1 + 1).toInt = x1.toInt + 1 := ti_add rfl (rfl : (1 : Int32).toInt = 1) (by omega) (by omega)
            exact sb_X6_fillFrom_137 hn hrec hQ hK61 _ _ _ _ _ _ _ _ _ _ _ _ s_13 (by omega) (by omega) (by omega) (by omega) (by omega) (by omega) (by omega)
          · have h10 : x6.toInt = 0 := (i_eq rfl (rfl : (0 : Int32).toInt = 0)).mp h10
            have ih20 : vp_in x7 8 := vin rfl (by omega) (by omega)
            refine ⟨ih20, ?_⟩
            have t_15 : (x1 + 1).toInt = x1.toInt + 1 := ti_add rfl (rfl : (1 : Int32).toInt = 1) (by omega) (by omega)
            exact sb_X6_fillFrom_137 hn hrec hQ hK61 _ _ _ _ _ _ _ _ _ _ _ _ s_13 (by omega) (by omega) (by omega) (by omega) (by omega) (by omega) (by omega)
set_option maxHeartbeats 4000000 in
set_option maxRecDepth 100000 in
theorem sb_X6_fillFrom_25 {n : Nat} (hn : 1000000000 ≤ n) {e : DD} {el : LL} {Q : DD → LL → Prop} {rec : Int32 → Int32 → Int32 → Int32 → Int32 → DD → LL → (DD → LL → Prop) → Prop} {kk : Nat} (hrec : ∀ (x1 : Int32) (x2 : Int32) (x3 : Int32) (x4 : Int32) (x5 : Int32) (d : DD) (dl : LL) (Q : DD → LL → Prop), Inv d → (0 ≤ x1.toInt ∧ x1.toInt ≤ 8) → 9 ≤ (kk : Int) + x1.toInt → (∀ (d2 : DD) (l2 : LL), St d dl d2 l2 ∧ True → Q d2 l2) → rec x1 x2 x3 x4 x5 d dl Q) (hQ : ∀ (d2 : DD) (l2 : LL), St e el d2 l2 ∧ True → Q d2 l2) : ∀ (x1 : Int32) (x2 : Int32) (x3 : Int32) (x4 : Int32) (x5 : Int32) (d : DD) (dl : LL), St e el d dl → (0 ≤ x1.toInt ∧ x1.toInt ≤ 8) → (8 ≤ (kk : Int) + x1.toInt) → b_X6_fillFrom_25 n rec Q x1 x2 x3 x4 x5 d dl := by
  intro x1 x2 x3 x4 x5 d dl hS bx1 hkk
  show (x1 < (d 10 2) → ∀ v3 : Int32, v3 = (irem x1 2) → b_X6_fillFrom_61 n rec Q n x1 x2 x3 x4 x5 v3 0 d dl) ∧ (¬ x1 < (d 10 2) → F_X6_keepChosen n ((((4 : Int32) * (if 0 ≤ x3 then x3 else -x3)) + (if 0 ≤ x4 then x4 else -x4)) - x5) d dl (fun d22 l23 => Q d22 l23))
  have m_16 := iv_10_2 hS.1
  refine ⟨fun h2 => ?_, fun h2 => ?_⟩
  · have h2 : x1.toInt < (d 10 2).toInt := (i_lt rfl rfl).mp h2
    have t_17 : (irem x1 2).toInt = x1.toInt % 2 := ti_rem rfl (rfl : (2 : Int32).toInt = 2) (by omega) (by omega)
    intro v3 e3
    have t_18 : v3.toInt = (x1.toInt % 2) := (congrArg Int32.toInt e3).trans t_17
    exact sb_X6_fillFrom_61 hn hrec hQ n _ _ _ _ _ _ _ _ _ hS (by omega) (by omega) (show 0 ≤ 0 ∧ 0 ≤ 8 from by omega) (by omega) (show 9 - 0 < (n : Int) from by omega)
  · have h2 : ¬ (x1.toInt < (d 10 2).toInt) := fun q => h2 ((i_lt rfl rfl).mpr q)
    refine sp_X6_keepChosen hn hS.1 (fun d22 l23 ⟨p_19, u_20⟩ => ?_)
    have s_21 : St e el d22 l23 := hS.tr p_19
    exact hQ _ _ ⟨s_21, trivial⟩
set_option maxHeartbeats 4000000 in
set_option maxRecDepth 100000 in
theorem sp_X6_fillFromK {n : Nat} (hn : 1000000000 ≤ n) : ∀ (k : Nat) (x1 x2 x3 x4 x5 : Int32) (d : DD) (dl : LL) (Q : DD → LL → Prop), Inv d → (0 ≤ x1.toInt ∧ x1.toInt ≤ 8) → 9 ≤ (k : Int) + x1.toInt → (∀ (d2 : DD) (l2 : LL), St d dl d2 l2 ∧ True → Q d2 l2) → F_X6_fillFrom n k x1 x2 x3 x4 x5 d dl Q := by
  intro k
  induction k with
  | zero =>
    intro x1 x2 x3 x4 x5 d dl Q hI bx1 hkk
    exfalso
    omega
  | succ kk hrec =>
    intro x1 x2 x3 x4 x5 d dl Q hI bx1 hkk hQ
    obtain ⟨e, he⟩ : ∃ e : DD, e = d := ⟨_, rfl⟩
    obtain ⟨el, hel⟩ : ∃ el : LL, el = dl := ⟨_, rfl⟩
    have hS : St e el d dl := by rw [he, hel]; exact St.rf hI
    rw [← he, ← hel] at hQ
    show ((d 10 1) = 0 → b_X6_fillFrom_25 n (F_X6_fillFrom n kk) Q x1 x2 x3 x4 x5 d dl) ∧ (¬ (d 10 1) = 0 → F_X6_leastFrom n x1 x3 x4 x5 d dl (fun r24 d25 l26 => (r24 < (d25 10 0) → b_X6_fillFrom_25 n (F_X6_fillFrom n kk) Q x1 x2 x3 x4 x5 d25 l26) ∧ (¬ r24 < (d25 10 0) → Q d25 l26)))
    have m_22 := iv_10_1 hS.1
    refine ⟨fun h1 => ?_, fun h1 => ?_⟩
    · have h1 : (d 10 1).toInt = 0 := (i_eq rfl (rfl : (0 : Int32).toInt = 0)).mp h1
      exact sb_X6_fillFrom_25 hn hrec hQ _ _ _ _ _ _ _ hS (by omega) (by omega)
    · have h1 : ¬ ((d 10 1).toInt = 0) := fun q => h1 ((i_eq rfl (rfl : (0 : Int32).toInt = 0)).mpr q)
      refine sp_X6_leastFrom hn hS.1 ⟨by omega, by omega⟩ (fun r24 d25 l26 ⟨p_23, u_24⟩ => ?_)
      have s_25 : St e el d25 l26 := hS.sq p_23
      have w_26 : d25 = d := p_23.2.1
      have q_27 : d25 10 0 = (d 10 0) := by rw [w_26]
      have t_28 : (d25 10 0).toInt = (d 10 0).toInt := (congrArg Int32.toInt q_27).trans rfl
      refine ⟨fun h27 => ?_, fun h27 => ?_⟩
      · have h27 : r24.toInt < (d 10 0).toInt := (i_lt rfl t_28).mp h27
        exact sb_X6_fillFrom_25 hn hrec hQ _ _ _ _ _ _ _ s_25 (by omega) (by omega)
      · have h27 : ¬ (r24.toInt < (d 10 0).toInt) := fun q => h27 ((i_lt rfl t_28).mpr q)
        exact hQ _ _ ⟨s_25, trivial⟩
theorem sp_X6_fillFrom {n : Nat} (hn : 1000000000 ≤ n) {x1 x2 x3 x4 x5 : Int32} {d : DD} {dl : LL} (hI : Inv d) (bx1 : 0 ≤ x1.toInt ∧ x1.toInt ≤ 8) {Q : DD → LL → Prop} (hQ : ∀ (d2 : DD) (l2 : LL), St d dl d2 l2 ∧ True → Q d2 l2) : F_X6_fillFrom n 9 x1 x2 x3 x4 x5 d dl Q := sp_X6_fillFromK hn 9 x1 x2 x3 x4 x5 d dl Q hI bx1 (by omega) hQ
set_option maxHeartbeats 4000000 in
set_option maxRecDepth 100000 in
theorem sp_X6_find {n : Nat} (hn : 1000000000 ≤ n) {k2 : Nat} {d : DD} {dl : LL} (hI : Inv d) (hk2 : k2 < 6) {Q : Int32 → DD → LL → Prop} (hQ : ∀ (r : Int32) (d2 : DD) (l2 : LL), St d dl d2 l2 ∧ (0 ≤ r.toInt ∧ r.toInt ≤ 1) → Q r d2 l2) : F_X6_find n k2 d dl Q := by
  obtain ⟨e, he⟩ : ∃ e : DD, e = d := ⟨_, rfl⟩
  obtain ⟨el, hel⟩ : ∃ el : LL, el = dl := ⟨_, rfl⟩
  have hS : St e el d dl := by rw [he, hel]; exact St.rf hI
  rw [← he, ← hel] at hQ
  show ∀ d1 : DD, d1 = u2 d 10 1 0 → ∀ d2 : DD, d2 = u2 d1 10 0 0 → F_X1_seatCount n k2 d2 dl (fun r3 d4 l5 => ∀ d6 : DD, d6 = u2 d4 10 2 (if (8 : Int32) < r3 then 8 else r3) → ∀ d7 : DD, d7 = u2 d6 10 3 (if (8 : Int32) < (d6 (37 + 3 * k2) 3) then 8 else (d6 (37 + 3 * k2) 3)) → ((d7 10 2) ≤ (d7 10 3) → F_X6_loadMembers n k2 d7 l5 (fun d10 l11 => F_X6_loadBounds n k2 d10 l11 (fun d13 l14 => F_X1_drummerPitch n k2 d13 l14 (fun r15 d16 l17 => F_X6_fillFrom n 9 0 0 0 r15 0 d16 l17 (fun d19 l20 => narrow .boolean (.int (d19 10 1)) = .int (d19 10 1) ∧ Q (d19 10 1) d19 l20))))) ∧ (¬ (d7 10 2) ≤ (d7 10 3) → Q 0 d7 l5))
  intro d1 ed1
  have s_1 : St e el d1 dl := by rw [ed1]; exact pv_10_1 hS (by decide) (by decide)
  intro d2 ed2
  have s_2 : St e el d2 dl := by rw [ed2]; exact pv_10_0 s_1
  refine sp_X1_seatCount hn s_2.1 hk2 (fun r3 d4 l5 ⟨p_3, u_4⟩ => ?_)
  have s_5 : St e el d4 l5 := s_2.sq p_3
  have w_6 : d4 = d2 := p_3.2.1
  replace u_4 : (4 ≤ r3.toInt ∧ r3.toInt ≤ 8) := u_4
  have t_7 : (if (8 : Int32) < r3 then 8 else r3).toInt = min r3.toInt 8 := ti_min rfl (rfl : (8 : Int32).toInt = 8)
  intro d6 ed6
  have s_8 : St e el d6 l5 := by rw [ed6]; exact pv_10_2 s_5 (by rw [t_7]; omega) (by rw [t_7]; omega)
  have q_9 : d6 (37 + 3 * k2) 3 = (d (37 + 3 * k2) 3) := by rw [ed6, u2_row (by omega)]; rw [w_6]; rw [ed2, u2_row (by omega)]; rw [ed1, u2_row (by omega)]
  have m_10 := iv_37_3 hS.1 hk2
  have t_11 : (d6 (37 + 3 * k2) 3).toInt = (d (37 + 3 * k2) 3).toInt := (congrArg Int32.toInt q_9).trans rfl
  have t_12 : (if (8 : Int32) < (d6 (37 + 3 * k2) 3) then 8 else (d6 (37 + 3 * k2) 3)).toInt = min (d (37 + 3 * k2) 3).toInt 8 := ti_min t_11 (rfl : (8 : Int32).toInt = 8)
  intro d7 ed7
  have s_13 : St e el d7 l5 := by rw [ed7]; exact pv_10_3 s_8 (by rw [t_12]; omega) (by rw [t_12]; omega)
  have q_14 : d7 10 3 = (if (8 : Int32) < (d6 (37 + 3 * k2) 3) then 8 else (d6 (37 + 3 * k2) 3)) := by rw [ed7, u2_eq]
  have t_15 : (d7 10 3).toInt = (min (d (37 + 3 * k2) 3).toInt 8) := (congrArg Int32.toInt q_14).trans t_12
  have q_16 : d7 10 2 = (if (8 : Int32) < r3 then 8 else r3) := by rw [ed7, u2_ne (Or.inr (by omega))]; rw [ed6, u2_eq]
  have t_17 : (d7 10 2).toInt = (min r3.toInt 8) := (congrArg Int32.toInt q_16).trans t_7
  refine ⟨fun h8 => ?_, fun h8 => ?_⟩
  · have h8 : (min r3.toInt 8) ≤ (min (d (37 + 3 * k2) 3).toInt 8) := (i_le t_17 t_15).mp h8
    refine sp_X6_loadMembers hn s_13.1 hk2 (fun d10 l11 ⟨p_18, u_19⟩ => ?_)
    have s_20 : St e el d10 l11 := s_13.tr p_18
    refine sp_X6_loadBounds hn s_20.1 hk2 (fun d13 l14 ⟨p_21, u_22⟩ => ?_)
    have s_23 : St e el d13 l14 := s_20.tr p_21
    refine sp_X1_drummerPitch hn s_23.1 hk2 (fun r15 d16 l17 ⟨p_24, u_25⟩ => ?_)
    have s_26 : St e el d16 l17 := s_23.sq p_24
    have w_27 : d16 = d13 := p_24.2.1
    refine sp_X6_fillFrom hn s_26.1 ⟨by decide, by decide⟩ (fun d19 l20 ⟨p_28, u_29⟩ => ?_)
    have s_30 : St e el d19 l20 := s_26.tr p_28
    have m_31 := iv_10_1 s_30.1
    refine ⟨bo_nar (bo_of ⟨by omega, by omega⟩), ?_⟩
    exact hQ _ _ _ ⟨s_30, by omega⟩
  · have h8 : ¬ ((min r3.toInt 8) ≤ (min (d (37 + 3 * k2) 3).toInt 8)) := fun q => h8 ((i_le t_17 t_15).mpr q)
    exact hQ _ _ _ ⟨s_13, (show (0 ≤ 0 ∧ 0 ≤ 1) from by omega)⟩
set_option maxHeartbeats 4000000 in
set_option maxRecDepth 100000 in
theorem sp_X7_hasSign {n : Nat} (hn : 1000000000 ≤ n) {w0 : Nat} {x1 : Int32} {x2 : Int32} {d : DD} {dl : LL} (hI : Inv d) (hw0 : w0 < 19) (bx1 : 0 ≤ x1.toInt ∧ x1.toInt ≤ 5) {Q : Int32 → DD → LL → Prop} (hQ : ∀ (r : Int32) (d2 : DD) (l2 : LL), Sq d dl d2 l2 ∧ (0 ≤ r.toInt ∧ r.toInt ≤ 1 ∧ (r.toInt = 0 ∨ 32 ≤ x2.toInt)) → Q r d2 l2) : F_X7_hasSign n w0 x1 x2 d dl Q := by
  obtain ⟨e, he⟩ : ∃ e : DD, e = d := ⟨_, rfl⟩
  obtain ⟨el, hel⟩ : ∃ el : LL, el = dl := ⟨_, rfl⟩
  have hS : Sq e el d dl := by rw [he, hel]; exact Sq.rf hI
  rw [← he, ← hel] at hQ
  show F_J0_length_8abf5 n w0 d dl (fun r1 d2 l3 => (r1 ≤ x1 → Q 0 d2 l3) ∧ (¬ r1 ≤ x1 → F_J0_charAt_5068e n w0 x1 d2 l3 (fun r5 d6 l7 => (¬ r5 = x2 → Q 0 d6 l7) ∧ (r5 = x2 → Q 1 d6 l7))))
  refine sp_J0_length_8abf5 hn hS.1 hw0 (fun r1 d2 l3 ⟨p_1, u_2⟩ => ?_)
  have s_3 : Sq e el d2 l3 := hS.tr p_1
  have w_4 : d2 = d := p_1.2.1
  replace u_2 : (1 ≤ r1.toInt ∧ r1.toInt ≤ 6 ∧ r1.toInt = ((sbs w0).length : Int)) := u_2
  refine ⟨fun h4 => ?_, fun h4 => ?_⟩
  · have h4 : r1.toInt ≤ x1.toInt := (i_le rfl rfl).mp h4
    exact hQ _ _ _ ⟨s_3, (show (0 ≤ 0 ∧ 0 ≤ 1 ∧ (0 = 0 ∨ 32 ≤ x2.toInt)) from by omega)⟩
  · have h4 : ¬ (r1.toInt ≤ x1.toInt) := fun q => h4 ((i_le rfl rfl).mpr q)
    refine sp_J0_charAt_5068e hn s_3.1 hw0 ⟨by omega, by omega⟩ (fun r5 d6 l7 ⟨p_5, u_6⟩ => ?_)
    have s_7 : Sq e el d6 l7 := s_3.tr p_5
    have w_8 : d6 = d2 := p_5.2.1
    replace u_6 : (32 ≤ r5.toInt ∧ r5.toInt ≤ 122 ∧ r5 = (sbs w0).getD x1.toNatClampNeg 0) := u_6
    refine ⟨fun h8 => ?_, fun h8 => ?_⟩
    · have h8 : ¬ (r5.toInt = x2.toInt) := fun q => h8 ((i_eq rfl rfl).mpr q)
      exact hQ _ _ _ ⟨s_7, (show (0 ≤ 0 ∧ 0 ≤ 1 ∧ (0 = 0 ∨ 32 ≤ x2.toInt)) from by omega)⟩
    · have h8 : r5.toInt = x2.toInt := (i_eq rfl rfl).mp h8
      exact hQ _ _ _ ⟨s_7, (show (0 ≤ 1 ∧ 1 ≤ 1 ∧ (1 = 0 ∨ 32 ≤ x2.toInt)) from by omega)⟩
set_option maxHeartbeats 4000000 in
set_option maxRecDepth 100000 in
theorem sb_X7_readWord_88 {n : Nat} (hn : 1000000000 ≤ n) {e : DD} {el : LL} {X1 : Int32} {X2 : Int32} {Q : Int32 → DD → LL → Prop} (hQ : ∀ (r : Int32) (d2 : DD) (l2 : LL), St e el d2 l2 ∧ ((-1) ≤ r.toInt ∧ r.toInt ≤ 8 ∧ (r.toInt = -1 ∨ (X1.toInt ≤ r.toInt ∧ r.toInt ≤ X2.toInt))) → Q r d2 l2) {K5 : Int32 → Int32 → Int32 → Int32 → DD → LL → Prop} {j5 : Nat} (hK5 : ∀ (x1 : Int32) (x2 : Int32) (x3 : Int32) (x4 : Int32) (d : DD) (dl : LL), St e el d dl → (0 ≤ x1.toInt ∧ x1.toInt ≤ 8) → (0 ≤ x2.toInt ∧ x2.toInt ≤ 8) → (0 ≤ x4.toInt ∧ x4.toInt ≤ 6) → (x1.toInt = X1.toInt) → (x2.toInt = X2.toInt) → 7 - x4.toInt < (j5 : Int) → K5 x1 x2 x3 x4 d dl) : ∀ (j88 : Nat) (x1 : Int32) (x2 : Int32) (x3 : Int32) (x4 : Int32) (x6 : Int32) (d : DD) (dl : LL), St e el d dl → (0 ≤ x1.toInt ∧ x1.toInt ≤ 8) → (0 ≤ x2.toInt ∧ x2.toInt ≤ 8) → (0 ≤ x4.toInt ∧ x4.toInt ≤ 5) → (0 ≤ x6.toInt ∧ x6.toInt ≤ 9) → (x1.toInt ≤ x6.toInt) → (x1.toInt = X1.toInt) → (x2.toInt = X2.toInt) → 7 - x4.toInt ≤ (j5 : Int) → 10 - x6.toInt < (j88 : Int) → b_X7_readWord_88 n Q K5 j88 x1 x2 x3 x4 x6 d dl := by
  intro j88
  induction j88 with
  | zero =>
    intro x1 x2 x3 x4 x6 d dl hS bx1 bx2 bx4 bx6 bi0 bfx1 bfx2 hm5 hm88
    exfalso
    omega
  | succ j88 hK88 =>
    intro x1 x2 x3 x4 x6 d dl hS bx1 bx2 bx4 bx6 bi0 bfx1 bfx2 hm5 hm88
    show (x2 < x6 → K5 x1 x2 x3 (x4 + 1) d dl) ∧ (¬ x2 < x6 → (((ushr x3 x6) &&& 1) = 0 → (b_X7_readWord_88 n Q K5 j88) x1 x2 x3 x4 (x6 + 1) d dl) ∧ (¬ ((ushr x3 x6) &&& 1) = 0 → F_X7_wordOf n x6 d dl (fun r7 d8 l9 => r7 < 19 ∧ F_J0_length_8abf5 n r7 d8 l9 (fun r10 d11 l12 => (¬ r10 = (x4 + 1) → (b_X7_readWord_88 n Q K5 j88) x1 x2 x3 x4 (x6 + 1) d11 l12) ∧ (r10 = (x4 + 1) → Q x6 d11 l12)))))
    refine ⟨fun h5 => ?_, fun h5 => ?_⟩
    · have h5 : x2.toInt < x6.toInt := (i_lt rfl rfl).mp h5
      have t_1 : (x4 + 1).toInt = x4.toInt + 1 := ti_add rfl (rfl : (1 : Int32).toInt = 1) (by omega) (by omega)
      exact hK5 _ _ _ _ _ _ hS (by omega) (by omega) (by omega) (by omega) (by omega) (by omega)
    · have h5 : ¬ (x2.toInt < x6.toInt) := fun q => h5 ((i_lt rfl rfl).mpr q)
      refine ⟨fun h6 => ?_, fun h6 => ?_⟩
      · have h6 : ((ushr x3 x6) &&& 1).toInt = 0 := (i_eq rfl (rfl : (0 : Int32).toInt = 0)).mp h6
        have t_2 : (x6 + 1).toInt = x6.toInt + 1 := ti_add rfl (rfl : (1 : Int32).toInt = 1) (by omega) (by omega)
        exact hK88 _ _ _ _ _ _ _ hS (by omega) (by omega) (by omega) (by omega) (by omega) (by omega) (by omega) (by omega) (by omega)
      · have h6 : ¬ (((ushr x3 x6) &&& 1).toInt = 0) := fun q => h6 ((i_eq rfl (rfl : (0 : Int32).toInt = 0)).mpr q)
        refine sp_X7_wordOf hn hS.1 ⟨by omega, by omega⟩ (fun r7 d8 l9 ⟨p_3, u_4⟩ => ?_)
        have s_5 : St e el d8 l9 := hS.sq p_3
        have w_6 : d8 = d := p_3.2.1
        have hr7 : r7 < 19 := u_4
        refine ⟨hr7, ?_⟩
        refine sp_J0_length_8abf5 hn s_5.1 hr7 (fun r10 d11 l12 ⟨p_7, u_8⟩ => ?_)
        have s_9 : St e el d11 l12 := s_5.sq p_7
        have w_10 : d11 = d8 := p_7.2.1
        replace u_8 : (1 ≤ r10.toInt ∧ r10.toInt ≤ 6 ∧ r10.toInt = ((sbs r7).length : Int)) := u_8
        have t_11 : (x4 + 1).toInt = x4.toInt + 1 := ti_add rfl (rfl : (1 : Int32).toInt = 1) (by omega) (by omega)
        refine ⟨fun h13 => ?_, fun h13 => ?_⟩
        · have h13 : ¬ (r10.toInt = (x4.toInt + 1)) := fun q => h13 ((i_eq rfl t_11).mpr q)
          have t_12 : (x6 + 1).toInt = x6.toInt + 1 := ti_add rfl (rfl : (1 : Int32).toInt = 1) (by omega) (by omega)
          exact hK88 _ _ _ _ _ _ _ s_9 (by omega) (by omega) (by omega) (by omega) (by omega) (by omega) (by omega) (by omega) (by omega)
        · have h13 : r10.toInt = (x4.toInt + 1) := (i_eq rfl t_11).mp h13
          exact hQ _ _ _ ⟨s_9, by omega⟩
set_option maxHeartbeats 4000000 in
set_option maxRecDepth 100000 in
theorem sb_X7_readWord_18 {n : Nat} (hn : 1000000000 ≤ n) {e : DD} {el : LL} {X1 : Int32} {X2 : Int32} {Q : Int32 → DD → LL → Prop} (hQ : ∀ (r : Int32) (d2 : DD) (l2 : LL), St e el d2 l2 ∧ ((-1) ≤ r.toInt ∧ r.toInt ≤ 8 ∧ (r.toInt = -1 ∨ (X1.toInt ≤ r.toInt ∧ r.toInt ≤ X2.toInt))) → Q r d2 l2) {K5 : Int32 → Int32 → Int32 → Int32 → DD → LL → Prop} {j5 : Nat} (hK5 : ∀ (x1 : Int32) (x2 : Int32) (x3 : Int32) (x4 : Int32) (d : DD) (dl : LL), St e el d dl → (0 ≤ x1.toInt ∧ x1.toInt ≤ 8) → (0 ≤ x2.toInt ∧ x2.toInt ≤ 8) → (0 ≤ x4.toInt ∧ x4.toInt ≤ 6) → (x1.toInt = X1.toInt) → (x2.toInt = X2.toInt) → 7 - x4.toInt < (j5 : Int) → K5 x1 x2 x3 x4 d dl) : ∀ (j18 : Nat) (x1 : Int32) (x2 : Int32) (x3 : Int32) (x4 : Int32) (x5 : Int32) (x6 : Int32) (d : DD) (dl : LL), St e el d dl → (0 ≤ x1.toInt ∧ x1.toInt ≤ 8) → (0 ≤ x2.toInt ∧ x2.toInt ≤ 8) → (0 ≤ x4.toInt ∧ x4.toInt ≤ 5) → (0 ≤ x6.toInt ∧ x6.toInt ≤ 9) → (x5.toInt = 0 ∨ (d 24 1).toInt < (d 24 0).toInt) → (x1.toInt ≤ x6.toInt) → (x1.toInt = X1.toInt) → (x2.toInt = X2.toInt) → 7 - x4.toInt ≤ (j5 : Int) → 10 - x6.toInt < (j18 : Int) → b_X7_readWord_18 n Q K5 j18 x1 x2 x3 x4 x5 x6 d dl := by
  intro j18
  induction j18 with
  | zero =>
    intro x1 x2 x3 x4 x5 x6 d dl hS bx1 bx2 bx4 bx6 bi0 bi1 bfx1 bfx2 hm5 hm18
    exfalso
    omega
  | succ j18 hK18 =>
    intro x1 x2 x3 x4 x5 x6 d dl hS bx1 bx2 bx4 bx6 bi0 bi1 bfx1 bfx2 hm5 hm18
    show (x2 < x6 → (¬ x5 = 0 → ∀ d4 : DD, d4 = u2 d 24 1 ((d 24 1) + 1) → b_X7_readWord_88 n Q K5 n x1 x2 x5 x4 x1 d4 dl) ∧ (x5 = 0 → Q (-1) d dl)) ∧ (¬ x2 < x6 → (((ushr x3 x6) &&& 1) = 0 → (b_X7_readWord_18 n Q K5 j18) x1 x2 x3 x4 x5 (x6 + 1) d dl) ∧ (¬ ((ushr x3 x6) &&& 1) = 0 → F_X7_wordOf n x6 d dl (fun r15 d16 l17 => r15 < 19 ∧ F_X7_peek n d16 l17 (fun r18 d19 l20 => F_X7_hasSign n r15 x4 r18 d19 l20 (fun r21 d22 l23 => (r21 = 0 → (b_X7_readWord_18 n Q K5 j18) x1 x2 x3 x4 x5 (x6 + 1) d22 l23) ∧ (¬ r21 = 0 → ∀ v25 : Int32, v25 = (x5 ||| ((1 : Int32) <<< (x6 &&& 31))) → (b_X7_readWord_18 n Q K5 j18) x1 x2 x3 x4 v25 (x6 + 1) d22 l23))))))
    have m9 := iv_24_0 hS.1
    refine ⟨fun h2 => ?_, fun h2 => ?_⟩
    · have h2 : x2.toInt < x6.toInt := (i_lt rfl rfl).mp h2
      refine ⟨fun h3 => ?_, fun h3 => ?_⟩
      · have h3 : ¬ (x5.toInt = 0) := fun q => h3 ((i_eq rfl (rfl : (0 : Int32).toInt = 0)).mpr q)
        have m_13 := iv_24_1 hS.1
        have t_14 : ((d 24 1) + 1).toInt = (d 24 1).toInt + 1 := ti_add rfl (rfl : (1 : Int32).toInt = 1) (by omega) (by omega)
        intro d4 ed4
        have s_15 : St e el d4 dl := by rw [ed4]; exact pv_24_1 hS (by rw [t_14]; omega) (by rw [t_14]; omega)
        exact sb_X7_readWord_88 hn hQ hK5 n _ _ _ _ _ _ _ s_15 (by omega) (by omega) (by omega) (by omega) (by omega) (by omega) (by omega) (by omega) (by omega)
      · have h3 : x5.toInt = 0 := (i_eq rfl (rfl : (0 : Int32).toInt = 0)).mp h3
        exact hQ _ _ _ ⟨hS, (show ((-1) ≤ (-1) ∧ (-1) ≤ 8 ∧ ((-1) = -1 ∨ (X1.toInt ≤ (-1) ∧ (-1) ≤ X2.toInt))) from by omega)⟩
    · have h2 : ¬ (x2.toInt < x6.toInt) := fun q => h2 ((i_lt rfl rfl).mpr q)
      refine ⟨fun h14 => ?_, fun h14 => ?_⟩
      · have h14 : ((ushr x3 x6) &&& 1).toInt = 0 := (i_eq rfl (rfl : (0 : Int32).toInt = 0)).mp h14
        have t_16 : (x6 + 1).toInt = x6.toInt + 1 := ti_add rfl (rfl : (1 : Int32).toInt = 1) (by omega) (by omega)
        have m_17 := iv_24_1 hS.1
        have m_18 := iv_24_0 hS.1
        exact hK18 _ _ _ _ _ _ _ _ hS (by omega) (by omega) (by omega) (by omega) (by omega) (by omega) (by omega) (by omega) (by omega) (by omega)
      · have h14 : ¬ (((ushr x3 x6) &&& 1).toInt = 0) := fun q => h14 ((i_eq rfl (rfl : (0 : Int32).toInt = 0)).mpr q)
        refine sp_X7_wordOf hn hS.1 ⟨by omega, by omega⟩ (fun r15 d16 l17 ⟨p_19, u_20⟩ => ?_)
        have s_21 : St e el d16 l17 := hS.sq p_19
        have w_22 : d16 = d := p_19.2.1
        have hr15 : r15 < 19 := u_20
        refine ⟨hr15, ?_⟩
        refine sp_X7_peek hn s_21.1 (fun r18 d19 l20 ⟨p_23, u_24⟩ => ?_)
        have s_25 : St e el d19 l20 := s_21.sq p_23
        have w_26 : d19 = d16 := p_23.2.1
        replace u_24 : ((r18.toInt = -1 ∨ (d16 24 1).toInt < (d16 24 0).toInt)) := u_24
        have q_27 : d16 24 1 = (d 24 1) := by rw [w_22]
        have m_28 := iv_24_1 hS.1
        have t_29 : (d16 24 1).toInt = (d 24 1).toInt := (congrArg Int32.toInt q_27).trans rfl
        have q_30 : d16 24 0 = (d 24 0) := by rw [w_22]
        have m_31 := iv_24_0 hS.1
        have t_32 : (d16 24 0).toInt = (d 24 0).toInt := (congrArg Int32.toInt q_30).trans rfl
        refine sp_X7_hasSign hn s_25.1 hr15 ⟨by omega, by omega⟩ (fun r21 d22 l23 ⟨p_33, u_34⟩ => ?_)
        have s_35 : St e el d22 l23 := s_25.sq p_33
        have w_36 : d22 = d19 := p_33.2.1
        replace u_34 : (0 ≤ r21.toInt ∧ r21.toInt ≤ 1 ∧ (r21.toInt = 0 ∨ 32 ≤ r18.toInt)) := u_34
        refine ⟨fun h24 => ?_, fun h24 => ?_⟩
        · have h24 : r21.toInt = 0 := (i_eq rfl (rfl : (0 : Int32).toInt = 0)).mp h24
          have t_37 : (x6 + 1).toInt = x6.toInt + 1 := ti_add rfl (rfl : (1 : Int32).toInt = 1) (by omega) (by omega)
          have q_38 : d22 24 1 = (d 24 1) := by rw [w_36]; rw [w_26]; rw [w_22]
          have t_39 : (d22 24 1).toInt = (d 24 1).toInt := (congrArg Int32.toInt q_38).trans rfl
          have q_40 : d22 24 0 = (d 24 0) := by rw [w_36]; rw [w_26]; rw [w_22]
          have t_41 : (d22 24 0).toInt = (d 24 0).toInt := (congrArg Int32.toInt q_40).trans rfl
          exact hK18 _ _ _ _ _ _ _ _ s_35 (by omega) (by omega) (by omega) (by omega) (by omega) (by omega) (by omega) (by omega) (by omega) (by omega)
        · have h24 : ¬ (r21.toInt = 0) := fun q => h24 ((i_eq rfl (rfl : (0 : Int32).toInt = 0)).mpr q)
          intro v25 e25
          have t_42 : v25.toInt = (x5 ||| ((1 : Int32) <<< (x6 &&& 31))).toInt := (congrArg Int32.toInt e25).trans rfl
          have t_43 : (x6 + 1).toInt = x6.toInt + 1 := ti_add rfl (rfl : (1 : Int32).toInt = 1) (by omega) (by omega)
          have q_44 : d22 24 1 = (d 24 1) := by rw [w_36]; rw [w_26]; rw [w_22]
          have t_45 : (d22 24 1).toInt = (d 24 1).toInt := (congrArg Int32.toInt q_44).trans rfl
          have q_46 : d22 24 0 = (d 24 0) := by rw [w_36]; rw [w_26]; rw [w_22]
          have t_47 : (d22 24 0).toInt = (d 24 0).toInt := (congrArg Int32.toInt q_46).trans rfl
          exact hK18 _ _ _ _ _ _ _ _ s_35 (by omega) (by omega) (by omega) (by omega) (by omega) (by omega) (by omega) (by omega) (by omega) (by omega)
set_option maxHeartbeats 4000000 in
set_option maxRecDepth 100000 in
theorem sb_X7_readWord_5 {n : Nat} (hn : 1000000000 ≤ n) {e : DD} {el : LL} {X1 : Int32} {X2 : Int32} {Q : Int32 → DD → LL → Prop} (hQ : ∀ (r : Int32) (d2 : DD) (l2 : LL), St e el d2 l2 ∧ ((-1) ≤ r.toInt ∧ r.toInt ≤ 8 ∧ (r.toInt = -1 ∨ (X1.toInt ≤ r.toInt ∧ r.toInt ≤ X2.toInt))) → Q r d2 l2) : ∀ (j5 : Nat) (x1 : Int32) (x2 : Int32) (x3 : Int32) (x4 : Int32) (d : DD) (dl : LL), St e el d dl → (0 ≤ x1.toInt ∧ x1.toInt ≤ 8) → (0 ≤ x2.toInt ∧ x2.toInt ≤ 8) → (0 ≤ x4.toInt ∧ x4.toInt ≤ 6) → (x1.toInt = X1.toInt) → (x2.toInt = X2.toInt) → 7 - x4.toInt < (j5 : Int) → b_X7_readWord_5 n Q j5 x1 x2 x3 x4 d dl := by
  intro j5
  induction j5 with
  | zero =>
    intro x1 x2 x3 x4 d dl hS bx1 bx2 bx4 bfx1 bfx2 hm5
    exfalso
    omega
  | succ j5 hK5 =>
    intro x1 x2 x3 x4 d dl hS bx1 bx2 bx4 bfx1 bfx2 hm5
    show (6 ≤ x4 → Q (-1) d dl) ∧ (¬ 6 ≤ x4 → b_X7_readWord_18 n Q (b_X7_readWord_5 n Q j5) n x1 x2 x3 x4 0 x1 d dl)
    refine ⟨fun h1 => ?_, fun h1 => ?_⟩
    · have h1 : 6 ≤ x4.toInt := (i_le (rfl : (6 : Int32).toInt = 6) rfl).mp h1
      exact hQ _ _ _ ⟨hS, (show ((-1) ≤ (-1) ∧ (-1) ≤ 8 ∧ ((-1) = -1 ∨ (X1.toInt ≤ (-1) ∧ (-1) ≤ X2.toInt))) from by omega)⟩
    · have h1 : ¬ (6 ≤ x4.toInt) := fun q => h1 ((i_le (rfl : (6 : Int32).toInt = 6) rfl).mpr q)
      have m_48 := iv_24_1 hS.1
      have m_49 := iv_24_0 hS.1
      exact sb_X7_readWord_18 hn hQ hK5 n _ _ _ _ _ _ _ _ hS (by omega) (by omega) (by omega) (by omega) (show 0 = 0 ∨ (d 24 1).toInt < (d 24 0).toInt from by omega) (by omega) (by omega) (by omega) (by omega) (by omega)
set_option maxHeartbeats 4000000 in
set_option maxRecDepth 100000 in
theorem sp_X7_readWord {n : Nat} (hn : 1000000000 ≤ n) {x1 : Int32} {x2 : Int32} {d : DD} {dl : LL} (hI : Inv d) (bx1 : 0 ≤ x1.toInt ∧ x1.toInt ≤ 8) (bx2 : 0 ≤ x2.toInt ∧ x2.toInt ≤ 8) {Q : Int32 → DD → LL → Prop} (hQ : ∀ (r : Int32) (d2 : DD) (l2 : LL), St d dl d2 l2 ∧ ((-1) ≤ r.toInt ∧ r.toInt ≤ 8 ∧ (r.toInt = -1 ∨ (x1.toInt ≤ r.toInt ∧ r.toInt ≤ x2.toInt))) → Q r d2 l2) : F_X7_readWord n x1 x2 d dl Q := by
  obtain ⟨e, he⟩ : ∃ e : DD, e = d := ⟨_, rfl⟩
  obtain ⟨el, hel⟩ : ∃ el : LL, el = dl := ⟨_, rfl⟩
  have hS : St e el d dl := by rw [he, hel]; exact St.rf hI
  rw [← he, ← hel] at hQ
  show b_X7_readWord_5 n Q n x1 x2 (-1) 0 d dl
  exact sb_X7_readWord_5 hn hQ n _ _ _ _ _ _ hS (by omega) (by omega) (show 0 ≤ 0 ∧ 0 ≤ 6 from by omega) (by omega) (by omega) (show 7 - 0 < (n : Int) from by omega)
set_option maxHeartbeats 4000000 in
set_option maxRecDepth 100000 in
theorem sb_X2_chosenAheadOf_72 {n : Nat} (hn : 1000000000 ≤ n) {e : DD} {el : LL} {Q : Int32 → DD → LL → Prop} (hQ : ∀ (r : Int32) (d2 : DD) (l2 : LL), Sq e el d2 l2 ∧ (0 ≤ r.toInt ∧ r.toInt ≤ 5) → Q r d2 l2) {K4 : Int32 → Int32 → Int32 → DD → LL → Prop} {j4 : Nat} (hK4 : ∀ (x1 : Int32) (x2 : Int32) (x3 : Int32) (d : DD) (dl : LL), Sq e el d dl → (0 ≤ x1.toInt ∧ x1.toInt ≤ 5) → (0 ≤ x2.toInt ∧ x2.toInt ≤ 6) → (0 ≤ x3.toInt ∧ x3.toInt ≤ 6) → (x2.toInt ≤ x3.toInt ∧ (x3.toInt ≤ x1.toInt ∨ x2.toInt + 1 ≤ x3.toInt)) → 7 - x3.toInt < (j4 : Int) → K4 x1 x2 x3 d dl) : ∀ (x1 : Int32) (x3 : Int32) (xs0 : Int32) (xs1 : Int32) (d : DD) (dl : LL), Sq e el d dl → (0 ≤ x1.toInt ∧ x1.toInt ≤ 5) → (0 ≤ x3.toInt ∧ x3.toInt ≤ 5) → (0 ≤ xs0.toInt ∧ xs0.toInt ≤ 1) → (0 ≤ xs1.toInt ∧ xs1.toInt ≤ 6) → (xs1.toInt ≤ x3.toInt ∧ (x3.toInt ≤ x1.toInt ∨ xs1.toInt + 1 ≤ x3.toInt)) → (xs0.toInt = 0 ∨ ¬ x3.toInt = x1.toInt) → 7 - x3.toInt ≤ (j4 : Int) → b_X2_chosenAheadOf_72 n Q K4 x1 x3 xs0 xs1 d dl := by
  intro x1 x3 xs0 xs1 d dl hS bx1 bx3 bxs0 bxs1 bi0 bi1 hm4
  show ∀ v7 : Int32, v7 = (xs1 + xs0) → K4 x1 v7 (x3 + 1) d dl
  have t_1 : (xs1 + xs0).toInt = xs1.toInt + xs0.toInt := ti_add rfl rfl (by omega) (by omega)
  intro v7 e7
  have t_2 : v7.toInt = (xs1.toInt + xs0.toInt) := (congrArg Int32.toInt e7).trans t_1
  have t_3 : (x3 + 1).toInt = x3.toInt + 1 := ti_add rfl (rfl : (1 : Int32).toInt = 1) (by omega) (by omega)
  exact hK4 _ _ _ _ _ hS (by omega) (by omega) (by omega) (by omega) (by omega)
set_option maxHeartbeats 4000000 in
set_option maxRecDepth 100000 in
theorem sb_X2_chosenAheadOf_71 {n : Nat} (hn : 1000000000 ≤ n) {e : DD} {el : LL} {Q : Int32 → DD → LL → Prop} (hQ : ∀ (r : Int32) (d2 : DD) (l2 : LL), Sq e el d2 l2 ∧ (0 ≤ r.toInt ∧ r.toInt ≤ 5) → Q r d2 l2) {K4 : Int32 → Int32 → Int32 → DD → LL → Prop} {j4 : Nat} (hK4 : ∀ (x1 : Int32) (x2 : Int32) (x3 : Int32) (d : DD) (dl : LL), Sq e el d dl → (0 ≤ x1.toInt ∧ x1.toInt ≤ 5) → (0 ≤ x2.toInt ∧ x2.toInt ≤ 6) → (0 ≤ x3.toInt ∧ x3.toInt ≤ 6) → (x2.toInt ≤ x3.toInt ∧ (x3.toInt ≤ x1.toInt ∨ x2.toInt + 1 ≤ x3.toInt)) → 7 - x3.toInt < (j4 : Int) → K4 x1 x2 x3 d dl) : ∀ (x1 : Int32) (x3 : Int32) (xs0 : Int32) (d : DD) (dl : LL), Sq e el d dl → (0 ≤ x1.toInt ∧ x1.toInt ≤ 5) → (0 ≤ x3.toInt ∧ x3.toInt ≤ 5) → (0 ≤ xs0.toInt ∧ xs0.toInt ≤ 6) → (xs0.toInt ≤ x3.toInt ∧ (x3.toInt ≤ x1.toInt ∨ xs0.toInt + 1 ≤ x3.toInt)) → 7 - x3.toInt ≤ (j4 : Int) → b_X2_chosenAheadOf_71 n Q K4 x1 x3 xs0 d dl := by
  intro x1 x3 xs0 d dl hS bx1 bx3 bxs0 bi0 hm4
  show b_X2_chosenAheadOf_72 n Q K4 x1 x3 0 xs0 d dl
  exact sb_X2_chosenAheadOf_72 hn hQ hK4 _ _ _ _ _ _ hS (by omega) (by omega) (show 0 ≤ 0 ∧ 0 ≤ 1 from by omega) (by omega) (by omega) (show 0 = 0 ∨ ¬ x3.toInt = x1.toInt from by omega) (by omega)
set_option maxHeartbeats 4000000 in
set_option maxRecDepth 100000 in
theorem sb_X2_chosenAheadOf_50 {n : Nat} (hn : 1000000000 ≤ n) {e : DD} {el : LL} {Q : Int32 → DD → LL → Prop} (hQ : ∀ (r : Int32) (d2 : DD) (l2 : LL), Sq e el d2 l2 ∧ (0 ≤ r.toInt ∧ r.toInt ≤ 5) → Q r d2 l2) {K4 : Int32 → Int32 → Int32 → DD → LL → Prop} {j4 : Nat} (hK4 : ∀ (x1 : Int32) (x2 : Int32) (x3 : Int32) (d : DD) (dl : LL), Sq e el d dl → (0 ≤ x1.toInt ∧ x1.toInt ≤ 5) → (0 ≤ x2.toInt ∧ x2.toInt ≤ 6) → (0 ≤ x3.toInt ∧ x3.toInt ≤ 6) → (x2.toInt ≤ x3.toInt ∧ (x3.toInt ≤ x1.toInt ∨ x2.toInt + 1 ≤ x3.toInt)) → 7 - x3.toInt < (j4 : Int) → K4 x1 x2 x3 d dl) : ∀ (x1 : Int32) (x2 : Int32) (x3 : Int32) (xs0 : Int32) (d : DD) (dl : LL), Sq e el d dl → (0 ≤ x1.toInt ∧ x1.toInt ≤ 5) → (0 ≤ x2.toInt ∧ x2.toInt ≤ 6) → (0 ≤ x3.toInt ∧ x3.toInt ≤ 5) → (0 ≤ xs0.toInt ∧ xs0.toInt ≤ 1) → (x2.toInt ≤ x3.toInt ∧ (x3.toInt ≤ x1.toInt ∨ x2.toInt + 1 ≤ x3.toInt)) → (xs0.toInt = 0 ∨ ¬ x3.toInt = x1.toInt) → 7 - x3.toInt ≤ (j4 : Int) → b_X2_chosenAheadOf_50 n Q K4 x1 x2 x3 xs0 d dl := by
  intro x1 x2 x3 xs0 d dl hS bx1 bx2 bx3 bxs0 bi0 bi1 hm4
  show vp_in x3 6 ∧ ((d 36 x3.toNatClampNeg) = 0 → b_X2_chosenAheadOf_71 n Q K4 x1 x3 x2 d dl) ∧ (¬ (d 36 x3.toNatClampNeg) = 0 → (xs0 = 0 → b_X2_chosenAheadOf_71 n Q K4 x1 x3 x2 d dl) ∧ (¬ xs0 = 0 → b_X2_chosenAheadOf_72 n Q K4 x1 x3 1 x2 d dl))
  have ih5 : vp_in x3 6 := vin rfl (by omega) (by omega)
  refine ⟨ih5, ?_⟩
  have m_4 := iv_36 hS.1 (x3.toNatClampNeg)
  refine ⟨fun h6 => ?_, fun h6 => ?_⟩
  · have h6 : (d 36 x3.toNatClampNeg).toInt = 0 := (i_eq rfl (rfl : (0 : Int32).toInt = 0)).mp h6
    exact sb_X2_chosenAheadOf_71 hn hQ hK4 _ _ _ _ _ hS (by omega) (by omega) (by omega) (by omega) (by omega)
  · have h6 : ¬ ((d 36 x3.toNatClampNeg).toInt = 0) := fun q => h6 ((i_eq rfl (rfl : (0 : Int32).toInt = 0)).mpr q)
    refine ⟨fun h8 => ?_, fun h8 => ?_⟩
    · have h8 : xs0.toInt = 0 := (i_eq rfl (rfl : (0 : Int32).toInt = 0)).mp h8
      exact sb_X2_chosenAheadOf_71 hn hQ hK4 _ _ _ _ _ hS (by omega) (by omega) (by omega) (by omega) (by omega)
    · have h8 : ¬ (xs0.toInt = 0) := fun q => h8 ((i_eq rfl (rfl : (0 : Int32).toInt = 0)).mpr q)
      exact sb_X2_chosenAheadOf_72 hn hQ hK4 _ _ _ _ _ _ hS (by omega) (by omega) (show 0 ≤ 1 ∧ 1 ≤ 1 from by omega) (by omega) (by omega) (show 1 = 0 ∨ ¬ x3.toInt = x1.toInt from by omega) (by omega)
set_option maxHeartbeats 4000000 in
set_option maxRecDepth 100000 in
theorem sb_X2_chosenAheadOf_49 {n : Nat} (hn : 1000000000 ≤ n) {e : DD} {el : LL} {Q : Int32 → DD → LL → Prop} (hQ : ∀ (r : Int32) (d2 : DD) (l2 : LL), Sq e el d2 l2 ∧ (0 ≤ r.toInt ∧ r.toInt ≤ 5) → Q r d2 l2) {K4 : Int32 → Int32 → Int32 → DD → LL → Prop} {j4 : Nat} (hK4 : ∀ (x1 : Int32) (x2 : Int32) (x3 : Int32) (d : DD) (dl : LL), Sq e el d dl → (0 ≤ x1.toInt ∧ x1.toInt ≤ 5) → (0 ≤ x2.toInt ∧ x2.toInt ≤ 6) → (0 ≤ x3.toInt ∧ x3.toInt ≤ 6) → (x2.toInt ≤ x3.toInt ∧ (x3.toInt ≤ x1.toInt ∨ x2.toInt + 1 ≤ x3.toInt)) → 7 - x3.toInt < (j4 : Int) → K4 x1 x2 x3 d dl) : ∀ (x1 : Int32) (x2 : Int32) (x3 : Int32) (d : DD) (dl : LL), Sq e el d dl → (0 ≤ x1.toInt ∧ x1.toInt ≤ 5) → (0 ≤ x2.toInt ∧ x2.toInt ≤ 6) → (0 ≤ x3.toInt ∧ x3.toInt ≤ 5) → (x2.toInt ≤ x3.toInt ∧ (x3.toInt ≤ x1.toInt ∨ x2.toInt + 1 ≤ x3.toInt)) → 7 - x3.toInt ≤ (j4 : Int) → b_X2_chosenAheadOf_49 n Q K4 x1 x2 x3 d dl := by
  intro x1 x2 x3 d dl hS bx1 bx2 bx3 bi0 hm4
  show b_X2_chosenAheadOf_50 n Q K4 x1 x2 x3 0 d dl
  exact sb_X2_chosenAheadOf_50 hn hQ hK4 _ _ _ _ _ _ hS (by omega) (by omega) (by omega) (show 0 ≤ 0 ∧ 0 ≤ 1 from by omega) (by omega) (show 0 = 0 ∨ ¬ x3.toInt = x1.toInt from by omega) (by omega)
set_option maxHeartbeats 4000000 in
set_option maxRecDepth 100000 in
theorem sb_X2_chosenAheadOf_45 {n : Nat} (hn : 1000000000 ≤ n) {e : DD} {el : LL} {Q : Int32 → DD → LL → Prop} (hQ : ∀ (r : Int32) (d2 : DD) (l2 : LL), Sq e el d2 l2 ∧ (0 ≤ r.toInt ∧ r.toInt ≤ 5) → Q r d2 l2) {K4 : Int32 → Int32 → Int32 → DD → LL → Prop} {j4 : Nat} (hK4 : ∀ (x1 : Int32) (x2 : Int32) (x3 : Int32) (d : DD) (dl : LL), Sq e el d dl → (0 ≤ x1.toInt ∧ x1.toInt ≤ 5) → (0 ≤ x2.toInt ∧ x2.toInt ≤ 6) → (0 ≤ x3.toInt ∧ x3.toInt ≤ 6) → (x2.toInt ≤ x3.toInt ∧ (x3.toInt ≤ x1.toInt ∨ x2.toInt + 1 ≤ x3.toInt)) → 7 - x3.toInt < (j4 : Int) → K4 x1 x2 x3 d dl) : ∀ (x1 : Int32) (x2 : Int32) (x3 : Int32) (d : DD) (dl : LL), Sq e el d dl → (0 ≤ x1.toInt ∧ x1.toInt ≤ 5) → (0 ≤ x2.toInt ∧ x2.toInt ≤ 6) → (0 ≤ x3.toInt ∧ x3.toInt ≤ 5) → (x2.toInt ≤ x3.toInt ∧ (x3.toInt ≤ x1.toInt ∨ x2.toInt + 1 ≤ x3.toInt)) → (¬ x3.toInt = x1.toInt) → 7 - x3.toInt ≤ (j4 : Int) → b_X2_chosenAheadOf_45 n Q K4 x1 x2 x3 d dl := by
  intro x1 x2 x3 d dl hS bx1 bx2 bx3 bi0 bi1 hm4
  show b_X2_chosenAheadOf_50 n Q K4 x1 x2 x3 1 d dl
  exact sb_X2_chosenAheadOf_50 hn hQ hK4 _ _ _ _ _ _ hS (by omega) (by omega) (by omega) (show 0 ≤ 1 ∧ 1 ≤ 1 from by omega) (by omega) (show 1 = 0 ∨ ¬ x3.toInt = x1.toInt from by omega) (by omega)
set_option maxHeartbeats 4000000 in
set_option maxRecDepth 100000 in
theorem sb_X2_chosenAheadOf_4 {n : Nat} (hn : 1000000000 ≤ n) {e : DD} {el : LL} {Q : Int32 → DD → LL → Prop} (hQ : ∀ (r : Int32) (d2 : DD) (l2 : LL), Sq e el d2 l2 ∧ (0 ≤ r.toInt ∧ r.toInt ≤ 5) → Q r d2 l2) : ∀ (j4 : Nat) (x1 : Int32) (x2 : Int32) (x3 : Int32) (d : DD) (dl : LL), Sq e el d dl → (0 ≤ x1.toInt ∧ x1.toInt ≤ 5) → (0 ≤ x2.toInt ∧ x2.toInt ≤ 6) → (0 ≤ x3.toInt ∧ x3.toInt ≤ 6) → (x2.toInt ≤ x3.toInt ∧ (x3.toInt ≤ x1.toInt ∨ x2.toInt + 1 ≤ x3.toInt)) → 7 - x3.toInt < (j4 : Int) → b_X2_chosenAheadOf_4 n Q j4 x1 x2 x3 d dl := by
  intro j4
  induction j4 with
  | zero =>
    intro x1 x2 x3 d dl hS bx1 bx2 bx3 bi0 hm4
    exfalso
    omega
  | succ j4 hK4 =>
    intro x1 x2 x3 d dl hS bx1 bx2 bx3 bi0 hm4
    show (6 ≤ x3 → Q x2 d dl) ∧ (¬ 6 ≤ x3 → vp_in x3 6 ∧ vp_in x1 6 ∧ ((d 34 x3.toNatClampNeg) < (d 34 x1.toNatClampNeg) → b_X2_chosenAheadOf_45 n Q (b_X2_chosenAheadOf_4 n Q j4) x1 x2 x3 d dl) ∧ (¬ (d 34 x3.toNatClampNeg) < (d 34 x1.toNatClampNeg) → vp_in x3 6 ∧ vp_in x1 6 ∧ (¬ (d 34 x3.toNatClampNeg) = (d 34 x1.toNatClampNeg) → b_X2_chosenAheadOf_49 n Q (b_X2_chosenAheadOf_4 n Q j4) x1 x2 x3 d dl) ∧ ((d 34 x3.toNatClampNeg) = (d 34 x1.toNatClampNeg) → (x1 ≤ x3 → b_X2_chosenAheadOf_49 n Q (b_X2_chosenAheadOf_4 n Q j4) x1 x2 x3 d dl) ∧ (¬ x1 ≤ x3 → b_X2_chosenAheadOf_45 n Q (b_X2_chosenAheadOf_4 n Q j4) x1 x2 x3 d dl))))
    have hcg : x3.toInt = x1.toInt → (d 34 x3.toNatClampNeg).toInt = (d 34 x1.toNatClampNeg).toInt := fun h => by rw [Int32.toInt_inj.mp h]
    refine ⟨fun h1 => ?_, fun h1 => ?_⟩
    · have h1 : 6 ≤ x3.toInt := (i_le (rfl : (6 : Int32).toInt = 6) rfl).mp h1
      exact hQ _ _ _ ⟨hS, by omega⟩
    · have h1 : ¬ (6 ≤ x3.toInt) := fun q => h1 ((i_le (rfl : (6 : Int32).toInt = 6) rfl).mpr q)
      have ih2 : vp_in x3 6 := vin rfl (by omega) (by omega)
      refine ⟨ih2, ?_⟩
      have ih3 : vp_in x1 6 := vin rfl (by omega) (by omega)
      refine ⟨ih3, ?_⟩
      refine ⟨fun h4 => ?_, fun h4 => ?_⟩
      · have h4 : (d 34 x3.toNatClampNeg).toInt < (d 34 x1.toNatClampNeg).toInt := (i_lt rfl rfl).mp h4
        exact sb_X2_chosenAheadOf_45 hn hQ hK4 _ _ _ _ _ hS (by omega) (by omega) (by omega) (by omega) (by omega) (by omega)
      · have h4 : ¬ ((d 34 x3.toNatClampNeg).toInt < (d 34 x1.toNatClampNeg).toInt) := fun q => h4 ((i_lt rfl rfl).mpr q)
        have ih9 : vp_in x3 6 := vin rfl (by omega) (by omega)
        refine ⟨ih9, ?_⟩
        have ih10 : vp_in x1 6 := vin rfl (by omega) (by omega)
        refine ⟨ih10, ?_⟩
        refine ⟨fun h11 => ?_, fun h11 => ?_⟩
        · have h11 : ¬ ((d 34 x3.toNatClampNeg).toInt = (d 34 x1.toNatClampNeg).toInt) := fun q => h11 ((i_eq rfl rfl).mpr q)
          exact sb_X2_chosenAheadOf_49 hn hQ hK4 _ _ _ _ _ hS (by omega) (by omega) (by omega) (by omega) (by omega)
        · have h11 : (d 34 x3.toNatClampNeg).toInt = (d 34 x1.toNatClampNeg).toInt := (i_eq rfl rfl).mp h11
          refine ⟨fun h12 => ?_, fun h12 => ?_⟩
          · have h12 : x1.toInt ≤ x3.toInt := (i_le rfl rfl).mp h12
            exact sb_X2_chosenAheadOf_49 hn hQ hK4 _ _ _ _ _ hS (by omega) (by omega) (by omega) (by omega) (by omega)
          · have h12 : ¬ (x1.toInt ≤ x3.toInt) := fun q => h12 ((i_le rfl rfl).mpr q)
            exact sb_X2_chosenAheadOf_45 hn hQ hK4 _ _ _ _ _ hS (by omega) (by omega) (by omega) (by omega) (by omega) (by omega)
set_option maxHeartbeats 4000000 in
set_option maxRecDepth 100000 in
theorem sp_X2_chosenAheadOf {n : Nat} (hn : 1000000000 ≤ n) {x1 : Int32} {d : DD} {dl : LL} (hI : Inv d) (bx1 : 0 ≤ x1.toInt ∧ x1.toInt ≤ 5) {Q : Int32 → DD → LL → Prop} (hQ : ∀ (r : Int32) (d2 : DD) (l2 : LL), Sq d dl d2 l2 ∧ (0 ≤ r.toInt ∧ r.toInt ≤ 5) → Q r d2 l2) : F_X2_chosenAheadOf n x1 d dl Q := by
  obtain ⟨e, he⟩ : ∃ e : DD, e = d := ⟨_, rfl⟩
  obtain ⟨el, hel⟩ : ∃ el : LL, el = dl := ⟨_, rfl⟩
  have hS : Sq e el d dl := by rw [he, hel]; exact Sq.rf hI
  rw [← he, ← hel] at hQ
  show b_X2_chosenAheadOf_4 n Q n x1 0 0 d dl
  exact sb_X2_chosenAheadOf_4 hn hQ n _ _ _ _ _ hS (by omega) (show 0 ≤ 0 ∧ 0 ≤ 6 from by omega) (show 0 ≤ 0 ∧ 0 ≤ 6 from by omega) (show 0 ≤ 0 ∧ (0 ≤ x1.toInt ∨ 0 + 1 ≤ 0) from by omega) (show 7 - 0 < (n : Int) from by omega)
set_option maxHeartbeats 4000000 in
set_option maxRecDepth 100000 in
theorem sb_X2_putInOrder_7 {n : Nat} (hn : 1000000000 ≤ n) {e : DD} {el : LL} {Q : DD → LL → Prop} (hQ : ∀ (d2 : DD) (l2 : LL), St e el d2 l2 ∧ True → Q d2 l2) : ∀ (j7 : Nat) (x1 : Int32) (d : DD) (dl : LL), St e el d dl → (0 ≤ x1.toInt ∧ x1.toInt ≤ 6) → ((d 32 0).toInt ≤ x1.toInt) → 7 - x1.toInt < (j7 : Int) → b_X2_putInOrder_7 n Q j7 x1 d dl := by
  intro j7
  induction j7 with
  | zero =>
    intro x1 d dl hS bx1 bi0 hm7
    exfalso
    omega
  | succ j7 hK7 =>
    intro x1 d dl hS bx1 bi0 hm7
    show (6 ≤ x1 → Q d dl) ∧ (¬ 6 ≤ x1 → vp_in x1 6 ∧ ((d 36 x1.toNatClampNeg) = 0 → (b_X2_putInOrder_7 n Q j7) (x1 + 1) d dl) ∧ (¬ (d 36 x1.toNatClampNeg) = 0 → F_X2_chosenAheadOf n x1 d dl (fun r5 d6 l7 => vp_in r5 6 ∧ ∀ d9 : DD, d9 = u2 d6 33 r5.toNatClampNeg x1 → ∀ d10 : DD, d10 = u2 d9 32 0 ((d9 32 0) + 1) → (b_X2_putInOrder_7 n Q j7) (x1 + 1) d10 l7)))
    refine ⟨fun h2 => ?_, fun h2 => ?_⟩
    · have h2 : 6 ≤ x1.toInt := (i_le (rfl : (6 : Int32).toInt = 6) rfl).mp h2
      exact hQ _ _ ⟨hS, trivial⟩
    · have h2 : ¬ (6 ≤ x1.toInt) := fun q => h2 ((i_le (rfl : (6 : Int32).toInt = 6) rfl).mpr q)
      have ih3 : vp_in x1 6 := vin rfl (by omega) (by omega)
      refine ⟨ih3, ?_⟩
      have m_1 := iv_36 hS.1 (x1.toNatClampNeg)
      refine ⟨fun h4 => ?_, fun h4 => ?_⟩
      · have h4 : (d 36 x1.toNatClampNeg).toInt = 0 := (i_eq rfl (rfl : (0 : Int32).toInt = 0)).mp h4
        have t_2 : (x1 + 1).toInt = x1.toInt + 1 := ti_add rfl (rfl : (1 : Int32).toInt = 1) (by omega) (by omega)
        have m_3 := iv_32_0 hS.1
        exact hK7 _ _ _ hS (by omega) (by omega) (by omega)
      · have h4 : ¬ ((d 36 x1.toNatClampNeg).toInt = 0) := fun q => h4 ((i_eq rfl (rfl : (0 : Int32).toInt = 0)).mpr q)
        refine sp_X2_chosenAheadOf hn hS.1 ⟨by omega, by omega⟩ (fun r5 d6 l7 ⟨p_4, u_5⟩ => ?_)
        have s_6 : St e el d6 l7 := hS.sq p_4
        have w_7 : d6 = d := p_4.2.1
        replace u_5 : (0 ≤ r5.toInt ∧ r5.toInt ≤ 5) := u_5
        have ih8 : vp_in r5 6 := vin rfl (by omega) (by omega)
        refine ⟨ih8, ?_⟩
        intro d9 ed9
        have s_8 : St e el d9 l7 := by rw [ed9]; exact pv_33 s_6
        have q_9 : d9 32 0 = (d 32 0) := by rw [ed9, u2_row (by omega)]; rw [w_7]
        have m_10 := iv_32_0 hS.1
        have t_11 : (d9 32 0).toInt = (d 32 0).toInt := (congrArg Int32.toInt q_9).trans rfl
        have t_12 : ((d9 32 0) + 1).toInt = (d 32 0).toInt + 1 := ti_add t_11 (rfl : (1 : Int32).toInt = 1) (by omega) (by omega)
        intro d10 ed10
        have s_13 : St e el d10 l7 := by rw [ed10]; exact pv_32_0 s_8 (by rw [t_12]; omega) (by rw [t_12]; omega)
        have t_14 : (x1 + 1).toInt = x1.toInt + 1 := ti_add rfl (rfl : (1 : Int32).toInt = 1) (by omega) (by omega)
        have q_15 : d10 32 0 = ((d9 32 0) + 1) := by rw [ed10, u2_eq]
        have t_16 : (d10 32 0).toInt = ((d 32 0).toInt + 1) := (congrArg Int32.toInt q_15).trans t_12
        exact hK7 _ _ _ s_13 (by omega) (by omega) (by omega)
set_option maxHeartbeats 4000000 in
set_option maxRecDepth 100000 in
theorem sp_X2_putInOrder {n : Nat} (hn : 1000000000 ≤ n) {d : DD} {dl : LL} (hI : Inv d) {Q : DD → LL → Prop} (hQ : ∀ (d2 : DD) (l2 : LL), St d dl d2 l2 ∧ True → Q d2 l2) : F_X2_putInOrder n d dl Q := by
  obtain ⟨e, he⟩ : ∃ e : DD, e = d := ⟨_, rfl⟩
  obtain ⟨el, hel⟩ : ∃ el : LL, el = dl := ⟨_, rfl⟩
  have hS : St e el d dl := by rw [he, hel]; exact St.rf hI
  rw [← he, ← hel] at hQ
  show ∀ d1 : DD, d1 = u2 d 32 0 0 → b_X2_putInOrder_7 n Q n 0 d1 dl
  intro d1 ed1
  have s_17 : St e el d1 dl := by rw [ed1]; exact pv_32_0 hS (by decide) (by decide)
  have q_18 : d1 32 0 = 0 := by rw [ed1, u2_eq]
  have t_19 : (d1 32 0).toInt = 0 := (congrArg Int32.toInt q_18).trans (rfl : (0 : Int32).toInt = 0)
  exact sb_X2_putInOrder_7 hn hQ n _ _ _ s_17 (show 0 ≤ 0 ∧ 0 ≤ 6 from by omega) (show (d1 32 0).toInt ≤ 0 from by omega) (show 7 - 0 < (n : Int) from by omega)
set_option maxHeartbeats 4000000 in
set_option maxRecDepth 100000 in
theorem sb_X2_choose_118 {n : Nat} (hn : 1000000000 ≤ n) {e : DD} {el : LL} {Q : DD → LL → Prop} (hQ : ∀ (d2 : DD) (l2 : LL), St e el d2 l2 ∧ True → Q d2 l2) {K70 : Int32 → Int32 → DD → LL → Prop} {j70 : Nat} (hK70 : ∀ (x4 : Int32) (x5 : Int32) (d : DD) (dl : LL), St e el d dl → (0 ≤ x4.toInt ∧ x4.toInt ≤ 9) → (0 ≤ x5.toInt ∧ x5.toInt ≤ 6) → 7 - x5.toInt < (j70 : Int) → K70 x4 x5 d dl) : ∀ (x4 : Int32) (x5 : Int32) (xs0 : Int32) (d : DD) (dl : LL), St e el d dl → (0 ≤ x4.toInt ∧ x4.toInt ≤ 9) → (0 ≤ x5.toInt ∧ x5.toInt ≤ 5) → (0 ≤ xs0.toInt ∧ xs0.toInt ≤ 5) → 7 - x5.toInt ≤ (j70 : Int) → b_X2_choose_118 n Q K70 x4 x5 xs0 d dl := by
  intro x4 x5 xs0 d dl hS bx4 bx5 bxs0 hm70
  show vp_in xs0 6 ∧ ∀ d14 : DD, d14 = u2 d 36 xs0.toNatClampNeg (vp_nar .boolean 0) → K70 x4 (x5 + 1) d14 dl
  have ih13 : vp_in xs0 6 := vin rfl (by omega) (by omega)
  refine ⟨ih13, ?_⟩
  intro d14 ed14
  have s_1 : St e el d14 dl := by rw [ed14]; exact pv_36 hS (vn_in _).1 (vn_in _).2
  have t_2 : (x5 + 1).toInt = x5.toInt + 1 := ti_add rfl (rfl : (1 : Int32).toInt = 1) (by omega) (by omega)
  exact hK70 _ _ _ _ s_1 (by omega) (by omega) (by omega)
set_option maxHeartbeats 4000000 in
set_option maxRecDepth 100000 in
theorem sb_X2_choose_114 {n : Nat} (hn : 1000000000 ≤ n) {e : DD} {el : LL} {Q : DD → LL → Prop} (hQ : ∀ (d2 : DD) (l2 : LL), St e el d2 l2 ∧ True → Q d2 l2) {K70 : Int32 → Int32 → DD → LL → Prop} {j70 : Nat} (hK70 : ∀ (x4 : Int32) (x5 : Int32) (d : DD) (dl : LL), St e el d dl → (0 ≤ x4.toInt ∧ x4.toInt ≤ 9) → (0 ≤ x5.toInt ∧ x5.toInt ≤ 6) → 7 - x5.toInt < (j70 : Int) → K70 x4 x5 d dl) : ∀ (x4 : Int32) (x5 : Int32) (xs0 : Int32) (d : DD) (dl : LL), St e el d dl → (0 ≤ x4.toInt ∧ x4.toInt ≤ 9) → (0 ≤ x5.toInt ∧ x5.toInt ≤ 5) → (0 ≤ xs0.toInt ∧ xs0.toInt ≤ 5) → 7 - x5.toInt ≤ (j70 : Int) → b_X2_choose_114 n Q K70 x4 x5 xs0 d dl := by
  intro x4 x5 xs0 d dl hS bx4 bx5 bxs0 hm70
  show vp_in xs0 6 ∧ ∀ d10 : DD, d10 = u2 d 36 xs0.toNatClampNeg (vp_nar .boolean 1) → K70 x4 (x5 + 1) d10 dl
  have ih9 : vp_in xs0 6 := vin rfl (by omega) (by omega)
  refine ⟨ih9, ?_⟩
  intro d10 ed10
  have s_3 : St e el d10 dl := by rw [ed10]; exact pv_36 hS (vn_in _).1 (vn_in _).2
  have t_4 : (x5 + 1).toInt = x5.toInt + 1 := ti_add rfl (rfl : (1 : Int32).toInt = 1) (by omega) (by omega)
  exact hK70 _ _ _ _ s_3 (by omega) (by omega) (by omega)
set_option maxHeartbeats 4000000 in
set_option maxRecDepth 100000 in
theorem sb_X2_choose_70 {n : Nat} (hn : 1000000000 ≤ n) {e : DD} {el : LL} {Q : DD → LL → Prop} (hQ : ∀ (d2 : DD) (l2 : LL), St e el d2 l2 ∧ True → Q d2 l2) : ∀ (j70 : Nat) (x4 : Int32) (x5 : Int32) (d : DD) (dl : LL), St e el d dl → (0 ≤ x4.toInt ∧ x4.toInt ≤ 9) → (0 ≤ x5.toInt ∧ x5.toInt ≤ 6) → 7 - x5.toInt < (j70 : Int) → b_X2_choose_70 n Q j70 x4 x5 d dl := by
  intro j70
  induction j70 with
  | zero =>
    intro x4 x5 d dl hS bx4 bx5 hm70
    exfalso
    omega
  | succ j70 hK70 =>
    intro x4 x5 d dl hS bx4 bx5 hm70
    show (6 ≤ x5 → F_X2_putInOrder n d dl (fun d5 l6 => Q d5 l6)) ∧ (¬ 6 ≤ x5 → vp_in x5 6 ∧ (¬ (d 35 x5.toNatClampNeg) = 0 → b_X2_choose_114 n Q (b_X2_choose_70 n Q j70) x4 x5 x5 d dl) ∧ ((d 35 x5.toNatClampNeg) = 0 → vp_in x5 6 ∧ ((d 34 x5.toNatClampNeg) ≤ 0 → b_X2_choose_118 n Q (b_X2_choose_70 n Q j70) x4 x5 x5 d dl) ∧ (¬ (d 34 x5.toNatClampNeg) ≤ 0 → F_X2_fasterOthers n x5 d dl (fun r15 d16 l17 => (x4 ≤ r15 → b_X2_choose_118 n Q (b_X2_choose_70 n Q j70) x4 x5 x5 d16 l17) ∧ (¬ x4 ≤ r15 → b_X2_choose_114 n Q (b_X2_choose_70 n Q j70) x4 x5 x5 d16 l17)))))
    refine ⟨fun h3 => ?_, fun h3 => ?_⟩
    · have h3 : 6 ≤ x5.toInt := (i_le (rfl : (6 : Int32).toInt = 6) rfl).mp h3
      refine sp_X2_putInOrder hn hS.1 (fun d5 l6 ⟨p_5, u_6⟩ => ?_)
      have s_7 : St e el d5 l6 := hS.tr p_5
      exact hQ _ _ ⟨s_7, trivial⟩
    · have h3 : ¬ (6 ≤ x5.toInt) := fun q => h3 ((i_le (rfl : (6 : Int32).toInt = 6) rfl).mpr q)
      have ih7 : vp_in x5 6 := vin rfl (by omega) (by omega)
      refine ⟨ih7, ?_⟩
      have m_8 := iv_35 hS.1 (x5.toNatClampNeg)
      refine ⟨fun h8 => ?_, fun h8 => ?_⟩
      · have h8 : ¬ ((d 35 x5.toNatClampNeg).toInt = 0) := fun q => h8 ((i_eq rfl (rfl : (0 : Int32).toInt = 0)).mpr q)
        exact sb_X2_choose_114 hn hQ hK70 _ _ _ _ _ hS (by omega) (by omega) (by omega) (by omega)
      · have h8 : (d 35 x5.toNatClampNeg).toInt = 0 := (i_eq rfl (rfl : (0 : Int32).toInt = 0)).mp h8
        have ih11 : vp_in x5 6 := vin rfl (by omega) (by omega)
        refine ⟨ih11, ?_⟩
        refine ⟨fun h12 => ?_, fun h12 => ?_⟩
        · have h12 : (d 34 x5.toNatClampNeg).toInt ≤ 0 := (i_le rfl (rfl : (0 : Int32).toInt = 0)).mp h12
          exact sb_X2_choose_118 hn hQ hK70 _ _ _ _ _ hS (by omega) (by omega) (by omega) (by omega)
        · have h12 : ¬ ((d 34 x5.toNatClampNeg).toInt ≤ 0) := fun q => h12 ((i_le rfl (rfl : (0 : Int32).toInt = 0)).mpr q)
          refine sp_X2_fasterOthers hn hS.1 ⟨by omega, by omega⟩ (fun r15 d16 l17 ⟨p_9, u_10⟩ => ?_)
          have s_11 : St e el d16 l17 := hS.sq p_9
          have w_12 : d16 = d := p_9.2.1
          refine ⟨fun h18 => ?_, fun h18 => ?_⟩
          · have h18 : x4.toInt ≤ r15.toInt := (i_le rfl rfl).mp h18
            exact sb_X2_choose_118 hn hQ hK70 _ _ _ _ _ s_11 (by omega) (by omega) (by omega) (by omega)
          · have h18 : ¬ (x4.toInt ≤ r15.toInt) := fun q => h18 ((i_le rfl rfl).mpr q)
            exact sb_X2_choose_114 hn hQ hK70 _ _ _ _ _ s_11 (by omega) (by omega) (by omega) (by omega)
set_option maxHeartbeats 4000000 in
set_option maxRecDepth 100000 in
theorem sb_X2_choose_35 {n : Nat} (hn : 1000000000 ≤ n) {e : DD} {el : LL} {Q : DD → LL → Prop} (hQ : ∀ (d2 : DD) (l2 : LL), St e el d2 l2 ∧ True → Q d2 l2) : ∀ (j35 : Nat) (x2 : Int32) (x3 : Int32) (x4 : Int32) (x5 : Int32) (d : DD) (dl : LL), St e el d dl → (0 ≤ x2.toInt ∧ x2.toInt ≤ 24) → (0 ≤ x3.toInt ∧ x3.toInt ≤ 9) → (0 ≤ x4.toInt ∧ x4.toInt ≤ 9) → (0 ≤ x5.toInt ∧ x5.toInt ≤ 24) → 25 - x5.toInt < (j35 : Int) → b_X2_choose_35 n Q j35 x2 x3 x4 x5 d dl := by
  intro j35
  induction j35 with
  | zero =>
    intro x2 x3 x4 x5 d dl hS bx2 bx3 bx4 bx5 hm35
    exfalso
    omega
  | succ j35 hK35 =>
    intro x2 x3 x4 x5 d dl hS bx2 bx3 bx4 bx5 hm35
    show (x2 ≤ x5 → b_X2_choose_70 n Q n x4 0 d dl) ∧ (¬ x2 ≤ x5 → vp_in x5 24 ∧ ∀ k20 : Nat, k20 = x5.toNatClampNeg → ((d (91 + 5 * k20) 1) = 1 → (b_X2_choose_35 n Q j35) x2 x3 x4 (x5 + 1) d dl) ∧ (¬ (d (91 + 5 * k20) 1) = 1 → vp_in x5 24 ∧ ∀ k23 : Nat, k23 = x5.toNatClampNeg → F_X2_addHeat n k23 x3 d dl (fun d25 l26 => (b_X2_choose_35 n Q j35) x2 x3 x4 (x5 + 1) d25 l26)))
    refine ⟨fun h2 => ?_, fun h2 => ?_⟩
    · have h2 : x2.toInt ≤ x5.toInt := (i_le rfl rfl).mp h2
      exact sb_X2_choose_70 hn hQ n _ _ _ _ hS (by omega) (show 0 ≤ 0 ∧ 0 ≤ 6 from by omega) (show 7 - 0 < (n : Int) from by omega)
    · have h2 : ¬ (x2.toInt ≤ x5.toInt) := fun q => h2 ((i_le rfl rfl).mpr q)
      have ih19 : vp_in x5 24 := vin rfl (by omega) (by omega)
      refine ⟨ih19, ?_⟩
      intro k20 ek20
      have hk20 : k20 < 24 := by rw [ek20]; exact clamp_in ih19
      have m_13 := iv_91_1 hS.1 hk20
      refine ⟨fun h21 => ?_, fun h21 => ?_⟩
      · have h21 : (d (91 + 5 * k20) 1).toInt = 1 := (i_eq rfl (rfl : (1 : Int32).toInt = 1)).mp h21
        have t_14 : (x5 + 1).toInt = x5.toInt + 1 := ti_add rfl (rfl : (1 : Int32).toInt = 1) (by omega) (by omega)
        exact hK35 _ _ _ _ _ _ hS (by omega) (by omega) (by omega) (by omega) (by omega)
      · have h21 : ¬ ((d (91 + 5 * k20) 1).toInt = 1) := fun q => h21 ((i_eq rfl (rfl : (1 : Int32).toInt = 1)).mpr q)
        have ih22 : vp_in x5 24 := vin rfl (by omega) (by omega)
        refine ⟨ih22, ?_⟩
        intro k23 ek23
        have hk23 : k23 < 24 := by rw [ek23]; exact clamp_in ih22
        refine sp_X2_addHeat hn hS.1 hk23 ⟨by omega, by omega⟩ (fun d25 l26 ⟨p_15, u_16⟩ => ?_)
        have s_17 : St e el d25 l26 := hS.tr p_15
        have t_18 : (x5 + 1).toInt = x5.toInt + 1 := ti_add rfl (rfl : (1 : Int32).toInt = 1) (by omega) (by omega)
        exact hK35 _ _ _ _ _ _ s_17 (by omega) (by omega) (by omega) (by omega) (by omega)
set_option maxHeartbeats 4000000 in
set_option maxRecDepth 100000 in
theorem sb_X2_choose_3 {n : Nat} (hn : 1000000000 ≤ n) {e : DD} {el : LL} {Q : DD → LL → Prop} (hQ : ∀ (d2 : DD) (l2 : LL), St e el d2 l2 ∧ True → Q d2 l2) : ∀ (j3 : Nat) (x2 : Int32) (x3 : Int32) (x4 : Int32) (x5 : Int32) (d : DD) (dl : LL), St e el d dl → (0 ≤ x2.toInt ∧ x2.toInt ≤ 24) → (0 ≤ x3.toInt ∧ x3.toInt ≤ 9) → (0 ≤ x4.toInt ∧ x4.toInt ≤ 9) → (0 ≤ x5.toInt ∧ x5.toInt ≤ 6) → 7 - x5.toInt < (j3 : Int) → b_X2_choose_3 n Q j3 x2 x3 x4 x5 d dl := by
  intro j3
  induction j3 with
  | zero =>
    intro x2 x3 x4 x5 d dl hS bx2 bx3 bx4 bx5 hm3
    exfalso
    omega
  | succ j3 hK3 =>
    intro x2 x3 x4 x5 d dl hS bx2 bx3 bx4 bx5 hm3
    show (6 ≤ x5 → b_X2_choose_35 n Q n x2 x3 x4 0 d dl) ∧ (¬ 6 ≤ x5 → vp_in x5 6 ∧ ∀ d28 : DD, d28 = u2 d 34 x5.toNatClampNeg 0 → vp_in x5 6 ∧ ∀ d30 : DD, d30 = u2 d28 35 x5.toNatClampNeg (vp_nar .boolean 0) → (b_X2_choose_3 n Q j3) x2 x3 x4 (x5 + 1) d30 dl)
    refine ⟨fun h1 => ?_, fun h1 => ?_⟩
    · have h1 : 6 ≤ x5.toInt := (i_le (rfl : (6 : Int32).toInt = 6) rfl).mp h1
      exact sb_X2_choose_35 hn hQ n _ _ _ _ _ _ hS (by omega) (by omega) (by omega) (show 0 ≤ 0 ∧ 0 ≤ 24 from by omega) (show 25 - 0 < (n : Int) from by omega)
    · have h1 : ¬ (6 ≤ x5.toInt) := fun q => h1 ((i_le (rfl : (6 : Int32).toInt = 6) rfl).mpr q)
      have ih27 : vp_in x5 6 := vin rfl (by omega) (by omega)
      refine ⟨ih27, ?_⟩
      intro d28 ed28
      have s_19 : St e el d28 dl := by rw [ed28]; exact pv_34 hS
      have ih29 : vp_in x5 6 := vin rfl (by omega) (by omega)
      refine ⟨ih29, ?_⟩
      intro d30 ed30
      have s_20 : St e el d30 dl := by rw [ed30]; exact pv_35 s_19 (vn_in _).1 (vn_in _).2
      have t_21 : (x5 + 1).toInt = x5.toInt + 1 := ti_add rfl (rfl : (1 : Int32).toInt = 1) (by omega) (by omega)
      exact hK3 _ _ _ _ _ _ s_20 (by omega) (by omega) (by omega) (by omega) (by omega)
set_option maxHeartbeats 4000000 in
set_option maxRecDepth 100000 in
theorem sp_X2_choose {n : Nat} (hn : 1000000000 ≤ n) {x2 : Int32} {x3 : Int32} {x4 : Int32} {d : DD} {dl : LL} (hI : Inv d) (bx2 : 0 ≤ x2.toInt ∧ x2.toInt ≤ 24) (bx3 : 0 ≤ x3.toInt ∧ x3.toInt ≤ 9) (bx4 : 0 ≤ x4.toInt ∧ x4.toInt ≤ 9) {Q : DD → LL → Prop} (hQ : ∀ (d2 : DD) (l2 : LL), St d dl d2 l2 ∧ True → Q d2 l2) : F_X2_choose n x2 x3 x4 d dl Q := by
  obtain ⟨e, he⟩ : ∃ e : DD, e = d := ⟨_, rfl⟩
  obtain ⟨el, hel⟩ : ∃ el : LL, el = dl := ⟨_, rfl⟩
  have hS : St e el d dl := by rw [he, hel]; exact St.rf hI
  rw [← he, ← hel] at hQ
  show b_X2_choose_3 n Q n x2 x3 x4 0 d dl
  exact sb_X2_choose_3 hn hQ n _ _ _ _ _ _ hS (by omega) (by omega) (by omega) (show 0 ≤ 0 ∧ 0 ≤ 6 from by omega) (show 7 - 0 < (n : Int) from by omega)
set_option maxHeartbeats 4000000 in
set_option maxRecDepth 100000 in
theorem sp_X9_finalists {n : Nat} (hn : 1000000000 ≤ n) {x1 : Int32} {x2 : Int32} {d : DD} {dl : LL} (hI : Inv d) {Q : Int32 → DD → LL → Prop} (hQ : ∀ (r : Int32) (d2 : DD) (l2 : LL), St d dl d2 l2 ∧ ((-2) ≤ r.toInt ∧ r.toInt ≤ 6) → Q r d2 l2) : F_X9_finalists n x1 x2 d dl Q := by
  obtain ⟨e, he⟩ : ∃ e : DD, e = d := ⟨_, rfl⟩
  obtain ⟨el, hel⟩ : ∃ el : LL, el = dl := ⟨_, rfl⟩
  have hS : St e el d dl := by rw [he, hel]; exact St.rf hI
  rw [← he, ← hel] at hQ
  show F_X9_within n x1 0 9 d dl (fun r1 d2 l3 => (r1 = 0 → Q (-2) d2 l3) ∧ (¬ r1 = 0 → F_X9_within n x2 0 9 d2 l3 (fun r5 d6 l7 => (¬ r5 = 0 → F_X2_choose n (d6 0 13) x1 x2 d6 l7 (fun d10 l11 => Q (d10 32 0) d10 l11)) ∧ (r5 = 0 → Q (-2) d6 l7))))
  refine sp_X9_within hn hS.1 (fun r1 d2 l3 ⟨p_1, u_2⟩ => ?_)
  have s_3 : St e el d2 l3 := hS.sq p_1
  have w_4 : d2 = d := p_1.2.1
  replace u_2 : (0 ≤ r1.toInt ∧ r1.toInt ≤ 1 ∧ ((r1.toInt = 1 ∧ 0 ≤ x1.toInt ∧ x1.toInt ≤ 9) ∨ (r1.toInt = 0 ∧ ¬ (0 ≤ x1.toInt ∧ x1.toInt ≤ 9)))) := u_2
  refine ⟨fun h4 => ?_, fun h4 => ?_⟩
  · have h4 : r1.toInt = 0 := (i_eq rfl (rfl : (0 : Int32).toInt = 0)).mp h4
    exact hQ _ _ _ ⟨s_3, (show ((-2) ≤ (-2) ∧ (-2) ≤ 6) from by omega)⟩
  · have h4 : ¬ (r1.toInt = 0) := fun q => h4 ((i_eq rfl (rfl : (0 : Int32).toInt = 0)).mpr q)
    refine sp_X9_within hn s_3.1 (fun r5 d6 l7 ⟨p_5, u_6⟩ => ?_)
    have s_7 : St e el d6 l7 := s_3.sq p_5
    have w_8 : d6 = d2 := p_5.2.1
    replace u_6 : (0 ≤ r5.toInt ∧ r5.toInt ≤ 1 ∧ ((r5.toInt = 1 ∧ 0 ≤ x2.toInt ∧ x2.toInt ≤ 9) ∨ (r5.toInt = 0 ∧ ¬ (0 ≤ x2.toInt ∧ x2.toInt ≤ 9)))) := u_6
    refine ⟨fun h8 => ?_, fun h8 => ?_⟩
    · have h8 : ¬ (r5.toInt = 0) := fun q => h8 ((i_eq rfl (rfl : (0 : Int32).toInt = 0)).mpr q)
      have q_9 : d6 0 13 = (d 0 13) := by rw [w_8]; rw [w_4]
      have m_10 := iv_0_13 hS.1
      have t_11 : (d6 0 13).toInt = (d 0 13).toInt := (congrArg Int32.toInt q_9).trans rfl
      refine sp_X2_choose hn s_7.1 ⟨by rw [t_11]; omega, by rw [t_11]; omega⟩ ⟨by omega, by omega⟩ ⟨by omega, by omega⟩ (fun d10 l11 ⟨p_12, u_13⟩ => ?_)
      have s_14 : St e el d10 l11 := s_7.tr p_12
      have m_15 := iv_32_0 s_14.1
      exact hQ _ _ _ ⟨s_14, by omega⟩
    · have h8 : r5.toInt = 0 := (i_eq rfl (rfl : (0 : Int32).toInt = 0)).mp h8
      exact hQ _ _ _ ⟨s_7, (show ((-2) ≤ (-2) ∧ (-2) ≤ 6) from by omega)⟩
set_option maxHeartbeats 4000000 in
set_option maxRecDepth 100000 in
theorem sb_X9_commonDivisor_9 {n : Nat} (hn : 1000000000 ≤ n) {e : DD} {el : LL} {Q : Int64 → DD → LL → Prop} (hQ : ∀ (r : Int64) (d2 : DD) (l2 : LL), Sq e el d2 l2 ∧ True → Q r d2 l2) : ∀ (j9 : Nat) (y4 : Int64) (y6 : Int64) (x8 : Int32) (d : DD) (dl : LL), Sq e el d dl → (0 ≤ x8.toInt ∧ x8.toInt ≤ 200) → 201 - x8.toInt < (j9 : Int) → b_X9_commonDivisor_9 n Q j9 y4 y6 x8 d dl := by
  intro j9
  induction j9 with
  | zero =>
    intro y4 y6 x8 d dl hS bx8 hm9
    exfalso
    omega
  | succ j9 hK9 =>
    intro y4 y6 x8 d dl hS bx8 hm9
    show (200 ≤ x8 → Q y4 d dl) ∧ (¬ 200 ≤ x8 → ((lg_cmp y6 0) = 0 → Q y4 d dl) ∧ (¬ (lg_cmp y6 0) = 0 → ¬ y6 = 0 ∧ ∀ v4 : Int64, v4 = (lrem y4 y6) → (b_X9_commonDivisor_9 n Q j9) y6 v4 (x8 + 1) d dl))
    refine ⟨fun h1 => ?_, fun h1 => ?_⟩
    · have h1 : 200 ≤ x8.toInt := (i_le (rfl : (200 : Int32).toInt = 200) rfl).mp h1
      exact hQ _ _ _ ⟨hS, trivial⟩
    · have h1 : ¬ (200 ≤ x8.toInt) := fun q => h1 ((i_le (rfl : (200 : Int32).toInt = 200) rfl).mpr q)
      refine ⟨fun h2 => ?_, fun h2 => ?_⟩
      · have h2 : (lg_cmp y6 0).toInt = 0 := (i_eq rfl (rfl : (0 : Int32).toInt = 0)).mp h2
        exact hQ _ _ _ ⟨hS, trivial⟩
      · have h2 : ¬ ((lg_cmp y6 0).toInt = 0) := fun q => h2 ((i_eq rfl (rfl : (0 : Int32).toInt = 0)).mpr q)
        refine ⟨lgc (by omega), ?_⟩
        intro v4 e4
        have t_1 : (x8 + 1).toInt = x8.toInt + 1 := ti_add rfl (rfl : (1 : Int32).toInt = 1) (by omega) (by omega)
        exact hK9 _ _ _ _ _ hS (by omega) (by omega)
set_option maxHeartbeats 4000000 in
set_option maxRecDepth 100000 in
theorem sp_X9_commonDivisor {n : Nat} (hn : 1000000000 ≤ n) {y0 : Int64} {y2 : Int64} {d : DD} {dl : LL} (hI : Inv d) {Q : Int64 → DD → LL → Prop} (hQ : ∀ (r : Int64) (d2 : DD) (l2 : LL), Sq d dl d2 l2 ∧ True → Q r d2 l2) : F_X9_commonDivisor n y0 y2 d dl Q := by
  obtain ⟨e, he⟩ : ∃ e : DD, e = d := ⟨_, rfl⟩
  obtain ⟨el, hel⟩ : ∃ el : LL, el = dl := ⟨_, rfl⟩
  have hS : Sq e el d dl := by rw [he, hel]; exact Sq.rf hI
  rw [← he, ← hel] at hQ
  show b_X9_commonDivisor_9 n Q n y0 y2 0 d dl
  exact sb_X9_commonDivisor_9 hn hQ n _ _ _ _ _ hS (show 0 ≤ 0 ∧ 0 ≤ 200 from by omega) (show 201 - 0 < (n : Int) from by omega)
set_option maxHeartbeats 4000000 in
set_option maxRecDepth 100000 in
theorem sb_X9_level_41 {n : Nat} (hn : 1000000000 ≤ n) {e : DD} {el : LL} {Q : Int64 → DD → LL → Prop} (hQ : ∀ (r : Int64) (d2 : DD) (l2 : LL), Sq e el d2 l2 ∧ True → Q r d2 l2) : ∀ (j41 : Nat) (x1 : Int32) (x2 : Int32) (x3 : Int32) (y4 : Int64) (y6 : Int64) (x8 : Int32) (d : DD) (dl : LL), Sq e el d dl → (0 ≤ x1.toInt ∧ x1.toInt ≤ 3) → (0 ≤ x2.toInt ∧ x2.toInt ≤ 3) → (0 ≤ x3.toInt ∧ x3.toInt ≤ 1) → (0 ≤ x8.toInt ∧ x8.toInt ≤ 6) → 7 - x8.toInt < (j41 : Int) → b_X9_level_41 n Q j41 x1 x2 x3 y4 y6 x8 d dl := by
  intro j41
  induction j41 with
  | zero =>
    intro x1 x2 x3 y4 y6 x8 d dl hS bx1 bx2 bx3 bx8 hm41
    exfalso
    omega
  | succ j41 hK41 =>
    intro x1 x2 x3 y4 y6 x8 d dl hS bx1 bx2 bx3 bx8 hm41
    show ((d 0 2) ≤ x8 → F_X9_commonDivisor n (if 0 < y4 then y4 else -y4) y6 d dl (fun r15 d16 l17 => ((lg_cmp y6 0) = 0 → Q (-9223372036854775808) d16 l17) ∧ (¬ (lg_cmp y6 0) = 0 → (¬ (lg_cmp r15 0) = 0 → (¬ x3 = 0 → ¬ r15 = 0 ∧ Q (y6 / r15) d16 l17) ∧ (x3 = 0 → ¬ r15 = 0 ∧ Q (y4 / r15) d16 l17)) ∧ ((lg_cmp r15 0) = 0 → Q (-9223372036854775808) d16 l17)))) ∧ (¬ (d 0 2) ≤ x8 → F_X9_leastTimeIn n x1 x8 d dl (fun r23 d24 l25 => F_X9_leastTimeIn n x2 x8 d24 l25 (fun r26 d27 l28 => (r23 ≤ 0 → (b_X9_level_41 n Q j41) x1 x2 x3 y4 y6 (x8 + 1) d27 l28) ∧ (¬ r23 ≤ 0 → (r26 ≤ 0 → (b_X9_level_41 n Q j41) x1 x2 x3 y4 y6 (x8 + 1) d27 l28) ∧ (¬ r26 ≤ 0 → ∀ v31 : Int64, v31 = (y4 + ((r23 - r26).toInt64)) → ∀ v32 : Int64, v32 = (y6 + 1) → (b_X9_level_41 n Q j41) x1 x2 x3 v31 v32 (x8 + 1) d27 l28)))))
    have m_1 := iv_0_2 hS.1
    refine ⟨fun h14 => ?_, fun h14 => ?_⟩
    · have h14 : (d 0 2).toInt ≤ x8.toInt := (i_le rfl rfl).mp h14
      refine sp_X9_commonDivisor hn hS.1 (fun r15 d16 l17 ⟨p_2, u_3⟩ => ?_)
      have s_4 : Sq e el d16 l17 := hS.tr p_2
      have w_5 : d16 = d := p_2.2.1
      refine ⟨fun h18 => ?_, fun h18 => ?_⟩
      · have h18 : (lg_cmp y6 0).toInt = 0 := (i_eq rfl (rfl : (0 : Int32).toInt = 0)).mp h18
        exact hQ _ _ _ ⟨s_4, trivial⟩
      · have h18 : ¬ ((lg_cmp y6 0).toInt = 0) := fun q => h18 ((i_eq rfl (rfl : (0 : Int32).toInt = 0)).mpr q)
        refine ⟨fun h19 => ?_, fun h19 => ?_⟩
        · have h19 : ¬ ((lg_cmp r15 0).toInt = 0) := fun q => h19 ((i_eq rfl (rfl : (0 : Int32).toInt = 0)).mpr q)
          refine ⟨fun h20 => ?_, fun h20 => ?_⟩
          · have h20 : ¬ (x3.toInt = 0) := fun q => h20 ((i_eq rfl (rfl : (0 : Int32).toInt = 0)).mpr q)
            refine ⟨lgc (by omega), ?_⟩
            exact hQ _ _ _ ⟨s_4, trivial⟩
          · have h20 : x3.toInt = 0 := (i_eq rfl (rfl : (0 : Int32).toInt = 0)).mp h20
            refine ⟨lgc (by omega), ?_⟩
            exact hQ _ _ _ ⟨s_4, trivial⟩
        · have h19 : (lg_cmp r15 0).toInt = 0 := (i_eq rfl (rfl : (0 : Int32).toInt = 0)).mp h19
          exact hQ _ _ _ ⟨s_4, trivial⟩
    · have h14 : ¬ ((d 0 2).toInt ≤ x8.toInt) := fun q => h14 ((i_le rfl rfl).mpr q)
      refine sp_X9_leastTimeIn hn hS.1 ⟨by omega, by omega⟩ (fun r23 d24 l25 ⟨p_6, u_7⟩ => ?_)
      have s_8 : Sq e el d24 l25 := hS.tr p_6
      have w_9 : d24 = d := p_6.2.1
      refine sp_X9_leastTimeIn hn s_8.1 ⟨by omega, by omega⟩ (fun r26 d27 l28 ⟨p_10, u_11⟩ => ?_)
      have s_12 : Sq e el d27 l28 := s_8.tr p_10
      have w_13 : d27 = d24 := p_10.2.1
      refine ⟨fun h29 => ?_, fun h29 => ?_⟩
      · have h29 : r23.toInt ≤ 0 := (i_le rfl (rfl : (0 : Int32).toInt = 0)).mp h29
        have t_14 : (x8 + 1).toInt = x8.toInt + 1 := ti_add rfl (rfl : (1 : Int32).toInt = 1) (by omega) (by omega)
        exact hK41 _ _ _ _ _ _ _ _ s_12 (by omega) (by omega) (by omega) (by omega) (by omega)
      · have h29 : ¬ (r23.toInt ≤ 0) := fun q => h29 ((i_le rfl (rfl : (0 : Int32).toInt = 0)).mpr q)
        refine ⟨fun h30 => ?_, fun h30 => ?_⟩
        · have h30 : r26.toInt ≤ 0 := (i_le rfl (rfl : (0 : Int32).toInt = 0)).mp h30
          have t_15 : (x8 + 1).toInt = x8.toInt + 1 := ti_add rfl (rfl : (1 : Int32).toInt = 1) (by omega) (by omega)
          exact hK41 _ _ _ _ _ _ _ _ s_12 (by omega) (by omega) (by omega) (by omega) (by omega)
        · have h30 : ¬ (r26.toInt ≤ 0) := fun q => h30 ((i_le rfl (rfl : (0 : Int32).toInt = 0)).mpr q)
          intro v31 e31
          intro v32 e32
          have t_16 : (x8 + 1).toInt = x8.toInt + 1 := ti_add rfl (rfl : (1 : Int32).toInt = 1) (by omega) (by omega)
          exact hK41 _ _ _ _ _ _ _ _ s_12 (by omega) (by omega) (by omega) (by omega) (by omega)
set_option maxHeartbeats 4000000 in
set_option maxRecDepth 100000 in
theorem sp_X9_level {n : Nat} (hn : 1000000000 ≤ n) {x1 : Int32} {x2 : Int32} {x3 : Int32} {d : DD} {dl : LL} (hI : Inv d) {Q : Int64 → DD → LL → Prop} (hQ : ∀ (r : Int64) (d2 : DD) (l2 : LL), Sq d dl d2 l2 ∧ True → Q r d2 l2) : F_X9_level n x1 x2 x3 d dl Q := by
  obtain ⟨e, he⟩ : ∃ e : DD, e = d := ⟨_, rfl⟩
  obtain ⟨el, hel⟩ : ∃ el : LL, el = dl := ⟨_, rfl⟩
  have hS : Sq e el d dl := by rw [he, hel]; exact Sq.rf hI
  rw [← he, ← hel] at hQ
  show F_X9_isLane n x1 d dl (fun r1 d2 l3 => (r1 = 0 → Q (-9223372036854775808) d2 l3) ∧ (¬ r1 = 0 → F_X9_isLane n x2 d2 l3 (fun r5 d6 l7 => (r5 = 0 → Q (-9223372036854775808) d6 l7) ∧ (¬ r5 = 0 → (x1 = x2 → Q (-9223372036854775808) d6 l7) ∧ (¬ x1 = x2 → F_X9_within n x3 0 1 d6 l7 (fun r10 d11 l12 => (¬ r10 = 0 → b_X9_level_41 n Q n x1 x2 x3 0 0 0 d11 l12) ∧ (r10 = 0 → Q (-9223372036854775808) d11 l12)))))))
  refine sp_X9_isLane hn hS.1 (fun r1 d2 l3 ⟨p_17, u_18⟩ => ?_)
  have s_19 : Sq e el d2 l3 := hS.tr p_17
  have w_20 : d2 = d := p_17.2.1
  replace u_18 : (0 ≤ r1.toInt ∧ r1.toInt ≤ 1 ∧ ((r1.toInt = 1 ∧ 0 ≤ x1.toInt ∧ x1.toInt ≤ 3) ∨ (r1.toInt = 0 ∧ ¬ (0 ≤ x1.toInt ∧ x1.toInt ≤ 3)))) := u_18
  refine ⟨fun h4 => ?_, fun h4 => ?_⟩
  · have h4 : r1.toInt = 0 := (i_eq rfl (rfl : (0 : Int32).toInt = 0)).mp h4
    exact hQ _ _ _ ⟨s_19, trivial⟩
  · have h4 : ¬ (r1.toInt = 0) := fun q => h4 ((i_eq rfl (rfl : (0 : Int32).toInt = 0)).mpr q)
    refine sp_X9_isLane hn s_19.1 (fun r5 d6 l7 ⟨p_21, u_22⟩ => ?_)
    have s_23 : Sq e el d6 l7 := s_19.tr p_21
    have w_24 : d6 = d2 := p_21.2.1
    replace u_22 : (0 ≤ r5.toInt ∧ r5.toInt ≤ 1 ∧ ((r5.toInt = 1 ∧ 0 ≤ x2.toInt ∧ x2.toInt ≤ 3) ∨ (r5.toInt = 0 ∧ ¬ (0 ≤ x2.toInt ∧ x2.toInt ≤ 3)))) := u_22
    refine ⟨fun h8 => ?_, fun h8 => ?_⟩
    · have h8 : r5.toInt = 0 := (i_eq rfl (rfl : (0 : Int32).toInt = 0)).mp h8
      exact hQ _ _ _ ⟨s_23, trivial⟩
    · have h8 : ¬ (r5.toInt = 0) := fun q => h8 ((i_eq rfl (rfl : (0 : Int32).toInt = 0)).mpr q)
      refine ⟨fun h9 => ?_, fun h9 => ?_⟩
      · have h9 : x1.toInt = x2.toInt := (i_eq rfl rfl).mp h9
        exact hQ _ _ _ ⟨s_23, trivial⟩
      · have h9 : ¬ (x1.toInt = x2.toInt) := fun q => h9 ((i_eq rfl rfl).mpr q)
        refine sp_X9_within hn s_23.1 (fun r10 d11 l12 ⟨p_25, u_26⟩ => ?_)
        have s_27 : Sq e el d11 l12 := s_23.tr p_25
        have w_28 : d11 = d6 := p_25.2.1
        replace u_26 : (0 ≤ r10.toInt ∧ r10.toInt ≤ 1 ∧ ((r10.toInt = 1 ∧ 0 ≤ x3.toInt ∧ x3.toInt ≤ 1) ∨ (r10.toInt = 0 ∧ ¬ (0 ≤ x3.toInt ∧ x3.toInt ≤ 1)))) := u_26
        refine ⟨fun h13 => ?_, fun h13 => ?_⟩
        · have h13 : ¬ (r10.toInt = 0) := fun q => h13 ((i_eq rfl (rfl : (0 : Int32).toInt = 0)).mpr q)
          exact sb_X9_level_41 hn hQ n _ _ _ _ _ _ _ _ s_27 (by omega) (by omega) (by omega) (show 0 ≤ 0 ∧ 0 ≤ 6 from by omega) (show 7 - 0 < (n : Int) from by omega)
        · have h13 : r10.toInt = 0 := (i_eq rfl (rfl : (0 : Int32).toInt = 0)).mp h13
          exact hQ _ _ _ ⟨s_27, trivial⟩
set_option maxHeartbeats 4000000 in
set_option maxRecDepth 100000 in
theorem sb_X10_expect_2 {n : Nat} (hn : 1000000000 ≤ n) {e : DD} {el : LL} {Q : DD → LL → Prop} (hQ : ∀ (d2 : DD) (l2 : LL), St e el d2 l2 ∧ True → Q d2 l2) : ∀ (j2 : Nat) (w1 : Nat) (x2 : Int32) (hw1 : w1 < 19) (d : DD) (dl : LL), St e el d dl → (0 ≤ x2.toInt ∧ x2.toInt ≤ 6) → 7 - x2.toInt < (j2 : Int) → b_X10_expect_2 n Q j2 w1 x2 d dl := by
  intro j2
  induction j2 with
  | zero =>
    intro w1 x2 hw1 d dl hS bx2 hm2
    exfalso
    omega
  | succ j2 hK2 =>
    intro w1 x2 hw1 d dl hS bx2 hm2
    show F_J0_length_8abf5 n w1 d dl (fun r1 d2 l3 => (r1 ≤ x2 → Q d2 l3) ∧ (¬ r1 ≤ x2 → (¬ (d2 211 47) = (-1) → Q d2 l3) ∧ ((d2 211 47) = (-1) → F_X10_now n d2 l3 (fun r6 d7 l8 => F_J0_charAt_5068e n w1 x2 d7 l8 (fun r9 d10 l11 => (¬ r6 = r9 → ∀ d13 : DD, d13 = u2 d10 211 47 (d10 211 46) → (b_X10_expect_2 n Q j2) w1 (x2 + 1) d13 l11) ∧ (r6 = r9 → ∀ d14 : DD, d14 = u2 d10 211 46 ((d10 211 46) + 1) → (b_X10_expect_2 n Q j2) w1 (x2 + 1) d14 l11))))))
    refine sp_J0_length_8abf5 hn hS.1 hw1 (fun r1 d2 l3 ⟨p_1, u_2⟩ => ?_)
    have s_3 : St e el d2 l3 := hS.sq p_1
    have w_4 : d2 = d := p_1.2.1
    replace u_2 : (1 ≤ r1.toInt ∧ r1.toInt ≤ 6 ∧ r1.toInt = ((sbs w1).length : Int)) := u_2
    refine ⟨fun h4 => ?_, fun h4 => ?_⟩
    · have h4 : r1.toInt ≤ x2.toInt := (i_le rfl rfl).mp h4
      exact hQ _ _ ⟨s_3, trivial⟩
    · have h4 : ¬ (r1.toInt ≤ x2.toInt) := fun q => h4 ((i_le rfl rfl).mpr q)
      have q_5 : d2 211 47 = (d 211 47) := by rw [w_4]
      have m_6 := iv_211_47 hS.1
      have t_7 : (d2 211 47).toInt = (d 211 47).toInt := (congrArg Int32.toInt q_5).trans rfl
      refine ⟨fun h5 => ?_, fun h5 => ?_⟩
      · have h5 : ¬ ((d 211 47).toInt = (-1)) := fun q => h5 ((i_eq t_7 (rfl : ((-1) : Int32).toInt = (-1))).mpr q)
        exact hQ _ _ ⟨s_3, trivial⟩
      · have h5 : (d 211 47).toInt = (-1) := (i_eq t_7 (rfl : ((-1) : Int32).toInt = (-1))).mp h5
        refine sp_X10_now hn s_3.1 (fun r6 d7 l8 ⟨p_8, u_9⟩ => ?_)
        have s_10 : St e el d7 l8 := s_3.sq p_8
        have w_11 : d7 = d2 := p_8.2.1
        replace u_9 : ((r6.toInt = -1 ∨ (d2 211 46).toInt < (d2 211 4).toInt)) := u_9
        have q_12 : d2 211 46 = (d 211 46) := by rw [w_4]
        have m_13 := iv_211_46 hS.1
        have t_14 : (d2 211 46).toInt = (d 211 46).toInt := (congrArg Int32.toInt q_12).trans rfl
        have q_15 : d2 211 4 = (d 211 4) := by rw [w_4]
        have m_16 := iv_211_4 hS.1
        have t_17 : (d2 211 4).toInt = (d 211 4).toInt := (congrArg Int32.toInt q_15).trans rfl
        refine sp_J0_charAt_5068e hn s_10.1 hw1 ⟨by omega, by omega⟩ (fun r9 d10 l11 ⟨p_18, u_19⟩ => ?_)
        have s_20 : St e el d10 l11 := s_10.sq p_18
        have w_21 : d10 = d7 := p_18.2.1
        replace u_19 : (32 ≤ r9.toInt ∧ r9.toInt ≤ 122 ∧ r9 = (sbs w1).getD x2.toNatClampNeg 0) := u_19
        refine ⟨fun h12 => ?_, fun h12 => ?_⟩
        · have h12 : ¬ (r6.toInt = r9.toInt) := fun q => h12 ((i_eq rfl rfl).mpr q)
          have q_22 : d10 211 46 = (d 211 46) := by rw [w_21]; rw [w_11]; rw [w_4]
          have t_23 : (d10 211 46).toInt = (d 211 46).toInt := (congrArg Int32.toInt q_22).trans rfl
          intro d13 ed13
          have s_24 : St e el d13 l11 := by rw [ed13]; exact pv_211_47 s_20 (by rw [t_23]; omega) (by rw [t_23]; omega)
          have t_25 : (x2 + 1).toInt = x2.toInt + 1 := ti_add rfl (rfl : (1 : Int32).toInt = 1) (by omega) (by omega)
          exact hK2 _ _ hw1 _ _ s_24 (by omega) (by omega)
        · have h12 : r6.toInt = r9.toInt := (i_eq rfl rfl).mp h12
          have q_26 : d10 211 46 = (d 211 46) := by rw [w_21]; rw [w_11]; rw [w_4]
          have t_27 : (d10 211 46).toInt = (d 211 46).toInt := (congrArg Int32.toInt q_26).trans rfl
          have t_28 : ((d10 211 46) + 1).toInt = (d 211 46).toInt + 1 := ti_add t_27 (rfl : (1 : Int32).toInt = 1) (by omega) (by omega)
          intro d14 ed14
          have s_29 : St e el d14 l11 := by rw [ed14]; exact pv_211_46 s_20 (by rw [t_28]; omega) (by rw [t_28]; omega)
          have t_30 : (x2 + 1).toInt = x2.toInt + 1 := ti_add rfl (rfl : (1 : Int32).toInt = 1) (by omega) (by omega)
          exact hK2 _ _ hw1 _ _ s_29 (by omega) (by omega)
set_option maxHeartbeats 4000000 in
set_option maxRecDepth 100000 in
theorem sp_X10_expect {n : Nat} (hn : 1000000000 ≤ n) {w1 : Nat} {d : DD} {dl : LL} (hI : Inv d) (hw1 : w1 < 19) {Q : DD → LL → Prop} (hQ : ∀ (d2 : DD) (l2 : LL), St d dl d2 l2 ∧ True → Q d2 l2) : F_X10_expect n w1 d dl Q := by
  obtain ⟨e, he⟩ : ∃ e : DD, e = d := ⟨_, rfl⟩
  obtain ⟨el, hel⟩ : ∃ el : LL, el = dl := ⟨_, rfl⟩
  have hS : St e el d dl := by rw [he, hel]; exact St.rf hI
  rw [← he, ← hel] at hQ
  show b_X10_expect_2 n Q n w1 0 d dl
  exact sb_X10_expect_2 hn hQ n _ _ hw1 _ _ hS (show 0 ≤ 0 ∧ 0 ≤ 6 from by omega) (show 7 - 0 < (n : Int) from by omega)
set_option maxHeartbeats 4000000 in
set_option maxRecDepth 100000 in
theorem sb_X10_finalists_358 {n : Nat} (hn : 1000000000 ≤ n) {e : DD} {el : LL} {Q : Int32 → DD → LL → Prop} (hQ : ∀ (r : Int32) (d2 : DD) (l2 : LL), St e el d2 l2 ∧ ((-2) ≤ r.toInt ∧ r.toInt ≤ 6) → Q r d2 l2) {K184 : Int32 → Int32 → DD → LL → Prop} {j184 : Nat} (hK184 : ∀ (x2 : Int32) (x3 : Int32) (d : DD) (dl : LL), St e el d dl → (0 ≤ x2.toInt ∧ x2.toInt ≤ 9) → (0 ≤ x3.toInt ∧ x3.toInt ≤ 6) → ((d 211 7).toInt ≤ x3.toInt) → 7 - x3.toInt < (j184 : Int) → K184 x2 x3 d dl) : ∀ (x2 : Int32) (x3 : Int32) (x5 : Int32) (d : DD) (dl : LL), St e el d dl → (0 ≤ x2.toInt ∧ x2.toInt ≤ 9) → (0 ≤ x3.toInt ∧ x3.toInt ≤ 5) → (0 ≤ x5.toInt ∧ x5.toInt ≤ 5) → ((d 211 7).toInt ≤ x3.toInt + 1) → 7 - x3.toInt ≤ (j184 : Int) → b_X10_finalists_358 n Q K184 x2 x3 x5 d dl := by
  intro x2 x3 x5 d dl hS bx2 bx3 bx5 bi0 hm184
  show vp_in x5 6 ∧ ∀ d17 : DD, d17 = u2 d 241 x5.toNatClampNeg x3 → K184 x2 (x3 + 1) d17 dl
  have ih16 : vp_in x5 6 := vin rfl (by omega) (by omega)
  refine ⟨ih16, ?_⟩
  intro d17 ed17
  have s_1 : St e el d17 dl := by rw [ed17]; exact pv_241 hS (by omega) (by omega)
  have t_2 : (x3 + 1).toInt = x3.toInt + 1 := ti_add rfl (rfl : (1 : Int32).toInt = 1) (by omega) (by omega)
  have q_3 : d17 211 7 = (d 211 7) := by rw [ed17, u2_row (by omega)]
  have m_4 := iv_211_7 hS.1
  have t_5 : (d17 211 7).toInt = (d 211 7).toInt := (congrArg Int32.toInt q_3).trans rfl
  exact hK184 _ _ _ _ s_1 (by omega) (by omega) (by omega) (by omega)
set_option maxHeartbeats 4000000 in
set_option maxRecDepth 100000 in
theorem sb_X10_finalists_308 {n : Nat} (hn : 1000000000 ≤ n) {e : DD} {el : LL} {Q : Int32 → DD → LL → Prop} (hQ : ∀ (r : Int32) (d2 : DD) (l2 : LL), St e el d2 l2 ∧ ((-2) ≤ r.toInt ∧ r.toInt ≤ 6) → Q r d2 l2) {K184 : Int32 → Int32 → DD → LL → Prop} {j184 : Nat} (hK184 : ∀ (x2 : Int32) (x3 : Int32) (d : DD) (dl : LL), St e el d dl → (0 ≤ x2.toInt ∧ x2.toInt ≤ 9) → (0 ≤ x3.toInt ∧ x3.toInt ≤ 6) → ((d 211 7).toInt ≤ x3.toInt) → 7 - x3.toInt < (j184 : Int) → K184 x2 x3 d dl) : ∀ (j308 : Nat) (x2 : Int32) (x3 : Int32) (x5 : Int32) (d : DD) (dl : LL), St e el d dl → (0 ≤ x2.toInt ∧ x2.toInt ≤ 9) → (0 ≤ x3.toInt ∧ x3.toInt ≤ 5) → (0 ≤ x5.toInt ∧ x5.toInt ≤ 5) → ((d 211 7).toInt ≤ x3.toInt + 1) → 7 - x3.toInt ≤ (j184 : Int) → x5.toInt + 1 < (j308 : Int) → b_X10_finalists_308 n Q K184 j308 x2 x3 x5 d dl := by
  intro j308
  induction j308 with
  | zero =>
    intro x2 x3 x5 d dl hS bx2 bx3 bx5 bi0 hm184 hm308
    exfalso
    omega
  | succ j308 hK308 =>
    intro x2 x3 x5 d dl hS bx2 bx3 bx5 bi0 hm184 hm308
    show (x5 ≤ 0 → b_X10_finalists_358 n Q K184 x2 x3 x5 d dl) ∧ (¬ x5 ≤ 0 → vp_in (x5 - 1) 6 ∧ vp_in (d 241 (x5 - 1).toNatClampNeg) 6 ∧ vp_in x3 6 ∧ ((d 242 (d 241 (x5 - 1).toNatClampNeg).toNatClampNeg) ≤ (d 242 x3.toNatClampNeg) → b_X10_finalists_358 n Q K184 x2 x3 x5 d dl) ∧ (¬ (d 242 (d 241 (x5 - 1).toNatClampNeg).toNatClampNeg) ≤ (d 242 x3.toNatClampNeg) → vp_in (x5 - 1) 6 ∧ vp_in x5 6 ∧ ∀ d24 : DD, d24 = u2 d 241 x5.toNatClampNeg (d 241 (x5 - 1).toNatClampNeg) → (b_X10_finalists_308 n Q K184 j308) x2 x3 (x5 + (-1)) d24 dl))
    refine ⟨fun h15 => ?_, fun h15 => ?_⟩
    · have h15 : x5.toInt ≤ 0 := (i_le rfl (rfl : (0 : Int32).toInt = 0)).mp h15
      have m_6 := iv_211_7 hS.1
      exact sb_X10_finalists_358 hn hQ hK184 _ _ _ _ _ hS (by omega) (by omega) (by omega) (by omega) (by omega)
    · have h15 : ¬ (x5.toInt ≤ 0) := fun q => h15 ((i_le rfl (rfl : (0 : Int32).toInt = 0)).mpr q)
      have t_7 : (x5 - 1).toInt = x5.toInt - 1 := ti_sub rfl (rfl : (1 : Int32).toInt = 1) (by omega) (by omega)
      have ih18 : vp_in (x5 - 1) 6 := vin t_7 (by omega) (by omega)
      refine ⟨ih18, ?_⟩
      have m_8 := iv_241 hS.1 ((x5 - 1).toNatClampNeg)
      have ih19 : vp_in (d 241 (x5 - 1).toNatClampNeg) 6 := vin rfl (by omega) (by omega)
      refine ⟨ih19, ?_⟩
      have ih20 : vp_in x3 6 := vin rfl (by omega) (by omega)
      refine ⟨ih20, ?_⟩
      refine ⟨fun h21 => ?_, fun h21 => ?_⟩
      · have h21 : (d 242 (d 241 (x5 - 1).toNatClampNeg).toNatClampNeg).toInt ≤ (d 242 x3.toNatClampNeg).toInt := (i_le rfl rfl).mp h21
        have m_9 := iv_211_7 hS.1
        exact sb_X10_finalists_358 hn hQ hK184 _ _ _ _ _ hS (by omega) (by omega) (by omega) (by omega) (by omega)
      · have h21 : ¬ ((d 242 (d 241 (x5 - 1).toNatClampNeg).toNatClampNeg).toInt ≤ (d 242 x3.toNatClampNeg).toInt) := fun q => h21 ((i_le rfl rfl).mpr q)
        have ih22 : vp_in (x5 - 1) 6 := vin t_7 (by omega) (by omega)
        refine ⟨ih22, ?_⟩
        have ih23 : vp_in x5 6 := vin rfl (by omega) (by omega)
        refine ⟨ih23, ?_⟩
        intro d24 ed24
        have s_10 : St e el d24 dl := by rw [ed24]; exact pv_241 hS (by omega) (by omega)
        have t_11 : (x5 + (-1)).toInt = x5.toInt + (-1) := ti_add rfl (rfl : ((-1) : Int32).toInt = (-1)) (by omega) (by omega)
        generalize (x5 + (-1)) = z_12 at t_11 ⊢
        have q_13 : d24 211 7 = (d 211 7) := by rw [ed24, u2_row (by omega)]
        have m_14 := iv_211_7 hS.1
        have t_15 : (d24 211 7).toInt = (d 211 7).toInt := (congrArg Int32.toInt q_13).trans rfl
        exact hK308 _ _ _ _ _ s_10 (by omega) (by omega) (by omega) (by omega) (by omega) (by omega)
set_option maxHeartbeats 4000000 in
set_option maxRecDepth 100000 in
theorem sb_X10_finalists_287 {n : Nat} (hn : 1000000000 ≤ n) {e : DD} {el : LL} {Q : Int32 → DD → LL → Prop} (hQ : ∀ (r : Int32) (d2 : DD) (l2 : LL), St e el d2 l2 ∧ ((-2) ≤ r.toInt ∧ r.toInt ≤ 6) → Q r d2 l2) {K184 : Int32 → Int32 → DD → LL → Prop} {j184 : Nat} (hK184 : ∀ (x2 : Int32) (x3 : Int32) (d : DD) (dl : LL), St e el d dl → (0 ≤ x2.toInt ∧ x2.toInt ≤ 9) → (0 ≤ x3.toInt ∧ x3.toInt ≤ 6) → ((d 211 7).toInt ≤ x3.toInt) → 7 - x3.toInt < (j184 : Int) → K184 x2 x3 d dl) : ∀ (x2 : Int32) (x3 : Int32) (x4 : Int32) (d : DD) (dl : LL), St e el d dl → (0 ≤ x2.toInt ∧ x2.toInt ≤ 9) → (0 ≤ x3.toInt ∧ x3.toInt ≤ 5) → (0 ≤ x4.toInt ∧ x4.toInt ≤ 1) → ((d 211 7).toInt ≤ x3.toInt) → 7 - x3.toInt ≤ (j184 : Int) → b_X10_finalists_287 n Q K184 x2 x3 x4 d dl := by
  intro x2 x3 x4 d dl hS bx2 bx3 bx4 bi0 hm184
  show (¬ x4 = 0 → ∀ d13 : DD, d13 = u2 d 211 7 ((d 211 7) + 1) → ∀ v14 : Int32, v14 = (d 211 7) → b_X10_finalists_308 n Q K184 n x2 x3 v14 d13 dl) ∧ (x4 = 0 → K184 x2 (x3 + 1) d dl)
  refine ⟨fun h12 => ?_, fun h12 => ?_⟩
  · have h12 : ¬ (x4.toInt = 0) := fun q => h12 ((i_eq rfl (rfl : (0 : Int32).toInt = 0)).mpr q)
    have m_16 := iv_211_7 hS.1
    have t_17 : ((d 211 7) + 1).toInt = (d 211 7).toInt + 1 := ti_add rfl (rfl : (1 : Int32).toInt = 1) (by omega) (by omega)
    intro d13 ed13
    have s_18 : St e el d13 dl := by rw [ed13]; exact pv_211_7 hS (by rw [t_17]; omega) (by rw [t_17]; omega)
    intro v14 e14
    have t_19 : v14.toInt = (d 211 7).toInt := (congrArg Int32.toInt e14).trans rfl
    have q_20 : d13 211 7 = ((d 211 7) + 1) := by rw [ed13, u2_eq]
    have t_21 : (d13 211 7).toInt = ((d 211 7).toInt + 1) := (congrArg Int32.toInt q_20).trans t_17
    exact sb_X10_finalists_308 hn hQ hK184 n _ _ _ _ _ s_18 (by omega) (by omega) (by omega) (by omega) (by omega) (by omega)
  · have h12 : x4.toInt = 0 := (i_eq rfl (rfl : (0 : Int32).toInt = 0)).mp h12
    have t_22 : (x3 + 1).toInt = x3.toInt + 1 := ti_add rfl (rfl : (1 : Int32).toInt = 1) (by omega) (by omega)
    have m_23 := iv_211_7 hS.1
    exact hK184 _ _ _ _ hS (by omega) (by omega) (by omega) (by omega)
set_option maxHeartbeats 4000000 in
set_option maxRecDepth 100000 in
theorem sb_X10_finalists_285 {n : Nat} (hn : 1000000000 ≤ n) {e : DD} {el : LL} {Q : Int32 → DD → LL → Prop} (hQ : ∀ (r : Int32) (d2 : DD) (l2 : LL), St e el d2 l2 ∧ ((-2) ≤ r.toInt ∧ r.toInt ≤ 6) → Q r d2 l2) {K184 : Int32 → Int32 → DD → LL → Prop} {j184 : Nat} (hK184 : ∀ (x2 : Int32) (x3 : Int32) (d : DD) (dl : LL), St e el d dl → (0 ≤ x2.toInt ∧ x2.toInt ≤ 9) → (0 ≤ x3.toInt ∧ x3.toInt ≤ 6) → ((d 211 7).toInt ≤ x3.toInt) → 7 - x3.toInt < (j184 : Int) → K184 x2 x3 d dl) : ∀ (x2 : Int32) (x3 : Int32) (xs0 : Int32) (d : DD) (dl : LL), St e el d dl → (0 ≤ x2.toInt ∧ x2.toInt ≤ 9) → (0 ≤ x3.toInt ∧ x3.toInt ≤ 5) → (0 ≤ xs0.toInt ∧ xs0.toInt ≤ 1) → ((d 211 7).toInt ≤ x3.toInt) → 7 - x3.toInt ≤ (j184 : Int) → b_X10_finalists_285 n Q K184 x2 x3 xs0 d dl := by
  intro x2 x3 xs0 d dl hS bx2 bx3 bxs0 bi0 hm184
  show b_X10_finalists_287 n Q K184 x2 x3 xs0 d dl
  have m_24 := iv_211_7 hS.1
  exact sb_X10_finalists_287 hn hQ hK184 _ _ _ _ _ hS (by omega) (by omega) (by omega) (by omega) (by omega)
set_option maxHeartbeats 4000000 in
set_option maxRecDepth 100000 in
theorem sb_X10_finalists_220 {n : Nat} (hn : 1000000000 ≤ n) {e : DD} {el : LL} {Q : Int32 → DD → LL → Prop} (hQ : ∀ (r : Int32) (d2 : DD) (l2 : LL), St e el d2 l2 ∧ ((-2) ≤ r.toInt ∧ r.toInt ≤ 6) → Q r d2 l2) {K184 : Int32 → Int32 → DD → LL → Prop} {j184 : Nat} (hK184 : ∀ (x2 : Int32) (x3 : Int32) (d : DD) (dl : LL), St e el d dl → (0 ≤ x2.toInt ∧ x2.toInt ≤ 9) → (0 ≤ x3.toInt ∧ x3.toInt ≤ 6) → ((d 211 7).toInt ≤ x3.toInt) → 7 - x3.toInt < (j184 : Int) → K184 x2 x3 d dl) : ∀ (j220 : Nat) (x2 : Int32) (x3 : Int32) (x5 : Int32) (x6 : Int32) (d : DD) (dl : LL), St e el d dl → (0 ≤ x2.toInt ∧ x2.toInt ≤ 9) → (0 ≤ x3.toInt ∧ x3.toInt ≤ 5) → (0 ≤ x6.toInt ∧ x6.toInt ≤ 6) → ((d 211 7).toInt ≤ x3.toInt) → 7 - x3.toInt ≤ (j184 : Int) → 7 - x6.toInt < (j220 : Int) → b_X10_finalists_220 n Q K184 j220 x2 x3 x5 x6 d dl := by
  intro j220
  induction j220 with
  | zero =>
    intro x2 x3 x5 x6 d dl hS bx2 bx3 bx6 bi0 hm184 hm220
    exfalso
    omega
  | succ j220 hK220 =>
    intro x2 x3 x5 x6 d dl hS bx2 bx3 bx6 bi0 hm184 hm220
    show ((d 211 1) ≤ x6 → (x2 ≤ x5 → b_X10_finalists_285 n Q K184 x2 x3 0 d dl) ∧ (¬ x2 ≤ x5 → b_X10_finalists_285 n Q K184 x2 x3 1 d dl)) ∧ (¬ (d 211 1) ≤ x6 → vp_in x6 6 ∧ (¬ (d 243 x6.toNatClampNeg) = 0 → (b_X10_finalists_220 n Q K184 j220) x2 x3 x5 (x6 + 1) d dl) ∧ ((d 243 x6.toNatClampNeg) = 0 → vp_in x6 6 ∧ ((d 242 x6.toNatClampNeg) ≤ 0 → (b_X10_finalists_220 n Q K184 j220) x2 x3 x5 (x6 + 1) d dl) ∧ (¬ (d 242 x6.toNatClampNeg) ≤ 0 → vp_in x6 6 ∧ vp_in x3 6 ∧ ((d 242 x3.toNatClampNeg) ≤ (d 242 x6.toNatClampNeg) → (b_X10_finalists_220 n Q K184 j220) x2 x3 x5 (x6 + 1) d dl) ∧ (¬ (d 242 x3.toNatClampNeg) ≤ (d 242 x6.toNatClampNeg) → (b_X10_finalists_220 n Q K184 j220) x2 x3 (x5 + 1) (x6 + 1) d dl))))
    have m_25 := iv_211_1 hS.1
    refine ⟨fun h27 => ?_, fun h27 => ?_⟩
    · have h27 : (d 211 1).toInt ≤ x6.toInt := (i_le rfl rfl).mp h27
      refine ⟨fun h28 => ?_, fun h28 => ?_⟩
      · have h28 : x2.toInt ≤ x5.toInt := (i_le rfl rfl).mp h28
        have m_26 := iv_211_7 hS.1
        exact sb_X10_finalists_285 hn hQ hK184 _ _ _ _ _ hS (by omega) (by omega) (show 0 ≤ 0 ∧ 0 ≤ 1 from by omega) (by omega) (by omega)
      · have h28 : ¬ (x2.toInt ≤ x5.toInt) := fun q => h28 ((i_le rfl rfl).mpr q)
        have m_27 := iv_211_7 hS.1
        exact sb_X10_finalists_285 hn hQ hK184 _ _ _ _ _ hS (by omega) (by omega) (show 0 ≤ 1 ∧ 1 ≤ 1 from by omega) (by omega) (by omega)
    · have h27 : ¬ ((d 211 1).toInt ≤ x6.toInt) := fun q => h27 ((i_le rfl rfl).mpr q)
      have ih29 : vp_in x6 6 := vin rfl (by omega) (by omega)
      refine ⟨ih29, ?_⟩
      have m_28 := iv_243 hS.1 (x6.toNatClampNeg)
      refine ⟨fun h30 => ?_, fun h30 => ?_⟩
      · have h30 : ¬ ((d 243 x6.toNatClampNeg).toInt = 0) := fun q => h30 ((i_eq rfl (rfl : (0 : Int32).toInt = 0)).mpr q)
        have t_29 : (x6 + 1).toInt = x6.toInt + 1 := ti_add rfl (rfl : (1 : Int32).toInt = 1) (by omega) (by omega)
        have m_30 := iv_211_7 hS.1
        exact hK220 _ _ _ _ _ _ hS (by omega) (by omega) (by omega) (by omega) (by omega) (by omega)
      · have h30 : (d 243 x6.toNatClampNeg).toInt = 0 := (i_eq rfl (rfl : (0 : Int32).toInt = 0)).mp h30
        have ih31 : vp_in x6 6 := vin rfl (by omega) (by omega)
        refine ⟨ih31, ?_⟩
        refine ⟨fun h32 => ?_, fun h32 => ?_⟩
        · have h32 : (d 242 x6.toNatClampNeg).toInt ≤ 0 := (i_le rfl (rfl : (0 : Int32).toInt = 0)).mp h32
          have t_31 : (x6 + 1).toInt = x6.toInt + 1 := ti_add rfl (rfl : (1 : Int32).toInt = 1) (by omega) (by omega)
          have m_32 := iv_211_7 hS.1
          exact hK220 _ _ _ _ _ _ hS (by omega) (by omega) (by omega) (by omega) (by omega) (by omega)
        · have h32 : ¬ ((d 242 x6.toNatClampNeg).toInt ≤ 0) := fun q => h32 ((i_le rfl (rfl : (0 : Int32).toInt = 0)).mpr q)
          have ih33 : vp_in x6 6 := vin rfl (by omega) (by omega)
          refine ⟨ih33, ?_⟩
          have ih34 : vp_in x3 6 := vin rfl (by omega) (by omega)
          refine ⟨ih34, ?_⟩
          refine ⟨fun h35 => ?_, fun h35 => ?_⟩
          · have h35 : (d 242 x3.toNatClampNeg).toInt ≤ (d 242 x6.toNatClampNeg).toInt := (i_le rfl rfl).mp h35
            have t_33 : (x6 + 1).toInt = x6.toInt + 1 := ti_add rfl (rfl : (1 : Int32).toInt = 1) (by omega) (by omega)
            have m_34 := iv_211_7 hS.1
            exact hK220 _ _ _ _ _ _ hS (by omega) (by omega) (by omega) (by omega) (by omega) (by omega)
          · have h35 : ¬ ((d 242 x3.toNatClampNeg).toInt ≤ (d 242 x6.toNatClampNeg).toInt) := fun q => h35 ((i_le rfl rfl).mpr q)
            have t_35 : (x6 + 1).toInt = x6.toInt + 1 := ti_add rfl (rfl : (1 : Int32).toInt = 1) (by omega) (by omega)
            have m_36 := iv_211_7 hS.1
            exact hK220 _ _ _ _ _ _ hS (by omega) (by omega) (by omega) (by omega) (by omega) (by omega)
set_option maxHeartbeats 4000000 in
set_option maxRecDepth 100000 in
theorem sb_X10_finalists_184 {n : Nat} (hn : 1000000000 ≤ n) {e : DD} {el : LL} {Q : Int32 → DD → LL → Prop} (hQ : ∀ (r : Int32) (d2 : DD) (l2 : LL), St e el d2 l2 ∧ ((-2) ≤ r.toInt ∧ r.toInt ≤ 6) → Q r d2 l2) : ∀ (j184 : Nat) (x2 : Int32) (x3 : Int32) (d : DD) (dl : LL), St e el d dl → (0 ≤ x2.toInt ∧ x2.toInt ≤ 9) → (0 ≤ x3.toInt ∧ x3.toInt ≤ 6) → ((d 211 7).toInt ≤ x3.toInt) → 7 - x3.toInt < (j184 : Int) → b_X10_finalists_184 n Q j184 x2 x3 d dl := by
  intro j184
  induction j184 with
  | zero =>
    intro x2 x3 d dl hS bx2 bx3 bi0 hm184
    exfalso
    omega
  | succ j184 hK184 =>
    intro x2 x3 d dl hS bx2 bx3 bi0 hm184
    show ((d 211 1) ≤ x3 → Q (d 211 7) d dl) ∧ (¬ (d 211 1) ≤ x3 → vp_in x3 6 ∧ ∀ v10 : Int32, v10 = (d 243 x3.toNatClampNeg) → (¬ v10 = 0 → b_X10_finalists_287 n Q (b_X10_finalists_184 n Q j184) x2 x3 v10 d dl) ∧ (v10 = 0 → vp_in x3 6 ∧ ((d 242 x3.toNatClampNeg) ≤ 0 → b_X10_finalists_287 n Q (b_X10_finalists_184 n Q j184) x2 x3 v10 d dl) ∧ (¬ (d 242 x3.toNatClampNeg) ≤ 0 → b_X10_finalists_220 n Q (b_X10_finalists_184 n Q j184) n x2 x3 0 0 d dl)))
    have m_37 := iv_211_1 hS.1
    refine ⟨fun h8 => ?_, fun h8 => ?_⟩
    · have h8 : (d 211 1).toInt ≤ x3.toInt := (i_le rfl rfl).mp h8
      have m_38 := iv_211_7 hS.1
      exact hQ _ _ _ ⟨hS, by omega⟩
    · have h8 : ¬ ((d 211 1).toInt ≤ x3.toInt) := fun q => h8 ((i_le rfl rfl).mpr q)
      have ih9 : vp_in x3 6 := vin rfl (by omega) (by omega)
      refine ⟨ih9, ?_⟩
      have m_39 := iv_243 hS.1 (x3.toNatClampNeg)
      intro v10 e10
      have t_40 : v10.toInt = (d 243 x3.toNatClampNeg).toInt := (congrArg Int32.toInt e10).trans rfl
      refine ⟨fun h11 => ?_, fun h11 => ?_⟩
      · have h11 : ¬ ((d 243 x3.toNatClampNeg).toInt = 0) := fun q => h11 ((i_eq t_40 (rfl : (0 : Int32).toInt = 0)).mpr q)
        have m_41 := iv_211_7 hS.1
        exact sb_X10_finalists_287 hn hQ hK184 _ _ _ _ _ hS (by omega) (by omega) (by omega) (by omega) (by omega)
      · have h11 : (d 243 x3.toNatClampNeg).toInt = 0 := (i_eq t_40 (rfl : (0 : Int32).toInt = 0)).mp h11
        have ih25 : vp_in x3 6 := vin rfl (by omega) (by omega)
        refine ⟨ih25, ?_⟩
        refine ⟨fun h26 => ?_, fun h26 => ?_⟩
        · have h26 : (d 242 x3.toNatClampNeg).toInt ≤ 0 := (i_le rfl (rfl : (0 : Int32).toInt = 0)).mp h26
          have m_42 := iv_211_7 hS.1
          exact sb_X10_finalists_287 hn hQ hK184 _ _ _ _ _ hS (by omega) (by omega) (by omega) (by omega) (by omega)
        · have h26 : ¬ ((d 242 x3.toNatClampNeg).toInt ≤ 0) := fun q => h26 ((i_le rfl (rfl : (0 : Int32).toInt = 0)).mpr q)
          have m_43 := iv_211_7 hS.1
          exact sb_X10_finalists_220 hn hQ hK184 n _ _ _ _ _ _ hS (by omega) (by omega) (show 0 ≤ 0 ∧ 0 ≤ 6 from by omega) (by omega) (by omega) (show 7 - 0 < (n : Int) from by omega)
set_option maxHeartbeats 4000000 in
set_option maxRecDepth 100000 in
theorem sb_X10_finalists_146 {n : Nat} (hn : 1000000000 ≤ n) {e : DD} {el : LL} {Q : Int32 → DD → LL → Prop} (hQ : ∀ (r : Int32) (d2 : DD) (l2 : LL), St e el d2 l2 ∧ ((-2) ≤ r.toInt ∧ r.toInt ≤ 6) → Q r d2 l2) {K55 : Int32 → Int32 → Int32 → DD → LL → Prop} {j55 : Nat} (hK55 : ∀ (x1 : Int32) (x2 : Int32) (x3 : Int32) (d : DD) (dl : LL), St e el d dl → (0 ≤ x1.toInt ∧ x1.toInt ≤ 9) → (0 ≤ x2.toInt ∧ x2.toInt ≤ 9) → (0 ≤ x3.toInt ∧ x3.toInt ≤ 24) → 25 - x3.toInt < (j55 : Int) → K55 x1 x2 x3 d dl) {K66 : Int32 → Int32 → Int32 → Int32 → DD → LL → Prop} {j66 : Nat} (hK66 : ∀ (x1 : Int32) (x2 : Int32) (x3 : Int32) (x4 : Int32) (d : DD) (dl : LL), St e el d dl → (0 ≤ x1.toInt ∧ x1.toInt ≤ 9) → (0 ≤ x2.toInt ∧ x2.toInt ≤ 9) → (0 ≤ x3.toInt ∧ x3.toInt ≤ 23) → (0 ≤ x4.toInt ∧ x4.toInt ≤ 4) → 25 - x3.toInt ≤ (j55 : Int) → 5 - x4.toInt < (j66 : Int) → K66 x1 x2 x3 x4 d dl) : ∀ (x1 : Int32) (x2 : Int32) (x3 : Int32) (x4 : Int32) (x6 : Int32) (d : DD) (dl : LL), St e el d dl → (0 ≤ x1.toInt ∧ x1.toInt ≤ 9) → (0 ≤ x2.toInt ∧ x2.toInt ≤ 9) → (0 ≤ x3.toInt ∧ x3.toInt ≤ 23) → (0 ≤ x4.toInt ∧ x4.toInt ≤ 3) → (0 ≤ x6.toInt ∧ x6.toInt ≤ 5) → 25 - x3.toInt ≤ (j55 : Int) → 5 - x4.toInt ≤ (j66 : Int) → b_X10_finalists_146 n Q K55 K66 x1 x2 x3 x4 x6 d dl := by
  intro x1 x2 x3 x4 x6 d dl hS bx1 bx2 bx3 bx4 bx6 hm55 hm66
  show F_X10_place n x3 x4 d dl (fun r48 d49 l50 => (x1 < r48 → K66 x1 x2 x3 (x4 + 1) d49 l50) ∧ (¬ x1 < r48 → vp_in x6 6 ∧ ∀ d53 : DD, d53 = u2 d49 243 x6.toNatClampNeg (vp_nar .boolean 1) → K66 x1 x2 x3 (x4 + 1) d53 l50))
  refine sp_X10_place hn hS.1 ⟨by omega, by omega⟩ ⟨by omega, by omega⟩ (fun r48 d49 l50 ⟨p_44, u_45⟩ => ?_)
  have s_46 : St e el d49 l50 := hS.sq p_44
  have w_47 : d49 = d := p_44.2.1
  refine ⟨fun h51 => ?_, fun h51 => ?_⟩
  · have h51 : x1.toInt < r48.toInt := (i_lt rfl rfl).mp h51
    have t_48 : (x4 + 1).toInt = x4.toInt + 1 := ti_add rfl (rfl : (1 : Int32).toInt = 1) (by omega) (by omega)
    exact hK66 _ _ _ _ _ _ s_46 (by omega) (by omega) (by omega) (by omega) (by omega) (by omega)
  · have h51 : ¬ (x1.toInt < r48.toInt) := fun q => h51 ((i_lt rfl rfl).mpr q)
    have ih52 : vp_in x6 6 := vin rfl (by omega) (by omega)
    refine ⟨ih52, ?_⟩
    intro d53 ed53
    have s_49 : St e el d53 l50 := by rw [ed53]; exact pv_243 s_46 (vn_in _).1 (vn_in _).2
    have t_50 : (x4 + 1).toInt = x4.toInt + 1 := ti_add rfl (rfl : (1 : Int32).toInt = 1) (by omega) (by omega)
    exact hK66 _ _ _ _ _ _ s_49 (by omega) (by omega) (by omega) (by omega) (by omega) (by omega)
set_option maxHeartbeats 4000000 in
set_option maxRecDepth 100000 in
theorem sb_X10_finalists_137 {n : Nat} (hn : 1000000000 ≤ n) {e : DD} {el : LL} {Q : Int32 → DD → LL → Prop} (hQ : ∀ (r : Int32) (d2 : DD) (l2 : LL), St e el d2 l2 ∧ ((-2) ≤ r.toInt ∧ r.toInt ≤ 6) → Q r d2 l2) {K55 : Int32 → Int32 → Int32 → DD → LL → Prop} {j55 : Nat} (hK55 : ∀ (x1 : Int32) (x2 : Int32) (x3 : Int32) (d : DD) (dl : LL), St e el d dl → (0 ≤ x1.toInt ∧ x1.toInt ≤ 9) → (0 ≤ x2.toInt ∧ x2.toInt ≤ 9) → (0 ≤ x3.toInt ∧ x3.toInt ≤ 24) → 25 - x3.toInt < (j55 : Int) → K55 x1 x2 x3 d dl) {K66 : Int32 → Int32 → Int32 → Int32 → DD → LL → Prop} {j66 : Nat} (hK66 : ∀ (x1 : Int32) (x2 : Int32) (x3 : Int32) (x4 : Int32) (d : DD) (dl : LL), St e el d dl → (0 ≤ x1.toInt ∧ x1.toInt ≤ 9) → (0 ≤ x2.toInt ∧ x2.toInt ≤ 9) → (0 ≤ x3.toInt ∧ x3.toInt ≤ 23) → (0 ≤ x4.toInt ∧ x4.toInt ≤ 4) → 25 - x3.toInt ≤ (j55 : Int) → 5 - x4.toInt < (j66 : Int) → K66 x1 x2 x3 x4 d dl) : ∀ (x1 : Int32) (x2 : Int32) (x3 : Int32) (x4 : Int32) (x5 : Int32) (x6 : Int32) (d : DD) (dl : LL), St e el d dl → (0 ≤ x1.toInt ∧ x1.toInt ≤ 9) → (0 ≤ x2.toInt ∧ x2.toInt ≤ 9) → (0 ≤ x3.toInt ∧ x3.toInt ≤ 23) → (0 ≤ x4.toInt ∧ x4.toInt ≤ 3) → (0 ≤ x6.toInt ∧ x6.toInt ≤ 5) → 25 - x3.toInt ≤ (j55 : Int) → 5 - x4.toInt ≤ (j66 : Int) → b_X10_finalists_137 n Q K55 K66 x1 x2 x3 x4 x5 x6 d dl := by
  intro x1 x2 x3 x4 x5 x6 d dl hS bx1 bx2 bx3 bx4 bx6 hm55 hm66
  show vp_in x6 6 ∧ ∀ d47 : DD, d47 = u2 d 242 x6.toNatClampNeg x5 → b_X10_finalists_146 n Q K55 K66 x1 x2 x3 x4 x6 d47 dl
  have ih46 : vp_in x6 6 := vin rfl (by omega) (by omega)
  refine ⟨ih46, ?_⟩
  intro d47 ed47
  have s_51 : St e el d47 dl := by rw [ed47]; exact pv_242 hS
  exact sb_X10_finalists_146 hn hQ hK55 hK66 _ _ _ _ _ _ _ s_51 (by omega) (by omega) (by omega) (by omega) (by omega) (by omega) (by omega)
set_option maxHeartbeats 4000000 in
set_option maxRecDepth 100000 in
theorem sb_X10_finalists_66 {n : Nat} (hn : 1000000000 ≤ n) {e : DD} {el : LL} {Q : Int32 → DD → LL → Prop} (hQ : ∀ (r : Int32) (d2 : DD) (l2 : LL), St e el d2 l2 ∧ ((-2) ≤ r.toInt ∧ r.toInt ≤ 6) → Q r d2 l2) {K55 : Int32 → Int32 → Int32 → DD → LL → Prop} {j55 : Nat} (hK55 : ∀ (x1 : Int32) (x2 : Int32) (x3 : Int32) (d : DD) (dl : LL), St e el d dl → (0 ≤ x1.toInt ∧ x1.toInt ≤ 9) → (0 ≤ x2.toInt ∧ x2.toInt ≤ 9) → (0 ≤ x3.toInt ∧ x3.toInt ≤ 24) → 25 - x3.toInt < (j55 : Int) → K55 x1 x2 x3 d dl) : ∀ (j66 : Nat) (x1 : Int32) (x2 : Int32) (x3 : Int32) (x4 : Int32) (d : DD) (dl : LL), St e el d dl → (0 ≤ x1.toInt ∧ x1.toInt ≤ 9) → (0 ≤ x2.toInt ∧ x2.toInt ≤ 9) → (0 ≤ x3.toInt ∧ x3.toInt ≤ 23) → (0 ≤ x4.toInt ∧ x4.toInt ≤ 4) → 25 - x3.toInt ≤ (j55 : Int) → 5 - x4.toInt < (j66 : Int) → b_X10_finalists_66 n Q K55 j66 x1 x2 x3 x4 d dl := by
  intro j66
  induction j66 with
  | zero =>
    intro x1 x2 x3 x4 d dl hS bx1 bx2 bx3 bx4 hm55 hm66
    exfalso
    omega
  | succ j66 hK66 =>
    intro x1 x2 x3 x4 d dl hS bx1 bx2 bx3 bx4 hm55 hm66
    show (4 ≤ x4 → K55 x1 x2 (x3 + 1) d dl) ∧ (¬ 4 ≤ x4 → vp_in x3 24 ∧ (¬ (d 233 x3.toNatClampNeg) = 0 → K55 x1 x2 (x3 + 1) d dl) ∧ ((d 233 x3.toNatClampNeg) = 0 → vp_in (((4 : Int32) * x3) + x4) 96 ∧ ∀ v40 : Int32, v40 = (d 235 (((4 : Int32) * x3) + x4).toNatClampNeg) → (¬ v40 = 0 → vp_in (((4 : Int32) * x3) + x4) 96 ∧ ∀ v43 : Int32, v43 = (d 234 (((4 : Int32) * x3) + x4).toNatClampNeg) → vp_in v43 6 ∧ ((d 242 v43.toNatClampNeg) = 0 → b_X10_finalists_137 n Q K55 (b_X10_finalists_66 n Q K55 j66) x1 x2 x3 x4 v40 v43 d dl) ∧ (¬ (d 242 v43.toNatClampNeg) = 0 → vp_in v43 6 ∧ ((d 242 v43.toNatClampNeg) ≤ v40 → b_X10_finalists_146 n Q K55 (b_X10_finalists_66 n Q K55 j66) x1 x2 x3 x4 v43 d dl) ∧ (¬ (d 242 v43.toNatClampNeg) ≤ v40 → b_X10_finalists_137 n Q K55 (b_X10_finalists_66 n Q K55 j66) x1 x2 x3 x4 v40 v43 d dl))) ∧ (v40 = 0 → (b_X10_finalists_66 n Q K55 j66) x1 x2 x3 (x4 + 1) d dl)))
    have hj1 : ¬ (d 235 (((4 : Int32) * x3) + x4).toNatClampNeg).toInt = 0 → 0 ≤ (d 234 (((4 : Int32) * x3) + x4).toNatClampNeg).toInt := fun h => hS.1.2 _ (fun q => h (by rw [q]; rfl))
    refine ⟨fun h36 => ?_, fun h36 => ?_⟩
    · have h36 : 4 ≤ x4.toInt := (i_le (rfl : (4 : Int32).toInt = 4) rfl).mp h36
      have t_52 : (x3 + 1).toInt = x3.toInt + 1 := ti_add rfl (rfl : (1 : Int32).toInt = 1) (by omega) (by omega)
      exact hK55 _ _ _ _ _ hS (by omega) (by omega) (by omega) (by omega)
    · have h36 : ¬ (4 ≤ x4.toInt) := fun q => h36 ((i_le (rfl : (4 : Int32).toInt = 4) rfl).mpr q)
      have ih37 : vp_in x3 24 := vin rfl (by omega) (by omega)
      refine ⟨ih37, ?_⟩
      have m_53 := iv_233 hS.1 (x3.toNatClampNeg)
      refine ⟨fun h38 => ?_, fun h38 => ?_⟩
      · have h38 : ¬ ((d 233 x3.toNatClampNeg).toInt = 0) := fun q => h38 ((i_eq rfl (rfl : (0 : Int32).toInt = 0)).mpr q)
        have t_54 : (x3 + 1).toInt = x3.toInt + 1 := ti_add rfl (rfl : (1 : Int32).toInt = 1) (by omega) (by omega)
        exact hK55 _ _ _ _ _ hS (by omega) (by omega) (by omega) (by omega)
      · have h38 : (d 233 x3.toNatClampNeg).toInt = 0 := (i_eq rfl (rfl : (0 : Int32).toInt = 0)).mp h38
        have t_55 : ((4 : Int32) * x3).toInt = 4 * x3.toInt := ti_mul (rfl : (4 : Int32).toInt = 4) rfl (by omega) (by omega)
        have t_56 : (((4 : Int32) * x3) + x4).toInt = (4 * x3.toInt) + x4.toInt := ti_add t_55 rfl (by omega) (by omega)
        have ih39 : vp_in (((4 : Int32) * x3) + x4) 96 := vin t_56 (by omega) (by omega)
        refine ⟨ih39, ?_⟩
        intro v40 e40
        have t_57 : v40.toInt = (d 235 (((4 : Int32) * x3) + x4).toNatClampNeg).toInt := (congrArg Int32.toInt e40).trans rfl
        refine ⟨fun h41 => ?_, fun h41 => ?_⟩
        · have h41 : ¬ ((d 235 (((4 : Int32) * x3) + x4).toNatClampNeg).toInt = 0) := fun q => h41 ((i_eq t_57 (rfl : (0 : Int32).toInt = 0)).mpr q)
          have ih42 : vp_in (((4 : Int32) * x3) + x4) 96 := vin t_56 (by omega) (by omega)
          refine ⟨ih42, ?_⟩
          have m_58 := iv_234 hS.1 ((((4 : Int32) * x3) + x4).toNatClampNeg)
          intro v43 e43
          have t_59 : v43.toInt = (d 234 (((4 : Int32) * x3) + x4).toNatClampNeg).toInt := (congrArg Int32.toInt e43).trans rfl
          have ih44 : vp_in v43 6 := vin t_59 (by omega) (by omega)
          refine ⟨ih44, ?_⟩
          refine ⟨fun h45 => ?_, fun h45 => ?_⟩
          · have h45 : (d 242 v43.toNatClampNeg).toInt = 0 := (i_eq rfl (rfl : (0 : Int32).toInt = 0)).mp h45
            exact sb_X10_finalists_137 hn hQ hK55 hK66 _ _ _ _ _ _ _ _ hS (by omega) (by omega) (by omega) (by omega) (by omega) (by omega) (by omega)
          · have h45 : ¬ ((d 242 v43.toNatClampNeg).toInt = 0) := fun q => h45 ((i_eq rfl (rfl : (0 : Int32).toInt = 0)).mpr q)
            have ih54 : vp_in v43 6 := vin t_59 (by omega) (by omega)
            refine ⟨ih54, ?_⟩
            refine ⟨fun h55 => ?_, fun h55 => ?_⟩
            · have h55 : (d 242 v43.toNatClampNeg).toInt ≤ (d 235 (((4 : Int32) * x3) + x4).toNatClampNeg).toInt := (i_le rfl t_57).mp h55
              exact sb_X10_finalists_146 hn hQ hK55 hK66 _ _ _ _ _ _ _ hS (by omega) (by omega) (by omega) (by omega) (by omega) (by omega) (by omega)
            · have h55 : ¬ ((d 242 v43.toNatClampNeg).toInt ≤ (d 235 (((4 : Int32) * x3) + x4).toNatClampNeg).toInt) := fun q => h55 ((i_le rfl t_57).mpr q)
              exact sb_X10_finalists_137 hn hQ hK55 hK66 _ _ _ _ _ _ _ _ hS (by omega) (by omega) (by omega) (by omega) (by omega) (by omega) (by omega)
        · have h41 : (d 235 (((4 : Int32) * x3) + x4).toNatClampNeg).toInt = 0 := (i_eq t_57 (rfl : (0 : Int32).toInt = 0)).mp h41
          have t_60 : (x4 + 1).toInt = x4.toInt + 1 := ti_add rfl (rfl : (1 : Int32).toInt = 1) (by omega) (by omega)
          exact hK66 _ _ _ _ _ _ hS (by omega) (by omega) (by omega) (by omega) (by omega) (by omega)
set_option maxHeartbeats 4000000 in
set_option maxRecDepth 100000 in
theorem sb_X10_finalists_55 {n : Nat} (hn : 1000000000 ≤ n) {e : DD} {el : LL} {Q : Int32 → DD → LL → Prop} (hQ : ∀ (r : Int32) (d2 : DD) (l2 : LL), St e el d2 l2 ∧ ((-2) ≤ r.toInt ∧ r.toInt ≤ 6) → Q r d2 l2) : ∀ (j55 : Nat) (x1 : Int32) (x2 : Int32) (x3 : Int32) (d : DD) (dl : LL), St e el d dl → (0 ≤ x1.toInt ∧ x1.toInt ≤ 9) → (0 ≤ x2.toInt ∧ x2.toInt ≤ 9) → (0 ≤ x3.toInt ∧ x3.toInt ≤ 24) → 25 - x3.toInt < (j55 : Int) → b_X10_finalists_55 n Q j55 x1 x2 x3 d dl := by
  intro j55
  induction j55 with
  | zero =>
    intro x1 x2 x3 d dl hS bx1 bx2 bx3 hm55
    exfalso
    omega
  | succ j55 hK55 =>
    intro x1 x2 x3 d dl hS bx1 bx2 bx3 hm55
    show ((d 211 3) ≤ x3 → ∀ d7 : DD, d7 = u2 d 211 7 0 → b_X10_finalists_184 n Q n x2 0 d7 dl) ∧ (¬ (d 211 3) ≤ x3 → b_X10_finalists_66 n Q (b_X10_finalists_55 n Q j55) n x1 x2 x3 0 d dl)
    have m_61 := iv_211_3 hS.1
    refine ⟨fun h6 => ?_, fun h6 => ?_⟩
    · have h6 : (d 211 3).toInt ≤ x3.toInt := (i_le rfl rfl).mp h6
      intro d7 ed7
      have s_62 : St e el d7 dl := by rw [ed7]; exact pv_211_7 hS (by decide) (by decide)
      have q_63 : d7 211 7 = 0 := by rw [ed7, u2_eq]
      have t_64 : (d7 211 7).toInt = 0 := (congrArg Int32.toInt q_63).trans (rfl : (0 : Int32).toInt = 0)
      exact sb_X10_finalists_184 hn hQ n _ _ _ _ s_62 (by omega) (show 0 ≤ 0 ∧ 0 ≤ 6 from by omega) (show (d7 211 7).toInt ≤ 0 from by omega) (show 7 - 0 < (n : Int) from by omega)
    · have h6 : ¬ ((d 211 3).toInt ≤ x3.toInt) := fun q => h6 ((i_le rfl rfl).mpr q)
      exact sb_X10_finalists_66 hn hQ hK55 n _ _ _ _ _ _ hS (by omega) (by omega) (by omega) (show 0 ≤ 0 ∧ 0 ≤ 4 from by omega) (by omega) (show 5 - 0 < (n : Int) from by omega)
set_option maxHeartbeats 4000000 in
set_option maxRecDepth 100000 in
theorem sb_X10_finalists_25 {n : Nat} (hn : 1000000000 ≤ n) {e : DD} {el : LL} {Q : Int32 → DD → LL → Prop} (hQ : ∀ (r : Int32) (d2 : DD) (l2 : LL), St e el d2 l2 ∧ ((-2) ≤ r.toInt ∧ r.toInt ≤ 6) → Q r d2 l2) : ∀ (j25 : Nat) (x1 : Int32) (x2 : Int32) (x3 : Int32) (d : DD) (dl : LL), St e el d dl → (0 ≤ x1.toInt ∧ x1.toInt ≤ 9) → (0 ≤ x2.toInt ∧ x2.toInt ≤ 9) → (0 ≤ x3.toInt ∧ x3.toInt ≤ 6) → 7 - x3.toInt < (j25 : Int) → b_X10_finalists_25 n Q j25 x1 x2 x3 d dl := by
  intro j25
  induction j25 with
  | zero =>
    intro x1 x2 x3 d dl hS bx1 bx2 bx3 hm25
    exfalso
    omega
  | succ j25 hK25 =>
    intro x1 x2 x3 d dl hS bx1 bx2 bx3 hm25
    show ((d 211 1) ≤ x3 → b_X10_finalists_55 n Q n x1 x2 0 d dl) ∧ (¬ (d 211 1) ≤ x3 → vp_in x3 6 ∧ ∀ d57 : DD, d57 = u2 d 242 x3.toNatClampNeg 0 → vp_in x3 6 ∧ ∀ d59 : DD, d59 = u2 d57 243 x3.toNatClampNeg (vp_nar .boolean 0) → (b_X10_finalists_25 n Q j25) x1 x2 (x3 + 1) d59 dl)
    have m_65 := iv_211_1 hS.1
    refine ⟨fun h5 => ?_, fun h5 => ?_⟩
    · have h5 : (d 211 1).toInt ≤ x3.toInt := (i_le rfl rfl).mp h5
      exact sb_X10_finalists_55 hn hQ n _ _ _ _ _ hS (by omega) (by omega) (show 0 ≤ 0 ∧ 0 ≤ 24 from by omega) (show 25 - 0 < (n : Int) from by omega)
    · have h5 : ¬ ((d 211 1).toInt ≤ x3.toInt) := fun q => h5 ((i_le rfl rfl).mpr q)
      have ih56 : vp_in x3 6 := vin rfl (by omega) (by omega)
      refine ⟨ih56, ?_⟩
      intro d57 ed57
      have s_66 : St e el d57 dl := by rw [ed57]; exact pv_242 hS
      have ih58 : vp_in x3 6 := vin rfl (by omega) (by omega)
      refine ⟨ih58, ?_⟩
      intro d59 ed59
      have s_67 : St e el d59 dl := by rw [ed59]; exact pv_243 s_66 (vn_in _).1 (vn_in _).2
      have t_68 : (x3 + 1).toInt = x3.toInt + 1 := ti_add rfl (rfl : (1 : Int32).toInt = 1) (by omega) (by omega)
      exact hK25 _ _ _ _ _ s_67 (by omega) (by omega) (by omega) (by omega)
set_option maxHeartbeats 4000000 in
set_option maxRecDepth 100000 in
theorem sp_X10_finalists {n : Nat} (hn : 1000000000 ≤ n) {x1 : Int32} {x2 : Int32} {d : DD} {dl : LL} (hI : Inv d) {Q : Int32 → DD → LL → Prop} (hQ : ∀ (r : Int32) (d2 : DD) (l2 : LL), St d dl d2 l2 ∧ ((-2) ≤ r.toInt ∧ r.toInt ≤ 6) → Q r d2 l2) : F_X10_finalists n x1 x2 d dl Q := by
  obtain ⟨e, he⟩ : ∃ e : DD, e = d := ⟨_, rfl⟩
  obtain ⟨el, hel⟩ : ∃ el : LL, el = dl := ⟨_, rfl⟩
  have hS : St e el d dl := by rw [he, hel]; exact St.rf hI
  rw [← he, ← hel] at hQ
  show (x1 < 0 → Q (-2) d dl) ∧ (¬ x1 < 0 → (9 < x1 → Q (-2) d dl) ∧ (¬ 9 < x1 → (x2 < 0 → Q (-2) d dl) ∧ (¬ x2 < 0 → (x2 ≤ 9 → b_X10_finalists_25 n Q n x1 x2 0 d dl) ∧ (¬ x2 ≤ 9 → Q (-2) d dl))))
  refine ⟨fun h1 => ?_, fun h1 => ?_⟩
  · have h1 : x1.toInt < 0 := (i_lt rfl (rfl : (0 : Int32).toInt = 0)).mp h1
    exact hQ _ _ _ ⟨hS, (show ((-2) ≤ (-2) ∧ (-2) ≤ 6) from by omega)⟩
  · have h1 : ¬ (x1.toInt < 0) := fun q => h1 ((i_lt rfl (rfl : (0 : Int32).toInt = 0)).mpr q)
    refine ⟨fun h2 => ?_, fun h2 => ?_⟩
    · have h2 : 9 < x1.toInt := (i_lt (rfl : (9 : Int32).toInt = 9) rfl).mp h2
      exact hQ _ _ _ ⟨hS, (show ((-2) ≤ (-2) ∧ (-2) ≤ 6) from by omega)⟩
    · have h2 : ¬ (9 < x1.toInt) := fun q => h2 ((i_lt (rfl : (9 : Int32).toInt = 9) rfl).mpr q)
      refine ⟨fun h3 => ?_, fun h3 => ?_⟩
      · have h3 : x2.toInt < 0 := (i_lt rfl (rfl : (0 : Int32).toInt = 0)).mp h3
        exact hQ _ _ _ ⟨hS, (show ((-2) ≤ (-2) ∧ (-2) ≤ 6) from by omega)⟩
      · have h3 : ¬ (x2.toInt < 0) := fun q => h3 ((i_lt rfl (rfl : (0 : Int32).toInt = 0)).mpr q)
        refine ⟨fun h4 => ?_, fun h4 => ?_⟩
        · have h4 : x2.toInt ≤ 9 := (i_le rfl (rfl : (9 : Int32).toInt = 9)).mp h4
          exact sb_X10_finalists_25 hn hQ n _ _ _ _ _ hS (by omega) (by omega) (show 0 ≤ 0 ∧ 0 ≤ 6 from by omega) (show 7 - 0 < (n : Int) from by omega)
        · have h4 : ¬ (x2.toInt ≤ 9) := fun q => h4 ((i_le rfl (rfl : (9 : Int32).toInt = 9)).mpr q)
          exact hQ _ _ _ ⟨hS, (show ((-2) ≤ (-2) ∧ (-2) ≤ 6) from by omega)⟩
set_option maxHeartbeats 4000000 in
set_option maxRecDepth 100000 in
theorem sb_X10_pointsOf_124 {n : Nat} (hn : 1000000000 ≤ n) {e : DD} {el : LL} {Q : Int32 → DD → LL → Prop} (hQ : ∀ (r : Int32) (d2 : DD) (l2 : LL), Sq e el d2 l2 ∧ (True) → Q r d2 l2) {K4 : Int32 → Int32 → Int32 → DD → LL → Prop} {j4 : Nat} (hK4 : ∀ (x1 : Int32) (x2 : Int32) (x3 : Int32) (d : DD) (dl : LL), Sq e el d dl → (0 ≤ x3.toInt ∧ x3.toInt ≤ 24) → 25 - x3.toInt < (j4 : Int) → K4 x1 x2 x3 d dl) {K15 : Int32 → Int32 → Int32 → Int32 → DD → LL → Prop} {j15 : Nat} (hK15 : ∀ (x1 : Int32) (x2 : Int32) (x3 : Int32) (x4 : Int32) (d : DD) (dl : LL), Sq e el d dl → (0 ≤ x3.toInt ∧ x3.toInt ≤ 23) → (0 ≤ x4.toInt ∧ x4.toInt ≤ 4) → 25 - x3.toInt ≤ (j4 : Int) → 5 - x4.toInt < (j15 : Int) → K15 x1 x2 x3 x4 d dl) : ∀ (j124 : Nat) (x1 : Int32) (x2 : Int32) (x3 : Int32) (x4 : Int32) (x5 : Int32) (x6 : Int32) (x7 : Int32) (x8 : Int32) (d : DD) (dl : LL), Sq e el d dl → ((-1) ≤ x1.toInt ∧ x1.toInt ≤ 5) → (0 ≤ x3.toInt ∧ x3.toInt ≤ 23) → (0 ≤ x4.toInt ∧ x4.toInt ≤ 3) → (1 ≤ x6.toInt ∧ x6.toInt ≤ 4) → (0 ≤ x8.toInt ∧ x8.toInt ≤ 4) → 25 - x3.toInt ≤ (j4 : Int) → 5 - x4.toInt ≤ (j15 : Int) → 5 - x8.toInt < (j124 : Int) → b_X10_pointsOf_124 n Q K4 K15 j124 x1 x2 x3 x4 x5 x6 x7 x8 d dl := by
  intro j124
  induction j124 with
  | zero =>
    intro x1 x2 x3 x4 x5 x6 x7 x8 d dl hS bx1 bx3 bx4 bx6 bx8 hm4 hm15 hm124
    exfalso
    omega
  | succ j124 hK124 =>
    intro x1 x2 x3 x4 x5 x6 x7 x8 d dl hS bx1 bx3 bx4 bx6 bx8 hm4 hm15 hm124
    show (x6 ≤ x8 → ¬ x6 = 0 ∧ ∀ v15 : Int32, v15 = (x2 + (((60 : Int32) * x7) / x6)) → K15 x1 v15 x3 (x4 + 1) d dl) ∧ (¬ x6 ≤ x8 → F_X10_worth n (x5 + x8) d dl (fun r16 d17 l18 => ∀ v19 : Int32, v19 = (x7 + r16) → (b_X10_pointsOf_124 n Q K4 K15 j124) x1 x2 x3 x4 x5 x6 v19 (x8 + 1) d17 l18))
    refine ⟨fun h13 => ?_, fun h13 => ?_⟩
    · have h13 : x6.toInt ≤ x8.toInt := (i_le rfl rfl).mp h13
      have z_1 : ¬ x6.toInt = 0 := by omega
      refine ⟨fun q => z_1 ((i_eq rfl (rfl : (0 : Int32).toInt = 0)).mp q), ?_⟩
      intro v15 e15
      have t_2 : v15.toInt = (x2 + (((60 : Int32) * x7) / x6)).toInt := (congrArg Int32.toInt e15).trans rfl
      have t_3 : (x4 + 1).toInt = x4.toInt + 1 := ti_add rfl (rfl : (1 : Int32).toInt = 1) (by omega) (by omega)
      exact hK15 _ _ _ _ _ _ hS (by omega) (by omega) (by omega) (by omega)
    · have h13 : ¬ (x6.toInt ≤ x8.toInt) := fun q => h13 ((i_le rfl rfl).mpr q)
      refine sp_X10_worth hn hS.1 (fun r16 d17 l18 ⟨p_4, u_5⟩ => ?_)
      have s_6 : Sq e el d17 l18 := hS.tr p_4
      have w_7 : d17 = d := p_4.2.1
      intro v19 e19
      have t_8 : v19.toInt = (x7 + r16).toInt := (congrArg Int32.toInt e19).trans rfl
      have t_9 : (x8 + 1).toInt = x8.toInt + 1 := ti_add rfl (rfl : (1 : Int32).toInt = 1) (by omega) (by omega)
      exact hK124 _ _ _ _ _ _ _ _ _ _ s_6 (by omega) (by omega) (by omega) (by omega) (by omega) (by omega) (by omega) (by omega)
set_option maxHeartbeats 4000000 in
set_option maxRecDepth 100000 in
theorem sb_X10_pointsOf_78 {n : Nat} (hn : 1000000000 ≤ n) {e : DD} {el : LL} {Q : Int32 → DD → LL → Prop} (hQ : ∀ (r : Int32) (d2 : DD) (l2 : LL), Sq e el d2 l2 ∧ (True) → Q r d2 l2) {K4 : Int32 → Int32 → Int32 → DD → LL → Prop} {j4 : Nat} (hK4 : ∀ (x1 : Int32) (x2 : Int32) (x3 : Int32) (d : DD) (dl : LL), Sq e el d dl → (0 ≤ x3.toInt ∧ x3.toInt ≤ 24) → 25 - x3.toInt < (j4 : Int) → K4 x1 x2 x3 d dl) {K15 : Int32 → Int32 → Int32 → Int32 → DD → LL → Prop} {j15 : Nat} (hK15 : ∀ (x1 : Int32) (x2 : Int32) (x3 : Int32) (x4 : Int32) (d : DD) (dl : LL), Sq e el d dl → (0 ≤ x3.toInt ∧ x3.toInt ≤ 23) → (0 ≤ x4.toInt ∧ x4.toInt ≤ 4) → 25 - x3.toInt ≤ (j4 : Int) → 5 - x4.toInt < (j15 : Int) → K15 x1 x2 x3 x4 d dl) : ∀ (j78 : Nat) (x1 : Int32) (x2 : Int32) (x3 : Int32) (x4 : Int32) (x5 : Int32) (x6 : Int32) (x7 : Int32) (d : DD) (dl : LL), Sq e el d dl → ((-1) ≤ x1.toInt ∧ x1.toInt ≤ 5) → (0 ≤ x3.toInt ∧ x3.toInt ≤ 23) → (0 ≤ x4.toInt ∧ x4.toInt ≤ 3) → (0 ≤ x6.toInt ∧ x6.toInt ≤ 4) → (0 ≤ x7.toInt ∧ x7.toInt ≤ 4) → (x6.toInt ≤ x7.toInt) → (x7.toInt ≤ x4.toInt ∨ 1 ≤ x6.toInt) → 25 - x3.toInt ≤ (j4 : Int) → 5 - x4.toInt ≤ (j15 : Int) → 5 - x7.toInt < (j78 : Int) → b_X10_pointsOf_78 n Q K4 K15 j78 x1 x2 x3 x4 x5 x6 x7 d dl := by
  intro j78
  induction j78 with
  | zero =>
    intro x1 x2 x3 x4 x5 x6 x7 d dl hS bx1 bx3 bx4 bx6 bx7 bi0 bi1 hm4 hm15 hm78
    exfalso
    omega
  | succ j78 hK78 =>
    intro x1 x2 x3 x4 x5 x6 x7 d dl hS bx1 bx3 bx4 bx6 bx7 bi0 bi1 hm4 hm15 hm78
    show (4 ≤ x7 → b_X10_pointsOf_124 n Q K4 K15 n x1 x2 x3 x4 x5 x6 0 0 d dl) ∧ (¬ 4 ≤ x7 → vp_in (((4 : Int32) * x3) + x7) 96 ∧ vp_in (((4 : Int32) * x3) + x4) 96 ∧ (¬ (d 235 (((4 : Int32) * x3) + x7).toNatClampNeg) = (d 235 (((4 : Int32) * x3) + x4).toNatClampNeg) → (b_X10_pointsOf_78 n Q K4 K15 j78) x1 x2 x3 x4 x5 x6 (x7 + 1) d dl) ∧ ((d 235 (((4 : Int32) * x3) + x7).toNatClampNeg) = (d 235 (((4 : Int32) * x3) + x4).toNatClampNeg) → (b_X10_pointsOf_78 n Q K4 K15 j78) x1 x2 x3 x4 x5 (x6 + 1) (x7 + 1) d dl))
    have hcg : x7.toInt = x4.toInt → (d 235 (((4 : Int32) * x3) + x7).toNatClampNeg).toInt = (d 235 (((4 : Int32) * x3) + x4).toNatClampNeg).toInt := fun h => by rw [Int32.toInt_inj.mp h]
    refine ⟨fun h12 => ?_, fun h12 => ?_⟩
    · have h12 : 4 ≤ x7.toInt := (i_le (rfl : (4 : Int32).toInt = 4) rfl).mp h12
      exact sb_X10_pointsOf_124 hn hQ hK4 hK15 n _ _ _ _ _ _ _ _ _ _ hS (by omega) (by omega) (by omega) (by omega) (show 0 ≤ 0 ∧ 0 ≤ 4 from by omega) (by omega) (by omega) (show 5 - 0 < (n : Int) from by omega)
    · have h12 : ¬ (4 ≤ x7.toInt) := fun q => h12 ((i_le (rfl : (4 : Int32).toInt = 4) rfl).mpr q)
      have t_10 : ((4 : Int32) * x3).toInt = 4 * x3.toInt := ti_mul (rfl : (4 : Int32).toInt = 4) rfl (by omega) (by omega)
      have t_11 : (((4 : Int32) * x3) + x7).toInt = (4 * x3.toInt) + x7.toInt := ti_add t_10 rfl (by omega) (by omega)
      have ih20 : vp_in (((4 : Int32) * x3) + x7) 96 := vin t_11 (by omega) (by omega)
      refine ⟨ih20, ?_⟩
      have t_12 : (((4 : Int32) * x3) + x4).toInt = (4 * x3.toInt) + x4.toInt := ti_add t_10 rfl (by omega) (by omega)
      have ih21 : vp_in (((4 : Int32) * x3) + x4) 96 := vin t_12 (by omega) (by omega)
      refine ⟨ih21, ?_⟩
      refine ⟨fun h22 => ?_, fun h22 => ?_⟩
      · have h22 : ¬ ((d 235 (((4 : Int32) * x3) + x7).toNatClampNeg).toInt = (d 235 (((4 : Int32) * x3) + x4).toNatClampNeg).toInt) := fun q => h22 ((i_eq rfl rfl).mpr q)
        have t_13 : (x7 + 1).toInt = x7.toInt + 1 := ti_add rfl (rfl : (1 : Int32).toInt = 1) (by omega) (by omega)
        exact hK78 _ _ _ _ _ _ _ _ _ hS (by omega) (by omega) (by omega) (by omega) (by omega) (by omega) (by omega) (by omega) (by omega) (by omega)
      · have h22 : (d 235 (((4 : Int32) * x3) + x7).toNatClampNeg).toInt = (d 235 (((4 : Int32) * x3) + x4).toNatClampNeg).toInt := (i_eq rfl rfl).mp h22
        have t_14 : (x6 + 1).toInt = x6.toInt + 1 := ti_add rfl (rfl : (1 : Int32).toInt = 1) (by omega) (by omega)
        have t_15 : (x7 + 1).toInt = x7.toInt + 1 := ti_add rfl (rfl : (1 : Int32).toInt = 1) (by omega) (by omega)
        exact hK78 _ _ _ _ _ _ _ _ _ hS (by omega) (by omega) (by omega) (by omega) (by omega) (by omega) (by omega) (by omega) (by omega) (by omega)
set_option maxHeartbeats 4000000 in
set_option maxRecDepth 100000 in
theorem sb_X10_pointsOf_15 {n : Nat} (hn : 1000000000 ≤ n) {e : DD} {el : LL} {Q : Int32 → DD → LL → Prop} (hQ : ∀ (r : Int32) (d2 : DD) (l2 : LL), Sq e el d2 l2 ∧ (True) → Q r d2 l2) {K4 : Int32 → Int32 → Int32 → DD → LL → Prop} {j4 : Nat} (hK4 : ∀ (x1 : Int32) (x2 : Int32) (x3 : Int32) (d : DD) (dl : LL), Sq e el d dl → (0 ≤ x3.toInt ∧ x3.toInt ≤ 24) → 25 - x3.toInt < (j4 : Int) → K4 x1 x2 x3 d dl) : ∀ (j15 : Nat) (x1 : Int32) (x2 : Int32) (x3 : Int32) (x4 : Int32) (d : DD) (dl : LL), Sq e el d dl → (0 ≤ x3.toInt ∧ x3.toInt ≤ 23) → (0 ≤ x4.toInt ∧ x4.toInt ≤ 4) → 25 - x3.toInt ≤ (j4 : Int) → 5 - x4.toInt < (j15 : Int) → b_X10_pointsOf_15 n Q K4 j15 x1 x2 x3 x4 d dl := by
  intro j15
  induction j15 with
  | zero =>
    intro x1 x2 x3 x4 d dl hS bx3 bx4 hm4 hm15
    exfalso
    omega
  | succ j15 hK15 =>
    intro x1 x2 x3 x4 d dl hS bx3 bx4 hm4 hm15
    show (4 ≤ x4 → K4 x1 x2 (x3 + 1) d dl) ∧ (¬ 4 ≤ x4 → vp_in x3 24 ∧ (¬ (d 233 x3.toNatClampNeg) = 1 → K4 x1 x2 (x3 + 1) d dl) ∧ ((d 233 x3.toNatClampNeg) = 1 → vp_in (((4 : Int32) * x3) + x4) 96 ∧ (¬ (d 234 (((4 : Int32) * x3) + x4).toNatClampNeg) = x1 → (b_X10_pointsOf_15 n Q K4 j15) x1 x2 x3 (x4 + 1) d dl) ∧ ((d 234 (((4 : Int32) * x3) + x4).toNatClampNeg) = x1 → vp_in (((4 : Int32) * x3) + x4) 96 ∧ (¬ (d 235 (((4 : Int32) * x3) + x4).toNatClampNeg) = 0 → F_X10_place n x3 x4 d dl (fun r9 d10 l11 => b_X10_pointsOf_78 n Q K4 (b_X10_pointsOf_15 n Q K4 j15) n x1 x2 x3 x4 r9 0 0 d10 l11)) ∧ ((d 235 (((4 : Int32) * x3) + x4).toNatClampNeg) = 0 → (b_X10_pointsOf_15 n Q K4 j15) x1 x2 x3 (x4 + 1) d dl))))
    refine ⟨fun h2 => ?_, fun h2 => ?_⟩
    · have h2 : 4 ≤ x4.toInt := (i_le (rfl : (4 : Int32).toInt = 4) rfl).mp h2
      have t_16 : (x3 + 1).toInt = x3.toInt + 1 := ti_add rfl (rfl : (1 : Int32).toInt = 1) (by omega) (by omega)
      exact hK4 _ _ _ _ _ hS (by omega) (by omega)
    · have h2 : ¬ (4 ≤ x4.toInt) := fun q => h2 ((i_le (rfl : (4 : Int32).toInt = 4) rfl).mpr q)
      have ih3 : vp_in x3 24 := vin rfl (by omega) (by omega)
      refine ⟨ih3, ?_⟩
      have m_17 := iv_233 hS.1 (x3.toNatClampNeg)
      refine ⟨fun h4 => ?_, fun h4 => ?_⟩
      · have h4 : ¬ ((d 233 x3.toNatClampNeg).toInt = 1) := fun q => h4 ((i_eq rfl (rfl : (1 : Int32).toInt = 1)).mpr q)
        have t_18 : (x3 + 1).toInt = x3.toInt + 1 := ti_add rfl (rfl : (1 : Int32).toInt = 1) (by omega) (by omega)
        exact hK4 _ _ _ _ _ hS (by omega) (by omega)
      · have h4 : (d 233 x3.toNatClampNeg).toInt = 1 := (i_eq rfl (rfl : (1 : Int32).toInt = 1)).mp h4
        have t_19 : ((4 : Int32) * x3).toInt = 4 * x3.toInt := ti_mul (rfl : (4 : Int32).toInt = 4) rfl (by omega) (by omega)
        have t_20 : (((4 : Int32) * x3) + x4).toInt = (4 * x3.toInt) + x4.toInt := ti_add t_19 rfl (by omega) (by omega)
        have ih5 : vp_in (((4 : Int32) * x3) + x4) 96 := vin t_20 (by omega) (by omega)
        refine ⟨ih5, ?_⟩
        have m_21 := iv_234 hS.1 ((((4 : Int32) * x3) + x4).toNatClampNeg)
        refine ⟨fun h6 => ?_, fun h6 => ?_⟩
        · have h6 : ¬ ((d 234 (((4 : Int32) * x3) + x4).toNatClampNeg).toInt = x1.toInt) := fun q => h6 ((i_eq rfl rfl).mpr q)
          have t_22 : (x4 + 1).toInt = x4.toInt + 1 := ti_add rfl (rfl : (1 : Int32).toInt = 1) (by omega) (by omega)
          exact hK15 _ _ _ _ _ _ hS (by omega) (by omega) (by omega) (by omega)
        · have h6 : (d 234 (((4 : Int32) * x3) + x4).toNatClampNeg).toInt = x1.toInt := (i_eq rfl rfl).mp h6
          have ih7 : vp_in (((4 : Int32) * x3) + x4) 96 := vin t_20 (by omega) (by omega)
          refine ⟨ih7, ?_⟩
          refine ⟨fun h8 => ?_, fun h8 => ?_⟩
          · have h8 : ¬ ((d 235 (((4 : Int32) * x3) + x4).toNatClampNeg).toInt = 0) := fun q => h8 ((i_eq rfl (rfl : (0 : Int32).toInt = 0)).mpr q)
            refine sp_X10_place hn hS.1 ⟨by omega, by omega⟩ ⟨by omega, by omega⟩ (fun r9 d10 l11 ⟨p_23, u_24⟩ => ?_)
            have s_25 : Sq e el d10 l11 := hS.tr p_23
            have w_26 : d10 = d := p_23.2.1
            exact sb_X10_pointsOf_78 hn hQ hK4 hK15 n _ _ _ _ _ _ _ _ _ s_25 (by omega) (by omega) (by omega) (show 0 ≤ 0 ∧ 0 ≤ 4 from by omega) (show 0 ≤ 0 ∧ 0 ≤ 4 from by omega) (show 0 ≤ 0 from by omega) (show 0 ≤ x4.toInt ∨ 1 ≤ 0 from by omega) (by omega) (by omega) (show 5 - 0 < (n : Int) from by omega)
          · have h8 : (d 235 (((4 : Int32) * x3) + x4).toNatClampNeg).toInt = 0 := (i_eq rfl (rfl : (0 : Int32).toInt = 0)).mp h8
            have t_27 : (x4 + 1).toInt = x4.toInt + 1 := ti_add rfl (rfl : (1 : Int32).toInt = 1) (by omega) (by omega)
            exact hK15 _ _ _ _ _ _ hS (by omega) (by omega) (by omega) (by omega)
set_option maxHeartbeats 4000000 in
set_option maxRecDepth 100000 in
theorem sb_X10_pointsOf_4 {n : Nat} (hn : 1000000000 ≤ n) {e : DD} {el : LL} {Q : Int32 → DD → LL → Prop} (hQ : ∀ (r : Int32) (d2 : DD) (l2 : LL), Sq e el d2 l2 ∧ (True) → Q r d2 l2) : ∀ (j4 : Nat) (x1 : Int32) (x2 : Int32) (x3 : Int32) (d : DD) (dl : LL), Sq e el d dl → (0 ≤ x3.toInt ∧ x3.toInt ≤ 24) → 25 - x3.toInt < (j4 : Int) → b_X10_pointsOf_4 n Q j4 x1 x2 x3 d dl := by
  intro j4
  induction j4 with
  | zero =>
    intro x1 x2 x3 d dl hS bx3 hm4
    exfalso
    omega
  | succ j4 hK4 =>
    intro x1 x2 x3 d dl hS bx3 hm4
    show ((d 211 3) ≤ x3 → Q x2 d dl) ∧ (¬ (d 211 3) ≤ x3 → b_X10_pointsOf_15 n Q (b_X10_pointsOf_4 n Q j4) n x1 x2 x3 0 d dl)
    have m_28 := iv_211_3 hS.1
    refine ⟨fun h1 => ?_, fun h1 => ?_⟩
    · have h1 : (d 211 3).toInt ≤ x3.toInt := (i_le rfl rfl).mp h1
      exact hQ _ _ _ ⟨hS, trivial⟩
    · have h1 : ¬ ((d 211 3).toInt ≤ x3.toInt) := fun q => h1 ((i_le rfl rfl).mpr q)
      exact sb_X10_pointsOf_15 hn hQ hK4 n _ _ _ _ _ _ hS (by omega) (show 0 ≤ 0 ∧ 0 ≤ 4 from by omega) (by omega) (show 5 - 0 < (n : Int) from by omega)
set_option maxHeartbeats 4000000 in
set_option maxRecDepth 100000 in
theorem sp_X10_pointsOf {n : Nat} (hn : 1000000000 ≤ n) {x1 : Int32} {d : DD} {dl : LL} (hI : Inv d) {Q : Int32 → DD → LL → Prop} (hQ : ∀ (r : Int32) (d2 : DD) (l2 : LL), Sq d dl d2 l2 ∧ (True) → Q r d2 l2) : F_X10_pointsOf n x1 d dl Q := by
  obtain ⟨e, he⟩ : ∃ e : DD, e = d := ⟨_, rfl⟩
  obtain ⟨el, hel⟩ : ∃ el : LL, el = dl := ⟨_, rfl⟩
  have hS : Sq e el d dl := by rw [he, hel]; exact Sq.rf hI
  rw [← he, ← hel] at hQ
  show b_X10_pointsOf_4 n Q n x1 0 0 d dl
  exact sb_X10_pointsOf_4 hn hQ n _ _ _ _ _ hS (show 0 ≤ 0 ∧ 0 ≤ 24 from by omega) (show 25 - 0 < (n : Int) from by omega)
set_option maxHeartbeats 4000000 in
set_option maxRecDepth 100000 in
theorem sp_X10_points {n : Nat} (hn : 1000000000 ≤ n) {x1 : Int32} {d : DD} {dl : LL} (hI : Inv d) {Q : Int32 → DD → LL → Prop} (hQ : ∀ (r : Int32) (d2 : DD) (l2 : LL), Sq d dl d2 l2 ∧ (True) → Q r d2 l2) : F_X10_points n x1 d dl Q := by
  obtain ⟨e, he⟩ : ∃ e : DD, e = d := ⟨_, rfl⟩
  obtain ⟨el, hel⟩ : ∃ el : LL, el = dl := ⟨_, rfl⟩
  have hS : Sq e el d dl := by rw [he, hel]; exact Sq.rf hI
  rw [← he, ← hel] at hQ
  show F_X10_isCrew n x1 d dl (fun r1 d2 l3 => (r1 = 0 → Q (-1) d2 l3) ∧ (¬ r1 = 0 → F_X10_pointsOf n x1 d2 l3 (fun r5 d6 l7 => Q r5 d6 l7)))
  refine sp_X10_isCrew hn hS.1 (fun r1 d2 l3 ⟨p_1, u_2⟩ => ?_)
  have s_3 : Sq e el d2 l3 := hS.tr p_1
  have w_4 : d2 = d := p_1.2.1
  replace u_2 : (0 ≤ r1.toInt ∧ r1.toInt ≤ 1 ∧ ((r1.toInt = 1 ∧ 0 ≤ x1.toInt ∧ x1.toInt < (d 211 1).toInt) ∨ (r1.toInt = 0 ∧ ¬ (0 ≤ x1.toInt ∧ x1.toInt < (d 211 1).toInt)))) := u_2
  have m_5 := iv_211_1 hS.1
  refine ⟨fun h4 => ?_, fun h4 => ?_⟩
  · have h4 : r1.toInt = 0 := (i_eq rfl (rfl : (0 : Int32).toInt = 0)).mp h4
    exact hQ _ _ _ ⟨s_3, trivial⟩
  · have h4 : ¬ (r1.toInt = 0) := fun q => h4 ((i_eq rfl (rfl : (0 : Int32).toInt = 0)).mpr q)
    refine sp_X10_pointsOf hn s_3.1 (fun r5 d6 l7 ⟨p_6, u_7⟩ => ?_)
    have s_8 : Sq e el d6 l7 := s_3.tr p_6
    have w_9 : d6 = d2 := p_6.2.1
    exact hQ _ _ _ ⟨s_8, trivial⟩
set_option maxHeartbeats 4000000 in
set_option maxRecDepth 100000 in
theorem sb_X10_table_29 {n : Nat} (hn : 1000000000 ≤ n) {e : DD} {el : LL} {Q : Int32 → DD → LL → Prop} (hQ : ∀ (r : Int32) (d2 : DD) (l2 : LL), Sq e el d2 l2 ∧ ((-1) ≤ r.toInt ∧ r.toInt ≤ 5) → Q r d2 l2) {K16 : Int32 → Int32 → DD → LL → Prop} {j16 : Nat} (hK16 : ∀ (x1 : Int32) (x2 : Int32) (d : DD) (dl : LL), Sq e el d dl → (0 ≤ x1.toInt ∧ x1.toInt ≤ 5) → (0 ≤ x2.toInt ∧ x2.toInt ≤ 6) → 7 - x2.toInt < (j16 : Int) → K16 x1 x2 d dl) : ∀ (j29 : Nat) (x1 : Int32) (x2 : Int32) (x3 : Int32) (x4 : Int32) (d : DD) (dl : LL), Sq e el d dl → (0 ≤ x1.toInt ∧ x1.toInt ≤ 5) → (0 ≤ x2.toInt ∧ x2.toInt ≤ 5) → (0 ≤ x4.toInt ∧ x4.toInt ≤ 6) → 7 - x2.toInt ≤ (j16 : Int) → 7 - x4.toInt < (j29 : Int) → b_X10_table_29 n Q K16 j29 x1 x2 x3 x4 d dl := by
  intro j29
  induction j29 with
  | zero =>
    intro x1 x2 x3 x4 d dl hS bx1 bx2 bx4 hm16 hm29
    exfalso
    omega
  | succ j29 hK29 =>
    intro x1 x2 x3 x4 d dl hS bx1 bx2 bx4 hm16 hm29
    show ((d 211 1) ≤ x4 → (¬ x3 = x1 → K16 x1 (x2 + 1) d dl) ∧ (x3 = x1 → Q x2 d dl)) ∧ (¬ (d 211 1) ≤ x4 → F_X10_pointsOf n x4 d dl (fun r6 d7 l8 => F_X10_pointsOf n x2 d7 l8 (fun r9 d10 l11 => (r9 < r6 → (b_X10_table_29 n Q K16 j29) x1 x2 (x3 + 1) (x4 + 1) d10 l11) ∧ (¬ r9 < r6 → (x2 ≤ x4 → (b_X10_table_29 n Q K16 j29) x1 x2 x3 (x4 + 1) d10 l11) ∧ (¬ x2 ≤ x4 → F_X10_pointsOf n x4 d10 l11 (fun r14 d15 l16 => F_X10_pointsOf n x2 d15 l16 (fun r17 d18 l19 => (¬ r14 = r17 → (b_X10_table_29 n Q K16 j29) x1 x2 x3 (x4 + 1) d18 l19) ∧ (r14 = r17 → (b_X10_table_29 n Q K16 j29) x1 x2 (x3 + 1) (x4 + 1) d18 l19))))))))
    have m_1 := iv_211_1 hS.1
    refine ⟨fun h4 => ?_, fun h4 => ?_⟩
    · have h4 : (d 211 1).toInt ≤ x4.toInt := (i_le rfl rfl).mp h4
      refine ⟨fun h5 => ?_, fun h5 => ?_⟩
      · have h5 : ¬ (x3.toInt = x1.toInt) := fun q => h5 ((i_eq rfl rfl).mpr q)
        have t_2 : (x2 + 1).toInt = x2.toInt + 1 := ti_add rfl (rfl : (1 : Int32).toInt = 1) (by omega) (by omega)
        exact hK16 _ _ _ _ hS (by omega) (by omega) (by omega)
      · have h5 : x3.toInt = x1.toInt := (i_eq rfl rfl).mp h5
        exact hQ _ _ _ ⟨hS, by omega⟩
    · have h4 : ¬ ((d 211 1).toInt ≤ x4.toInt) := fun q => h4 ((i_le rfl rfl).mpr q)
      refine sp_X10_pointsOf hn hS.1 (fun r6 d7 l8 ⟨p_3, u_4⟩ => ?_)
      have s_5 : Sq e el d7 l8 := hS.tr p_3
      have w_6 : d7 = d := p_3.2.1
      refine sp_X10_pointsOf hn s_5.1 (fun r9 d10 l11 ⟨p_7, u_8⟩ => ?_)
      have s_9 : Sq e el d10 l11 := s_5.tr p_7
      have w_10 : d10 = d7 := p_7.2.1
      refine ⟨fun h12 => ?_, fun h12 => ?_⟩
      · have h12 : r9.toInt < r6.toInt := (i_lt rfl rfl).mp h12
        have t_11 : (x4 + 1).toInt = x4.toInt + 1 := ti_add rfl (rfl : (1 : Int32).toInt = 1) (by omega) (by omega)
        exact hK29 _ _ _ _ _ _ s_9 (by omega) (by omega) (by omega) (by omega) (by omega)
      · have h12 : ¬ (r9.toInt < r6.toInt) := fun q => h12 ((i_lt rfl rfl).mpr q)
        refine ⟨fun h13 => ?_, fun h13 => ?_⟩
        · have h13 : x2.toInt ≤ x4.toInt := (i_le rfl rfl).mp h13
          have t_12 : (x4 + 1).toInt = x4.toInt + 1 := ti_add rfl (rfl : (1 : Int32).toInt = 1) (by omega) (by omega)
          exact hK29 _ _ _ _ _ _ s_9 (by omega) (by omega) (by omega) (by omega) (by omega)
        · have h13 : ¬ (x2.toInt ≤ x4.toInt) := fun q => h13 ((i_le rfl rfl).mpr q)
          refine sp_X10_pointsOf hn s_9.1 (fun r14 d15 l16 ⟨p_13, u_14⟩ => ?_)
          have s_15 : Sq e el d15 l16 := s_9.tr p_13
          have w_16 : d15 = d10 := p_13.2.1
          refine sp_X10_pointsOf hn s_15.1 (fun r17 d18 l19 ⟨p_17, u_18⟩ => ?_)
          have s_19 : Sq e el d18 l19 := s_15.tr p_17
          have w_20 : d18 = d15 := p_17.2.1
          refine ⟨fun h20 => ?_, fun h20 => ?_⟩
          · have h20 : ¬ (r14.toInt = r17.toInt) := fun q => h20 ((i_eq rfl rfl).mpr q)
            have t_21 : (x4 + 1).toInt = x4.toInt + 1 := ti_add rfl (rfl : (1 : Int32).toInt = 1) (by omega) (by omega)
            exact hK29 _ _ _ _ _ _ s_19 (by omega) (by omega) (by omega) (by omega) (by omega)
          · have h20 : r14.toInt = r17.toInt := (i_eq rfl rfl).mp h20
            have t_22 : (x4 + 1).toInt = x4.toInt + 1 := ti_add rfl (rfl : (1 : Int32).toInt = 1) (by omega) (by omega)
            exact hK29 _ _ _ _ _ _ s_19 (by omega) (by omega) (by omega) (by omega) (by omega)
set_option maxHeartbeats 4000000 in
set_option maxRecDepth 100000 in
theorem sb_X10_table_16 {n : Nat} (hn : 1000000000 ≤ n) {e : DD} {el : LL} {Q : Int32 → DD → LL → Prop} (hQ : ∀ (r : Int32) (d2 : DD) (l2 : LL), Sq e el d2 l2 ∧ ((-1) ≤ r.toInt ∧ r.toInt ≤ 5) → Q r d2 l2) : ∀ (j16 : Nat) (x1 : Int32) (x2 : Int32) (d : DD) (dl : LL), Sq e el d dl → (0 ≤ x1.toInt ∧ x1.toInt ≤ 5) → (0 ≤ x2.toInt ∧ x2.toInt ≤ 6) → 7 - x2.toInt < (j16 : Int) → b_X10_table_16 n Q j16 x1 x2 d dl := by
  intro j16
  induction j16 with
  | zero =>
    intro x1 x2 d dl hS bx1 bx2 hm16
    exfalso
    omega
  | succ j16 hK16 =>
    intro x1 x2 d dl hS bx1 bx2 hm16
    show ((d 211 1) ≤ x2 → Q (-1) d dl) ∧ (¬ (d 211 1) ≤ x2 → b_X10_table_29 n Q (b_X10_table_16 n Q j16) n x1 x2 0 0 d dl)
    have m_23 := iv_211_1 hS.1
    refine ⟨fun h3 => ?_, fun h3 => ?_⟩
    · have h3 : (d 211 1).toInt ≤ x2.toInt := (i_le rfl rfl).mp h3
      exact hQ _ _ _ ⟨hS, (show ((-1) ≤ (-1) ∧ (-1) ≤ 5) from by omega)⟩
    · have h3 : ¬ ((d 211 1).toInt ≤ x2.toInt) := fun q => h3 ((i_le rfl rfl).mpr q)
      exact sb_X10_table_29 hn hQ hK16 n _ _ _ _ _ _ hS (by omega) (by omega) (show 0 ≤ 0 ∧ 0 ≤ 6 from by omega) (by omega) (show 7 - 0 < (n : Int) from by omega)
set_option maxHeartbeats 4000000 in
set_option maxRecDepth 100000 in
theorem sp_X10_table {n : Nat} (hn : 1000000000 ≤ n) {x1 : Int32} {d : DD} {dl : LL} (hI : Inv d) {Q : Int32 → DD → LL → Prop} (hQ : ∀ (r : Int32) (d2 : DD) (l2 : LL), Sq d dl d2 l2 ∧ ((-1) ≤ r.toInt ∧ r.toInt ≤ 5) → Q r d2 l2) : F_X10_table n x1 d dl Q := by
  obtain ⟨e, he⟩ : ∃ e : DD, e = d := ⟨_, rfl⟩
  obtain ⟨el, hel⟩ : ∃ el : LL, el = dl := ⟨_, rfl⟩
  have hS : Sq e el d dl := by rw [he, hel]; exact Sq.rf hI
  rw [← he, ← hel] at hQ
  show (x1 < 0 → Q (-1) d dl) ∧ (¬ x1 < 0 → (x1 < (d 211 1) → b_X10_table_16 n Q n x1 0 d dl) ∧ (¬ x1 < (d 211 1) → Q (-1) d dl))
  refine ⟨fun h1 => ?_, fun h1 => ?_⟩
  · have h1 : x1.toInt < 0 := (i_lt rfl (rfl : (0 : Int32).toInt = 0)).mp h1
    exact hQ _ _ _ ⟨hS, (show ((-1) ≤ (-1) ∧ (-1) ≤ 5) from by omega)⟩
  · have h1 : ¬ (x1.toInt < 0) := fun q => h1 ((i_lt rfl (rfl : (0 : Int32).toInt = 0)).mpr q)
    have m_24 := iv_211_1 hS.1
    refine ⟨fun h2 => ?_, fun h2 => ?_⟩
    · have h2 : x1.toInt < (d 211 1).toInt := (i_lt rfl rfl).mp h2
      exact sb_X10_table_16 hn hQ n _ _ _ _ hS (by omega) (show 0 ≤ 0 ∧ 0 ≤ 6 from by omega) (show 7 - 0 < (n : Int) from by omega)
    · have h2 : ¬ (x1.toInt < (d 211 1).toInt) := fun q => h2 ((i_lt rfl rfl).mpr q)
      exact hQ _ _ _ ⟨hS, (show ((-1) ≤ (-1) ∧ (-1) ≤ 5) from by omega)⟩
