set_option maxHeartbeats 4000000 in
set_option maxRecDepth 100000 in
theorem sb_X10_level_49 {n : Nat} (hn : 1000000000 ≤ n) {e : DD} {el : LL} {Q : Int64 → DD → LL → Prop} (hQ : ∀ (r : Int64) (d2 : DD) (l2 : LL), St e el d2 l2 ∧ True → Q r d2 l2) : ∀ (j49 : Nat) (x1 : Int32) (x2 : Int32) (x3 : Int32) (x4 : Int32) (d : DD) (dl : LL), St e el d dl → (0 ≤ x1.toInt ∧ x1.toInt ≤ 3) → (0 ≤ x2.toInt ∧ x2.toInt ≤ 3) → (0 ≤ x3.toInt ∧ x3.toInt ≤ 1) → (0 ≤ x4.toInt ∧ x4.toInt ≤ 6) → 7 - x4.toInt < (j49 : Int) → b_X10_level_49 n Q j49 x1 x2 x3 x4 d dl := by
  intro j49
  induction j49 with
  | zero =>
    intro x1 x2 x3 x4 d dl hS bx1 bx2 bx3 bx4 hm49
    exfalso
    omega
  | succ j49 hK49 =>
    intro x1 x2 x3 x4 d dl hS bx1 bx2 bx3 bx4 hm49
    show ((d 211 1) ≤ x4 → (¬ (lg_cmp (dl 211 45) 0) = 0 → (0 ≤ (lg_cmp (dl 211 44) 0) → b_X10_level_154 n Q x3 (dl 211 44) d dl) ∧ (¬ 0 ≤ (lg_cmp (dl 211 44) 0) → b_X10_level_154 n Q x3 (-(dl 211 44)) d dl)) ∧ ((lg_cmp (dl 211 45) 0) = 0 → Q (-9223372036854775808) d dl)) ∧ (¬ (d 211 1) ≤ x4 → F_X10_leastTime n x4 x1 d dl (fun r20 d21 l22 => F_X10_leastTime n x4 x2 d21 l22 (fun r23 d24 l25 => (r20 = 0 → (b_X10_level_49 n Q j49) x1 x2 x3 (x4 + 1) d24 l25) ∧ (¬ r20 = 0 → (¬ r23 = 0 → ∀ l28 : LL, l28 = l2 l25 211 44 ((l25 211 44) + ((r20 - r23).toInt64)) → ∀ l29 : LL, l29 = l2 l28 211 45 ((l28 211 45) + 1) → (b_X10_level_49 n Q j49) x1 x2 x3 (x4 + 1) d24 l29) ∧ (r23 = 0 → (b_X10_level_49 n Q j49) x1 x2 x3 (x4 + 1) d24 l25)))))
    have m_1 := iv_211_1 hS.1
    refine ⟨fun h10 => ?_, fun h10 => ?_⟩
    · have h10 : (d 211 1).toInt ≤ x4.toInt := (i_le rfl rfl).mp h10
      refine ⟨fun h11 => ?_, fun h11 => ?_⟩
      · have h11 : ¬ ((lg_cmp (dl 211 45) 0).toInt = 0) := fun q => h11 ((i_eq rfl (rfl : (0 : Int32).toInt = 0)).mpr q)
        refine ⟨fun h12 => ?_, fun h12 => ?_⟩
        · have h12 : 0 ≤ (lg_cmp (dl 211 44) 0).toInt := (i_le (rfl : (0 : Int32).toInt = 0) rfl).mp h12
          exact sb_X10_level_154 hn hQ _ _ _ _ hS (by omega) (lgc (by omega))
        · have h12 : ¬ (0 ≤ (lg_cmp (dl 211 44) 0).toInt) := fun q => h12 ((i_le (rfl : (0 : Int32).toInt = 0) rfl).mpr q)
          exact sb_X10_level_154 hn hQ _ _ _ _ hS (by omega) (lgc (by omega))
      · have h11 : (lg_cmp (dl 211 45) 0).toInt = 0 := (i_eq rfl (rfl : (0 : Int32).toInt = 0)).mp h11
        exact hQ _ _ _ ⟨hS, trivial⟩
    · have h10 : ¬ ((d 211 1).toInt ≤ x4.toInt) := fun q => h10 ((i_le rfl rfl).mpr q)
      refine sp_X10_leastTime hn hS.1 ⟨by omega, by omega⟩ (fun r20 d21 l22 ⟨p_2, u_3⟩ => ?_)
      have s_4 : St e el d21 l22 := hS.sq p_2
      have w_5 : d21 = d := p_2.2.1
      refine sp_X10_leastTime hn s_4.1 ⟨by omega, by omega⟩ (fun r23 d24 l25 ⟨p_6, u_7⟩ => ?_)
      have s_8 : St e el d24 l25 := s_4.sq p_6
      have w_9 : d24 = d21 := p_6.2.1
      refine ⟨fun h26 => ?_, fun h26 => ?_⟩
      · have h26 : r20.toInt = 0 := (i_eq rfl (rfl : (0 : Int32).toInt = 0)).mp h26
        have t_10 : (x4 + 1).toInt = x4.toInt + 1 := ti_add rfl (rfl : (1 : Int32).toInt = 1) (by omega) (by omega)
        exact hK49 _ _ _ _ _ _ s_8 (by omega) (by omega) (by omega) (by omega) (by omega)
      · have h26 : ¬ (r20.toInt = 0) := fun q => h26 ((i_eq rfl (rfl : (0 : Int32).toInt = 0)).mpr q)
        refine ⟨fun h27 => ?_, fun h27 => ?_⟩
        · have h27 : ¬ (r23.toInt = 0) := fun q => h27 ((i_eq rfl (rfl : (0 : Int32).toInt = 0)).mpr q)
          intro l28 el28
          have s_11 : St e el d24 l28 := by rw [el28]; exact pv_211_44 s_8
          intro l29 el29
          have s_12 : St e el d24 l29 := by rw [el29]; exact pv_211_45 s_11
          have t_13 : (x4 + 1).toInt = x4.toInt + 1 := ti_add rfl (rfl : (1 : Int32).toInt = 1) (by omega) (by omega)
          exact hK49 _ _ _ _ _ _ s_12 (by omega) (by omega) (by omega) (by omega) (by omega)
        · have h27 : r23.toInt = 0 := (i_eq rfl (rfl : (0 : Int32).toInt = 0)).mp h27
          have t_14 : (x4 + 1).toInt = x4.toInt + 1 := ti_add rfl (rfl : (1 : Int32).toInt = 1) (by omega) (by omega)
          exact hK49 _ _ _ _ _ _ s_8 (by omega) (by omega) (by omega) (by omega) (by omega)
set_option maxHeartbeats 4000000 in
set_option maxRecDepth 100000 in
theorem sp_X10_level {n : Nat} (hn : 1000000000 ≤ n) {x1 : Int32} {x2 : Int32} {x3 : Int32} {d : DD} {dl : LL} (hI : Inv d) {Q : Int64 → DD → LL → Prop} (hQ : ∀ (r : Int64) (d2 : DD) (l2 : LL), St d dl d2 l2 ∧ True → Q r d2 l2) : F_X10_level n x1 x2 x3 d dl Q := by
  obtain ⟨e, he⟩ : ∃ e : DD, e = d := ⟨_, rfl⟩
  obtain ⟨el, hel⟩ : ∃ el : LL, el = dl := ⟨_, rfl⟩
  have hS : St e el d dl := by rw [he, hel]; exact St.rf hI
  rw [← he, ← hel] at hQ
  show (x1 < 0 → Q (-9223372036854775808) d dl) ∧ (¬ x1 < 0 → (3 < x1 → Q (-9223372036854775808) d dl) ∧ (¬ 3 < x1 → (x2 < 0 → Q (-9223372036854775808) d dl) ∧ (¬ x2 < 0 → (3 < x2 → Q (-9223372036854775808) d dl) ∧ (¬ 3 < x2 → (x1 = x2 → Q (-9223372036854775808) d dl) ∧ (¬ x1 = x2 → (x3 < 0 → Q (-9223372036854775808) d dl) ∧ (¬ x3 < 0 → (x3 ≤ 1 → ∀ l8 : LL, l8 = l2 dl 211 44 0 → ∀ l9 : LL, l9 = l2 l8 211 45 0 → b_X10_level_49 n Q n x1 x2 x3 0 d l9) ∧ (¬ x3 ≤ 1 → Q (-9223372036854775808) d dl)))))))
  refine ⟨fun h1 => ?_, fun h1 => ?_⟩
  · have h1 : x1.toInt < 0 := (i_lt rfl (rfl : (0 : Int32).toInt = 0)).mp h1
    exact hQ _ _ _ ⟨hS, trivial⟩
  · have h1 : ¬ (x1.toInt < 0) := fun q => h1 ((i_lt rfl (rfl : (0 : Int32).toInt = 0)).mpr q)
    refine ⟨fun h2 => ?_, fun h2 => ?_⟩
    · have h2 : 3 < x1.toInt := (i_lt (rfl : (3 : Int32).toInt = 3) rfl).mp h2
      exact hQ _ _ _ ⟨hS, trivial⟩
    · have h2 : ¬ (3 < x1.toInt) := fun q => h2 ((i_lt (rfl : (3 : Int32).toInt = 3) rfl).mpr q)
      refine ⟨fun h3 => ?_, fun h3 => ?_⟩
      · have h3 : x2.toInt < 0 := (i_lt rfl (rfl : (0 : Int32).toInt = 0)).mp h3
        exact hQ _ _ _ ⟨hS, trivial⟩
      · have h3 : ¬ (x2.toInt < 0) := fun q => h3 ((i_lt rfl (rfl : (0 : Int32).toInt = 0)).mpr q)
        refine ⟨fun h4 => ?_, fun h4 => ?_⟩
        · have h4 : 3 < x2.toInt := (i_lt (rfl : (3 : Int32).toInt = 3) rfl).mp h4
          exact hQ _ _ _ ⟨hS, trivial⟩
        · have h4 : ¬ (3 < x2.toInt) := fun q => h4 ((i_lt (rfl : (3 : Int32).toInt = 3) rfl).mpr q)
          refine ⟨fun h5 => ?_, fun h5 => ?_⟩
          · have h5 : x1.toInt = x2.toInt := (i_eq rfl rfl).mp h5
            exact hQ _ _ _ ⟨hS, trivial⟩
          · have h5 : ¬ (x1.toInt = x2.toInt) := fun q => h5 ((i_eq rfl rfl).mpr q)
            refine ⟨fun h6 => ?_, fun h6 => ?_⟩
            · have h6 : x3.toInt < 0 := (i_lt rfl (rfl : (0 : Int32).toInt = 0)).mp h6
              exact hQ _ _ _ ⟨hS, trivial⟩
            · have h6 : ¬ (x3.toInt < 0) := fun q => h6 ((i_lt rfl (rfl : (0 : Int32).toInt = 0)).mpr q)
              refine ⟨fun h7 => ?_, fun h7 => ?_⟩
              · have h7 : x3.toInt ≤ 1 := (i_le rfl (rfl : (1 : Int32).toInt = 1)).mp h7
                intro l8 el8
                have s_15 : St e el d l8 := by rw [el8]; exact pv_211_44 hS
                intro l9 el9
                have s_16 : St e el d l9 := by rw [el9]; exact pv_211_45 s_15
                exact sb_X10_level_49 hn hQ n _ _ _ _ _ _ s_16 (by omega) (by omega) (by omega) (show 0 ≤ 0 ∧ 0 ≤ 6 from by omega) (show 7 - 0 < (n : Int) from by omega)
              · have h7 : ¬ (x3.toInt ≤ 1) := fun q => h7 ((i_le rfl (rfl : (1 : Int32).toInt = 1)).mpr q)
                exact hQ _ _ _ ⟨hS, trivial⟩
