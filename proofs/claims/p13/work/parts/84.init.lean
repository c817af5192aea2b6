theorem lo_le0 {c j : Nat} (h : c ≠ 37) : lo c j ≤ 0 := by
  unfold lo
  split
  all_goals first
    | exact absurd rfl h
    | (repeat' split) <;> omega
theorem le_hi0 {c j : Nat} : 0 ≤ hi c j := by
  unfold hi
  split
  all_goals (repeat' split) <;> omega
theorem rg_ne37 {i : Nat} (h : ¬ (37 ≤ i ∧ i < 55 ∧ (i - 37) % 3 = 0)) : rg i ≠ 37 := by
  unfold rg
  repeat' split
  all_goals omega
theorem W4_in (j : Nat) : -1 ≤ (W4 j).toInt ∧ (W4 j).toInt ≤ 5 := by
  have h : W4 j = 0 ∨ W4 j = -1 := by
    unfold W4 upd
    repeat' split
    all_goals first
      | exact Or.inl rfl
      | exact Or.inr rfl
  rcases h with h | h <;> rw [h] <;> decide
theorem Inv_d0 : Inv d0 := by
  refine ⟨fun i j => ?_, fun a ha => absurd (congrFun (d0_z (i := 235) (by decide) (by decide) (by decide) (by decide) (by omega)) a) ha⟩
  by_cases hc : 37 ≤ i ∧ i < 55 ∧ (i - 37) % 3 = 0
  · have hr : rg i = 37 := by
      unfold rg
      rw [if_neg (by omega), if_pos hc.2.1]
      omega
    rw [hr, d0_crew hc.1 hc.2.1 hc.2.2]
    by_cases j0 : j = 0
    · subst j0; decide
    by_cases j2 : j = 2
    · subst j2; decide
    show lo 37 j ≤ ((if j = 0 then 2 else if j = 2 then 4 else 0 : Int32)).toInt ∧ ((if j = 0 then 2 else if j = 2 then 4 else 0 : Int32)).toInt ≤ hi 37 j
    rw [if_neg j0, if_neg j2]
    refine ⟨?_, le_hi0⟩
    show lo 37 j ≤ 0
    simp only [lo, j0, j2, if_false]
    repeat' split
    all_goals omega
  · have hr := rg_ne37 hc
    by_cases h0 : i = 0
    · subst h0
      by_cases j9 : j = 9
      · subst j9; decide
      have e : d0 0 j = 0 := by show (if j = 9 then 10 else 0 : Int32) = 0; rw [if_neg j9]
      rw [e]; exact ⟨lo_le0 hr, le_hi0⟩
    by_cases h1 : i = 28
    · subst h1; exact W4_in j
    by_cases h2 : i = 211
    · subst h2
      by_cases j9 : j = 5
      · subst j9; decide
      have e : d0 211 j = 0 := by show (if j = 5 then 10 else 0 : Int32) = 0; rw [if_neg j9]
      rw [e]; exact ⟨lo_le0 hr, le_hi0⟩
    by_cases h3 : i = 239
    · subst h3; exact W4_in j
    rw [d0_z h0 h1 h2 h3 hc]
    exact ⟨lo_le0 hr, le_hi0⟩
theorem R0_d0 : R0 d0 l0 := by
  refine ⟨Inv_d0, rfl, rfl, fun _ => rfl, rfl, ?_, ?_, ?_, ?_, fun _ _ => rfl, ?_, rfl, ?_, rfl, ⟨rfl, fun _ => rfl⟩, fun _ => ⟨rfl, rfl, rfl, rfl, rfl⟩, ?_, ?_, ?_, ?_, fun _ _ _ _ => rfl, ?_⟩
  · exact fun k hk => ⟨fun q => absurd q (by show ¬ (k : Int) < 0; omega), fun _ => by rw [d0_crew (by omega) (by omega) (by omega)]; rfl⟩
  · intro p q _ _
    have e : d0 217 (40 * p + q) = 0 := rfl
    rw [e, show l0 7 p = 0 from rfl, bt_zero]
    decide
  · intro k hk
    rw [d0_crew (by omega) (by omega) (by omega)]
    rfl
  · intro k hk p hp
    rw [show l0 (37 + 3 * k) 5 = 0 from rfl, bt_zero]
    exact ⟨fun h => absurd h (by decide), fun ⟨i, h, _⟩ => absurd (show (i : Int) < 0 from h) (by omega)⟩
  · show (0 : Int) = wn (W4 0) + wn (W4 1) + wn (W4 2) + wn (W4 3)
    rw [show W4 0 = -1 from by decide, show W4 1 = -1 from by decide, show W4 2 = -1 from by decide, show W4 3 = -1 from by decide]
    decide
  · intro r _ q
    exact absurd (show (r : Int) < 0 from q) (by omega)
  · intro k _ q
    exact absurd (show (k : Int) < 0 from q) (by omega)
  · intro k j hk _
    rw [d0_z (i := 38 + 3 * k) (by omega) (by omega) (by omega) (by omega) (by omega)]
    rfl
  · intro k hk
    rw [d0_crew (by omega) (by omega) (by omega)]
    rfl
  · intro k hk q
    exact absurd (show d0 224 k = 0 from rfl) q
  · intro r _ q
    exact absurd (show (r : Int) < 0 from q) (by omega)
