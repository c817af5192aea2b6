theorem lrem_toInt {u v : Int64} (hv : ¬ v.toInt = 0) : (lrem u v).toInt = u.toInt.tmod v.toInt := by
  unfold lrem
  rw [Int64.toInt_sub, Int64.toInt_mul, Int64.toInt_div, Int.bmod_mul_bmod, Int.sub_bmod_bmod]
  rw [show u.toInt - u.toInt.tdiv v.toInt * v.toInt = u.toInt.tmod v.toInt by
    have := Int.tdiv_mul_add_tmod u.toInt v.toInt
    omega]
  have h1 : (u.toInt.tmod v.toInt).natAbs < v.toInt.natAbs := by
    rw [Int.natAbs_tmod]
    exact Nat.mod_lt _ (by omega)
  have h2 := v.toInt_lt
  have h3 := v.le_toInt
  exact Int.bmod_eq_of_le (by omega) (by omega)
theorem lrem_lt {u v : Int64} (hv : ¬ v.toInt = 0) : (lrem u v).toInt.natAbs < v.toInt.natAbs := by
  rw [lrem_toInt hv, Int.natAbs_tmod]
  exact Nat.mod_lt _ (by omega)
theorem l_eq0 {v : Int64} : v = 0 ↔ v.toInt = 0 := by
  rw [← Int64.toInt_inj]
  rfl
theorem gcd_lp {n : Nat} {e : DD} {el : LL} {Q : Int64 → DD → LL → Prop} (hQ : ∀ (r : Int64) (d2 : DD) (l2 : LL), St e el d2 l2 ∧ True → Q r d2 l2) : ∀ (k j : Nat) (x3 : Int32) (y4 y6 : Int64) (d : DD) (dl : LL), St e el d dl → k < j → y4.toInt.natAbs < y6.toInt.natAbs → y4.toInt.natAbs * y6.toInt.natAbs < 2 ^ k → b_X10_level_162 n Q j x3 y4 y6 d dl := by
  intro k
  induction k with
  | zero =>
    intro j x3 y4 y6 d dl hS hj hab hp
    obtain ⟨j, rfl⟩ : ∃ i, j = i + 1 := ⟨j - 1, by omega⟩
    have h6 : ¬ y6 = 0 := fun h => by rw [l_eq0.mp h] at hab; exact absurd hab (by omega)
    have h4 : y4.toInt.natAbs = 0 := by
      rcases Nat.mul_eq_zero.mp (Nat.lt_one_iff.mp hp) with h | h
      · exact h
      · omega
    have h4 : y4 = 0 := l_eq0.mpr (by omega)
    refine ⟨fun _ => ⟨fun _ => ⟨h6, hQ _ _ _ ⟨hS, trivial⟩⟩, fun _ => ⟨h6, hQ _ _ _ ⟨hS, trivial⟩⟩⟩, fun h => ?_⟩
    rw [h4] at h
    exact absurd (by decide) h
  | succ k ih =>
    intro j x3 y4 y6 d dl hS hj hab hp
    obtain ⟨j, rfl⟩ : ∃ i, j = i + 1 := ⟨j - 1, by omega⟩
    have h6 : ¬ y6 = 0 := fun h => by rw [l_eq0.mp h] at hab; exact absurd hab (by omega)
    refine ⟨fun _ => ⟨fun _ => ⟨h6, hQ _ _ _ ⟨hS, trivial⟩⟩, fun _ => ⟨h6, hQ _ _ _ ⟨hS, trivial⟩⟩⟩, fun h => ?_⟩
    have h4 : ¬ y4 = 0 := fun q => h (by rw [q]; decide)
    refine ⟨h4, fun v ev => ?_⟩
    have h4i : ¬ y4.toInt = 0 := fun q => h4 (l_eq0.mpr q)
    rw [ev]
    have hlt : (lrem y6 y4).toInt.natAbs < y4.toInt.natAbs := lrem_lt h4i
    refine ih j x3 _ y4 d dl hS (by omega) hlt ?_
    have e1 : (lrem y6 y4).toInt.natAbs = y6.toInt.natAbs % y4.toInt.natAbs := by rw [lrem_toInt h4i, Int.natAbs_tmod]
    have e2 := Nat.div_add_mod y6.toInt.natAbs y4.toInt.natAbs
    have e3 : 1 ≤ y6.toInt.natAbs / y4.toInt.natAbs := (Nat.le_div_iff_mul_le (by omega)).mpr (by omega)
    have e4 : y4.toInt.natAbs * 1 ≤ y4.toInt.natAbs * (y6.toInt.natAbs / y4.toInt.natAbs) := Nat.mul_le_mul_left _ e3
    have e5 : 2 * (lrem y6 y4).toInt.natAbs ≤ y6.toInt.natAbs := by omega
    have e6 : y4.toInt.natAbs * (2 * (lrem y6 y4).toInt.natAbs) ≤ y4.toInt.natAbs * y6.toInt.natAbs := Nat.mul_le_mul_left _ e5
    have e7 : y4.toInt.natAbs * (2 * (lrem y6 y4).toInt.natAbs) = 2 * ((lrem y6 y4).toInt.natAbs * y4.toInt.natAbs) := by rw [Nat.mul_left_comm, Nat.mul_comm y4.toInt.natAbs]
    rw [Nat.pow_succ] at hp
    omega
theorem sb_X10_level_154 {n : Nat} (hn : 1000000000 ≤ n) {e : DD} {el : LL} {Q : Int64 → DD → LL → Prop} (hQ : ∀ (r : Int64) (d2 : DD) (l2 : LL), St e el d2 l2 ∧ True → Q r d2 l2) : ∀ (x3 : Int32) (ys0 : Int64) (d : DD) (dl : LL), St e el d dl → (0 ≤ x3.toInt ∧ x3.toInt ≤ 1) → (¬ dl 211 45 = 0) → b_X10_level_154 n Q x3 ys0 d dl := by
  intro x3 ys0 d dl hS _ h45
  intro v ev
  have hv : ¬ v = 0 := by rw [ev]; exact h45
  have hvi : ¬ v.toInt = 0 := fun q => hv (l_eq0.mpr q)
  have b1 := v.toInt_lt
  have b2 := v.le_toInt
  have b3 := ys0.toInt_lt
  have b4 := ys0.le_toInt
  have key : ∀ a b : Nat, a ≤ 2 ^ 63 → b ≤ 2 ^ 63 → a * b < 2 ^ 127 := fun a b h1 h2 => Nat.lt_of_le_of_lt (Nat.mul_le_mul h1 h2) (by decide)
  by_cases h : ys0.toInt.natAbs < v.toInt.natAbs
  · exact gcd_lp hQ 127 n x3 ys0 v d dl hS (by omega) h (key _ _ (by omega) (by omega))
  · obtain ⟨n2, rfl⟩ : ∃ i, n = i + 1 := ⟨n - 1, by omega⟩
    have h4i : ¬ ys0.toInt = 0 := by omega
    have h4 : ¬ ys0 = 0 := fun q => h4i (l_eq0.mp q)
    refine ⟨fun _ => ⟨fun _ => ⟨hv, hQ _ _ _ ⟨hS, trivial⟩⟩, fun _ => ⟨hv, hQ _ _ _ ⟨hS, trivial⟩⟩⟩, fun _ => ⟨h4, fun u eu => ?_⟩⟩
    rw [eu]
    exact gcd_lp hQ 127 n2 x3 _ ys0 d dl hS (by omega) (lrem_lt h4i) (key _ _ (Nat.le_trans (Nat.le_of_lt (lrem_lt h4i)) (by omega)) (by omega))
