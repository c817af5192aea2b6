def Mem (d : DD) (k : Nat) (p : Int32) : Prop := ∃ i : Nat, (i : Int) < (d 220 k).toInt ∧ d 222 (8 * k + i) = p
theorem ix8 {x1 x3 : Int32} (a1 : 0 ≤ x1.toInt) (a2 : x1.toInt ≤ 5) (b1 : 0 ≤ x3.toInt) (b2 : x3.toInt < 8) : vp_in (((8 : Int32) * x1) + x3) 48 ∧ (((8 : Int32) * x1) + x3).toNatClampNeg = 8 * x1.toNatClampNeg + x3.toNatClampNeg := by
  have t8 : ((8 : Int32) * x1).toInt = 8 * x1.toInt := ti_mul (rfl : (8 : Int32).toInt = 8) rfl (by omega) (by omega)
  have t : (((8 : Int32) * x1) + x3).toInt = 8 * x1.toInt + x3.toInt := ti_add t8 rfl (by omega) (by omega)
  refine ⟨vin t (by omega) (by omega), ?_⟩
  rw [clampI t]
  have a : x1.toNatClampNeg = x1.toInt.toNat := rfl
  have b : x3.toNatClampNeg = x3.toInt.toNat := rfl
  omega
theorem fb_X10_isMember_2 {n : Nat} {Q : Int32 → DD → LL → Prop} {x1 x2 : Int32} {d : DD} {dl : LL} (hI : Inv d) (b1 : 0 ≤ x1.toInt ∧ x1.toInt ≤ 5) (hQ : ∀ r : Int32, ((r = 1 ∧ Mem d x1.toNatClampNeg x2) ∨ (r = 0 ∧ ¬ Mem d x1.toNatClampNeg x2)) → Q r d dl) : ∀ (j : Nat) (x3 : Int32), 0 ≤ x3.toInt → x3.toInt ≤ 8 → (∀ i : Nat, (i : Int) < x3.toInt → d 222 (8 * x1.toNatClampNeg + i) ≠ x2) → 9 ≤ x3.toInt + (j : Int) → b_X10_isMember_2 n Q j x1 x2 x3 d dl := by
  intro j
  induction j with
  | zero =>
    intro x3 h0 h1 hno hm
    exfalso
    omega
  | succ j hK =>
    intro x3 h0 h1 hno hm
    show _ ∧ _
    have m := iv_220 hI x1.toNatClampNeg
    refine ⟨vin rfl (by omega) (by omega), fun h => ?_, fun h => ?_⟩
    · have h : (d 220 x1.toNatClampNeg).toInt ≤ x3.toInt := (i_le rfl rfl).mp h
      exact hQ 0 (Or.inr ⟨rfl, fun ⟨i, hi, e⟩ => hno i (by omega) e⟩)
    · have h : ¬ (d 220 x1.toNatClampNeg).toInt ≤ x3.toInt := fun q => h ((i_le rfl rfl).mpr q)
      obtain ⟨hi, hc⟩ := ix8 b1.1 b1.2 h0 (show x3.toInt < 8 by omega)
      refine ⟨hi, ?_⟩
      rw [hc]
      have hx : x3.toNatClampNeg = x3.toInt.toNat := rfl
      refine ⟨fun hne => ?_, fun he => hQ 1 (Or.inl ⟨rfl, x3.toNatClampNeg, by omega, he⟩)⟩
      have t : (x3 + 1).toInt = x3.toInt + 1 := ti_add rfl (rfl : (1 : Int32).toInt = 1) (by omega) (by omega)
      refine hK _ (by omega) (by omega) (fun i hi2 => ?_) (by omega)
      by_cases hi3 : i = x3.toNatClampNeg
      · rw [hi3]; exact hne
      · exact hno i (by omega)
theorem fn_X10_isMember {n : Nat} (hn : 1000000000 ≤ n) {x1 x2 : Int32} {d : DD} {dl : LL} (hI : Inv d) (b1 : 0 ≤ x1.toInt ∧ x1.toInt ≤ 5) {Q : Int32 → DD → LL → Prop} (hQ : ∀ r : Int32, ((r = 1 ∧ Mem d x1.toNatClampNeg x2) ∨ (r = 0 ∧ ¬ Mem d x1.toNatClampNeg x2)) → Q r d dl) : F_X10_isMember n x1 x2 d dl Q :=
  fb_X10_isMember_2 hI b1 hQ n 0 (show (0 : Int) ≤ 0 by omega) (show (0 : Int) ≤ 8 by omega) (fun i hi => absurd (show (i : Int) < 0 from hi) (by omega)) (show (9 : Int) ≤ 0 + (n : Int) by omega)
def Com (d : DD) (a b : Nat) : Prop := ∃ i : Nat, (i : Int) < (d 220 a).toInt ∧ Mem d b (d 222 (8 * a + i))
theorem fb_X10_haveCommon_9 {n : Nat} (hn : 1000000000 ≤ n) {Q : Int32 → DD → LL → Prop} {x1 x2 : Int32} {d : DD} {dl : LL} (hI : Inv d) (b1 : 0 ≤ x1.toInt ∧ x1.toInt ≤ 5) (b2 : 0 ≤ x2.toInt ∧ x2.toInt ≤ 5) (hQ : ∀ r : Int32, ((r = 1 ∧ Com d x1.toNatClampNeg x2.toNatClampNeg) ∨ (r = 0 ∧ ¬ Com d x1.toNatClampNeg x2.toNatClampNeg)) → Q r d dl) : ∀ (j : Nat) (x3 : Int32), 0 ≤ x3.toInt → x3.toInt ≤ 8 → (∀ i : Nat, (i : Int) < x3.toInt → ¬ Mem d x2.toNatClampNeg (d 222 (8 * x1.toNatClampNeg + i))) → 9 ≤ x3.toInt + (j : Int) → b_X10_haveCommon_9 n Q j x1 x2 x3 d dl := by
  intro j
  induction j with
  | zero =>
    intro x3 h0 h1 hno hm
    exfalso
    omega
  | succ j hK =>
    intro x3 h0 h1 hno hm
    show _ ∧ _
    have m := iv_220 hI x1.toNatClampNeg
    refine ⟨vin rfl (by omega) (by omega), fun h => ?_, fun h => ?_⟩
    · have h : (d 220 x1.toNatClampNeg).toInt ≤ x3.toInt := (i_le rfl rfl).mp h
      exact hQ 0 (Or.inr ⟨rfl, fun ⟨i, hi, e⟩ => hno i (by omega) e⟩)
    · have h : ¬ (d 220 x1.toNatClampNeg).toInt ≤ x3.toInt := fun q => h ((i_le rfl rfl).mpr q)
      obtain ⟨hi, hc⟩ := ix8 b1.1 b1.2 h0 (show x3.toInt < 8 by omega)
      refine ⟨hi, ?_⟩
      rw [hc]
      have hx : x3.toNatClampNeg = x3.toInt.toNat := rfl
      refine fn_X10_isMember hn hI b2 (fun r hr => ?_)
      refine ⟨fun h0 => ?_, fun h1 => ?_⟩
      · have hne : ¬ Mem d x2.toNatClampNeg (d 222 (8 * x1.toNatClampNeg + x3.toNatClampNeg)) := by
          rcases hr with ⟨e, _⟩ | ⟨_, hr⟩
          · rw [e] at h0; exact absurd h0 (by decide)
          · exact hr
        have t : (x3 + 1).toInt = x3.toInt + 1 := ti_add rfl (rfl : (1 : Int32).toInt = 1) (by omega) (by omega)
        refine hK _ (by omega) (by omega) (fun i hi2 => ?_) (by omega)
        by_cases hi3 : i = x3.toNatClampNeg
        · rw [hi3]; exact hne
        · exact hno i (by omega)
      · rcases hr with ⟨_, hr⟩ | ⟨e, _⟩
        · exact hQ 1 (Or.inl ⟨rfl, x3.toNatClampNeg, by omega, hr⟩)
        · exact absurd e h1
