theorem str_len : ∀ w, w < 19 → ((Int32.ofNat (sbs w).length) >>> ((0 : Int32) &&& 31)).toInt = ((sbs w).length : Int) ∧ 1 ≤ (sbs w).length ∧ (sbs w).length ≤ 6 ∧ (Int32.ofNat (sbs w).length).toInt = ((sbs w).length : Int) := by decide
theorem str_chr : ∀ w, w < 19 → ∀ i, i < 6 → i < (sbs w).length → (((((sbs w).getD i 0) &&& 255).toUInt32 % 65536).toInt32) = (sbs w).getD i 0 ∧ narrow .char (.int ((sbs w).getD i 0)) = .int ((sbs w).getD i 0) ∧ 32 ≤ ((sbs w).getD i 0).toInt ∧ ((sbs w).getD i 0).toInt ≤ 122 := by decide
theorem sp_J0_length_8abf5 {n : Nat} (hn : 1000000000 ≤ n) {w0 : Nat} {d : DD} {dl : LL} (hI : Inv d) (hw0 : w0 < 19) {Q : Int32 → DD → LL → Prop} (hQ : ∀ (r : Int32) (d2 : DD) (l2 : LL), Sq d dl d2 l2 ∧ (1 ≤ r.toInt ∧ r.toInt ≤ 6 ∧ r.toInt = ((sbs w0).length : Int)) → Q r d2 l2) : F_J0_length_8abf5 n w0 d dl Q := by
  show Q ((Int32.ofNat (sbs w0).length) >>> ((0 : Int32) &&& 31)) d dl
  have h := str_len w0 hw0
  exact hQ _ _ _ ⟨Sq.rf hI, by omega, by omega, h.1⟩
theorem sp_J3_checkIndex_8e157 {n : Nat} {x0 x1 : Int32} {d : DD} {dl : LL} {Q : Int32 → DD → LL → Prop} (h0 : 0 ≤ x0.toInt) (h1 : x0.toInt < x1.toInt) (hQ : Q x0 d dl) : F_J3_checkIndex_8e157 n x0 x1 d dl Q := by
  refine ⟨fun h => ?_, fun _ => ⟨fun _ => hQ, fun h => ?_⟩⟩
  · have h : x0.toInt < 0 := (i_lt rfl (rfl : (0 : Int32).toInt = 0)).mp h
    omega
  · exact absurd ((i_lt rfl rfl).mpr h1) h
theorem sp_J0_charAt_5068e {n : Nat} (hn : 1000000000 ≤ n) {w0 : Nat} {x1 : Int32} {d : DD} {dl : LL} (hI : Inv d) (hw0 : w0 < 19) (hx1 : 0 ≤ x1.toInt ∧ x1.toInt < ((sbs w0).length : Int)) {Q : Int32 → DD → LL → Prop} (hQ : ∀ (r : Int32) (d2 : DD) (l2 : LL), Sq d dl d2 l2 ∧ (32 ≤ r.toInt ∧ r.toInt ≤ 122 ∧ r = (sbs w0).getD x1.toNatClampNeg 0) → Q r d2 l2) : F_J0_charAt_5068e n w0 x1 d dl Q := by
  have h := str_len w0 hw0
  have hc : x1.toNatClampNeg < (sbs w0).length := by rw [clampI (rfl : x1.toInt = x1.toInt)]; omega
  obtain ⟨e1, e2, e3, e4⟩ := str_chr w0 hw0 x1.toNatClampNeg (by omega) hc
  show F_J0_isLatin1_aae02 n w0 d dl (fun r1 d2 l3 => (r1 = 0 → False) ∧ (¬ r1 = 0 → F_J1_charAt_3b067 n w0 x1 d2 l3 (fun r5 d6 l7 => narrow .char (.int r5) = .int r5 ∧ Q r5 d6 l7)))
  show (((1 : Int32) = 0 → False) ∧ (¬ (1 : Int32) = 0 → F_J1_charAt_3b067 n w0 x1 d dl (fun r5 d6 l7 => narrow .char (.int r5) = .int r5 ∧ Q r5 d6 l7)))
  refine ⟨fun h => absurd h (by decide), fun _ => ?_⟩
  unfold F_J1_charAt_3b067 F_J0_checkIndex_df160
  refine sp_J3_checkIndex_8e157 hx1.1 (by rw [h.2.2.2]; exact hx1.2) ?_
  refine ⟨vin rfl hx1.1 hx1.2, ?_⟩
  rw [e1]
  exact ⟨e2, e2, hQ _ _ _ ⟨Sq.rf hI, e3, e4, rfl⟩⟩
theorem lgc {y : Int64} (h : ¬ (lg_cmp y 0).toInt = 0) : ¬ y = 0 := by
  intro e
  subst e
  exact h (by decide)
