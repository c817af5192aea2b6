def FrF (k : Nat) (d dz : DD) : Prop := ∀ i, (i < 10 ∨ 23 < i) → dz i = d i
noncomputable def FSof (P : Nat → Nat → Int) (S n : Nat) : Bool × Int × (Nat → Nat) := FS P S n S 0 (fun _ => 0) (false, 0, fun _ => 0)
theorem fn_X6_find {n : Nat} (hn : 1000000000 ≤ n) {Q : Int32 → DD → LL → Prop} {k : Nat} (hk : k < 6) {dl : LL} {d : DD} (hI : Inv d) {nn S : Nat} (hS : (S : Int) = 2 * (d (37 + 3 * k) 0).toInt) (hnn : (d (37 + 3 * k) 3).toInt = (nn : Int)) (hQ : ∀ (r : Int32) (dz : DD), Inv dz → FrF k d dz → (dz 10 2).toInt = (S : Int) → ((r = 0 ∧ (FSof (PA9 d dl k) S nn).1 = false) ∨ (r = 1 ∧ (FSof (PA9 d dl k) S nn).1 = true ∧ (dz 10 0).toInt = (FSof (PA9 d dl k) S nn).2.1 ∧ ∀ i, i < S → (dz 18 i).toInt = ((FSof (PA9 d dl k) S nn).2.2 i : Int))) → Q r dz dl) : F_X6_find n k d dl Q := by
  have mR := iv_37_0 hI hk
  have mD := iv_37_1 hI hk
  have mC := iv_37_3 hI hk
  generalize hRR : (d (37 + 3 * k) 0).toInt = R at *
  intro d1 e1 d2 e2
  show ∀ d6 : DD, _
  have r2 : ∀ i, i ≠ 10 → d2 i = d i := fun i hi => by rw [e2, u2_row hi, e1, u2_row hi]
  have t3 : ((2 : Int32) * (d2 (37 + 3 * k) 0)).toInt = 2 * R := ti_mul (rfl : (2 : Int32).toInt = 2) (by rw [r2 _ (by omega)]; exact hRR) (by omega) (by omega)
  have v3 : (if (8 : Int32) < (2 : Int32) * (d2 (37 + 3 * k) 0) then 8 else (2 : Int32) * (d2 (37 + 3 * k) 0)) = (2 : Int32) * (d2 (37 + 3 * k) 0) := by
    rw [if_neg (fun w => by
      have w : (8 : Int) < _ := (i_lt (rfl : (8 : Int32).toInt = 8) t3).mp w
      omega)]
  rw [v3]
  intro d6 e6 d7 e7
  have r6 : ∀ i, i ≠ 10 → d6 i = d i := fun i hi => by rw [e6, u2_row hi]; exact r2 i hi
  have c6 : (d6 (37 + 3 * k) 3).toInt = (nn : Int) := by rw [r6 _ (by omega)]; exact hnn
  have v7 : (if (8 : Int32) < (d6 (37 + 3 * k) 3) then 8 else (d6 (37 + 3 * k) 3)) = d6 (37 + 3 * k) 3 := by
    rw [if_neg (fun w => by
      have w : (8 : Int) < _ := (i_lt (rfl : (8 : Int32).toInt = 8) c6).mp w
      omega)]
  rw [v7] at e7
  have s1 : StP pN d dl d1 dl := by rw [e1]; exact pw_10_1 (StP.rf hI) (by decide) (by decide) rfl
  have s2 : StP pN d dl d2 dl := by rw [e2]; exact pw_10_0 s1 rfl
  have s6 : StP pN d dl d6 dl := by rw [e6]; exact pw_10_2 s2 (by rw [t3]; omega) (by rw [t3]; omega) rfl
  have s7 : StP pN d dl d7 dl := by rw [e7]; exact pw_10_3 s6 (by rw [c6]; omega) (by rw [c6]; omega) rfl
  have r7 : ∀ i, i ≠ 10 → d7 i = d i := fun i hi => by rw [e7, u2_row hi]; exact r6 i hi
  have z2 : (d7 10 2).toInt = (S : Int) := by rw [e7, u2_ne (Or.inr (by omega)), e6, u2_eq, t3]; omega
  have z3 : (d7 10 3).toInt = (nn : Int) := by rw [e7, u2_eq]; exact c6
  have z1 : d7 10 1 = 0 := by rw [e7, u2_ne (Or.inr (by omega)), e6, u2_ne (Or.inr (by omega)), e2, u2_ne (Or.inr (by omega)), e1, u2_eq]
  refine ⟨fun h => ?_, fun h => ?_⟩
  · have h : (S : Int) ≤ (nn : Int) := (i_le z2 z3).mp h
    have mq : memA d7 k = memA d k := by unfold memA; rw [r7 _ (by omega)]
    refine fb_X6_loadMembers_2 hn hk (by rw [z3]; omega) (fun d10 M10 => ?_) n 0 0 d7 ⟨s7.1, fun _ _ _ _ _ => rfl, fun m hm => absurd hm (Nat.not_lt_zero _)⟩ rfl (by rw [z3]; show (0 : Int) ≤ _; omega) (by omega)
    rw [at_n z3] at M10
    obtain ⟨i10, f10, m10⟩ := M10
    have r10 : ∀ i, (i < 10 ∨ 23 < i) → d10 i = d i := fun i hi => by rw [f10 i (by omega) (by omega) (by omega) (by omega)]; exact r7 i (by omega)
    have w10 : d10 10 = d7 10 := f10 10 (by omega) (by omega) (by omega) (by omega)
    have hp : ∀ m, m < nn → ((d10 11 m).toInt = PA9 d dl k 0 m ∧ (d10 12 m).toInt = PA9 d dl k 1 m ∧ (d10 13 m).toInt = PA9 d dl k 2 m ∧ ∀ c, c < nn → (b32 (d10 14 m) c = true ↔ PA9 d dl k (10 + m) c = 1)) := by
      intro m hm
      obtain ⟨a, b, c, e⟩ := m10 m hm
      rw [mq] at a b c
      rw [r7 2 (by omega)] at a
      rw [r7 3 (by omega)] at b
      rw [r7 4 (by omega)] at c
      refine ⟨a, b, c, fun c2 hc2 => ?_⟩
      have := e c2 (by rw [z3]; omega)
      rw [mq] at this
      unfold PA9
      rw [PX_fr]
      exact this
    have hw : ∀ m, m < nn → (0 ≤ PA9 d dl k 0 m ∧ PA9 d dl k 0 m ≤ 150) ∧ (0 ≤ PA9 d dl k 1 m ∧ PA9 d dl k 1 m ≤ 99) := fun m hm => ⟨iv_2 hI (memA d k m), iv_3 hI (memA d k m)⟩
    have h5 : PA9 d dl k 5 0 = -R * (d (37 + 3 * k) 1).toInt := by rw [← hRR]; rfl
    have h5b : -100000 ≤ -R * (d (37 + 3 * k) 1).toInt ∧ -R * (d (37 + 3 * k) 1).toInt ≤ 100000 := by
      have hc : R = 2 ∨ R = 3 ∨ R = 4 := by omega
      rcases hc with e | e | e <;> rw [e] <;> omega
    refine fn_X6_loadBounds hn hk i10 (S := S) (nn := nn) (R := R) ⟨mR.1, mR.2⟩ (by rw [r10 _ (by omega)]; exact hRR) hS (by rw [w10]; exact z3) (by rw [w10]; exact z2) (by omega) (by omega) hp (fun s => by rw [← hRR]; rfl) (fun s => by rw [← hRR]; rfl) (by rw [h5]; exact h5b) hw (fun d13 Bn i13 F13 L13 B13 => ?_)
    have r13 : ∀ i, (i < 10 ∨ 23 < i) → d13 i = d i := fun i hi => by rw [F13 i (by omega) (by omega) (by omega) (by omega) (by omega) (by omega) (by omega)]; exact r10 i hi
    have w13 : d13 10 = d7 10 := by rw [F13 10 (by omega) (by omega) (by omega) (by omega) (by omega) (by omega) (by omega)]; exact w10
    unfold F_X1_drummerPitch
    have tn : (-(d13 (37 + 3 * k) 0)).toInt = -R := ti_neg (by rw [r13 _ (by omega)]; exact hRR) (by omega) (by omega)
    have td : ((-(d13 (37 + 3 * k) 0)) * (d13 (37 + 3 * k) 1)).toInt = -R * (d (37 + 3 * k) 1).toInt := ti_mul tn (by rw [r13 _ (by omega)]) (by omega) (by omega)
    refine fill_all hn B13 9 0 0 0 0 _ 0 (fun _ => 0) (false, 0, fun _ => 0) d13 _ (by omega) (Nat.zero_le _) i13 L13 rfl (fun m hm => ?_) (fun i hi => absurd hi (Nat.not_lt_zero _)) rfl ?_ rfl (Or.inl ⟨rfl, by rw [w13]; exact z1⟩) (fun dz Fz Bz => ?_)
    · rw [b32_zero]
      exact ⟨fun w => absurd w (by decide), fun ⟨i, hi, _⟩ => absurd hi (Nat.not_lt_zero _)⟩
    · rw [td]
      show _ = PA9 d dl k 5 0 + 0
      rw [h5]
      omega
    · have rz : FrF k d dz := fun i hi => by rw [Fz.2.1 i (by omega) (by omega) (by omega)]; exact r13 i hi
      have q2 : (dz 10 2).toInt = (S : Int) := by rw [Fz.2.2.1 2 (by omega) (by omega), w13]; exact z2
      have Bz : BS dz S (FSof (PA9 d dl k) S nn) := Bz
      rcases Bz with ⟨a, b⟩ | ⟨a, b, c, e⟩
      · rw [b]
        exact ⟨by decide, hQ 0 dz Fz.1 rz q2 (Or.inl ⟨rfl, a⟩)⟩
      · rw [b]
        exact ⟨by decide, hQ 1 dz Fz.1 rz q2 (Or.inr ⟨rfl, a, c, e⟩)⟩
  · have h : ¬ (S : Int) ≤ (nn : Int) := fun q => h ((i_le z2 z3).mpr q)
    refine hQ 0 d7 s7.1 (fun i hi => r7 i (by omega)) z2 (Or.inl ⟨rfl, ?_⟩)
    unfold FSof
    rw [FS_few S 0 _ (by rw [cu_0]; omega)]
