def R0 (d : DD) : Prop := Inv d ∧ d 1 0 = d 211 0 ∧ d 0 9 = d 211 5 ∧ ∀ l, d 29 l = d 240 l
theorem R0.st {d d2 : DD} {dl l2 : LL} (h : R0 d) (s : St d dl d2 l2) : R0 d2 :=
  ⟨s.1, by rw [s.2.1 1 0 rfl, s.2.1 211 0 rfl]; exact h.2.1, by rw [s.2.1 0 9 rfl, s.2.1 211 5 rfl]; exact h.2.2.1, fun l => by rw [s.2.1 29 l rfl, s.2.1 240 l rfl]; exact h.2.2.2 l⟩
theorem R0.w {d d2 : DD} {dl l2 : LL} (h : R0 d) (s : StW d dl d2 l2) : R0 d2 :=
  ⟨s.1, by rw [s.2.1 1 0 rfl, s.2.1 211 0 rfl]; exact h.2.1, by rw [s.2.1 0 9 rfl, s.2.1 211 5 rfl]; exact h.2.2.1, fun l => by rw [s.2.1 29 l rfl, s.2.1 240 l rfl]; exact h.2.2.2 l⟩
theorem R0.sq {d d2 : DD} {dl l2 : LL} (h : R0 d) (s : Sq d dl d2 l2) : R0 d2 := by
  obtain ⟨h3, rfl, rfl⟩ := s
  exact h
theorem pad_step {d d1 d2 : DD} {dl l1 l2 : LL} {r1 r2 : Int32} {ok : Prop} (h : R0 d) (s1 : StA d dl d1 l1)
    (u1 : (ok ∧ (d 1 0).toInt < 40 ∧ r1.toInt = (d 1 0).toInt ∧ (d1 1 0).toInt = (d 1 0).toInt + 1) ∨ (ok ∧ ¬ (d 1 0).toInt < 40 ∧ r1.toInt = -4 ∧ (d1 1 0).toInt = (d 1 0).toInt) ∨ (¬ ok ∧ r1.toInt = -2 ∧ (d1 1 0).toInt = (d 1 0).toInt))
    (s2 : StB d1 l1 d2 l2)
    (u2 : (ok ∧ (d1 211 0).toInt < 40 ∧ r2.toInt = (d1 211 0).toInt ∧ (d2 211 0).toInt = (d1 211 0).toInt + 1) ∨ (ok ∧ ¬ (d1 211 0).toInt < 40 ∧ r2.toInt = -4 ∧ (d2 211 0).toInt = (d1 211 0).toInt) ∨ (¬ ok ∧ r2.toInt = -2 ∧ (d2 211 0).toInt = (d1 211 0).toInt)) : R0 d2 ∧ r1 = r2 := by
  have a1 : (d1 211 0).toInt = (d 1 0).toInt := by rw [s1.2.1 211 0 rfl, h.2.1]
  have a2 : (d2 1 0).toInt = (d1 1 0).toInt := by rw [s2.2.1 1 0 rfl]
  have g : (d2 1 0).toInt = (d2 211 0).toInt ∧ r1.toInt = r2.toInt := by
    rcases u1 with ⟨o1, u1⟩ | ⟨o1, u1⟩ | ⟨o1, u1⟩ <;> rcases u2 with ⟨o2, u2⟩ | ⟨o2, u2⟩ | ⟨o2, u2⟩ <;> first
      | exact absurd o1 o2
      | exact absurd o2 o1
      | (clear o1 o2; omega)
  refine ⟨⟨s2.1, Int32.toInt_inj.mp g.1, ?_, ?_⟩, Int32.toInt_inj.mp g.2⟩
  · rw [s2.2.1 0 9 rfl, s2.2.1 211 5 rfl, s1.2.1 0 9 rfl, s1.2.1 211 5 rfl]; exact h.2.2.1
  · intro l; rw [s2.2.1 29 l rfl, s2.2.1 240 l rfl, s1.2.1 29 l rfl, s1.2.1 240 l rfl]; exact h.2.2.2 l
theorem rest_step {d d1 d2 : DD} {dl l1 l2 : LL} {r1 r2 x : Int32} {ok : Prop} (h : R0 d) (s1 : StC d dl d1 l1)
    (u1 : (ok ∧ r1.toInt = (d 0 9).toInt ∧ (d1 0 9).toInt = x.toInt) ∨ (¬ ok ∧ r1.toInt = -2 ∧ (d1 0 9).toInt = (d 0 9).toInt))
    (s2 : StD d1 l1 d2 l2)
    (u2 : (ok ∧ r2.toInt = (d1 211 5).toInt ∧ (d2 211 5).toInt = x.toInt) ∨ (¬ ok ∧ r2.toInt = -2 ∧ (d2 211 5).toInt = (d1 211 5).toInt)) : R0 d2 ∧ r1 = r2 := by
  have a1 : (d1 211 5).toInt = (d 0 9).toInt := by rw [s1.2.1 211 5 rfl, h.2.2.1]
  have a2 : (d2 0 9).toInt = (d1 0 9).toInt := by rw [s2.2.1 0 9 rfl]
  have g : (d2 0 9).toInt = (d2 211 5).toInt ∧ r1.toInt = r2.toInt := by
    rcases u1 with ⟨o1, u1⟩ | ⟨o1, u1⟩ <;> rcases u2 with ⟨o2, u2⟩ | ⟨o2, u2⟩ <;> first
      | exact absurd o1 o2
      | exact absurd o2 o1
      | (clear o1 o2; omega)
  refine ⟨⟨s2.1, ?_, Int32.toInt_inj.mp g.1, ?_⟩, Int32.toInt_inj.mp g.2⟩
  · rw [s2.2.1 1 0 rfl, s2.2.1 211 0 rfl, s1.2.1 1 0 rfl, s1.2.1 211 0 rfl]; exact h.2.1
  · intro l; rw [s2.2.1 29 l rfl, s2.2.1 240 l rfl, s1.2.1 29 l rfl, s1.2.1 240 l rfl]; exact h.2.2.2 l
def CurP (c : Nat) (d d2 : DD) (x1 x2 r : Int32) : Prop :=
  ((0 ≤ x1.toInt ∧ x1.toInt ≤ 3) ∧ (-9 ≤ x2.toInt ∧ x2.toInt ≤ 9) ∧ r = d c x1.toNatClampNeg ∧ d2 c = upd (d c) x1.toNatClampNeg x2) ∨ ((0 ≤ x1.toInt ∧ x1.toInt ≤ 3) ∧ ¬ (-9 ≤ x2.toInt ∧ x2.toInt ≤ 9) ∧ r = -101 ∧ d2 c = d c) ∨ (¬ (0 ≤ x1.toInt ∧ x1.toInt ≤ 3) ∧ r = -100 ∧ d2 c = d c)
theorem sp_X9_current {n : Nat} (hn : 1000000000 ≤ n) {x1 x2 : Int32} {d : DD} {dl : LL} (hI : Inv d) {Q : Int32 → DD → LL → Prop} (hQ : ∀ (r : Int32) (d2 : DD) (l2 : LL), StE d dl d2 l2 ∧ CurP 29 d d2 x1 x2 r → Q r d2 l2) : F_X9_current n x1 x2 d dl Q := by
  refine sp_X9_isLane hn hI (fun r1 d2 l3 ⟨p1, q1⟩ => ?_)
  obtain ⟨h3, rfl, rfl⟩ := p1
  refine ⟨fun h1 => ?_, fun h1 => ?_⟩
  · have h1 : ¬ r1.toInt = 0 := fun q => h1 ((i_eq rfl (rfl : (0 : Int32).toInt = 0)).mpr q)
    have hl : 0 ≤ x1.toInt ∧ x1.toInt ≤ 3 := by omega
    refine sp_X9_within hn h3 (fun r5 d6 l7 ⟨p2, q2⟩ => ?_)
    obtain ⟨h4, rfl, rfl⟩ := p2
    replace q2 : 0 ≤ r5.toInt ∧ r5.toInt ≤ 1 ∧ ((r5.toInt = 1 ∧ -9 ≤ x2.toInt ∧ x2.toInt ≤ 9) ∨ (r5.toInt = 0 ∧ ¬ (-9 ≤ x2.toInt ∧ x2.toInt ≤ 9))) := q2
    refine ⟨fun h2 => ?_, fun h2 => ?_⟩
    · have h2 : ¬ r5.toInt = 0 := fun q => h2 ((i_eq rfl (rfl : (0 : Int32).toInt = 0)).mpr q)
      have hi : vp_in x1 4 := vin rfl (by omega) (by omega)
      refine ⟨hi, ?_⟩
      intro v10 e10
      refine ⟨hi, ?_⟩
      intro d12 e12
      refine hQ _ _ _ ⟨?_, Or.inl ⟨hl, by omega, e10, by rw [e12, u2_own]⟩⟩
      rw [e12]
      exact pw_29 (StE.rf h4) rfl
    · have h2 : r5.toInt = 0 := (i_eq rfl (rfl : (0 : Int32).toInt = 0)).mp h2
      exact hQ _ _ _ ⟨StE.rf h4, Or.inr (Or.inl ⟨hl, by omega, rfl, rfl⟩)⟩
  · have h1 : r1.toInt = 0 := (i_eq rfl (rfl : (0 : Int32).toInt = 0)).mp h1
    exact hQ _ _ _ ⟨StE.rf h3, Or.inr (Or.inr ⟨by omega, rfl, rfl⟩)⟩
theorem sp_X10_current {n : Nat} (hn : 1000000000 ≤ n) {x1 x2 : Int32} {d : DD} {dl : LL} (hI : Inv d) {Q : Int32 → DD → LL → Prop} (hQ : ∀ (r : Int32) (d2 : DD) (l2 : LL), StF d dl d2 l2 ∧ CurP 240 d d2 x1 x2 r → Q r d2 l2) : F_X10_current n x1 x2 d dl Q := by
  refine ⟨fun h1 => ?_, fun h1 => ?_⟩
  · have h1 : x1.toInt < 0 := (i_lt rfl (rfl : (0 : Int32).toInt = 0)).mp h1
    exact hQ _ _ _ ⟨StF.rf hI, Or.inr (Or.inr ⟨by omega, rfl, rfl⟩)⟩
  have h1 : ¬ x1.toInt < 0 := fun q => h1 ((i_lt rfl (rfl : (0 : Int32).toInt = 0)).mpr q)
  refine ⟨fun h2 => ?_, fun h2 => ?_⟩
  · have h2 : x1.toInt ≤ 3 := (i_le rfl (rfl : (3 : Int32).toInt = 3)).mp h2
    refine ⟨fun h3 => ?_, fun h3 => ?_⟩
    · have h3 : x2.toInt < -9 := (i_lt rfl (rfl : ((-9) : Int32).toInt = -9)).mp h3
      exact hQ _ _ _ ⟨StF.rf hI, Or.inr (Or.inl ⟨by omega, by omega, rfl, rfl⟩)⟩
    · have h3 : ¬ x2.toInt < -9 := fun q => h3 ((i_lt rfl (rfl : ((-9) : Int32).toInt = -9)).mpr q)
      refine ⟨fun h4 => ?_, fun h4 => ?_⟩
      · have h4 : x2.toInt ≤ 9 := (i_le rfl (rfl : (9 : Int32).toInt = 9)).mp h4
        have hi : vp_in x1 4 := vin rfl (by omega) (by omega)
        refine ⟨hi, ?_⟩
        intro v6 e6
        refine ⟨hi, ?_⟩
        intro d8 e8
        refine hQ _ _ _ ⟨?_, Or.inl ⟨by omega, by omega, e6, by rw [e8, u2_own]⟩⟩
        rw [e8]
        exact pw_240 (StF.rf hI) rfl
      · have h4 : ¬ x2.toInt ≤ 9 := fun q => h4 ((i_le rfl (rfl : (9 : Int32).toInt = 9)).mpr q)
        exact hQ _ _ _ ⟨StF.rf hI, Or.inr (Or.inl ⟨by omega, by omega, rfl, rfl⟩)⟩
  · have h2 : ¬ x1.toInt ≤ 3 := fun q => h2 ((i_le rfl (rfl : (3 : Int32).toInt = 3)).mpr q)
    exact hQ _ _ _ ⟨StF.rf hI, Or.inr (Or.inr ⟨by omega, rfl, rfl⟩)⟩
theorem cur_step {d d1 d2 : DD} {dl l1 l2 : LL} {r1 r2 x1 x2 : Int32} (h : R0 d) (s1 : StE d dl d1 l1) (u1 : CurP 29 d d1 x1 x2 r1) (s2 : StF d1 l1 d2 l2) (u2 : CurP 240 d1 d2 x1 x2 r2) : R0 d2 ∧ r1 = r2 := by
  have hd : d 29 = d 240 := funext h.2.2.2
  have a1 : d1 240 = d 29 := by rw [hd]; exact funext (fun l => s1.2.1 240 l rfl)
  have a2 : d2 29 = d1 29 := funext (fun l => s2.2.1 29 l rfl)
  have g : d2 29 = d2 240 ∧ r1 = r2 := by
    rcases u1 with ⟨o1, p1, e1, f1⟩ | ⟨o1, p1, e1, f1⟩ | ⟨o1, e1, f1⟩ <;> rcases u2 with ⟨o2, p2, e2, f2⟩ | ⟨o2, p2, e2, f2⟩ | ⟨o2, e2, f2⟩ <;> first
      | exact absurd o1 o2
      | exact absurd o2 o1
      | exact absurd p1 p2
      | exact absurd p2 p1
      | (rw [a2, f1, f2, e1, e2, a1]; exact ⟨rfl, rfl⟩)
  refine ⟨⟨s2.1, ?_, ?_, fun l => by rw [g.1]⟩, g.2⟩
  · rw [s2.2.1 1 0 rfl, s2.2.1 211 0 rfl, s1.2.1 1 0 rfl, s1.2.1 211 0 rfl]; exact h.2.1
  · rw [s2.2.1 0 9 rfl, s2.2.1 211 5 rfl, s1.2.1 0 9 rfl, s1.2.1 211 5 rfl]; exact h.2.2.1
