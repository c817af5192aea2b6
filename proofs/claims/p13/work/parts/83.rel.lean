theorem StP.two {P R : Nat → Nat → Bool} {d d1 d2 : DD} {dl l1 l2 : LL} (s1 : StP P d dl d1 l1) (s2 : StP R d1 l1 d2 l2) : ∀ i j, P (rg i) j = true → R (rg i) j = true → d2 i j = d i j := fun i j h1 h2 => (s2.2.1 i j h2).trans (s1.2.1 i j h1)
theorem rest_step {d d1 d2 : DD} {dl l1 l2 : LL} {r1 r2 x : Int32} {ok : Prop} (h : R0 d dl) (s1 : StC d dl d1 l1)
    (u1 : (ok ∧ r1.toInt = (d 0 9).toInt ∧ (d1 0 9).toInt = x.toInt) ∨ (¬ ok ∧ r1.toInt = -2 ∧ (d1 0 9).toInt = (d 0 9).toInt))
    (s2 : StD d1 l1 d2 l2)
    (u2 : (ok ∧ r2.toInt = (d1 211 5).toInt ∧ (d2 211 5).toInt = x.toInt) ∨ (¬ ok ∧ r2.toInt = -2 ∧ (d2 211 5).toInt = (d1 211 5).toInt)) : R0 d2 l2 ∧ r1 = r2 := by
  have a1 : (d1 211 5).toInt = (d 0 9).toInt := by rw [s1.2.1 211 5 rfl, ← (h.c2 : d 0 9 = d 211 5)]
  have a2 : (d2 0 9).toInt = (d1 0 9).toInt := by rw [s2.2.1 0 9 rfl]
  have g : (d2 0 9).toInt = (d2 211 5).toInt ∧ r1.toInt = r2.toInt := by
    rcases u1 with ⟨o1, u1⟩ | ⟨o1, u1⟩ <;> rcases u2 with ⟨o2, u2⟩ | ⟨o2, u2⟩ <;> first
      | exact absurd o1 o2
      | exact absurd o2 o1
      | (clear o1 o2; omega)
  exact ⟨h.u_rest s1 s2 (Int32.toInt_inj.mp g.1), Int32.toInt_inj.mp g.2⟩
def CurP (c : Nat) (d d2 : DD) (x1 x2 r : Int32) : Prop :=
  ((0 ≤ x1.toInt ∧ x1.toInt ≤ 3) ∧ (-9 ≤ x2.toInt ∧ x2.toInt ≤ 9) ∧ r = d c x1.toNatClampNeg ∧ d2 c = upd (d c) x1.toNatClampNeg x2) ∨ ((0 ≤ x1.toInt ∧ x1.toInt ≤ 3) ∧ ¬ (-9 ≤ x2.toInt ∧ x2.toInt ≤ 9) ∧ r = -101 ∧ d2 c = d c) ∨ (¬ (0 ≤ x1.toInt ∧ x1.toInt ≤ 3) ∧ r = -100 ∧ d2 c = d c)
theorem sp_X9_current {n : Nat} (hn : 1000000000 ≤ n) {x1 x2 : Int32} {d : DD} {dl : LL} (hI : Inv d) {Q : Int32 → DD → LL → Prop} (hQ : ∀ (r : Int32) (d2 : DD) (l2 : LL), StE d dl d2 l2 ∧ CurP 29 d d2 x1 x2 r → Q r d2 l2) : F_X9_current n x1 x2 d dl Q := by
  refine sp_X9_isLane hn hI (fun r1 d2 l3 ⟨p1, q1⟩ => ?_)
  obtain ⟨h3, rfl, rfl⟩ := p1
  refine ⟨fun h1 => ?_, fun h1 => ?_⟩
  · have h1 : ¬ r1.toInt = 0 := fun q => h1 ((i_eq rfl (rfl : (0 : Int32).toInt = 0)).mpr q)
    have hl : 0 ≤ x1.toInt ∧ x1.toInt ≤ 3 := by omega
    refine sp_X9_within hn h3 (fun r5 d6 l7 ⟨p2, q2⟩ => ?_)
    obtain ⟨h4, rfl, rfl⟩ := p2
    replace q2 : 0 ≤ r5.toInt ∧ r5.toInt ≤ 1 ∧ ((r5.toInt = 1 ∧ -9 ≤ x2.toInt ∧ x2.toInt ≤ 9) ∨ (r5.toInt = 0 ∧ ¬ (-9 ≤ x2.toInt ∧ x2.toInt ≤ 9))) := q2
    refine ⟨fun h2 => ?_, fun h2 => ?_⟩
    · have h2 : ¬ r5.toInt = 0 := fun q => h2 ((i_eq rfl (rfl : (0 : Int32).toInt = 0)).mpr q)
      have hi : vp_in x1 4 := vin rfl (by omega) (by omega)
      refine ⟨hi, ?_⟩
      intro v10 e10
      refine ⟨hi, ?_⟩
      intro d12 e12
      refine hQ _ _ _ ⟨?_, Or.inl ⟨hl, by omega, e10, by rw [e12, u2_own]⟩⟩
      rw [e12]
      exact pw_29 (StE.rf h4) rfl
    · have h2 : r5.toInt = 0 := (i_eq rfl (rfl : (0 : Int32).toInt = 0)).mp h2
      exact hQ _ _ _ ⟨StE.rf h4, Or.inr (Or.inl ⟨hl, by omega, rfl, rfl⟩)⟩
  · have h1 : r1.toInt = 0 := (i_eq rfl (rfl : (0 : Int32).toInt = 0)).mp h1
    exact hQ _ _ _ ⟨StE.rf h3, Or.inr (Or.inr ⟨by omega, rfl, rfl⟩)⟩
theorem sp_X10_current {n : Nat} (hn : 1000000000 ≤ n) {x1 x2 : Int32} {d : DD} {dl : LL} (hI : Inv d) {Q : Int32 → DD → LL → Prop} (hQ : ∀ (r : Int32) (d2 : DD) (l2 : LL), StF d dl d2 l2 ∧ CurP 240 d d2 x1 x2 r → Q r d2 l2) : F_X10_current n x1 x2 d dl Q := by
  refine ⟨fun h1 => ?_, fun h1 => ?_⟩
  · have h1 : x1.toInt < 0 := (i_lt rfl (rfl : (0 : Int32).toInt = 0)).mp h1
    exact hQ _ _ _ ⟨StF.rf hI, Or.inr (Or.inr ⟨by omega, rfl, rfl⟩)⟩
  have h1 : ¬ x1.toInt < 0 := fun q => h1 ((i_lt rfl (rfl : (0 : Int32).toInt = 0)).mpr q)
  refine ⟨fun h2 => ?_, fun h2 => ?_⟩
  · have h2 : x1.toInt ≤ 3 := (i_le rfl (rfl : (3 : Int32).toInt = 3)).mp h2
    refine ⟨fun h3 => ?_, fun h3 => ?_⟩
    · have h3 : x2.toInt < -9 := (i_lt rfl (rfl : ((-9) : Int32).toInt = -9)).mp h3
      exact hQ _ _ _ ⟨StF.rf hI, Or.inr (Or.inl ⟨by omega, by omega, rfl, rfl⟩)⟩
    · have h3 : ¬ x2.toInt < -9 := fun q => h3 ((i_lt rfl (rfl : ((-9) : Int32).toInt = -9)).mpr q)
      refine ⟨fun h4 => ?_, fun h4 => ?_⟩
      · have h4 : x2.toInt ≤ 9 := (i_le rfl (rfl : (9 : Int32).toInt = 9)).mp h4
        have hi : vp_in x1 4 := vin rfl (by omega) (by omega)
        refine ⟨hi, ?_⟩
        intro v6 e6
        refine ⟨hi, ?_⟩
        intro d8 e8
        refine hQ _ _ _ ⟨?_, Or.inl ⟨by omega, by omega, e6, by rw [e8, u2_own]⟩⟩
        rw [e8]
        exact pw_240 (StF.rf hI) rfl
      · have h4 : ¬ x2.toInt ≤ 9 := fun q => h4 ((i_le rfl (rfl : (9 : Int32).toInt = 9)).mpr q)
        exact hQ _ _ _ ⟨StF.rf hI, Or.inr (Or.inl ⟨by omega, by omega, rfl, rfl⟩)⟩
  · have h2 : ¬ x1.toInt ≤ 3 := fun q => h2 ((i_le rfl (rfl : (3 : Int32).toInt = 3)).mpr q)
    exact hQ _ _ _ ⟨StF.rf hI, Or.inr (Or.inr ⟨by omega, rfl, rfl⟩)⟩
theorem cur_step {d d1 d2 : DD} {dl l1 l2 : LL} {r1 r2 x1 x2 : Int32} (h : R0 d dl) (s1 : StE d dl d1 l1) (u1 : CurP 29 d d1 x1 x2 r1) (s2 : StF d1 l1 d2 l2) (u2 : CurP 240 d1 d2 x1 x2 r2) : R0 d2 l2 ∧ r1 = r2 := by
  have hd : d 29 = d 240 := funext h.c3
  have a1 : d1 240 = d 29 := by rw [hd]; exact funext (fun l => s1.2.1 240 l rfl)
  have a2 : d2 29 = d1 29 := funext (fun l => s2.2.1 29 l rfl)
  have g : d2 29 = d2 240 ∧ r1 = r2 := by
    rcases u1 with ⟨o1, p1, e1, f1⟩ | ⟨o1, p1, e1, f1⟩ | ⟨o1, e1, f1⟩ <;> rcases u2 with ⟨o2, p2, e2, f2⟩ | ⟨o2, p2, e2, f2⟩ | ⟨o2, e2, f2⟩ <;> first
      | exact absurd o1 o2
      | exact absurd o2 o1
      | exact absurd p1 p2
      | exact absurd p2 p1
      | (rw [a2, f1, f2, e1, e2, a1]; exact ⟨rfl, rfl⟩)
  exact ⟨h.u_cur s1 s2 (fun l => by rw [g.1]), g.2⟩
def okC (x1 x2 : Int32) : Prop := (2 ≤ x1.toInt ∧ x1.toInt ≤ 4) ∧ (0 ≤ x2.toInt ∧ x2.toInt ≤ 150)
def BeatP (m : Int) (c : Nat) (j : Nat) (d d2 : DD) (x1 x2 r : Int32) : Prop :=
  ((0 ≤ x1.toInt ∧ x1.toInt < m) ∧ (1 ≤ x2.toInt ∧ x2.toInt ≤ 9) ∧ r = d c j ∧ d2 = u2 d c j x2) ∨ ((0 ≤ x1.toInt ∧ x1.toInt < m) ∧ ¬ (1 ≤ x2.toInt ∧ x2.toInt ≤ 9) ∧ r = -2 ∧ d2 = d) ∨ (¬ (0 ≤ x1.toInt ∧ x1.toInt < m) ∧ r = -1 ∧ d2 = d)
theorem sp_X9_beat {n : Nat} (hn : 1000000000 ≤ n) {x1 x2 : Int32} {d : DD} {dl : LL} (hI : Inv d) {Q : Int32 → DD → LL → Prop} (hQ : ∀ (r : Int32) (d2 : DD) (l2 : LL), StI d dl d2 l2 ∧ BeatP (d 0 2).toInt (37 + 3 * x1.toNatClampNeg) 2 d d2 x1 x2 r → Q r d2 l2) : F_X9_beat n x1 x2 d dl Q := by
  have m := iv_0_2 hI
  refine sp_X9_isCrew hn hI (fun r1 d2 l3 ⟨p1, q1⟩ => ?_)
  obtain ⟨h3, rfl, rfl⟩ := p1
  refine ⟨fun h1 => ?_, fun h1 => ?_⟩
  · have h1 : ¬ r1.toInt = 0 := fun q => h1 ((i_eq rfl (rfl : (0 : Int32).toInt = 0)).mpr q)
    have hl : 0 ≤ x1.toInt ∧ x1.toInt < (d2 0 2).toInt := by omega
    refine sp_X9_within hn h3 (fun r5 d6 l7 ⟨p2, q2⟩ => ?_)
    obtain ⟨h4, rfl, rfl⟩ := p2
    replace q2 : 0 ≤ r5.toInt ∧ r5.toInt ≤ 1 ∧ ((r5.toInt = 1 ∧ 1 ≤ x2.toInt ∧ x2.toInt ≤ 9) ∨ (r5.toInt = 0 ∧ ¬ (1 ≤ x2.toInt ∧ x2.toInt ≤ 9))) := q2
    refine ⟨fun h2 => ?_, fun h2 => ?_⟩
    · have h2 : ¬ r5.toInt = 0 := fun q => h2 ((i_eq rfl (rfl : (0 : Int32).toInt = 0)).mpr q)
      have hi : vp_in x1 6 := vin rfl (by omega) (by omega)
      refine ⟨hi, ?_⟩
      intro k10 e10 v11 e11
      refine ⟨hi, ?_⟩
      intro k13 e13 d14 e14
      have hk : k13 < 6 := by rw [e13]; exact clamp_in hi
      have s : StI d6 l7 d14 l7 := by rw [e14]; exact pw_37_2 (StP.rf h4) hk (by omega) (by omega) rfl
      exact hQ _ _ _ ⟨s, Or.inl ⟨hl, by omega, by rw [e11, e10], by rw [e14, e13]⟩⟩
    · have h2 : r5.toInt = 0 := (i_eq rfl (rfl : (0 : Int32).toInt = 0)).mp h2
      exact hQ _ _ _ ⟨StP.rf h4, Or.inr (Or.inl ⟨hl, by omega, rfl, rfl⟩)⟩
  · have h1 : r1.toInt = 0 := (i_eq rfl (rfl : (0 : Int32).toInt = 0)).mp h1
    exact hQ _ _ _ ⟨StP.rf h3, Or.inr (Or.inr ⟨by omega, rfl, rfl⟩)⟩
theorem sp_X10_beat {n : Nat} (hn : 1000000000 ≤ n) {x1 x2 : Int32} {d : DD} {dl : LL} (hI : Inv d) {Q : Int32 → DD → LL → Prop} (hQ : ∀ (r : Int32) (d2 : DD) (l2 : LL), StJ d dl d2 l2 ∧ BeatP (d 211 1).toInt 221 x1.toNatClampNeg d d2 x1 x2 r → Q r d2 l2) : F_X10_beat n x1 x2 d dl Q := by
  have m := iv_211_1 hI
  refine sp_X10_isCrew hn hI (fun r1 d2 l3 ⟨p1, q1⟩ => ?_)
  obtain ⟨h3, rfl, rfl⟩ := p1
  refine ⟨fun h1 => ?_, fun h1 => ?_⟩
  · have h1 : ¬ r1.toInt = 0 := fun q => h1 ((i_eq rfl (rfl : (0 : Int32).toInt = 0)).mpr q)
    have hl : 0 ≤ x1.toInt ∧ x1.toInt < (d2 211 1).toInt := by omega
    refine ⟨fun h2 => ?_, fun h2 => ?_⟩
    · have h2 : x2.toInt < 1 := (i_lt rfl (rfl : (1 : Int32).toInt = 1)).mp h2
      exact hQ _ _ _ ⟨StP.rf h3, Or.inr (Or.inl ⟨hl, by omega, rfl, rfl⟩)⟩
    · have h2 : ¬ x2.toInt < 1 := fun q => h2 ((i_lt rfl (rfl : (1 : Int32).toInt = 1)).mpr q)
      refine ⟨fun h4 => ?_, fun h4 => ?_⟩
      · have h4 : x2.toInt ≤ 9 := (i_le rfl (rfl : (9 : Int32).toInt = 9)).mp h4
        have hi : vp_in x1 6 := vin rfl (by omega) (by omega)
        refine ⟨hi, ?_⟩
        intro v8 e8
        refine ⟨hi, ?_⟩
        intro d10 e10
        have s : StJ d2 l3 d10 l3 := by rw [e10]; exact pw_221 (StP.rf h3) (by omega) (by omega) rfl
        exact hQ _ _ _ ⟨s, Or.inl ⟨hl, by omega, e8, e10⟩⟩
      · have h4 : ¬ x2.toInt ≤ 9 := fun q => h4 ((i_le rfl (rfl : (9 : Int32).toInt = 9)).mpr q)
        exact hQ _ _ _ ⟨StP.rf h3, Or.inr (Or.inl ⟨hl, by omega, rfl, rfl⟩)⟩
  · have h1 : r1.toInt = 0 := (i_eq rfl (rfl : (0 : Int32).toInt = 0)).mp h1
    exact hQ _ _ _ ⟨StP.rf h3, Or.inr (Or.inr ⟨by omega, rfl, rfl⟩)⟩
theorem beat_step {d d1 d2 : DD} {dl l1 l2 : LL} {r1 r2 x1 x2 : Int32} (h : R0 d dl) (s1 : StI d dl d1 l1) (u1 : BeatP (d 0 2).toInt (37 + 3 * x1.toNatClampNeg) 2 d d1 x1 x2 r1) (s2 : StJ d1 l1 d2 l2) (q2 : BeatP (d1 211 1).toInt 221 x1.toNatClampNeg d1 d2 x1 x2 r2) : R0 d2 l2 ∧ r1 = r2 := by
  have m := iv_0_2 h.i
  have c4 : d 0 2 = d 211 1 := h.c4
  have hx : x1.toNatClampNeg = x1.toInt.toNat := rfl
  generalize hk : x1.toNatClampNeg = k at u1 q2 hx
  rcases u1 with ⟨o1, p1, e1, f1⟩ | ⟨o1, p1, e1, f1⟩ | ⟨o1, e1, f1⟩
  · have hk6 : k < 6 := by omega
    have a : d1 211 1 = d 0 2 := by rw [f1, u2_row (by omega), c4]
    rw [a] at q2
    rcases q2 with ⟨o2, p2, e2, f2⟩ | ⟨o2, p2, e2, f2⟩ | ⟨o2, e2, f2⟩
    · have K : ∀ i j, (i ≠ 37 + 3 * k ∨ j ≠ 2) → i ≠ 221 → d2 i j = d i j := fun i j g1 g2 => by rw [f2, u2_row g2, f1, u2_ne g1]
      refine ⟨h.u_beat s1 s2 (fun i hi => ?_), ?_⟩
      · rw [K 0 2 (by omega) (by omega)]
        have hb := h.c5 i hi
        by_cases hik : i = k
        · subst hik
          refine ⟨fun _ => ?_, fun q => absurd (by omega) q⟩
          rw [f2, u2_eq, u2_row (by omega), f1, u2_eq]
        · rw [K (37 + 3 * i) 2 (by omega) (by omega)]
          refine ⟨fun q => ?_, hb.2⟩
          rw [f2, u2_ne (Or.inr hik), f1, u2_row (by omega)]
          exact hb.1 q
      · rw [e1, e2, f1, u2_row (by omega)]
        exact (h.c5 k hk6).1 (by omega)
    · exact absurd p1 p2
    · exact absurd o1 o2
  · subst f1
    rw [← c4] at q2
    rcases q2 with ⟨o2, p2, e2, f2⟩ | ⟨o2, p2, e2, f2⟩ | ⟨o2, e2, f2⟩
    · exact absurd p2 p1
    · subst f2; exact ⟨h.u_beat s1 s2 h.c5, by rw [e1, e2]⟩
    · exact absurd o1 o2
  · subst f1
    rw [← c4] at q2
    rcases q2 with ⟨o2, p2, e2, f2⟩ | ⟨o2, p2, e2, f2⟩ | ⟨o2, e2, f2⟩
    · exact absurd o2 o1
    · exact absurd o2 o1
    · subst f2; exact ⟨h.u_beat s1 s2 h.c5, by rw [e1, e2]⟩
