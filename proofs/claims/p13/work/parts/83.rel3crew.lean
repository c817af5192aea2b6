def CrewQ9 (x1 x2 : Int32) (d dz : DD) (r : Int32) : Prop := (okC x1 x2 ∧ (d 0 2).toInt < 6 ∧ r.toInt = (d 0 2).toInt ∧ (dz 0 2).toInt = (d 0 2).toInt + 1 ∧ dz (37 + 3 * (d 0 2).toNatClampNeg) 0 = x1 ∧ dz (37 + 3 * (d 0 2).toNatClampNeg) 1 = x2 ∧ ∀ k, k < 6 → k ≠ (d 0 2).toNatClampNeg → dz (37 + 3 * k) 0 = d (37 + 3 * k) 0 ∧ dz (37 + 3 * k) 1 = d (37 + 3 * k) 1) ∨ (okC x1 x2 ∧ ¬ (d 0 2).toInt < 6 ∧ r = -4 ∧ dz = d) ∨ (¬ okC x1 x2 ∧ r = -2 ∧ dz = d)
theorem sp_X9_crew {n : Nat} (hn : 1000000000 ≤ n) {x1 x2 : Int32} {d : DD} {dl : LL} (hI : Inv d) {Q : Int32 → DD → LL → Prop} (hQ : ∀ (r : Int32) (d2 : DD) (l2 : LL), StG d dl d2 l2 ∧ CrewQ9 x1 x2 d d2 r → Q r d2 l2) : F_X9_crew n x1 x2 d dl Q := by
  have m := iv_0_2 hI
  have bad : ¬ okC x1 x2 → Q (-2) d dl := fun h => hQ _ _ _ ⟨StP.rf hI, Or.inr (Or.inr ⟨h, rfl, rfl⟩)⟩
  refine fn_within (p := 2) (q := 4) hn rfl rfl hI (fun g1 => ⟨fun w => absurd w (by decide), fun _ => ?_⟩) (fun g1 => ⟨fun _ => bad (fun h => g1 h.1), fun w => absurd rfl w⟩)
  refine fn_within (p := 0) (q := 150) hn rfl rfl hI (fun g2 => ⟨fun _ => ?_, fun w => absurd w (by decide)⟩) (fun g2 => ⟨fun w => absurd rfl w, fun _ => bad (fun h => g2 h.2)⟩)
  have ok : okC x1 x2 := ⟨g1, g2⟩
  refine ⟨fun h => ?_, fun h => ?_⟩
  · have h : (d 0 2).toInt < 6 := (i_lt rfl (rfl : (6 : Int32).toInt = 6)).mp h
    have hi : vp_in (d 0 2) 6 := vin rfl (by omega) (by omega)
    have hk := clamp_in hi
    refine ⟨hi, fun k11 e11 => ?_⟩
    subst e11
    intro d12 e12
    have k12 : d12 0 2 = d 0 2 := by rw [e12, u2_row (by omega)]
    rw [k12]
    refine ⟨hi, fun k14 e14 => ?_⟩
    subst e14
    intro d15 e15 d16 e16
    have k15 : d15 0 2 = d 0 2 := by rw [e15, u2_row (by omega), k12]
    have t : ((d15 0 2) + 1).toInt = (d 0 2).toInt + 1 := ti_add (by rw [k15]) (rfl : (1 : Int32).toInt = 1) (by omega) (by omega)
    have s12 : StG d dl d12 dl := by rw [e12]; exact pw_37_0 (StP.rf hI) hk (by omega) (by omega) rfl
    have s15 : StG d dl d15 dl := by rw [e15]; exact pw_37_1 s12 hk (by omega) (by omega) rfl
    have s16 : StG d dl d16 dl := by rw [e16]; exact pw_0_2 s15 (by rw [t]; omega) (by rw [t]; omega) rfl
    have k16 : (d16 0 2).toInt = (d 0 2).toInt + 1 := by rw [e16, u2_eq, t]
    have t2 : ((d16 0 2) - 1).toInt = ((d 0 2).toInt + 1) - 1 := ti_sub k16 (rfl : (1 : Int32).toInt = 1) (by omega) (by omega)
    refine hQ _ _ _ ⟨s16, Or.inl ⟨ok, h, by rw [t2]; omega, k16, ?_, ?_, fun k hk6 hne => ⟨?_, ?_⟩⟩⟩
    · rw [e16, u2_row (by omega), e15, u2_ne (Or.inr (by omega)), e12, u2_eq]
    · rw [e16, u2_row (by omega), e15, u2_eq]
    · rw [e16, u2_row (by omega), e15, u2_row (by omega), e12, u2_row (by omega)]
    · rw [e16, u2_row (by omega), e15, u2_row (by omega), e12, u2_row (by omega)]
  · have h : ¬ (d 0 2).toInt < 6 := fun q => h ((i_lt rfl (rfl : (6 : Int32).toInt = 6)).mpr q)
    exact hQ _ _ _ ⟨StP.rf hI, Or.inr (Or.inl ⟨ok, h, rfl, rfl⟩)⟩
def CrewQ10 (x1 x2 : Int32) (d dz : DD) (r : Int32) : Prop := (okC x1 x2 ∧ (d 211 1).toInt < 6 ∧ r.toInt = (d 211 1).toInt ∧ (dz 211 1).toInt = (d 211 1).toInt + 1 ∧ dz 221 = upd (d 221) (d 211 1).toNatClampNeg 4 ∧ dz 218 = upd (d 218) (d 211 1).toNatClampNeg x1 ∧ dz 219 = upd (d 219) (d 211 1).toNatClampNeg x2) ∨ (okC x1 x2 ∧ ¬ (d 211 1).toInt < 6 ∧ r = -4 ∧ dz = d) ∨ (¬ okC x1 x2 ∧ r = -2 ∧ dz = d)
theorem sp_X10_crew {n : Nat} (hn : 1000000000 ≤ n) {x1 x2 : Int32} {d : DD} {dl : LL} (hI : Inv d) {Q : Int32 → DD → LL → Prop} (hQ : ∀ (r : Int32) (d2 : DD) (l2 : LL), StH d dl d2 l2 ∧ CrewQ10 x1 x2 d d2 r → Q r d2 l2) : F_X10_crew n x1 x2 d dl Q := by
  have m := iv_211_1 hI
  have bad : ¬ okC x1 x2 → Q (-2) d dl := fun h => hQ _ _ _ ⟨StP.rf hI, Or.inr (Or.inr ⟨h, rfl, rfl⟩)⟩
  refine ⟨fun h1 => ?_, fun h1 => ?_⟩
  · have h1 : x1.toInt < 2 := (i_lt rfl (rfl : (2 : Int32).toInt = 2)).mp h1
    exact bad (fun h => by have := h.1; omega)
  have h1 : ¬ x1.toInt < 2 := fun q => h1 ((i_lt rfl (rfl : (2 : Int32).toInt = 2)).mpr q)
  refine ⟨fun h2 => ?_, fun h2 => ?_⟩
  · have h2 : 4 < x1.toInt := (i_lt (rfl : (4 : Int32).toInt = 4) rfl).mp h2
    exact bad (fun h => by have := h.1; omega)
  have h2 : ¬ 4 < x1.toInt := fun q => h2 ((i_lt (rfl : (4 : Int32).toInt = 4) rfl).mpr q)
  refine ⟨fun h3 => ?_, fun h3 => ?_⟩
  · have h3 : x2.toInt < 0 := (i_lt rfl (rfl : (0 : Int32).toInt = 0)).mp h3
    exact bad (fun h => by have := h.2; omega)
  have h3 : ¬ x2.toInt < 0 := fun q => h3 ((i_lt rfl (rfl : (0 : Int32).toInt = 0)).mpr q)
  refine ⟨fun h4 => ?_, fun h4 => ?_⟩
  · have h4 : x2.toInt ≤ 150 := (i_le rfl (rfl : (150 : Int32).toInt = 150)).mp h4
    have ok : okC x1 x2 := ⟨by omega, by omega⟩
    refine ⟨fun h5 => ?_, fun h5 => ?_⟩
    · have h5 : ¬ (d 211 1).toInt = 6 := fun q => h5 ((i_eq rfl (rfl : (6 : Int32).toInt = 6)).mpr q)
      have hi : vp_in (d 211 1) 6 := vin rfl (by omega) (by omega)
      refine ⟨hi, ?_⟩
      intro d7 e7
      have s7 : StH d dl d7 dl := by rw [e7]; exact pw_218 (StH.rf hI) (by omega) (by omega) rfl
      have k7 : d7 211 1 = d 211 1 := by rw [e7, u2_row (by omega)]
      rw [k7]
      refine ⟨hi, ?_⟩
      intro d9 e9
      have s9 : StH d dl d9 dl := by rw [e9]; exact pw_219 s7 (by omega) (by omega) rfl
      have k9 : d9 211 1 = d 211 1 := by rw [e9, u2_row (by omega), k7]
      rw [k9]
      refine ⟨hi, ?_⟩
      intro d11 e11
      have s11 : StH d dl d11 dl := by rw [e11]; exact pw_221 s9 (by decide) (by decide) rfl
      have k11 : d11 211 1 = d 211 1 := by rw [e11, u2_row (by omega), k9]
      intro d12 e12
      have t : ((d11 211 1) + 1).toInt = (d 211 1).toInt + 1 := ti_add (congrArg Int32.toInt k11) (rfl : (1 : Int32).toInt = 1) (by omega) (by omega)
      have s12 : StH d dl d12 dl := by rw [e12]; exact pw_211_1 s11 (by rw [t]; omega) (by rw [t]; omega) rfl
      refine hQ _ _ _ ⟨s12, Or.inl ⟨ok, by omega, by rw [k11], by rw [e12, u2_eq, t], ?_, ?_, ?_⟩⟩
      · rw [e12, u2_row (by omega), e11, u2_own, e9, u2_row (by omega), e7, u2_row (by omega)]
      · rw [e12, u2_row (by omega), e11, u2_row (by omega), e9, u2_row (by omega), e7, u2_own]
      · rw [e12, u2_row (by omega), e11, u2_row (by omega), e9, u2_own, e7, u2_row (by omega)]
    · have h5 : (d 211 1).toInt = 6 := (i_eq rfl (rfl : (6 : Int32).toInt = 6)).mp h5
      exact hQ _ _ _ ⟨StH.rf hI, Or.inr (Or.inl ⟨ok, by omega, rfl, rfl⟩)⟩
  · have h4 : ¬ x2.toInt ≤ 150 := fun q => h4 ((i_le rfl (rfl : (150 : Int32).toInt = 150)).mpr q)
    exact bad (fun h => by have := h.2; omega)
theorem crew_step {d d1 d2 : DD} {dl l1 lw : LL} {r1 r2 x1 x2 : Int32} (h : R0 d dl) (s1 : StG d dl d1 l1) (q1 : CrewQ9 x1 x2 d d1 r1) (s2 : StH d1 l1 d2 lw) (q2 : CrewQ10 x1 x2 d1 d2 r2) : R0 d2 lw ∧ r1 = r2 := by
  have c4 : d 0 2 = d 211 1 := h.c4
  have a1 : d1 211 1 = d 0 2 := by rw [s1.2.1 211 1 rfl, ← c4]
  have a2 : d2 0 2 = d1 0 2 := s2.2.1 0 2 rfl
  have m := iv_0_2 h.i
  unfold CrewQ10 at q2
  rw [a1] at q2
  rcases q1 with ⟨o1, g1, u1, u2', v1, v2, v3⟩ | ⟨o1, g1, u1, u2'⟩ | ⟨o1, u1, u2'⟩
  · rcases q2 with ⟨o2, g2, w1, w2, y1, y2, y3⟩ | ⟨o2, g2, _⟩ | ⟨o2, _⟩
    · have hz : (d 0 2).toNatClampNeg = (d 0 2).toInt.toNat := rfl
      generalize hN : (d 0 2).toNatClampNeg = N at *
      have K2 : ∀ l, d1 221 l = d 221 l := fun l => s1.2.1 221 l rfl
      have K8 : ∀ l, d1 218 l = d 218 l := fun l => s1.2.1 218 l rfl
      have K9 : ∀ l, d1 219 l = d 219 l := fun l => s1.2.1 219 l rfl
      have un : ∀ (f : Nat → Int32) (v : Int32) (k : Nat), k ≠ N → upd f N v k = f k := fun f v k hk => by simp [upd, hk]
      have ue : ∀ (f : Nat → Int32) (v : Int32), upd f N v N = v := fun f v => by simp [upd]
      have rb : ∀ k, k < 6 → d2 (37 + 3 * k) 2 = d (37 + 3 * k) 2 := fun k hk => (s2.2.1 (37 + 3 * k) 2 (by rw [rg_37 hk]; rfl)).trans (s1.2.1 (37 + 3 * k) 2 (by rw [rg_37 hk]; rfl))
      have r0 : ∀ k, k < 6 → d2 (37 + 3 * k) 0 = d1 (37 + 3 * k) 0 := fun k hk => s2.2.1 (37 + 3 * k) 0 (by rw [rg_37 hk]; rfl)
      have r1' : ∀ k, k < 6 → d2 (37 + 3 * k) 1 = d1 (37 + 3 * k) 1 := fun k hk => s2.2.1 (37 + 3 * k) 1 (by rw [rg_37 hk]; rfl)
      refine ⟨h.u_crew s1 s2 (Int32.toInt_inj.mp (by rw [a2]; omega)) (fun k hk => ?_) (fun k hk q => ?_) (fun k hk q => ?_), Int32.toInt_inj.mp (by omega)⟩
      · have hb := h.c5 k hk
        rw [rb k hk, y1, a2]
        refine ⟨fun q => ?_, fun q => hb.2 (by omega)⟩
        by_cases hk2 : k = N
        · rw [hk2, ue]
          have := hb.2 (by omega)
          rw [hk2] at this
          exact this
        · rw [un _ _ _ hk2, K2]
          exact hb.1 (by omega)
      · rw [a2] at q
        rw [r0 k hk, r1' k hk, y2, y3]
        by_cases hk2 : k = N
        · rw [hk2, ue, ue]
          exact ⟨v1, v2⟩
        · rw [un _ _ _ hk2, un _ _ _ hk2, K8, K9, (v3 k hk hk2).1, (v3 k hk hk2).2]
          exact h.c16 k hk (by omega)
      · rw [s2.2.1 224 k rfl, s1.2.1 224 k rfl] at q
        have c := h.c19 k hk q
        have c' := c.1
        rw [a2]
        refine ⟨by omega, fun i hi => ?_⟩
        rw [y2, un _ _ _ (by omega), K8] at hi
        rw [s2.2.1 (39 + 3 * k) i (by rw [rg_39 hk]; rfl), s1.2.1 (39 + 3 * k) i (by rw [rg_39 hk]; rfl), s2.2.1 223 _ rfl, s1.2.1 223 _ rfl]
        exact c.2 i hi
    · exact absurd g1 g2
    · exact absurd o1 o2
  · rcases q2 with ⟨o2, g2, _⟩ | ⟨o2, g2, w1, w2⟩ | ⟨o2, _⟩
    · exact absurd g2 g1
    · subst u2'; subst w2
      exact ⟨h.u_crew s1 s2 h.c4 h.c5 h.c16 h.c19, by rw [u1, w1]⟩
    · exact absurd o1 o2
  · rcases q2 with ⟨o2, _⟩ | ⟨o2, _⟩ | ⟨o2, w1, w2⟩
    · exact absurd o2 o1
    · exact absurd o2 o1
    · subst u2'; subst w2
      exact ⟨h.u_crew s1 s2 h.c4 h.c5 h.c16 h.c19, by rw [u1, w1]⟩
