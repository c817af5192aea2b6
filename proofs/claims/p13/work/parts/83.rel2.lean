def okP (x1 x2 x3 x4 x5 : Int32) : Prop := (30 ≤ x1.toInt ∧ x1.toInt ≤ 150) ∧ (1 ≤ x2.toInt ∧ x2.toInt ≤ 99) ∧ (0 ≤ x3.toInt ∧ x3.toInt ≤ 2) ∧ (0 ≤ x4.toInt ∧ x4.toInt ≤ 1) ∧ (10 ≤ x5.toInt ∧ x5.toInt ≤ 90)
def PadQ (c a : Nat) (d dz : DD) (x1 x2 x3 x4 x5 r : Int32) : Prop :=
  (okP x1 x2 x3 x4 x5 ∧ (d c 0).toInt < 40 ∧ r.toInt = (d c 0).toInt ∧ (dz c 0).toInt = (d c 0).toInt + 1 ∧ dz a = upd (d a) (d c 0).toNatClampNeg x1 ∧ dz (a + 1) = upd (d (a + 1)) (d c 0).toNatClampNeg x2 ∧ dz (a + 2) = upd (d (a + 2)) (d c 0).toNatClampNeg x3 ∧ dz (a + 3) = upd (d (a + 3)) (d c 0).toNatClampNeg x4 ∧ dz (a + 4) = upd (d (a + 4)) (d c 0).toNatClampNeg x5) ∨ (okP x1 x2 x3 x4 x5 ∧ ¬ (d c 0).toInt < 40 ∧ r = -4 ∧ dz = d) ∨ (¬ okP x1 x2 x3 x4 x5 ∧ r = -2 ∧ dz = d)
theorem fn_within {n : Nat} (hn : 1000000000 ≤ n) {x a b : Int32} {p q : Int} (ha : a.toInt = p) (hb : b.toInt = q) {d : DD} {dl : LL} (hI : Inv d) {Q : Int32 → DD → LL → Prop} (yes : (p ≤ x.toInt ∧ x.toInt ≤ q) → Q 1 d dl) (no : ¬ (p ≤ x.toInt ∧ x.toInt ≤ q) → Q 0 d dl) : F_X9_within n x a b d dl Q := by
  refine sp_X9_within hn hI (fun r1 d2 l3 ⟨p1, q1⟩ => ?_)
  obtain ⟨h3, rfl, rfl⟩ := p1
  rw [ha, hb] at q1
  rcases q1.2.2 with ⟨e, g⟩ | ⟨e, g⟩
  · rw [(i_eq e (rfl : (1 : Int32).toInt = 1)).mpr rfl]
    exact yes g
  · rw [(i_eq e (rfl : (0 : Int32).toInt = 0)).mpr rfl]
    exact no g
theorem sp_X9_paddler {n : Nat} (hn : 1000000000 ≤ n) {x1 x2 x3 x4 x5 : Int32} {d : DD} {dl : LL} (hI : Inv d) {Q : Int32 → DD → LL → Prop} (hQ : ∀ (r : Int32) (d2 : DD) (l2 : LL), StA d dl d2 l2 ∧ PadQ 1 2 d d2 x1 x2 x3 x4 x5 r → Q r d2 l2) : F_X9_paddler n x1 x2 x3 x4 x5 d dl Q := by
  have m := iv_1_0 hI
  have bad : ¬ okP x1 x2 x3 x4 x5 → Q (-2) d dl := fun h => hQ _ _ _ ⟨StP.rf hI, Or.inr (Or.inr ⟨h, rfl, rfl⟩)⟩
  refine fn_within (p := 30) (q := 150) hn rfl rfl hI (fun g1 => ⟨fun w => absurd w (by decide), fun _ => ?_⟩) (fun g1 => ⟨fun _ => bad (fun h => g1 h.1), fun w => absurd rfl w⟩)
  refine fn_within (p := 1) (q := 99) hn rfl rfl hI (fun g2 => ⟨fun w => absurd w (by decide), fun _ => ?_⟩) (fun g2 => ⟨fun _ => bad (fun h => g2 h.2.1), fun w => absurd rfl w⟩)
  refine fn_within (p := 0) (q := 2) hn rfl rfl hI (fun g3 => ⟨fun w => absurd w (by decide), fun _ => ?_⟩) (fun g3 => ⟨fun _ => bad (fun h => g3 h.2.2.1), fun w => absurd rfl w⟩)
  refine fn_within (p := 0) (q := 1) hn rfl rfl hI (fun g4 => ⟨fun w => absurd w (by decide), fun _ => ?_⟩) (fun g4 => ⟨fun _ => bad (fun h => g4 h.2.2.2.1), fun w => absurd rfl w⟩)
  refine fn_within (p := 10) (q := 90) hn rfl rfl hI (fun g5 => ⟨fun _ => ?_, fun w => absurd w (by decide)⟩) (fun g5 => ⟨fun w => absurd rfl w, fun _ => bad (fun h => g5 h.2.2.2.2)⟩)
  have ok : okP x1 x2 x3 x4 x5 := ⟨g1, g2, g3, g4, g5⟩
  refine ⟨fun h => ?_, fun h => ?_⟩
  · have h : (d 1 0).toInt < 40 := (i_lt rfl (rfl : (40 : Int32).toInt = 40)).mp h
    have hi : vp_in (d 1 0) 40 := vin rfl (by omega) (by omega)
    refine ⟨hi, fun d2 e2 => ?_⟩
    have k2 : d2 1 0 = d 1 0 := by rw [e2, u2_row (by omega)]
    rw [k2]
    refine ⟨hi, fun d4 e4 => ?_⟩
    have k4 : d4 1 0 = d 1 0 := by rw [e4, u2_row (by omega), k2]
    rw [k4]
    refine ⟨hi, fun d6 e6 => ?_⟩
    have k6 : d6 1 0 = d 1 0 := by rw [e6, u2_row (by omega), k4]
    rw [k6]
    refine ⟨hi, fun d8 e8 => ?_⟩
    have k8 : d8 1 0 = d 1 0 := by rw [e8, u2_row (by omega), k6]
    rw [k8]
    refine ⟨hi, fun d10 e10 d11 e11 => ?_⟩
    have k10 : d10 1 0 = d 1 0 := by rw [e10, u2_row (by omega), k8]
    have t : ((d10 1 0) + 1).toInt = (d 1 0).toInt + 1 := ti_add (by rw [k10]) (rfl : (1 : Int32).toInt = 1) (by omega) (by omega)
    have s2 : StA d dl d2 dl := by rw [e2]; exact pw_2 (StP.rf hI) (by omega) (by omega) rfl
    have s4 : StA d dl d4 dl := by rw [e4]; exact pw_3 s2 (by omega) (by omega) rfl
    have s6 : StA d dl d6 dl := by rw [e6]; exact pw_4 s4 (by omega) (by omega) rfl
    have s8 : StA d dl d8 dl := by rw [e8]; exact pw_5 s6 (by omega) (by omega) rfl
    have s10 : StA d dl d10 dl := by rw [e10]; exact pw_6 s8 (by omega) (by omega) rfl
    have s11 : StA d dl d11 dl := by rw [e11]; exact pw_1_0 s10 (by rw [t]; omega) (by rw [t]; omega) rfl
    have k11 : (d11 1 0).toInt = (d 1 0).toInt + 1 := by rw [e11, u2_eq, t]
    have t2 : ((d11 1 0) - 1).toInt = ((d 1 0).toInt + 1) - 1 := ti_sub k11 (rfl : (1 : Int32).toInt = 1) (by omega) (by omega)
    refine hQ _ _ _ ⟨s11, Or.inl ⟨ok, h, by rw [t2]; omega, k11, ?_, ?_, ?_, ?_, ?_⟩⟩
    · rw [e11, u2_row (by omega), e10, u2_row (by omega), e8, u2_row (by omega), e6, u2_row (by omega), e4, u2_row (by omega), e2, u2_own]
    · rw [e11, u2_row (by omega), e10, u2_row (by omega), e8, u2_row (by omega), e6, u2_row (by omega), e4, u2_own, e2, u2_row (by omega)]
    · rw [e11, u2_row (by omega), e10, u2_row (by omega), e8, u2_row (by omega), e6, u2_own, e4, u2_row (by omega), e2, u2_row (by omega)]
    · rw [e11, u2_row (by omega), e10, u2_row (by omega), e8, u2_own, e6, u2_row (by omega), e4, u2_row (by omega), e2, u2_row (by omega)]
    · rw [e11, u2_row (by omega), e10, u2_own, e8, u2_row (by omega), e6, u2_row (by omega), e4, u2_row (by omega), e2, u2_row (by omega)]
  · have h : ¬ (d 1 0).toInt < 40 := fun q => h ((i_lt rfl (rfl : (40 : Int32).toInt = 40)).mpr q)
    exact hQ _ _ _ ⟨StP.rf hI, Or.inr (Or.inl ⟨ok, h, rfl, rfl⟩)⟩
theorem sp_X10_paddler {n : Nat} (hn : 1000000000 ≤ n) {x1 x2 x3 x4 x5 : Int32} {d : DD} {dl : LL} (hI : Inv d) {Q : Int32 → DD → LL → Prop} (hQ : ∀ (r : Int32) (d2 : DD) (l2 : LL), StB d dl d2 l2 ∧ PadQ 211 212 d d2 x1 x2 x3 x4 x5 r → Q r d2 l2) : F_X10_paddler n x1 x2 x3 x4 x5 d dl Q := by
  have m := iv_211_0 hI
  have bad : ¬ okP x1 x2 x3 x4 x5 → Q (-2) d dl := fun h => hQ _ _ _ ⟨StP.rf hI, Or.inr (Or.inr ⟨h, rfl, rfl⟩)⟩
  have lt : ∀ {x y : Int32} {p : Int}, y.toInt = p → (x < y → x.toInt < p) := fun hy h => (i_lt rfl hy).mp h
  have nlt : ∀ {x y : Int32} {p : Int}, y.toInt = p → (¬ x < y → ¬ x.toInt < p) := fun hy h q => h ((i_lt rfl hy).mpr q)
  have gt : ∀ {x y : Int32} {p : Int}, y.toInt = p → (y < x → p < x.toInt) := fun hy h => (i_lt hy rfl).mp h
  have ngt : ∀ {x y : Int32} {p : Int}, y.toInt = p → (¬ y < x → ¬ p < x.toInt) := fun hy h q => h ((i_lt hy rfl).mpr q)
  refine ⟨fun h => bad (fun o => ?_), fun a1 => ⟨fun h => bad (fun o => ?_), fun a2 => ⟨fun h => bad (fun o => ?_), fun a3 => ⟨fun h => bad (fun o => ?_), fun a4 => ⟨fun h => bad (fun o => ?_), fun a5 => ⟨fun h => bad (fun o => ?_), fun a6 => ⟨fun h => bad (fun o => ?_), fun a7 => ⟨fun h => bad (fun o => ?_), fun a8 => ⟨fun h => bad (fun o => ?_), fun a9 => ⟨fun a10 => ?_, fun h => bad (fun o => ?_)⟩⟩⟩⟩⟩⟩⟩⟩⟩⟩
  · have h := lt (p := 30) rfl h; have := o.1; omega
  · have h := gt (p := 150) rfl h; have := o.1; omega
  · have h := lt (p := 1) rfl h; have := o.2.1; omega
  · have h := gt (p := 99) rfl h; have := o.2.1; omega
  · have h := lt (p := 0) rfl h; have := o.2.2.1; omega
  · have h := gt (p := 2) rfl h; have := o.2.2.1; omega
  · have h := lt (p := 0) rfl h; have := o.2.2.2.1; omega
  · have h := gt (p := 1) rfl h; have := o.2.2.2.1; omega
  · have h := lt (p := 10) rfl h; have := o.2.2.2.2; omega
  · have a1 := nlt (p := 30) rfl a1
    have a2 := ngt (p := 150) rfl a2
    have a3 := nlt (p := 1) rfl a3
    have a4 := ngt (p := 99) rfl a4
    have a5 := nlt (p := 0) rfl a5
    have a6 := ngt (p := 2) rfl a6
    have a7 := nlt (p := 0) rfl a7
    have a8 := ngt (p := 1) rfl a8
    have a9 := nlt (p := 10) rfl a9
    have a10 : x5.toInt ≤ 90 := (i_le rfl (rfl : (90 : Int32).toInt = 90)).mp a10
    have ok : okP x1 x2 x3 x4 x5 := ⟨by omega, by omega, by omega, by omega, by omega⟩
    refine ⟨fun h => ?_, fun h => ?_⟩
    · have h : ¬ (d 211 0).toInt = 40 := fun q => h ((i_eq rfl (rfl : (40 : Int32).toInt = 40)).mpr q)
      have hi : vp_in (d 211 0) 40 := vin rfl (by omega) (by omega)
      refine ⟨hi, fun d2 e2 => ?_⟩
      have k2 : d2 211 0 = d 211 0 := by rw [e2, u2_row (by omega)]
      rw [k2]
      refine ⟨hi, fun d4 e4 => ?_⟩
      have k4 : d4 211 0 = d 211 0 := by rw [e4, u2_row (by omega), k2]
      rw [k4]
      refine ⟨hi, fun d6 e6 => ?_⟩
      have k6 : d6 211 0 = d 211 0 := by rw [e6, u2_row (by omega), k4]
      rw [k6]
      refine ⟨hi, fun d8 e8 => ?_⟩
      have k8 : d8 211 0 = d 211 0 := by rw [e8, u2_row (by omega), k6]
      rw [k8]
      refine ⟨hi, fun d10 e10 d11 e11 => ?_⟩
      have k10 : d10 211 0 = d 211 0 := by rw [e10, u2_row (by omega), k8]
      have t : ((d10 211 0) + 1).toInt = (d 211 0).toInt + 1 := ti_add (by rw [k10]) (rfl : (1 : Int32).toInt = 1) (by omega) (by omega)
      have s2 : StB d dl d2 dl := by rw [e2]; exact pw_212 (StP.rf hI) (by omega) (by omega) rfl
      have s4 : StB d dl d4 dl := by rw [e4]; exact pw_213 s2 (by omega) (by omega) rfl
      have s6 : StB d dl d6 dl := by rw [e6]; exact pw_214 s4 (by omega) (by omega) rfl
      have s8 : StB d dl d8 dl := by rw [e8]; exact pw_215 s6 (by omega) (by omega) rfl
      have s10 : StB d dl d10 dl := by rw [e10]; exact pw_216 s8 (by omega) (by omega) rfl
      have s11 : StB d dl d11 dl := by rw [e11]; exact pw_211_0 s10 (by rw [t]; omega) (by rw [t]; omega) rfl
      refine hQ _ _ _ ⟨s11, Or.inl ⟨ok, by omega, by rw [k10], by rw [e11, u2_eq, t], ?_, ?_, ?_, ?_, ?_⟩⟩
      · rw [e11, u2_row (by omega), e10, u2_row (by omega), e8, u2_row (by omega), e6, u2_row (by omega), e4, u2_row (by omega), e2, u2_own]
      · rw [e11, u2_row (by omega), e10, u2_row (by omega), e8, u2_row (by omega), e6, u2_row (by omega), e4, u2_own, e2, u2_row (by omega)]
      · rw [e11, u2_row (by omega), e10, u2_row (by omega), e8, u2_row (by omega), e6, u2_own, e4, u2_row (by omega), e2, u2_row (by omega)]
      · rw [e11, u2_row (by omega), e10, u2_row (by omega), e8, u2_own, e6, u2_row (by omega), e4, u2_row (by omega), e2, u2_row (by omega)]
      · rw [e11, u2_row (by omega), e10, u2_own, e8, u2_row (by omega), e6, u2_row (by omega), e4, u2_row (by omega), e2, u2_row (by omega)]
    · have h : (d 211 0).toInt = 40 := (i_eq rfl (rfl : (40 : Int32).toInt = 40)).mp h
      exact hQ _ _ _ ⟨StP.rf hI, Or.inr (Or.inl ⟨ok, by omega, rfl, rfl⟩)⟩
  · have h : ¬ x5.toInt ≤ 90 := fun q => h ((i_le rfl (rfl : (90 : Int32).toInt = 90)).mpr q)
    have := o.2.2.2.2; omega
theorem pad_step {d d1 d2 : DD} {dl l1 lw : LL} {r1 r2 x1 x2 x3 x4 x5 : Int32} (h : R0 d dl) (s1 : StA d dl d1 l1) (q1 : PadQ 1 2 d d1 x1 x2 x3 x4 x5 r1) (s2 : StB d1 l1 d2 lw) (q2 : PadQ 211 212 d1 d2 x1 x2 x3 x4 x5 r2) : R0 d2 lw ∧ r1 = r2 := by
  have c1 : d 1 0 = d 211 0 := h.c1
  have c15 := h.c15
  have e0 : d1 211 0 = d 1 0 := by rw [s1.2.1 211 0 rfl]; exact c1.symm
  have k0 : d2 1 0 = d1 1 0 := s2.2.1 1 0 rfl
  have r2' : d2 2 = d1 2 := funext (fun l => s2.2.1 2 l rfl)
  have r3' : d2 3 = d1 3 := funext (fun l => s2.2.1 3 l rfl)
  have r4' : d2 4 = d1 4 := funext (fun l => s2.2.1 4 l rfl)
  have r5' : d2 5 = d1 5 := funext (fun l => s2.2.1 5 l rfl)
  have r6' : d2 6 = d1 6 := funext (fun l => s2.2.1 6 l rfl)
  have p2 : d1 212 = d 2 := funext (fun l => (s1.2.1 212 l rfl).trans (c15 l).1.symm)
  have p3 : d1 213 = d 3 := funext (fun l => (s1.2.1 213 l rfl).trans (c15 l).2.1.symm)
  have p4 : d1 214 = d 4 := funext (fun l => (s1.2.1 214 l rfl).trans (c15 l).2.2.1.symm)
  have p5 : d1 215 = d 5 := funext (fun l => (s1.2.1 215 l rfl).trans (c15 l).2.2.2.1.symm)
  have p6 : d1 216 = d 6 := funext (fun l => (s1.2.1 216 l rfl).trans (c15 l).2.2.2.2.symm)
  unfold PadQ at q2
  rw [e0] at q2
  rcases q1 with ⟨o1, g1, a1, a2, b1, b2, b3, b4, b5⟩ | ⟨o1, g1, a1, a2⟩ | ⟨o1, a1, a2⟩
  · rcases q2 with ⟨o2, g2, f1, f2, t1, t2, t3, t4, t5⟩ | ⟨o2, g2, _⟩ | ⟨o2, _⟩
    · refine ⟨h.u_pad s1 s2 (Int32.toInt_inj.mp (by rw [k0]; omega)) (fun p => ?_), Int32.toInt_inj.mp (by omega)⟩
      have w2 : d2 212 = d2 2 := by rw [r2', b1, t1, p2]
      have w3 : d2 213 = d2 3 := by rw [r3', show d1 3 = _ from b2, show d2 213 = _ from t2, show d1 (212 + 1) = d 3 from p3]
      have w4 : d2 214 = d2 4 := by rw [r4', show d1 4 = _ from b3, show d2 214 = _ from t3, show d1 (212 + 2) = d 4 from p4]
      have w5 : d2 215 = d2 5 := by rw [r5', show d1 5 = _ from b4, show d2 215 = _ from t4, show d1 (212 + 3) = d 5 from p5]
      have w6 : d2 216 = d2 6 := by rw [r6', show d1 6 = _ from b5, show d2 216 = _ from t5, show d1 (212 + 4) = d 6 from p6]
      rw [w2, w3, w4, w5, w6]
      exact ⟨rfl, rfl, rfl, rfl, rfl⟩
    · exact absurd g1 g2
    · exact absurd o1 o2
  · rcases q2 with ⟨o2, g2, _⟩ | ⟨o2, g2, f1, f2⟩ | ⟨o2, _⟩
    · exact absurd g2 g1
    · subst a2; subst f2
      exact ⟨h.u_pad s1 s2 h.c1 h.c15, by rw [a1, f1]⟩
    · exact absurd o1 o2
  · rcases q2 with ⟨o2, _⟩ | ⟨o2, _⟩ | ⟨o2, f1, f2⟩
    · exact absurd o2 o1
    · exact absurd o2 o1
    · subst a2; subst f2
      exact ⟨h.u_pad s1 s2 h.c1 h.c15, by rw [a1, f1]⟩
