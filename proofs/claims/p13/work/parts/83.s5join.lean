def okJ (m mp c p : Int32) : Prop := (0 ≤ c.toInt ∧ c.toInt < m.toInt) ∧ (0 ≤ p.toInt ∧ p.toInt < mp.toInt)
def JoinP9 (d : DD) (dl : LL) (dz : DD) (lz : LL) (c p r : Int32) : Prop :=
  (¬ okJ (d 0 2) (d 1 0) c p ∧ r = -1 ∧ dz = d ∧ lz = dl) ∨ (okJ (d 0 2) (d 1 0) c p ∧ bt (dl (37 + 3 * c.toNatClampNeg) 5) p.toNatClampNeg = true ∧ r = -3 ∧ dz = d ∧ lz = dl) ∨ (okJ (d 0 2) (d 1 0) c p ∧ ¬ bt (dl (37 + 3 * c.toNatClampNeg) 5) p.toNatClampNeg = true ∧ ¬ (d (37 + 3 * c.toNatClampNeg) 3).toInt < 8 ∧ r = -4 ∧ dz = d ∧ lz = dl) ∨ (okJ (d 0 2) (d 1 0) c p ∧ ¬ bt (dl (37 + 3 * c.toNatClampNeg) 5) p.toNatClampNeg = true ∧ (d (37 + 3 * c.toNatClampNeg) 3).toInt < 8 ∧ r.toInt = (d (37 + 3 * c.toNatClampNeg) 3).toInt + 1 ∧ (dz (37 + 3 * c.toNatClampNeg) 3).toInt = (d (37 + 3 * c.toNatClampNeg) 3).toInt + 1 ∧ (∀ k, k < 6 → k ≠ c.toNatClampNeg → dz (37 + 3 * k) 3 = d (37 + 3 * k) 3) ∧ (dz (38 + 3 * c.toNatClampNeg) = upd (d (38 + 3 * c.toNatClampNeg)) (d (37 + 3 * c.toNatClampNeg) 3).toNatClampNeg p ∧ dz (37 + 3 * c.toNatClampNeg) 6 = 0 ∧ ∀ k, k < 6 → k ≠ c.toNatClampNeg → dz (37 + 3 * k) 6 = d (37 + 3 * k) 6 ∧ dz (38 + 3 * k) = d (38 + 3 * k)) ∧ lz = l2 dl (37 + 3 * c.toNatClampNeg) 5 ((dl (37 + 3 * c.toNatClampNeg) 5) ||| (lshl 1 p)))
def JoinP10 (d dz : DD) (c p r : Int32) : Prop :=
  (¬ okJ (d 211 1) (d 211 0) c p ∧ r = -1 ∧ dz = d) ∨ (okJ (d 211 1) (d 211 0) c p ∧ Mem d c.toNatClampNeg p ∧ r = -3 ∧ dz = d) ∨ (okJ (d 211 1) (d 211 0) c p ∧ ¬ Mem d c.toNatClampNeg p ∧ ¬ (d 220 c.toNatClampNeg).toInt < 8 ∧ r = -4 ∧ dz = d) ∨ (okJ (d 211 1) (d 211 0) c p ∧ ¬ Mem d c.toNatClampNeg p ∧ (d 220 c.toNatClampNeg).toInt < 8 ∧ r.toInt = (d 220 c.toNatClampNeg).toInt + 1 ∧ (dz 220 c.toNatClampNeg).toInt = (d 220 c.toNatClampNeg).toInt + 1 ∧ (∀ k, k ≠ c.toNatClampNeg → dz 220 k = d 220 k) ∧ dz 222 (8 * c.toNatClampNeg + (d 220 c.toNatClampNeg).toNatClampNeg) = p ∧ (∀ j, j ≠ 8 * c.toNatClampNeg + (d 220 c.toNatClampNeg).toNatClampNeg → dz 222 j = d 222 j) ∧ dz 224 c.toNatClampNeg = 0 ∧ ∀ k, k ≠ c.toNatClampNeg → dz 224 k = d 224 k)
theorem fn_X1_addMember {n k : Nat} (hk : k < 6) {x1 : Int32} {d : DD} {dl : LL} (hI : Inv d) (b1 : 0 ≤ x1.toInt ∧ x1.toInt < 40) (hc : (d (37 + 3 * k) 3).toInt < 8) {Q : DD → LL → Prop} (hQ : ∀ dz : DD, Kp pL d dz → (dz (37 + 3 * k) 3).toInt = (d (37 + 3 * k) 3).toInt + 1 → (∀ i, i < 6 → i ≠ k → dz (37 + 3 * i) 3 = d (37 + 3 * i) 3) → (dz (38 + 3 * k) = upd (d (38 + 3 * k)) (d (37 + 3 * k) 3).toNatClampNeg x1 ∧ dz (37 + 3 * k) 6 = 0 ∧ ∀ i, i < 6 → i ≠ k → dz (37 + 3 * i) 6 = d (37 + 3 * i) 6 ∧ dz (38 + 3 * i) = d (38 + 3 * i)) → Q dz (l2 dl (37 + 3 * k) 5 ((dl (37 + 3 * k) 5) ||| (lshl 1 x1)))) : F_X1_addMember n k x1 d dl Q := by
  have m := iv_37_3 hI hk
  refine ⟨vin rfl m.1 (by omega), ?_⟩
  intro d2 e2 d3 e3 l4 e4 d5 e5
  have s2 : StL d dl d2 dl := by rw [e2]; exact pw_38 (StP.rf hI) hk (by omega) (by omega) rfl
  have k2 : d2 (37 + 3 * k) 3 = d (37 + 3 * k) 3 := by rw [e2, u2_row (by omega)]
  have t : ((d2 (37 + 3 * k) 3) + 1).toInt = (d (37 + 3 * k) 3).toInt + 1 := ti_add (congrArg Int32.toInt k2) (rfl : (1 : Int32).toInt = 1) (by omega) (by omega)
  have s3 : StL d dl d3 dl := by rw [e3]; exact pw_37_3 s2 hk (by rw [t]; omega) (by rw [t]; omega) rfl
  have s5 : StL d dl d5 dl := by rw [e5]; exact pw_37_6 s3 hk (by decide) (by decide) rfl
  rw [e4]
  refine hQ d5 s5.kp ?_ (fun i hi hik => ?_) ⟨?_, ?_, fun i hi hik => ⟨?_, ?_⟩⟩
  · rw [e5, u2_ne (Or.inr (by omega)), e3, u2_eq, t]
  · rw [e5, u2_row (by omega), e3, u2_row (by omega), e2, u2_row (by omega)]
  · rw [e5, u2_row (by omega), e3, u2_row (by omega), e2, u2_own]
  · rw [e5, u2_eq]
  · rw [e5, u2_row (by omega), e3, u2_row (by omega), e2, u2_row (by omega)]
  · rw [e5, u2_row (by omega), e3, u2_row (by omega), e2, u2_row (by omega)]
theorem sp_X9_join {n : Nat} (hn : 1000000000 ≤ n) {x1 x2 : Int32} {d : DD} {dl : LL} (hI : Inv d) {Q : Int32 → DD → LL → Prop} (hQ : ∀ (r : Int32) (dz : DD) (lz : LL), Kp pL d dz ∧ JoinP9 d dl dz lz x1 x2 r → Q r dz lz) : F_X9_join n x1 x2 d dl Q := by
  have m := iv_1_0 hI
  have m2 := iv_0_2 hI
  refine sp_X9_isCrew hn hI (fun r1 d2 l3 ⟨p1, q1⟩ => ?_)
  obtain ⟨h3, rfl, rfl⟩ := p1
  refine ⟨fun h1 => ?_, fun h1 => ?_⟩
  · have h1 : r1.toInt = 0 := (i_eq rfl (rfl : (0 : Int32).toInt = 0)).mp h1
    exact hQ _ _ _ ⟨Kp.rf hI, Or.inl ⟨fun h => by have := h.1; omega, rfl, rfl, rfl⟩⟩
  have h1 : ¬ r1.toInt = 0 := fun q => h1 ((i_eq rfl (rfl : (0 : Int32).toInt = 0)).mpr q)
  refine sp_X4_has hn hI (fun r5 d6 l7 ⟨p2, q2⟩ => ?_)
  obtain ⟨h4, rfl, rfl⟩ := p2
  refine ⟨fun h2 => ?_, fun h2 => ?_⟩
  · have h2 : ¬ r5.toInt = 0 := fun q => h2 ((i_eq rfl (rfl : (0 : Int32).toInt = 0)).mpr q)
    have ok : okJ (d6 0 2) (d6 1 0) x1 x2 := ⟨by omega, by omega⟩
    have hi : vp_in x1 6 := vin rfl (by omega) (by omega)
    refine ⟨hi, fun k10 e10 => ?_⟩
    subst e10
    have hk := clamp_in hi
    have b2 : 0 ≤ x2.toInt ∧ x2.toInt < 40 := by omega
    have hr := bt_read (m := l7 (37 + 3 * x1.toNatClampNeg) 5) (x := x2) b2.1 b2.2
    refine ⟨fun h6 => ⟨fun _ => ⟨fun h7 => ?_, fun h7 => ?_⟩, fun g => absurd rfl g⟩, fun h6 => ⟨fun g => absurd g (by decide), fun _ => ?_⟩⟩
    · have h7 : (d6 (37 + 3 * x1.toNatClampNeg) 3).toInt < 8 := (i_lt rfl (rfl : (8 : Int32).toInt = 8)).mp h7
      refine fn_X1_addMember hk hI b2 h7 (fun dz kz ez fz gz => hQ _ _ _ ⟨kz, Or.inr (Or.inr (Or.inr ⟨ok, by rw [hr.mp h6]; decide, h7, ez, ez, fz, gz, rfl⟩))⟩)
    · have h7 : ¬ (d6 (37 + 3 * x1.toNatClampNeg) 3).toInt < 8 := fun q => h7 ((i_lt rfl (rfl : (8 : Int32).toInt = 8)).mpr q)
      exact hQ _ _ _ ⟨Kp.rf hI, Or.inr (Or.inr (Or.inl ⟨ok, by rw [hr.mp h6]; decide, h7, rfl, rfl, rfl⟩))⟩
    · refine hQ _ _ _ ⟨Kp.rf hI, Or.inr (Or.inl ⟨ok, ?_, rfl, rfl, rfl⟩)⟩
      cases hb : bt (l7 (37 + 3 * x1.toNatClampNeg) 5) x2.toNatClampNeg
      · exact absurd (hr.mpr hb) h6
      · rfl
  · have h2 : r5.toInt = 0 := (i_eq rfl (rfl : (0 : Int32).toInt = 0)).mp h2
    exact hQ _ _ _ ⟨Kp.rf hI, Or.inl ⟨fun h => by have := h.2; omega, rfl, rfl, rfl⟩⟩
theorem sp_X10_join {n : Nat} (hn : 1000000000 ≤ n) {x1 x2 : Int32} {d : DD} {dl : LL} (hI : Inv d) {Q : Int32 → DD → LL → Prop} (hQ : ∀ (r : Int32) (dz : DD) (lz : LL), (Kp pM d dz ∧ lz = dl) ∧ JoinP10 d dz x1 x2 r → Q r dz lz) : F_X10_join n x1 x2 d dl Q := by
  have m := iv_211_0 hI
  have m2 := iv_211_1 hI
  refine sp_X10_isCrew hn hI (fun r1 d2 l3 ⟨p1, q1⟩ => ?_)
  obtain ⟨h3, rfl, rfl⟩ := p1
  refine ⟨fun h1 => ?_, fun h1 => ?_⟩
  · have h1 : r1.toInt = 0 := (i_eq rfl (rfl : (0 : Int32).toInt = 0)).mp h1
    exact hQ _ _ _ ⟨⟨Kp.rf hI, rfl⟩, Or.inl ⟨fun h => by have := h.1; omega, rfl, rfl⟩⟩
  have h1 : ¬ r1.toInt = 0 := fun q => h1 ((i_eq rfl (rfl : (0 : Int32).toInt = 0)).mpr q)
  refine sp_X10_isPaddler hn hI (fun r5 d6 l7 ⟨p2, q2⟩ => ?_)
  obtain ⟨h4, rfl, rfl⟩ := p2
  refine ⟨fun h2 => ?_, fun h2 => ?_⟩
  · have h2 : ¬ r5.toInt = 0 := fun q => h2 ((i_eq rfl (rfl : (0 : Int32).toInt = 0)).mpr q)
    have ok : okJ (d6 211 1) (d6 211 0) x1 x2 := ⟨by omega, by omega⟩
    have hi : vp_in x1 6 := vin rfl (by omega) (by omega)
    have mc := iv_220 hI x1.toNatClampNeg
    refine fn_X10_isMember hn hI ⟨by omega, by omega⟩ (fun r hr => ⟨fun h5 => ⟨hi, fun h6 => ⟨hi, ?_⟩, fun h6 => ?_⟩, fun h5 => ?_⟩)
    · have nm : ¬ Mem d6 x1.toNatClampNeg x2 := by
        rcases hr with ⟨e, _⟩ | ⟨_, g⟩
        · rw [e] at h5; exact absurd h5 (by decide)
        · exact g
      have h6 : ¬ (d6 220 x1.toNatClampNeg).toInt = 8 := fun q => h6 ((i_eq rfl (rfl : (8 : Int32).toInt = 8)).mpr q)
      obtain ⟨i8, c8⟩ := ix8 (x1 := x1) (x3 := d6 220 x1.toNatClampNeg) (by omega) (by omega) mc.1 (by omega)
      refine ⟨i8, ?_⟩
      rw [c8]
      intro d17 e17
      have s17 : StM d6 l7 d17 l7 := by rw [e17]; exact pw_222 (StP.rf hI) (by omega) (by omega) rfl
      refine ⟨hi, ?_⟩
      intro d19 e19
      have s19 : StM d6 l7 d19 l7 := by rw [e19]; exact pw_224 s17 (vn_in _).1 (vn_in _).2 rfl
      have k19 : d19 220 x1.toNatClampNeg = d6 220 x1.toNatClampNeg := by rw [e19, u2_row (by omega), e17, u2_row (by omega)]
      have t : ((d19 220 x1.toNatClampNeg) + 1).toInt = (d6 220 x1.toNatClampNeg).toInt + 1 := ti_add (congrArg Int32.toInt k19) (rfl : (1 : Int32).toInt = 1) (by omega) (by omega)
      refine ⟨hi, hi, ?_⟩
      intro d22 e22
      have s22 : StM d6 l7 d22 l7 := by rw [e22]; exact pw_220 s19 (by rw [t]; omega) (by rw [t]; omega) rfl
      refine hQ _ _ _ ⟨⟨s22.kp, rfl⟩, Or.inr (Or.inr (Or.inr ⟨ok, nm, by omega, t, ?_, ?_, ?_, ?_, ?_, ?_⟩))⟩
      · rw [e22, u2_eq, t]
      · intro k hk
        rw [e22, u2_ne (Or.inr hk), e19, u2_row (by omega), e17, u2_row (by omega)]
      · rw [e22, u2_row (by omega), e19, u2_row (by omega), e17, u2_eq]
      · intro j hj
        rw [e22, u2_row (by omega), e19, u2_row (by omega), e17, u2_ne (Or.inr hj)]
      · rw [e22, u2_row (by omega), e19, u2_eq]; decide
      · intro k hk
        rw [e22, u2_row (by omega), e19, u2_ne (Or.inr hk), e17, u2_row (by omega)]
    · have nm : ¬ Mem d6 x1.toNatClampNeg x2 := by
        rcases hr with ⟨e, _⟩ | ⟨_, g⟩
        · rw [e] at h5; exact absurd h5 (by decide)
        · exact g
      have h6 : (d6 220 x1.toNatClampNeg).toInt = 8 := (i_eq rfl (rfl : (8 : Int32).toInt = 8)).mp h6
      exact hQ _ _ _ ⟨⟨Kp.rf hI, rfl⟩, Or.inr (Or.inr (Or.inl ⟨ok, nm, by omega, rfl, rfl⟩))⟩
    · rcases hr with ⟨_, g⟩ | ⟨e, _⟩
      · exact hQ _ _ _ ⟨⟨Kp.rf hI, rfl⟩, Or.inr (Or.inl ⟨ok, g, rfl, rfl⟩)⟩
      · exact absurd e h5
  · have h2 : r5.toInt = 0 := (i_eq rfl (rfl : (0 : Int32).toInt = 0)).mp h2
    exact hQ _ _ _ ⟨⟨Kp.rf hI, rfl⟩, Or.inl ⟨fun h => by have := h.2; omega, rfl, rfl⟩⟩
theorem mem_bt {d : DD} {dl : LL} (h : C8 d dl) {k : Nat} (hk : k < 6) {p : Int32} (p0 : 0 ≤ p.toInt) (p1 : p.toInt < 40) : bt (dl (37 + 3 * k) 5) p.toNatClampNeg = true ↔ Mem d k p := by
  have hp : p.toNatClampNeg = p.toInt.toNat := rfl
  have hz : ((p.toNatClampNeg : Nat) : Int) = p.toInt := by omega
  refine (h k hk p.toNatClampNeg (by omega)).trans ⟨fun ⟨i, q, e⟩ => ⟨i, q, Int32.toInt_inj.mp (by omega)⟩, fun ⟨i, q, e⟩ => ⟨i, q, by rw [e]; omega⟩⟩
theorem Mem_k {d d2 : DD} {k : Nat} {p : Int32} (h1 : d2 220 = d 220) (h2 : d2 222 = d 222) : Mem d2 k p ↔ Mem d k p := by unfold Mem; rw [h1, h2]
theorem join_step {d d1 d2 : DD} {dl l1 lw : LL} {r1 r2 x1 x2 : Int32} (h : R0 d dl) (p1 : Kp pL d d1) (q1 : JoinP9 d dl d1 l1 x1 x2 r1) (p2 : Kp pM d1 d2 ∧ lw = l1) (q2 : JoinP10 d1 d2 x1 x2 r2) : R0 d2 lw ∧ r1 = r2 := by
  obtain ⟨p2, rfl⟩ := p2
  have m := iv_1_0 h.i
  have m2 := iv_0_2 h.i
  have e0 : d1 211 0 = d 1 0 := by rw [p1.2 211 0 rfl]; exact h.c1.symm
  have e1 : d1 211 1 = d 0 2 := by rw [p1.2 211 1 rfl]; exact h.c4.symm
  have e220 : d1 220 = d 220 := funext (fun l => p1.2 220 l rfl)
  have e222 : d1 222 = d 222 := funext (fun l => p1.2 222 l rfl)
  unfold JoinP10 at q2
  rw [e0, e1, Mem_k e220 e222, e220, e222] at q2
  by_cases ok : okJ (d 0 2) (d 1 0) x1 x2
  rotate_left
  · rcases q1 with ⟨_, a1, a2, a3⟩ | ⟨o, _⟩ | ⟨o, _⟩ | ⟨o, _⟩
    · rcases q2 with ⟨_, b1, b2⟩ | ⟨o, _⟩ | ⟨o, _⟩ | ⟨o, _⟩
      · rw [b2, a2, a3, a1, b1]; exact ⟨h, rfl⟩
      all_goals exact absurd o ok
    all_goals exact absurd o ok
  have hA : x1.toNatClampNeg = x1.toInt.toNat := rfl
  have k1 := ok.1
  have k2 := ok.2
  have hk : x1.toNatClampNeg < 6 := by omega
  have hm := mem_bt h.c8 hk k2.1 (show x2.toInt < 40 by omega)
  have c7 := h.c7 _ hk
  by_cases hb : bt (dl (37 + 3 * x1.toNatClampNeg) 5) x2.toNatClampNeg = true
  · have hm2 := hm.mp hb
    rcases q1 with ⟨o, _⟩ | ⟨_, _, a1, a2, a3⟩ | ⟨_, o, _⟩ | ⟨_, o, _⟩
    · exact absurd ok o
    · rcases q2 with ⟨o, _⟩ | ⟨_, _, b1, b2⟩ | ⟨_, o, _⟩ | ⟨_, o, _⟩
      · exact absurd ok o
      · rw [b2, a2, a3, a1, b1]; exact ⟨h, rfl⟩
      · exact absurd hm2 o
      · exact absurd hm2 o
    · exact absurd hb o
    · exact absurd hb o
  have hm2 : ¬ Mem d x1.toNatClampNeg x2 := fun q => hb (hm.mpr q)
  rw [← c7] at q2
  rcases q1 with ⟨o, _⟩ | ⟨_, o, _⟩ | ⟨_, _, g1, a1, a2, a3⟩ | ⟨_, _, g1, a1, a2, a3, a5, a4⟩
  · exact absurd ok o
  · exact absurd o hb
  · rcases q2 with ⟨o, _⟩ | ⟨_, o, _⟩ | ⟨_, _, _, b1, b2⟩ | ⟨_, _, g2, _⟩
    · exact absurd ok o
    · exact absurd o hm2
    · rw [b2, a2, a3, a1, b1]; exact ⟨h, rfl⟩
    · exact absurd g2 g1
  rcases q2 with ⟨o, _⟩ | ⟨_, o, _⟩ | ⟨_, _, g2, _⟩ | ⟨_, _, _, b1, b2, b3, b4, b5, b6, b7⟩
  · exact absurd ok o
  · exact absurd o hm2
  · exact absurd g1 g2
  have mc := iv_37_3 h.i hk
  have hc : (d (37 + 3 * x1.toNatClampNeg) 3).toNatClampNeg = (d (37 + 3 * x1.toNatClampNeg) 3).toInt.toNat := rfl
  have hz2 : ((x2.toNatClampNeg : Nat) : Int) = x2.toInt := by have hp : x2.toNatClampNeg = x2.toInt.toNat := rfl; omega
  have o1 : ∀ q, bt (lshl 1 x2) q = decide (q = x2.toNatClampNeg) := fun q => bt_one k2.1 (by omega)
  generalize x1.toNatClampNeg = A at *
  generalize (d (37 + 3 * A) 3).toNatClampNeg = N at *
  have e224 : ∀ k, d1 224 k = d 224 k := fun k => p1.2 224 k rfl
  refine ⟨h.u_join p1 p2 (fun p => by rw [a4, l2_row (by omega)]) (fun k hk6 => ?_) (fun k hk6 q hq => ?_) (fun k j hk6 hj => ?_) (fun k hk6 => ?_) (fun k hk6 q => ?_), Int32.toInt_inj.mp (by omega)⟩
  · rw [p2.2 (37 + 3 * k) 3 (by rw [rg_37 hk6]; rfl)]
    by_cases hkA : k = A
    · subst hkA
      exact Int32.toInt_inj.mp (by omega)
    · rw [a3 k hk6 hkA, b3 k hkA]
      exact h.c7 k hk6
  · have c8 := h.c8 k hk6 q hq
    by_cases hkA : k = A
    · subst hkA
      rw [a4, l2_eq, bt_or, o1]
      rw [c7] at g1 mc hc b2
      constructor
      · intro hz
        rw [Bool.or_eq_true] at hz
        rcases hz with hz | hz
        · obtain ⟨i, g, e⟩ := c8.mp hz
          exact ⟨i, by omega, by rw [b5 _ (by omega)]; exact e⟩
        · have hz := of_decide_eq_true hz
          exact ⟨N, by omega, by rw [b4]; omega⟩
      · intro ⟨i, g, e⟩
        rw [Bool.or_eq_true]
        by_cases hi : i = N
        · rw [hi, b4] at e
          exact Or.inr (decide_eq_true (by omega))
        · rw [b5 _ (by omega)] at e
          exact Or.inl (c8.mpr ⟨i, by omega, e⟩)
    · have mk := iv_220 h.i k
      rw [a4, l2_row (by omega), b3 k hkA]
      refine c8.trans ⟨fun ⟨i, g, e⟩ => ⟨i, g, by rw [b5 _ (by omega)]; exact e⟩, fun ⟨i, g, e⟩ => ⟨i, g, by rw [b5 _ (by omega)] at e; exact e⟩⟩
  · rw [p2.2 (38 + 3 * k) j (by rw [rg_38 hk6]; rfl)]
    by_cases hkA : k = A
    · subst hkA
      rw [a5.1]
      by_cases hjN : j = N
      · rw [hjN, b4]
        simp [upd]
      · rw [b5 _ (by omega)]
        simp only [upd, hjN, if_false]
        exact h.c17 k j hk6 hj
    · have m8 := iv_220 h.i k
      rw [(a5.2.2 k hk6 hkA).2, b5 _ (by omega)]
      exact h.c17 k j hk6 hj
  · rw [p2.2 (37 + 3 * k) 6 (by rw [rg_37 hk6]; rfl)]
    by_cases hkA : k = A
    · subst hkA
      rw [a5.2.1, b6]
    · rw [(a5.2.2 k hk6 hkA).1, b7 k hkA, e224]
      exact h.c18 k hk6
  · by_cases hkA : k = A
    · subst hkA
      exact absurd b6 q
    · rw [b7 k hkA, e224] at q
      have c := h.c19 k hk6 q
      rw [p2.2 0 2 rfl, p1.2 0 2 rfl]
      refine ⟨c.1, fun i hi => ?_⟩
      rw [p2.2 218 k rfl, p1.2 218 k rfl] at hi
      rw [p2.2 (39 + 3 * k) i (by rw [rg_39 hk6]; rfl), p1.2 (39 + 3 * k) i (by rw [rg_39 hk6]; rfl), p2.2 223 _ rfl, p1.2 223 _ rfl]
      exact c.2 i hi
