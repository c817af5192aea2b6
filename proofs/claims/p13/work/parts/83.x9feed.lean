theorem dec1 {x : Int32} {k : Nat} (h : x.toInt = (k : Int)) (h2 : k ≤ 100) : ∃ z : Int32, z = x + (-1) ∧ z.toInt = (k : Int) - 1 := by
  have tx : (x + (-1)).toInt = (k : Int) + -1 := ti_add h (rfl : (-1 : Int32).toInt = -1) (by omega) (by omega)
  refine ⟨x + (-1), rfl, tx.trans ?_⟩
  clear tx
  omega
def okF (x : Int32) : Prop := 1 ≤ x.toInt ∧ x.toInt ≤ 8
def byt (y : Int64) (x : Int32) : Int32 := ((lushr y ((8 : Int32) * x)) &&& 255).toInt32
theorem bytB {y : Int64} {x : Int32} (h0 : 0 ≤ x.toInt) (h1 : x.toInt ≤ 7) : ((lshr y ((8 : Int32) * x)) &&& 255).toInt32 = byt y x := by
  have t : ((8 : Int32) * x).toInt = 8 * x.toInt := ti_mul (rfl : (8 : Int32).toInt = 8) rfl (by omega) (by omega)
  unfold byt
  rw [byte_eq (by omega) (by omega)]
def fdb (y : Int64) : Nat → Nat → (Nat → Int32) → Nat → Int32
  | 0, _, T => T
  | k + 1, s, T => fdb y k (s + 1) (upd T s (byt y (Int32.ofNat k)))
theorem fdb_s {y : Int64} {k s : Nat} {T : Nat → Int32} : fdb y (k + 1) s T = fdb y k (s + 1) (upd T s (byt y (Int32.ofNat k))) := rfl
theorem i32_k {x : Int32} {k : Nat} (h : x.toInt = (k : Int)) : x = Int32.ofNat k := by
  have := i32_of (x := x) (by omega)
  rw [at_n h] at this
  exact this
theorem fb_X7_append_5 {n : Nat} {Q : DD → LL → Prop} {y : Int64} {e : DD} {el dl : LL} {F : Nat → Int32} {N : Int} (hQ : ∀ dz : DD, StU e el dz dl → dz 25 = F → (dz 24 0).toInt = N → Q dz dl) : ∀ (j k : Nat) (x4 : Int32) (d : DD), StU e el d dl → x4.toInt = (k : Int) - 1 → k ≤ 8 → (d 24 0).toInt + (k : Int) ≤ 120 → F = fdb y k (d 24 0).toNatClampNeg (d 25) → N = (d 24 0).toInt + (k : Int) → k < j → b_X7_append_5 n Q j y x4 d dl := by
  intro j
  induction j with
  | zero =>
    intro k x4 d hS h4 hk hb hF hN hm
    exact absurd hm (Nat.not_lt_zero _)
  | succ j hK =>
    intro k x4 d hS h4 hk hb hF hN hm
    show _ ∧ _
    have ms := iv_24_0 hS.1
    refine ⟨fun h => ?_, fun h => ?_⟩
    · have h : x4.toInt < 0 := (i_lt rfl (rfl : (0 : Int32).toInt = 0)).mp h
      have hk0 : k = 0 := by omega
      subst hk0
      exact hQ d hS hF.symm (by rw [hN]; omega)
    · have h : ¬ x4.toInt < 0 := fun q => h ((i_lt rfl (rfl : (0 : Int32).toInt = 0)).mpr q)
      obtain ⟨k2, rfl⟩ : ∃ k2, k = k2 + 1 := ⟨k - 1, by omega⟩
      have hx4 : x4 = Int32.ofNat k2 := i32_k (by omega)
      rw [fdb_s, ← hx4] at hF
      refine ⟨fun h2 => ?_, fun h2 => ?_⟩
      · have h2 : 120 ≤ (d 24 0).toInt := (i_le (rfl : (120 : Int32).toInt = 120) rfl).mp h2
        omega
      · have h2 : ¬ 120 ≤ (d 24 0).toInt := fun q => h2 ((i_le (rfl : (120 : Int32).toInt = 120) rfl).mpr q)
        refine ⟨vin rfl (by omega) (by omega), fun d5 e5 d6 e6 => ?_⟩
        have s5 : StU e el d5 dl := by rw [e5]; exact pw_25 hS rfl
        have k5 : d5 24 0 = d 24 0 := by rw [e5, u2_row (by omega)]
        have t : ((d5 24 0) + 1).toInt = (d 24 0).toInt + 1 := ti_add (by rw [k5]) (rfl : (1 : Int32).toInt = 1) (by omega) (by omega)
        have s6 : StU e el d6 dl := by rw [e6]; exact pw_24_0 s5 (by rw [t]; omega) (by rw [t]; omega) rfl
        have k6 : (d6 24 0).toInt = (d 24 0).toInt + 1 := by rw [e6, u2_eq, t]
        have c6 : (d6 24 0).toNatClampNeg = (d 24 0).toNatClampNeg + 1 := by
          rw [clampI k6]
          have : (d 24 0).toNatClampNeg = (d 24 0).toInt.toNat := rfl
          omega
        have r6 : d6 25 = upd (d 25) (d 24 0).toNatClampNeg (byt y x4) := by rw [e6, u2_row (by omega), e5, u2_own]; rfl
        obtain ⟨z, ez, tz⟩ : ∃ z : Int32, z = x4 + (-1) ∧ z.toInt = (k2 : Int) - 1 := dec1 (by omega) (by omega)
        rw [← ez]
        exact hK k2 z d6 s6 tz (by omega) (by rw [k6]; omega) (by rw [r6, c6]; exact hF) (by rw [k6, hN]; omega) (by omega)
theorem fb_X10_feed_33 {n : Nat} {Q : Int32 → DD → LL → Prop} {y : Int64} {e : DD} {el dl : LL} {F : Nat → Int32} {N : Int} (hQ : ∀ dz : DD, StX e el dz dl → dz 225 = F → (dz 211 4).toInt = N → Q (dz 211 4) dz dl) : ∀ (j k : Nat) (x4 : Int32) (d : DD), StX e el d dl → x4.toInt = (k : Int) - 1 → k ≤ 8 → (d 211 4).toInt + (k : Int) ≤ 120 → F = fdb y k (d 211 4).toNatClampNeg (d 225) → N = (d 211 4).toInt + (k : Int) → k < j → b_X10_feed_33 n Q j y x4 d dl := by
  intro j
  induction j with
  | zero =>
    intro k x4 d hS h4 hk hb hF hN hm
    exact absurd hm (Nat.not_lt_zero _)
  | succ j hK =>
    intro k x4 d hS h4 hk hb hF hN hm
    show _ ∧ _
    have ms := iv_211_4 hS.1
    refine ⟨fun h => ?_, fun h => ?_⟩
    · have h : x4.toInt < 0 := (i_lt rfl (rfl : (0 : Int32).toInt = 0)).mp h
      have hk0 : k = 0 := by omega
      subst hk0
      exact hQ d hS hF.symm (by rw [hN]; omega)
    · have h : ¬ x4.toInt < 0 := fun q => h ((i_lt rfl (rfl : (0 : Int32).toInt = 0)).mpr q)
      obtain ⟨k2, rfl⟩ : ∃ k2, k = k2 + 1 := ⟨k - 1, by omega⟩
      have hx4 : x4 = Int32.ofNat k2 := i32_k (by omega)
      rw [fdb_s, ← hx4] at hF
      intro d6 e6
      refine ⟨vin rfl (by omega) (by omega), fun d8 e8 => ?_⟩
      have t : ((d 211 4) + 1).toInt = (d 211 4).toInt + 1 := ti_add rfl (rfl : (1 : Int32).toInt = 1) (by omega) (by omega)
      have s6 : StX e el d6 dl := by rw [e6]; exact pw_211_4 hS (by rw [t]; omega) (by rw [t]; omega) rfl
      have s8 : StX e el d8 dl := by rw [e8]; exact pw_225 s6 rfl
      have k8 : (d8 211 4).toInt = (d 211 4).toInt + 1 := by rw [e8, u2_row (by omega), e6, u2_eq, t]
      have c8 : (d8 211 4).toNatClampNeg = (d 211 4).toNatClampNeg + 1 := by
        rw [clampI k8]
        have : (d 211 4).toNatClampNeg = (d 211 4).toInt.toNat := rfl
        omega
      have r8 : d8 225 = upd (d 225) (d 211 4).toNatClampNeg (byt y x4) := by rw [e8, u2_own, e6, u2_row (by omega), bytB (by omega) (by omega)]
      obtain ⟨z, ez, tz⟩ : ∃ z : Int32, z = x4 + (-1) ∧ z.toInt = (k2 : Int) - 1 := dec1 (by omega) (by omega)
      rw [← ez]
      exact hK k2 z d8 s8 tz (by omega) (by rw [k8]; omega) (by rw [r8, c8]; exact hF) (by rw [k8, hN]; omega) (by omega)
def FeedP (c j b : Nat) (d dz : DD) (y : Int64) (x r : Int32) : Prop :=
  (¬ okF x ∧ r = -2 ∧ dz = d) ∨ (okF x ∧ ¬ (d c j).toInt + x.toInt ≤ 120 ∧ r = -4 ∧ dz = d) ∨ (okF x ∧ (d c j).toInt + x.toInt ≤ 120 ∧ r.toInt = (d c j).toInt + x.toInt ∧ (dz c j).toInt = (d c j).toInt + x.toInt ∧ dz b = fdb y x.toNatClampNeg (d c j).toNatClampNeg (d b))
theorem sp_X9_feed {n : Nat} (hn : 1000000000 ≤ n) {y1 : Int64} {x3 : Int32} {d : DD} {dl : LL} (hI : Inv d) {Q : Int32 → DD → LL → Prop} (hQ : ∀ (r : Int32) (d2 : DD) (l2 : LL), StU d dl d2 l2 ∧ FeedP 24 0 25 d d2 y1 x3 r → Q r d2 l2) : F_X9_feed n y1 x3 d dl Q := by
  have ms := iv_24_0 hI
  refine sp_X9_within hn hI (fun r1 d2 l3 ⟨p1, q1⟩ => ?_)
  obtain ⟨h3, rfl, rfl⟩ := p1
  replace q1 : 0 ≤ r1.toInt ∧ r1.toInt ≤ 1 ∧ ((r1.toInt = 1 ∧ 1 ≤ x3.toInt ∧ x3.toInt ≤ 8) ∨ (r1.toInt = 0 ∧ ¬ (1 ≤ x3.toInt ∧ x3.toInt ≤ 8))) := q1
  refine ⟨fun h1 => ?_, fun h1 => ?_⟩
  · have h1 : ¬ r1.toInt = 0 := fun q => h1 ((i_eq rfl (rfl : (0 : Int32).toInt = 0)).mpr q)
    have ok : okF x3 := by unfold okF; omega
    have ko := ok.1
    have ko2 := ok.2
    have t : ((d2 24 0) + x3).toInt = (d2 24 0).toInt + x3.toInt := ti_add rfl rfl (by omega) (by omega)
    have hx : x3.toNatClampNeg = x3.toInt.toNat := rfl
    refine ⟨fun h2 => ?_, fun h2 => ?_⟩
    · have h2 : (d2 24 0).toInt + x3.toInt ≤ 120 := (i_le t (rfl : (120 : Int32).toInt = 120)).mp h2
      intro v1 e1
      have tv : v1.toInt = x3.toInt - 1 := by rw [e1]; exact ti_sub rfl (rfl : (1 : Int32).toInt = 1) (by omega) (by omega)
      refine fb_X7_append_5 (y := y1) (F := fdb y1 x3.toNatClampNeg (d2 24 0).toNatClampNeg (d2 25)) (N := (d2 24 0).toInt + x3.toInt) (fun dz sz f1 f2 => hQ _ _ _ ⟨sz, Or.inr (Or.inr ⟨ok, h2, f2, f2, f1⟩)⟩) n x3.toNatClampNeg v1 d2 (StP.rf hI) (by omega) (by omega) (by omega) rfl (by omega) (by omega)
    · have h2 : ¬ (d2 24 0).toInt + x3.toInt ≤ 120 := fun q => h2 ((i_le t (rfl : (120 : Int32).toInt = 120)).mpr q)
      exact hQ _ _ _ ⟨StP.rf hI, Or.inr (Or.inl ⟨ok, h2, rfl, rfl⟩)⟩
  · have h1 : r1.toInt = 0 := (i_eq rfl (rfl : (0 : Int32).toInt = 0)).mp h1
    exact hQ _ _ _ ⟨StP.rf hI, Or.inl ⟨fun h => by have := h.1; have := h.2; omega, rfl, rfl⟩⟩
theorem sp_X10_feed {n : Nat} (hn : 1000000000 ≤ n) {y1 : Int64} {x3 : Int32} {d : DD} {dl : LL} (hI : Inv d) {Q : Int32 → DD → LL → Prop} (hQ : ∀ (r : Int32) (d2 : DD) (l2 : LL), StX d dl d2 l2 ∧ FeedP 211 4 225 d d2 y1 x3 r → Q r d2 l2) : F_X10_feed n y1 x3 d dl Q := by
  have ms := iv_211_4 hI
  have bad : ¬ okF x3 → Q (-2) d dl := fun h => hQ _ _ _ ⟨StP.rf hI, Or.inl ⟨h, rfl, rfl⟩⟩
  refine ⟨fun h => ?_, fun h => ⟨fun h1 => ?_, fun h1 => ?_⟩⟩
  · have h : x3.toInt < 1 := (i_lt rfl (rfl : (1 : Int32).toInt = 1)).mp h
    exact bad (fun q => by have := q.1; omega)
  · have h : ¬ x3.toInt < 1 := fun q => h ((i_lt rfl (rfl : (1 : Int32).toInt = 1)).mpr q)
    have h1 : x3.toInt ≤ 8 := (i_le rfl (rfl : (8 : Int32).toInt = 8)).mp h1
    have ok : okF x3 := ⟨by omega, h1⟩
    have t : ((d 211 4) + x3).toInt = (d 211 4).toInt + x3.toInt := ti_add rfl rfl (by omega) (by omega)
    have hx : x3.toNatClampNeg = x3.toInt.toNat := rfl
    refine ⟨fun h2 => ?_, fun h2 => ?_⟩
    · have h2 : (d 211 4).toInt + x3.toInt ≤ 120 := (i_le t (rfl : (120 : Int32).toInt = 120)).mp h2
      intro v4 e4
      have tv : v4.toInt = x3.toInt - 1 := by rw [e4]; exact ti_sub rfl (rfl : (1 : Int32).toInt = 1) (by omega) (by omega)
      refine fb_X10_feed_33 (y := y1) (F := fdb y1 x3.toNatClampNeg (d 211 4).toNatClampNeg (d 225)) (N := (d 211 4).toInt + x3.toInt) (fun dz sz f1 f2 => hQ _ _ _ ⟨sz, Or.inr (Or.inr ⟨ok, h2, f2, f2, f1⟩)⟩) n x3.toNatClampNeg v4 d (StP.rf hI) (by omega) (by omega) (by omega) rfl (by omega) (by omega)
    · have h2 : ¬ (d 211 4).toInt + x3.toInt ≤ 120 := fun q => h2 ((i_le t (rfl : (120 : Int32).toInt = 120)).mpr q)
      exact hQ _ _ _ ⟨StP.rf hI, Or.inr (Or.inl ⟨ok, h2, rfl, rfl⟩)⟩
  · have h1 : ¬ x3.toInt ≤ 8 := fun q => h1 ((i_le rfl (rfl : (8 : Int32).toInt = 8)).mpr q)
    exact bad (fun q => h1 q.2)
theorem feed_step {d d1 d2 : DD} {dl l1 lw : LL} {y : Int64} {x r1 r2 : Int32} (h : R0 d dl) (p1 : StU d dl d1 l1) (q1 : FeedP 24 0 25 d d1 y x r1) (p2 : StX d1 l1 d2 lw) (q2 : FeedP 211 4 225 d1 d2 y x r2) : R0 d2 lw ∧ r1 = r2 := by
  have c14 : d 24 0 = d 211 4 := h.c14.1
  have e4 : d1 211 4 = d 24 0 := by rw [p1.2.1 211 4 rfl, c14]
  have e5 : d1 225 = d 25 := funext (fun l => (p1.2.1 225 l rfl).trans (h.c14.2 l).symm)
  have k0 : d2 24 0 = d1 24 0 := p2.2.1 24 0 rfl
  have k5 : d2 25 = d1 25 := funext (fun l => p2.2.1 25 l rfl)
  unfold FeedP at q2
  rw [e4, e5] at q2
  rcases q1 with ⟨o1, a1, a2⟩ | ⟨o1, g1, a1, a2⟩ | ⟨o1, g1, a1, a2, a3⟩
  · rcases q2 with ⟨o2, b1, b2⟩ | ⟨o2, _⟩ | ⟨o2, _⟩
    · subst a2; subst b2
      exact ⟨h.u_feed p1 p2 h.c14, by rw [a1, b1]⟩
    all_goals exact absurd o2 o1
  · rcases q2 with ⟨o2, _⟩ | ⟨o2, g2, b1, b2⟩ | ⟨o2, g2, _⟩
    · exact absurd o1 o2
    · subst a2; subst b2
      exact ⟨h.u_feed p1 p2 h.c14, by rw [a1, b1]⟩
    · exact absurd g2 g1
  · rcases q2 with ⟨o2, _⟩ | ⟨o2, g2, _⟩ | ⟨o2, g2, b1, b2, b3⟩
    · exact absurd o1 o2
    · exact absurd g1 g2
    · exact ⟨h.u_feed p1 p2 ⟨Int32.toInt_inj.mp (by rw [k0]; omega), fun l => by rw [k5, a3, b3]⟩, Int32.toInt_inj.mp (by omega)⟩
