theorem fn_X8_weigh {n : Nat} (hn : 1000000000 ≤ n) {Q : DD → LL → Prop} {k : Nat} (hk : k < 6) {d : DD} {dl : LL} (hI : Inv d) {S : Nat} (hS : (S : Int) = 2 * (d (37 + 3 * k) 0).toInt) (hQ : ∀ dz : DD, Inv dz → (∀ i, i ≠ 9 → dz i = d i) → Wg d dl k (d (37 + 3 * k) 0).toInt (d (37 + 3 * k) 1).toInt (whA d k) S dz → Q dz dl) : F_X8_weigh n k d dl Q := by
  have mR := iv_37_0 hI hk
  have mD := iv_37_1 hI hk
  unfold F_X8_weigh F_X1_drummerPitch
  have hb : -600 ≤ -(d (37 + 3 * k) 0).toInt * (d (37 + 3 * k) 1).toInt ∧ -(d (37 + 3 * k) 0).toInt * (d (37 + 3 * k) 1).toInt ≤ 0 := by
    have hc : (d (37 + 3 * k) 0).toInt = 2 ∨ (d (37 + 3 * k) 0).toInt = 3 ∨ (d (37 + 3 * k) 0).toInt = 4 := by omega
    rcases hc with e | e | e <;> rw [e] <;> omega
  have tn : (-(d (37 + 3 * k) 0)).toInt = -(d (37 + 3 * k) 0).toInt := ti_neg rfl (by omega) (by omega)
  have td : ((-(d (37 + 3 * k) 0)) * (d (37 + 3 * k) 1)).toInt = -(d (37 + 3 * k) 0).toInt * (d (37 + 3 * k) 1).toInt := ti_mul tn rfl (by omega) (by omega)
  intro d4 e4 d5 e5
  have s4 : StP pN d dl d4 dl := by rw [e4]; exact pw_9_2 (StP.rf hI) rfl
  have s5 : StP pN d dl d5 dl := by rw [e5]; exact pw_9_3 s4 rfl
  refine fb_X8_weigh_21 hk hI rfl mR.1 mR.2 mD (fun dz iz fz wz => hQ dz iz fz (wz S hS)) n 0 0 _ 0 d5 s5.1 (fun i hi => by rw [e5, u2_row hi, e4, u2_row hi]) rfl (by omega) rfl ?_ ?_ ?_ (by omega)
  · rw [td]
    show _ = -(d (37 + 3 * k) 0).toInt * (d (37 + 3 * k) 1).toInt + 0
    omega
  · rw [e5, u2_ne (Or.inr (by omega)), e4, u2_eq]; rfl
  · rw [e5, u2_eq]; rfl
theorem st9 {d dz : DD} {dl : LL} (hz : Inv dz) (h : ∀ i, i ≠ 9 → dz i = d i) : St d dl dz dl := by
  refine ⟨hz, fun i j q => ?_, fun _ _ _ => rfl⟩
  by_cases e : i = 9
  · subst e
    exact absurd (show false = true from q) (by decide)
  · rw [h i e]
theorem trm_k {R D R2 D2 : Int} {w st w2 st2 : Nat → Int} {lk lk2 : Nat → Nat → Bool} {who who2 : Nat → Nat} {what S r : Nat} (hS : S = 2 * r) (h1 : R = R2) (h2 : D = D2) (h3 : ∀ i, i < S → w (who i) = w2 (who2 i)) (h4 : ∀ i, i < S → st (who i) = st2 (who2 i)) (h5 : ∀ i, i + 1 < S → lk (who i) (who (i + 1)) = lk2 (who2 i) (who2 (i + 1))) : trm R D w st lk who what S = trm R2 D2 w2 st2 lk2 who2 what S := by
  subst h1; subst h2
  have : tra R D w st lk who what S = tra R D w2 st2 lk2 who2 what S := by
    unfold tra
    rw [sm_k S (fun i hi => ?_)]
    unfold tf
    rw [h3 i hi, h4 i hi]
    by_cases e : i % 2 = 0
    · rw [h5 i (by omega)]
    · simp [e]
  unfold trm
  rw [this]
def TrimQ9 (d : DD) (dl : LL) (x1 x2 r : Int32) : Prop := (¬ ((0 ≤ x1.toInt ∧ x1.toInt < (d 0 2).toInt) ∧ (0 ≤ x2.toInt ∧ x2.toInt ≤ 3)) ∧ r = -1) ∨ (((0 ≤ x1.toInt ∧ x1.toInt < (d 0 2).toInt) ∧ (0 ≤ x2.toInt ∧ x2.toInt ≤ 3)) ∧ d (37 + 3 * x1.toNatClampNeg) 6 = 0 ∧ r = -3) ∨ (((0 ≤ x1.toInt ∧ x1.toInt < (d 0 2).toInt) ∧ (0 ≤ x2.toInt ∧ x2.toInt ≤ 3)) ∧ ¬ d (37 + 3 * x1.toNatClampNeg) 6 = 0 ∧ ∀ S : Nat, (S : Int) = 2 * (d (37 + 3 * x1.toNatClampNeg) 0).toInt → r.toInt = trm (d (37 + 3 * x1.toNatClampNeg) 0).toInt (d (37 + 3 * x1.toNatClampNeg) 1).toInt (wA d) (sA d) (lA dl) (whA d x1.toNatClampNeg) x2.toNatClampNeg S)
theorem sp_X9_trimF {n : Nat} (hn : 1000000000 ≤ n) {x1 x2 : Int32} {d : DD} {dl : LL} (hI : Inv d) {Q : Int32 → DD → LL → Prop} (hQ : ∀ (r : Int32) (d2 : DD) (l2 : LL), St d dl d2 l2 ∧ TrimQ9 d dl x1 x2 r → Q r d2 l2) : F_X9_trim n x1 x2 d dl Q := by
  have mk := iv_0_2 hI
  have bad : ¬ ((0 ≤ x1.toInt ∧ x1.toInt < (d 0 2).toInt) ∧ (0 ≤ x2.toInt ∧ x2.toInt ≤ 3)) → Q (-1) d dl := fun h => hQ _ _ _ ⟨St.rf hI, Or.inl ⟨h, rfl⟩⟩
  refine fn_isCrew9 hn hI (fun g1 => ⟨fun w => absurd w (by decide), fun _ => ?_⟩) (fun g1 => ⟨fun _ => bad (fun h => g1 h.1), fun w => absurd rfl w⟩)
  refine fn_within (p := 0) (q := 3) hn rfl rfl hI (fun g2 => ⟨fun _ => ?_, fun w => absurd w (by decide)⟩) (fun g2 => ⟨fun w => absurd rfl w, fun _ => bad (fun h => g2 h.2)⟩)
  have i6 : vp_in x1 6 := vin rfl (by omega) (by omega)
  have hk := clamp_in i6
  refine ⟨i6, fun k10 e10 => ?_⟩
  subst e10
  refine ⟨fun w => ⟨i6, fun k13 e13 => ?_⟩, fun w => hQ _ _ _ ⟨St.rf hI, Or.inr (Or.inl ⟨⟨g1, g2⟩, w, rfl⟩)⟩⟩
  subst e13
  have mR := iv_37_0 hI hk
  obtain ⟨S, hS⟩ : ∃ S : Nat, (S : Int) = 2 * (d (37 + 3 * x1.toNatClampNeg) 0).toInt := ⟨(2 * (d (37 + 3 * x1.toNatClampNeg) 0).toInt).toNat, by omega⟩
  have hx2 : x2.toNatClampNeg = x2.toInt.toNat := rfl
  refine fn_X8_weigh hn hk hI hS (fun dz iz fz wz => ?_)
  have fin : ∀ r : Int32, r.toInt = trm (d (37 + 3 * x1.toNatClampNeg) 0).toInt (d (37 + 3 * x1.toNatClampNeg) 1).toInt (wA d) (sA d) (lA dl) (whA d x1.toNatClampNeg) x2.toNatClampNeg S → Q r dz dl := fun r hr => hQ _ _ _ ⟨st9 iz fz, Or.inr (Or.inr ⟨⟨g1, g2⟩, w, fun S2 hS2 => by rw [show S2 = S by omega]; exact hr⟩)⟩
  refine ⟨fun q => fin _ ?_, fun q => fin _ ?_, fun q => fin _ ?_, fun q => fin _ ?_⟩
  · have q : x2.toInt = 0 := (i_eq rfl (rfl : (0 : Int32).toInt = 0)).mp q
    rw [show x2.toNatClampNeg = 0 by omega]; exact wz.1
  · have q : x2.toInt = 1 := (i_eq rfl (rfl : (1 : Int32).toInt = 1)).mp q
    rw [show x2.toNatClampNeg = 1 by omega]; exact wz.2.1
  · have q : x2.toInt = 2 := (i_eq rfl (rfl : (2 : Int32).toInt = 2)).mp q
    rw [show x2.toNatClampNeg = 2 by omega]; exact wz.2.2.1
  · rw [show x2.toNatClampNeg = 3 by omega]; exact wz.2.2.2
def TrimQ10 (d : DD) (x1 x2 r : Int32) : Prop := (¬ ((0 ≤ x1.toInt ∧ x1.toInt < (d 211 1).toInt) ∧ (0 ≤ x2.toInt ∧ x2.toInt ≤ 3)) ∧ r = -1) ∨ (((0 ≤ x1.toInt ∧ x1.toInt < (d 211 1).toInt) ∧ (0 ≤ x2.toInt ∧ x2.toInt ≤ 3)) ∧ d 224 x1.toNatClampNeg = 0 ∧ r = -3) ∨ (((0 ≤ x1.toInt ∧ x1.toInt < (d 211 1).toInt) ∧ (0 ≤ x2.toInt ∧ x2.toInt ≤ 3)) ∧ ¬ d 224 x1.toNatClampNeg = 0 ∧ ∀ S : Nat, (S : Int) = 2 * (d 218 x1.toNatClampNeg).toInt → r.toInt = trm (d 218 x1.toNatClampNeg).toInt (d 219 x1.toNatClampNeg).toInt (wB d) (sB d) (lB d) (whB d 223 (8 * x1.toNatClampNeg)) x2.toNatClampNeg S)
theorem sp_X10_trimF {n : Nat} (hn : 1000000000 ≤ n) {x1 x2 : Int32} {d : DD} {dl : LL} (hI : Inv d) {Q : Int32 → DD → LL → Prop} (hQ : ∀ (r : Int32) (d2 : DD) (l2 : LL), Sq d dl d2 l2 ∧ (Rok d → TrimQ10 d x1 x2 r) → Q r d2 l2) : F_X10_trim n x1 x2 d dl Q := by
  by_cases hR : Rok d
  rotate_left
  · exact sp_X10_trim hn hI (fun r d2 l2 ⟨p, _⟩ => hQ r d2 l2 ⟨p, fun q => absurd q hR⟩)
  have mk := iv_211_1 hI
  have bad : ¬ ((0 ≤ x1.toInt ∧ x1.toInt < (d 211 1).toInt) ∧ (0 ≤ x2.toInt ∧ x2.toInt ≤ 3)) → Q (-1) d dl := fun h => hQ _ _ _ ⟨⟨hI, rfl, rfl⟩, fun _ => Or.inl ⟨h, rfl⟩⟩
  refine fn_isCrew10 hn hI (fun g1 => ⟨fun w => absurd w (by decide), fun _ => ?_⟩) (fun g1 => ⟨fun _ => bad (fun h => g1 h.1), fun w => absurd rfl w⟩)
  have i6 : vp_in x1 6 := vin rfl (by omega) (by omega)
  have hk := clamp_in i6
  have hx : x1.toNatClampNeg = x1.toInt.toNat := rfl
  have hx2 : x2.toNatClampNeg = x2.toInt.toNat := rfl
  have mR := iv_218 hI x1.toNatClampNeg
  refine ⟨fun h => bad (fun o => ?_), fun a1 => ⟨fun a2 => ⟨i6, fun w => ?_, fun w => ?_⟩, fun h => bad (fun o => ?_)⟩⟩
  · have h : x2.toInt < 0 := (i_lt rfl (rfl : (0 : Int32).toInt = 0)).mp h
    have := o.2; omega
  · have a1 : ¬ x2.toInt < 0 := fun q => a1 ((i_lt rfl (rfl : (0 : Int32).toInt = 0)).mpr q)
    have a2 : x2.toInt ≤ 3 := (i_le rfl (rfl : (3 : Int32).toInt = 3)).mp a2
    exact hQ _ _ _ ⟨⟨hI, rfl, rfl⟩, fun _ => Or.inr (Or.inl ⟨⟨g1, by omega⟩, w, rfl⟩)⟩
  · have a1 : ¬ x2.toInt < 0 := fun q => a1 ((i_lt rfl (rfl : (0 : Int32).toInt = 0)).mpr q)
    have a2 : x2.toInt ≤ 3 := (i_le rfl (rfl : (3 : Int32).toInt = 3)).mp a2
    obtain ⟨S, hS⟩ : ∃ S : Nat, (S : Int) = 2 * (d 218 x1.toNatClampNeg).toInt := ⟨(2 * (d 218 x1.toNatClampNeg).toInt).toNat, by omega⟩
    have t8 : ((8 : Int32) * x1).toInt = ((8 * x1.toNatClampNeg : Nat) : Int) := by
      have t : ((8 : Int32) * x1).toInt = 8 * x1.toInt := ti_mul (rfl : (8 : Int32).toInt = 8) rfl (by omega) (by omega)
      rw [t]; omega
    refine fn_X10_trims hn (what := x2.toNatClampNeg) (S := S) (k := x1.toNatClampNeg) (x := 8 * x1.toNatClampNeg) (by omega) hI (Or.inr rfl) (by omega) hk t8 (by rw [show ln 223 = 48 from rfl]; omega) (by omega) (by omega) (hR _ (by omega)) hS (fun r hr => hQ _ _ _ ⟨⟨hI, rfl, rfl⟩, fun _ => Or.inr (Or.inr ⟨⟨g1, by omega⟩, w, fun S2 hS2 => by rw [show S2 = S by omega]; exact hr⟩)⟩)
  · have h : ¬ x2.toInt ≤ 3 := fun q => h ((i_le rfl (rfl : (3 : Int32).toInt = 3)).mpr q)
    have := o.2; omega
theorem lk_eq {d : DD} {dl : LL} (h : R0 d dl) {a b : Nat} (ha : a < 40) (hb : b < 40) : lA dl a b = lB d a b := by
  unfold lA lB
  have c := h.c6 a b ha hb
  have n := iv_217 h.i (40 * a + b)
  by_cases w : bt (dl 7 a) b = true
  · rw [w, c.mp w]
    rfl
  · have w2 : bt (dl 7 a) b = false := by
      cases hz : bt (dl 7 a) b
      · rfl
      · exact absurd hz w
    have h1 : ¬ (d 217 (40 * a + b)).toInt = 1 := fun q => w (c.mpr ((i_eq rfl (rfl : (1 : Int32).toInt = 1)).mpr q))
    have h0 : (d 217 (40 * a + b)).toInt = 0 := by omega
    have h0 : d 217 (40 * a + b) = 0 := (i_eq h0 (rfl : (0 : Int32).toInt = 0)).mpr rfl
    rw [w2, h0]
    rfl
theorem R0.rok {d : DD} {dl : LL} (h : R0 d dl) : Rok d := by
  intro k hk
  have c4 : d 0 2 = d 211 1 := h.c4
  have m := iv_0_2 h.i
  rw [← c4] at hk
  rw [← (h.c16 k (by omega) hk).1]
  exact (iv_37_0 h.i (show k < 6 by omega)).1
theorem trim_step {d d1 d2 : DD} {dl l1 lw : LL} {r1 r2 x1 x2 : Int32} (h : R0 d dl) (p1 : St d dl d1 l1) (q1 : TrimQ9 d dl x1 x2 r1) (p2 : Sq d1 l1 d2 lw) (q2 : Rok d1 → TrimQ10 d1 x1 x2 r2) : R0 d2 lw ∧ r1 = r2 := by
  have hR1 := h.st p1
  obtain ⟨_, rfl, rfl⟩ := p2
  refine ⟨hR1, ?_⟩
  have q2 := q2 hR1.rok
  have c4 : d 0 2 = d 211 1 := h.c4
  have m := iv_0_2 h.i
  have hx : x1.toNatClampNeg = x1.toInt.toNat := rfl
  have k : ∀ i j, rl (rg i) j = true → d2 i j = d i j := p1.2.1
  have e1 : d2 211 1 = d 0 2 := by rw [k 211 1 rfl, c4]
  have e224 : d2 224 = d 224 := funext (fun l => k 224 l rfl)
  unfold TrimQ10 at q2
  rw [e1, e224] at q2
  by_cases g : (0 ≤ x1.toInt ∧ x1.toInt < (d 0 2).toInt) ∧ (0 ≤ x2.toInt ∧ x2.toInt ≤ 3)
  rotate_left
  · rcases q1 with ⟨_, a⟩ | ⟨o, _⟩ | ⟨o, _⟩
    · rcases q2 with ⟨_, b⟩ | ⟨o, _⟩ | ⟨o, _⟩
      · rw [a, b]
      all_goals exact absurd o g
    all_goals exact absurd o g
  have g1 := g.1
  have hk : x1.toNatClampNeg < 6 := by omega
  have c18 := h.c18 _ hk
  rw [← c18] at q2
  rcases q1 with ⟨o, _⟩ | ⟨_, s, a⟩ | ⟨_, s, a⟩
  · exact absurd g o
  · rcases q2 with ⟨o, _⟩ | ⟨_, _, b⟩ | ⟨_, s2, _⟩
    · exact absurd g o
    · rw [a, b]
    · exact absurd s s2
  · rcases q2 with ⟨o, _⟩ | ⟨_, s2, _⟩ | ⟨_, _, b⟩
    · exact absurd g o
    · exact absurd s2 s
    have c16 := h.c16 _ hk (by omega)
    have mR := iv_37_0 h.i hk
    obtain ⟨S, hS⟩ : ∃ S : Nat, (S : Int) = 2 * (d (37 + 3 * x1.toNatClampNeg) 0).toInt := ⟨(2 * (d (37 + 3 * x1.toNatClampNeg) 0).toInt).toNat, by omega⟩
    have e218 : d2 218 x1.toNatClampNeg = d (37 + 3 * x1.toNatClampNeg) 0 := by rw [k 218 _ rfl, c16.1]
    have e219 : d2 219 x1.toNatClampNeg = d (37 + 3 * x1.toNatClampNeg) 1 := by rw [k 219 _ rfl, c16.2]
    have s' : ¬ d 224 x1.toNatClampNeg = 0 := by rw [← c18]; exact s
    have c19 := (h.c19 _ hk s').2
    have wh : ∀ i, i < S → whA d x1.toNatClampNeg i = whB d2 223 (8 * x1.toNatClampNeg) i := by
      intro i hi
      unfold whA whB
      rw [k 223 _ rfl, c19 i (by rw [← c16.1]; omega)]
    have w40 : ∀ i, whA d x1.toNatClampNeg i < 40 := by
      intro i
      have a := iv_39 h.i hk i
      have : (d (39 + 3 * x1.toNatClampNeg) i).toNatClampNeg = (d (39 + 3 * x1.toNatClampNeg) i).toInt.toNat := rfl
      unfold whA
      omega
    have a := a S hS
    have b := b S (by rw [e218]; exact hS)
    rw [e218, e219] at b
    refine Int32.toInt_inj.mp ?_
    rw [a, b]
    refine trm_k (r := (d (37 + 3 * x1.toNatClampNeg) 0).toInt.toNat) (by omega) rfl rfl (fun i hi => ?_) (fun i hi => ?_) (fun i hi => ?_)
    · rw [← wh i hi]
      show (d 2 _).toInt = (d2 212 _).toInt
      rw [k 212 _ rfl, (h.c15 _).1]
    · rw [← wh i hi]
      show (d 3 _).toInt = (d2 213 _).toInt
      rw [k 213 _ rfl, (h.c15 _).2.1]
    · rw [← wh i (by omega), ← wh (i + 1) hi, lk_eq h (w40 _) (w40 _)]
      unfold lB
      rw [k 217 _ rfl]
