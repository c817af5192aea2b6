def swp {α : Type} (f : Nat → α) (a b : Nat) : Nat → α := fun i => if i = b then f a else if i = a then f b else f i
theorem swp_2 {α : Type} {f : Nat → α} {a b : Nat} : swp (swp f a b) a b = f := by
  funext i
  unfold swp
  by_cases h1 : i = b
  · subst h1
    by_cases h2 : a = i
    · subst h2; simp
    · simp [h2]
  · by_cases h2 : i = a
    · subst h2; simp [h1]
    · simp [h1, h2]
def okG (m R x1 x2 x3 : Int32) : Prop := (0 ≤ x1.toInt ∧ x1.toInt < m.toInt) ∧ (0 ≤ x2.toInt ∧ x2.toInt < 2 * R.toInt) ∧ (0 ≤ x3.toInt ∧ x3.toInt < 2 * R.toInt)
def noG (sd : Int32) (ar : Nat → Int) (who : Nat → Nat) (a b : Nat) : Prop := sd = 0 ∨ ar (who a) = 1 - ((b % 2 : Nat) : Int) ∨ ar (who b) = 1 - ((a % 2 : Nat) : Int)
def ChgQ9 (d : DD) (dl : LL) (x1 x2 x3 r : Int32) : Prop :=
  (¬ okG (d 0 2) (d (37 + 3 * x1.toNatClampNeg) 0) x1 x2 x3 ∧ r = -100000) ∨ (okG (d 0 2) (d (37 + 3 * x1.toNatClampNeg) 0) x1 x2 x3 ∧ noG (d (37 + 3 * x1.toNatClampNeg) 6) (fun p => (d 4 p).toInt) (whA d x1.toNatClampNeg) x2.toNatClampNeg x3.toNatClampNeg ∧ r = -100001) ∨ (okG (d 0 2) (d (37 + 3 * x1.toNatClampNeg) 0) x1 x2 x3 ∧ ¬ noG (d (37 + 3 * x1.toNatClampNeg) 6) (fun p => (d 4 p).toInt) (whA d x1.toNatClampNeg) x2.toNatClampNeg x3.toNatClampNeg ∧ ∀ S : Nat, (S : Int) = 2 * (d (37 + 3 * x1.toNatClampNeg) 0).toInt → r.toInt = tltB (d (37 + 3 * x1.toNatClampNeg) 0).toInt (d (37 + 3 * x1.toNatClampNeg) 1).toInt (wA d) (sA d) (lA dl) (swp (whA d x1.toNatClampNeg) x2.toNatClampNeg x3.toNatClampNeg) S)
theorem fn_X4_maySit {n : Nat} {x1 x2 : Int32} {d : DD} {dl : LL} {p s : Nat} (h1 : x1.toInt = (p : Int)) (hp : p < 40) (h2 : x2.toInt = ((s % 2 : Nat) : Int)) {Q : Int32 → DD → LL → Prop} (yes : ¬ (d 4 p).toInt = 1 - ((s % 2 : Nat) : Int) → Q 1 d dl) (no : (d 4 p).toInt = 1 - ((s % 2 : Nat) : Int) → Q 0 d dl) : F_X4_maySit n x1 x2 d dl Q := by
  have i1 : vp_in x1 40 := vin h1 (by omega) (by omega)
  have e1 := at_n h1
  have t : ((1 : Int32) - x2).toInt = 1 - ((s % 2 : Nat) : Int) := ti_sub (rfl : (1 : Int32).toInt = 1) h2 (by omega) (by omega)
  rw [show F_X4_maySit n x1 x2 d dl Q = (vp_in x1 40 ∧ ((d 4 x1.toNatClampNeg) = ((1 : Int32) - x2) → Q 0 d dl) ∧ (¬ (d 4 x1.toNatClampNeg) = ((1 : Int32) - x2) → Q 1 d dl)) from rfl, e1]
  exact ⟨i1, fun w => no ((i_eq rfl t).mp w), fun w => yes (fun q => w ((i_eq rfl t).mpr q))⟩
theorem fn_X1_swapSeats {n k : Nat} (hk : k < 6) {x1 x2 : Int32} (b1 : 0 ≤ x1.toInt ∧ x1.toInt < 8) (b2 : 0 ≤ x2.toInt ∧ x2.toInt < 8) {d : DD} {dl : LL} (hI : Inv d) {Q : DD → LL → Prop} (hQ : ∀ dz : DD, Inv dz → (∀ i, i ≠ 39 + 3 * k → dz i = d i) → dz (39 + 3 * k) = swp (d (39 + 3 * k)) x1.toNatClampNeg x2.toNatClampNeg → Q dz dl) : F_X1_swapSeats n k x1 x2 d dl Q := by
  have i1 : vp_in x1 8 := vin rfl b1.1 (by omega)
  have i2 : vp_in x2 8 := vin rfl b2.1 (by omega)
  have m1 := iv_39 hI hk x1.toNatClampNeg
  have m2 := iv_39 hI hk x2.toNatClampNeg
  refine ⟨i1, fun v2 e2 => ⟨i2, i1, fun d5 e5 => ⟨i2, fun d7 e7 => ?_⟩⟩⟩
  have s5 : StP pN d dl d5 dl := by rw [e5]; exact pw_39 (StP.rf hI) hk m2.1 m2.2 rfl
  have s7 : StP pN d dl d7 dl := by rw [e7]; exact pw_39 s5 hk (by rw [e2]; exact m1.1) (by rw [e2]; exact m1.2) rfl
  refine hQ d7 s7.1 (fun i hi => by rw [e7, u2_row hi, e5, u2_row hi]) ?_
  rw [e7, u2_own, e5, u2_own, e2]
  funext i
  unfold swp upd
  by_cases h1 : i = x2.toNatClampNeg
  · simp [h1]
  · by_cases h2 : i = x1.toNatClampNeg
    · simp [h1, h2]
    · simp [h1, h2]
theorem sp_X9_changeF {n : Nat} (hn : 1000000000 ≤ n) {x1 x2 x3 : Int32} {d : DD} {dl : LL} (hI : Inv d) {Q : Int32 → DD → LL → Prop} (hQ : ∀ (r : Int32) (d2 : DD) (l2 : LL), St d dl d2 l2 ∧ ChgQ9 d dl x1 x2 x3 r → Q r d2 l2) : F_X9_change n x1 x2 x3 d dl Q := by
  have mk := iv_0_2 hI
  have bad : ¬ okG (d 0 2) (d (37 + 3 * x1.toNatClampNeg) 0) x1 x2 x3 → Q (-100000) d dl := fun h => hQ _ _ _ ⟨St.rf hI, Or.inl ⟨h, rfl⟩⟩
  refine fn_isCrew9 hn hI (fun g1 => ⟨fun _ => ?_, fun w => absurd w (by decide)⟩) (fun g1 => ⟨fun w => absurd rfl w, fun _ => bad (fun h => g1 h.1)⟩)
  have i6 : vp_in x1 6 := vin rfl (by omega) (by omega)
  have hk := clamp_in i6
  refine ⟨i6, fun k6 e6 => ?_⟩
  subst e6
  generalize hkk : x1.toNatClampNeg = k at *
  have mR := iv_37_0 hI hk
  have mD := iv_37_1 hI hk
  unfold F_X1_seatCount
  intro v10 e10
  have t10 : v10.toInt = 2 * (d (37 + 3 * k) 0).toInt - 1 := by
    rw [e10]
    exact ti_sub (ti_mul (rfl : (2 : Int32).toInt = 2) rfl (by omega) (by omega)) (rfl : (1 : Int32).toInt = 1) (by omega) (by omega)
  refine fn_within (p := 0) hn rfl t10 hI (fun g2 => ⟨fun w => absurd w (by decide), fun _ => ?_⟩) (fun g2 => ⟨fun _ => bad (fun h => g2 (by have := h.2.1; omega)), fun w => absurd rfl w⟩)
  refine fn_within (p := 0) hn rfl t10 hI (fun g3 => ⟨fun _ => ?_, fun w => absurd w (by decide)⟩) (fun g3 => ⟨fun w => absurd rfl w, fun _ => bad (fun h => g3 (by have := h.2.2; omega))⟩)
  have ok : okG (d 0 2) (d (37 + 3 * k) 0) x1 x2 x3 := ⟨g1, by omega, by omega⟩
  have nog : noG (d (37 + 3 * k) 6) (fun p => (d 4 p).toInt) (whA d k) x2.toNatClampNeg x3.toNatClampNeg → Q (-100001) d dl := fun h => hQ _ _ _ ⟨St.rf hI, Or.inr (Or.inl (by rw [hkk]; exact ⟨ok, h, rfl⟩))⟩
  have hx2 : x2.toNatClampNeg = x2.toInt.toNat := rfl
  have hx3 : x3.toNatClampNeg = x3.toInt.toNat := rfl
  have i2 : vp_in x2 8 := vin rfl (by omega) (by omega)
  have i3 : vp_in x3 8 := vin rfl (by omega) (by omega)
  have a2 := iv_39 hI hk x2.toNatClampNeg
  have a3 := iv_39 hI hk x3.toNatClampNeg
  have w2 : (d (39 + 3 * k) x2.toNatClampNeg).toInt = ((whA d k x2.toNatClampNeg : Nat) : Int) := by
    have : whA d k x2.toNatClampNeg = (d (39 + 3 * k) x2.toNatClampNeg).toInt.toNat := rfl
    omega
  have w3 : (d (39 + 3 * k) x3.toNatClampNeg).toInt = ((whA d k x3.toNatClampNeg : Nat) : Int) := by
    have : whA d k x3.toNatClampNeg = (d (39 + 3 * k) x3.toNatClampNeg).toInt.toNat := rfl
    omega
  have tr2 : (irem x2 2).toInt = ((x2.toNatClampNeg % 2 : Nat) : Int) := by
    have t : (irem x2 2).toInt = x2.toInt % 2 := ti_rem rfl (rfl : (2 : Int32).toInt = 2) (by omega) (by omega)
    rw [t]; omega
  have tr3 : (irem x3 2).toInt = ((x3.toNatClampNeg % 2 : Nat) : Int) := by
    have t : (irem x3 2).toInt = x3.toInt % 2 := ti_rem rfl (rfl : (2 : Int32).toInt = 2) (by omega) (by omega)
    rw [t]; omega
  refine ⟨fun w => nog (Or.inl w), fun sd => ⟨i2, ?_⟩⟩
  refine fn_X4_maySit w2 (by omega) tr3 (fun m1' => ⟨fun w => absurd w (by decide), fun _ => ⟨i3, ?_⟩⟩) (fun m1' => ⟨fun _ => nog (Or.inr (Or.inl m1')), fun w => absurd rfl w⟩)
  refine fn_X4_maySit w3 (by omega) tr2 (fun m2' => ⟨fun _ => ?_, fun w => absurd w (by decide)⟩) (fun m2' => ⟨fun w => absurd rfl w, fun _ => nog (Or.inr (Or.inr m2'))⟩)
  refine fn_X1_swapSeats hk ⟨g2.1, by omega⟩ ⟨g3.1, by omega⟩ hI (fun d31 i31 f31 r31 => ?_)
  obtain ⟨S, hS⟩ : ∃ S : Nat, (S : Int) = 2 * (d (37 + 3 * k) 0).toInt := ⟨(2 * (d (37 + 3 * k) 0).toInt).toNat, by omega⟩
  have q37 : d31 (37 + 3 * k) = d (37 + 3 * k) := f31 _ (by omega)
  refine fn_X8_weigh hn hk i31 (S := S) (by rw [q37]; exact hS) (fun d34 i34 f34 wg => ?_)
  refine fn_X1_swapSeats hk ⟨g2.1, by omega⟩ ⟨g3.1, by omega⟩ i34 (fun d37 i37 f37 r37 => ?_)
  have back : d37 (39 + 3 * k) = d (39 + 3 * k) := by rw [r37, f34 _ (by omega), r31, swp_2]
  have fr : ∀ i, i ≠ 9 → d37 i = d i := by
    intro i hi
    by_cases he : i = 39 + 3 * k
    · rw [he]; exact back
    · rw [f37 i he, f34 i hi, f31 i he]
  have r9 : d37 9 = d34 9 := f37 9 (by omega)
  rw [q37] at wg
  have hw' : wA d31 = wA d := by unfold wA; rw [f31 2 (by omega)]
  have hs' : sA d31 = sA d := by unfold sA; rw [f31 3 (by omega)]
  have hwho : whA d31 k = swp (whA d k) x2.toNatClampNeg x3.toNatClampNeg := by
    funext i
    unfold whA
    rw [r31]
    unfold swp
    by_cases h1 : i = x3.toNatClampNeg
    · rw [if_pos h1, if_pos h1]
    · by_cases h2 : i = x2.toNatClampNeg
      · rw [if_neg h1, if_pos h2, if_neg h1, if_pos h2]
      · rw [if_neg h1, if_neg h2, if_neg h1, if_neg h2]
  unfold Wg at wg
  rw [hw', hs', hwho, ← r9] at wg
  obtain ⟨y0, y1, y2, y3⟩ := wg
  have bnd : ∀ what, what ≤ 3 → -5000 ≤ trm (d (37 + 3 * k) 0).toInt (d (37 + 3 * k) 1).toInt (wA d) (sA d) (lA dl) (swp (whA d k) x2.toNatClampNeg x3.toNatClampNeg) what S ∧ trm (d (37 + 3 * k) 0).toInt (d (37 + 3 * k) 1).toInt (wA d) (sA d) (lA dl) (swp (whA d k) x2.toNatClampNeg x3.toNatClampNeg) what S ≤ 5000 := by
    intro what hw9
    have := traA_in hI (dl := dl) mR.1 mR.2 mD (who := swp (whA d k) x2.toNatClampNeg x3.toNatClampNeg) (s := S) hw9 (by omega)
    unfold trm ab
    split
    · split <;> omega
    · omega
  have n0 := bnd 0 (by omega)
  have n1 := bnd 1 (by omega)
  have n2 := bnd 2 (by omega)
  have n3 := bnd 3 (by omega)
  unfold F_X8_tilt
  refine hQ _ _ _ ⟨st9 i37 fr, Or.inr (Or.inr ?_)⟩
  rw [hkk]
  refine ⟨ok, fun h => ?_, fun S2 hS2 => ?_⟩
  · rcases h with h | h | h
    · exact sd h
    · exact m1' h
    · exact m2' h
  · rw [show S2 = S by omega]
    have t : (((((4 : Int32) * (d37 9 0)) + (d37 9 1)) - (d37 9 2)) - ((20 : Int32) * (d37 9 3))).toInt = 4 * trm (d (37 + 3 * k) 0).toInt (d (37 + 3 * k) 1).toInt (wA d) (sA d) (lA dl) (swp (whA d k) x2.toNatClampNeg x3.toNatClampNeg) 0 S + trm (d (37 + 3 * k) 0).toInt (d (37 + 3 * k) 1).toInt (wA d) (sA d) (lA dl) (swp (whA d k) x2.toNatClampNeg x3.toNatClampNeg) 1 S - trm (d (37 + 3 * k) 0).toInt (d (37 + 3 * k) 1).toInt (wA d) (sA d) (lA dl) (swp (whA d k) x2.toNatClampNeg x3.toNatClampNeg) 2 S - 20 * trm (d (37 + 3 * k) 0).toInt (d (37 + 3 * k) 1).toInt (wA d) (sA d) (lA dl) (swp (whA d k) x2.toNatClampNeg x3.toNatClampNeg) 3 S :=
      ti_sub (ti_sub (ti_add (ti_mul (rfl : (4 : Int32).toInt = 4) y0 (by omega) (by omega)) y1 (by omega) (by omega)) y2 (by omega) (by omega)) (ti_mul (rfl : (20 : Int32).toInt = 20) y3 (by omega) (by omega)) (by omega) (by omega)
    exact t
