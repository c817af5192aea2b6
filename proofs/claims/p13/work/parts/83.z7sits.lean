def okS9 (d : DD) (x1 x2 x3 : Int32) : Prop := (0 ≤ x1.toInt ∧ x1.toInt < (d 0 2).toInt) ∧ (0 ≤ x2.toInt ∧ x2.toInt < (d (37 + 3 * x1.toNatClampNeg) 0).toInt) ∧ (0 ≤ x3.toInt ∧ x3.toInt ≤ 1) ∧ ¬ d (37 + 3 * x1.toNatClampNeg) 6 = 0
def okS10 (d : DD) (x1 x2 x3 : Int32) : Prop := (0 ≤ x1.toInt ∧ x1.toInt < (d 211 1).toInt) ∧ (0 ≤ x2.toInt ∧ x2.toInt < (d 218 x1.toNatClampNeg).toInt) ∧ (0 ≤ x3.toInt ∧ x3.toInt ≤ 1) ∧ ¬ d 224 x1.toNatClampNeg = 0
theorem fn_isCrew9 {n : Nat} (hn : 1000000000 ≤ n) {x : Int32} {d : DD} {dl : LL} (hI : Inv d) {Q : Int32 → DD → LL → Prop} (yes : (0 ≤ x.toInt ∧ x.toInt < (d 0 2).toInt) → Q 1 d dl) (no : ¬ (0 ≤ x.toInt ∧ x.toInt < (d 0 2).toInt) → Q 0 d dl) : F_X9_isCrew n x d dl Q := by
  refine sp_X9_isCrew hn hI (fun r1 d2 l3 ⟨p1, q1⟩ => ?_)
  obtain ⟨h3, rfl, rfl⟩ := p1
  rcases q1.2.2 with ⟨e, g⟩ | ⟨e, g⟩
  · rw [(i_eq e (rfl : (1 : Int32).toInt = 1)).mpr rfl]
    exact yes g
  · rw [(i_eq e (rfl : (0 : Int32).toInt = 0)).mpr rfl]
    exact no g
theorem fn_isCrew10 {n : Nat} (hn : 1000000000 ≤ n) {x : Int32} {d : DD} {dl : LL} (hI : Inv d) {Q : Int32 → DD → LL → Prop} (yes : (0 ≤ x.toInt ∧ x.toInt < (d 211 1).toInt) → Q 1 d dl) (no : ¬ (0 ≤ x.toInt ∧ x.toInt < (d 211 1).toInt) → Q 0 d dl) : F_X10_isCrew n x d dl Q := by
  refine sp_X10_isCrew hn hI (fun r1 d2 l3 ⟨p1, q1⟩ => ?_)
  obtain ⟨h3, rfl, rfl⟩ := p1
  rcases q1.2.2 with ⟨e, g⟩ | ⟨e, g⟩
  · rw [(i_eq e (rfl : (1 : Int32).toInt = 1)).mpr rfl]
    exact yes g
  · rw [(i_eq e (rfl : (0 : Int32).toInt = 0)).mpr rfl]
    exact no g
def SitsQ9 (d : DD) (x1 x2 x3 r : Int32) : Prop := (okS9 d x1 x2 x3 ∧ r = d (39 + 3 * x1.toNatClampNeg) (2 * x2.toNatClampNeg + x3.toNatClampNeg)) ∨ (¬ okS9 d x1 x2 x3 ∧ r = -1)
def SitsQ10 (d : DD) (x1 x2 x3 r : Int32) : Prop := (okS10 d x1 x2 x3 ∧ r = d 223 (8 * x1.toNatClampNeg + (2 * x2.toNatClampNeg + x3.toNatClampNeg))) ∨ (¬ okS10 d x1 x2 x3 ∧ r = -1)
theorem sp_X9_sitsF {n : Nat} (hn : 1000000000 ≤ n) {x1 x2 x3 : Int32} {d : DD} {dl : LL} (hI : Inv d) {Q : Int32 → DD → LL → Prop} (hQ : ∀ (r : Int32) (d2 : DD) (l2 : LL), Sq d dl d2 l2 ∧ SitsQ9 d x1 x2 x3 r → Q r d2 l2) : F_X9_sits n x1 x2 x3 d dl Q := by
  have mk := iv_0_2 hI
  have bad : ¬ okS9 d x1 x2 x3 → Q (-1) d dl := fun h => hQ _ _ _ ⟨⟨hI, rfl, rfl⟩, Or.inr ⟨h, rfl⟩⟩
  refine fn_isCrew9 hn hI (fun g1 => ⟨fun w => absurd w (by decide), fun _ => ?_⟩) (fun g1 => ⟨fun _ => bad (fun h => g1 h.1), fun w => absurd rfl w⟩)
  have i6 : vp_in x1 6 := vin rfl (by omega) (by omega)
  have hk := clamp_in i6
  refine ⟨i6, fun k6 e6 => ?_⟩
  subst e6
  have mR := iv_37_0 hI hk
  have tR : ((d (37 + 3 * x1.toNatClampNeg) 0) - 1).toInt = (d (37 + 3 * x1.toNatClampNeg) 0).toInt - 1 := ti_sub rfl (rfl : (1 : Int32).toInt = 1) (by omega) (by omega)
  refine fn_within (p := 0) hn rfl tR hI (fun g2 => ⟨fun w => absurd w (by decide), fun _ => ?_⟩) (fun g2 => ⟨fun _ => bad (fun h => g2 (by have := h.2.1; omega)), fun w => absurd rfl w⟩)
  refine fn_within (p := 0) (q := 1) hn rfl rfl hI (fun g3 => ⟨fun w => absurd w (by decide), fun _ => ?_⟩) (fun g3 => ⟨fun _ => bad (fun h => g3 h.2.2.1), fun w => absurd rfl w⟩)
  refine ⟨i6, fun k16 e16 => ?_⟩
  subst e16
  refine ⟨fun w => ⟨i6, fun k19 e19 => ?_⟩, fun w => bad (fun h => h.2.2.2 w)⟩
  subst e19
  have t2 : ((2 : Int32) * x2).toInt = 2 * x2.toInt := ti_mul (rfl : (2 : Int32).toInt = 2) rfl (by omega) (by omega)
  have t3 : (((2 : Int32) * x2) + x3).toInt = 2 * x2.toInt + x3.toInt := ti_add t2 rfl (by omega) (by omega)
  have e3 : (((2 : Int32) * x2) + x3).toNatClampNeg = 2 * x2.toNatClampNeg + x3.toNatClampNeg := by
    rw [clampI t3]
    have a : x2.toNatClampNeg = x2.toInt.toNat := rfl
    have b : x3.toNatClampNeg = x3.toInt.toNat := rfl
    omega
  rw [e3]
  exact ⟨vin t3 (by omega) (by omega), hQ _ _ _ ⟨⟨hI, rfl, rfl⟩, Or.inl ⟨⟨g1, by omega, g3, w⟩, rfl⟩⟩⟩
theorem sp_X10_sitsF {n : Nat} (hn : 1000000000 ≤ n) {x1 x2 x3 : Int32} {d : DD} {dl : LL} (hI : Inv d) {Q : Int32 → DD → LL → Prop} (hQ : ∀ (r : Int32) (d2 : DD) (l2 : LL), Sq d dl d2 l2 ∧ SitsQ10 d x1 x2 x3 r → Q r d2 l2) : F_X10_sits n x1 x2 x3 d dl Q := by
  have mk := iv_211_1 hI
  have bad : ¬ okS10 d x1 x2 x3 → Q (-1) d dl := fun h => hQ _ _ _ ⟨⟨hI, rfl, rfl⟩, Or.inr ⟨h, rfl⟩⟩
  refine fn_isCrew10 hn hI (fun g1 => ⟨fun w => absurd w (by decide), fun _ => ?_⟩) (fun g1 => ⟨fun _ => bad (fun h => g1 h.1), fun w => absurd rfl w⟩)
  have i6 : vp_in x1 6 := vin rfl (by omega) (by omega)
  have mR := iv_218 hI x1.toNatClampNeg
  refine ⟨fun h => bad (fun o => ?_), fun a1 => ⟨i6, fun h => bad (fun o => ?_), fun a2 => ⟨fun h => bad (fun o => ?_), fun a3 => ⟨fun h => bad (fun o => ?_), fun a4 => ⟨i6, fun w => ?_, fun w => bad (fun o => o.2.2.2 w)⟩⟩⟩⟩⟩
  · have h : x2.toInt < 0 := (i_lt rfl (rfl : (0 : Int32).toInt = 0)).mp h
    have := o.2.1; omega
  · have h : (d 218 x1.toNatClampNeg).toInt ≤ x2.toInt := (i_le rfl rfl).mp h
    have := o.2.1; omega
  · have h : x3.toInt < 0 := (i_lt rfl (rfl : (0 : Int32).toInt = 0)).mp h
    have := o.2.2.1; omega
  · have h : 1 < x3.toInt := (i_lt (rfl : (1 : Int32).toInt = 1) rfl).mp h
    have := o.2.2.1; omega
  · have a1 : ¬ x2.toInt < 0 := fun q => a1 ((i_lt rfl (rfl : (0 : Int32).toInt = 0)).mpr q)
    have a2 : ¬ (d 218 x1.toNatClampNeg).toInt ≤ x2.toInt := fun q => a2 ((i_le rfl rfl).mpr q)
    have a3 : ¬ x3.toInt < 0 := fun q => a3 ((i_lt rfl (rfl : (0 : Int32).toInt = 0)).mpr q)
    have a4 : ¬ 1 < x3.toInt := fun q => a4 ((i_lt (rfl : (1 : Int32).toInt = 1) rfl).mpr q)
    have t8 : ((8 : Int32) * x1).toInt = 8 * x1.toInt := ti_mul (rfl : (8 : Int32).toInt = 8) rfl (by omega) (by omega)
    have t2 : ((2 : Int32) * x2).toInt = 2 * x2.toInt := ti_mul (rfl : (2 : Int32).toInt = 2) rfl (by omega) (by omega)
    have t3 : ((((8 : Int32) * x1) + ((2 : Int32) * x2)) + x3).toInt = 8 * x1.toInt + 2 * x2.toInt + x3.toInt := ti_add (ti_add t8 t2 (by omega) (by omega)) rfl (by omega) (by omega)
    have e3 : ((((8 : Int32) * x1) + ((2 : Int32) * x2)) + x3).toNatClampNeg = 8 * x1.toNatClampNeg + (2 * x2.toNatClampNeg + x3.toNatClampNeg) := by
      rw [clampI t3]
      have c : x1.toNatClampNeg = x1.toInt.toNat := rfl
      have a : x2.toNatClampNeg = x2.toInt.toNat := rfl
      have b : x3.toNatClampNeg = x3.toInt.toNat := rfl
      omega
    rw [e3]
    exact ⟨vin t3 (by omega) (by omega), hQ _ _ _ ⟨⟨hI, rfl, rfl⟩, Or.inl ⟨⟨g1, by omega, by omega, w⟩, rfl⟩⟩⟩
theorem sits_step {d d1 d2 : DD} {dl l1 lw : LL} {r1 r2 x1 x2 x3 : Int32} (h : R0 d dl) (p1 : Sq d dl d1 l1) (q1 : SitsQ9 d x1 x2 x3 r1) (p2 : Sq d1 l1 d2 lw) (q2 : SitsQ10 d1 x1 x2 x3 r2) : R0 d2 lw ∧ r1 = r2 := by
  obtain ⟨_, rfl, rfl⟩ := p1
  obtain ⟨_, rfl, rfl⟩ := p2
  refine ⟨h, ?_⟩
  have c4 : d2 0 2 = d2 211 1 := h.c4
  have m := iv_0_2 h.i
  have hx : x1.toNatClampNeg = x1.toInt.toNat := rfl
  have hx2 : x2.toNatClampNeg = x2.toInt.toNat := rfl
  have hx3 : x3.toNatClampNeg = x3.toInt.toNat := rfl
  have iff : okS9 d2 x1 x2 x3 ↔ okS10 d2 x1 x2 x3 := by
    unfold okS9 okS10
    rw [← c4]
    refine and_congr_right (fun g => ?_)
    have hk : x1.toNatClampNeg < 6 := by omega
    rw [(h.c16 _ hk (by omega)).1, h.c18 _ hk]
  rcases q1 with ⟨o1, a1⟩ | ⟨o1, a1⟩
  · rcases q2 with ⟨o2, a2⟩ | ⟨o2, _⟩
    · have g := o1.1
      have hk : x1.toNatClampNeg < 6 := by omega
      have c := (h.c19 _ hk o2.2.2.2).2 (2 * x2.toNatClampNeg + x3.toNatClampNeg) (by have := o2.2.1; have := o2.2.2.1; omega)
      rw [a1, a2, c]
    · exact absurd (iff.mp o1) o2
  · rcases q2 with ⟨o2, _⟩ | ⟨_, a2⟩
    · exact absurd (iff.mpr o2) o1
    · rw [a1, a2]
