def gp (a b : Int) : Int := if 0 ≤ a - b then a - b else -(a - b)
theorem gp_c (a b : Int) : gp a b = gp b a := by unfold gp; split <;> split <;> omega
def RMt (d : DD) (dl : LL) (k1 k2 : Nat) : Prop := ∃ l, l < 4 ∧ ¬ d (92 + 5 * k1) l = -1 ∧ MetB d dl (92 + 5 * k2) (d (92 + 5 * k1) l)
theorem fb_X9_racesMeet_2 {n : Nat} (hn : 1000000000 ≤ n) {Q : Int32 → DD → LL → Prop} {k1 k2 : Nat} (hk1 : k1 < 24) (hk2 : k2 < 24) {d : DD} {dl : LL} (hI : Inv d) (hQ : ∀ r : Int32, ((r = 1 ∧ RMt d dl k1 k2) ∨ (r = 0 ∧ ¬ RMt d dl k1 k2)) → Q r d dl) : ∀ (j : Nat) (x3 : Int32), 0 ≤ x3.toInt → x3.toInt ≤ 4 → (∀ l : Nat, (l : Int) < x3.toInt → ¬ (¬ d (92 + 5 * k1) l = -1 ∧ MetB d dl (92 + 5 * k2) (d (92 + 5 * k1) l))) → 5 ≤ x3.toInt + (j : Int) → b_X9_racesMeet_2 n Q j k1 k2 x3 d dl := by
  intro j
  induction j with
  | zero =>
    intro x3 h0 h1 hno hm
    exfalso
    omega
  | succ j hK =>
    intro x3 h0 h1 hno hm
    show _ ∧ _
    have hx : x3.toNatClampNeg = x3.toInt.toNat := rfl
    refine ⟨fun h => ?_, fun h => ?_⟩
    · have h : 4 ≤ x3.toInt := (i_le (rfl : (4 : Int32).toInt = 4) rfl).mp h
      exact hQ 0 (Or.inr ⟨rfl, fun ⟨l, hl, g⟩ => hno l (by omega) g⟩)
    · have h : ¬ 4 ≤ x3.toInt := fun q => h ((i_le (rfl : (4 : Int32).toInt = 4) rfl).mpr q)
      have t : (x3 + 1).toInt = x3.toInt + 1 := ti_add rfl (rfl : (1 : Int32).toInt = 1) (by omega) (by omega)
      have hi : vp_in x3 4 := vin rfl (by omega) (by omega)
      have mv := iv_92 hI hk1 x3.toNatClampNeg
      have nx : ¬ (¬ d (92 + 5 * k1) x3.toNatClampNeg = -1 ∧ MetB d dl (92 + 5 * k2) (d (92 + 5 * k1) x3.toNatClampNeg)) → b_X9_racesMeet_2 n Q j k1 k2 (x3 + 1) d dl := by
        intro g
        refine hK _ (by omega) (by omega) (fun l hl => ?_) (by omega)
        by_cases hl2 : l = x3.toNatClampNeg
        · rw [hl2]; exact g
        · exact hno l (by omega)
      refine ⟨hi, fun h2 => nx (fun g => g.1 h2), fun h2 => ⟨hi, ?_⟩⟩
      have h2i := m1 h2
      refine fn_X9_isMetByOneOf hn hI (Or.inr ⟨k2, hk2, rfl⟩) ⟨by omega, by omega⟩ (fun r hr => ⟨fun h6 => nx (fun g => ?_), fun h6 => ?_⟩)
      · rcases hr with ⟨e, _⟩ | ⟨_, q⟩
        · rw [e] at h6; exact absurd h6 (by decide)
        · exact q g.2
      · rcases hr with ⟨_, q⟩ | ⟨e, _⟩
        · exact hQ 1 (Or.inl ⟨rfl, x3.toNatClampNeg, by omega, h2, q⟩)
        · exact absurd e h6
theorem fn_X9_racesMeet {n : Nat} (hn : 1000000000 ≤ n) {Q : Int32 → DD → LL → Prop} {k1 k2 : Nat} (hk1 : k1 < 24) (hk2 : k2 < 24) {d : DD} {dl : LL} (hI : Inv d) (hQ : ∀ r : Int32, ((r = 1 ∧ RMt d dl k1 k2) ∨ (r = 0 ∧ ¬ RMt d dl k1 k2)) → Q r d dl) : F_X9_racesMeet n k1 k2 d dl Q :=
  fb_X9_racesMeet_2 hn hk1 hk2 hI hQ n 0 (show (0 : Int) ≤ 0 by omega) (show (0 : Int) ≤ 4 by omega) (fun l hl => absurd (show (l : Int) < 0 from hl) (by omega)) (show (5 : Int) ≤ 0 + (n : Int) by omega)
theorem fn_X3_minutesTo {n : Nat} {Q : Int32 → DD → LL → Prop} {k1 k2 : Nat} (hk1 : k1 < 24) (hk2 : k2 < 24) {d : DD} {dl : LL} (hI : Inv d) (hQ : ∀ r : Int32, r.toInt = gp (d (91 + 5 * k1) 0).toInt (d (91 + 5 * k2) 0).toInt → Q r d dl) : F_X3_minutesTo n k1 k2 d dl Q := by
  have a := iv_91_0 hI hk1
  have b := iv_91_0 hI hk2
  refine hQ _ ?_
  have t : ((d (91 + 5 * k1) 0) - (d (91 + 5 * k2) 0)).toInt = (d (91 + 5 * k1) 0).toInt - (d (91 + 5 * k2) 0).toInt := ti_sub rfl rfl (by omega) (by omega)
  rw [ti_abs t (by omega)]
  rfl
def Bar (d : DD) (dl : LL) (k q : Nat) : Prop := gp (d (91 + 5 * k) 0).toInt (d (91 + 5 * q) 0).toInt < (d 0 9).toInt ∧ RMt d dl k q
theorem fb_X9_firstBarring_2 {n : Nat} (hn : 1000000000 ≤ n) {Q : Int32 → DD → LL → Prop} {x1 : Int32} {d : DD} {dl : LL} (hI : Inv d) (b1 : 0 ≤ x1.toInt ∧ x1.toInt ≤ 23) (hit : ∀ q : Int32, 0 ≤ q.toInt → q.toInt < x1.toInt → Bar d dl x1.toNatClampNeg q.toNatClampNeg → (∀ i : Nat, (i : Int) < q.toInt → ¬ Bar d dl x1.toNatClampNeg i) → Q q d dl) (miss : (∀ i : Nat, (i : Int) < x1.toInt → ¬ Bar d dl x1.toNatClampNeg i) → Q (-1) d dl) : ∀ (j : Nat) (x2 : Int32), 0 ≤ x2.toInt → x2.toInt ≤ 23 → (∀ i : Nat, (i : Int) < x2.toInt → ¬ Bar d dl x1.toNatClampNeg i) → 24 ≤ x2.toInt + (j : Int) → b_X9_firstBarring_2 n Q j x1 x2 d dl := by
  intro j
  induction j with
  | zero =>
    intro x2 h0 h1 hno hm
    exfalso
    omega
  | succ j hK =>
    intro x2 h0 h1 hno hm
    show _ ∧ _
    have hx : x2.toNatClampNeg = x2.toInt.toNat := rfl
    have hy : x1.toNatClampNeg = x1.toInt.toNat := rfl
    refine ⟨fun h => ?_, fun h => ?_⟩
    · have h : x1.toInt ≤ x2.toInt := (i_le rfl rfl).mp h
      exact miss (fun i hi => hno i (by omega))
    · have h : ¬ x1.toInt ≤ x2.toInt := fun q => h ((i_le rfl rfl).mpr q)
      have t : (x2 + 1).toInt = x2.toInt + 1 := ti_add rfl (rfl : (1 : Int32).toInt = 1) (by omega) (by omega)
      have i1 : vp_in x1 24 := vin rfl (by omega) (by omega)
      have i2 : vp_in x2 24 := vin rfl (by omega) (by omega)
      have nx : ¬ Bar d dl x1.toNatClampNeg x2.toNatClampNeg → b_X9_firstBarring_2 n Q j x1 (x2 + 1) d dl := by
        intro g
        refine hK _ (by omega) (by omega) (fun l hl => ?_) (by omega)
        by_cases hl2 : l = x2.toNatClampNeg
        · rw [hl2]; exact g
        · exact hno l (by omega)
      refine ⟨i1, fun k3 e3 => ⟨i2, fun k5 e5 => ?_⟩⟩
      subst e3; subst e5
      refine fn_X3_minutesTo (clamp_in i1) (clamp_in i2) hI (fun r6 hr6 => ⟨fun h2 => ?_, fun h2 => ?_⟩)
      · have h2 : (d 0 9).toInt ≤ r6.toInt := (i_le rfl rfl).mp h2
        exact nx (fun g => by have := g.1; omega)
      · have h2 : ¬ (d 0 9).toInt ≤ r6.toInt := fun q => h2 ((i_le rfl rfl).mpr q)
        refine ⟨i1, fun k11 e11 => ⟨i2, fun k13 e13 => ?_⟩⟩
        subst e11; subst e13
        refine fn_X9_racesMeet hn (clamp_in i1) (clamp_in i2) hI (fun r hr => ⟨fun h6 => nx (fun g => ?_), fun h6 => ?_⟩)
        · rcases hr with ⟨e, _⟩ | ⟨_, q⟩
          · rw [e] at h6; exact absurd h6 (by decide)
          · exact q g.2
        · rcases hr with ⟨_, q⟩ | ⟨e, _⟩
          · exact hit x2 h0 (by omega) ⟨by omega, q⟩ hno
          · exact absurd e h6
theorem fn_X9_firstBarring {n : Nat} (hn : 1000000000 ≤ n) {Q : Int32 → DD → LL → Prop} {x1 : Int32} {d : DD} {dl : LL} (hI : Inv d) (b1 : 0 ≤ x1.toInt ∧ x1.toInt ≤ 23) (hit : ∀ q : Int32, 0 ≤ q.toInt → q.toInt < x1.toInt → Bar d dl x1.toNatClampNeg q.toNatClampNeg → (∀ i : Nat, (i : Int) < q.toInt → ¬ Bar d dl x1.toNatClampNeg i) → Q q d dl) (miss : (∀ i : Nat, (i : Int) < x1.toInt → ¬ Bar d dl x1.toNatClampNeg i) → Q (-1) d dl) : F_X9_firstBarring n x1 d dl Q :=
  fb_X9_firstBarring_2 hn hI b1 hit miss n 0 (show (0 : Int) ≤ 0 by omega) (show (0 : Int) ≤ 23 by omega) (fun l hl => absurd (show (l : Int) < 0 from hl) (by omega)) (show (24 : Int) ≤ 0 + (n : Int) by omega)
def pN : Nat → Nat → Bool := fun _ _ => false
theorem fb_X3_set_13 {n k : Nat} (hk : k < 24) {Q : DD → LL → Prop} {dl : LL} : ∀ (j : Nat) (x4 : Int32) (d : DD), Inv d → 0 ≤ x4.toInt → x4.toInt ≤ 4 → (∀ l : Nat, (l : Int) < x4.toInt → d (92 + 5 * k) l = d 28 l) → 5 ≤ x4.toInt + (j : Int) → (∀ dz : DD, Inv dz → (∀ i j, i ≠ 92 + 5 * k → dz i j = d i j) → (∀ l, l < 4 → dz (92 + 5 * k) l = d 28 l) → Q dz dl) → b_X3_set_13 n Q j k x4 d dl := by
  intro j
  induction j with
  | zero =>
    intro x4 d hI h0 h1 hno hm hQ
    exfalso
    omega
  | succ j hK =>
    intro x4 d hI h0 h1 hno hm hQ
    show _ ∧ _
    have hx : x4.toNatClampNeg = x4.toInt.toNat := rfl
    refine ⟨fun h => ?_, fun h => ?_⟩
    · have h : 4 ≤ x4.toInt := (i_le (rfl : (4 : Int32).toInt = 4) rfl).mp h
      exact hQ d hI (fun _ _ _ => rfl) (fun l hl => hno l (by omega))
    · have h : ¬ 4 ≤ x4.toInt := fun q => h ((i_le (rfl : (4 : Int32).toInt = 4) rfl).mpr q)
      have t : (x4 + 1).toInt = x4.toInt + 1 := ti_add rfl (rfl : (1 : Int32).toInt = 1) (by omega) (by omega)
      have hi : vp_in x4 4 := vin rfl (by omega) (by omega)
      refine ⟨hi, hi, fun d6 e6 => ?_⟩
      have mv := rowb_iv hI (Or.inl rfl) (c := 28) x4.toNatClampNeg
      have s : StP pN d dl d6 dl := by rw [e6]; exact pw_92 (StP.rf hI) hk mv.1 mv.2 rfl
      have k28 : ∀ l, d6 28 l = d 28 l := fun l => by rw [e6, u2_row (by omega)]
      refine hK _ _ s.1 (by omega) (by omega) (fun l hl => ?_) (by omega) (fun dz iz f1 f2 => hQ dz iz (fun i j hi => ?_) (fun l hl => ?_))
      · rw [k28]
        by_cases hl2 : l = x4.toNatClampNeg
        · rw [hl2, e6, u2_eq]
        · rw [e6, u2_ne (Or.inr hl2)]
          exact hno l (by omega)
      · rw [f1 i j hi, e6, u2_row hi]
      · rw [f2 l hl, k28]
theorem fn_X3_set {n k : Nat} (hn : 1000000000 ≤ n) (hk : k < 24) {x1 x2 : Int32} (b1 : 0 ≤ x1.toInt ∧ x1.toInt ≤ 999) (b2 : 0 ≤ x2.toInt ∧ x2.toInt ≤ 1) {d : DD} {dl : LL} (hI : Inv d) {Q : DD → LL → Prop} (hQ : ∀ dz : DD, Inv dz → (∀ i j, i ≠ 91 + 5 * k → i ≠ 92 + 5 * k → dz i j = d i j) → dz (91 + 5 * k) 0 = x1 → dz (91 + 5 * k) 1 = x2 → (∀ l, l < 4 → dz (92 + 5 * k) l = d 28 l) → Q dz dl) : F_X3_set n k x1 x2 d dl Q := by
  intro d1 e1 d2 e2
  have s1 : StP pN d dl d1 dl := by rw [e1]; exact pw_91_0 (StP.rf hI) hk b1.1 b1.2 rfl
  have s2 : StP pN d dl d2 dl := by rw [e2]; exact pw_91_1 s1 hk b2.1 b2.2 rfl
  refine fb_X3_set_13 hk n 0 d2 s2.1 (show (0 : Int) ≤ 0 by omega) (show (0 : Int) ≤ 4 by omega) (fun l hl => absurd (show (l : Int) < 0 from hl) (by omega)) (show (5 : Int) ≤ 0 + (n : Int) by omega) (fun dz iz f1 f2 => hQ dz iz (fun i j hi1 hi2 => ?_) ?_ ?_ (fun l hl => ?_))
  · rw [f1 i j hi2, e2, u2_row hi1, e1, u2_row hi1]
  · rw [f1 _ _ (by omega), e2, u2_ne (Or.inr (by omega)), e1, u2_eq]
  · rw [f1 _ _ (by omega), e2, u2_eq]
  · rw [f2 l hl, e2, u2_row (by omega), e1, u2_row (by omega)]
theorem fb_X9_race_86 {n : Nat} {Q : Int32 → DD → LL → Prop} {dl : LL} : ∀ (j : Nat) (x4 : Int32) (d : DD), Inv d → (d 0 13).toInt ≤ 23 → 0 ≤ x4.toInt → x4.toInt ≤ 4 → (∀ l : Nat, (l : Int) < x4.toInt → d 28 l = -1) → 5 ≤ x4.toInt + (j : Int) → (∀ (r : Int32) (dz : DD), Inv dz → r.toInt = (d 0 13).toInt → (dz 0 13).toInt = (d 0 13).toInt + 1 → (∀ l, l < 4 → dz 28 l = -1) → (∀ i j, i ≠ 28 → (i ≠ 0 ∨ j ≠ 13) → dz i j = d i j) → Q r dz dl) → b_X9_race_86 n Q j x4 d dl := by
  intro j
  induction j with
  | zero =>
    intro x4 d hI hr h0 h1 hno hm hQ
    exfalso
    omega
  | succ j hK =>
    intro x4 d hI hr h0 h1 hno hm hQ
    show _ ∧ _
    have hx : x4.toNatClampNeg = x4.toInt.toNat := rfl
    have m := iv_0_13 hI
    refine ⟨fun h => ?_, fun h => ?_⟩
    · have h : 4 ≤ x4.toInt := (i_le (rfl : (4 : Int32).toInt = 4) rfl).mp h
      intro d24 e24
      have t : ((d 0 13) + 1).toInt = (d 0 13).toInt + 1 := ti_add rfl (rfl : (1 : Int32).toInt = 1) (by omega) (by omega)
      have s : StP pN d dl d24 dl := by rw [e24]; exact pw_0_13 (StP.rf hI) (by rw [t]; omega) (by rw [t]; omega) rfl
      have k : d24 0 13 = d 0 13 + 1 := by rw [e24, u2_eq]
      have t2 : ((d24 0 13) - 1).toInt = ((d 0 13).toInt + 1) - 1 := ti_sub (by rw [k, t]) (rfl : (1 : Int32).toInt = 1) (by omega) (by omega)
      exact hQ _ _ s.1 (by rw [t2]; omega) (by rw [k, t]) (fun l hl => by rw [e24, u2_row (by omega)]; exact hno l (by omega)) (fun i j _ g => by rw [e24, u2_ne g])
    · have h : ¬ 4 ≤ x4.toInt := fun q => h ((i_le (rfl : (4 : Int32).toInt = 4) rfl).mpr q)
      have t : (x4 + 1).toInt = x4.toInt + 1 := ti_add rfl (rfl : (1 : Int32).toInt = 1) (by omega) (by omega)
      refine ⟨vin rfl (by omega) (by omega), fun d26 e26 => ?_⟩
      have s : StP pN d dl d26 dl := by rw [e26]; exact pw_28 (StP.rf hI) (by decide) (by decide) rfl
      have k : d26 0 13 = d 0 13 := by rw [e26, u2_row (by omega)]
      refine hK _ _ s.1 (by rw [k]; exact hr) (by omega) (by omega) (fun l hl => ?_) (by omega) (fun r dz iz f1 f2 f3 f4 => hQ r dz iz (by rw [f1, k]) (by rw [f2, k]) f3 (fun i j g1 g2 => ?_))
      · by_cases hl2 : l = x4.toNatClampNeg
        · rw [hl2, e26, u2_eq]
        · rw [e26, u2_ne (Or.inr hl2)]
          exact hno l (by omega)
      · rw [f4 i j g1 g2, e26, u2_row g1]
def okR (m r : Int32) : Prop := (0 ≤ m.toInt ∧ m.toInt ≤ 999) ∧ (0 ≤ r.toInt ∧ r.toInt ≤ 1)
def B9 (d : DD) (dl : LL) (m : Int32) (q : Nat) : Prop := gp m.toInt (d (91 + 5 * q) 0).toInt < (d 0 9).toInt ∧ ∃ l, l < 4 ∧ ¬ d 28 l = -1 ∧ MetB d dl (92 + 5 * q) (d 28 l)
def End9 (d dz : DD) (R : Nat) (m rd : Int32) : Prop := dz (91 + 5 * R) 0 = m ∧ dz (91 + 5 * R) 1 = rd ∧ (∀ l, l < 4 → dz (92 + 5 * R) l = d 28 l) ∧ (∀ l, l < 4 → dz 28 l = -1) ∧ (dz 0 13).toInt = (d 0 13).toInt + 1 ∧ ∀ i j, i ≠ 91 + 5 * R → i ≠ 92 + 5 * R → i ≠ 28 → (i ≠ 0 ∨ j ≠ 13) → dz i j = d i j
def RaceP9 (d : DD) (dl : LL) (dz : DD) (m rd r : Int32) : Prop :=
  (¬ okR m rd ∧ r = -2 ∧ dz = d) ∨ (okR m rd ∧ ¬ 2 ≤ cnt d ∧ r = -3 ∧ dz = d) ∨ (okR m rd ∧ 2 ≤ cnt d ∧ ¬ (d 0 13).toInt < 24 ∧ r = -4 ∧ dz = d) ∨ (okR m rd ∧ 2 ≤ cnt d ∧ (d 0 13).toInt < 24 ∧ ∃ q : Nat, (q : Int) < (d 0 13).toInt ∧ B9 d dl m q ∧ (∀ i : Nat, i < q → ¬ B9 d dl m i) ∧ r.toInt = -10 - (q : Int) ∧ ∀ i j, i ≠ 91 + 5 * (d 0 13).toNatClampNeg → i ≠ 92 + 5 * (d 0 13).toNatClampNeg → dz i j = d i j) ∨ (okR m rd ∧ 2 ≤ cnt d ∧ (d 0 13).toInt < 24 ∧ (∀ i : Nat, (i : Int) < (d 0 13).toInt → ¬ B9 d dl m i) ∧ r.toInt = (d 0 13).toInt ∧ End9 d dz (d 0 13).toNatClampNeg m rd)
theorem stQ {d dz : DD} {dl : LL} {R : Nat} (hR : R < 24) (hz : Inv dz) (h : ∀ i j, i ≠ 91 + 5 * R → i ≠ 92 + 5 * R → i ≠ 28 → (i ≠ 0 ∨ j ≠ 13) → dz i j = d i j) : StQ d dl dz dl := by
  refine ⟨hz, fun i j q => h i j (fun e => ?_) (fun e => ?_) (fun e => ?_) ?_, fun _ _ _ => rfl⟩
  · subst e; rw [rg_91 hR] at q
    exact absurd (show false = true from q) (by decide)
  · subst e; rw [rg_92 hR] at q
    exact absurd (show false = true from q) (by decide)
  · subst e
    exact absurd (show false = true from q) (by decide)
  · by_cases e : i = 0
    · refine Or.inr (fun e2 => ?_)
      subst e; subst e2
      exact absurd (show false = true from q) (by decide)
    · exact Or.inl e
theorem bar_b9 {d d2 : DD} {dl : LL} {R : Nat} {m : Int32} {q : Nat} (hq : q < R) (h1 : ∀ i j, i ≠ 91 + 5 * R → i ≠ 92 + 5 * R → d2 i j = d i j) (h2 : d2 (91 + 5 * R) 0 = m) (h3 : ∀ l, l < 4 → d2 (92 + 5 * R) l = d 28 l) : Bar d2 dl R q ↔ B9 d dl m q := by
  have e1 : d2 (91 + 5 * q) 0 = d (91 + 5 * q) 0 := h1 _ _ (by omega) (by omega)
  have e2 : d2 0 9 = d 0 9 := h1 _ _ (by omega) (by omega)
  have e3 : ∀ l, d2 (92 + 5 * q) l = d (92 + 5 * q) l := fun l => h1 _ _ (by omega) (by omega)
  have e4 : ∀ x, MetB d2 dl (92 + 5 * q) x ↔ MetB d dl (92 + 5 * q) x := fun x => by
    unfold MetB
    exact ⟨fun ⟨l, a, b, c⟩ => ⟨l, a, by rw [← e3]; exact b, by rw [← e3]; exact c⟩, fun ⟨l, a, b, c⟩ => ⟨l, a, by rw [e3]; exact b, by rw [e3]; exact c⟩⟩
  unfold Bar B9
  rw [h2, e1, e2]
  refine and_congr_right (fun _ => ⟨fun ⟨l, a, b, c⟩ => ⟨l, a, by rw [← h3 l a]; exact b, by rw [← h3 l a]; exact (e4 _).mp c⟩, fun ⟨l, a, b, c⟩ => ⟨l, a, by rw [h3 l a]; exact b, by rw [h3 l a]; exact (e4 _).mpr c⟩⟩)
theorem sp_X9_race {n : Nat} (hn : 1000000000 ≤ n) {x1 x2 : Int32} {d : DD} {dl : LL} (hI : Inv d) {Q : Int32 → DD → LL → Prop} (hQ : ∀ (r : Int32) (d2 : DD) (l2 : LL), StQ d dl d2 l2 ∧ RaceP9 d dl d2 x1 x2 r → Q r d2 l2) : F_X9_race n x1 x2 d dl Q := by
  have m3 := iv_0_13 hI
  refine sp_X9_within hn hI (fun r1 d2 l3 ⟨p1, q1⟩ => ?_)
  obtain ⟨h3, rfl, rfl⟩ := p1
  replace q1 : 0 ≤ r1.toInt ∧ r1.toInt ≤ 1 ∧ ((r1.toInt = 1 ∧ 0 ≤ x1.toInt ∧ x1.toInt ≤ 999) ∨ (r1.toInt = 0 ∧ ¬ (0 ≤ x1.toInt ∧ x1.toInt ≤ 999))) := q1
  refine ⟨fun h1 => ?_, fun h1 => ?_⟩
  · have h1 : r1.toInt = 0 := (i_eq rfl (rfl : (0 : Int32).toInt = 0)).mp h1
    exact hQ _ _ _ ⟨StP.rf hI, Or.inl ⟨fun h => by have := h.1; omega, rfl, rfl⟩⟩
  have h1 : ¬ r1.toInt = 0 := fun q => h1 ((i_eq rfl (rfl : (0 : Int32).toInt = 0)).mpr q)
  refine sp_X9_within hn hI (fun r5 d6 l7 ⟨p2, q2⟩ => ?_)
  obtain ⟨h4, rfl, rfl⟩ := p2
  replace q2 : 0 ≤ r5.toInt ∧ r5.toInt ≤ 1 ∧ ((r5.toInt = 1 ∧ 0 ≤ x2.toInt ∧ x2.toInt ≤ 1) ∨ (r5.toInt = 0 ∧ ¬ (0 ≤ x2.toInt ∧ x2.toInt ≤ 1))) := q2
  refine ⟨fun h2 => ?_, fun h2 => ?_⟩
  rotate_left
  · have h2 : r5.toInt = 0 := (i_eq rfl (rfl : (0 : Int32).toInt = 0)).mp h2
    exact hQ _ _ _ ⟨StP.rf hI, Or.inl ⟨fun h => by have := h.2; omega, rfl, rfl⟩⟩
  have h2 : ¬ r5.toInt = 0 := fun q => h2 ((i_eq rfl (rfl : (0 : Int32).toInt = 0)).mpr q)
  have ok : okR x1 x2 := ⟨by omega, by omega⟩
  refine fn_X9_howManyWait hn (fun r9 hr9 => ⟨fun h5 => ⟨fun h6 => ?_, fun h6 => ?_⟩, fun h5 => ?_⟩)
  · have h5 : 2 ≤ r9.toInt := (i_le (rfl : (2 : Int32).toInt = 2) rfl).mp h5
    rw [hr9] at h5
    have h6 : (d6 0 13).toInt < 24 := (i_lt rfl (rfl : (24 : Int32).toInt = 24)).mp h6
    have hi : vp_in (d6 0 13) 24 := vin rfl (by omega) (by omega)
    refine ⟨hi, fun k15 e15 => ?_⟩
    subst e15
    have hk := clamp_in hi
    have hR : (d6 0 13).toNatClampNeg = (d6 0 13).toInt.toNat := rfl
    refine fn_X3_set hn hk ok.1 ok.2 hI (fun d17 i17 f1 f2 f3 f4 => ?_)
    have e13 : d17 0 13 = d6 0 13 := f1 0 13 (by omega) (by omega)
    rw [e13]
    refine fn_X9_firstBarring hn i17 ⟨by omega, by omega⟩ (fun q q0 q1 hb hf => ?_) (fun hf => ?_)
    · have qn : q.toNatClampNeg = q.toInt.toNat := rfl
      refine ⟨fun g => absurd g (m1r (by omega)), fun _ => ?_⟩
      refine hQ _ _ _ ⟨stQ hk i17 (fun i j g1 g2 _ _ => f1 i j g1 g2), Or.inr (Or.inr (Or.inr (Or.inl ⟨ok, h5, h6, q.toNatClampNeg, by omega, (bar_b9 (by omega) f1 f2 f4).mp hb, fun i hi2 g => hf i (by omega) ((bar_b9 (by omega) f1 f2 f4).mpr g), ?_, f1⟩)))⟩
      rw [ti_sub (a := (-10 : Int32)) (b := q) (p := -10) (q := q.toInt) rfl rfl (by omega) (by omega)]
      omega
    · refine ⟨fun _ => ?_, fun g => absurd rfl g⟩
      refine fb_X9_race_86 n 0 d17 i17 (by rw [e13]; omega) (show (0 : Int) ≤ 0 by omega) (show (0 : Int) ≤ 4 by omega) (fun l hl => absurd (show (l : Int) < 0 from hl) (by omega)) (show (5 : Int) ≤ 0 + (n : Int) by omega) (fun r dz iz g1 g2 g3 g4 => ?_)
      have ke : ∀ i j, i ≠ 91 + 5 * (d6 0 13).toNatClampNeg → i ≠ 92 + 5 * (d6 0 13).toNatClampNeg → i ≠ 28 → (i ≠ 0 ∨ j ≠ 13) → dz i j = d6 i j := fun i j a b c e => by rw [g4 i j c e, f1 i j a b]
      refine hQ _ _ _ ⟨stQ hk iz ke, Or.inr (Or.inr (Or.inr (Or.inr ⟨ok, h5, h6, fun i hi2 g => hf i (by omega) ((bar_b9 (by omega) f1 f2 f4).mpr g), by rw [g1, e13], ?_, ?_, ?_, g3, by rw [g2, e13], ke⟩)))⟩
      · rw [g4 _ _ (by omega) (Or.inl (by omega)), f2]
      · rw [g4 _ _ (by omega) (Or.inl (by omega)), f3]
      · intro l hl
        rw [g4 _ _ (by omega) (Or.inl (by omega)), f4 l hl]
  · have h5 : 2 ≤ r9.toInt := (i_le (rfl : (2 : Int32).toInt = 2) rfl).mp h5
    rw [hr9] at h5
    have h6 : ¬ (d6 0 13).toInt < 24 := fun q => h6 ((i_lt rfl (rfl : (24 : Int32).toInt = 24)).mpr q)
    exact hQ _ _ _ ⟨StP.rf hI, Or.inr (Or.inr (Or.inl ⟨ok, h5, h6, rfl, rfl⟩))⟩
  · have h5 : ¬ 2 ≤ r9.toInt := fun q => h5 ((i_le (rfl : (2 : Int32).toInt = 2) rfl).mpr q)
    exact hQ _ _ _ ⟨StP.rf hI, Or.inr (Or.inl ⟨ok, by omega, rfl, rfl⟩)⟩
