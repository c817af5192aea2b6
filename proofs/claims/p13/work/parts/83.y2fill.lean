def Ld (d : DD) (P : Nat → Nat → Int) (S n : Nat) (Bn : Nat → Nat → Int) : Prop :=
  (S ≤ 8 ∧ n ≤ 8 ∧ (d 10 2).toInt = (S : Int) ∧ (d 10 3).toInt = (n : Int)) ∧
  (∀ m, m < n → ((d 11 m).toInt = P 0 m ∧ (d 12 m).toInt = P 1 m ∧ (d 13 m).toInt = P 2 m ∧ ∀ c, c < n → (b32 (d 14 m) c = true ↔ P (10 + m) c = 1))) ∧
  (∀ s, s < S → ((d 15 s).toInt = P 3 s ∧ (d 16 s).toInt = P 4 s)) ∧
  (∀ s, s ≤ S → ((d 19 s).toInt = Bn 0 s ∧ (d 20 s).toInt = Bn 1 s ∧ (d 21 s).toInt = Bn 2 s ∧ (d 22 s).toInt = Bn 3 s ∧ (d 23 s).toInt = Bn 4 s)) ∧
  (∀ s, s ≤ S → ∀ t, t < 5 → -100000 ≤ Bn t s ∧ Bn t s ≤ 100000) ∧
  ((-100000 ≤ P 5 0 ∧ P 5 0 ≤ 100000) ∧ ∀ m, m < n → (0 ≤ P 0 m ∧ P 0 m ≤ 150) ∧ ∀ s, s < S → (0 ≤ P 1 m * P 4 s ∧ P 1 m * P 4 s ≤ 1000) ∧ (-1000 ≤ P 0 m * P 3 s ∧ P 0 m * P 3 s ≤ 1000))
def Fr6 (s : Nat) (d dz : DD) : Prop := Inv dz ∧ (∀ i, i ≠ 10 → i ≠ 17 → i ≠ 18 → dz i = d i) ∧ (∀ j, j ≠ 0 → j ≠ 1 → dz 10 j = d 10 j) ∧ ∀ i, i < s → dz 17 i = d 17 i
theorem Fr6.rf {s : Nat} {d : DD} (h : Inv d) : Fr6 s d d := ⟨h, fun _ _ _ _ => rfl, fun _ _ _ => rfl, fun _ _ => rfl⟩
theorem Fr6.tr {s t : Nat} {d d1 d2 : DD} (h1 : Fr6 s d d1) (h2 : Fr6 t d1 d2) (hst : s ≤ t) : Fr6 s d d2 :=
  ⟨h2.1, fun i a b c => (h2.2.1 i a b c).trans (h1.2.1 i a b c), fun j a b => (h2.2.2.1 j a b).trans (h1.2.2.1 j a b), fun i hi => (h2.2.2.2 i (by omega)).trans (h1.2.2.2 i hi)⟩
theorem Ld.fr {d dz : DD} {P : Nat → Nat → Int} {S n s : Nat} {Bn : Nat → Nat → Int} (h : Ld d P S n Bn) (f : Fr6 s d dz) : Ld dz P S n Bn := by
  obtain ⟨a, b, c, e, g⟩ := h
  have r : ∀ i, i ≠ 10 → i ≠ 17 → i ≠ 18 → dz i = d i := f.2.1
  unfold Ld
  rw [f.2.2.1 2 (by omega) (by omega), f.2.2.1 3 (by omega) (by omega), r 11 (by omega) (by omega) (by omega), r 12 (by omega) (by omega) (by omega), r 13 (by omega) (by omega) (by omega), r 14 (by omega) (by omega) (by omega), r 15 (by omega) (by omega) (by omega), r 16 (by omega) (by omega) (by omega), r 19 (by omega) (by omega) (by omega), r 20 (by omega) (by omega) (by omega), r 21 (by omega) (by omega) (by omega), r 22 (by omega) (by omega) (by omega), r 23 (by omega) (by omega) (by omega)]
  exact ⟨a, b, c, e, g⟩
def BS (d : DD) (S : Nat) (B : Bool × Int × (Nat → Nat)) : Prop := (B.1 = false ∧ d 10 1 = 0) ∨ (B.1 = true ∧ d 10 1 = 1 ∧ (d 10 0).toInt = B.2.1 ∧ ∀ i, i < S → (d 18 i).toInt = (B.2.2 i : Int))
theorem fn_X6_leastSize {n : Nat} {x0 x1 : Int32} {p q : Int} (h0 : x0.toInt = p) (h1 : x1.toInt = q) (b : -2147483648 < q) {d : DD} {dl : LL} {Q : Int32 → DD → LL → Prop} (hQ : ∀ r : Int32, r.toInt = lsz p q → Q r d dl) : F_X6_leastSize n x0 x1 d dl Q := by
  have bq := i_rg x1
  rw [h1] at bq
  refine ⟨fun g => ⟨fun g2 => hQ 0 ?_, fun g2 => hQ _ ?_⟩, fun g => hQ _ ?_⟩
  · have g : p ≤ 0 := (i_le h0 (rfl : (0 : Int32).toInt = 0)).mp g
    have g2 : 0 ≤ q := (i_le (rfl : (0 : Int32).toInt = 0) h1).mp g2
    unfold lsz
    rw [if_neg (by omega), if_neg (by omega)]
    rfl
  · have g : p ≤ 0 := (i_le h0 (rfl : (0 : Int32).toInt = 0)).mp g
    have g2 : ¬ 0 ≤ q := fun w => g2 ((i_le (rfl : (0 : Int32).toInt = 0) h1).mpr w)
    unfold lsz
    rw [if_neg (by omega), if_pos (by omega)]
    exact ti_neg h1 (by omega) (by omega)
  · have g : ¬ p ≤ 0 := fun w => g ((i_le h0 (rfl : (0 : Int32).toInt = 0)).mpr w)
    unfold lsz
    rw [if_pos (by omega)]
    exact h0
theorem lsz_in {p q : Int} (h1 : -1000000 ≤ p) (h2 : p ≤ 1000000) (h3 : -1000000 ≤ q) (h4 : q ≤ 1000000) : 0 ≤ lsz p q ∧ lsz p q ≤ 1000000 := by
  unfold lsz
  repeat' split
  all_goals omega
theorem fn_X6_leastFrom {n : Nat} {x1 x2 x3 x4 : Int32} {d : DD} {dl : LL} {P : Nat → Nat → Int} {S nn s : Nat} {Bn : Nat → Nat → Int} (h : Ld d P S nn Bn) (h1 : x1.toInt = (s : Int)) (hs : s ≤ S) {le pi ga : Int} (h2 : x2.toInt = le) (h3 : x3.toInt = pi) (h4 : x4.toInt = ga) (c2 : -100000 ≤ le ∧ le ≤ 100000) (c3 : -200000 ≤ pi ∧ pi ≤ 200000) (c4 : -100000 ≤ ga ∧ ga ≤ 100000) {Q : Int32 → DD → LL → Prop} (hQ : ∀ r : Int32, r.toInt = bdS Bn s le pi ga → Q r d dl) : F_X6_leastFrom n x1 x2 x3 x4 d dl Q := by
  obtain ⟨⟨s8, _, _, _⟩, _, _, hb, hr, _⟩ := h
  obtain ⟨b0, b1, b2, b3, b4⟩ := hb s hs
  have r0 := hr s hs 0 (by omega)
  have r1 := hr s hs 1 (by omega)
  have r2 := hr s hs 2 (by omega)
  have r3 := hr s hs 3 (by omega)
  have r4 := hr s hs 4 (by omega)
  have i1 : vp_in x1 9 := vin h1 (by omega) (by omega)
  have hx := at_n h1
  refine ⟨i1, i1, ?_⟩
  rw [hx]
  have t0 : (x2 + d 19 s).toInt = le + Bn 0 s := ti_add h2 b0 (by omega) (by omega)
  have t1 : (x2 + d 20 s).toInt = le + Bn 1 s := ti_add h2 b1 (by omega) (by omega)
  have t2 : (x3 + d 21 s).toInt = pi + Bn 2 s := ti_add h3 b2 (by omega) (by omega)
  have t3 : (x3 + d 22 s).toInt = pi + Bn 3 s := ti_add h3 b3 (by omega) (by omega)
  have l0 := lsz_in (p := le + Bn 0 s) (q := le + Bn 1 s) (by omega) (by omega) (by omega) (by omega)
  have l1 := lsz_in (p := pi + Bn 2 s) (q := pi + Bn 3 s) (by omega) (by omega) (by omega) (by omega)
  refine fn_X6_leastSize t0 t1 (by omega) (fun a ha => ⟨i1, i1, fn_X6_leastSize t2 t3 (by omega) (fun b hb => ⟨i1, hQ _ ?_⟩)⟩)
  have t : (((((4 : Int32) * a) + b) - x4) - (d 23 s)).toInt = 4 * lsz (le + Bn 0 s) (le + Bn 1 s) + lsz (pi + Bn 2 s) (pi + Bn 3 s) - ga - Bn 4 s := ti_sub (ti_sub (ti_add (ti_mul (rfl : (4 : Int32).toInt = 4) ha (by omega) (by omega)) hb (by omega) (by omega)) h4 (by omega) (by omega)) b4 (by omega) (by omega)
  exact t
theorem fn_X6_gainOf {n : Nat} {x1 x2 : Int32} {d : DD} {dl : LL} {P : Nat → Nat → Int} {S nn s m c : Nat} {Bn : Nat → Nat → Int} (h : Ld d P S nn Bn) (h1 : x1.toInt = (s : Int)) (hs : s < S) (h2 : x2.toInt = (m : Int)) (hm : m < nn) (hc : c < nn) (h17 : 1 ≤ s → (d 17 (s - 1)).toInt = (c : Int)) {Q : Int32 → DD → LL → Prop} (hQ : ∀ r : Int32, r.toInt = gaI P s m c → Q r d dl) : F_X6_gainOf n x1 x2 d dl Q := by
  obtain ⟨⟨s8, n8, _, _⟩, hmm, hss, _, _, _, hp⟩ := h
  obtain ⟨_, w1, _, w3⟩ := hmm m hm
  obtain ⟨_, v1⟩ := hss s hs
  have pb := ((hp m hm).2 s hs).1
  have i2 : vp_in x2 8 := vin h2 (by omega) (by omega)
  have i1 : vp_in x1 8 := vin h1 (by omega) (by omega)
  have e1 := at_n h1
  have e2 := at_n h2
  have tr : (irem x1 2).toInt = (s : Int) % 2 := ti_rem h1 (rfl : (2 : Int32).toInt = 2) (by omega) (by omega)
  refine ⟨i2, i1, fun v3 e3 => ?_⟩
  rw [e1, e2] at e3
  have t3 : v3.toInt = P 1 m * P 4 s := by rw [e3]; exact ti_mul w1 v1 (by omega) (by omega)
  have no : (¬ (s % 2 = 1 ∧ P (10 + m) c = 1)) → b_X6_gainOf_45 n Q v3 d dl := by
    intro g
    refine ⟨fun _ => hQ v3 ?_, fun w => absurd rfl w⟩
    unfold gaI
    rw [if_neg g, t3]
    omega
  refine ⟨fun g => ?_, fun g => ?_⟩
  · have g : ¬ (s : Int) % 2 = 1 := fun w => g ((i_eq tr (rfl : (1 : Int32).toInt = 1)).mpr w)
    exact no (fun w => g (by have := w.1; omega))
  · have g : (s : Int) % 2 = 1 := (i_eq tr (rfl : (1 : Int32).toInt = 1)).mp g
    have h17 := h17 (by omega)
    have ts : (x1 - 1).toInt = (s : Int) - 1 := ti_sub h1 (rfl : (1 : Int32).toInt = 1) (by omega) (by omega)
    have es : (x1 - 1).toNatClampNeg = s - 1 := by rw [clampI ts]; omega
    rw [e2, es]
    have fr := b32_read (m := d 14 m) (x := d 17 (s - 1)) (by omega) (by omega)
    have ec := at_n h17
    rw [ec] at fr
    refine ⟨i2, vin ts (by omega) (by omega), fun g2 => no (fun w => ?_), fun g2 => ?_⟩
    · have := (w3 c hc).mpr w.2
      rw [fr.mp g2] at this
      exact absurd this (by decide)
    · have fm : P (10 + m) c = 1 := by
        apply (w3 c hc).mp
        cases hb : b32 (d 14 m) c
        · exact absurd (fr.mpr hb) g2
        · rfl
      refine ⟨fun w => absurd w (by decide), fun _ => hQ _ ?_⟩
      unfold gaI
      rw [if_pos ⟨by omega, fm⟩]
      exact ti_add t3 (rfl : (20 : Int32).toInt = 20) (by omega) (by omega)
theorem fb_X6_keepChosen_12 {n : Nat} {Q : DD → LL → Prop} {dl : LL} {S : Nat} (hS : S ≤ 8) : ∀ (j : Nat) (x2 : Int32) (d : DD), Inv d → (d 10 2).toInt = (S : Int) → 0 ≤ x2.toInt → x2.toInt ≤ (S : Int) → (∀ i : Nat, (i : Int) < x2.toInt → d 18 i = d 17 i) → 9 ≤ x2.toInt + (j : Int) → (∀ dz : DD, Inv dz → (∀ i, i ≠ 18 → dz i = d i) → (∀ i, i < S → dz 18 i = d 17 i) → Q dz dl) → b_X6_keepChosen_12 n Q j x2 d dl := by
  intro j
  induction j with
  | zero =>
    intro x2 d hI h2 h0 h1 hno hm hQ
    exfalso
    omega
  | succ j hK =>
    intro x2 d hI h2 h0 h1 hno hm hQ
    show _ ∧ _
    have hx : x2.toNatClampNeg = x2.toInt.toNat := rfl
    refine ⟨fun h => ?_, fun h => ?_⟩
    · have h : (S : Int) ≤ x2.toInt := (i_le h2 rfl).mp h
      exact hQ d hI (fun _ _ => rfl) (fun i hi => hno i (by omega))
    · have h : ¬ (S : Int) ≤ x2.toInt := fun q => h ((i_le h2 rfl).mpr q)
      have t : (x2 + 1).toInt = x2.toInt + 1 := ti_add rfl (rfl : (1 : Int32).toInt = 1) (by omega) (by omega)
      have hi : vp_in x2 8 := vin rfl (by omega) (by omega)
      refine ⟨hi, hi, fun d6 e6 => ?_⟩
      have mv := iv_17 hI x2.toNatClampNeg
      have s : StP pN d dl d6 dl := by rw [e6]; exact pw_18 (StP.rf hI) mv.1 mv.2 rfl
      have r6 : ∀ i, i ≠ 18 → d6 i = d i := fun i hi => by rw [e6, u2_row hi]
      refine hK _ _ s.1 (by rw [r6 10 (by omega)]; exact h2) (by omega) (by omega) (fun i hi => ?_) (by omega) (fun dz iz f1 f2 => hQ dz iz (fun i hi => (f1 i hi).trans (r6 i hi)) (fun i hi => by rw [f2 i hi, r6 17 (by omega)]))
      rw [r6 17 (by omega)]
      by_cases hi2 : i = x2.toNatClampNeg
      · rw [hi2, e6, u2_eq]
      · rw [e6, u2_ne (Or.inr hi2)]
        exact hno i (by omega)
theorem fn_X6_keepChosen {n : Nat} (hn : 1000000000 ≤ n) {x1 : Int32} {d : DD} {dl : LL} {S : Nat} (hS : S ≤ 8) (hI : Inv d) (h2 : (d 10 2).toInt = (S : Int)) {Q : DD → LL → Prop} (hQ : ∀ dz : DD, Fr6 S d dz → dz 10 1 = 1 → dz 10 0 = x1 → (∀ i, i < S → dz 18 i = d 17 i) → Q dz dl) : F_X6_keepChosen n x1 d dl Q := by
  intro d1 e1 d2 e2
  have s1 : StP pN d dl d1 dl := by rw [e1]; exact pw_10_1 (StP.rf hI) (by decide) (by decide) rfl
  have s2 : StP pN d dl d2 dl := by rw [e2]; exact pw_10_0 s1 rfl
  refine fb_X6_keepChosen_12 hS n 0 d2 s2.1 (by rw [e2, u2_ne (Or.inr (by omega)), e1, u2_ne (Or.inr (by omega))]; exact h2) (show (0 : Int) ≤ 0 by omega) (show (0 : Int) ≤ (S : Int) by omega) (fun l hl => absurd (show (l : Int) < 0 from hl) (by omega)) (show (9 : Int) ≤ 0 + (n : Int) by omega) (fun dz iz f1 f2 => hQ dz ⟨iz, fun i a b c => ?_, fun j a b => ?_, fun i hi => ?_⟩ ?_ ?_ (fun i hi => ?_))
  · rw [f1 i c, e2, u2_row a, e1, u2_row a]
  · rw [f1 10 (by omega), e2, u2_ne (Or.inr a), e1, u2_ne (Or.inr b)]
  · rw [f1 17 (by omega), e2, u2_row (by omega), e1, u2_row (by omega)]
  · rw [f1 10 (by omega), e2, u2_ne (Or.inr (by omega)), e1, u2_eq]
  · rw [f1 10 (by omega), e2, u2_eq]
  · rw [f2 i hi, e2, u2_row (by omega), e1, u2_row (by omega)]
