theorem inc1 {x : Int32} {s : Nat} (h : x.toInt = (s : Int)) (h2 : s ≤ 100000) : (x + 1).toInt = ((s + 1 : Nat) : Int) := by
  have t : (x + 1).toInt = (s : Int) + 1 := ti_add h (rfl : (1 : Int32).toInt = 1) (by omega) (by omega)
  rw [t]
  omega
theorem hlf {x : Int32} {s : Nat} (h : x.toInt = (s : Int)) : (x / 2).toInt = ((s / 2 : Nat) : Int) := by
  have t : (x / 2).toInt = (s : Int) / 2 := ti_div h (rfl : (2 : Int32).toInt = 2) (by omega) (by omega)
  rw [t]
  omega
def lpm {β : Type} (f : Nat → β → β) : Nat → Nat → β → β
  | 0, _, b => b
  | c + 1, m, b => lpm f c (m + 1) (f m b)
def sm (f : Nat → Int) : Nat → Int
  | 0 => 0
  | k + 1 => sm f k + f k
theorem sm_k {f g : Nat → Int} : ∀ k : Nat, (∀ i, i < k → f i = g i) → sm f k = sm g k := by
  intro k
  induction k with
  | zero => intro _; rfl
  | succ k ih =>
    intro h
    show sm f k + f k = sm g k + g k
    rw [ih (fun i hi => h i (by omega)), h k (by omega)]
def ab (x : Int) : Int := if 0 ≤ x then x else -x
def leS (P : Nat → Nat → Int) (ch : Nat → Nat) (s : Nat) : Int := sm (fun i => if i % 2 = 0 then P 0 (ch i) else -P 0 (ch i)) s
def piS (P : Nat → Nat → Int) (ch : Nat → Nat) (s : Nat) : Int := P 5 0 + sm (fun i => P 0 (ch i) * P 3 i) s
def gaI (P : Nat → Nat → Int) (i m c : Nat) : Int := P 1 m * P 4 i + (if i % 2 = 1 ∧ P (10 + m) c = 1 then 20 else 0)
def gaS (P : Nat → Nat → Int) (ch : Nat → Nat) (s : Nat) : Int := sm (fun i => gaI P i (ch i) (ch (i - 1))) s
def tlt (P : Nat → Nat → Int) (S : Nat) (ch : Nat → Nat) : Int := 4 * ab (leS P ch S) + ab (piS P ch S) - gaS P ch S
def okS (P : Nat → Nat → Int) (s m : Nat) (ch : Nat → Nat) : Prop := (∀ i, i < s → ¬ ch i = m) ∧ ¬ P 2 m = 1 - ((s % 2 : Nat) : Int)
def upN (ch : Nat → Nat) (s m : Nat) : Nat → Nat := fun i => if i = s then m else ch i
theorem upN_e {ch : Nat → Nat} {s m : Nat} : upN ch s m s = m := if_pos rfl
theorem upN_n {ch : Nat → Nat} {s m i : Nat} (h : ¬ i = s) : upN ch s m i = ch i := if_neg h
def upb (B : Bool × Int × (Nat → Nat)) (t : Int) (ch : Nat → Nat) : Bool × Int × (Nat → Nat) := if B.1 = true ∧ B.2.1 ≤ t then B else (true, t, ch)
noncomputable def FS (P : Nat → Nat → Int) (S n : Nat) : Nat → Nat → (Nat → Nat) → Bool × Int × (Nat → Nat) → Bool × Int × (Nat → Nat)
  | 0, _, ch, B => upb B (tlt P S ch) ch
  | k + 1, s, ch, B => lpm (fun m B => @ite _ (okS P s m ch) (Classical.propDecidable _) (FS P S n k (s + 1) (upN ch s m) B) B) n 0 B
def lsz (lo hi : Int) : Int := if 0 < lo then lo else if hi < 0 then -hi else 0
theorem lsz_m {lo hi lo2 hi2 : Int} (h1 : lo ≤ lo2) (h2 : hi2 ≤ hi) (h3 : lo2 ≤ hi2) : lsz lo hi ≤ lsz lo2 hi2 := by
  unfold lsz
  repeat' split
  all_goals omega
theorem lsz_ab (x : Int) : lsz x x = ab x := by
  unfold lsz ab
  repeat' split
  all_goals omega
def bdS (Bn : Nat → Nat → Int) (s : Nat) (le pi ga : Int) : Int := 4 * lsz (le + Bn 0 s) (le + Bn 1 s) + lsz (pi + Bn 2 s) (pi + Bn 3 s) - ga - Bn 4 s
def BnOK (P : Nat → Nat → Int) (S n : Nat) (Bn : Nat → Nat → Int) : Prop :=
  (Bn 0 S = 0 ∧ Bn 1 S = 0 ∧ Bn 2 S = 0 ∧ Bn 3 S = 0 ∧ Bn 4 S = 0) ∧ (∀ s, s ≤ S → Bn 0 s ≤ Bn 1 s ∧ Bn 2 s ≤ Bn 3 s) ∧ ∀ s, s < S → ∀ m, m < n → (Bn 0 s ≤ Bn 0 (s + 1) + (if s % 2 = 0 then P 0 m else -P 0 m) ∧ Bn 1 (s + 1) + (if s % 2 = 0 then P 0 m else -P 0 m) ≤ Bn 1 s ∧ Bn 2 s ≤ Bn 2 (s + 1) + P 0 m * P 3 s ∧ Bn 3 (s + 1) + P 0 m * P 3 s ≤ Bn 3 s ∧ ∀ c, c < n → Bn 4 (s + 1) + gaI P s m c ≤ Bn 4 s)
theorem bd_m {P : Nat → Nat → Int} {S n : Nat} {Bn : Nat → Nat → Int} (h : BnOK P S n Bn) {s m c : Nat} (hs : s < S) (hm : m < n) (hc : c < n) (le pi ga : Int) : bdS Bn s le pi ga ≤ bdS Bn (s + 1) (le + (if s % 2 = 0 then P 0 m else -P 0 m)) (pi + P 0 m * P 3 s) (ga + gaI P s m c) := by
  obtain ⟨a, b, e, f, g⟩ := h.2.2 s hs m hm
  have o := h.2.1 (s + 1) hs
  have g := g c hc
  unfold bdS
  generalize (if s % 2 = 0 then P 0 m else -P 0 m) = u at *
  generalize P 0 m * P 3 s = v at *
  generalize gaI P s m c = w at *
  have x := lsz_m (lo := le + Bn 0 s) (hi := le + Bn 1 s) (lo2 := le + u + Bn 0 (s + 1)) (hi2 := le + u + Bn 1 (s + 1)) (by omega) (by omega) (by omega)
  have y := lsz_m (lo := pi + Bn 2 s) (hi := pi + Bn 3 s) (lo2 := pi + v + Bn 2 (s + 1)) (hi2 := pi + v + Bn 3 (s + 1)) (by omega) (by omega) (by omega)
  omega
theorem leS_u {P : Nat → Nat → Int} {ch : Nat → Nat} {s m : Nat} : leS P (upN ch s m) (s + 1) = leS P ch s + (if s % 2 = 0 then P 0 m else -P 0 m) := by
  show sm _ s + (if s % 2 = 0 then P 0 (upN ch s m s) else -P 0 (upN ch s m s)) = _
  rw [upN_e]
  congr 1
  exact sm_k s (fun i hi => by rw [upN_n (by omega)])
theorem piS_u {P : Nat → Nat → Int} {ch : Nat → Nat} {s m : Nat} : piS P (upN ch s m) (s + 1) = piS P ch s + P 0 m * P 3 s := by
  show P 5 0 + (sm _ s + P 0 (upN ch s m s) * P 3 s) = _
  rw [upN_e, ← Int.add_assoc]
  congr 2
  exact sm_k s (fun i hi => by rw [upN_n (by omega)])
theorem gaS_u {P : Nat → Nat → Int} {ch : Nat → Nat} {s m : Nat} : gaS P (upN ch s m) (s + 1) = gaS P ch s + gaI P s m (upN ch s m (s - 1)) := by
  show sm _ s + gaI P s (upN ch s m s) (upN ch s m (s - 1)) = _
  rw [upN_e]
  congr 1
  exact sm_k s (fun i hi => by rw [upN_n (by omega), upN_n (by omega)])
theorem lpm_id {β : Type} {f : Nat → β → β} {b : β} {N : Nat} (h : ∀ m, m < N → f m b = b) : ∀ (c m : Nat), m + c ≤ N → lpm f c m b = b := by
  intro c
  induction c with
  | zero => intro m _; rfl
  | succ c ih =>
    intro m hm
    show lpm f c (m + 1) (f m b) = b
    rw [h m (by omega)]
    exact ih _ (by omega)
theorem FS_prune {P : Nat → Nat → Int} {S n : Nat} {Bn : Nat → Nat → Int} (h : BnOK P S n Bn) {B : Bool × Int × (Nat → Nat)} (hB : B.1 = true) : ∀ (k s : Nat) (ch : Nat → Nat), s + k = S → (∀ i, i < s → ch i < n) → B.2.1 ≤ bdS Bn s (leS P ch s) (piS P ch s) (gaS P ch s) → FS P S n k s ch B = B := by
  intro k
  induction k with
  | zero =>
    intro s ch hs _ hb
    have hs : s = S := by omega
    subst hs
    show upb B (tlt P s ch) ch = B
    unfold upb
    refine if_pos ⟨hB, ?_⟩
    unfold bdS at hb
    obtain ⟨⟨z0, z1, z2, z3, z4⟩, _⟩ := h
    rw [z0, z1, z2, z3, z4, Int.add_zero, Int.add_zero, lsz_ab, lsz_ab] at hb
    unfold tlt
    omega
  | succ k ih =>
    intro s ch hs hch hb
    show lpm _ n 0 B = B
    refine lpm_id (N := n) (fun m hm => ?_) n 0 (by omega)
    by_cases ok : okS P s m ch
    · show @ite _ (okS P s m ch) (Classical.propDecidable _) _ _ = B
      rw [if_pos ok]
      refine ih (s + 1) _ (by omega) (fun i hi => ?_) ?_
      · by_cases hi2 : i = s
        · rw [hi2, upN_e]; exact hm
        · rw [upN_n hi2]; exact hch i (by omega)
      · rw [leS_u, piS_u, gaS_u]
        refine Int.le_trans hb (bd_m h (by omega) hm ?_ _ _ _)
        by_cases h0 : s = 0
        · subst h0
          rw [show (0 - 1 : Nat) = 0 from rfl, upN_e]; exact hm
        · rw [upN_n (by omega)]; exact hch _ (by omega)
    · exact if_neg ok
def Ld (d : DD) (P : Nat → Nat → Int) (S n : Nat) (Bn : Nat → Nat → Int) : Prop :=
  (S ≤ 8 ∧ n ≤ 8 ∧ (d 10 2).toInt = (S : Int) ∧ (d 10 3).toInt = (n : Int)) ∧
  (∀ m, m < n → ((d 11 m).toInt = P 0 m ∧ (d 12 m).toInt = P 1 m ∧ (d 13 m).toInt = P 2 m ∧ ∀ c, c < n → (b32 (d 14 m) c = true ↔ P (10 + m) c = 1))) ∧
  (∀ s, s < S → ((d 15 s).toInt = P 3 s ∧ (d 16 s).toInt = P 4 s)) ∧
  (∀ s, s ≤ S → ((d 19 s).toInt = Bn 0 s ∧ (d 20 s).toInt = Bn 1 s ∧ (d 21 s).toInt = Bn 2 s ∧ (d 22 s).toInt = Bn 3 s ∧ (d 23 s).toInt = Bn 4 s)) ∧
  (∀ s, s ≤ S → ∀ t, t < 5 → -100000 ≤ Bn t s ∧ Bn t s ≤ 100000) ∧
  ((-100000 ≤ P 5 0 ∧ P 5 0 ≤ 100000) ∧ ∀ m, m < n → (0 ≤ P 0 m ∧ P 0 m ≤ 150) ∧ ∀ s, s < S → (0 ≤ P 1 m * P 4 s ∧ P 1 m * P 4 s ≤ 1000) ∧ (-1000 ≤ P 0 m * P 3 s ∧ P 0 m * P 3 s ≤ 1000))
def Fr6 (s : Nat) (d dz : DD) : Prop := Inv dz ∧ (∀ i, i ≠ 10 → i ≠ 17 → i ≠ 18 → dz i = d i) ∧ (∀ j, j ≠ 0 → j ≠ 1 → dz 10 j = d 10 j) ∧ ∀ i, i < s → dz 17 i = d 17 i
theorem Fr6.rf {s : Nat} {d : DD} (h : Inv d) : Fr6 s d d := ⟨h, fun _ _ _ _ => rfl, fun _ _ _ => rfl, fun _ _ => rfl⟩
theorem Fr6.tr {s t : Nat} {d d1 d2 : DD} (h1 : Fr6 s d d1) (h2 : Fr6 t d1 d2) (hst : s ≤ t) : Fr6 s d d2 :=
  ⟨h2.1, fun i a b c => (h2.2.1 i a b c).trans (h1.2.1 i a b c), fun j a b => (h2.2.2.1 j a b).trans (h1.2.2.1 j a b), fun i hi => (h2.2.2.2 i (by omega)).trans (h1.2.2.2 i hi)⟩
theorem Ld.fr {d dz : DD} {P : Nat → Nat → Int} {S n s : Nat} {Bn : Nat → Nat → Int} (h : Ld d P S n Bn) (f : Fr6 s d dz) : Ld dz P S n Bn := by
  obtain ⟨a, b, c, e, g⟩ := h
  have r : ∀ i, i ≠ 10 → i ≠ 17 → i ≠ 18 → dz i = d i := f.2.1
  unfold Ld
  rw [f.2.2.1 2 (by omega) (by omega), f.2.2.1 3 (by omega) (by omega), r 11 (by omega) (by omega) (by omega), r 12 (by omega) (by omega) (by omega), r 13 (by omega) (by omega) (by omega), r 14 (by omega) (by omega) (by omega), r 15 (by omega) (by omega) (by omega), r 16 (by omega) (by omega) (by omega), r 19 (by omega) (by omega) (by omega), r 20 (by omega) (by omega) (by omega), r 21 (by omega) (by omega) (by omega), r 22 (by omega) (by omega) (by omega), r 23 (by omega) (by omega) (by omega)]
  exact ⟨a, b, c, e, g⟩
def BS (d : DD) (S : Nat) (B : Bool × Int × (Nat → Nat)) : Prop := (B.1 = false ∧ d 10 1 = 0) ∨ (B.1 = true ∧ d 10 1 = 1 ∧ (d 10 0).toInt = B.2.1 ∧ ∀ i, i < S → (d 18 i).toInt = (B.2.2 i : Int))
theorem fn_X6_leastSize {n : Nat} {x0 x1 : Int32} {p q : Int} (h0 : x0.toInt = p) (h1 : x1.toInt = q) (b : -2147483648 < q) {d : DD} {dl : LL} {Q : Int32 → DD → LL → Prop} (hQ : ∀ r : Int32, r.toInt = lsz p q → Q r d dl) : F_X6_leastSize n x0 x1 d dl Q := by
  have bq := i_rg x1
  rw [h1] at bq
  refine ⟨fun g => ⟨fun g2 => hQ 0 ?_, fun g2 => hQ _ ?_⟩, fun g => hQ _ ?_⟩
  · have g : p ≤ 0 := (i_le h0 (rfl : (0 : Int32).toInt = 0)).mp g
    have g2 : 0 ≤ q := (i_le (rfl : (0 : Int32).toInt = 0) h1).mp g2
    unfold lsz
    rw [if_neg (by omega), if_neg (by omega)]
    rfl
  · have g : p ≤ 0 := (i_le h0 (rfl : (0 : Int32).toInt = 0)).mp g
    have g2 : ¬ 0 ≤ q := fun w => g2 ((i_le (rfl : (0 : Int32).toInt = 0) h1).mpr w)
    unfold lsz
    rw [if_neg (by omega), if_pos (by omega)]
    exact ti_neg h1 (by omega) (by omega)
  · have g : ¬ p ≤ 0 := fun w => g ((i_le h0 (rfl : (0 : Int32).toInt = 0)).mpr w)
    unfold lsz
    rw [if_pos (by omega)]
    exact h0
theorem lsz_in {p q : Int} (h1 : -1000000 ≤ p) (h2 : p ≤ 1000000) (h3 : -1000000 ≤ q) (h4 : q ≤ 1000000) : 0 ≤ lsz p q ∧ lsz p q ≤ 1000000 := by
  unfold lsz
  repeat' split
  all_goals omega
theorem fn_X6_leastFrom {n : Nat} {x1 x2 x3 x4 : Int32} {d : DD} {dl : LL} {P : Nat → Nat → Int} {S nn s : Nat} {Bn : Nat → Nat → Int} (h : Ld d P S nn Bn) (h1 : x1.toInt = (s : Int)) (hs : s ≤ S) {le pi ga : Int} (h2 : x2.toInt = le) (h3 : x3.toInt = pi) (h4 : x4.toInt = ga) (c2 : -100000 ≤ le ∧ le ≤ 100000) (c3 : -200000 ≤ pi ∧ pi ≤ 200000) (c4 : -100000 ≤ ga ∧ ga ≤ 100000) {Q : Int32 → DD → LL → Prop} (hQ : ∀ r : Int32, r.toInt = bdS Bn s le pi ga → Q r d dl) : F_X6_leastFrom n x1 x2 x3 x4 d dl Q := by
  obtain ⟨⟨s8, _, _, _⟩, _, _, hb, hr, _⟩ := h
  obtain ⟨b0, b1, b2, b3, b4⟩ := hb s hs
  have r0 := hr s hs 0 (by omega)
  have r1 := hr s hs 1 (by omega)
  have r2 := hr s hs 2 (by omega)
  have r3 := hr s hs 3 (by omega)
  have r4 := hr s hs 4 (by omega)
  have i1 : vp_in x1 9 := vin h1 (by omega) (by omega)
  have hx := at_n h1
  refine ⟨i1, i1, ?_⟩
  rw [hx]
  have t0 : (x2 + d 19 s).toInt = le + Bn 0 s := ti_add h2 b0 (by omega) (by omega)
  have t1 : (x2 + d 20 s).toInt = le + Bn 1 s := ti_add h2 b1 (by omega) (by omega)
  have t2 : (x3 + d 21 s).toInt = pi + Bn 2 s := ti_add h3 b2 (by omega) (by omega)
  have t3 : (x3 + d 22 s).toInt = pi + Bn 3 s := ti_add h3 b3 (by omega) (by omega)
  have l0 := lsz_in (p := le + Bn 0 s) (q := le + Bn 1 s) (by omega) (by omega) (by omega) (by omega)
  have l1 := lsz_in (p := pi + Bn 2 s) (q := pi + Bn 3 s) (by omega) (by omega) (by omega) (by omega)
  refine fn_X6_leastSize t0 t1 (by omega) (fun a ha => ⟨i1, i1, fn_X6_leastSize t2 t3 (by omega) (fun b hb => ⟨i1, hQ _ ?_⟩)⟩)
  have t : (((((4 : Int32) * a) + b) - x4) - (d 23 s)).toInt = 4 * lsz (le + Bn 0 s) (le + Bn 1 s) + lsz (pi + Bn 2 s) (pi + Bn 3 s) - ga - Bn 4 s := ti_sub (ti_sub (ti_add (ti_mul (rfl : (4 : Int32).toInt = 4) ha (by omega) (by omega)) hb (by omega) (by omega)) h4 (by omega) (by omega)) b4 (by omega) (by omega)
  exact t
theorem fn_X6_gainOf {n : Nat} {x1 x2 : Int32} {d : DD} {dl : LL} {P : Nat → Nat → Int} {S nn s m c : Nat} {Bn : Nat → Nat → Int} (h : Ld d P S nn Bn) (h1 : x1.toInt = (s : Int)) (hs : s < S) (h2 : x2.toInt = (m : Int)) (hm : m < nn) (hc : c < nn) (h17 : 1 ≤ s → (d 17 (s - 1)).toInt = (c : Int)) {Q : Int32 → DD → LL → Prop} (hQ : ∀ r : Int32, r.toInt = gaI P s m c → Q r d dl) : F_X6_gainOf n x1 x2 d dl Q := by
  obtain ⟨⟨s8, n8, _, _⟩, hmm, hss, _, _, _, hp⟩ := h
  obtain ⟨_, w1, _, w3⟩ := hmm m hm
  obtain ⟨_, v1⟩ := hss s hs
  have pb := ((hp m hm).2 s hs).1
  have i2 : vp_in x2 8 := vin h2 (by omega) (by omega)
  have i1 : vp_in x1 8 := vin h1 (by omega) (by omega)
  have e1 := at_n h1
  have e2 := at_n h2
  have tr : (irem x1 2).toInt = (s : Int) % 2 := ti_rem h1 (rfl : (2 : Int32).toInt = 2) (by omega) (by omega)
  refine ⟨i2, i1, fun v3 e3 => ?_⟩
  rw [e1, e2] at e3
  have t3 : v3.toInt = P 1 m * P 4 s := by rw [e3]; exact ti_mul w1 v1 (by omega) (by omega)
  have no : (¬ (s % 2 = 1 ∧ P (10 + m) c = 1)) → b_X6_gainOf_45 n Q v3 d dl := by
    intro g
    refine ⟨fun _ => hQ v3 ?_, fun w => absurd rfl w⟩
    unfold gaI
    rw [if_neg g, t3]
    omega
  refine ⟨fun g => ?_, fun g => ?_⟩
  · have g : ¬ (s : Int) % 2 = 1 := fun w => g ((i_eq tr (rfl : (1 : Int32).toInt = 1)).mpr w)
    exact no (fun w => g (by have := w.1; omega))
  · have g : (s : Int) % 2 = 1 := (i_eq tr (rfl : (1 : Int32).toInt = 1)).mp g
    have h17 := h17 (by omega)
    have ts : (x1 - 1).toInt = (s : Int) - 1 := ti_sub h1 (rfl : (1 : Int32).toInt = 1) (by omega) (by omega)
    have es : (x1 - 1).toNatClampNeg = s - 1 := by rw [clampI ts]; omega
    rw [e2, es]
    have fr := b32_read (m := d 14 m) (x := d 17 (s - 1)) (by omega) (by omega)
    have ec := at_n h17
    rw [ec] at fr
    refine ⟨i2, vin ts (by omega) (by omega), fun g2 => no (fun w => ?_), fun g2 => ?_⟩
    · have := (w3 c hc).mpr w.2
      rw [fr.mp g2] at this
      exact absurd this (by decide)
    · have fm : P (10 + m) c = 1 := by
        apply (w3 c hc).mp
        cases hb : b32 (d 14 m) c
        · exact absurd (fr.mpr hb) g2
        · rfl
      refine ⟨fun w => absurd w (by decide), fun _ => hQ _ ?_⟩
      unfold gaI
      rw [if_pos ⟨by omega, fm⟩]
      exact ti_add t3 (rfl : (20 : Int32).toInt = 20) (by omega) (by omega)
theorem fb_X6_keepChosen_12 {n : Nat} {Q : DD → LL → Prop} {dl : LL} {S : Nat} (hS : S ≤ 8) : ∀ (j : Nat) (x2 : Int32) (d : DD), Inv d → (d 10 2).toInt = (S : Int) → 0 ≤ x2.toInt → x2.toInt ≤ (S : Int) → (∀ i : Nat, (i : Int) < x2.toInt → d 18 i = d 17 i) → 9 ≤ x2.toInt + (j : Int) → (∀ dz : DD, Inv dz → (∀ i, i ≠ 18 → dz i = d i) → (∀ i, i < S → dz 18 i = d 17 i) → Q dz dl) → b_X6_keepChosen_12 n Q j x2 d dl := by
  intro j
  induction j with
  | zero =>
    intro x2 d hI h2 h0 h1 hno hm hQ
    exfalso
    omega
  | succ j hK =>
    intro x2 d hI h2 h0 h1 hno hm hQ
    show _ ∧ _
    have hx : x2.toNatClampNeg = x2.toInt.toNat := rfl
    refine ⟨fun h => ?_, fun h => ?_⟩
    · have h : (S : Int) ≤ x2.toInt := (i_le h2 rfl).mp h
      exact hQ d hI (fun _ _ => rfl) (fun i hi => hno i (by omega))
    · have h : ¬ (S : Int) ≤ x2.toInt := fun q => h ((i_le h2 rfl).mpr q)
      have t : (x2 + 1).toInt = x2.toInt + 1 := ti_add rfl (rfl : (1 : Int32).toInt = 1) (by omega) (by omega)
      have hi : vp_in x2 8 := vin rfl (by omega) (by omega)
      refine ⟨hi, hi, fun d6 e6 => ?_⟩
      have mv := iv_17 hI x2.toNatClampNeg
      have s : StP pN d dl d6 dl := by rw [e6]; exact pw_18 (StP.rf hI) mv.1 mv.2 rfl
      have r6 : ∀ i, i ≠ 18 → d6 i = d i := fun i hi => by rw [e6, u2_row hi]
      refine hK _ _ s.1 (by rw [r6 10 (by omega)]; exact h2) (by omega) (by omega) (fun i hi => ?_) (by omega) (fun dz iz f1 f2 => hQ dz iz (fun i hi => (f1 i hi).trans (r6 i hi)) (fun i hi => by rw [f2 i hi, r6 17 (by omega)]))
      rw [r6 17 (by omega)]
      by_cases hi2 : i = x2.toNatClampNeg
      · rw [hi2, e6, u2_eq]
      · rw [e6, u2_ne (Or.inr hi2)]
        exact hno i (by omega)
theorem fn_X6_keepChosen {n : Nat} (hn : 1000000000 ≤ n) {x1 : Int32} {d : DD} {dl : LL} {S : Nat} (hS : S ≤ 8) (hI : Inv d) (h2 : (d 10 2).toInt = (S : Int)) {Q : DD → LL → Prop} (hQ : ∀ dz : DD, Fr6 S d dz → dz 10 1 = 1 → dz 10 0 = x1 → (∀ i, i < S → dz 18 i = d 17 i) → Q dz dl) : F_X6_keepChosen n x1 d dl Q := by
  intro d1 e1 d2 e2
  have s1 : StP pN d dl d1 dl := by rw [e1]; exact pw_10_1 (StP.rf hI) (by decide) (by decide) rfl
  have s2 : StP pN d dl d2 dl := by rw [e2]; exact pw_10_0 s1 rfl
  refine fb_X6_keepChosen_12 hS n 0 d2 s2.1 (by rw [e2, u2_ne (Or.inr (by omega)), e1, u2_ne (Or.inr (by omega))]; exact h2) (show (0 : Int) ≤ 0 by omega) (show (0 : Int) ≤ (S : Int) by omega) (fun l hl => absurd (show (l : Int) < 0 from hl) (by omega)) (show (9 : Int) ≤ 0 + (n : Int) by omega) (fun dz iz f1 f2 => hQ dz ⟨iz, fun i a b c => ?_, fun j a b => ?_, fun i hi => ?_⟩ ?_ ?_ (fun i hi => ?_))
  · rw [f1 i c, e2, u2_row a, e1, u2_row a]
  · rw [f1 10 (by omega), e2, u2_ne (Or.inr a), e1, u2_ne (Or.inr b)]
  · rw [f1 17 (by omega), e2, u2_row (by omega), e1, u2_row (by omega)]
  · rw [f1 10 (by omega), e2, u2_ne (Or.inr (by omega)), e1, u2_eq]
  · rw [f1 10 (by omega), e2, u2_eq]
  · rw [f2 i hi, e2, u2_row (by omega), e1, u2_row (by omega)]
theorem sm_in {f : Nat → Int} {a b : Int} (ha : a ≤ 0) (hb : 0 ≤ b) : ∀ k : Nat, k ≤ 8 → (∀ i, i < k → a ≤ f i ∧ f i ≤ b) → 8 * a ≤ sm f k ∧ sm f k ≤ 8 * b := by
  have gen : ∀ k : Nat, (∀ i, i < k → a ≤ f i ∧ f i ≤ b) → (k : Int) * a ≤ sm f k ∧ sm f k ≤ (k : Int) * b := by
    intro k
    induction k with
    | zero =>
      intro _
      show ((0 : Nat) : Int) * a ≤ 0 ∧ 0 ≤ ((0 : Nat) : Int) * b
      simp
    | succ k ih =>
      intro h
      have i1 := ih (fun i hi => h i (by omega))
      have i2 := h k (by omega)
      show ((k + 1 : Nat) : Int) * a ≤ sm f k + f k ∧ sm f k + f k ≤ ((k + 1 : Nat) : Int) * b
      rw [show ((k + 1 : Nat) : Int) = (k : Int) + 1 by omega, Int.add_mul, Int.add_mul, Int.one_mul, Int.one_mul]
      generalize (k : Int) * a = u at *
      generalize (k : Int) * b = v at *
      omega
  intro k hk h
  have g := gen k h
  have c : k = 0 ∨ k = 1 ∨ k = 2 ∨ k = 3 ∨ k = 4 ∨ k = 5 ∨ k = 6 ∨ k = 7 ∨ k = 8 := by omega
  rcases c with rfl | rfl | rfl | rfl | rfl | rfl | rfl | rfl | rfl <;> omega
theorem leS_in {d : DD} {P : Nat → Nat → Int} {S n s : Nat} {Bn : Nat → Nat → Int} {ch : Nat → Nat} (h : Ld d P S n Bn) (hs : s ≤ S) (hc : ∀ i, i < s → ch i < n) : -1200 ≤ leS P ch s ∧ leS P ch s ≤ 1200 := by
  obtain ⟨⟨s8, _⟩, _, _, _, _, _, hp⟩ := h
  have := sm_in (f := fun i => if i % 2 = 0 then P 0 (ch i) else -P 0 (ch i)) (a := -150) (b := 150) (by omega) (by omega) s (by omega) (fun i hi => by
    have p := (hp (ch i) (hc i hi)).1
    show -150 ≤ (if i % 2 = 0 then P 0 (ch i) else -P 0 (ch i)) ∧ (if i % 2 = 0 then P 0 (ch i) else -P 0 (ch i)) ≤ 150
    split <;> omega)
  unfold leS
  omega
theorem piS_in {d : DD} {P : Nat → Nat → Int} {S n s : Nat} {Bn : Nat → Nat → Int} {ch : Nat → Nat} (h : Ld d P S n Bn) (hs : s ≤ S) (hc : ∀ i, i < s → ch i < n) : -110000 ≤ piS P ch s ∧ piS P ch s ≤ 110000 := by
  obtain ⟨⟨s8, _⟩, _, _, _, _, h5, hp⟩ := h
  have := sm_in (f := fun i => P 0 (ch i) * P 3 i) (a := -1000) (b := 1000) (by omega) (by omega) s (by omega) (fun i hi => ((hp (ch i) (hc i hi)).2 i (by omega)).2)
  unfold piS
  omega
theorem gaS_in {d : DD} {P : Nat → Nat → Int} {S n s : Nat} {Bn : Nat → Nat → Int} {ch : Nat → Nat} (h : Ld d P S n Bn) (hs : s ≤ S) (hc : ∀ i, i < s → ch i < n) : -100 ≤ gaS P ch s ∧ gaS P ch s ≤ 9000 := by
  obtain ⟨⟨s8, _⟩, _, _, _, _, _, hp⟩ := h
  have := sm_in (f := fun i => gaI P i (ch i) (ch (i - 1))) (a := 0) (b := 1020) (by omega) (by omega) s (by omega) (fun i hi => by
    have p := ((hp (ch i) (hc i hi)).2 i (by omega)).1
    show 0 ≤ gaI P i (ch i) (ch (i - 1)) ∧ gaI P i (ch i) (ch (i - 1)) ≤ 1020
    unfold gaI
    generalize P 1 (ch i) * P 4 i = u at *
    split <;> omega)
  unfold gaS
  omega
theorem ab_in {x : Int} (h1 : -1000000 ≤ x) (h2 : x ≤ 1000000) : 0 ≤ ab x ∧ ab x ≤ 1000000 := by unfold ab; split <;> omega
theorem lpm_s {β : Type} {f : Nat → β → β} {c m : Nat} {b : β} : lpm f (c + 1) m b = lpm f c (m + 1) (f m b) := rfl
noncomputable def fsm (P : Nat → Nat → Int) (S n k s : Nat) (ch : Nat → Nat) : Nat → Bool × Int × (Nat → Nat) → Bool × Int × (Nat → Nat) := fun m B => @ite _ (okS P s m ch) (Classical.propDecidable _) (FS P S n k (s + 1) (upN ch s m) B) B
theorem FS_s {P : Nat → Nat → Int} {S n k s : Nat} {ch : Nat → Nat} {B : Bool × Int × (Nat → Nat)} : FS P S n (k + 1) s ch B = lpm (fsm P S n k s ch) n 0 B := rfl
theorem fsm_y {P : Nat → Nat → Int} {S n k s m : Nat} {ch : Nat → Nat} {B : Bool × Int × (Nat → Nat)} (h : okS P s m ch) : fsm P S n k s ch m B = FS P S n k (s + 1) (upN ch s m) B := if_pos h
theorem fsm_n {P : Nat → Nat → Int} {S n k s m : Nat} {ch : Nat → Nat} {B : Bool × Int × (Nat → Nat)} (h : ¬ okS P s m ch) : fsm P S n k s ch m B = B := if_neg h
def FillOK (n : Nat) (P : Nat → Nat → Int) (S nn : Nat) (Bn : Nat → Nat → Int) (dl : LL) (k : Nat) : Prop := ∀ (s : Nat) (x1 x2 x3 x4 x5 : Int32) (ch : Nat → Nat) (B : Bool × Int × (Nat → Nat)) (d : DD) (Q : DD → LL → Prop), S < k + s → s ≤ S → Inv d → Ld d P S nn Bn → x1.toInt = (s : Int) → (∀ m, m < nn → (b32 x2 m = true ↔ ∃ i, i < s ∧ ch i = m)) → (∀ i, i < s → ch i < nn ∧ (d 17 i).toInt = (ch i : Int)) → x3.toInt = leS P ch s → x4.toInt = piS P ch s → x5.toInt = gaS P ch s → BS d S B → (∀ dz : DD, Fr6 s d dz → BS dz S (FS P S nn (S - s) s ch B) → Q dz dl) → F_X6_fillFrom n k x1 x2 x3 x4 x5 d dl Q
theorem fill_61 {n : Nat} (hn : 1000000000 ≤ n) {P : Nat → Nat → Int} {S nn : Nat} {Bn : Nat → Nat → Int} {dl : LL} {k : Nat} (ih : FillOK n P S nn Bn dl k) {s : Nat} {x1 x2 x3 x4 x5 x6 : Int32} {ch : Nat → Nat} {d : DD} {Q : DD → LL → Prop} (hk : S < k + 1 + s) (hs : s < S) (hI : Inv d) (hL : Ld d P S nn Bn) (h1 : x1.toInt = (s : Int)) (h6 : x6.toInt = (s : Int) % 2) (hu : ∀ m, m < nn → (b32 x2 m = true ↔ ∃ i, i < s ∧ ch i = m)) (hc : ∀ i, i < s → ch i < nn ∧ (d 17 i).toInt = (ch i : Int)) (h3 : x3.toInt = leS P ch s) (h4 : x4.toInt = piS P ch s) (h5 : x5.toInt = gaS P ch s) {T : Bool × Int × (Nat → Nat)} (hQ : ∀ dz : DD, Fr6 s d dz → BS dz S T → Q dz dl) : ∀ (j : Nat) (m : Nat) (x7 : Int32) (dw : DD) (B : Bool × Int × (Nat → Nat)), Fr6 s d dw → BS dw S B → x7.toInt = (m : Int) → m ≤ nn → T = lpm (fsm P S nn (S - s - 1) s ch) (nn - m) m B → 9 ≤ m + j → b_X6_fillFrom_61 n (F_X6_fillFrom n k) Q j x1 x2 x3 x4 x5 x6 x7 dw dl := by
  have hL0 := hL
  obtain ⟨⟨s8, n8, _, _⟩, hm11, hs15, _, _, _, hp⟩ := hL0
  intro j
  induction j with
  | zero =>
    intro m x7 dw B hF hB h7 hm hT hj
    exfalso
    omega
  | succ j hK =>
    intro m x7 dw B hF hB h7 hm hT hj
    show _ ∧ _
    have hLw : Ld dw P S nn Bn := hL.fr hF
    have hw := hLw.1
    have e7 := at_n h7
    have e1 := at_n h1
    refine ⟨fun h => ?_, fun h => ?_⟩
    · have h : (nn : Int) ≤ (m : Int) := (i_le hw.2.2.2 h7).mp h
      have hz : nn - m = 0 := by omega
      rw [hz] at hT
      exact hQ dw hF (by rw [hT]; exact hB)
    · have h : ¬ (nn : Int) ≤ (m : Int) := fun q => h ((i_le hw.2.2.2 h7).mpr q)
      have hmn : m < nn := by omega
      have t7 : (x7 + 1).toInt = ((m + 1 : Nat) : Int) := inc1 h7 (by omega)
      have hz : nn - m = (nn - (m + 1)) + 1 := by omega
      rw [hz, lpm_s] at hT
      have skip : ¬ okS P s m ch → b_X6_fillFrom_61 n (F_X6_fillFrom n k) Q j x1 x2 x3 x4 x5 x6 (x7 + 1) dw dl := by
        intro g
        rw [fsm_n g] at hT
        exact hK (m + 1) _ dw B hF hB t7 (by omega) hT (by omega)
      have fr := b32_read (m := x2) (x := x7) (by omega) (by omega)
      rw [e7] at fr
      have hum := hu m hmn
      have i7 : vp_in x7 8 := vin h7 (by omega) (by omega)
      have i1 : vp_in x1 8 := vin h1 (by omega) (by omega)
      obtain ⟨w11, _, w13, _⟩ := hLw.2.1 m hmn
      obtain ⟨w15, _⟩ := hLw.2.2.1 s hs
      have pm := hp m hmn
      have ts : ((1 : Int32) - x6).toInt = 1 - (s : Int) % 2 := ti_sub (rfl : (1 : Int32).toInt = 1) h6 (by omega) (by omega)
      refine ⟨fun g => skip (fun w => ?_), fun g => ⟨i7, ?_⟩⟩
      · cases hb : b32 x2 m
        · exact g (fr.mpr hb)
        · obtain ⟨i, hi, ei⟩ := hum.mp hb
          exact w.1 i hi ei
      · have g := fr.mp g
        rw [e7, e1]
        refine ⟨fun a => skip (fun w => ?_), fun a => ⟨i1, fun d9 e9 => ?_⟩⟩
        · have a : P 2 m = 1 - (s : Int) % 2 := (i_eq w13 ts).mp a
          exact w.2 (by rw [a]; omega)
        · have a : ¬ P 2 m = 1 - (s : Int) % 2 := fun q => a ((i_eq w13 ts).mpr q)
          have ok : okS P s m ch := ⟨fun i hi ei => by
            have := hum.mpr ⟨i, hi, ei⟩
            rw [g] at this
            exact absurd this (by decide), fun q => a (by rw [q]; omega)⟩
          rw [fsm_y ok] at hT
          have s9 : StP pN dw dl d9 dl := by rw [e9]; exact pw_17 (StP.rf hF.1) (by omega) (by omega) rfl
          have F9 : Fr6 s dw d9 := ⟨s9.1, fun i _ b _ => by rw [e9, u2_row b], fun j _ _ => by rw [e9, u2_row (by omega)], fun i hi => by rw [e9, u2_ne (Or.inr (by omega))]⟩
          have L9 : Ld d9 P S nn Bn := hLw.fr F9
          have B9' : BS d9 S B := by
            unfold BS
            rw [e9, u2_row (by omega), u2_row (by omega)]
            exact hB
          have c9 : ∀ i, i < s + 1 → upN ch s m i < nn ∧ (d9 17 i).toInt = (upN ch s m i : Int) := by
            intro i hi
            by_cases hi2 : i = s
            · rw [hi2, upN_e, e9, u2_eq]
              exact ⟨hmn, h7⟩
            · rw [upN_n hi2, e9, u2_ne (Or.inr hi2), hF.2.2.2 i (by omega)]
              exact hc i (by omega)
          have cl : upN ch s m (s - 1) < nn := (c9 (s - 1) (by omega)).1
          have bl := leS_in (ch := ch) hL (Nat.le_of_lt hs) (fun i hi => (hc i hi).1)
          have bp := piS_in (ch := ch) hL (Nat.le_of_lt hs) (fun i hi => (hc i hi).1)
          have bg := gaS_in (ch := ch) hL (Nat.le_of_lt hs) (fun i hi => (hc i hi).1)
          have r11 : (d9 11 m).toInt = P 0 m := (L9.2.1 m hmn).1
          have r15 : (d9 15 s).toInt = P 3 s := (L9.2.2.1 s hs).1
          have tn1 : (x1 + 1).toInt = ((s + 1 : Nat) : Int) := inc1 h1 (by omega)
          have go : ∀ xs0 : Int32, xs0.toInt = leS P (upN ch s m) (s + 1) → b_X6_fillFrom_137 n (F_X6_fillFrom n k) Q (b_X6_fillFrom_61 n (F_X6_fillFrom n k) Q j) x1 x2 x3 x4 x5 x6 x7 xs0 (x2 ||| ((1 : Int32) <<< (x7 &&& 31))) (x1 + 1) d9 dl := by
            intro xs0 hx0
            refine ⟨i7, i1, ?_⟩
            rw [e7, e1]
            refine fn_X6_gainOf L9 h1 hs h7 hmn cl (fun hs1 => (c9 (s - 1) (by omega)).2) (fun r14 hr14 => ?_)
            have pv := (pm.2 s hs).2
            have pg := (pm.2 s hs).1
            have tm : ((d9 11 m) * (d9 15 s)).toInt = P 0 m * P 3 s := ti_mul r11 r15 (by omega) (by omega)
            have gb : -1 ≤ gaI P s m (upN ch s m (s - 1)) ∧ gaI P s m (upN ch s m (s - 1)) ≤ 1020 := by
              unfold gaI
              generalize P 1 m * P 4 s = u at *
              split <;> omega
            refine ih (s + 1) _ _ _ _ _ (upN ch s m) B d9 _ (by omega) (by omega) F9.1 L9 tn1 (fun m2 hm2 => ?_) c9 hx0 (by rw [piS_u]; exact ti_add h4 tm (by omega) (by omega)) (by rw [gaS_u]; exact ti_add h5 hr14 (by omega) (by omega)) B9' (fun d18 F18 B18 => ?_)
            · rw [b32_or, b32_one (by omega) (by omega), e7, Bool.or_eq_true]
              constructor
              · intro q
                rcases q with q | q
                · obtain ⟨i, hi, ei⟩ := (hu m2 hm2).mp q
                  exact ⟨i, by omega, by rw [upN_n (by omega)]; exact ei⟩
                · have q := of_decide_eq_true q
                  exact ⟨s, by omega, by rw [upN_e, q]⟩
              · intro ⟨i, hi, ei⟩
                by_cases hi2 : i = s
                · rw [hi2, upN_e] at ei
                  exact Or.inr (decide_eq_true ei.symm)
                · rw [upN_n hi2] at ei
                  exact Or.inl ((hu m2 hm2).mpr ⟨i, by omega, ei⟩)
            · rw [show S - (s + 1) = S - s - 1 by omega] at B18
              exact hK (m + 1) _ d18 _ ((hF.tr F9 (Nat.le_refl _)).tr F18 (by omega)) B18 t7 (by omega) hT (by omega)
          refine ⟨fun b => ⟨i7, go _ ?_⟩, fun b => ⟨i7, go _ ?_⟩⟩
          · have b : ¬ (s : Int) % 2 = 0 := fun q => b ((i_eq h6 (rfl : (0 : Int32).toInt = 0)).mpr q)
            have pm1 := pm.1
            have t : (x3 - (d9 11 m)).toInt = leS P ch s - P 0 m := ti_sub h3 r11 (by omega) (by omega)
            rw [leS_u, if_neg (by omega), t]
            omega
          · have b : (s : Int) % 2 = 0 := (i_eq h6 (rfl : (0 : Int32).toInt = 0)).mp b
            rw [leS_u, if_pos (by omega)]
            have pm1 := pm.1
            exact ti_add h3 r11 (by omega) (by omega)
theorem fill_25 {n : Nat} (hn : 1000000000 ≤ n) {P : Nat → Nat → Int} {S nn : Nat} {Bn : Nat → Nat → Int} (hBn : BnOK P S nn Bn) {dl : LL} {k : Nat} (ih : FillOK n P S nn Bn dl k) {s : Nat} {x1 x2 x3 x4 x5 : Int32} {ch : Nat → Nat} {B : Bool × Int × (Nat → Nat)} {d : DD} {Q : DD → LL → Prop} (hk : S < k + 1 + s) (hs : s ≤ S) (hI : Inv d) (hL : Ld d P S nn Bn) (h1 : x1.toInt = (s : Int)) (hu : ∀ m, m < nn → (b32 x2 m = true ↔ ∃ i, i < s ∧ ch i = m)) (hc : ∀ i, i < s → ch i < nn ∧ (d 17 i).toInt = (ch i : Int)) (h3 : x3.toInt = leS P ch s) (h4 : x4.toInt = piS P ch s) (h5 : x5.toInt = gaS P ch s) (hB : BS d S B) (hup : ¬ (B.1 = true ∧ B.2.1 ≤ bdS Bn s (leS P ch s) (piS P ch s) (gaS P ch s))) (hQ : ∀ dz : DD, Fr6 s d dz → BS dz S (FS P S nn (S - s) s ch B) → Q dz dl) : b_X6_fillFrom_25 n (F_X6_fillFrom n k) Q x1 x2 x3 x4 x5 d dl := by
  have hw := hL.1
  have bl := leS_in (ch := ch) hL hs (fun i hi => (hc i hi).1)
  have bp := piS_in (ch := ch) hL hs (fun i hi => (hc i hi).1)
  have bg := gaS_in (ch := ch) hL hs (fun i hi => (hc i hi).1)
  refine ⟨fun h => ?_, fun h => ?_⟩
  · have h : (s : Int) < (S : Int) := (i_lt h1 hw.2.2.1).mp h
    intro v3 e3
    have t3 : v3.toInt = (s : Int) % 2 := by rw [e3]; exact ti_rem h1 (rfl : (2 : Int32).toInt = 2) (by omega) (by omega)
    refine fill_61 hn ih hk (by omega) hI hL h1 t3 hu hc h3 h4 h5 (T := FS P S nn (S - s) s ch B) hQ n 0 0 d B (Fr6.rf hI) hB rfl (Nat.zero_le _) ?_ (by omega)
    rw [show S - s = (S - s - 1) + 1 by omega, FS_s]
    rfl
  · have h : ¬ (s : Int) < (S : Int) := fun q => h ((i_lt h1 hw.2.2.1).mpr q)
    have hsS : s = S := by omega
    subst hsS
    have a3 := ti_abs h3 (by omega)
    have a4 := ti_abs h4 (by omega)
    have b3 := ab_in (x := leS P ch s) (by omega) (by omega)
    have b4 := ab_in (x := piS P ch s) (by omega) (by omega)
    have a3 : ((if 0 ≤ x3 then x3 else -x3) : Int32).toInt = ab (leS P ch s) := a3
    have a4 : ((if 0 ≤ x4 then x4 else -x4) : Int32).toInt = ab (piS P ch s) := a4
    refine fn_X6_keepChosen hn hw.1 hI hw.2.2.1 (fun dz F1 z1 z0 z8 => hQ dz F1 ?_)
    rw [Nat.sub_self]
    show BS dz s (upb B (tlt P s ch) ch)
    have tb : bdS Bn s (leS P ch s) (piS P ch s) (gaS P ch s) = tlt P s ch := by
      obtain ⟨⟨y0, y1, y2, y3, y4⟩, _⟩ := hBn
      unfold bdS tlt
      rw [y0, y1, y2, y3, y4, Int.add_zero, Int.add_zero, lsz_ab, lsz_ab]
      omega
    rw [tb] at hup
    unfold upb
    rw [if_neg hup]
    refine Or.inr ⟨rfl, z1, ?_, fun i hi => by rw [z8 i hi]; exact (hc i hi).2⟩
    have t : ((((4 : Int32) * (if 0 ≤ x3 then x3 else -x3)) + (if 0 ≤ x4 then x4 else -x4)) - x5).toInt = 4 * ab (leS P ch s) + ab (piS P ch s) - gaS P ch s := ti_sub (ti_add (ti_mul (rfl : (4 : Int32).toInt = 4) a3 (by omega) (by omega)) a4 (by omega) (by omega)) h5 (by omega) (by omega)
    rw [z0]
    exact t
theorem fill_all {n : Nat} (hn : 1000000000 ≤ n) {P : Nat → Nat → Int} {S nn : Nat} {Bn : Nat → Nat → Int} (hBn : BnOK P S nn Bn) {dl : LL} : ∀ k : Nat, FillOK n P S nn Bn dl k := by
  intro k
  induction k with
  | zero =>
    intro s x1 x2 x3 x4 x5 ch B d Q hk hs
    exfalso
    omega
  | succ k ih =>
    intro s x1 x2 x3 x4 x5 ch B d Q hk hs hI hL h1 hu hc h3 h4 h5 hB hQ
    have bl := leS_in (ch := ch) hL hs (fun i hi => (hc i hi).1)
    have bp := piS_in (ch := ch) hL hs (fun i hi => (hc i hi).1)
    have bg := gaS_in (ch := ch) hL hs (fun i hi => (hc i hi).1)
    show _ ∧ _
    refine ⟨fun h => ?_, fun h => ?_⟩
    · refine fill_25 hn hBn ih hk hs hI hL h1 hu hc h3 h4 h5 hB (fun w => ?_) hQ
      rcases hB with ⟨a, _⟩ | ⟨_, b, _⟩
      · exact absurd (a.symm.trans w.1) (by decide)
      · exact absurd (b.symm.trans h) (by decide)
    · rcases hB with ⟨_, b⟩ | ⟨b1, b2, b3, b4⟩
      · exact absurd b h
      have hB : BS d S B := Or.inr ⟨b1, b2, b3, b4⟩
      refine fn_X6_leastFrom hL h1 hs h3 h4 h5 (by omega) (by omega) (by omega) (fun r hr => ⟨fun g => ?_, fun g => ?_⟩)
      · have g : bdS Bn s (leS P ch s) (piS P ch s) (gaS P ch s) < B.2.1 := (i_lt hr b3).mp g
        exact fill_25 hn hBn ih hk hs hI hL h1 hu hc h3 h4 h5 hB (fun w => by have := w.2; omega) hQ
      · have g : ¬ bdS Bn s (leS P ch s) (piS P ch s) (gaS P ch s) < B.2.1 := fun q => g ((i_lt hr b3).mpr q)
        refine hQ d (Fr6.rf hI) ?_
        rw [FS_prune hBn b1 (S - s) s ch (by omega) (fun i hi => (hc i hi).1) (by omega)]
        exact hB
def PX (R D : Int) (mem : Nat → Nat) (w st ar : Nat → Int) (fr : Nat → Nat → Bool) : Nat → Nat → Int := fun i j =>
  if i = 0 then w (mem j) else if i = 1 then st (mem j) else if i = 2 then ar (mem j) else if i = 3 then 2 * ((j / 2 : Nat) : Int) - (R - 1) else if i = 4 then (if R - 1 - ((j / 2 : Nat) : Int) < ((j / 2 : Nat) : Int) then R - 1 - ((j / 2 : Nat) : Int) else ((j / 2 : Nat) : Int)) else if i = 5 then -R * D else if 10 ≤ i ∧ fr (mem (i - 10)) (mem j) = true then 1 else 0
def memA (d : DD) (k : Nat) : Nat → Nat := fun j => if j < 8 then (d (38 + 3 * k) j).toNatClampNeg else 0
def PA9 (d : DD) (dl : LL) (k : Nat) : Nat → Nat → Int := PX (d (37 + 3 * k) 0).toInt (d (37 + 3 * k) 1).toInt (memA d k) (fun p => (d 2 p).toInt) (fun p => (d 3 p).toInt) (fun p => (d 4 p).toInt) (fun a b => bt (dl 7 a) b)
theorem PX_fr {R D : Int} {mem : Nat → Nat} {w st ar : Nat → Int} {fr : Nat → Nat → Bool} {m c : Nat} : PX R D mem w st ar fr (10 + m) c = 1 ↔ fr (mem m) (mem c) = true := by
  unfold PX
  rw [if_neg (by omega), if_neg (by omega), if_neg (by omega), if_neg (by omega), if_neg (by omega), if_neg (by omega), show 10 + m - 10 = m by omega]
  by_cases h : fr (mem m) (mem c) = true
  · rw [if_pos ⟨by omega, h⟩]
    exact ⟨fun _ => h, fun _ => rfl⟩
  · rw [if_neg (fun w => h w.2)]
    exact ⟨fun w => absurd w (by decide), fun w => absurd w h⟩
def Mb (d0 d : DD) (dl : LL) (k x : Nat) : Prop := Inv d ∧ (∀ i, i ≠ 11 → i ≠ 12 → i ≠ 13 → i ≠ 14 → d i = d0 i) ∧ ∀ m, m < x → ((d 11 m).toInt = (d0 2 (memA d0 k m)).toInt ∧ (d 12 m).toInt = (d0 3 (memA d0 k m)).toInt ∧ (d 13 m).toInt = (d0 4 (memA d0 k m)).toInt ∧ ∀ c : Nat, (c : Int) < (d0 10 3).toInt → (b32 (d 14 m) c = true ↔ bt (dl 7 (memA d0 k m)) (memA d0 k c) = true))
theorem fb_X6_loadMembers_67 {n : Nat} {Q : DD → LL → Prop} {K2 : Nat → Int32 → DD → LL → Prop} {d0 : DD} {dl : LL} {k x : Nat} (hk : k < 6) {x3 x4 : Int32} (h3 : x3.toInt = (x : Int)) (hx8 : (x : Int) < (d0 10 3).toInt) (hm8 : (d0 10 3).toInt ≤ 8) (h4 : x4.toInt = ((memA d0 k x : Nat) : Int)) (hx40 : memA d0 k x < 40) (hK2 : ∀ d : DD, Mb d0 d dl k (x + 1) → K2 k (x3 + 1) d dl) : ∀ (j : Nat) (x5 : Int32) (d : DD), Mb d0 d dl k x → ((d 11 x).toInt = (d0 2 (memA d0 k x)).toInt ∧ (d 12 x).toInt = (d0 3 (memA d0 k x)).toInt ∧ (d 13 x).toInt = (d0 4 (memA d0 k x)).toInt) → 0 ≤ x5.toInt → x5.toInt ≤ 8 → (∀ c : Nat, c < 32 → (b32 (d 14 x) c = true ↔ ((c : Int) < x5.toInt ∧ bt (dl 7 (memA d0 k x)) (memA d0 k c) = true))) → 9 ≤ x5.toInt + (j : Int) → b_X6_loadMembers_67 n Q K2 j k x3 x4 x5 d dl := by
  intro j
  induction j with
  | zero =>
    intro x5 d hM hx h0 h1 hb hm
    exfalso
    omega
  | succ j hK =>
    intro x5 d hM hx h0 h1 hb hm
    show _ ∧ _
    have h5 : x5.toNatClampNeg = x5.toInt.toNat := rfl
    have e3 := at_n h3
    have r10 : d 10 3 = d0 10 3 := by rw [hM.2.1 10 (by omega) (by omega) (by omega) (by omega)]
    refine ⟨fun h => ?_, fun h => ?_⟩
    · have h : (d0 10 3).toInt ≤ x5.toInt := (i_le (by rw [r10]) rfl).mp h
      refine hK2 d ⟨hM.1, hM.2.1, fun m hmx => ?_⟩
      by_cases he : m = x
      · subst he
        refine ⟨hx.1, hx.2.1, hx.2.2, fun c hc => ?_⟩
        refine (hb c (by omega)).trans ⟨fun w => w.2, fun w => ⟨by omega, w⟩⟩
      · exact hM.2.2 m (by omega)
    · have h : ¬ (d0 10 3).toInt ≤ x5.toInt := fun q => h ((i_le (by rw [r10]) rfl).mpr q)
      have t : (x5 + 1).toInt = x5.toInt + 1 := ti_add rfl (rfl : (1 : Int32).toInt = 1) (by omega) (by omega)
      have i5 : vp_in x5 8 := vin rfl (by omega) (by omega)
      have i3 : vp_in x3 8 := vin h3 (by omega) (by omega)
      have em : d (38 + 3 * k) x5.toNatClampNeg = d0 (38 + 3 * k) x5.toNatClampNeg := by rw [hM.2.1 _ (by omega) (by omega) (by omega) (by omega)]
      have mm := iv_38 hM.1 hk x5.toNatClampNeg
      have ec : (d (38 + 3 * k) x5.toNatClampNeg).toNatClampNeg = memA d0 k x5.toNatClampNeg := by
        unfold memA
        rw [if_pos (by omega), em]
      refine ⟨i5, fn_X4_areFriends ⟨by omega, by omega⟩ ⟨by omega, by omega⟩ ?_⟩
      rw [at_n h4, ec]
      have nx : ¬ bt (dl 7 (memA d0 k x)) (memA d0 k x5.toNatClampNeg) = true → b_X6_loadMembers_67 n Q K2 j k x3 x4 (x5 + 1) d dl := by
        intro g
        refine hK _ _ hM hx (by omega) (by omega) (fun c hc => ?_) (by omega)
        refine (hb c hc).trans ⟨fun w => ⟨by have := w.1; omega, w.2⟩, fun w => ⟨?_, w.2⟩⟩
        by_cases hc2 : c = x5.toNatClampNeg
        · rw [hc2] at w
          exact absurd w.2 g
        · have := w.1
          omega
      refine ⟨fun h6 => nx (fun g => ?_), fun h6 => ⟨i3, i3, fun d23 e23 => ?_⟩⟩
      · rw [if_pos g] at h6
        exact absurd h6 (by decide)
      · have g : bt (dl 7 (memA d0 k x)) (memA d0 k x5.toNatClampNeg) = true := by
          cases hb2 : bt (dl 7 (memA d0 k x)) (memA d0 k x5.toNatClampNeg)
          · rw [hb2] at h6
            exact absurd rfl h6
          · rfl
        rw [e3] at e23
        have s23 : StP pN d dl d23 dl := by rw [e23]; exact pw_14 (StP.rf hM.1) rfl
        refine hK _ _ ⟨s23.1, fun i a b c e => by rw [e23, u2_row e]; exact hM.2.1 i a b c e, fun m hmx => ?_⟩ ?_ (by omega) (by omega) (fun c hc => ?_) (by omega)
        · rw [e23, u2_row (by omega), u2_row (by omega), u2_row (by omega), u2_ne (Or.inr (by omega))]
          exact hM.2.2 m hmx
        · rw [e23, u2_row (by omega), u2_row (by omega), u2_row (by omega)]
          exact hx
        · rw [e23, u2_eq, b32_or, b32_one (by omega) (by omega), Bool.or_eq_true]
          constructor
          · intro q
            rcases q with q | q
            · have := (hb c hc).mp q
              exact ⟨by have := this.1; omega, this.2⟩
            · have q := of_decide_eq_true q
              rw [q]
              exact ⟨by omega, g⟩
          · intro ⟨a, b⟩
            by_cases hc2 : c = x5.toNatClampNeg
            · exact Or.inr (decide_eq_true hc2)
            · exact Or.inl ((hb c hc).mpr ⟨by omega, b⟩)
theorem fb_X6_loadMembers_2 {n : Nat} (hn : 1000000000 ≤ n) {Q : DD → LL → Prop} {d0 : DD} {dl : LL} {k : Nat} (hk : k < 6) (hm8 : (d0 10 3).toInt ≤ 8) (hQ : ∀ d : DD, Mb d0 d dl k (d0 10 3).toNatClampNeg → Q d dl) : ∀ (j : Nat) (x : Nat) (x3 : Int32) (d : DD), Mb d0 d dl k x → x3.toInt = (x : Int) → (x : Int) ≤ (d0 10 3).toInt → 9 ≤ x + j → b_X6_loadMembers_2 n Q j k x3 d dl := by
  intro j
  induction j with
  | zero =>
    intro x x3 d hM h3 hx hm
    exfalso
    omega
  | succ j hK =>
    intro x x3 d hM h3 hx hm
    show _ ∧ _
    have e3 := at_n h3
    have r10 : d 10 3 = d0 10 3 := by rw [hM.2.1 10 (by omega) (by omega) (by omega) (by omega)]
    have hn3 : (d0 10 3).toNatClampNeg = (d0 10 3).toInt.toNat := rfl
    refine ⟨fun h => ?_, fun h => ?_⟩
    · have h : (d0 10 3).toInt ≤ (x : Int) := (i_le (by rw [r10]) h3).mp h
      exact hQ d (by rw [show (d0 10 3).toNatClampNeg = x by omega]; exact hM)
    · have h : ¬ (d0 10 3).toInt ≤ (x : Int) := fun q => h ((i_le (by rw [r10]) h3).mpr q)
      have i3 : vp_in x3 8 := vin h3 (by omega) (by omega)
      have mm := iv_38 hM.1 hk x
      have rr : ∀ i, i ≠ 11 → i ≠ 12 → i ≠ 13 → i ≠ 14 → d i = d0 i := hM.2.1
      rw [e3]
      refine ⟨i3, fun v3 ev => ?_⟩
      have hv : v3.toNatClampNeg = memA d0 k x := by
        unfold memA
        rw [if_pos (by omega), ev, rr _ (by omega) (by omega) (by omega) (by omega)]
      rw [← ev] at mm
      have hv2 : v3.toNatClampNeg = v3.toInt.toNat := rfl
      have iv : vp_in v3 40 := vin rfl (by omega) (by omega)
      rw [hv]
      refine ⟨iv, i3, fun d6 e6 => ⟨iv, i3, fun d9 e9 => ⟨iv, i3, fun d12 e12 => ⟨i3, fun d14 e14 => ?_⟩⟩⟩⟩
      have a2 := iv_2 hM.1 (memA d0 k x)
      have s6 : StP pN d dl d6 dl := by rw [e6]; exact pw_11 (StP.rf hM.1) rfl
      have s9 : StP pN d dl d9 dl := by rw [e9]; exact pw_12 s6 rfl
      have s12 : StP pN d dl d12 dl := by rw [e12]; exact pw_13 s9 rfl
      have s14 : StP pN d dl d14 dl := by rw [e14]; exact pw_14 s12 rfl
      have k11 : d14 11 = upd (d 11) x (d 2 (memA d0 k x)) := by rw [e14, u2_row (by omega), e12, u2_row (by omega), e9, u2_row (by omega), e6, u2_own]
      have k12 : d14 12 = upd (d 12) x (d 3 (memA d0 k x)) := by rw [e14, u2_row (by omega), e12, u2_row (by omega), e9, u2_own, e6, u2_row (by omega), u2_row (by omega)]
      have k13 : d14 13 = upd (d 13) x (d 4 (memA d0 k x)) := by rw [e14, u2_row (by omega), e12, u2_own, e9, u2_row (by omega), u2_row (by omega), e6, u2_row (by omega), u2_row (by omega)]
      have k14 : d14 14 = upd (d 14) x 0 := by rw [e14, u2_own, e12, u2_row (by omega), e9, u2_row (by omega), e6, u2_row (by omega)]
      have ko : ∀ i, i ≠ 11 → i ≠ 12 → i ≠ 13 → i ≠ 14 → d14 i = d0 i := fun i a b c e => by rw [e14, u2_row e, e12, u2_row c, e9, u2_row b, e6, u2_row a]; exact rr i a b c e
      refine fb_X6_loadMembers_67 hk h3 (by omega) hm8 (by omega) (by omega) (fun dz Mz => hK (x + 1) _ dz Mz (inc1 h3 (by omega)) (by omega) (by omega)) n 0 d14 ⟨s14.1, ko, fun m hmx => ?_⟩ ?_ (show (0 : Int) ≤ 0 by omega) (show (0 : Int) ≤ 8 by omega) (fun c hc => ?_) (show (9 : Int) ≤ 0 + (n : Int) by omega)
      · rw [k11, k12, k13, k14]
        have u : ∀ (f : Nat → Int32) (v : Int32), upd f x v m = f m := fun f v => by simp [upd, show ¬ m = x by omega]
        rw [u, u, u, u]
        exact hM.2.2 m hmx
      · have u : ∀ (f : Nat → Int32) (v : Int32), upd f x v x = v := fun f v => by simp [upd]
        rw [k11, k12, k13, u, u, u, rr 2 (by omega) (by omega) (by omega) (by omega), rr 3 (by omega) (by omega) (by omega) (by omega), rr 4 (by omega) (by omega) (by omega) (by omega)]
        exact ⟨rfl, rfl, rfl⟩
      · have u : upd (d 14) x (0 : Int32) x = 0 := by simp [upd]
        rw [k14, u, b32_zero]
        exact ⟨fun w => absurd w (by decide), fun w => by have : (c : Int) < 0 := w.1; omega⟩
def pfR (R : Int) (s : Nat) : Int := 2 * ((s / 2 : Nat) : Int) - (R - 1)
def mfR (R : Int) (s : Nat) : Int := if R - 1 - ((s / 2 : Nat) : Int) < ((s / 2 : Nat) : Int) then R - 1 - ((s / 2 : Nat) : Int) else ((s / 2 : Nat) : Int)
theorem pf_c {R : Int} {s : Nat} (h1 : 2 ≤ R) (h2 : R ≤ 4) (h3 : (s : Int) < 2 * R) : pfR R s = -3 ∨ pfR R s = -2 ∨ pfR R s = -1 ∨ pfR R s = 0 ∨ pfR R s = 1 ∨ pfR R s = 2 ∨ pfR R s = 3 := by unfold pfR; omega
theorem mf_c {R : Int} {s : Nat} (h1 : 2 ≤ R) (h2 : R ≤ 4) (h3 : (s : Int) < 2 * R) : mfR R s = 0 ∨ mfR R s = 1 := by unfold mfR; split <;> omega
def Bq (lo hi st bo : Int) (R : Int) (d : DD) (s : Nat) : Prop :=
  (d 15 s).toInt = pfR R s ∧ (d 16 s).toInt = mfR R s ∧ (d 19 s).toInt = (d 19 (s + 1)).toInt + (if s % 2 = 0 then lo else -hi) ∧ (d 20 s).toInt = (d 20 (s + 1)).toInt + (if s % 2 = 0 then hi else -lo) ∧ (d 21 s).toInt = (d 21 (s + 1)).toInt + pfR R s * (if pfR R s < 0 then hi else lo) ∧ (d 22 s).toInt = (d 22 (s + 1)).toInt + pfR R s * (if pfR R s < 0 then lo else hi) ∧ (d 23 s).toInt = (d 23 (s + 1)).toInt + st * mfR R s + (if s % 2 = 0 then 0 else bo)
def Bz (d : DD) (S : Nat) : Prop := (d 19 S).toInt = 0 ∧ (d 20 S).toInt = 0 ∧ (d 21 S).toInt = 0 ∧ (d 22 S).toInt = 0 ∧ (d 23 S).toInt = 0
def Br (d : DD) (s : Nat) : Prop := (-4000 ≤ (d 19 s).toInt ∧ (d 19 s).toInt ≤ 4000) ∧ (-4000 ≤ (d 20 s).toInt ∧ (d 20 s).toInt ≤ 4000) ∧ (-4000 ≤ (d 21 s).toInt ∧ (d 21 s).toInt ≤ 4000) ∧ (-4000 ≤ (d 22 s).toInt ∧ (d 22 s).toInt ≤ 4000) ∧ (-4000 ≤ (d 23 s).toInt ∧ (d 23 s).toInt ≤ 4000)
def Brk (d : DD) (s c : Nat) : Prop := ∀ t, 19 ≤ t → t ≤ 23 → -((c : Int) * 500) ≤ (d t s).toInt ∧ (d t s).toInt ≤ (c : Int) * 500
def FrB (d dz : DD) : Prop := ∀ i, i ≠ 15 → i ≠ 16 → i ≠ 19 → i ≠ 20 → i ≠ 21 → i ≠ 22 → i ≠ 23 → dz i = d i
theorem fb_X6_loadBounds_164 {n : Nat} {Q : DD → LL → Prop} {k : Nat} (hk : k < 6) {x2 x3 x4 x6 : Int32} {lo hi st bo R : Int} (h2 : x2.toInt = lo) (h3 : x3.toInt = hi) (h4 : x4.toInt = st) (h6 : x6.toInt = bo) (c2 : 0 ≤ lo ∧ lo ≤ 150) (c3 : 0 ≤ hi ∧ hi ≤ 150) (c4 : 0 ≤ st ∧ st ≤ 99) (c6 : bo = 0 ∨ bo = 20) (cR : 2 ≤ R ∧ R ≤ 4) {d0 : DD} {dl : LL} (hR : (d0 (37 + 3 * k) 0).toInt = R) {S : Nat} (hS : (S : Int) = 2 * R) (hQ : ∀ dz : DD, Inv dz → FrB d0 dz → Bz dz S → (∀ s, s < S → Bq lo hi st bo R dz s) → (∀ s, s ≤ S → Brk dz s (S - s)) → Q dz dl) : ∀ (j : Nat) (x : Nat) (x7 : Int32) (d : DD), x7.toInt = (x : Int) - 1 → x ≤ S → Inv d → FrB d0 d → Bz d S → (∀ s, x ≤ s → s < S → Bq lo hi st bo R d s) → (∀ s, x ≤ s → s ≤ S → Brk d s (S - s)) → x < j → b_X6_loadBounds_164 n Q j k x2 x3 x4 x6 x7 d dl := by
  intro j
  induction j with
  | zero =>
    intro x x7 d h7 hx hI hF hz hq hr hm
    exact absurd hm (Nat.not_lt_zero _)
  | succ j hK =>
    intro x x7 d h7 hx hI hF hz hq hr hm
    show _ ∧ _
    refine ⟨fun h => ?_, fun h => ?_⟩
    · have h : x7.toInt < 0 := (i_lt rfl (rfl : (0 : Int32).toInt = 0)).mp h
      have hx0 : x = 0 := by omega
      subst hx0
      exact hQ d hI hF hz (fun s hs => hq s (Nat.zero_le _) hs) (fun s hs => hr s (Nat.zero_le _) hs)
    · have h : ¬ x7.toInt < 0 := fun q => h ((i_lt rfl (rfl : (0 : Int32).toInt = 0)).mpr q)
      obtain ⟨s, rfl⟩ : ∃ s, x = s + 1 := ⟨x - 1, by omega⟩
      have h7 : x7.toInt = (s : Int) := by omega
      have e7 := at_n h7
      have t7 : (x7 + 1).toInt = ((s + 1 : Nat) : Int) := inc1 h7 (by omega)
      have e71 := at_n t7
      have i8 : vp_in x7 8 := vin h7 (by omega) (by omega)
      have i9 : vp_in x7 9 := vin h7 (by omega) (by omega)
      have i91 : vp_in (x7 + 1) 9 := vin t7 (by omega) (by omega)
      have hp := pf_c (R := R) (s := s) cR.1 cR.2 (by omega)
      have hmf := mf_c (R := R) (s := s) cR.1 cR.2 (by omega)
      have rk := hr (s + 1) (Nat.le_refl _) hx
      have k19 := rk 19 (by omega) (by omega)
      have k20 := rk 20 (by omega) (by omega)
      have k21 := rk 21 (by omega) (by omega)
      have k22 := rk 22 (by omega) (by omega)
      have k23 := rk 23 (by omega) (by omega)
      intro v21 e21
      have t21 : v21.toInt = ((s / 2 : Nat) : Int) := by rw [e21]; exact hlf h7
      have tr : (irem x7 2).toInt = (s : Int) % 2 := ti_rem h7 (rfl : (2 : Int32).toInt = 2) (by omega) (by omega)
      have rR : (d (37 + 3 * k) 0).toInt = R := by rw [hF (37 + 3 * k) (by omega) (by omega) (by omega) (by omega) (by omega) (by omega) (by omega)]; exact hR
      have go : ∀ xs0 : Int32, ((xs0 = 1 ∧ s % 2 = 0) ∨ (xs0 = 0 ∧ ¬ s % 2 = 0)) → b_X6_loadBounds_187 n Q (b_X6_loadBounds_164 n Q j) k x2 x3 x4 x6 x7 v21 xs0 d dl := by
        intro xs0 hxs
        unfold b_X6_loadBounds_187 F_X1_pitchFactor F_X1_middleFactor
        have tp : (((2 : Int32) * v21) - ((d (37 + 3 * k) 0) - 1)).toInt = pfR R s := ti_sub (ti_mul (rfl : (2 : Int32).toInt = 2) t21 (by omega) (by omega)) (ti_sub rR (rfl : (1 : Int32).toInt = 1) (by omega) (by omega)) (by omega) (by omega)
        generalize (((2 : Int32) * v21) - ((d (37 + 3 * k) 0) - 1)) = r23 at tp ⊢
        refine ⟨i8, fun d27 e27 => ?_⟩
        rw [e7] at e27
        have q27 : d27 (37 + 3 * k) 0 = d (37 + 3 * k) 0 := by rw [e27, u2_row (by omega)]
        have tb : (((d27 (37 + 3 * k) 0) - 1) - v21).toInt = R - 1 - ((s / 2 : Nat) : Int) := ti_sub (ti_sub (by rw [q27]; exact rR) (rfl : (1 : Int32).toInt = 1) (by omega) (by omega)) t21 (by omega) (by omega)
        have tmf : ((if (((d27 (37 + 3 * k) 0) - 1) - v21) < v21 then (((d27 (37 + 3 * k) 0) - 1) - v21) else v21) : Int32).toInt = mfR R s := by
          unfold mfR
          by_cases w : (((d27 (37 + 3 * k) 0) - 1) - v21) < v21
          · rw [if_pos w, if_pos ((i_lt tb t21).mp w), tb]
          · rw [if_neg w, if_neg (fun q => w ((i_lt tb t21).mpr q)), t21]
        generalize ((if (((d27 (37 + 3 * k) 0) - 1) - v21) < v21 then (((d27 (37 + 3 * k) 0) - 1) - v21) else v21) : Int32) = r28 at tmf ⊢
        refine ⟨i8, fun d32 e32 => ⟨i91, ?_⟩⟩
        rw [e7] at e32
        rw [e71]
        have s27 : StP pN d dl d27 dl := by rw [e27]; exact pw_15 (StP.rf hI) rfl
        have s32 : StP pN d dl d32 dl := by rw [e32]; exact pw_16 s27 rfl
        have hxl : xs0 = 0 → ¬ s % 2 = 0 := fun w => by
          rcases hxs with ⟨a, _⟩ | ⟨_, b⟩
          · exact absurd (a.symm.trans w) (by decide)
          · exact b
        have hxr : ¬ xs0 = 0 → s % 2 = 0 := fun w => by
          rcases hxs with ⟨_, b⟩ | ⟨a, _⟩
          · exact b
          · exact absurd a w
        have c53 : ((S - (s + 1) : Nat) : Int) = (S : Int) - (s : Int) - 1 := by omega
        rw [c53] at k19 k20 k21 k22 k23
        have kS : ((S - s : Nat) : Int) = (S : Int) - (s : Int) := by omega
        have hS8 : (S : Int) ≤ 8 := by omega
        have w19 : (d32 19 (s + 1)).toInt = (d 19 (s + 1)).toInt := by rw [e32, u2_row (by omega), e27, u2_row (by omega)]
        have G1 : ∀ y : Int32, y.toInt = (if s % 2 = 0 then lo else -hi) → b_X6_loadBounds_245 n Q (b_X6_loadBounds_164 n Q j) k x2 x3 x4 x6 x7 xs0 r23 y (d32 19 (s + 1)) x7 d32 dl := by
          intro y hy
          have by1 : -150 ≤ (if s % 2 = 0 then lo else -hi) ∧ (if s % 2 = 0 then lo else -hi) ≤ 150 := by split <;> omega
          refine ⟨i9, fun d36 e36 => ⟨i91, ?_⟩⟩
          rw [e7] at e36
          rw [e71]
          have a36 : (d36 19 s).toInt = (d 19 (s + 1)).toInt + (if s % 2 = 0 then lo else -hi) := by rw [e36, u2_eq]; exact ti_add w19 hy (by omega) (by omega)
          have s36 : StP pN d dl d36 dl := by rw [e36]; exact pw_19 s32 rfl
          have w20 : (d36 20 (s + 1)).toInt = (d 20 (s + 1)).toInt := by rw [e36, u2_row (by omega), e32, u2_row (by omega), e27, u2_row (by omega)]
          have G2 : ∀ y : Int32, y.toInt = (if s % 2 = 0 then hi else -lo) → b_X6_loadBounds_273 n Q (b_X6_loadBounds_164 n Q j) k x2 x3 x4 x6 x7 xs0 r23 y (d36 20 (s + 1)) x7 d36 dl := by
            intro y hy
            have by2 : -150 ≤ (if s % 2 = 0 then hi else -lo) ∧ (if s % 2 = 0 then hi else -lo) ≤ 150 := by split <;> omega
            refine ⟨i9, fun d40 e40 => ⟨i91, ?_⟩⟩
            rw [e7] at e40
            rw [e71]
            have a40 : (d40 20 s).toInt = (d 20 (s + 1)).toInt + (if s % 2 = 0 then hi else -lo) := by rw [e40, u2_eq]; exact ti_add w20 hy (by omega) (by omega)
            have s40 : StP pN d dl d40 dl := by rw [e40]; exact pw_20 s36 rfl
            have w21 : (d40 21 (s + 1)).toInt = (d 21 (s + 1)).toInt := by rw [e40, u2_row (by omega), e36, u2_row (by omega), e32, u2_row (by omega), e27, u2_row (by omega)]
            have G3 : ∀ y : Int32, y.toInt = (if pfR R s < 0 then hi else lo) → b_X6_loadBounds_302 n Q (b_X6_loadBounds_164 n Q j) k x2 x3 x4 x6 x7 xs0 r23 y r23 (d40 21 (s + 1)) x7 d40 dl := by
              intro y hy
              have by3 : -450 ≤ pfR R s * (if pfR R s < 0 then hi else lo) ∧ pfR R s * (if pfR R s < 0 then hi else lo) ≤ 450 := by
                rcases hp with e | e | e | e | e | e | e <;> rw [e] <;> split <;> omega
              refine ⟨i9, fun d44 e44 => ⟨i91, ?_⟩⟩
              rw [e7] at e44
              rw [e71]
              have a44 : (d44 21 s).toInt = (d 21 (s + 1)).toInt + pfR R s * (if pfR R s < 0 then hi else lo) := by rw [e44, u2_eq]; exact ti_add w21 (ti_mul tp hy (by omega) (by omega)) (by omega) (by omega)
              have s44 : StP pN d dl d44 dl := by rw [e44]; exact pw_21 s40 rfl
              have w22 : (d44 22 (s + 1)).toInt = (d 22 (s + 1)).toInt := by rw [e44, u2_row (by omega), e40, u2_row (by omega), e36, u2_row (by omega), e32, u2_row (by omega), e27, u2_row (by omega)]
              have G4 : ∀ y : Int32, y.toInt = (if pfR R s < 0 then lo else hi) → b_X6_loadBounds_332 n Q (b_X6_loadBounds_164 n Q j) k x2 x3 x4 x6 x7 xs0 y r23 (d44 22 (s + 1)) x7 d44 dl := by
                intro y hy
                have by4 : -450 ≤ pfR R s * (if pfR R s < 0 then lo else hi) ∧ pfR R s * (if pfR R s < 0 then lo else hi) ≤ 450 := by
                  rcases hp with e | e | e | e | e | e | e <;> rw [e] <;> split <;> omega
                have by5 : 0 ≤ st * mfR R s ∧ st * mfR R s ≤ 99 := by
                  rcases hmf with e | e <;> rw [e] <;> omega
                refine ⟨i9, fun d48 e48 => ?_⟩
                rw [e7] at e48
                rw [e71, e7]
                have a48 : (d48 22 s).toInt = (d 22 (s + 1)).toInt + pfR R s * (if pfR R s < 0 then lo else hi) := by rw [e48, u2_eq]; exact ti_add w22 (ti_mul tp hy (by omega) (by omega)) (by omega) (by omega)
                have s48 : StP pN d dl d48 dl := by rw [e48]; exact pw_22 s44 rfl
                have w23 : (d48 23 (s + 1)).toInt = (d 23 (s + 1)).toInt := by rw [e48, u2_row (by omega), e44, u2_row (by omega), e40, u2_row (by omega), e36, u2_row (by omega), e32, u2_row (by omega), e27, u2_row (by omega)]
                have w16 : (d48 16 s).toInt = mfR R s := by rw [e48, u2_row (by omega), e44, u2_row (by omega), e40, u2_row (by omega), e36, u2_row (by omega), e32, u2_eq]; exact tmf
                have tx : ((d48 23 (s + 1)) + (x4 * (d48 16 s))).toInt = (d 23 (s + 1)).toInt + st * mfR R s := ti_add w23 (ti_mul h4 w16 (by omega) (by omega)) (by omega) (by omega)
                have G5 : ∀ y : Int32, y.toInt = (if s % 2 = 0 then 0 else bo) → b_X6_loadBounds_372 n Q (b_X6_loadBounds_164 n Q j) k x2 x3 x4 x6 x7 y ((d48 23 (s + 1)) + (x4 * (d48 16 s))) x7 d48 dl := by
                  intro y hy
                  have by6 : 0 ≤ (if s % 2 = 0 then 0 else bo) ∧ (if s % 2 = 0 then 0 else bo) ≤ 20 := by split <;> omega
                  refine ⟨i9, fun d53 e53 => ?_⟩
                  rw [e7] at e53
                  have a53 : (d53 23 s).toInt = (d 23 (s + 1)).toInt + st * mfR R s + (if s % 2 = 0 then 0 else bo) := by rw [e53, u2_eq]; exact ti_add tx hy (by omega) (by omega)
                  have s53 : StP pN d dl d53 dl := by rw [e53]; exact pw_23 s48 rfl
                  have ou : ∀ i j, (i ≠ 15 ∨ j ≠ s) → (i ≠ 16 ∨ j ≠ s) → (i ≠ 19 ∨ j ≠ s) → (i ≠ 20 ∨ j ≠ s) → (i ≠ 21 ∨ j ≠ s) → (i ≠ 22 ∨ j ≠ s) → (i ≠ 23 ∨ j ≠ s) → d53 i j = d i j := fun i j a b c e f g h => by rw [e53, u2_ne h, e48, u2_ne g, e44, u2_ne f, e40, u2_ne e, e36, u2_ne c, e32, u2_ne b, e27, u2_ne a]
                  have oj : ∀ i j, j ≠ s → d53 i j = d i j := fun i j hj => ou i j (Or.inr hj) (Or.inr hj) (Or.inr hj) (Or.inr hj) (Or.inr hj) (Or.inr hj) (Or.inr hj)
                  have z15 : (d53 15 s).toInt = pfR R s := by rw [e53, u2_row (by omega), e48, u2_row (by omega), e44, u2_row (by omega), e40, u2_row (by omega), e36, u2_row (by omega), e32, u2_row (by omega), e27, u2_eq]; exact tp
                  have z16 : (d53 16 s).toInt = mfR R s := by rw [e53, u2_row (by omega)]; exact w16
                  have z19 : (d53 19 s).toInt = (d53 19 (s + 1)).toInt + (if s % 2 = 0 then lo else -hi) := by rw [oj 19 (s + 1) (by omega), e53, u2_row (by omega), e48, u2_row (by omega), e44, u2_row (by omega), e40, u2_row (by omega)]; exact a36
                  have z20 : (d53 20 s).toInt = (d53 20 (s + 1)).toInt + (if s % 2 = 0 then hi else -lo) := by rw [oj 20 (s + 1) (by omega), e53, u2_row (by omega), e48, u2_row (by omega), e44, u2_row (by omega)]; exact a40
                  have z21 : (d53 21 s).toInt = (d53 21 (s + 1)).toInt + pfR R s * (if pfR R s < 0 then hi else lo) := by rw [oj 21 (s + 1) (by omega), e53, u2_row (by omega), e48, u2_row (by omega)]; exact a44
                  have z22 : (d53 22 s).toInt = (d53 22 (s + 1)).toInt + pfR R s * (if pfR R s < 0 then lo else hi) := by rw [oj 22 (s + 1) (by omega), e53, u2_row (by omega)]; exact a48
                  have z23 : (d53 23 s).toInt = (d53 23 (s + 1)).toInt + st * mfR R s + (if s % 2 = 0 then 0 else bo) := by rw [oj 23 (s + 1) (by omega)]; exact a53
                  obtain ⟨z7, ez7, tz7⟩ := dec1 h7 (by omega)
                  rw [← ez7]
                  refine hK s z7 d53 tz7 (by omega) s53.1 (fun i a b c e f g h => ?_) ?_ (fun s2 ha hb => ?_) (fun s2 ha hb => ?_) (by omega)
                  · rw [← hF i a b c e f g h]
                    exact funext (fun j => ou i j (Or.inl a) (Or.inl b) (Or.inl c) (Or.inl e) (Or.inl f) (Or.inl g) (Or.inl h))
                  · unfold Bz
                    rw [oj _ S (by omega), oj _ S (by omega), oj _ S (by omega), oj _ S (by omega), oj _ S (by omega)]
                    exact hz
                  · by_cases he : s2 = s
                    · rw [he]
                      exact ⟨z15, z16, z19, z20, z21, z22, z23⟩
                    · have := hq s2 (by omega) hb
                      unfold Bq at this ⊢
                      rw [oj _ s2 he, oj _ s2 he, oj _ s2 he, oj _ s2 he, oj _ s2 he, oj _ s2 he, oj _ s2 he, oj _ (s2 + 1) (by omega), oj _ (s2 + 1) (by omega), oj _ (s2 + 1) (by omega), oj _ (s2 + 1) (by omega), oj _ (s2 + 1) (by omega)]
                      exact this
                  · by_cases he : s2 = s
                    · rw [he]
                      intro t ta tb
                      rw [kS]
                      have hc : t = 19 ∨ t = 20 ∨ t = 21 ∨ t = 22 ∨ t = 23 := by omega
                      rw [oj 19 (s + 1) (by omega)] at z19
                      rw [oj 20 (s + 1) (by omega)] at z20
                      rw [oj 21 (s + 1) (by omega)] at z21
                      rw [oj 22 (s + 1) (by omega)] at z22
                      rw [oj 23 (s + 1) (by omega)] at z23
                      rcases hc with rfl | rfl | rfl | rfl | rfl
                      · rw [z19]; omega
                      · rw [z20]; omega
                      · rw [z21]; omega
                      · rw [z22]; omega
                      · rw [z23]; omega
                    · intro t ta tb
                      rw [oj _ s2 he]
                      exact hr s2 (by omega) hb t ta tb
                refine ⟨i91, i8, fun w => G5 x6 (by rw [if_neg (hxl w)]; exact h6), fun w => G5 0 (by rw [if_pos (hxr w)]; rfl)⟩
              refine ⟨fun w => G4 x3 ?_, fun w => G4 x2 ?_⟩
              · have w : 0 ≤ pfR R s := (i_le (rfl : (0 : Int32).toInt = 0) tp).mp w
                rw [if_neg (by omega)]; exact h3
              · have w : ¬ 0 ≤ pfR R s := fun q => w ((i_le (rfl : (0 : Int32).toInt = 0) tp).mpr q)
                rw [if_pos (by omega)]; exact h2
            refine ⟨fun w => G3 x2 ?_, fun w => G3 x3 ?_⟩
            · have w : 0 ≤ pfR R s := (i_le (rfl : (0 : Int32).toInt = 0) tp).mp w
              rw [if_neg (by omega)]; exact h2
            · have w : ¬ 0 ≤ pfR R s := fun q => w ((i_le (rfl : (0 : Int32).toInt = 0) tp).mpr q)
              rw [if_pos (by omega)]; exact h3
          refine ⟨fun w => G2 (-x2) ?_, fun w => G2 x3 ?_⟩
          · rw [if_neg (hxl w)]; exact ti_neg h2 (by omega) (by omega)
          · rw [if_pos (hxr w)]; exact h3
        refine ⟨fun w => G1 (-x3) ?_, fun w => G1 x2 ?_⟩
        · rw [if_neg (hxl w)]; exact ti_neg h3 (by omega) (by omega)
        · rw [if_pos (hxr w)]; exact h2
      refine ⟨fun w => go 0 (Or.inr ⟨rfl, ?_⟩), fun w => go 1 (Or.inl ⟨rfl, ?_⟩)⟩
      · have w : ¬ (s : Int) % 2 = 0 := fun q => w ((i_eq tr (rfl : (0 : Int32).toInt = 0)).mpr q)
        omega
      · have w : (s : Int) % 2 = 0 := (i_eq tr (rfl : (0 : Int32).toInt = 0)).mp w
        omega
noncomputable def cu (ch : Nat → Nat) (s : Nat) (n : Nat) : Int := sm (fun m => @ite Int (∀ i, i < s → ¬ ch i = m) (Classical.propDecidable _) 1 0) n
theorem sm_one {f g : Nat → Int} {q : Nat} : ∀ k : Nat, q < k → (∀ i, i < k → i ≠ q → f i = g i) → f q = g q + 1 → sm f k = sm g k + 1 := by
  intro k
  induction k with
  | zero => intro h; exact absurd h (Nat.not_lt_zero _)
  | succ k ih =>
    intro hq h1 h2
    show sm f k + f k = sm g k + g k + 1
    by_cases e : q = k
    · subst e
      rw [sm_k q (fun i hi => h1 i (by omega) (by omega)), h2]
      omega
    · rw [ih (by omega) (fun i hi hne => h1 i (by omega) hne) h2, h1 k (by omega) (by omega)]
      omega
theorem cu_u {ch : Nat → Nat} {s m n : Nat} (hm : m < n) (ok : ∀ i, i < s → ¬ ch i = m) : cu ch s n = cu (upN ch s m) (s + 1) n + 1 := by
  unfold cu
  refine sm_one (q := m) n hm (fun i hi hne => ?_) ?_
  · by_cases w : ∀ j, j < s → ¬ ch j = i
    · rw [if_pos w, if_pos (fun j hj => ?_)]
      by_cases hj2 : j = s
      · rw [hj2, upN_e]; exact fun e => hne e.symm
      · rw [upN_n hj2]; exact w j (by omega)
    · rw [if_neg w, if_neg (fun w2 => w (fun j hj e => w2 j (by omega) (by rw [upN_n (by omega)]; exact e)))]
  · rw [if_pos ok, if_neg (fun w => w s (by omega) upN_e)]
    rfl
theorem cu_nn (ch : Nat → Nat) (s : Nat) : ∀ n : Nat, 0 ≤ cu ch s n := by
  intro n
  induction n with
  | zero => exact Int.le_refl _
  | succ n ih =>
    have ih : 0 ≤ sm (fun m => @ite Int (∀ i, i < s → ¬ ch i = m) (Classical.propDecidable _) 1 0) n := ih
    show 0 ≤ sm _ n + @ite Int (∀ i, i < s → ¬ ch i = n) (Classical.propDecidable _) 1 0
    by_cases w : ∀ i, i < s → ¬ ch i = n
    · rw [if_pos w]; omega
    · rw [if_neg w]; omega
theorem cu_0 (ch : Nat → Nat) : ∀ n : Nat, cu ch 0 n = (n : Int) := by
  intro n
  induction n with
  | zero => rfl
  | succ n ih =>
    have ih : sm (fun m => @ite Int (∀ i, i < 0 → ¬ ch i = m) (Classical.propDecidable _) 1 0) n = (n : Int) := ih
    show sm _ n + @ite Int (∀ i, i < 0 → ¬ ch i = n) (Classical.propDecidable _) 1 0 = ((n + 1 : Nat) : Int)
    rw [ih, if_pos (fun i hi => absurd hi (Nat.not_lt_zero _))]
    omega
theorem FS_few {P : Nat → Nat → Int} {S n : Nat} {B : Bool × Int × (Nat → Nat)} : ∀ (k s : Nat) (ch : Nat → Nat), cu ch s n < (k : Int) → FS P S n k s ch B = B := by
  intro k
  induction k with
  | zero =>
    intro s ch h
    have := cu_nn ch s n
    omega
  | succ k ih =>
    intro s ch h
    rw [FS_s]
    refine lpm_id (N := n) (fun m hm => ?_) n 0 (by omega)
    by_cases ok : okS P s m ch
    · rw [fsm_y ok]
      have := cu_u hm ok.1
      exact ih (s + 1) _ (by omega)
    · exact fsm_n ok
theorem or0 {a b : Int32} (h : a ||| b = 0) : a = 0 ∧ b = 0 := by
  have w := b32_z.mp h
  refine ⟨b32_z.mpr (fun x hx => ?_), b32_z.mpr (fun x hx => ?_)⟩
  · have := w x hx
    rw [b32_or] at this
    cases h1 : b32 a x
    · rfl
    · rw [h1, Bool.true_or] at this; exact absurd this (by decide)
  · have := w x hx
    rw [b32_or] at this
    cases h1 : b32 b x
    · rfl
    · rw [h1, Bool.or_true] at this; exact absurd this (by decide)
theorem fb_X6_loadBounds_28 {n : Nat} {Q : DD → LL → Prop} {k : Nat} {dl : LL} {d : DD} {nn : Nat} (h10 : (d 10 3).toInt = (nn : Int)) (hn8 : nn ≤ 8) (hw : ∀ m, m < nn → (0 ≤ (d 11 m).toInt ∧ (d 11 m).toInt ≤ 150) ∧ (0 ≤ (d 12 m).toInt ∧ (d 12 m).toInt ≤ 99)) (hQ : ∀ (x2 x3 x4 bo : Int32), (0 ≤ x2.toInt ∧ x2.toInt ≤ 150) → (0 ≤ x3.toInt ∧ x3.toInt ≤ 150) → (0 ≤ x4.toInt ∧ x4.toInt ≤ 99) → (∀ i, i < nn → x2.toInt ≤ (d 11 i).toInt ∧ (d 11 i).toInt ≤ x3.toInt ∧ (d 12 i).toInt ≤ x4.toInt) → ((bo = 0 ∧ ∀ i, i < nn → d 14 i = 0) ∨ bo = 20) → b_X6_loadBounds_104 n Q k x2 x3 x4 bo d dl) : ∀ (j m : Nat) (x2 x3 x4 x5 x6 : Int32), x6.toInt = (m : Int) → m ≤ nn → (0 ≤ x2.toInt ∧ x2.toInt ≤ 150) → (0 ≤ x3.toInt ∧ x3.toInt ≤ 150) → (0 ≤ x4.toInt ∧ x4.toInt ≤ 99) → (∀ i, i < m → x2.toInt ≤ (d 11 i).toInt ∧ (d 11 i).toInt ≤ x3.toInt ∧ (d 12 i).toInt ≤ x4.toInt ∧ (x5 = 0 → d 14 i = 0)) → 9 ≤ m + j → b_X6_loadBounds_28 n Q j k x2 x3 x4 x5 x6 d dl := by
  intro j
  induction j with
  | zero =>
    intro m x2 x3 x4 x5 x6 h6 hm b2 b3 b4 hi hj
    exfalso
    omega
  | succ j hK =>
    intro m x2 x3 x4 x5 x6 h6 hm b2 b3 b4 hi hj
    show _ ∧ _
    have e6 := at_n h6
    refine ⟨fun h => ?_, fun h => ?_⟩
    · have h : (nn : Int) ≤ (m : Int) := (i_le h10 h6).mp h
      have hmn : m = nn := by omega
      subst hmn
      refine ⟨fun h5 => hQ _ _ _ _ b2 b3 b4 (fun i q => ⟨(hi i q).1, (hi i q).2.1, (hi i q).2.2.1⟩) (Or.inl ⟨rfl, fun i q => (hi i q).2.2.2 h5⟩), fun h5 => hQ _ _ _ _ b2 b3 b4 (fun i q => ⟨(hi i q).1, (hi i q).2.1, (hi i q).2.2.1⟩) (Or.inr rfl)⟩
    · have h : ¬ (nn : Int) ≤ (m : Int) := fun q => h ((i_le h10 h6).mpr q)
      have hmn : m < nn := by omega
      have i8 : vp_in x6 8 := vin h6 (by omega) (by omega)
      have wm := hw m hmn
      rw [e6]
      refine ⟨i8, fun v55 e55 => ⟨i8, fun v57 e57 => ⟨i8, fun v59 e59 => ⟨i8, fun v61 e61 => ?_⟩⟩⟩⟩
      have t55 : v55.toInt = min x2.toInt (d 11 m).toInt := by rw [e55]; exact ti_min rfl rfl
      have t57 : v57.toInt = max x3.toInt (d 11 m).toInt := by rw [e57]; exact ti_max rfl rfl
      have t59 : v59.toInt = max x4.toInt (d 12 m).toInt := by rw [e59]; exact ti_max rfl rfl
      refine hK (m + 1) _ _ _ _ _ (inc1 h6 (by omega)) (by omega) (by omega) (by omega) (by omega) (fun i q => ?_) (by omega)
      by_cases e : i = m
      · subst e
        exact ⟨by omega, by omega, by omega, fun z => by rw [e61] at z; exact (or0 z).2⟩
      · have := hi i (by omega)
        exact ⟨by omega, by omega, by omega, fun z => by rw [e61] at z; exact this.2.2.2 (or0 z).1⟩
theorem fn_X6_loadBounds {n : Nat} (hn : 1000000000 ≤ n) {Q : DD → LL → Prop} {k : Nat} (hk : k < 6) {dl : LL} {d : DD} (hI : Inv d) {nn S : Nat} {R : Int} (cR : 2 ≤ R ∧ R ≤ 4) (hR : (d (37 + 3 * k) 0).toInt = R) (hS : (S : Int) = 2 * R) (h10 : (d 10 3).toInt = (nn : Int)) (h12 : (d 10 2).toInt = (S : Int)) (hn8 : nn ≤ 8) (hn1 : 1 ≤ nn) {P : Nat → Nat → Int} (hp : ∀ m, m < nn → ((d 11 m).toInt = P 0 m ∧ (d 12 m).toInt = P 1 m ∧ (d 13 m).toInt = P 2 m ∧ ∀ c, c < nn → (b32 (d 14 m) c = true ↔ P (10 + m) c = 1))) (h3 : ∀ s, P 3 s = pfR R s) (h4 : ∀ s, P 4 s = mfR R s) (h5 : -100000 ≤ P 5 0 ∧ P 5 0 ≤ 100000) (hw : ∀ m, m < nn → (0 ≤ P 0 m ∧ P 0 m ≤ 150) ∧ (0 ≤ P 1 m ∧ P 1 m ≤ 99)) (hQ : ∀ (dz : DD) (Bn : Nat → Nat → Int), Inv dz → FrB d dz → Ld dz P S nn Bn → BnOK P S nn Bn → Q dz dl) : F_X6_loadBounds n k d dl Q := by
  intro v2 e2 v4 e4 v6 e6
  have hw2 : ∀ m, m < nn → (0 ≤ (d 11 m).toInt ∧ (d 11 m).toInt ≤ 150) ∧ (0 ≤ (d 12 m).toInt ∧ (d 12 m).toInt ≤ 99) := fun m hm => by rw [(hp m hm).1, (hp m hm).2.1]; exact hw m hm
  have w0 := hw2 0 (by omega)
  have z0 : (0 : Int32).toNatClampNeg = 0 := rfl
  rw [z0] at e2 e4 e6
  refine fb_X6_loadBounds_28 h10 hn8 hw2 (fun x2 x3 x4 bo b2 b3 b4 hb hbo => ?_) n 0 v2 v4 v6 0 0 rfl (Nat.zero_le _) (by rw [e2]; exact w0.1) (by rw [e4]; exact w0.1) (by rw [e6]; exact w0.2) (fun i q => absurd q (Nat.not_lt_zero _)) (by omega)
  have eS := at_n h12
  have iS : vp_in (d 10 2) 9 := vin h12 (by omega) (by omega)
  refine ⟨iS, ?_⟩
  rw [eS]
  intro d10 e10
  have k10 : d10 10 2 = d 10 2 := by rw [e10, u2_row (by omega)]
  rw [k10]
  refine ⟨iS, ?_⟩
  rw [eS]
  intro d12 e12
  have k12 : d12 10 2 = d 10 2 := by rw [e12, u2_row (by omega), k10]
  rw [k12]
  refine ⟨iS, ?_⟩
  rw [eS]
  intro d14 e14
  have k14 : d14 10 2 = d 10 2 := by rw [e14, u2_row (by omega), k12]
  rw [k14]
  refine ⟨iS, ?_⟩
  rw [eS]
  intro d16 e16
  have k16 : d16 10 2 = d 10 2 := by rw [e16, u2_row (by omega), k14]
  rw [k16]
  refine ⟨iS, ?_⟩
  rw [eS]
  intro d18 e18 v19 e19
  have k18 : d18 10 2 = d 10 2 := by rw [e18, u2_row (by omega), k16]
  have s10 : StP pN d dl d10 dl := by rw [e10]; exact pw_19 (StP.rf hI) rfl
  have s12 : StP pN d dl d12 dl := by rw [e12]; exact pw_20 s10 rfl
  have s14 : StP pN d dl d14 dl := by rw [e14]; exact pw_21 s12 rfl
  have s16 : StP pN d dl d16 dl := by rw [e16]; exact pw_22 s14 rfl
  have s18 : StP pN d dl d18 dl := by rw [e18]; exact pw_23 s16 rfl
  have F18 : FrB d d18 := fun i _ _ c e f g h => by rw [e18, u2_row h, e16, u2_row g, e14, u2_row f, e12, u2_row e, e10, u2_row c]
  have y19 : d18 19 S = 0 := by rw [e18, u2_row (by omega), e16, u2_row (by omega), e14, u2_row (by omega), e12, u2_row (by omega), e10, u2_eq]
  have y20 : d18 20 S = 0 := by rw [e18, u2_row (by omega), e16, u2_row (by omega), e14, u2_row (by omega), e12, u2_eq]
  have y21 : d18 21 S = 0 := by rw [e18, u2_row (by omega), e16, u2_row (by omega), e14, u2_eq]
  have y22 : d18 22 S = 0 := by rw [e18, u2_row (by omega), e16, u2_eq]
  have y23 : d18 23 S = 0 := by rw [e18, u2_eq]
  have Z18 : Bz d18 S := by
    unfold Bz
    rw [y19, y20, y21, y22, y23]
    exact ⟨rfl, rfl, rfl, rfl, rfl⟩
  have t19 : v19.toInt = (S : Int) - 1 := by rw [e19]; exact ti_sub (by rw [k18]; exact h12) (rfl : (1 : Int32).toInt = 1) (by omega) (by omega)
  have cbo : bo.toInt = 0 ∨ bo.toInt = 20 := by
    rcases hbo with ⟨a, _⟩ | a
    · rw [a]; exact Or.inl rfl
    · rw [a]; exact Or.inr rfl
  refine fb_X6_loadBounds_164 hk (lo := x2.toInt) (hi := x3.toInt) (st := x4.toInt) (bo := bo.toInt) (R := R) rfl rfl rfl rfl b2 b3 b4 cbo cR (d0 := d) hR hS (fun dz iz Fz Zz Qz Rz => ?_) n S v19 d18 t19 (Nat.le_refl _) s18.1 F18 Z18 (fun s a b => absurd b (by omega)) (fun s a b => ?_) (by omega)
  · refine hQ dz (fun t s => (dz (19 + t) s).toInt) iz Fz ?_ ?_
    · refine ⟨⟨by omega, hn8, by rw [Fz 10 (by omega) (by omega) (by omega) (by omega) (by omega) (by omega) (by omega)]; exact h12, by rw [Fz 10 (by omega) (by omega) (by omega) (by omega) (by omega) (by omega) (by omega)]; exact h10⟩, fun m hm => ?_, fun s hs => ?_, fun s hs => ⟨rfl, rfl, rfl, rfl, rfl⟩, fun s hs t ht => ?_, h5, fun m hm => ⟨(hw m hm).1, fun s hs => ?_⟩⟩
      · rw [Fz 11 (by omega) (by omega) (by omega) (by omega) (by omega) (by omega) (by omega), Fz 12 (by omega) (by omega) (by omega) (by omega) (by omega) (by omega) (by omega), Fz 13 (by omega) (by omega) (by omega) (by omega) (by omega) (by omega) (by omega), Fz 14 (by omega) (by omega) (by omega) (by omega) (by omega) (by omega) (by omega)]
        exact hp m hm
      · rw [h3, h4]
        exact ⟨(Qz s hs).1, (Qz s hs).2.1⟩
      · have := Rz s hs (19 + t) (by omega) (by omega)
        have c : ((S - s : Nat) : Int) ≤ 8 := by omega
        show -100000 ≤ (dz (19 + t) s).toInt ∧ (dz (19 + t) s).toInt ≤ 100000
        omega
      · have hpc := pf_c (R := R) (s := s) cR.1 cR.2 (by omega)
        have hmc := mf_c (R := R) (s := s) cR.1 cR.2 (by omega)
        have a := hw m hm
        rw [h3, h4]
        refine ⟨?_, ?_⟩
        · rcases hmc with e | e <;> rw [e] <;> omega
        · rcases hpc with e | e | e | e | e | e | e <;> rw [e] <;> omega
    · refine ⟨Zz, fun s hs => ?_, fun s hs m hm => ?_⟩
      · have l0 := hb 0 (by omega)
        have low : ∀ (c s : Nat), s + c = S → (dz 19 s).toInt ≤ (dz 20 s).toInt ∧ (dz 21 s).toInt ≤ (dz 22 s).toInt := by
          intro c
          induction c with
          | zero =>
            intro s e
            have e : s = S := by omega
            subst e
            rw [Zz.1, Zz.2.1, Zz.2.2.1, Zz.2.2.2.1]
            omega
          | succ c ih =>
            intro s e
            have i := ih (s + 1) (by omega)
            obtain ⟨q1, q2, q3, q4, q5, q6, q7⟩ := Qz s (by omega)
            have hpc := pf_c (R := R) (s := s) cR.1 cR.2 (by omega)
            rw [q3, q4, q5, q6]
            refine ⟨?_, ?_⟩
            · split <;> omega
            · rcases hpc with e | e | e | e | e | e | e <;> rw [e] <;> split <;> omega
        exact low (S - s) s (by omega)
      · obtain ⟨q1, q2, q3, q4, q5, q6, q7⟩ := Qz s hs
        have hpc := pf_c (R := R) (s := s) cR.1 cR.2 (by omega)
        have hmc := mf_c (R := R) (s := s) cR.1 cR.2 (by omega)
        have bm := hb m hm
        have p0 := (hp m hm).1
        have p1 := (hp m hm).2.1
        have wm := hw m hm
        rw [h3]
        show (dz 19 s).toInt ≤ (dz 19 (s + 1)).toInt + _ ∧ (dz 20 (s + 1)).toInt + _ ≤ (dz 20 s).toInt ∧ (dz 21 s).toInt ≤ (dz 21 (s + 1)).toInt + _ ∧ (dz 22 (s + 1)).toInt + _ ≤ (dz 22 s).toInt ∧ ∀ c, c < nn → (dz 23 (s + 1)).toInt + _ ≤ (dz 23 s).toInt
        rw [q3, q4, q5, q6, q7]
        refine ⟨?_, ?_, ?_, ?_, fun c hc => ?_⟩
        · split <;> omega
        · split <;> omega
        · rcases hpc with e | e | e | e | e | e | e <;> rw [e] <;> split <;> omega
        · rcases hpc with e | e | e | e | e | e | e <;> rw [e] <;> split <;> omega
        · unfold gaI
          rw [h4]
          have fz : P (10 + m) c = 1 → bo.toInt = 20 := by
            intro w
            rcases hbo with ⟨_, a⟩ | a
            · have := ((hp m hm).2.2.2 c hc).mpr w
              rw [a m hm, b32_zero] at this
              exact absurd this (by decide)
            · rw [a]; rfl
          by_cases w : s % 2 = 1 ∧ P (10 + m) c = 1
          · rw [if_pos w, if_neg (by omega), fz w.2]
            rcases hmc with e | e <;> rw [e] <;> omega
          · rw [if_neg w]
            rcases hmc with e | e <;> rw [e] <;> split <;> omega
  · have hs : s = S := by omega
    subst hs
    intro t ta tb
    have hc : t = 19 ∨ t = 20 ∨ t = 21 ∨ t = 22 ∨ t = 23 := by omega
    rcases hc with rfl | rfl | rfl | rfl | rfl
    · rw [y19]; exact ⟨by rw [Nat.sub_self]; decide, by rw [Nat.sub_self]; decide⟩
    · rw [y20]; exact ⟨by rw [Nat.sub_self]; decide, by rw [Nat.sub_self]; decide⟩
    · rw [y21]; exact ⟨by rw [Nat.sub_self]; decide, by rw [Nat.sub_self]; decide⟩
    · rw [y22]; exact ⟨by rw [Nat.sub_self]; decide, by rw [Nat.sub_self]; decide⟩
    · rw [y23]; exact ⟨by rw [Nat.sub_self]; decide, by rw [Nat.sub_self]; decide⟩
def FrF (k : Nat) (d dz : DD) : Prop := ∀ i, (i < 10 ∨ 23 < i) → dz i = d i
noncomputable def FSof (P : Nat → Nat → Int) (S n : Nat) : Bool × Int × (Nat → Nat) := FS P S n S 0 (fun _ => 0) (false, 0, fun _ => 0)
theorem fn_X6_find {n : Nat} (hn : 1000000000 ≤ n) {Q : Int32 → DD → LL → Prop} {k : Nat} (hk : k < 6) {dl : LL} {d : DD} (hI : Inv d) {nn S : Nat} (hS : (S : Int) = 2 * (d (37 + 3 * k) 0).toInt) (hnn : (d (37 + 3 * k) 3).toInt = (nn : Int)) (hQ : ∀ (r : Int32) (dz : DD), Inv dz → FrF k d dz → (dz 10 2).toInt = (S : Int) → ((r = 0 ∧ (FSof (PA9 d dl k) S nn).1 = false) ∨ (r = 1 ∧ (FSof (PA9 d dl k) S nn).1 = true ∧ (dz 10 0).toInt = (FSof (PA9 d dl k) S nn).2.1 ∧ ∀ i, i < S → (dz 18 i).toInt = ((FSof (PA9 d dl k) S nn).2.2 i : Int))) → Q r dz dl) : F_X6_find n k d dl Q := by
  have mR := iv_37_0 hI hk
  have mD := iv_37_1 hI hk
  have mC := iv_37_3 hI hk
  generalize hRR : (d (37 + 3 * k) 0).toInt = R at *
  intro d1 e1 d2 e2
  show ∀ d6 : DD, _
  have r2 : ∀ i, i ≠ 10 → d2 i = d i := fun i hi => by rw [e2, u2_row hi, e1, u2_row hi]
  have t3 : ((2 : Int32) * (d2 (37 + 3 * k) 0)).toInt = 2 * R := ti_mul (rfl : (2 : Int32).toInt = 2) (by rw [r2 _ (by omega)]; exact hRR) (by omega) (by omega)
  have v3 : (if (8 : Int32) < (2 : Int32) * (d2 (37 + 3 * k) 0) then 8 else (2 : Int32) * (d2 (37 + 3 * k) 0)) = (2 : Int32) * (d2 (37 + 3 * k) 0) := by
    rw [if_neg (fun w => by
      have w : (8 : Int) < _ := (i_lt (rfl : (8 : Int32).toInt = 8) t3).mp w
      omega)]
  rw [v3]
  intro d6 e6 d7 e7
  have r6 : ∀ i, i ≠ 10 → d6 i = d i := fun i hi => by rw [e6, u2_row hi]; exact r2 i hi
  have c6 : (d6 (37 + 3 * k) 3).toInt = (nn : Int) := by rw [r6 _ (by omega)]; exact hnn
  have v7 : (if (8 : Int32) < (d6 (37 + 3 * k) 3) then 8 else (d6 (37 + 3 * k) 3)) = d6 (37 + 3 * k) 3 := by
    rw [if_neg (fun w => by
      have w : (8 : Int) < _ := (i_lt (rfl : (8 : Int32).toInt = 8) c6).mp w
      omega)]
  rw [v7] at e7
  have s1 : StP pN d dl d1 dl := by rw [e1]; exact pw_10_1 (StP.rf hI) (by decide) (by decide) rfl
  have s2 : StP pN d dl d2 dl := by rw [e2]; exact pw_10_0 s1 rfl
  have s6 : StP pN d dl d6 dl := by rw [e6]; exact pw_10_2 s2 (by rw [t3]; omega) (by rw [t3]; omega) rfl
  have s7 : StP pN d dl d7 dl := by rw [e7]; exact pw_10_3 s6 (by rw [c6]; omega) (by rw [c6]; omega) rfl
  have r7 : ∀ i, i ≠ 10 → d7 i = d i := fun i hi => by rw [e7, u2_row hi]; exact r6 i hi
  have z2 : (d7 10 2).toInt = (S : Int) := by rw [e7, u2_ne (Or.inr (by omega)), e6, u2_eq, t3]; omega
  have z3 : (d7 10 3).toInt = (nn : Int) := by rw [e7, u2_eq]; exact c6
  have z1 : d7 10 1 = 0 := by rw [e7, u2_ne (Or.inr (by omega)), e6, u2_ne (Or.inr (by omega)), e2, u2_ne (Or.inr (by omega)), e1, u2_eq]
  refine ⟨fun h => ?_, fun h => ?_⟩
  · have h : (S : Int) ≤ (nn : Int) := (i_le z2 z3).mp h
    have mq : memA d7 k = memA d k := by unfold memA; rw [r7 _ (by omega)]
    refine fb_X6_loadMembers_2 hn hk (by rw [z3]; omega) (fun d10 M10 => ?_) n 0 0 d7 ⟨s7.1, fun _ _ _ _ _ => rfl, fun m hm => absurd hm (Nat.not_lt_zero _)⟩ rfl (by rw [z3]; show (0 : Int) ≤ _; omega) (by omega)
    rw [at_n z3] at M10
    obtain ⟨i10, f10, m10⟩ := M10
    have r10 : ∀ i, (i < 10 ∨ 23 < i) → d10 i = d i := fun i hi => by rw [f10 i (by omega) (by omega) (by omega) (by omega)]; exact r7 i (by omega)
    have w10 : d10 10 = d7 10 := f10 10 (by omega) (by omega) (by omega) (by omega)
    have hp : ∀ m, m < nn → ((d10 11 m).toInt = PA9 d dl k 0 m ∧ (d10 12 m).toInt = PA9 d dl k 1 m ∧ (d10 13 m).toInt = PA9 d dl k 2 m ∧ ∀ c, c < nn → (b32 (d10 14 m) c = true ↔ PA9 d dl k (10 + m) c = 1)) := by
      intro m hm
      obtain ⟨a, b, c, e⟩ := m10 m hm
      rw [mq] at a b c
      rw [r7 2 (by omega)] at a
      rw [r7 3 (by omega)] at b
      rw [r7 4 (by omega)] at c
      refine ⟨a, b, c, fun c2 hc2 => ?_⟩
      have := e c2 (by rw [z3]; omega)
      rw [mq] at this
      unfold PA9
      rw [PX_fr]
      exact this
    have hw : ∀ m, m < nn → (0 ≤ PA9 d dl k 0 m ∧ PA9 d dl k 0 m ≤ 150) ∧ (0 ≤ PA9 d dl k 1 m ∧ PA9 d dl k 1 m ≤ 99) := fun m hm => ⟨iv_2 hI (memA d k m), iv_3 hI (memA d k m)⟩
    have h5 : PA9 d dl k 5 0 = -R * (d (37 + 3 * k) 1).toInt := by rw [← hRR]; rfl
    have h5b : -100000 ≤ -R * (d (37 + 3 * k) 1).toInt ∧ -R * (d (37 + 3 * k) 1).toInt ≤ 100000 := by
      have hc : R = 2 ∨ R = 3 ∨ R = 4 := by omega
      rcases hc with e | e | e <;> rw [e] <;> omega
    refine fn_X6_loadBounds hn hk i10 (S := S) (nn := nn) (R := R) ⟨mR.1, mR.2⟩ (by rw [r10 _ (by omega)]; exact hRR) hS (by rw [w10]; exact z3) (by rw [w10]; exact z2) (by omega) (by omega) hp (fun s => by rw [← hRR]; rfl) (fun s => by rw [← hRR]; rfl) (by rw [h5]; exact h5b) hw (fun d13 Bn i13 F13 L13 B13 => ?_)
    have r13 : ∀ i, (i < 10 ∨ 23 < i) → d13 i = d i := fun i hi => by rw [F13 i (by omega) (by omega) (by omega) (by omega) (by omega) (by omega) (by omega)]; exact r10 i hi
    have w13 : d13 10 = d7 10 := by rw [F13 10 (by omega) (by omega) (by omega) (by omega) (by omega) (by omega) (by omega)]; exact w10
    unfold F_X1_drummerPitch
    have tn : (-(d13 (37 + 3 * k) 0)).toInt = -R := ti_neg (by rw [r13 _ (by omega)]; exact hRR) (by omega) (by omega)
    have td : ((-(d13 (37 + 3 * k) 0)) * (d13 (37 + 3 * k) 1)).toInt = -R * (d (37 + 3 * k) 1).toInt := ti_mul tn (by rw [r13 _ (by omega)]) (by omega) (by omega)
    refine fill_all hn B13 9 0 0 0 0 _ 0 (fun _ => 0) (false, 0, fun _ => 0) d13 _ (by omega) (Nat.zero_le _) i13 L13 rfl (fun m hm => ?_) (fun i hi => absurd hi (Nat.not_lt_zero _)) rfl ?_ rfl (Or.inl ⟨rfl, by rw [w13]; exact z1⟩) (fun dz Fz Bz => ?_)
    · rw [b32_zero]
      exact ⟨fun w => absurd w (by decide), fun ⟨i, hi, _⟩ => absurd hi (Nat.not_lt_zero _)⟩
    · rw [td]
      show _ = PA9 d dl k 5 0 + 0
      rw [h5]
      omega
    · have rz : FrF k d dz := fun i hi => by rw [Fz.2.1 i (by omega) (by omega) (by omega)]; exact r13 i hi
      have q2 : (dz 10 2).toInt = (S : Int) := by rw [Fz.2.2.1 2 (by omega) (by omega), w13]; exact z2
      have Bz : BS dz S (FSof (PA9 d dl k) S nn) := Bz
      rcases Bz with ⟨a, b⟩ | ⟨a, b, c, e⟩
      · rw [b]
        exact ⟨by decide, hQ 0 dz Fz.1 rz q2 (Or.inl ⟨rfl, a⟩)⟩
      · rw [b]
        exact ⟨by decide, hQ 1 dz Fz.1 rz q2 (Or.inr ⟨rfl, a, c, e⟩)⟩
  · have h : ¬ (S : Int) ≤ (nn : Int) := fun q => h ((i_le z2 z3).mpr q)
    refine hQ 0 d7 s7.1 (fun i hi => r7 i (by omega)) z2 (Or.inl ⟨rfl, ?_⟩)
    unfold FSof
    rw [FS_few S 0 _ (by rw [cu_0]; omega)]
def tf (R : Int) (w st : Nat → Int) (lk : Nat → Nat → Bool) (who : Nat → Nat) (what s : Nat) : Int :=
  if what = 0 then (if s % 2 = 0 then w (who s) else -w (who s)) else if what = 1 then w (who s) * pfR R s else if what = 2 then st (who s) * mfR R s else (if s % 2 = 0 ∧ lk (who s) (who (s + 1)) = true then 1 else 0)
def tb (R D : Int) (what : Nat) : Int := if what = 1 then -R * D else 0
def tra (R D : Int) (w st : Nat → Int) (lk : Nat → Nat → Bool) (who : Nat → Nat) (what s : Nat) : Int := tb R D what + sm (tf R w st lk who what) s
def trm (R D : Int) (w st : Nat → Int) (lk : Nat → Nat → Bool) (who : Nat → Nat) (what S : Nat) : Int := if what < 2 then ab (tra R D w st lk who what S) else tra R D w st lk who what S
def wB (d : DD) : Nat → Int := fun p => (d 212 p).toInt
def sB (d : DD) : Nat → Int := fun p => (d 213 p).toInt
def lB (d : DD) : Nat → Nat → Bool := fun a b => decide (¬ d 217 (40 * a + b) = 0)
def whB (d : DD) (c x : Nat) : Nat → Nat := fun s => (d c (x + s)).toNatClampNeg
theorem tf_in {d : DD} (hI : Inv d) {R : Int} (c1 : 2 ≤ R) (c2 : R ≤ 4) {who : Nat → Nat} {what s : Nat} (hw : what ≤ 3) (hs : (s : Int) < 2 * R) : -450 ≤ tf R (wB d) (sB d) (lB d) who what s ∧ tf R (wB d) (sB d) (lB d) who what s ≤ 450 := by
  have a : 0 ≤ wB d (who s) ∧ wB d (who s) ≤ 150 := iv_212 hI (who s)
  have b : 0 ≤ sB d (who s) ∧ sB d (who s) ≤ 99 := iv_213 hI (who s)
  have hp := pf_c (R := R) (s := s) c1 c2 hs
  have hm := mf_c (R := R) (s := s) c1 c2 hs
  unfold tf
  generalize wB d (who s) = u at *
  generalize sB d (who s) = v at *
  split
  · split <;> omega
  · split
    · rcases hp with e | e | e | e | e | e | e <;> rw [e] <;> omega
    · split
      · rcases hm with e | e <;> rw [e] <;> omega
      · split <;> omega
theorem tra_in {d : DD} (hI : Inv d) {R D : Int} (c1 : 2 ≤ R) (c2 : R ≤ 4) (cD : 0 ≤ D ∧ D ≤ 150) {who : Nat → Nat} {what s : Nat} (hw : what ≤ 3) (hs : (s : Int) ≤ 2 * R) : -5000 ≤ tra R D (wB d) (sB d) (lB d) who what s ∧ tra R D (wB d) (sB d) (lB d) who what s ≤ 5000 := by
  have := sm_in (f := tf R (wB d) (sB d) (lB d) who what) (a := -450) (b := 450) (by omega) (by omega) s (by omega) (fun i hi => tf_in hI c1 c2 hw (by omega))
  have h2 : -600 ≤ tb R D what ∧ tb R D what ≤ 0 := by
    unfold tb
    split
    · have hc : R = 2 ∨ R = 3 ∨ R = 4 := by omega
      rcases hc with e | e | e <;> rw [e] <;> omega
    · omega
  unfold tra
  omega
theorem fb_X10_trims_33 {n : Nat} {Q : Int32 → DD → LL → Prop} {c : Nat} {x : Nat} {x3 x4 x5 : Int32} {R D : Int} {what : Nat} (hw : what ≤ 3) {d : DD} {dl : LL} (hI : Inv d) (hrow : RowT c) (h3 : x3.toInt = (x : Int)) (hl : x + 8 ≤ ln c) (hx : x ≤ 100) (h4 : x4.toInt = (what : Int)) (h5 : x5.toInt = R) (c1 : 2 ≤ R) (c2 : R ≤ 4) (cD : 0 ≤ D ∧ D ≤ 150) (hQ : ∀ r : Int32, (∀ S : Nat, (S : Int) = 2 * R → r.toInt = trm R D (wB d) (sB d) (lB d) (whB d c x) what S) → Q r d dl) : ∀ (j s : Nat) (x6 x7 : Int32), x7.toInt = (s : Int) → (s : Int) ≤ 2 * R → x6.toInt = tra R D (wB d) (sB d) (lB d) (whB d c x) what s → 9 ≤ s + j → b_X10_trims_33 n Q j c x3 x4 x5 x6 x7 d dl := by
  intro j
  induction j with
  | zero =>
    intro s x6 x7 h7 hs h6 hj
    exfalso
    omega
  | succ j hK =>
    intro s x6 x7 h7 hs h6 hj
    show _ ∧ _
    have b6 := tra_in hI c1 c2 cD (who := whB d c x) hw hs
    have t5 : ((2 : Int32) * x5).toInt = 2 * R := ti_mul (rfl : (2 : Int32).toInt = 2) h5 (by omega) (by omega)
    refine ⟨fun h => ?_, fun h => ?_⟩
    · have h : 2 * R ≤ (s : Int) := (i_le t5 h7).mp h
      have fs : ∀ S : Nat, (S : Int) = 2 * R → S = s := fun S hS => by omega
      refine ⟨fun w => hQ x6 (fun S hS => ?_), fun w => fn_X10_size h6 (by omega) (fun r hr => hQ r (fun S hS => ?_))⟩
      · have w : 2 ≤ (what : Int) := (i_le (rfl : (2 : Int32).toInt = 2) h4).mp w
        rw [fs S hS]
        unfold trm
        rw [if_neg (by omega)]
        exact h6
      · have w : ¬ 2 ≤ (what : Int) := fun q => w ((i_le (rfl : (2 : Int32).toInt = 2) h4).mpr q)
        rw [fs S hS]
        unfold trm
        rw [if_pos (by omega)]
        exact hr
    · have h : ¬ 2 * R ≤ (s : Int) := fun q => h ((i_le t5 h7).mpr q)
      have hs2 : (s : Int) < 2 * R := by omega
      have t7 : (x7 + 1).toInt = ((s + 1 : Nat) : Int) := inc1 h7 (by omega)
      have ti0 : (x3 + x7).toInt = (x : Int) + (s : Int) := ti_add h3 h7 (by omega) (by omega)
      have ti : (x3 + x7).toInt = ((x + s : Nat) : Int) := by rw [ti0]; omega
      have ei := at_n ti
      have ti1 : ((x3 + x7) + 1).toInt = ((x + (s + 1) : Nat) : Int) := by
        have t9 := inc1 ti (by omega)
        rw [t9]
        omega
      have ei1 := at_n ti1
      have mv := rowt_iv hI hrow (x + s)
      have mv1 := rowt_iv hI hrow (x + (s + 1))
      have bf := tf_in hI c1 c2 (who := whB d c x) hw hs2
      have nx : ∀ y : Int32, y.toInt = tra R D (wB d) (sB d) (lB d) (whB d c x) what s + tf R (wB d) (sB d) (lB d) (whB d c x) what s → b_X10_trims_33 n Q j c x3 x4 x5 y (x7 + 1) d dl := by
        intro y hy
        refine hK (s + 1) y _ t7 (by omega) ?_ (by omega)
        rw [hy]
        show tb R D what + _ + _ = tb R D what + (_ + _)
        omega
      refine ⟨vin ti (by omega) (by omega), ?_⟩
      rw [ei]
      intro v10 e10 v11 e11 v12 e12
      rw [← e10] at mv
      have hwh : v10.toNatClampNeg = whB d c x s := by rw [e10]; rfl
      have hv10 : v10.toNatClampNeg = v10.toInt.toNat := rfl
      have i40 : vp_in v10 40 := vin rfl (by omega) (by omega)
      have t11 : v11.toInt = ((s / 2 : Nat) : Int) := by rw [e11]; exact hlf h7
      have t12 : v12.toInt = R - 1 - ((s / 2 : Nat) : Int) := by rw [e12]; exact ti_sub (ti_sub h5 (rfl : (1 : Int32).toInt = 1) (by omega) (by omega)) t11 (by omega) (by omega)
      have tr : (irem x7 2).toInt = (s : Int) % 2 := ti_rem h7 (rfl : (2 : Int32).toInt = 2) (by omega) (by omega)
      have w0 : x4 = 0 ↔ (what : Int) = 0 := i_eq h4 (rfl : (0 : Int32).toInt = 0)
      have w1 : x4 = 1 ↔ (what : Int) = 1 := i_eq h4 (rfl : (1 : Int32).toInt = 1)
      have w2 : x4 = 2 ↔ (what : Int) = 2 := i_eq h4 (rfl : (2 : Int32).toInt = 2)
      have a1 := iv_212 hI v10.toNatClampNeg
      have a2 := iv_213 hI v10.toNatClampNeg
      have hp := pf_c (R := R) (s := s) c1 c2 hs2
      have hm := mf_c (R := R) (s := s) c1 c2 hs2
      refine ⟨fun n0 => ⟨fun n1 => ⟨fun n2 => ⟨fun o => ?_, fun o => ?_⟩, fun y2 => ⟨i40, fun o => ?_, fun o => ?_⟩⟩, fun y1 => ⟨i40, fun v24 e24 => ?_⟩⟩, fun y0 => ⟨fun o => ⟨i40, ?_⟩, fun o => ⟨i40, ?_⟩⟩⟩
      · have o : ¬ (s : Int) % 2 = 0 := fun q => o ((i_eq tr (rfl : (0 : Int32).toInt = 0)).mpr q)
        refine nx x6 ?_
        have h3' : what = 3 := by
          have := fun q => n0 (w0.mpr q)
          have := fun q => n1 (w1.mpr q)
          have := fun q => n2 (w2.mpr q)
          omega
        rw [h6]
        unfold tf
        rw [if_neg (by omega), if_neg (by omega), if_neg (by omega), if_neg (by omega)]
        omega
      · have o : (s : Int) % 2 = 0 := (i_eq tr (rfl : (0 : Int32).toInt = 0)).mp o
        have h3' : what = 3 := by
          have := fun q => n0 (w0.mpr q)
          have := fun q => n1 (w1.mpr q)
          have := fun q => n2 (w2.mpr q)
          omega
        rw [ei1]
        have hwh1 : (d c (x + (s + 1))).toNatClampNeg = whB d c x (s + 1) := rfl
        obtain ⟨ik, ck⟩ := ix40 (x1 := v10) (x3 := d c (x + (s + 1))) (by omega) (by omega) (by omega) (by omega)
        rw [ck, hwh, hwh1]
        refine ⟨vin ti1 (by omega) (by omega), ik, fun l => nx x6 ?_, fun l => nx _ ?_⟩
        · rw [h6]
          unfold tf
          rw [if_neg (by omega), if_neg (by omega), if_neg (by omega), if_neg (fun w => by
            have := of_decide_eq_true w.2
            exact this l)]
          omega
        · have t1 : (x6 + 1).toInt = tra R D (wB d) (sB d) (lB d) (whB d c x) what s + 1 := ti_add h6 (rfl : (1 : Int32).toInt = 1) (by omega) (by omega)
          rw [t1]
          unfold tf
          rw [if_neg (by omega), if_neg (by omega), if_neg (by omega), if_pos ⟨by omega, decide_eq_true l⟩]
      · have hw2 : what = 2 := by have := w2.mp y2; omega
        have o : R - 1 - ((s / 2 : Nat) : Int) ≤ ((s / 2 : Nat) : Int) := (i_le t12 t11).mp o
        intro v22 e22
        refine nx v22 ?_
        have tm : ((d 213 v10.toNatClampNeg) * v12).toInt = (d 213 v10.toNatClampNeg).toInt * (R - 1 - ((s / 2 : Nat) : Int)) := by
          refine ti_mul rfl t12 ?_ ?_
          · have e : R - 1 - ((s / 2 : Nat) : Int) = 0 ∨ R - 1 - ((s / 2 : Nat) : Int) = 1 := by omega
            rcases e with e | e <;> rw [e] <;> omega
          · have e : R - 1 - ((s / 2 : Nat) : Int) = 0 ∨ R - 1 - ((s / 2 : Nat) : Int) = 1 := by omega
            rcases e with e | e <;> rw [e] <;> omega
        have fe : tf R (wB d) (sB d) (lB d) (whB d c x) what s = (d 213 v10.toNatClampNeg).toInt * (R - 1 - ((s / 2 : Nat) : Int)) := by
          unfold tf
          rw [if_neg (by omega), if_neg (by omega), if_pos hw2, ← hwh]
          unfold mfR
          by_cases q : R - 1 - ((s / 2 : Nat) : Int) < ((s / 2 : Nat) : Int)
          · rw [if_pos q]; rfl
          · rw [if_neg q, show R - 1 - ((s / 2 : Nat) : Int) = ((s / 2 : Nat) : Int) by omega]; rfl
        rw [fe] at bf ⊢
        rw [e22]
        exact ti_add h6 tm (by omega) (by omega)
      · have hw2 : what = 2 := by have := w2.mp y2; omega
        have o : ¬ R - 1 - ((s / 2 : Nat) : Int) ≤ ((s / 2 : Nat) : Int) := fun q => o ((i_le t12 t11).mpr q)
        intro v22 e22
        refine nx v22 ?_
        have tm : ((d 213 v10.toNatClampNeg) * v11).toInt = (d 213 v10.toNatClampNeg).toInt * ((s / 2 : Nat) : Int) := by
          refine ti_mul rfl t11 ?_ ?_
          · have e : ((s / 2 : Nat) : Int) = 0 ∨ ((s / 2 : Nat) : Int) = 1 := by omega
            rcases e with e | e <;> rw [e] <;> omega
          · have e : ((s / 2 : Nat) : Int) = 0 ∨ ((s / 2 : Nat) : Int) = 1 := by omega
            rcases e with e | e <;> rw [e] <;> omega
        have fe : tf R (wB d) (sB d) (lB d) (whB d c x) what s = (d 213 v10.toNatClampNeg).toInt * ((s / 2 : Nat) : Int) := by
          unfold tf
          rw [if_neg (by omega), if_neg (by omega), if_pos hw2, ← hwh]
          unfold mfR
          rw [if_neg (by omega)]
          rfl
        rw [fe] at bf ⊢
        rw [e22]
        exact ti_add h6 tm (by omega) (by omega)
      · have hw1 : what = 1 := by have := w1.mp y1; omega
        refine nx v24 ?_
        have tp : (((2 : Int32) * v11) - (x5 - 1)).toInt = pfR R s := ti_sub (ti_mul (rfl : (2 : Int32).toInt = 2) t11 (by omega) (by omega)) (ti_sub h5 (rfl : (1 : Int32).toInt = 1) (by omega) (by omega)) (by omega) (by omega)
        have fe : tf R (wB d) (sB d) (lB d) (whB d c x) what s = (d 212 v10.toNatClampNeg).toInt * pfR R s := by
          unfold tf
          rw [if_neg (by omega), if_pos hw1, ← hwh]
          rfl
        rw [fe] at bf ⊢
        rw [e24]
        exact ti_add h6 (ti_mul rfl tp (by omega) (by omega)) (by omega) (by omega)
      · have hw0 : what = 0 := by have := w0.mp y0; omega
        have o : ¬ (s : Int) % 2 = 0 := fun q => o ((i_eq tr (rfl : (0 : Int32).toInt = 0)).mpr q)
        intro v27 e27
        refine nx v27 ?_
        have t1 : (x6 + -(d 212 v10.toNatClampNeg)).toInt = tra R D (wB d) (sB d) (lB d) (whB d c x) what s + -(d 212 v10.toNatClampNeg).toInt := ti_add h6 (ti_neg rfl (by omega) (by omega)) (by omega) (by omega)
        rw [e27, t1]
        unfold tf
        rw [if_pos hw0, if_neg (by omega), ← hwh]
        rfl
      · have hw0 : what = 0 := by have := w0.mp y0; omega
        have o : (s : Int) % 2 = 0 := (i_eq tr (rfl : (0 : Int32).toInt = 0)).mp o
        intro v27 e27
        refine nx v27 ?_
        have t1 : (x6 + (d 212 v10.toNatClampNeg)).toInt = tra R D (wB d) (sB d) (lB d) (whB d c x) what s + (d 212 v10.toNatClampNeg).toInt := ti_add h6 rfl (by omega) (by omega)
        rw [e27, t1]
        unfold tf
        rw [if_pos hw0, if_pos (by omega), ← hwh]
        rfl
theorem fn_X10_trims {n : Nat} (hn : 1000000000 ≤ n) {Q : Int32 → DD → LL → Prop} {c x k : Nat} {x1 x3 x4 : Int32} {what S : Nat} (hw : what ≤ 3) {d : DD} {dl : LL} (hI : Inv d) (hrow : RowT c) (h1 : x1.toInt = (k : Int)) (hk : k < 6) (h3 : x3.toInt = (x : Int)) (hl : x + 8 ≤ ln c) (hx : x ≤ 100) (h4 : x4.toInt = (what : Int)) (hR : 2 ≤ (d 218 k).toInt) (hS : (S : Int) = 2 * (d 218 k).toInt) (hQ : ∀ r : Int32, r.toInt = trm (d 218 k).toInt (d 219 k).toInt (wB d) (sB d) (lB d) (whB d c x) what S → Q r d dl) : F_X10_trims n x1 c x3 x4 d dl Q := by
  have mR := iv_218 hI k
  have mD := iv_219 hI k
  have i6 : vp_in x1 6 := vin h1 (by omega) (by omega)
  have e1 := at_n h1
  refine ⟨i6, fun v2 e2 => ?_⟩
  rw [e1] at e2
  rw [e1]
  have t2 : v2.toInt = (d 218 k).toInt := by rw [e2]
  have go : ∀ y : Int32, y.toInt = tb (d 218 k).toInt (d 219 k).toInt what → b_X10_trims_28 n Q c x3 x4 v2 y d dl := fun y hy =>
    fb_X10_trims_33 hw hI hrow h3 hl hx h4 t2 hR mR.2 mD (fun r hr => hQ r (hr S hS)) n 0 y 0 rfl (by omega) (by rw [hy]; show _ = _ + 0; omega) (by omega)
  refine ⟨fun w => go 0 ?_, fun w => ⟨i6, go _ ?_⟩⟩
  · have w : ¬ (what : Int) = 1 := fun q => w ((i_eq h4 (rfl : (1 : Int32).toInt = 1)).mpr q)
    unfold tb
    rw [if_neg (by omega)]
    rfl
  · have w : (what : Int) = 1 := (i_eq h4 (rfl : (1 : Int32).toInt = 1)).mp w
    unfold tb
    rw [if_pos (by omega)]
    have tn : (-v2).toInt = -(d 218 k).toInt := ti_neg t2 (by omega) (by omega)
    have hb : -600 ≤ -(d 218 k).toInt * (d 219 k).toInt ∧ -(d 218 k).toInt * (d 219 k).toInt ≤ 0 := by
      have hc : (d 218 k).toInt = 2 ∨ (d 218 k).toInt = 3 ∨ (d 218 k).toInt = 4 := by omega
      rcases hc with e | e | e <;> rw [e] <;> omega
    exact ti_mul tn rfl (by omega) (by omega)
def tltB (R D : Int) (w st : Nat → Int) (lk : Nat → Nat → Bool) (who : Nat → Nat) (S : Nat) : Int := 4 * trm R D w st lk who 0 S + trm R D w st lk who 1 S - trm R D w st lk who 2 S - 20 * trm R D w st lk who 3 S
theorem trm_in {d : DD} (hI : Inv d) {R D : Int} (c1 : 2 ≤ R) (c2 : R ≤ 4) (cD : 0 ≤ D ∧ D ≤ 150) {who : Nat → Nat} {what s : Nat} (hw : what ≤ 3) (hs : (s : Int) ≤ 2 * R) : -5000 ≤ trm R D (wB d) (sB d) (lB d) who what s ∧ trm R D (wB d) (sB d) (lB d) who what s ≤ 5000 := by
  have := tra_in hI c1 c2 cD (who := who) hw hs
  unfold trm ab
  split
  · split <;> omega
  · omega
theorem fn_X10_tilt {n : Nat} (hn : 1000000000 ≤ n) {Q : Int32 → DD → LL → Prop} {c x k : Nat} {x1 x3 : Int32} {S : Nat} {d : DD} {dl : LL} (hI : Inv d) (hrow : RowT c) (h1 : x1.toInt = (k : Int)) (hk : k < 6) (h3 : x3.toInt = (x : Int)) (hl : x + 8 ≤ ln c) (hx : x ≤ 100) (hR : 2 ≤ (d 218 k).toInt) (hS : (S : Int) = 2 * (d 218 k).toInt) (hQ : ∀ r : Int32, r.toInt = tltB (d 218 k).toInt (d 219 k).toInt (wB d) (sB d) (lB d) (whB d c x) S → Q r d dl) : F_X10_tilt n x1 c x3 d dl Q := by
  have mR := iv_218 hI k
  have mD := iv_219 hI k
  refine fn_X10_trims hn (what := 0) (by omega) hI hrow h1 hk h3 hl hx rfl hR hS (fun r1 hr1 => ?_)
  refine fn_X10_trims hn (what := 1) (by omega) hI hrow h1 hk h3 hl hx rfl hR hS (fun r4 hr4 => ?_)
  refine fn_X10_trims hn (what := 2) (by omega) hI hrow h1 hk h3 hl hx rfl hR hS (fun r7 hr7 => ?_)
  refine fn_X10_trims hn (what := 3) (by omega) hI hrow h1 hk h3 hl hx rfl hR hS (fun r10 hr10 => hQ _ ?_)
  have b0 := trm_in hI hR mR.2 mD (who := whB d c x) (what := 0) (s := S) (by omega) (by omega)
  have b1 := trm_in hI hR mR.2 mD (who := whB d c x) (what := 1) (s := S) (by omega) (by omega)
  have b2 := trm_in hI hR mR.2 mD (who := whB d c x) (what := 2) (s := S) (by omega) (by omega)
  have b3 := trm_in hI hR mR.2 mD (who := whB d c x) (what := 3) (s := S) (by omega) (by omega)
  have t : (((((4 : Int32) * r1) + r4) - r7) - ((20 : Int32) * r10)).toInt = 4 * trm (d 218 k).toInt (d 219 k).toInt (wB d) (sB d) (lB d) (whB d c x) 0 S + trm (d 218 k).toInt (d 219 k).toInt (wB d) (sB d) (lB d) (whB d c x) 1 S - trm (d 218 k).toInt (d 219 k).toInt (wB d) (sB d) (lB d) (whB d c x) 2 S - 20 * trm (d 218 k).toInt (d 219 k).toInt (wB d) (sB d) (lB d) (whB d c x) 3 S :=
    ti_sub (ti_sub (ti_add (ti_mul (rfl : (4 : Int32).toInt = 4) hr1 (by omega) (by omega)) hr4 (by omega) (by omega)) hr7 (by omega) (by omega)) (ti_mul (rfl : (20 : Int32).toInt = 20) hr10 (by omega) (by omega)) (by omega) (by omega)
  exact t
theorem sm_add {f g : Nat → Int} : ∀ k : Nat, sm (fun i => f i + g i) k = sm f k + sm g k := by
  intro k
  induction k with
  | zero => rfl
  | succ k ih =>
    show sm (fun i => f i + g i) k + (f k + g k) = sm f k + f k + (sm g k + g k)
    rw [ih]
    omega
theorem sm_20 {f : Nat → Int} : ∀ k : Nat, sm (fun i => 20 * f i) k = 20 * sm f k := by
  intro k
  induction k with
  | zero => rfl
  | succ k ih =>
    show sm (fun i => 20 * f i) k + 20 * f k = 20 * (sm f k + f k)
    rw [ih]
    omega
theorem pairs {lk : Nat → Nat → Bool} {who : Nat → Nat} : ∀ r : Nat, (∀ i, i < 2 * r → i % 2 = 0 → lk (who i) (who (i + 1)) = lk (who (i + 1)) (who i)) → sm (fun i => if i % 2 = 1 ∧ lk (who i) (who (i - 1)) = true then (1 : Int) else 0) (2 * r) = sm (fun s => if s % 2 = 0 ∧ lk (who s) (who (s + 1)) = true then (1 : Int) else 0) (2 * r) := by
  intro r
  induction r with
  | zero => intro _; rfl
  | succ r ih =>
    intro h
    rw [show 2 * (r + 1) = 2 * r + 1 + 1 by omega]
    show sm _ (2 * r) + (if (2 * r) % 2 = 1 ∧ lk (who (2 * r)) (who (2 * r - 1)) = true then (1 : Int) else 0) + (if (2 * r + 1) % 2 = 1 ∧ lk (who (2 * r + 1)) (who (2 * r + 1 - 1)) = true then (1 : Int) else 0) = sm _ (2 * r) + (if (2 * r) % 2 = 0 ∧ lk (who (2 * r)) (who (2 * r + 1)) = true then (1 : Int) else 0) + (if (2 * r + 1) % 2 = 0 ∧ lk (who (2 * r + 1)) (who (2 * r + 1 + 1)) = true then (1 : Int) else 0)
    rw [ih (fun i hi h2 => h i (by omega) h2), if_neg (show ¬ ((2 * r) % 2 = 1 ∧ _) from fun w => by have := w.1; omega), if_neg (show ¬ ((2 * r + 1) % 2 = 0 ∧ _) from fun w => by have := w.1; omega), show 2 * r + 1 - 1 = 2 * r by omega]
    have e := h (2 * r) (by omega) (by omega)
    by_cases w : lk (who (2 * r)) (who (2 * r + 1)) = true
    · rw [if_pos (show (2 * r + 1) % 2 = 1 ∧ _ from ⟨by omega, by rw [← e]; exact w⟩), if_pos (show (2 * r) % 2 = 0 ∧ _ from ⟨by omega, w⟩)]
      omega
    · rw [if_neg (show ¬ ((2 * r + 1) % 2 = 1 ∧ _) from fun q => w (by rw [e]; exact q.2)), if_neg (show ¬ ((2 * r) % 2 = 0 ∧ _) from fun q => w q.2)]
theorem tlt_eq {R D : Int} {mem ch : Nat → Nat} {w st ar : Nat → Int} {fr : Nat → Nat → Bool} {who : Nat → Nat} {S r : Nat} (hS : S = 2 * r) (hw : ∀ i, i < S → who i = mem (ch i)) (hsym : ∀ a b, a < S → b < S → fr (mem (ch a)) (mem (ch b)) = fr (mem (ch b)) (mem (ch a))) : tltB R D w st fr who S = tlt (PX R D mem w st ar fr) S ch := by
  have q0 : tra R D w st fr who 0 S = leS (PX R D mem w st ar fr) ch S := by
    show 0 + sm _ S = sm _ S
    rw [Int.zero_add]
    exact sm_k S (fun i hi => by
      show (if i % 2 = 0 then w (who i) else -w (who i)) = (if i % 2 = 0 then w (mem (ch i)) else -w (mem (ch i)))
      rw [hw i hi])
  have q1 : tra R D w st fr who 1 S = piS (PX R D mem w st ar fr) ch S := by
    show -R * D + sm _ S = -R * D + sm _ S
    congr 1
    exact sm_k S (fun i hi => by
      show w (who i) * pfR R i = w (mem (ch i)) * pfR R i
      rw [hw i hi])
  have q23 : tra R D w st fr who 2 S + 20 * tra R D w st fr who 3 S = gaS (PX R D mem w st ar fr) ch S := by
    have e3 : tra R D w st fr who 3 S = sm (fun i => if i % 2 = 1 ∧ fr (who i) (who (i - 1)) = true then (1 : Int) else 0) S := by
      show 0 + sm (tf R w st fr who 3) S = _
      rw [Int.zero_add, sm_k (f := tf R w st fr who 3) (g := fun s => if s % 2 = 0 ∧ fr (who s) (who (s + 1)) = true then (1 : Int) else 0) S (fun i _ => rfl), hS]
      exact (pairs r (fun i hi h2 => by rw [hw i (by omega), hw (i + 1) (by omega)]; exact hsym i (i + 1) (by omega) (by omega))).symm
    rw [e3, ← sm_20]
    show 0 + sm _ S + sm _ S = sm _ S
    rw [Int.zero_add, ← sm_add]
    exact sm_k S (fun i hi => by
      show st (who i) * mfR R i + 20 * (if i % 2 = 1 ∧ fr (who i) (who (i - 1)) = true then (1 : Int) else 0) = st (mem (ch i)) * mfR R i + (if i % 2 = 1 ∧ PX R D mem w st ar fr (10 + ch i) (ch (i - 1)) = 1 then 20 else 0)
      rw [hw i hi]
      by_cases o : i % 2 = 1
      · rw [hw (i - 1) (by omega)]
        by_cases f : fr (mem (ch i)) (mem (ch (i - 1))) = true
        · rw [if_pos ⟨o, f⟩, if_pos ⟨o, PX_fr.mpr f⟩]
          omega
        · rw [if_neg (fun q => f q.2), if_neg (fun q => f (PX_fr.mp q.2))]
          omega
      · rw [if_neg (fun q => o q.1), if_neg (fun q => o q.1)]
        omega)
  unfold tltB tlt trm
  rw [if_pos (by omega), if_pos (by omega), if_neg (by omega), if_neg (by omega), q0, q1, ← q23]
  omega
theorem sr_s32 : ∀ k : Fin 32, (((Int32.ofNat k.1) &&& 31).toBitVec.smod 32#32) = BitVec.ofNat 32 k.1 := by decide +kernel
theorem b32_sar {m : Int32} {x : Int32} {j : Nat} (h0 : 0 ≤ x.toInt) (hj : x.toNatClampNeg + j < 32) : b32 (m >>> (x &&& 31)) j = b32 m (x.toNatClampNeg + j) := by
  have hk : x.toNatClampNeg < 32 := by omega
  have e := sr_s32 ⟨x.toNatClampNeg, hk⟩
  rw [show (Int32.ofNat (⟨x.toNatClampNeg, hk⟩ : Fin 32).1) = x from (i32_of h0).symm] at e
  unfold b32
  rw [Int32.toBitVec_shiftRight]
  show (m.toBitVec.sshiftRight' ((x &&& 31).toBitVec.smod 32#32)).getLsbD j = _
  rw [e]
  show (m.toBitVec.sshiftRight (BitVec.ofNat 32 x.toNatClampNeg).toNat).getLsbD j = _
  have hn : (BitVec.ofNat 32 x.toNatClampNeg).toNat = x.toNatClampNeg := by
    rw [BitVec.toNat_ofNat]
    omega
  rw [hn, BitVec.getLsbD_sshiftRight, if_pos hj]
  have : decide (32 ≤ j) = false := decide_eq_false (by omega)
  rw [this]
  rfl
theorem b32_r1 {m : Int32} {x : Int32} (h0 : 0 ≤ x.toInt) (h1 : x.toInt < 32) : ((m >>> (x &&& 31)) &&& 1) = 1 ↔ b32 m x.toNatClampNeg = true := by
  have hx : x.toNatClampNeg = x.toInt.toNat := rfl
  have b1 : ∀ j, b32 1 j = decide (j = 0) := by
    intro j
    show (1#32).getLsbD j = _
    simp
  constructor
  · intro h
    have e : b32 ((m >>> (x &&& 31)) &&& 1) 0 = b32 1 0 := by rw [h]
    rw [b32_and, b32_sar h0 (by omega), b1] at e
    simpa using e
  · intro h
    apply b32_ext
    intro j hj
    rw [b32_and, b1]
    by_cases hz : j = 0
    · subst hz
      rw [b32_sar h0 (by omega), Nat.add_zero, h]
      rfl
    · simp [hz]
theorem b32_not {y : Int32} {x : Nat} (h0 : 0 ≤ y.toInt) (h1 : y.toInt < 32) (hx : x < 32) : b32 (((1 : Int32) <<< (y &&& 31)) ^^^ (-1)) x = !decide (x = y.toNatClampNeg) := by
  have e : b32 (((1 : Int32) <<< (y &&& 31)) ^^^ (-1)) x = (b32 ((1 : Int32) <<< (y &&& 31)) x ^^ b32 (-1) x) := by
    unfold b32
    rw [Int32.toBitVec_xor, BitVec.getLsbD_xor]
  rw [e, b32_m1 hx, b32_one h0 h1]
  simp
def cutN (c : Nat → Nat) (s : Nat) : Nat → Nat := fun i => if i < s then c i else 0
theorem cut_u {c : Nat → Nat} {s v : Nat} : cutN (upN c s v) s = cutN c s := by
  funext i
  unfold cutN
  by_cases h : i < s
  · rw [if_pos h, if_pos h, upN_n (by omega)]
  · rw [if_neg h, if_neg h]
theorem cut_s {c : Nat → Nat} {s v : Nat} : cutN (upN c s v) (s + 1) = upN (cutN c s) s v := by
  funext i
  unfold cutN
  by_cases h : i = s
  · subst h
    rw [if_pos (by omega), upN_e, upN_e]
  · rw [upN_n h, upN_n h]
    by_cases h2 : i < s
    · rw [if_pos (by omega), if_pos h2]
    · rw [if_neg (by omega), if_neg h2]
theorem cut_t {c : Nat → Nat} {s t v : Nat} (h : t ≤ s) : cutN (upN c s v) t = cutN c t := by
  funext i
  unfold cutN
  by_cases h2 : i < t
  · rw [if_pos h2, if_pos h2, upN_n (by omega)]
  · rw [if_neg h2, if_neg h2]
noncomputable def RMu (P : Nat → Nat → Int) (S n : Nat) : Nat → (Nat → Nat) → Bool × Int × (Nat → Nat) → Bool × Int × (Nat → Nat)
  | 0, _, B => B
  | s + 1, c, B => RMu P S n s c (lpm (fsm P S n (S - s - 1) s (cutN c s)) (n - (c s + 1)) (c s + 1) B)
theorem RMu_u {P : Nat → Nat → Int} {S n : Nat} {c : Nat → Nat} {s v : Nat} : ∀ (t : Nat) (B : Bool × Int × (Nat → Nat)), t ≤ s → RMu P S n t (upN c s v) B = RMu P S n t c B := by
  intro t
  induction t with
  | zero => intro B _; rfl
  | succ t ih =>
    intro B h
    show RMu P S n t (upN c s v) (lpm (fsm P S n (S - t - 1) t (cutN (upN c s v) t)) (n - (upN c s v t + 1)) (upN c s v t + 1) B) = RMu P S n t c (lpm (fsm P S n (S - t - 1) t (cutN c t)) (n - (c t + 1)) (c t + 1) B)
    rw [upN_n (by omega), cut_t (by omega)]
    exact ih _ (by omega)
def memB (d : DD) (k : Nat) : Nat → Nat := fun j => if j < 8 then (d 222 (8 * k + j)).toNatClampNeg else 0
def PB (d : DD) (k : Nat) : Nat → Nat → Int := PX (d 218 k).toInt (d 219 k).toInt (memB d k) (wB d) (sB d) (fun p => (d 214 p).toInt) (lB d)
def FrS (d0 d : DD) : Prop := Inv d ∧ ∀ i, i ≠ 244 → i ≠ 245 → i ≠ 247 → d i = d0 i
def BSB (d0 d : DD) (k S : Nat) (x4 x5 : Int32) (B : Bool × Int × (Nat → Nat)) : Prop := (B.1 = false ∧ x5 = 0) ∨ (B.1 = true ∧ x5 = 1 ∧ x4.toInt = B.2.1 ∧ ∀ i, i < S → (d 245 i).toInt = ((memB d0 k (B.2.2 i) : Nat) : Int))
def SL (d0 : DD) (k S nn : Nat) (T : Bool × Int × (Nat → Nat)) (x4 x5 x7 : Int32) (s : Nat) (d : DD) : Prop :=
  ∃ (c : Nat → Nat) (cur : Int) (B : Bool × Int × (Nat → Nat)), FrS d0 d ∧ BSB d0 d k S x4 x5 B ∧ s < S ∧ (∀ i, i < s → (d 244 i).toInt = (c i : Int) ∧ c i < nn ∧ (d 247 i).toInt = ((memB d0 k (c i) : Nat) : Int)) ∧ (d 244 s).toInt = cur ∧ (∀ i, s < i → i < 8 → (d 244 i).toInt = -1) ∧ (-1 ≤ cur ∧ cur < (nn : Int)) ∧ (∀ i j, i < j → j < s → ¬ c i = c j) ∧ (∀ i, i < s → ¬ (c i : Int) = cur) ∧ (∀ m : Nat, m < nn → (b32 x7 m = true ↔ ((∃ i, i < s ∧ c i = m) ∨ cur = (m : Int)))) ∧ T = RMu (PB d0 k) S nn s c (lpm (fsm (PB d0 k) S nn (S - s - 1) s (cutN c s)) (nn - (cur + 1).toNat) (cur + 1).toNat B)
theorem fn_X10_fits {n : Nat} {x1 x2 : Int32} {d : DD} {dl : LL} {p s : Nat} (h1 : x1.toInt = (p : Int)) (hp : p < 40) (h2 : x2.toInt = (s : Int)) {Q : Int32 → DD → LL → Prop} (hI : Inv d) (hQ : ∀ r : Int32, ((r = 1 ∧ ¬ (d 214 p).toInt = 1 - ((s % 2 : Nat) : Int)) ∨ (r = 0 ∧ (d 214 p).toInt = 1 - ((s % 2 : Nat) : Int))) → Q r d dl) : F_X10_fits n x1 x2 d dl Q := by
  have i1 : vp_in x1 40 := vin h1 (by omega) (by omega)
  have e1 := at_n h1
  have m := iv_214 hI p
  have tr : (irem x2 2).toInt = (s : Int) % 2 := ti_rem h2 (rfl : (2 : Int32).toInt = 2) (by omega) (by omega)
  rw [show F_X10_fits n x1 x2 d dl Q = (vp_in x1 40 ∧ ((d 214 x1.toNatClampNeg) = 2 → Q 1 d dl) ∧ (¬ (d 214 x1.toNatClampNeg) = 2 → vp_in x1 40 ∧ (¬ (d 214 x1.toNatClampNeg) = (irem x2 2) → Q 0 d dl) ∧ ((d 214 x1.toNatClampNeg) = (irem x2 2) → Q 1 d dl))) from rfl, e1]
  refine ⟨i1, fun w => hQ 1 (Or.inl ⟨rfl, ?_⟩), fun w => ⟨i1, fun w2 => hQ 0 (Or.inr ⟨rfl, ?_⟩), fun w2 => hQ 1 (Or.inl ⟨rfl, ?_⟩)⟩⟩
  · have w : (d 214 p).toInt = 2 := (i_eq rfl (rfl : (2 : Int32).toInt = 2)).mp w
    omega
  · have w : ¬ (d 214 p).toInt = 2 := fun q => w ((i_eq rfl (rfl : (2 : Int32).toInt = 2)).mpr q)
    have w2 : ¬ (d 214 p).toInt = (s : Int) % 2 := fun q => w2 ((i_eq rfl tr).mpr q)
    omega
  · have w2 : (d 214 p).toInt = (s : Int) % 2 := (i_eq rfl tr).mp w2
    omega
def KOK (K63 : Int32 → Int32 → Int32 → Int32 → Int32 → Int32 → Int32 → DD → LL → Prop) (d0 : DD) (dl : LL) (k S nn : Nat) (T : Bool × Int × (Nat → Nat)) (x1 x2 x3 : Int32) (j : Nat) : Prop := ∀ (x4 x5 x6 x7 : Int32) (d : DD), ((∃ s : Nat, x6.toInt = (s : Int) ∧ SL d0 k S nn T x4 x5 x7 s d) ∨ (x6.toInt = -1 ∧ FrS d0 d ∧ BSB d0 d k S x4 x5 T)) → muS d x6.toInt < (j : Int) → K63 x1 x2 x3 x4 x5 x6 x7 d dl
theorem fb_X10_seat_254 {n : Nat} {Q : Int32 → DD → LL → Prop} {K63 : Int32 → Int32 → Int32 → Int32 → Int32 → Int32 → Int32 → DD → LL → Prop} {x1 x2 x3 x4 x5 x6 x7 : Int32} {dl : LL} {S : Nat} (h2 : x2.toInt = (S : Int)) (hS : S ≤ 8) : ∀ (j i : Nat) (x10 : Int32) (d : DD), Inv d → x10.toInt = (i : Int) → i ≤ S → (∀ a, a < i → d 245 a = d 247 a) → 9 ≤ i + j → (∀ dz : DD, Inv dz → (∀ a, a ≠ 245 → dz a = d a) → (∀ a, a < S → dz 245 a = d 247 a) → K63 x1 x2 x3 x4 x5 x6 x7 dz dl) → b_X10_seat_254 n Q K63 j x1 x2 x3 x4 x5 x6 x7 x10 d dl := by
  intro j
  induction j with
  | zero =>
    intro i x10 d hI h10 hi hc hj hK
    exfalso
    omega
  | succ j ih =>
    intro i x10 d hI h10 hi hc hj hK
    show _ ∧ _
    have e10 := at_n h10
    refine ⟨fun h => ?_, fun h => ?_⟩
    · have h : (S : Int) ≤ (i : Int) := (i_le h2 h10).mp h
      exact hK d hI (fun _ _ => rfl) (fun a ha => hc a (by omega))
    · have h : ¬ (S : Int) ≤ (i : Int) := fun q => h ((i_le h2 h10).mpr q)
      have i8 : vp_in x10 8 := vin h10 (by omega) (by omega)
      rw [e10]
      refine ⟨i8, i8, fun d38 e38 => ?_⟩
      have m := iv_247 hI i
      have s38 : StP pN d dl d38 dl := by rw [e38]; exact pw_245 (StP.rf hI) m.1 m.2 rfl
      have r38 : ∀ a, a ≠ 245 → d38 a = d a := fun a ha => by rw [e38, u2_row ha]
      refine ih (i + 1) _ d38 s38.1 (inc1 h10 (by omega)) (by omega) (fun a ha => ?_) (by omega) (fun dz iz f1 f2 => hK dz iz (fun a ha => (f1 a ha).trans (r38 a ha)) (fun a ha => by rw [f2 a ha, r38 247 (by omega)]))
      rw [r38 247 (by omega)]
      by_cases he : a = i
      · rw [he, e38, u2_eq]
      · rw [e38, u2_ne (Or.inr he)]
        exact hc a (by omega)
theorem seat_149 {n : Nat} (hn : 1000000000 ≤ n) {Q : Int32 → DD → LL → Prop} {K63 : Int32 → Int32 → Int32 → Int32 → Int32 → Int32 → Int32 → DD → LL → Prop} {d0 : DD} {dl : LL} {k S nn : Nat} {T : Bool × Int × (Nat → Nat)} {x1 x2 x3 x4 x5 x6 x7 x8 : Int32} {j : Nat} (hK : KOK K63 d0 dl k S nn T x1 x2 x3 j) (hk : k < 6) (h1 : x1.toInt = (k : Int)) (h2 : x2.toInt = (S : Int)) (h3 : x3.toInt = (nn : Int)) (hn8 : nn ≤ 8) (hR : 2 ≤ (d0 218 k).toInt) (hS : (S : Int) = 2 * (d0 218 k).toInt) (hS8 : S ≤ 8) (hsym : ∀ a b, a < 40 → b < 40 → lB d0 a b = lB d0 b a) {s v : Nat} {c : Nat → Nat} {cur : Int} {B : Bool × Int × (Nat → Nat)} {d : DD} (hF : FrS d0 d) (hB : BSB d0 d k S x4 x5 B) (hs : s < S) (hc : ∀ i, i < s → (d 244 i).toInt = (c i : Int) ∧ c i < nn ∧ (d 247 i).toInt = ((memB d0 k (c i) : Nat) : Int)) (hcur : (d 244 s).toInt = cur) (hhi : ∀ i, s < i → i < 8 → (d 244 i).toInt = -1) (hd : ∀ i j, i < j → j < s → ¬ c i = c j) (hu : ∀ m : Nat, m < nn → (b32 x7 m = true ↔ ∃ i, i < s ∧ c i = m)) (h6 : x6.toInt = (s : Int)) (h8 : x8.toInt = (v : Int)) (hv : v ≤ nn) (hcv : cur + 1 ≤ (v : Int)) (hok : v < nn → okS (PB d0 k) s v (cutN c s)) (hT : T = RMu (PB d0 k) S nn s c (lpm (fsm (PB d0 k) S nn (S - s - 1) s (cutN c s)) (nn - v) v B)) (hm : muS d x6.toInt ≤ (j : Int)) : b_X10_seat_149 n Q K63 x1 x2 x3 x4 x5 x6 x7 x8 d dl := by
  have e6 := at_n h6
  have i6 : vp_in x6 8 := vin h6 (by omega) (by omega)
  refine ⟨fun h => ⟨i6, fun d25 e25 v26 e26 => ?_⟩, fun h => ⟨i6, fun d41 e41 => ?_⟩⟩
  · have h : ¬ (v : Int) = (nn : Int) := fun q => h ((i_eq h8 h3).mpr q)
    have hvn : v < nn := by omega
    have ok := hok hvn
    obtain ⟨ii, ci⟩ := ix8 (x1 := x1) (x3 := x8) (by omega) (by omega) (by omega) (by omega)
    rw [at_n h1, at_n h8] at ci
    have e8 := at_n h8
    rw [e6] at e25
    refine ⟨ii, i6, ?_⟩
    rw [ci, e6]
    intro d29 e29
    have m222 := iv_222 hF.1 (8 * k + v)
    have r25 : d25 222 = d 222 := by rw [e25, u2_row (by omega)]
    have q222 : d 222 = d0 222 := hF.2 222 (by omega) (by omega) (by omega)
    have s25 : StP pN d dl d25 dl := by rw [e25]; exact pw_244 (StP.rf hF.1) (by omega) (by omega) rfl
    have s29 : StP pN d dl d29 dl := by rw [e29]; exact pw_247 s25 (by rw [r25]; omega) (by rw [r25]; omega) rfl
    have F29 : FrS d0 d29 := ⟨s29.1, fun i a b e => by rw [e29, u2_row e, e25, u2_row a]; exact hF.2 i a b e⟩
    have hmb : (d0 222 (8 * k + v)).toInt = ((memB d0 k v : Nat) : Int) := by
      unfold memB
      rw [if_pos (by omega), ← q222]
      have : (d 222 (8 * k + v)).toNatClampNeg = (d 222 (8 * k + v)).toInt.toNat := rfl
      omega
    have p244 : ∀ i, i ≠ s → d29 244 i = d 244 i := fun i hi => by rw [e29, u2_row (by omega), e25, u2_ne (Or.inr hi)]
    have p244s : (d29 244 s).toInt = (v : Int) := by rw [e29, u2_row (by omega), e25, u2_eq]; exact h8
    have p247 : ∀ i, i ≠ s → d29 247 i = d 247 i := fun i hi => by rw [e29, u2_ne (Or.inr hi), e25, u2_row (by omega)]
    have p247s : (d29 247 s).toInt = ((memB d0 k v : Nat) : Int) := by rw [e29, u2_eq, r25, q222]; exact hmb
    have p245 : d29 245 = d 245 := by rw [e29, u2_row (by omega), e25, u2_row (by omega)]
    have cok : ∀ i, i < s → ¬ c i = v := fun i hi q => ok.1 i hi (by unfold cutN; rw [if_pos hi]; exact q)
    have us : ∀ m : Nat, m < nn → (b32 v26 m = true ↔ ((∃ i, i < s ∧ c i = m) ∨ (v : Int) = (m : Int))) := by
      intro m hmn
      rw [e26, b32_or, b32_one (by omega) (by omega), e8, Bool.or_eq_true]
      refine or_congr (hu m hmn) ⟨fun q => ?_, fun q => decide_eq_true (by omega)⟩
      have := of_decide_eq_true q
      omega
    have mu := mu_up (d := d) (d2 := d29) (x6 := x6) (x8 := x8) hF.1 (by omega) (by omega) (by rw [e6, hcur, h8]; exact hcv) (fun i => by rw [e6, e29, u2_row (by omega), e25])
    have t6 : (x6 + 1).toInt = ((s + 1 : Nat) : Int) := inc1 h6 (by omega)
    have hz : nn - v = (nn - (v + 1)) + 1 := by omega
    rw [hz, lpm_s, fsm_y ok] at hT
    generalize hch : upN (cutN c s) s v = ch at *
    have same : ∀ (y4 y5 : Int32) (d2 : DD) (B2 : Bool × Int × (Nat → Nat)), FrS d0 d2 → (∀ i, d2 244 i = d29 244 i) → (∀ i, d2 247 i = d29 247 i) → BSB d0 d2 k S y4 y5 B2 → T = RMu (PB d0 k) S nn s c (lpm (fsm (PB d0 k) S nn (S - s - 1) s (cutN c s)) (nn - (v + 1)) (v + 1) B2) → K63 x1 x2 x3 y4 y5 x6 v26 d2 dl := by
      intro y4 y5 d2 B2 F2 a2 b2 C2 T2
      refine hK y4 y5 x6 v26 d2 (Or.inl ⟨s, h6, c, (v : Int), B2, F2, C2, hs, fun i hi => ?_, by rw [a2]; exact p244s, fun i hi1 hi2 => ?_, ⟨by omega, by omega⟩, hd, fun i hi q => cok i hi (by omega), us, ?_⟩) ?_
      · rw [a2, b2, p244 i (by omega), p247 i (by omega)]
        exact hc i hi
      · rw [a2, p244 i (by omega)]
        exact hhi i hi1 hi2
      · rw [show ((v : Int) + 1).toNat = v + 1 by omega]
        exact T2
      · have := muS_congr a2 x6.toInt
        omega
    refine ⟨fun h9 => ?_, fun h9 => ?_⟩
    · have h9 : (S : Int) ≤ ((s + 1 : Nat) : Int) := (i_le h2 t6).mp h9
      have hs1 : s + 1 = S := by omega
      have hz0 : S - s - 1 = 0 := by omega
      have r218 : d29 218 = d0 218 := F29.2 218 (by omega) (by omega) (by omega)
      have r219 : d29 219 = d0 219 := F29.2 219 (by omega) (by omega) (by omega)
      have rw_ : wB d29 = wB d0 := by unfold wB; rw [F29.2 212 (by omega) (by omega) (by omega)]
      have rs_ : sB d29 = sB d0 := by unfold sB; rw [F29.2 213 (by omega) (by omega) (by omega)]
      have rl_ : lB d29 = lB d0 := by unfold lB; rw [F29.2 217 (by omega) (by omega) (by omega)]
      refine fn_X10_tilt hn (c := 247) (x := 0) (S := S) s29.1 (Or.inl rfl) h1 hk rfl (by decide) (by omega) (by rw [r218]; exact hR) (by rw [r218]; exact hS) (fun r31 hr31 => ?_)
      rw [r218, r219, rw_, rs_, rl_] at hr31
      have hwho : ∀ i, i < S → whB d29 247 0 i = memB d0 k (ch i) := by
        intro i hi
        unfold whB
        rw [Nat.zero_add, ← hch]
        by_cases he : i = s
        · rw [he, upN_e]
          exact at_n p247s
        · rw [upN_n he, p247 i he]
          unfold cutN
          rw [if_pos (by omega)]
          exact at_n (hc i (by omega)).2.2
      have m40 : ∀ x, memB d0 k x < 40 := by
        intro x
        unfold memB
        by_cases q : x < 8
        · rw [if_pos q, ← q222]
          have a := iv_222 hF.1 (8 * k + x)
          have : (d 222 (8 * k + x)).toNatClampNeg = (d 222 (8 * k + x)).toInt.toNat := rfl
          omega
        · rw [if_neg q]; omega
      have hr : r31.toInt = tlt (PB d0 k) S ch := by
        rw [hr31]
        exact tlt_eq (r := (d0 218 k).toInt.toNat) (by omega) hwho (fun a b _ _ => hsym _ _ (m40 _) (m40 _))
      have hT : T = RMu (PB d0 k) S nn s c (lpm (fsm (PB d0 k) S nn (S - s - 1) s (cutN c s)) (nn - (v + 1)) (v + 1) (upb B (tlt (PB d0 k) S ch) ch)) := by
        rw [hT, hz0]
        rfl
      have put : ¬ (B.1 = true ∧ B.2.1 ≤ tlt (PB d0 k) S ch) → b_X10_seat_244 n Q K63 x1 x2 x3 x6 v26 r31 d29 dl := by
        intro w
        refine fb_X10_seat_254 h2 hS8 n 0 0 d29 s29.1 rfl (Nat.zero_le _) (fun a ha => absurd ha (Nat.not_lt_zero _)) (by omega) (fun dz iz f1 f2 => ?_)
        refine same r31 1 dz _ ⟨iz, fun i a b e => by rw [f1 i b]; exact F29.2 i a b e⟩ (fun i => by rw [f1 244 (by omega)]) (fun i => by rw [f1 247 (by omega)]) ?_ hT
        unfold upb
        rw [if_neg w]
        refine Or.inr ⟨rfl, rfl, hr, fun i hi => ?_⟩
        rw [f2 i hi]
        have a := iv_247 s29.1 i
        have b : (d29 247 i).toNatClampNeg = (d29 247 i).toInt.toNat := rfl
        have e := hwho i hi
        unfold whB at e
        rw [Nat.zero_add] at e
        show (d29 247 i).toInt = ((memB d0 k (ch i) : Nat) : Int)
        omega
      refine ⟨fun w => put (fun q => ?_), fun w => ⟨fun w2 => ?_, fun w2 => put (fun q => ?_)⟩⟩
      · rcases hB with ⟨a, _⟩ | ⟨_, a, _⟩
        · exact absurd (a.symm.trans q.1) (by decide)
        · exact absurd (a.symm.trans w) (by decide)
      · rcases hB with ⟨_, a⟩ | ⟨a1, a2, a3, a4⟩
        · exact absurd a w
        have w2 : B.2.1 ≤ tlt (PB d0 k) S ch := (i_le a3 hr).mp w2
        refine same x4 x5 d29 B F29 (fun _ => rfl) (fun _ => rfl) (Or.inr ⟨a1, a2, a3, fun i hi => by rw [p245]; exact a4 i hi⟩) ?_
        rw [hT]
        unfold upb
        rw [if_pos ⟨a1, w2⟩]
      · rcases hB with ⟨_, a⟩ | ⟨a1, a2, a3, a4⟩
        · exact absurd a w
        exact w2 ((i_le a3 hr).mpr q.2)
    · have h9 : ¬ (S : Int) ≤ ((s + 1 : Nat) : Int) := fun q => h9 ((i_le h2 t6).mpr q)
      refine hK x4 x5 (x6 + 1) v26 d29 (Or.inl ⟨s + 1, t6, upN c s v, -1, B, F29, ?_, by omega, fun i hi => ?_, ?_, fun i hi1 hi2 => ?_, ⟨by omega, by omega⟩, fun i j2 hij hj => ?_, fun i hi q => by omega, fun m hmn => ?_, ?_⟩) ?_
      · unfold BSB
        rw [p245]
        exact hB
      · by_cases he : i = s
        · rw [he, upN_e]
          exact ⟨p244s, hvn, p247s⟩
        · rw [upN_n he, p244 i he, p247 i he]
          exact hc i (by omega)
      · rw [p244 (s + 1) (by omega)]
        exact hhi (s + 1) (by omega) (by omega)
      · rw [p244 i (by omega)]
        exact hhi i (by omega) hi2
      · by_cases he : j2 = s
        · rw [he, upN_e, upN_n (by omega)]
          exact cok i (by omega)
        · rw [upN_n he, upN_n (by omega)]
          exact hd i j2 hij (by omega)
      · refine (us m hmn).trans ⟨fun q => Or.inl ?_, fun q => ?_⟩
        · rcases q with ⟨i, hi, ei⟩ | q
          · exact ⟨i, by omega, by rw [upN_n (by omega)]; exact ei⟩
          · exact ⟨s, by omega, by rw [upN_e]; omega⟩
        · rcases q with ⟨i, hi, ei⟩ | q
          · by_cases he : i = s
            · rw [he, upN_e] at ei
              exact Or.inr (by omega)
            · rw [upN_n he] at ei
              exact Or.inl ⟨i, by omega, ei⟩
          · omega
      · show T = RMu (PB d0 k) S nn s (upN c s v) (lpm (fsm (PB d0 k) S nn (S - s - 1) s (cutN (upN c s v) s)) (nn - (upN c s v s + 1)) (upN c s v s + 1) (lpm (fsm (PB d0 k) S nn (S - (s + 1) - 1) (s + 1) (cutN (upN c s v) (s + 1))) (nn - ((-1 : Int) + 1).toNat) ((-1 : Int) + 1).toNat B))
        rw [RMu_u s _ (Nat.le_refl _), cut_u, upN_e, cut_s, hch, hT, show S - s - 1 = (S - (s + 1) - 1) + 1 by omega, FS_s]
        rfl
      · rw [t6]
        have := mu.2 (by omega)
        rw [h6] at this hm
        have e : ((s + 1 : Nat) : Int) = (s : Int) + 1 := by omega
        rw [e]
        omega
  · have h : (v : Int) = (nn : Int) := (i_eq h8 h3).mp h
    rw [e6] at e41
    have hz : nn - v = 0 := by omega
    rw [hz] at hT
    have hT : T = RMu (PB d0 k) S nn s c B := hT
    have s41 : StP pN d dl d41 dl := by rw [e41]; exact pw_244 (StP.rf hF.1) (by decide) (by decide) rfl
    have F41 : FrS d0 d41 := ⟨s41.1, fun i a b e => by rw [e41, u2_row a]; exact hF.2 i a b e⟩
    have B41 : BSB d0 d41 k S x4 x5 B := by
      unfold BSB
      rw [e41, u2_row (by omega)]
      exact hB
    have mu := mu_dn (d := d) (d2 := d41) (x6 := x6) (v := -1) hF.1 (by omega) (by omega) (by rw [e6]; exact e41)
    obtain ⟨z, ez, tz⟩ := dec1 h6 (by omega)
    rw [← ez]
    rw [h6] at mu hm
    have hmz : muS d41 z.toInt < (j : Int) := by
      rw [tz, show (s : Int) - 1 = (s : Int) + -1 by omega]
      omega
    cases s with
    | zero => exact hK x4 x5 z x7 d41 (Or.inr ⟨by rw [tz]; rfl, F41, by rw [hT]; exact B41⟩) hmz
    | succ s =>
      refine hK x4 x5 z x7 d41 (Or.inl ⟨s, by rw [tz]; omega, c, (c s : Int), B, F41, B41, by omega, fun i hi => ?_, ?_, fun i hi1 hi2 => ?_, ⟨by omega, ?_⟩, fun i j2 a b => hd i j2 a (by omega), fun i hi q => hd i s hi (by omega) (by omega), fun m hmn => ?_, ?_⟩) hmz
      · rw [e41, u2_ne (Or.inr (by omega)), u2_row (by omega)]
        exact hc i (by omega)
      · rw [e41, u2_ne (Or.inr (by omega))]
        exact (hc s (by omega)).1
      · by_cases he : i = s + 1
        · rw [he, e41, u2_eq]; rfl
        · rw [e41, u2_ne (Or.inr he)]
          exact hhi i (by omega) hi2
      · have := (hc s (by omega)).2.1
        omega
      · refine (hu m hmn).trans ⟨fun ⟨i, hi, ei⟩ => ?_, fun q => ?_⟩
        · by_cases he : i = s
          · rw [he] at ei
            exact Or.inr (by omega)
          · exact Or.inl ⟨i, by omega, ei⟩
        · rcases q with ⟨i, hi, ei⟩ | q
          · exact ⟨i, by omega, ei⟩
          · exact ⟨s, by omega, by omega⟩
      · rw [hT, show ((c s : Int) + 1).toNat = c s + 1 by omega]
        rfl
theorem fb_X10_seat_105 {n : Nat} (hn : 1000000000 ≤ n) {Q : Int32 → DD → LL → Prop} {K63 : Int32 → Int32 → Int32 → Int32 → Int32 → Int32 → Int32 → DD → LL → Prop} {d0 : DD} {dl : LL} {k S nn : Nat} {T : Bool × Int × (Nat → Nat)} {x1 x2 x3 x4 x5 x6 x7 : Int32} {j : Nat} (hK : KOK K63 d0 dl k S nn T x1 x2 x3 j) (hk : k < 6) (h1 : x1.toInt = (k : Int)) (h2 : x2.toInt = (S : Int)) (h3 : x3.toInt = (nn : Int)) (hn8 : nn ≤ 8) (hR : 2 ≤ (d0 218 k).toInt) (hS : (S : Int) = 2 * (d0 218 k).toInt) (hS8 : S ≤ 8) (hsym : ∀ a b, a < 40 → b < 40 → lB d0 a b = lB d0 b a) {s : Nat} {c : Nat → Nat} {cur : Int} {B : Bool × Int × (Nat → Nat)} {d : DD} (hF : FrS d0 d) (hB : BSB d0 d k S x4 x5 B) (hs : s < S) (hc : ∀ i, i < s → (d 244 i).toInt = (c i : Int) ∧ c i < nn ∧ (d 247 i).toInt = ((memB d0 k (c i) : Nat) : Int)) (hcur : (d 244 s).toInt = cur) (hhi : ∀ i, s < i → i < 8 → (d 244 i).toInt = -1) (hd : ∀ i j, i < j → j < s → ¬ c i = c j) (hu : ∀ m : Nat, m < nn → (b32 x7 m = true ↔ ∃ i, i < s ∧ c i = m)) (h6 : x6.toInt = (s : Int)) (hm : muS d x6.toInt ≤ (j : Int)) : ∀ (jj v : Nat) (x8 : Int32), x8.toInt = (v : Int) → v ≤ nn → cur + 1 ≤ (v : Int) → T = RMu (PB d0 k) S nn s c (lpm (fsm (PB d0 k) S nn (S - s - 1) s (cutN c s)) (nn - v) v B) → 9 ≤ v + jj → b_X10_seat_105 n Q K63 jj x1 x2 x3 x4 x5 x6 x7 x8 d dl := by
  intro jj
  induction jj with
  | zero =>
    intro v x8 h8 hv hcv hT hj
    exfalso
    omega
  | succ jj ih =>
    intro v x8 h8 hv hcv hT hj
    show _ ∧ _
    have e8 := at_n h8
    refine ⟨fun h => ?_, fun h => ?_⟩
    · have h : (nn : Int) ≤ (v : Int) := (i_le h3 h8).mp h
      exact seat_149 hn hK hk h1 h2 h3 hn8 hR hS hS8 hsym hF hB hs hc hcur hhi hd hu h6 h8 hv hcv (fun w => absurd w (by omega)) hT hm
    · have h : ¬ (nn : Int) ≤ (v : Int) := fun q => h ((i_le h3 h8).mpr q)
      have hvn : v < nn := by omega
      have next : ¬ okS (PB d0 k) s v (cutN c s) → b_X10_seat_105 n Q K63 jj x1 x2 x3 x4 x5 x6 x7 (x8 + 1) d dl := by
        intro w
        refine ih (v + 1) _ (inc1 h8 (by omega)) (by omega) (by omega) ?_ (by omega)
        rw [hT, show nn - v = (nn - (v + 1)) + 1 by omega, lpm_s, fsm_n w]
      have fr := b32_r1 (m := x7) (x := x8) (by omega) (by omega)
      rw [e8] at fr
      have cut : ∀ i, i < s → cutN c s i = c i := fun i hi => by unfold cutN; rw [if_pos hi]
      refine ⟨fun w => next (fun ok => ?_), fun w => ?_⟩
      · obtain ⟨i, hi, ei⟩ := (hu v hvn).mp (fr.mp w)
        exact ok.1 i hi (by rw [cut i hi]; exact ei)
      · obtain ⟨ii, ci⟩ := ix8 (x1 := x1) (x3 := x8) (by omega) (by omega) (by omega) (by omega)
        rw [at_n h1, e8] at ci
        rw [ci]
        refine ⟨ii, ?_⟩
        have m222 := iv_222 hF.1 (8 * k + v)
        have q222 : d 222 = d0 222 := hF.2 222 (by omega) (by omega) (by omega)
        have q214 : d 214 = d0 214 := hF.2 214 (by omega) (by omega) (by omega)
        have hmb : (d 222 (8 * k + v)).toInt = ((memB d0 k v : Nat) : Int) := by
          unfold memB
          rw [if_pos (by omega), ← q222]
          have : (d 222 (8 * k + v)).toNatClampNeg = (d 222 (8 * k + v)).toInt.toNat := rfl
          omega
        have pa : PB d0 k 2 v = (d 214 (memB d0 k v)).toInt := by rw [q214]; rfl
        refine fn_X10_fits hmb (by omega) h6 hF.1 (fun r hr => ⟨fun w2 => ?_, fun w2 => next (fun ok => ?_)⟩)
        · rcases hr with ⟨_, q⟩ | ⟨e, _⟩
          · refine seat_149 hn hK hk h1 h2 h3 hn8 hR hS hS8 hsym hF hB hs hc hcur hhi hd hu h6 h8 hv hcv (fun _ => ⟨fun i hi ei => ?_, by rw [pa]; exact q⟩) hT hm
            rw [cut i hi] at ei
            exact w (fr.mpr ((hu v hvn).mpr ⟨i, hi, ei⟩))
          · exact absurd e w2
        · rcases hr with ⟨e, _⟩ | ⟨_, q⟩
          · rw [e] at w2
            exact absurd w2 (by decide)
          · exact ok.2 (by rw [pa]; exact q)
theorem fb_X10_seat_63 {n : Nat} (hn : 1000000000 ≤ n) {Q : Int32 → DD → LL → Prop} {d0 : DD} {dl : LL} {k S nn : Nat} {T : Bool × Int × (Nat → Nat)} {x1 x2 x3 : Int32} (hk : k < 6) (h1 : x1.toInt = (k : Int)) (h2 : x2.toInt = (S : Int)) (h3 : x3.toInt = (nn : Int)) (hn8 : nn ≤ 8) (hR : 2 ≤ (d0 218 k).toInt) (hS : (S : Int) = 2 * (d0 218 k).toInt) (hS8 : S ≤ 8) (hsym : ∀ a b, a < 40 → b < 40 → lB d0 a b = lB d0 b a) (hfin : ∀ (x4 x5 : Int32) (d : DD), FrS d0 d → BSB d0 d k S x4 x5 T → ∀ d12 : DD, d12 = u2 d 224 k (vp_nar .boolean x5) → (¬ x5 = 0 → b_X10_seat_302 n Q n x1 x2 x4 0 d12 dl) ∧ (x5 = 0 → Q (-100001) d12 dl)) : ∀ j : Nat, KOK (b_X10_seat_63 n Q j) d0 dl k S nn T x1 x2 x3 j := by
  intro j
  induction j with
  | zero =>
    intro x4 x5 x6 x7 d h hm
    exfalso
    have hI : Inv d := by
      rcases h with ⟨s, _, c, cur, B, hF, _⟩ | ⟨_, hF, _⟩
      · exact hF.1
      · exact hF.1
    have hz9 := muS_nn hI x6.toInt
    omega
  | succ j ih =>
    intro x4 x5 x6 x7 d h hm
    show _ ∧ _
    refine ⟨fun h6 => ?_, fun h6 => ?_⟩
    · have h6 : x6.toInt < 0 := (i_lt rfl (rfl : (0 : Int32).toInt = 0)).mp h6
      rcases h with ⟨s, q, _⟩ | ⟨_, hF, hB⟩
      · omega
      rw [at_n h1]
      exact ⟨vin h1 (by omega) (by omega), hfin x4 x5 d hF hB⟩
    · have h6 : ¬ x6.toInt < 0 := fun q => h6 ((i_lt rfl (rfl : (0 : Int32).toInt = 0)).mpr q)
      rcases h with ⟨s, q6, c, cur, B, hF, hB, hs, hc, hcur, hhi, ⟨hc0, hc1⟩, hd, hne, hu, hT⟩ | ⟨q, _⟩
      rotate_left
      · omega
      have e6 := at_n q6
      have i6 : vp_in x6 8 := vin q6 (by omega) (by omega)
      rw [e6]
      have go : ∀ y7 : Int32, (∀ m : Nat, m < nn → (b32 y7 m = true ↔ ∃ i, i < s ∧ c i = m)) → b_X10_seat_94 n Q (b_X10_seat_63 n Q j) x1 x2 x3 x4 x5 x6 y7 d dl := by
        intro y7 hy
        refine ⟨i6, ?_⟩
        rw [e6]
        intro v21 e21
        have t21 : v21.toInt = (((cur + 1).toNat : Nat) : Int) := by
          have t0 : ((d 244 s) + 1).toInt = cur + 1 := ti_add hcur (rfl : (1 : Int32).toInt = 1) (by omega) (by omega)
          rw [e21, t0]
          omega
        exact fb_X10_seat_105 hn ih hk h1 h2 h3 hn8 hR hS hS8 hsym hF hB hs hc hcur hhi hd hy q6 (by omega) n (cur + 1).toNat v21 t21 (by omega) (by omega) hT (by omega)
      refine ⟨i6, fun w => go x7 (fun m hmn => ?_), fun w => ⟨i6, fun v49 e49 => go v49 (fun m hmn => ?_)⟩⟩
      · have w : cur < 0 := (i_lt hcur (rfl : (0 : Int32).toInt = 0)).mp w
        refine (hu m hmn).trans ⟨fun q => ?_, fun q => Or.inl q⟩
        rcases q with q | q
        · exact q
        · omega
      · have w : ¬ cur < 0 := fun q => w ((i_lt hcur (rfl : (0 : Int32).toInt = 0)).mpr q)
        have ec : (d 244 s).toNatClampNeg = cur.toNat := clampI hcur
        rw [e49, b32_and, b32_not (by omega) (by omega) (by omega), ec, Bool.and_eq_true]
        constructor
        · intro ⟨a, b⟩
          rcases (hu m hmn).mp a with q | q
          · exact q
          · have : m = cur.toNat := by omega
            rw [decide_eq_true this] at b
            exact absurd b (by decide)
        · intro q
          refine ⟨(hu m hmn).mpr (Or.inl q), ?_⟩
          obtain ⟨i, hi, ei⟩ := q
          have : ¬ m = cur.toNat := fun z => hne i hi (by omega)
          rw [decide_eq_false this]
          rfl
def SeatP10 (d0 dz : DD) (k S nn : Nat) (r : Int32) : Prop :=
  ((FSof (PB d0 k) S nn).1 = false ∧ r = -100001 ∧ dz 224 = upd (d0 224) k 0 ∧ dz 223 = d0 223) ∨ ((FSof (PB d0 k) S nn).1 = true ∧ r.toInt = (FSof (PB d0 k) S nn).2.1 ∧ dz 224 = upd (d0 224) k 1 ∧ (∀ i, i < S → (dz 223 (8 * k + i)).toInt = ((memB d0 k ((FSof (PB d0 k) S nn).2.2 i) : Nat) : Int)) ∧ ∀ a, ¬ (8 * k ≤ a ∧ a < 8 * k + S) → dz 223 a = d0 223 a)
def FrT (d0 d : DD) : Prop := Inv d ∧ ∀ i, i ≠ 223 → i ≠ 224 → i ≠ 244 → i ≠ 245 → i ≠ 247 → d i = d0 i
theorem fb_X10_seat_302 {n : Nat} {Q : Int32 → DD → LL → Prop} {x1 x2 x4 : Int32} {dl : LL} {k S : Nat} (hk : k < 6) (h1 : x1.toInt = (k : Int)) (h2 : x2.toInt = (S : Int)) (hS : S ≤ 8) : ∀ (j i : Nat) (x8 : Int32) (d : DD), Inv d → x8.toInt = (i : Int) → i ≤ S → (∀ a, a < i → d 223 (8 * k + a) = d 245 a) → 9 ≤ i + j → (∀ dz : DD, Inv dz → (∀ a, a ≠ 223 → dz a = d a) → (∀ a, a < S → dz 223 (8 * k + a) = d 245 a) → (∀ a, ¬ (8 * k ≤ a ∧ a < 8 * k + S) → dz 223 a = d 223 a) → Q x4 dz dl) → b_X10_seat_302 n Q j x1 x2 x4 x8 d dl := by
  intro j
  induction j with
  | zero =>
    intro i x8 d hI h8 hi hc hj hQ
    exfalso
    omega
  | succ j ih =>
    intro i x8 d hI h8 hi hc hj hQ
    show _ ∧ _
    have e8 := at_n h8
    refine ⟨fun h => ?_, fun h => ?_⟩
    · have h : (S : Int) ≤ (i : Int) := (i_le h2 h8).mp h
      exact hQ d hI (fun _ _ => rfl) (fun a ha => hc a (by omega)) (fun _ _ => rfl)
    · have h : ¬ (S : Int) ≤ (i : Int) := fun q => h ((i_le h2 h8).mpr q)
      have i8 : vp_in x8 8 := vin h8 (by omega) (by omega)
      obtain ⟨ii, ci⟩ := ix8 (x1 := x1) (x3 := x8) (by omega) (by omega) (by omega) (by omega)
      rw [at_n h1, e8] at ci
      rw [ci, e8]
      refine ⟨i8, ii, fun d17 e17 => ?_⟩
      have m := iv_245 hI i
      have s17 : StP pN d dl d17 dl := by rw [e17]; exact pw_223 (StP.rf hI) m.1 m.2 rfl
      have r17 : ∀ a, a ≠ 223 → d17 a = d a := fun a ha => by rw [e17, u2_row ha]
      refine ih (i + 1) _ d17 s17.1 (inc1 h8 (by omega)) (by omega) (fun a ha => ?_) (by omega) (fun dz iz f1 f2 f3 => hQ dz iz (fun a ha => (f1 a ha).trans (r17 a ha)) (fun a ha => by rw [f2 a ha, r17 245 (by omega)]) (fun a ha => by rw [f3 a ha, e17, u2_ne (Or.inr (by omega))]))
      rw [r17 245 (by omega)]
      by_cases he : a = i
      · rw [he, e17, u2_eq]
      · rw [e17, u2_ne (Or.inr (by omega))]
        exact hc a (by omega)
theorem fb_X10_seat_42 {n : Nat} {Q : Int32 → DD → LL → Prop} {x1 x2 x3 x4 x5 x6 x7 : Int32} {dl : LL} {d0 : DD} (hQ : ∀ d : DD, FrS d0 d → (∀ i, i < 8 → (d 244 i).toInt = -1) → b_X10_seat_63 n Q n x1 x2 x3 x4 x5 x6 x7 d dl) : ∀ (j i : Nat) (x8 : Int32) (d : DD), FrS d0 d → x8.toInt = (i : Int) → i ≤ 8 → (∀ a, a < i → (d 244 a).toInt = -1) → 9 ≤ i + j → b_X10_seat_42 n Q j x1 x2 x3 x4 x5 x6 x7 x8 d dl := by
  intro j
  induction j with
  | zero =>
    intro i x8 d hF h8 hi hc hj
    exfalso
    omega
  | succ j ih =>
    intro i x8 d hF h8 hi hc hj
    show _ ∧ _
    have e8 := at_n h8
    refine ⟨fun h => ?_, fun h => ?_⟩
    · have h : 8 ≤ (i : Int) := (i_le (rfl : (8 : Int32).toInt = 8) h8).mp h
      exact hQ d hF (fun a ha => hc a (by omega))
    · have h : ¬ 8 ≤ (i : Int) := fun q => h ((i_le (rfl : (8 : Int32).toInt = 8) h8).mpr q)
      refine ⟨vin h8 (by omega) (by omega), ?_⟩
      rw [e8]
      intro d51 e51
      have s51 : StP pN d dl d51 dl := by rw [e51]; exact pw_244 (StP.rf hF.1) (by decide) (by decide) rfl
      refine ih (i + 1) _ d51 ⟨s51.1, fun a b c e => by rw [e51, u2_row b]; exact hF.2 a b c e⟩ (inc1 h8 (by omega)) (by omega) (fun a ha => ?_) (by omega)
      by_cases he : a = i
      · rw [he, e51, u2_eq]; rfl
      · rw [e51, u2_ne (Or.inr he)]
        exact hc a (by omega)
theorem fn_X10_seat {n : Nat} (hn : 1000000000 ≤ n) {Q : Int32 → DD → LL → Prop} {d0 : DD} {dl : LL} {k S nn : Nat} {x1 : Int32} (hI : Inv d0) (hk : (k : Int) < (d0 211 1).toInt) (h1 : x1.toInt = (k : Int)) (hnn : (d0 220 k).toInt = (nn : Int)) (hR : 2 ≤ (d0 218 k).toInt) (hS : (S : Int) = 2 * (d0 218 k).toInt) (hsym : ∀ a b, a < 40 → b < 40 → lB d0 a b = lB d0 b a) (hQ : ∀ (r : Int32) (dz : DD), FrT d0 dz → SeatP10 d0 dz k S nn r → Q r dz dl) : F_X10_seat n x1 d0 dl Q := by
  have mk := iv_211_1 hI
  have mR := iv_218 hI k
  have mn := iv_220 hI k
  have hk6 : k < 6 := by omega
  have e1 := at_n h1
  refine sp_X10_isCrew hn hI (fun r1 d2 l3 ⟨p1, q1⟩ => ?_)
  obtain ⟨_, rfl, rfl⟩ := p1
  have i6 : vp_in x1 6 := vin h1 (by omega) (by omega)
  refine ⟨fun _ => ⟨i6, ?_⟩, fun w => ?_⟩
  · rw [e1]
    intro v6 e6
    refine ⟨i6, ?_⟩
    intro v8 e8
    have t6 : v6.toInt = (S : Int) := by
      have t : ((2 : Int32) * (d2 218 k)).toInt = 2 * (d2 218 k).toInt := ti_mul (rfl : (2 : Int32).toInt = 2) rfl (by omega) (by omega)
      rw [e6, t]
      omega
    have t8 : v8.toInt = (nn : Int) := by rw [e8]; exact hnn
    refine fb_X10_seat_42 (d0 := d2) (fun d hF hm1 => ?_) n 0 0 d2 ⟨hI, fun _ _ _ _ => rfl⟩ rfl (Nat.zero_le _) (fun a ha => absurd ha (Nat.not_lt_zero _)) (by omega)
    have hz := muS_nn hF.1 (0 : Int32).toInt
    refine fb_X10_seat_63 hn (T := FSof (PB d2 k) S nn) hk6 h1 t6 t8 (by omega) hR hS (by omega) hsym (fun x4 x5 dw hFw hBw d12 e12 => ?_) n 0 0 0 0 d (Or.inl ⟨0, rfl, fun _ => 0, -1, (false, 0, fun _ => 0), hF, Or.inl ⟨rfl, rfl⟩, by omega, fun i hi => absurd hi (Nat.not_lt_zero _), hm1 0 (by omega), fun i _ hi => hm1 i hi, ⟨by omega, by omega⟩, fun i j2 _ hj => absurd hj (Nat.not_lt_zero _), fun i hi => absurd hi (Nat.not_lt_zero _), fun m hmn => ?_, ?_⟩) (by omega)
    · have s12 : StP pN dw l3 d12 l3 := by rw [e12]; exact pw_224 (StP.rf hFw.1) (vn_in _).1 (vn_in _).2 rfl
      have r12 : ∀ i, i ≠ 224 → d12 i = dw i := fun i hi => by rw [e12, u2_row hi]
      have q224 : dw 224 = d2 224 := hFw.2 224 (by omega) (by omega) (by omega)
      have q223 : dw 223 = d2 223 := hFw.2 223 (by omega) (by omega) (by omega)
      refine ⟨fun w => ?_, fun w => ?_⟩
      · rcases hBw with ⟨_, a⟩ | ⟨a, b, c, e⟩
        · exact absurd a w
        refine fb_X10_seat_302 hk6 h1 t6 (by omega) n 0 0 d12 s12.1 rfl (Nat.zero_le _) (fun a ha => absurd ha (Nat.not_lt_zero _)) (by omega) (fun dz iz f1 f2 f3 => hQ x4 dz ⟨iz, fun i a b c e f => ?_⟩ (Or.inr ⟨a, c, ?_, fun i hi => ?_, fun x hx => ?_⟩))
        · rw [f1 i a, r12 i b]
          exact hFw.2 i c e f
        · rw [f1 224 (by omega), e12, u2_own, q224, b]
          rfl
        · rw [f2 i hi, r12 245 (by omega)]
          exact e i hi
        · rw [f3 x hx, r12 223 (by omega), q223]
      · rcases hBw with ⟨a, _⟩ | ⟨_, b, _⟩
        · refine hQ _ d12 ⟨s12.1, fun i a b c e f => ?_⟩ (Or.inl ⟨a, rfl, ?_, by rw [r12 223 (by omega), q223]⟩)
          · rw [r12 i b]
            exact hFw.2 i c e f
          · rw [e12, u2_own, q224, w]
            rfl
        · exact absurd (b.symm.trans w) (by decide)
    · rw [b32_zero]
      exact ⟨fun w => absurd w (by decide), fun w => by
        rcases w with ⟨i, hi, _⟩ | w
        · exact absurd hi (Nat.not_lt_zero _)
        · omega⟩
    · show FSof (PB d2 k) S nn = lpm _ nn 0 _
      unfold FSof
      rw [show FS (PB d2 k) S nn S 0 (fun _ => 0) (false, 0, fun _ => 0) = FS (PB d2 k) S nn ((S - 0 - 1) + 1) 0 (fun _ => 0) (false, 0, fun _ => 0) by rw [show S - 0 - 1 + 1 = S by omega], FS_s]
      have hc0 : cutN (fun _ => 0) 0 = fun _ => 0 := by
        funext i
        unfold cutN
        rw [if_neg (Nat.not_lt_zero _)]
      rw [hc0]
  · have w : r1.toInt = 0 := (i_eq rfl (rfl : (0 : Int32).toInt = 0)).mp w
    omega
def wA (d : DD) : Nat → Int := fun p => (d 2 p).toInt
def sA (d : DD) : Nat → Int := fun p => (d 3 p).toInt
def lA (dl : LL) : Nat → Nat → Bool := fun a b => bt (dl 7 a) b
def whA (d : DD) (k : Nat) : Nat → Nat := fun s => (d (39 + 3 * k) s).toNatClampNeg
theorem pf_2 {R : Int} {r : Nat} : pfR R (2 * r) = 2 * (r : Int) - (R - 1) ∧ pfR R (2 * r + 1) = 2 * (r : Int) - (R - 1) := by
  unfold pfR
  rw [show 2 * r / 2 = r by omega, show (2 * r + 1) / 2 = r by omega]
  exact ⟨rfl, rfl⟩
theorem mf_2 {R : Int} {r : Nat} : mfR R (2 * r) = (if R - 1 - (r : Int) < (r : Int) then R - 1 - (r : Int) else (r : Int)) ∧ mfR R (2 * r + 1) = (if R - 1 - (r : Int) < (r : Int) then R - 1 - (r : Int) else (r : Int)) := by
  unfold mfR
  rw [show 2 * r / 2 = r by omega, show (2 * r + 1) / 2 = r by omega]
  exact ⟨rfl, rfl⟩
theorem tra_2 {R D : Int} {w st : Nat → Int} {lk : Nat → Nat → Bool} {who : Nat → Nat} {what r : Nat} : tra R D w st lk who what (2 * (r + 1)) = tra R D w st lk who what (2 * r) + tf R w st lk who what (2 * r) + tf R w st lk who what (2 * r + 1) := by
  rw [show 2 * (r + 1) = 2 * r + 1 + 1 by omega]
  show tb R D what + (sm _ (2 * r) + _ + _) = tb R D what + sm _ (2 * r) + _ + _
  omega
theorem traA_in {d : DD} (hI : Inv d) {dl : LL} {R D : Int} (c1 : 2 ≤ R) (c2 : R ≤ 4) (cD : 0 ≤ D ∧ D ≤ 150) {who : Nat → Nat} {what s : Nat} (hw : what ≤ 3) (hs : (s : Int) ≤ 2 * R) : -5000 ≤ tra R D (wA d) (sA d) (lA dl) who what s ∧ tra R D (wA d) (sA d) (lA dl) who what s ≤ 5000 := by
  have one : ∀ i : Nat, (i : Int) < 2 * R → -450 ≤ tf R (wA d) (sA d) (lA dl) who what i ∧ tf R (wA d) (sA d) (lA dl) who what i ≤ 450 := by
    intro i hi
    have a : 0 ≤ wA d (who i) ∧ wA d (who i) ≤ 150 := iv_2 hI (who i)
    have b : 0 ≤ sA d (who i) ∧ sA d (who i) ≤ 99 := iv_3 hI (who i)
    have hp := pf_c (R := R) (s := i) c1 c2 hi
    have hm := mf_c (R := R) (s := i) c1 c2 hi
    unfold tf
    generalize wA d (who i) = u at *
    generalize sA d (who i) = v at *
    split
    · split <;> omega
    · split
      · rcases hp with e | e | e | e | e | e | e <;> rw [e] <;> omega
      · split
        · rcases hm with e | e <;> rw [e] <;> omega
        · split <;> omega
  have := sm_in (f := tf R (wA d) (sA d) (lA dl) who what) (a := -450) (b := 450) (by omega) (by omega) s (by omega) (fun i hi => one i (by omega))
  have h2 : -600 ≤ tb R D what ∧ tb R D what ≤ 0 := by
    unfold tb
    split
    · have hc : R = 2 ∨ R = 3 ∨ R = 4 := by omega
      rcases hc with e | e | e <;> rw [e] <;> omega
    · omega
  unfold tra
  omega
def Wg (d0 : DD) (dl : LL) (k : Nat) (R D : Int) (who : Nat → Nat) (S : Nat) (dz : DD) : Prop := (dz 9 0).toInt = trm R D (wA d0) (sA d0) (lA dl) who 0 S ∧ (dz 9 1).toInt = trm R D (wA d0) (sA d0) (lA dl) who 1 S ∧ (dz 9 2).toInt = trm R D (wA d0) (sA d0) (lA dl) who 2 S ∧ (dz 9 3).toInt = trm R D (wA d0) (sA d0) (lA dl) who 3 S
theorem fb_X8_weigh_21 {n : Nat} {Q : DD → LL → Prop} {k : Nat} (hk : k < 6) {d0 : DD} {dl : LL} (hI0 : Inv d0) {R D : Int} (hR : (d0 (37 + 3 * k) 0).toInt = R) (c1 : 2 ≤ R) (c2 : R ≤ 4) (cD : 0 ≤ D ∧ D ≤ 150) (hQ : ∀ dz : DD, Inv dz → (∀ i, i ≠ 9 → dz i = d0 i) → (∀ S : Nat, (S : Int) = 2 * R → Wg d0 dl k R D (whA d0 k) S dz) → Q dz dl) : ∀ (j r : Nat) (x3 x4 x5 : Int32) (d : DD), Inv d → (∀ i, i ≠ 9 → d i = d0 i) → x5.toInt = (r : Int) → (r : Int) ≤ R → x3.toInt = tra R D (wA d0) (sA d0) (lA dl) (whA d0 k) 0 (2 * r) → x4.toInt = tra R D (wA d0) (sA d0) (lA dl) (whA d0 k) 1 (2 * r) → (d 9 2).toInt = tra R D (wA d0) (sA d0) (lA dl) (whA d0 k) 2 (2 * r) → (d 9 3).toInt = tra R D (wA d0) (sA d0) (lA dl) (whA d0 k) 3 (2 * r) → 5 ≤ r + j → b_X8_weigh_21 n Q j k x3 x4 x5 d dl := by
  intro j
  induction j with
  | zero =>
    intro r x3 x4 x5 d hI hF h5 hr h3 h4 g2 g3 hj
    exfalso
    omega
  | succ j hK =>
    intro r x3 x4 x5 d hI hF h5 hr h3 h4 g2 g3 hj
    show _ ∧ _
    have b3 := traA_in hI0 (dl := dl) c1 c2 cD (who := whA d0 k) (what := 0) (s := 2 * r) (by omega) (by omega)
    have b4 := traA_in hI0 (dl := dl) c1 c2 cD (who := whA d0 k) (what := 1) (s := 2 * r) (by omega) (by omega)
    have bm := traA_in hI0 (dl := dl) c1 c2 cD (who := whA d0 k) (what := 2) (s := 2 * r) (by omega) (by omega)
    have bf := traA_in hI0 (dl := dl) c1 c2 cD (who := whA d0 k) (what := 3) (s := 2 * r) (by omega) (by omega)
    have hR' : (d (37 + 3 * k) 0).toInt = R := by rw [hF _ (by omega)]; exact hR
    refine ⟨fun h d7 e7 d8 e8 => ?_, fun h => ?_⟩
    · have h : R ≤ (r : Int) := (i_le hR' h5).mp h
      have a3 : ((if 0 ≤ x3 then x3 else -x3) : Int32).toInt = ab (tra R D (wA d0) (sA d0) (lA dl) (whA d0 k) 0 (2 * r)) := ti_abs h3 (by omega)
      have a4 : ((if 0 ≤ x4 then x4 else -x4) : Int32).toInt = ab (tra R D (wA d0) (sA d0) (lA dl) (whA d0 k) 1 (2 * r)) := ti_abs h4 (by omega)
      have s7 : StP pN d dl d7 dl := by rw [e7]; exact pw_9_0 (StP.rf hI) rfl
      have s8 : StP pN d dl d8 dl := by rw [e8]; exact pw_9_1 s7 rfl
      refine hQ d8 s8.1 (fun i hi => by rw [e8, u2_row hi, e7, u2_row hi]; exact hF i hi) (fun S hS => ?_)
      have hSr : S = 2 * r := by omega
      subst hSr
      refine ⟨?_, ?_, ?_, ?_⟩
      · rw [e8, u2_ne (Or.inr (by omega)), e7, u2_eq, a3]; rfl
      · rw [e8, u2_eq, a4]; rfl
      · rw [e8, u2_ne (Or.inr (by omega)), e7, u2_ne (Or.inr (by omega)), g2]; rfl
      · rw [e8, u2_ne (Or.inr (by omega)), e7, u2_ne (Or.inr (by omega)), g3]; rfl
    · have h : ¬ R ≤ (r : Int) := fun q => h ((i_le hR' h5).mpr q)
      have t2 : ((2 : Int32) * x5).toInt = ((2 * r : Nat) : Int) := by
        have t : ((2 : Int32) * x5).toInt = 2 * (r : Int) := ti_mul (rfl : (2 : Int32).toInt = 2) h5 (by omega) (by omega)
        rw [t]; omega
      have t21 : (((2 : Int32) * x5) + 1).toInt = ((2 * r + 1 : Nat) : Int) := inc1 t2 (by omega)
      have e2 := at_n t2
      have e21 := at_n t21
      have hd39 : d (39 + 3 * k) = d0 (39 + 3 * k) := hF _ (by omega)
      have m10 := iv_39 hI hk (2 * r)
      have m12 := iv_39 hI hk (2 * r + 1)
      refine ⟨vin t2 (by omega) (by omega), ?_⟩
      rw [e2]
      intro v10 e10
      refine ⟨vin t21 (by omega) (by omega), ?_⟩
      rw [e21]
      intro v12 e12
      rw [← e10] at m10
      rw [← e12] at m12
      have w10 : v10.toNatClampNeg = whA d0 k (2 * r) := by rw [e10, hd39]; rfl
      have w12 : v12.toNatClampNeg = whA d0 k (2 * r + 1) := by rw [e12, hd39]; rfl
      have i10 : vp_in v10 40 := vin rfl (by omega) (by omega)
      have i12 : vp_in v12 40 := vin rfl (by omega) (by omega)
      have rd2 : d 2 = d0 2 := hF 2 (by omega)
      have rd3 : d 3 = d0 3 := hF 3 (by omega)
      have a10 := iv_2 hI v10.toNatClampNeg
      have a12 := iv_2 hI v12.toNatClampNeg
      have s10 := iv_3 hI v10.toNatClampNeg
      have s12 := iv_3 hI v12.toNatClampNeg
      have tw10 : (d 2 v10.toNatClampNeg).toInt = wA d0 (whA d0 k (2 * r)) := by rw [rd2, w10]; rfl
      have tw12 : (d 2 v12.toNatClampNeg).toInt = wA d0 (whA d0 k (2 * r + 1)) := by rw [rd2, w12]; rfl
      have ts10 : (d 3 v10.toNatClampNeg).toInt = sA d0 (whA d0 k (2 * r)) := by rw [rd3, w10]; rfl
      have ts12 : (d 3 v12.toNatClampNeg).toInt = sA d0 (whA d0 k (2 * r + 1)) := by rw [rd3, w12]; rfl
      rw [tw10] at a10
      rw [tw12] at a12
      rw [ts10] at s10
      rw [ts12] at s12
      refine ⟨i10, i12, fun v15 e15 => ⟨i10, i12, ?_⟩⟩
      have t15 : v15.toInt = tra R D (wA d0) (sA d0) (lA dl) (whA d0 k) 0 (2 * (r + 1)) := by
        have t : (x3 + ((d 2 v10.toNatClampNeg) - (d 2 v12.toNatClampNeg))).toInt = tra R D (wA d0) (sA d0) (lA dl) (whA d0 k) 0 (2 * r) + (wA d0 (whA d0 k (2 * r)) - wA d0 (whA d0 k (2 * r + 1))) := ti_add h3 (ti_sub tw10 tw12 (by omega) (by omega)) (by omega) (by omega)
        rw [e15, t, tra_2]
        show _ = _ + (if 2 * r % 2 = 0 then wA d0 (whA d0 k (2 * r)) else -wA d0 (whA d0 k (2 * r))) + (if (2 * r + 1) % 2 = 0 then wA d0 (whA d0 k (2 * r + 1)) else -wA d0 (whA d0 k (2 * r + 1)))
        rw [if_pos (by omega), if_neg (by omega)]
        omega
      unfold F_X1_pitchFactor
      have tp : (((2 : Int32) * x5) - ((d (37 + 3 * k) 0) - 1)).toInt = pfR R (2 * r) := by
        have t : (((2 : Int32) * x5) - ((d (37 + 3 * k) 0) - 1)).toInt = ((2 * r : Nat) : Int) - (R - 1) := ti_sub t2 (ti_sub hR' (rfl : (1 : Int32).toInt = 1) (by omega) (by omega)) (by omega) (by omega)
        rw [t, pf_2.1]
        omega
      have hpc := pf_c (R := R) (s := 2 * r) c1 c2 (by omega)
      have hmc := mf_c (R := R) (s := 2 * r) c1 c2 (by omega)
      have pfe : pfR R (2 * r + 1) = pfR R (2 * r) := by rw [pf_2.1, pf_2.2]
      have mfe : mfR R (2 * r + 1) = mfR R (2 * r) := by rw [mf_2.1, mf_2.2]
      intro v21 e21'
      have pb : -900 ≤ (wA d0 (whA d0 k (2 * r)) + wA d0 (whA d0 k (2 * r + 1))) * pfR R (2 * r) ∧ (wA d0 (whA d0 k (2 * r)) + wA d0 (whA d0 k (2 * r + 1))) * pfR R (2 * r) ≤ 900 := by
        rcases hpc with e | e | e | e | e | e | e <;> rw [e] <;> omega
      have mb : 0 ≤ (sA d0 (whA d0 k (2 * r)) + sA d0 (whA d0 k (2 * r + 1))) * mfR R (2 * r) ∧ (sA d0 (whA d0 k (2 * r)) + sA d0 (whA d0 k (2 * r + 1))) * mfR R (2 * r) ≤ 900 := by
        rcases hmc with e | e <;> rw [e] <;> omega
      have t21' : v21.toInt = tra R D (wA d0) (sA d0) (lA dl) (whA d0 k) 1 (2 * (r + 1)) := by
        have t : (x4 + (((d 2 v10.toNatClampNeg) + (d 2 v12.toNatClampNeg)) * (((2 : Int32) * x5) - ((d (37 + 3 * k) 0) - 1)))).toInt = tra R D (wA d0) (sA d0) (lA dl) (whA d0 k) 1 (2 * r) + (wA d0 (whA d0 k (2 * r)) + wA d0 (whA d0 k (2 * r + 1))) * pfR R (2 * r) := ti_add h4 (ti_mul (ti_add tw10 tw12 (by omega) (by omega)) tp (by omega) (by omega)) (by omega) (by omega)
        rw [e21', t, tra_2]
        show _ = _ + wA d0 (whA d0 k (2 * r)) * pfR R (2 * r) + wA d0 (whA d0 k (2 * r + 1)) * pfR R (2 * r + 1)
        rw [pfe, Int.add_mul]
        omega
      refine ⟨i10, i12, ?_⟩
      unfold F_X1_middleFactor
      have tb' : (((d (37 + 3 * k) 0) - 1) - x5).toInt = R - 1 - (r : Int) := ti_sub (ti_sub hR' (rfl : (1 : Int32).toInt = 1) (by omega) (by omega)) h5 (by omega) (by omega)
      have tmf : ((if (((d (37 + 3 * k) 0) - 1) - x5) < x5 then (((d (37 + 3 * k) 0) - 1) - x5) else x5) : Int32).toInt = mfR R (2 * r) := by
        rw [mf_2.1]
        by_cases w : (((d (37 + 3 * k) 0) - 1) - x5) < x5
        · rw [if_pos w, if_pos ((i_lt tb' h5).mp w), tb']
        · rw [if_neg w, if_neg (fun q => w ((i_lt tb' h5).mpr q)), h5]
      generalize ((if (((d (37 + 3 * k) 0) - 1) - x5) < x5 then (((d (37 + 3 * k) 0) - 1) - x5) else x5) : Int32) = r24 at tmf ⊢
      intro d27 e27
      have s27 : StP pN d dl d27 dl := by rw [e27]; exact pw_9_2 (StP.rf hI) rfl
      have k27 : (d27 9 2).toInt = tra R D (wA d0) (sA d0) (lA dl) (whA d0 k) 2 (2 * (r + 1)) := by
        have t : ((d 9 2) + (((d 3 v10.toNatClampNeg) + (d 3 v12.toNatClampNeg)) * r24)).toInt = tra R D (wA d0) (sA d0) (lA dl) (whA d0 k) 2 (2 * r) + (sA d0 (whA d0 k (2 * r)) + sA d0 (whA d0 k (2 * r + 1))) * mfR R (2 * r) := ti_add g2 (ti_mul (ti_add ts10 ts12 (by omega) (by omega)) tmf (by omega) (by omega)) (by omega) (by omega)
        rw [e27, u2_eq, t, tra_2]
        show _ = _ + sA d0 (whA d0 k (2 * r)) * mfR R (2 * r) + sA d0 (whA d0 k (2 * r + 1)) * mfR R (2 * r + 1)
        rw [mfe, Int.add_mul]
        omega
      have f27 : (d27 9 3).toInt = tra R D (wA d0) (sA d0) (lA dl) (whA d0 k) 3 (2 * r) := by rw [e27, u2_ne (Or.inr (by omega))]; exact g3
      have o3 : tf R (wA d0) (sA d0) (lA dl) (whA d0 k) 3 (2 * r + 1) = 0 := by
        show (if (2 * r + 1) % 2 = 0 ∧ lA dl (whA d0 k (2 * r + 1)) (whA d0 k (2 * r + 1 + 1)) = true then (1 : Int) else 0) = 0
        rw [if_neg (fun q => by have := q.1; omega)]
      have go : ∀ y : Int32, y.toInt = tf R (wA d0) (sA d0) (lA dl) (whA d0 k) 3 (2 * r) → (y = 0 ∨ y = 1) → b_X8_weigh_151 n Q (b_X8_weigh_21 n Q j) k v15 v21 x5 y (d27 9 3) d27 dl := by
        intro y hy hy01
        intro d32 e32
        have yb : 0 ≤ y.toInt ∧ y.toInt ≤ 1 := by
          rcases hy01 with e | e <;> rw [e] <;> decide
        have s32 : StP pN d dl d32 dl := by rw [e32]; exact pw_9_3 s27 rfl
        refine hK (r + 1) v15 v21 _ d32 s32.1 (fun i hi => by rw [e32, u2_row hi, e27, u2_row hi]; exact hF i hi) (inc1 h5 (by omega)) (by omega) t15 t21' (by rw [e32, u2_ne (Or.inr (by omega))]; exact k27) ?_ (by omega)
        have t : ((d27 9 3) + y).toInt = tra R D (wA d0) (sA d0) (lA dl) (whA d0 k) 3 (2 * r) + tf R (wA d0) (sA d0) (lA dl) (whA d0 k) 3 (2 * r) := ti_add f27 hy (by omega) (by omega)
        rw [e32, u2_eq, t, tra_2, o3]
        omega
      have fe : tf R (wA d0) (sA d0) (lA dl) (whA d0 k) 3 (2 * r) = if bt (dl 7 (whA d0 k (2 * r))) (whA d0 k (2 * r + 1)) = true then 1 else 0 := by
        show (if 2 * r % 2 = 0 ∧ bt (dl 7 (whA d0 k (2 * r))) (whA d0 k (2 * r + 1)) = true then (1 : Int) else 0) = _
        by_cases w : bt (dl 7 (whA d0 k (2 * r))) (whA d0 k (2 * r + 1)) = true
        · rw [if_pos w, if_pos ⟨by omega, w⟩]
        · rw [if_neg w, if_neg (fun q => w q.2)]
      refine fn_X4_areFriends ⟨by omega, by omega⟩ ⟨by omega, by omega⟩ ?_
      rw [w10, w12]
      by_cases w : bt (dl 7 (whA d0 k (2 * r))) (whA d0 k (2 * r + 1)) = true
      · rw [if_pos w]
        exact ⟨fun q => absurd q (by decide), fun _ => go 1 (by rw [fe, if_pos w]; rfl) (Or.inr rfl)⟩
      · rw [if_neg w]
        exact ⟨fun _ => go 0 (by rw [fe, if_neg w]; rfl) (Or.inl rfl), fun q => absurd rfl q⟩
theorem fb_X6_copyBestTo_2 {n : Nat} {Q : DD → LL → Prop} {dl : LL} {k S : Nat} (hk : k < 6) (hS : S ≤ 8) : ∀ (j i : Nat) (x2 : Int32) (d : DD), Inv d → (d 10 2).toInt = (S : Int) → x2.toInt = (i : Int) → i ≤ S → (∀ a, a < i → d (39 + 3 * k) a = d (38 + 3 * k) (d 18 a).toNatClampNeg) → 9 ≤ i + j → (∀ dz : DD, Inv dz → (∀ a, a ≠ 39 + 3 * k → dz a = d a) → (∀ a, a < S → dz (39 + 3 * k) a = d (38 + 3 * k) (d 18 a).toNatClampNeg) → Q dz dl) → b_X6_copyBestTo_2 n Q j k x2 d dl := by
  intro j
  induction j with
  | zero =>
    intro i x2 d hI h10 h2 hi hc hj hQ
    exfalso
    omega
  | succ j ih =>
    intro i x2 d hI h10 h2 hi hc hj hQ
    show _ ∧ _
    have e2 := at_n h2
    refine ⟨fun h => ?_, fun h => ?_⟩
    · have h : (S : Int) ≤ (i : Int) := (i_le h10 h2).mp h
      exact hQ d hI (fun _ _ => rfl) (fun a ha => hc a (by omega))
    · have h : ¬ (S : Int) ≤ (i : Int) := fun q => h ((i_le h10 h2).mpr q)
      have i8 : vp_in x2 8 := vin h2 (by omega) (by omega)
      have m18 := iv_18 hI i
      rw [e2]
      refine ⟨i8, vin rfl (by omega) (by omega), i8, fun d5 e5 => ?_⟩
      have m := iv_38 hI hk (d 18 i).toNatClampNeg
      have s5 : StP pN d dl d5 dl := by rw [e5]; exact pw_39 (StP.rf hI) hk m.1 m.2 rfl
      have r5 : ∀ a, a ≠ 39 + 3 * k → d5 a = d a := fun a ha => by rw [e5, u2_row ha]
      refine ih (i + 1) _ d5 s5.1 (by rw [r5 10 (by omega)]; exact h10) (inc1 h2 (by omega)) (by omega) (fun a ha => ?_) (by omega) (fun dz iz f1 f2 => hQ dz iz (fun a ha => (f1 a ha).trans (r5 a ha)) (fun a ha => by rw [f2 a ha, r5 (38 + 3 * k) (by omega), r5 18 (by omega)]))
      rw [r5 (38 + 3 * k) (by omega), r5 18 (by omega)]
      by_cases he : a = i
      · rw [he, e5, u2_eq]
      · rw [e5, u2_ne (Or.inr he)]
        exact hc a (by omega)
def SeatQ9 (d : DD) (dl : LL) (dz : DD) (x1 r : Int32) : Prop :=
  (¬ (0 ≤ x1.toInt ∧ x1.toInt < (d 0 2).toInt) ∧ r = -100000 ∧ dz = d) ∨ (∃ k S nn : Nat, x1.toInt = (k : Int) ∧ (k : Int) < (d 0 2).toInt ∧ (S : Int) = 2 * (d (37 + 3 * k) 0).toInt ∧ (d (37 + 3 * k) 3).toInt = (nn : Int) ∧ (∀ i, (i < 10 ∨ 23 < i) → i ≠ 37 + 3 * k → i ≠ 39 + 3 * k → dz i = d i) ∧ (∀ j, j ≠ 6 → dz (37 + 3 * k) j = d (37 + 3 * k) j) ∧ (((FSof (PA9 d dl k) S nn).1 = false ∧ r = -100001 ∧ dz (37 + 3 * k) 6 = 0 ∧ dz (39 + 3 * k) = d (39 + 3 * k)) ∨ ((FSof (PA9 d dl k) S nn).1 = true ∧ r.toInt = (FSof (PA9 d dl k) S nn).2.1 ∧ dz (37 + 3 * k) 6 = 1 ∧ ∀ i, i < S → (FSof (PA9 d dl k) S nn).2.2 i < 8 ∧ dz (39 + 3 * k) i = d (38 + 3 * k) ((FSof (PA9 d dl k) S nn).2.2 i))))
theorem sp_X9_seatF {n : Nat} (hn : 1000000000 ≤ n) {x1 : Int32} {d : DD} {dl : LL} (hI : Inv d) {Q : Int32 → DD → LL → Prop} (hQ : ∀ (r : Int32) (dz : DD), Inv dz → SeatQ9 d dl dz x1 r → Q r dz dl) : F_X9_seat n x1 d dl Q := by
  have mk := iv_0_2 hI
  refine sp_X9_isCrew hn hI (fun r1 d2 l3 ⟨p1, q1⟩ => ?_)
  obtain ⟨h3, rfl, rfl⟩ := p1
  refine ⟨fun w => ?_, fun w => ?_⟩
  · have w : ¬ r1.toInt = 0 := fun q => w ((i_eq rfl (rfl : (0 : Int32).toInt = 0)).mpr q)
    have i6 : vp_in x1 6 := vin rfl (by omega) (by omega)
    have hk := clamp_in i6
    have ek : x1.toNatClampNeg = x1.toInt.toNat := rfl
    refine ⟨i6, fun k6 e6 => ?_⟩
    subst e6
    generalize hkk : x1.toNatClampNeg = k at *
    have mR := iv_37_0 hI hk
    have mC := iv_37_3 hI hk
    obtain ⟨S, hS⟩ : ∃ S : Nat, (S : Int) = 2 * (d2 (37 + 3 * k) 0).toInt := ⟨(2 * (d2 (37 + 3 * k) 0).toInt).toNat, by omega⟩
    obtain ⟨nn, hnn⟩ : ∃ nn : Nat, (d2 (37 + 3 * k) 3).toInt = (nn : Int) := ⟨(d2 (37 + 3 * k) 3).toInt.toNat, by omega⟩
    refine fn_X6_find hn hk hI hS hnn (fun r dz iz fz z2 hr => ?_)
    rcases hr with ⟨er, hT⟩ | ⟨er, hT, h0, h18⟩
    · refine ⟨Or.inl er, fun d10 e10 => ?_⟩
      rw [er] at e10
      have s10 : StP pN dz l3 d10 l3 := by rw [e10]; exact pw_37_6 (StP.rf iz) hk (by decide) (by decide) rfl
      have z6 : d10 (37 + 3 * k) 6 = 0 := by rw [e10, u2_eq]
      refine ⟨fun q => absurd z6 q, fun _ => hQ _ d10 s10.1 (Or.inr ⟨k, S, nn, by omega, by omega, hS, hnn, fun i a b c => ?_, fun j hj => ?_, Or.inl ⟨hT, rfl, z6, ?_⟩⟩)⟩
      · rw [e10, u2_row b]; exact fz i a
      · rw [e10, u2_ne (Or.inr hj), fz _ (by omega)]
      · rw [e10, u2_row (by omega)]; exact fz _ (by omega)
    · refine ⟨Or.inr er, fun d10 e10 => ?_⟩
      rw [er] at e10
      have s10 : StP pN dz l3 d10 l3 := by rw [e10]; exact pw_37_6 (StP.rf iz) hk (by decide) (by decide) rfl
      have z6 : d10 (37 + 3 * k) 6 = 1 := by rw [e10, u2_eq]
      have r10 : ∀ i, i ≠ 37 + 3 * k → d10 i = dz i := fun i hi => by rw [e10, u2_row hi]
      refine ⟨fun _ => ?_, fun q => absurd (z6.symm.trans q) (by decide)⟩
      refine fb_X6_copyBestTo_2 (S := S) hk (by omega) n 0 0 d10 s10.1 (by rw [r10 10 (by omega)]; exact z2) rfl (Nat.zero_le _) (fun a ha => absurd ha (Nat.not_lt_zero _)) (by omega) (fun dw iw f1 f2 => hQ _ dw iw (Or.inr ⟨k, S, nn, by omega, by omega, hS, hnn, fun i a b c => ?_, fun j hj => ?_, Or.inr ⟨hT, ?_, ?_, fun i hi => ?_⟩⟩))
      · rw [f1 i c, r10 i b]; exact fz i a
      · rw [f1 _ (by omega), e10, u2_ne (Or.inr hj), fz _ (by omega)]
      · rw [f1 10 (by omega), r10 10 (by omega)]; exact h0
      · rw [f1 _ (by omega)]; exact z6
      · have m18 := iv_18 iz i
        have e18 := h18 i hi
        refine ⟨by omega, ?_⟩
        rw [f2 i hi, r10 18 (by omega), at_n e18, r10 _ (by omega), fz _ (by omega)]
  · have w : r1.toInt = 0 := (i_eq rfl (rfl : (0 : Int32).toInt = 0)).mp w
    exact hQ _ _ hI (Or.inl ⟨by omega, rfl, rfl⟩)
def Rok (d : DD) : Prop := ∀ k : Nat, (k : Int) < (d 211 1).toInt → 2 ≤ (d 218 k).toInt
def Sym (d : DD) : Prop := ∀ a b, a < 40 → b < 40 → lB d a b = lB d b a
def SeatQ10 (d dz : DD) (x1 r : Int32) : Prop :=
  (¬ (0 ≤ x1.toInt ∧ x1.toInt < (d 211 1).toInt) ∧ r = -100000 ∧ dz = d) ∨ (∃ k S nn : Nat, x1.toInt = (k : Int) ∧ (k : Int) < (d 211 1).toInt ∧ (S : Int) = 2 * (d 218 k).toInt ∧ (d 220 k).toInt = (nn : Int) ∧ FrT d dz ∧ SeatP10 d dz k S nn r)
theorem fn_X10_seatQ {n : Nat} (hn : 1000000000 ≤ n) {x1 : Int32} {d : DD} {dl : LL} (hI : Inv d) (hR : Rok d) (hsym : Sym d) {Q : Int32 → DD → LL → Prop} (hQ : ∀ (r : Int32) (dz : DD), Inv dz → SeatQ10 d dz x1 r → Q r dz dl) : F_X10_seat n x1 d dl Q := by
  have mk := iv_211_1 hI
  by_cases h : 0 ≤ x1.toInt ∧ x1.toInt < (d 211 1).toInt
  · have ek : x1.toNatClampNeg = x1.toInt.toNat := rfl
    obtain ⟨k, hk⟩ : ∃ k : Nat, x1.toInt = (k : Int) := ⟨x1.toInt.toNat, by omega⟩
    have mR := iv_218 hI k
    have mC := iv_220 hI k
    obtain ⟨S, hS⟩ : ∃ S : Nat, (S : Int) = 2 * (d 218 k).toInt := ⟨(2 * (d 218 k).toInt).toNat, by omega⟩
    obtain ⟨nn, hnn⟩ : ∃ nn : Nat, (d 220 k).toInt = (nn : Int) := ⟨(d 220 k).toInt.toNat, by omega⟩
    exact fn_X10_seat hn hI (by omega) hk hnn (hR k (by omega)) hS hsym (fun r dz fz pz => hQ r dz fz.1 (Or.inr ⟨k, S, nn, hk, by omega, hS, hnn, fz, pz⟩))
  · refine sp_X10_isCrew hn hI (fun r1 d2 l3 ⟨p1, q1⟩ => ?_)
    obtain ⟨h3, rfl, rfl⟩ := p1
    refine ⟨fun w => ?_, fun w => hQ _ _ hI (Or.inl ⟨h, rfl, rfl⟩)⟩
    have w : ¬ r1.toInt = 0 := fun q => w ((i_eq rfl (rfl : (0 : Int32).toInt = 0)).mpr q)
    omega
theorem PX_k {R D R2 D2 : Int} {mem mem2 : Nat → Nat} {w st ar w2 st2 ar2 : Nat → Int} {fr fr2 : Nat → Nat → Bool} (h1 : R = R2) (h2 : D = D2) (h3 : ∀ j, mem j = mem2 j) (h4 : w = w2) (h5 : st = st2) (h6 : ar = ar2) (h7 : ∀ i j, fr (mem i) (mem j) = fr2 (mem i) (mem j)) : PX R D mem w st ar fr = PX R2 D2 mem2 w2 st2 ar2 fr2 := by
  have hm : mem = mem2 := funext h3
  subst h1; subst h2; subst hm; subst h4; subst h5; subst h6
  funext i j
  unfold PX
  rw [h7]
theorem fn_within {n : Nat} (hn : 1000000000 ≤ n) {x a b : Int32} {p q : Int} (ha : a.toInt = p) (hb : b.toInt = q) {d : DD} {dl : LL} (hI : Inv d) {Q : Int32 → DD → LL → Prop} (yes : (p ≤ x.toInt ∧ x.toInt ≤ q) → Q 1 d dl) (no : ¬ (p ≤ x.toInt ∧ x.toInt ≤ q) → Q 0 d dl) : F_X9_within n x a b d dl Q := by
  refine sp_X9_within hn hI (fun r1 d2 l3 ⟨p1, q1⟩ => ?_)
  obtain ⟨h3, rfl, rfl⟩ := p1
  rw [ha, hb] at q1
  rcases q1.2.2 with ⟨e, g⟩ | ⟨e, g⟩
  · rw [(i_eq e (rfl : (1 : Int32).toInt = 1)).mpr rfl]
    exact yes g
  · rw [(i_eq e (rfl : (0 : Int32).toInt = 0)).mpr rfl]
    exact no g
def okS9 (d : DD) (x1 x2 x3 : Int32) : Prop := (0 ≤ x1.toInt ∧ x1.toInt < (d 0 2).toInt) ∧ (0 ≤ x2.toInt ∧ x2.toInt < (d (37 + 3 * x1.toNatClampNeg) 0).toInt) ∧ (0 ≤ x3.toInt ∧ x3.toInt ≤ 1) ∧ ¬ d (37 + 3 * x1.toNatClampNeg) 6 = 0
def okS10 (d : DD) (x1 x2 x3 : Int32) : Prop := (0 ≤ x1.toInt ∧ x1.toInt < (d 211 1).toInt) ∧ (0 ≤ x2.toInt ∧ x2.toInt < (d 218 x1.toNatClampNeg).toInt) ∧ (0 ≤ x3.toInt ∧ x3.toInt ≤ 1) ∧ ¬ d 224 x1.toNatClampNeg = 0
theorem fn_isCrew9 {n : Nat} (hn : 1000000000 ≤ n) {x : Int32} {d : DD} {dl : LL} (hI : Inv d) {Q : Int32 → DD → LL → Prop} (yes : (0 ≤ x.toInt ∧ x.toInt < (d 0 2).toInt) → Q 1 d dl) (no : ¬ (0 ≤ x.toInt ∧ x.toInt < (d 0 2).toInt) → Q 0 d dl) : F_X9_isCrew n x d dl Q := by
  refine sp_X9_isCrew hn hI (fun r1 d2 l3 ⟨p1, q1⟩ => ?_)
  obtain ⟨h3, rfl, rfl⟩ := p1
  rcases q1.2.2 with ⟨e, g⟩ | ⟨e, g⟩
  · rw [(i_eq e (rfl : (1 : Int32).toInt = 1)).mpr rfl]
    exact yes g
  · rw [(i_eq e (rfl : (0 : Int32).toInt = 0)).mpr rfl]
    exact no g
theorem fn_isCrew10 {n : Nat} (hn : 1000000000 ≤ n) {x : Int32} {d : DD} {dl : LL} (hI : Inv d) {Q : Int32 → DD → LL → Prop} (yes : (0 ≤ x.toInt ∧ x.toInt < (d 211 1).toInt) → Q 1 d dl) (no : ¬ (0 ≤ x.toInt ∧ x.toInt < (d 211 1).toInt) → Q 0 d dl) : F_X10_isCrew n x d dl Q := by
  refine sp_X10_isCrew hn hI (fun r1 d2 l3 ⟨p1, q1⟩ => ?_)
  obtain ⟨h3, rfl, rfl⟩ := p1
  rcases q1.2.2 with ⟨e, g⟩ | ⟨e, g⟩
  · rw [(i_eq e (rfl : (1 : Int32).toInt = 1)).mpr rfl]
    exact yes g
  · rw [(i_eq e (rfl : (0 : Int32).toInt = 0)).mpr rfl]
    exact no g
def SitsQ9 (d : DD) (x1 x2 x3 r : Int32) : Prop := (okS9 d x1 x2 x3 ∧ r = d (39 + 3 * x1.toNatClampNeg) (2 * x2.toNatClampNeg + x3.toNatClampNeg)) ∨ (¬ okS9 d x1 x2 x3 ∧ r = -1)
def SitsQ10 (d : DD) (x1 x2 x3 r : Int32) : Prop := (okS10 d x1 x2 x3 ∧ r = d 223 (8 * x1.toNatClampNeg + (2 * x2.toNatClampNeg + x3.toNatClampNeg))) ∨ (¬ okS10 d x1 x2 x3 ∧ r = -1)
theorem sp_X9_sitsF {n : Nat} (hn : 1000000000 ≤ n) {x1 x2 x3 : Int32} {d : DD} {dl : LL} (hI : Inv d) {Q : Int32 → DD → LL → Prop} (hQ : ∀ (r : Int32) (d2 : DD) (l2 : LL), Sq d dl d2 l2 ∧ SitsQ9 d x1 x2 x3 r → Q r d2 l2) : F_X9_sits n x1 x2 x3 d dl Q := by
  have mk := iv_0_2 hI
  have bad : ¬ okS9 d x1 x2 x3 → Q (-1) d dl := fun h => hQ _ _ _ ⟨⟨hI, rfl, rfl⟩, Or.inr ⟨h, rfl⟩⟩
  refine fn_isCrew9 hn hI (fun g1 => ⟨fun w => absurd w (by decide), fun _ => ?_⟩) (fun g1 => ⟨fun _ => bad (fun h => g1 h.1), fun w => absurd rfl w⟩)
  have i6 : vp_in x1 6 := vin rfl (by omega) (by omega)
  have hk := clamp_in i6
  refine ⟨i6, fun k6 e6 => ?_⟩
  subst e6
  have mR := iv_37_0 hI hk
  have tR : ((d (37 + 3 * x1.toNatClampNeg) 0) - 1).toInt = (d (37 + 3 * x1.toNatClampNeg) 0).toInt - 1 := ti_sub rfl (rfl : (1 : Int32).toInt = 1) (by omega) (by omega)
  refine fn_within hn (rfl : (0 : Int32).toInt = 0) tR hI (fun g2 => ⟨fun w => absurd w (by decide), fun _ => ?_⟩) (fun g2 => ⟨fun _ => bad (fun h => g2 (by have := h.2.1; omega)), fun w => absurd rfl w⟩)
  refine fn_within hn (rfl : (0 : Int32).toInt = 0) (rfl : (1 : Int32).toInt = 1) hI (fun g3 => ⟨fun w => absurd w (by decide), fun _ => ?_⟩) (fun g3 => ⟨fun _ => bad (fun h => g3 h.2.2.1), fun w => absurd rfl w⟩)
  refine ⟨i6, fun k16 e16 => ?_⟩
  subst e16
  refine ⟨fun w => ⟨i6, fun k19 e19 => ?_⟩, fun w => bad (fun h => h.2.2.2 w)⟩
  subst e19
  have t2 : ((2 : Int32) * x2).toInt = 2 * x2.toInt := ti_mul (rfl : (2 : Int32).toInt = 2) rfl (by omega) (by omega)
  have t3 : (((2 : Int32) * x2) + x3).toInt = 2 * x2.toInt + x3.toInt := ti_add t2 rfl (by omega) (by omega)
  have e3 : (((2 : Int32) * x2) + x3).toNatClampNeg = 2 * x2.toNatClampNeg + x3.toNatClampNeg := by
    rw [clampI t3]
    have a : x2.toNatClampNeg = x2.toInt.toNat := rfl
    have b : x3.toNatClampNeg = x3.toInt.toNat := rfl
    omega
  rw [e3]
  exact ⟨vin t3 (by omega) (by omega), hQ _ _ _ ⟨⟨hI, rfl, rfl⟩, Or.inl ⟨⟨g1, by omega, g3, w⟩, rfl⟩⟩⟩
theorem sp_X10_sitsF {n : Nat} (hn : 1000000000 ≤ n) {x1 x2 x3 : Int32} {d : DD} {dl : LL} (hI : Inv d) {Q : Int32 → DD → LL → Prop} (hQ : ∀ (r : Int32) (d2 : DD) (l2 : LL), Sq d dl d2 l2 ∧ SitsQ10 d x1 x2 x3 r → Q r d2 l2) : F_X10_sits n x1 x2 x3 d dl Q := by
  have mk := iv_211_1 hI
  have bad : ¬ okS10 d x1 x2 x3 → Q (-1) d dl := fun h => hQ _ _ _ ⟨⟨hI, rfl, rfl⟩, Or.inr ⟨h, rfl⟩⟩
  refine fn_isCrew10 hn hI (fun g1 => ⟨fun w => absurd w (by decide), fun _ => ?_⟩) (fun g1 => ⟨fun _ => bad (fun h => g1 h.1), fun w => absurd rfl w⟩)
  have i6 : vp_in x1 6 := vin rfl (by omega) (by omega)
  have mR := iv_218 hI x1.toNatClampNeg
  refine ⟨fun h => bad (fun o => ?_), fun a1 => ⟨i6, fun h => bad (fun o => ?_), fun a2 => ⟨fun h => bad (fun o => ?_), fun a3 => ⟨fun h => bad (fun o => ?_), fun a4 => ⟨i6, fun w => ?_, fun w => bad (fun o => o.2.2.2 w)⟩⟩⟩⟩⟩
  · have h : x2.toInt < 0 := (i_lt rfl (rfl : (0 : Int32).toInt = 0)).mp h
    have := o.2.1; omega
  · have h : (d 218 x1.toNatClampNeg).toInt ≤ x2.toInt := (i_le rfl rfl).mp h
    have := o.2.1; omega
  · have h : x3.toInt < 0 := (i_lt rfl (rfl : (0 : Int32).toInt = 0)).mp h
    have := o.2.2.1; omega
  · have h : 1 < x3.toInt := (i_lt (rfl : (1 : Int32).toInt = 1) rfl).mp h
    have := o.2.2.1; omega
  · have a1 : ¬ x2.toInt < 0 := fun q => a1 ((i_lt rfl (rfl : (0 : Int32).toInt = 0)).mpr q)
    have a2 : ¬ (d 218 x1.toNatClampNeg).toInt ≤ x2.toInt := fun q => a2 ((i_le rfl rfl).mpr q)
    have a3 : ¬ x3.toInt < 0 := fun q => a3 ((i_lt rfl (rfl : (0 : Int32).toInt = 0)).mpr q)
    have a4 : ¬ 1 < x3.toInt := fun q => a4 ((i_lt (rfl : (1 : Int32).toInt = 1) rfl).mpr q)
    have t8 : ((8 : Int32) * x1).toInt = 8 * x1.toInt := ti_mul (rfl : (8 : Int32).toInt = 8) rfl (by omega) (by omega)
    have t2 : ((2 : Int32) * x2).toInt = 2 * x2.toInt := ti_mul (rfl : (2 : Int32).toInt = 2) rfl (by omega) (by omega)
    have t3 : ((((8 : Int32) * x1) + ((2 : Int32) * x2)) + x3).toInt = 8 * x1.toInt + 2 * x2.toInt + x3.toInt := ti_add (ti_add t8 t2 (by omega) (by omega)) rfl (by omega) (by omega)
    have e3 : ((((8 : Int32) * x1) + ((2 : Int32) * x2)) + x3).toNatClampNeg = 8 * x1.toNatClampNeg + (2 * x2.toNatClampNeg + x3.toNatClampNeg) := by
      rw [clampI t3]
      have c : x1.toNatClampNeg = x1.toInt.toNat := rfl
      have a : x2.toNatClampNeg = x2.toInt.toNat := rfl
      have b : x3.toNatClampNeg = x3.toInt.toNat := rfl
      omega
    rw [e3]
    exact ⟨vin t3 (by omega) (by omega), hQ _ _ _ ⟨⟨hI, rfl, rfl⟩, Or.inl ⟨⟨g1, by omega, by omega, w⟩, rfl⟩⟩⟩
theorem fn_X8_weigh {n : Nat} (hn : 1000000000 ≤ n) {Q : DD → LL → Prop} {k : Nat} (hk : k < 6) {d : DD} {dl : LL} (hI : Inv d) {S : Nat} (hS : (S : Int) = 2 * (d (37 + 3 * k) 0).toInt) (hQ : ∀ dz : DD, Inv dz → (∀ i, i ≠ 9 → dz i = d i) → Wg d dl k (d (37 + 3 * k) 0).toInt (d (37 + 3 * k) 1).toInt (whA d k) S dz → Q dz dl) : F_X8_weigh n k d dl Q := by
  have mR := iv_37_0 hI hk
  have mD := iv_37_1 hI hk
  unfold F_X8_weigh F_X1_drummerPitch
  have hb : -600 ≤ -(d (37 + 3 * k) 0).toInt * (d (37 + 3 * k) 1).toInt ∧ -(d (37 + 3 * k) 0).toInt * (d (37 + 3 * k) 1).toInt ≤ 0 := by
    have hc : (d (37 + 3 * k) 0).toInt = 2 ∨ (d (37 + 3 * k) 0).toInt = 3 ∨ (d (37 + 3 * k) 0).toInt = 4 := by omega
    rcases hc with e | e | e <;> rw [e] <;> omega
  have tn : (-(d (37 + 3 * k) 0)).toInt = -(d (37 + 3 * k) 0).toInt := ti_neg rfl (by omega) (by omega)
  have td : ((-(d (37 + 3 * k) 0)) * (d (37 + 3 * k) 1)).toInt = -(d (37 + 3 * k) 0).toInt * (d (37 + 3 * k) 1).toInt := ti_mul tn rfl (by omega) (by omega)
  intro d4 e4 d5 e5
  have s4 : StP pN d dl d4 dl := by rw [e4]; exact pw_9_2 (StP.rf hI) rfl
  have s5 : StP pN d dl d5 dl := by rw [e5]; exact pw_9_3 s4 rfl
  refine fb_X8_weigh_21 hk hI rfl mR.1 mR.2 mD (fun dz iz fz wz => hQ dz iz fz (wz S hS)) n 0 0 _ 0 d5 s5.1 (fun i hi => by rw [e5, u2_row hi, e4, u2_row hi]) rfl (by omega) rfl ?_ ?_ ?_ (by omega)
  · rw [td]
    show _ = -(d (37 + 3 * k) 0).toInt * (d (37 + 3 * k) 1).toInt + 0
    omega
  · rw [e5, u2_ne (Or.inr (by omega)), e4, u2_eq]; rfl
  · rw [e5, u2_eq]; rfl
theorem st9 {d dz : DD} {dl : LL} (hz : Inv dz) (h : ∀ i, i ≠ 9 → dz i = d i) : St d dl dz dl := by
  refine ⟨hz, fun i j q => ?_, fun _ _ _ => rfl⟩
  by_cases e : i = 9
  · subst e
    exact absurd (show false = true from q) (by decide)
  · rw [h i e]
theorem trm_k {R D R2 D2 : Int} {w st w2 st2 : Nat → Int} {lk lk2 : Nat → Nat → Bool} {who who2 : Nat → Nat} {what S r : Nat} (hS : S = 2 * r) (h1 : R = R2) (h2 : D = D2) (h3 : ∀ i, i < S → w (who i) = w2 (who2 i)) (h4 : ∀ i, i < S → st (who i) = st2 (who2 i)) (h5 : ∀ i, i + 1 < S → lk (who i) (who (i + 1)) = lk2 (who2 i) (who2 (i + 1))) : trm R D w st lk who what S = trm R2 D2 w2 st2 lk2 who2 what S := by
  subst h1; subst h2
  have : tra R D w st lk who what S = tra R D w2 st2 lk2 who2 what S := by
    unfold tra
    rw [sm_k S (fun i hi => ?_)]
    unfold tf
    rw [h3 i hi, h4 i hi]
    by_cases e : i % 2 = 0
    · rw [h5 i (by omega)]
    · simp [e]
  unfold trm
  rw [this]
def TrimQ9 (d : DD) (dl : LL) (x1 x2 r : Int32) : Prop := (¬ ((0 ≤ x1.toInt ∧ x1.toInt < (d 0 2).toInt) ∧ (0 ≤ x2.toInt ∧ x2.toInt ≤ 3)) ∧ r = -1) ∨ (((0 ≤ x1.toInt ∧ x1.toInt < (d 0 2).toInt) ∧ (0 ≤ x2.toInt ∧ x2.toInt ≤ 3)) ∧ d (37 + 3 * x1.toNatClampNeg) 6 = 0 ∧ r = -3) ∨ (((0 ≤ x1.toInt ∧ x1.toInt < (d 0 2).toInt) ∧ (0 ≤ x2.toInt ∧ x2.toInt ≤ 3)) ∧ ¬ d (37 + 3 * x1.toNatClampNeg) 6 = 0 ∧ ∀ S : Nat, (S : Int) = 2 * (d (37 + 3 * x1.toNatClampNeg) 0).toInt → r.toInt = trm (d (37 + 3 * x1.toNatClampNeg) 0).toInt (d (37 + 3 * x1.toNatClampNeg) 1).toInt (wA d) (sA d) (lA dl) (whA d x1.toNatClampNeg) x2.toNatClampNeg S)
theorem sp_X9_trimF {n : Nat} (hn : 1000000000 ≤ n) {x1 x2 : Int32} {d : DD} {dl : LL} (hI : Inv d) {Q : Int32 → DD → LL → Prop} (hQ : ∀ (r : Int32) (d2 : DD) (l2 : LL), St d dl d2 l2 ∧ TrimQ9 d dl x1 x2 r → Q r d2 l2) : F_X9_trim n x1 x2 d dl Q := by
  have mk := iv_0_2 hI
  have bad : ¬ ((0 ≤ x1.toInt ∧ x1.toInt < (d 0 2).toInt) ∧ (0 ≤ x2.toInt ∧ x2.toInt ≤ 3)) → Q (-1) d dl := fun h => hQ _ _ _ ⟨St.rf hI, Or.inl ⟨h, rfl⟩⟩
  refine fn_isCrew9 hn hI (fun g1 => ⟨fun w => absurd w (by decide), fun _ => ?_⟩) (fun g1 => ⟨fun _ => bad (fun h => g1 h.1), fun w => absurd rfl w⟩)
  refine fn_within hn (rfl : (0 : Int32).toInt = 0) (rfl : (3 : Int32).toInt = 3) hI (fun g2 => ⟨fun _ => ?_, fun w => absurd w (by decide)⟩) (fun g2 => ⟨fun w => absurd rfl w, fun _ => bad (fun h => g2 h.2)⟩)
  have i6 : vp_in x1 6 := vin rfl (by omega) (by omega)
  have hk := clamp_in i6
  refine ⟨i6, fun k10 e10 => ?_⟩
  subst e10
  refine ⟨fun w => ⟨i6, fun k13 e13 => ?_⟩, fun w => hQ _ _ _ ⟨St.rf hI, Or.inr (Or.inl ⟨⟨g1, g2⟩, w, rfl⟩)⟩⟩
  subst e13
  have mR := iv_37_0 hI hk
  obtain ⟨S, hS⟩ : ∃ S : Nat, (S : Int) = 2 * (d (37 + 3 * x1.toNatClampNeg) 0).toInt := ⟨(2 * (d (37 + 3 * x1.toNatClampNeg) 0).toInt).toNat, by omega⟩
  have hx2 : x2.toNatClampNeg = x2.toInt.toNat := rfl
  refine fn_X8_weigh hn hk hI hS (fun dz iz fz wz => ?_)
  have fin : ∀ r : Int32, r.toInt = trm (d (37 + 3 * x1.toNatClampNeg) 0).toInt (d (37 + 3 * x1.toNatClampNeg) 1).toInt (wA d) (sA d) (lA dl) (whA d x1.toNatClampNeg) x2.toNatClampNeg S → Q r dz dl := fun r hr => hQ _ _ _ ⟨st9 iz fz, Or.inr (Or.inr ⟨⟨g1, g2⟩, w, fun S2 hS2 => by rw [show S2 = S by omega]; exact hr⟩)⟩
  refine ⟨fun q => fin _ ?_, fun q => fin _ ?_, fun q => fin _ ?_, fun q => fin _ ?_⟩
  · have q : x2.toInt = 0 := (i_eq rfl (rfl : (0 : Int32).toInt = 0)).mp q
    rw [show x2.toNatClampNeg = 0 by omega]; exact wz.1
  · have q : x2.toInt = 1 := (i_eq rfl (rfl : (1 : Int32).toInt = 1)).mp q
    rw [show x2.toNatClampNeg = 1 by omega]; exact wz.2.1
  · have q : x2.toInt = 2 := (i_eq rfl (rfl : (2 : Int32).toInt = 2)).mp q
    rw [show x2.toNatClampNeg = 2 by omega]; exact wz.2.2.1
  · rw [show x2.toNatClampNeg = 3 by omega]; exact wz.2.2.2
def TrimQ10 (d : DD) (x1 x2 r : Int32) : Prop := (¬ ((0 ≤ x1.toInt ∧ x1.toInt < (d 211 1).toInt) ∧ (0 ≤ x2.toInt ∧ x2.toInt ≤ 3)) ∧ r = -1) ∨ (((0 ≤ x1.toInt ∧ x1.toInt < (d 211 1).toInt) ∧ (0 ≤ x2.toInt ∧ x2.toInt ≤ 3)) ∧ d 224 x1.toNatClampNeg = 0 ∧ r = -3) ∨ (((0 ≤ x1.toInt ∧ x1.toInt < (d 211 1).toInt) ∧ (0 ≤ x2.toInt ∧ x2.toInt ≤ 3)) ∧ ¬ d 224 x1.toNatClampNeg = 0 ∧ ∀ S : Nat, (S : Int) = 2 * (d 218 x1.toNatClampNeg).toInt → r.toInt = trm (d 218 x1.toNatClampNeg).toInt (d 219 x1.toNatClampNeg).toInt (wB d) (sB d) (lB d) (whB d 223 (8 * x1.toNatClampNeg)) x2.toNatClampNeg S)
theorem sp_X10_trimF {n : Nat} (hn : 1000000000 ≤ n) {x1 x2 : Int32} {d : DD} {dl : LL} (hI : Inv d) {Q : Int32 → DD → LL → Prop} (hQ : ∀ (r : Int32) (d2 : DD) (l2 : LL), Sq d dl d2 l2 ∧ (Rok d → TrimQ10 d x1 x2 r) → Q r d2 l2) : F_X10_trim n x1 x2 d dl Q := by
  by_cases hR : Rok d
  rotate_left
  · exact sp_X10_trim hn hI (fun r d2 l2 ⟨p, _⟩ => hQ r d2 l2 ⟨p, fun q => absurd q hR⟩)
  have mk := iv_211_1 hI
  have bad : ¬ ((0 ≤ x1.toInt ∧ x1.toInt < (d 211 1).toInt) ∧ (0 ≤ x2.toInt ∧ x2.toInt ≤ 3)) → Q (-1) d dl := fun h => hQ _ _ _ ⟨⟨hI, rfl, rfl⟩, fun _ => Or.inl ⟨h, rfl⟩⟩
  refine fn_isCrew10 hn hI (fun g1 => ⟨fun w => absurd w (by decide), fun _ => ?_⟩) (fun g1 => ⟨fun _ => bad (fun h => g1 h.1), fun w => absurd rfl w⟩)
  have i6 : vp_in x1 6 := vin rfl (by omega) (by omega)
  have hk := clamp_in i6
  have hx : x1.toNatClampNeg = x1.toInt.toNat := rfl
  have hx2 : x2.toNatClampNeg = x2.toInt.toNat := rfl
  have mR := iv_218 hI x1.toNatClampNeg
  refine ⟨fun h => bad (fun o => ?_), fun a1 => ⟨fun a2 => ⟨i6, fun w => ?_, fun w => ?_⟩, fun h => bad (fun o => ?_)⟩⟩
  · have h : x2.toInt < 0 := (i_lt rfl (rfl : (0 : Int32).toInt = 0)).mp h
    have := o.2; omega
  · have a1 : ¬ x2.toInt < 0 := fun q => a1 ((i_lt rfl (rfl : (0 : Int32).toInt = 0)).mpr q)
    have a2 : x2.toInt ≤ 3 := (i_le rfl (rfl : (3 : Int32).toInt = 3)).mp a2
    exact hQ _ _ _ ⟨⟨hI, rfl, rfl⟩, fun _ => Or.inr (Or.inl ⟨⟨g1, by omega⟩, w, rfl⟩)⟩
  · have a1 : ¬ x2.toInt < 0 := fun q => a1 ((i_lt rfl (rfl : (0 : Int32).toInt = 0)).mpr q)
    have a2 : x2.toInt ≤ 3 := (i_le rfl (rfl : (3 : Int32).toInt = 3)).mp a2
    obtain ⟨S, hS⟩ : ∃ S : Nat, (S : Int) = 2 * (d 218 x1.toNatClampNeg).toInt := ⟨(2 * (d 218 x1.toNatClampNeg).toInt).toNat, by omega⟩
    have t8 : ((8 : Int32) * x1).toInt = ((8 * x1.toNatClampNeg : Nat) : Int) := by
      have t : ((8 : Int32) * x1).toInt = 8 * x1.toInt := ti_mul (rfl : (8 : Int32).toInt = 8) rfl (by omega) (by omega)
      rw [t]; omega
    refine fn_X10_trims hn (what := x2.toNatClampNeg) (S := S) (k := x1.toNatClampNeg) (x := 8 * x1.toNatClampNeg) (by omega) hI (Or.inr rfl) (by omega) hk t8 (by rw [show ln 223 = 48 from rfl]; omega) (by omega) (by omega) (hR _ (by omega)) hS (fun r hr => hQ _ _ _ ⟨⟨hI, rfl, rfl⟩, fun _ => Or.inr (Or.inr ⟨⟨g1, by omega⟩, w, fun S2 hS2 => by rw [show S2 = S by omega]; exact hr⟩)⟩)
  · have h : ¬ x2.toInt ≤ 3 := fun q => h ((i_le rfl (rfl : (3 : Int32).toInt = 3)).mpr q)
    have := o.2; omega
def swp {α : Type} (f : Nat → α) (a b : Nat) : Nat → α := fun i => if i = b then f a else if i = a then f b else f i
theorem swp_2 {α : Type} {f : Nat → α} {a b : Nat} : swp (swp f a b) a b = f := by
  funext i
  unfold swp
  by_cases h1 : i = b
  · subst h1
    by_cases h2 : a = i
    · subst h2; simp
    · simp [h2]
  · by_cases h2 : i = a
    · subst h2; simp [h1]
    · simp [h1, h2]
def okG (m R x1 x2 x3 : Int32) : Prop := (0 ≤ x1.toInt ∧ x1.toInt < m.toInt) ∧ (0 ≤ x2.toInt ∧ x2.toInt < 2 * R.toInt) ∧ (0 ≤ x3.toInt ∧ x3.toInt < 2 * R.toInt)
def noG (sd : Int32) (ar : Nat → Int) (who : Nat → Nat) (a b : Nat) : Prop := sd = 0 ∨ ar (who a) = 1 - ((b % 2 : Nat) : Int) ∨ ar (who b) = 1 - ((a % 2 : Nat) : Int)
def ChgQ9 (d : DD) (dl : LL) (x1 x2 x3 r : Int32) : Prop :=
  (¬ okG (d 0 2) (d (37 + 3 * x1.toNatClampNeg) 0) x1 x2 x3 ∧ r = -100000) ∨ (okG (d 0 2) (d (37 + 3 * x1.toNatClampNeg) 0) x1 x2 x3 ∧ noG (d (37 + 3 * x1.toNatClampNeg) 6) (fun p => (d 4 p).toInt) (whA d x1.toNatClampNeg) x2.toNatClampNeg x3.toNatClampNeg ∧ r = -100001) ∨ (okG (d 0 2) (d (37 + 3 * x1.toNatClampNeg) 0) x1 x2 x3 ∧ ¬ noG (d (37 + 3 * x1.toNatClampNeg) 6) (fun p => (d 4 p).toInt) (whA d x1.toNatClampNeg) x2.toNatClampNeg x3.toNatClampNeg ∧ ∀ S : Nat, (S : Int) = 2 * (d (37 + 3 * x1.toNatClampNeg) 0).toInt → r.toInt = tltB (d (37 + 3 * x1.toNatClampNeg) 0).toInt (d (37 + 3 * x1.toNatClampNeg) 1).toInt (wA d) (sA d) (lA dl) (swp (whA d x1.toNatClampNeg) x2.toNatClampNeg x3.toNatClampNeg) S)
theorem fn_X4_maySit {n : Nat} {x1 x2 : Int32} {d : DD} {dl : LL} {p s : Nat} (h1 : x1.toInt = (p : Int)) (hp : p < 40) (h2 : x2.toInt = ((s % 2 : Nat) : Int)) {Q : Int32 → DD → LL → Prop} (yes : ¬ (d 4 p).toInt = 1 - ((s % 2 : Nat) : Int) → Q 1 d dl) (no : (d 4 p).toInt = 1 - ((s % 2 : Nat) : Int) → Q 0 d dl) : F_X4_maySit n x1 x2 d dl Q := by
  have i1 : vp_in x1 40 := vin h1 (by omega) (by omega)
  have e1 := at_n h1
  have t : ((1 : Int32) - x2).toInt = 1 - ((s % 2 : Nat) : Int) := ti_sub (rfl : (1 : Int32).toInt = 1) h2 (by omega) (by omega)
  rw [show F_X4_maySit n x1 x2 d dl Q = (vp_in x1 40 ∧ ((d 4 x1.toNatClampNeg) = ((1 : Int32) - x2) → Q 0 d dl) ∧ (¬ (d 4 x1.toNatClampNeg) = ((1 : Int32) - x2) → Q 1 d dl)) from rfl, e1]
  exact ⟨i1, fun w => no ((i_eq rfl t).mp w), fun w => yes (fun q => w ((i_eq rfl t).mpr q))⟩
theorem fn_X1_swapSeats {n k : Nat} (hk : k < 6) {x1 x2 : Int32} (b1 : 0 ≤ x1.toInt ∧ x1.toInt < 8) (b2 : 0 ≤ x2.toInt ∧ x2.toInt < 8) {d : DD} {dl : LL} (hI : Inv d) {Q : DD → LL → Prop} (hQ : ∀ dz : DD, Inv dz → (∀ i, i ≠ 39 + 3 * k → dz i = d i) → dz (39 + 3 * k) = swp (d (39 + 3 * k)) x1.toNatClampNeg x2.toNatClampNeg → Q dz dl) : F_X1_swapSeats n k x1 x2 d dl Q := by
  have i1 : vp_in x1 8 := vin rfl b1.1 (by omega)
  have i2 : vp_in x2 8 := vin rfl b2.1 (by omega)
  have m1 := iv_39 hI hk x1.toNatClampNeg
  have m2 := iv_39 hI hk x2.toNatClampNeg
  refine ⟨i1, fun v2 e2 => ⟨i2, i1, fun d5 e5 => ⟨i2, fun d7 e7 => ?_⟩⟩⟩
  have s5 : StP pN d dl d5 dl := by rw [e5]; exact pw_39 (StP.rf hI) hk m2.1 m2.2 rfl
  have s7 : StP pN d dl d7 dl := by rw [e7]; exact pw_39 s5 hk (by rw [e2]; exact m1.1) (by rw [e2]; exact m1.2) rfl
  refine hQ d7 s7.1 (fun i hi => by rw [e7, u2_row hi, e5, u2_row hi]) ?_
  rw [e7, u2_own, e5, u2_own, e2]
  funext i
  unfold swp upd
  by_cases h1 : i = x2.toNatClampNeg
  · simp [h1]
  · by_cases h2 : i = x1.toNatClampNeg
    · simp [h1, h2]
    · simp [h1, h2]
theorem sp_X9_changeF {n : Nat} (hn : 1000000000 ≤ n) {x1 x2 x3 : Int32} {d : DD} {dl : LL} (hI : Inv d) {Q : Int32 → DD → LL → Prop} (hQ : ∀ (r : Int32) (d2 : DD) (l2 : LL), St d dl d2 l2 ∧ ChgQ9 d dl x1 x2 x3 r → Q r d2 l2) : F_X9_change n x1 x2 x3 d dl Q := by
  have mk := iv_0_2 hI
  have bad : ¬ okG (d 0 2) (d (37 + 3 * x1.toNatClampNeg) 0) x1 x2 x3 → Q (-100000) d dl := fun h => hQ _ _ _ ⟨St.rf hI, Or.inl ⟨h, rfl⟩⟩
  refine fn_isCrew9 hn hI (fun g1 => ⟨fun _ => ?_, fun w => absurd w (by decide)⟩) (fun g1 => ⟨fun w => absurd rfl w, fun _ => bad (fun h => g1 h.1)⟩)
  have i6 : vp_in x1 6 := vin rfl (by omega) (by omega)
  have hk := clamp_in i6
  refine ⟨i6, fun k6 e6 => ?_⟩
  subst e6
  generalize hkk : x1.toNatClampNeg = k at *
  have mR := iv_37_0 hI hk
  have mD := iv_37_1 hI hk
  unfold F_X1_seatCount
  intro v10 e10
  have t10 : v10.toInt = 2 * (d (37 + 3 * k) 0).toInt - 1 := by
    rw [e10]
    exact ti_sub (ti_mul (rfl : (2 : Int32).toInt = 2) rfl (by omega) (by omega)) (rfl : (1 : Int32).toInt = 1) (by omega) (by omega)
  refine fn_within hn (rfl : (0 : Int32).toInt = 0) t10 hI (fun g2 => ⟨fun w => absurd w (by decide), fun _ => ?_⟩) (fun g2 => ⟨fun _ => bad (fun h => g2 (by have := h.2.1; omega)), fun w => absurd rfl w⟩)
  refine fn_within hn (rfl : (0 : Int32).toInt = 0) t10 hI (fun g3 => ⟨fun _ => ?_, fun w => absurd w (by decide)⟩) (fun g3 => ⟨fun w => absurd rfl w, fun _ => bad (fun h => g3 (by have := h.2.2; omega))⟩)
  have ok : okG (d 0 2) (d (37 + 3 * k) 0) x1 x2 x3 := ⟨g1, by omega, by omega⟩
  have nog : noG (d (37 + 3 * k) 6) (fun p => (d 4 p).toInt) (whA d k) x2.toNatClampNeg x3.toNatClampNeg → Q (-100001) d dl := fun h => hQ _ _ _ ⟨St.rf hI, Or.inr (Or.inl (by rw [hkk]; exact ⟨ok, h, rfl⟩))⟩
  have hx2 : x2.toNatClampNeg = x2.toInt.toNat := rfl
  have hx3 : x3.toNatClampNeg = x3.toInt.toNat := rfl
  have i2 : vp_in x2 8 := vin rfl (by omega) (by omega)
  have i3 : vp_in x3 8 := vin rfl (by omega) (by omega)
  have a2 := iv_39 hI hk x2.toNatClampNeg
  have a3 := iv_39 hI hk x3.toNatClampNeg
  have w2 : (d (39 + 3 * k) x2.toNatClampNeg).toInt = ((whA d k x2.toNatClampNeg : Nat) : Int) := by
    have : whA d k x2.toNatClampNeg = (d (39 + 3 * k) x2.toNatClampNeg).toInt.toNat := rfl
    omega
  have w3 : (d (39 + 3 * k) x3.toNatClampNeg).toInt = ((whA d k x3.toNatClampNeg : Nat) : Int) := by
    have : whA d k x3.toNatClampNeg = (d (39 + 3 * k) x3.toNatClampNeg).toInt.toNat := rfl
    omega
  have tr2 : (irem x2 2).toInt = ((x2.toNatClampNeg % 2 : Nat) : Int) := by
    have t : (irem x2 2).toInt = x2.toInt % 2 := ti_rem rfl (rfl : (2 : Int32).toInt = 2) (by omega) (by omega)
    rw [t]; omega
  have tr3 : (irem x3 2).toInt = ((x3.toNatClampNeg % 2 : Nat) : Int) := by
    have t : (irem x3 2).toInt = x3.toInt % 2 := ti_rem rfl (rfl : (2 : Int32).toInt = 2) (by omega) (by omega)
    rw [t]; omega
  refine ⟨fun w => nog (Or.inl w), fun sd => ⟨i2, ?_⟩⟩
  refine fn_X4_maySit w2 (by omega) tr3 (fun m1' => ⟨fun w => absurd w (by decide), fun _ => ⟨i3, ?_⟩⟩) (fun m1' => ⟨fun _ => nog (Or.inr (Or.inl m1')), fun w => absurd rfl w⟩)
  refine fn_X4_maySit w3 (by omega) tr2 (fun m2' => ⟨fun _ => ?_, fun w => absurd w (by decide)⟩) (fun m2' => ⟨fun w => absurd rfl w, fun _ => nog (Or.inr (Or.inr m2'))⟩)
  refine fn_X1_swapSeats hk ⟨g2.1, by omega⟩ ⟨g3.1, by omega⟩ hI (fun d31 i31 f31 r31 => ?_)
  obtain ⟨S, hS⟩ : ∃ S : Nat, (S : Int) = 2 * (d (37 + 3 * k) 0).toInt := ⟨(2 * (d (37 + 3 * k) 0).toInt).toNat, by omega⟩
  have q37 : d31 (37 + 3 * k) = d (37 + 3 * k) := f31 _ (by omega)
  refine fn_X8_weigh hn hk i31 (S := S) (by rw [q37]; exact hS) (fun d34 i34 f34 wg => ?_)
  refine fn_X1_swapSeats hk ⟨g2.1, by omega⟩ ⟨g3.1, by omega⟩ i34 (fun d37 i37 f37 r37 => ?_)
  have back : d37 (39 + 3 * k) = d (39 + 3 * k) := by rw [r37, f34 _ (by omega), r31, swp_2]
  have fr : ∀ i, i ≠ 9 → d37 i = d i := by
    intro i hi
    by_cases he : i = 39 + 3 * k
    · rw [he]; exact back
    · rw [f37 i he, f34 i hi, f31 i he]
  have r9 : d37 9 = d34 9 := f37 9 (by omega)
  rw [q37] at wg
  have hw' : wA d31 = wA d := by unfold wA; rw [f31 2 (by omega)]
  have hs' : sA d31 = sA d := by unfold sA; rw [f31 3 (by omega)]
  have hwho : whA d31 k = swp (whA d k) x2.toNatClampNeg x3.toNatClampNeg := by
    funext i
    unfold whA
    rw [r31]
    unfold swp
    by_cases h1 : i = x3.toNatClampNeg
    · simp [h1]
    · by_cases h2 : i = x2.toNatClampNeg
      · simp [h1, h2]
      · simp [h1, h2]
  unfold Wg at wg
  rw [hw', hs', hwho, ← r9] at wg
  obtain ⟨y0, y1, y2, y3⟩ := wg
  have bnd : ∀ what, what ≤ 3 → -5000 ≤ trm (d (37 + 3 * k) 0).toInt (d (37 + 3 * k) 1).toInt (wA d) (sA d) (lA dl) (swp (whA d k) x2.toNatClampNeg x3.toNatClampNeg) what S ∧ trm (d (37 + 3 * k) 0).toInt (d (37 + 3 * k) 1).toInt (wA d) (sA d) (lA dl) (swp (whA d k) x2.toNatClampNeg x3.toNatClampNeg) what S ≤ 5000 := by
    intro what hw9
    have := traA_in hI (dl := dl) mR.1 mR.2 mD (who := swp (whA d k) x2.toNatClampNeg x3.toNatClampNeg) (s := S) hw9 (by omega)
    unfold trm ab
    split
    · split <;> omega
    · omega
  have n0 := bnd 0 (by omega)
  have n1 := bnd 1 (by omega)
  have n2 := bnd 2 (by omega)
  have n3 := bnd 3 (by omega)
  unfold F_X8_tilt
  refine hQ _ _ _ ⟨st9 i37 fr, Or.inr (Or.inr ?_)⟩
  rw [hkk]
  refine ⟨ok, fun h => ?_, fun S2 hS2 => ?_⟩
  · rcases h with h | h | h
    · exact sd h
    · exact m1' h
    · exact m2' h
  · rw [show S2 = S by omega]
    have t : (((((4 : Int32) * (d37 9 0)) + (d37 9 1)) - (d37 9 2)) - ((20 : Int32) * (d37 9 3))).toInt = 4 * trm (d (37 + 3 * k) 0).toInt (d (37 + 3 * k) 1).toInt (wA d) (sA d) (lA dl) (swp (whA d k) x2.toNatClampNeg x3.toNatClampNeg) 0 S + trm (d (37 + 3 * k) 0).toInt (d (37 + 3 * k) 1).toInt (wA d) (sA d) (lA dl) (swp (whA d k) x2.toNatClampNeg x3.toNatClampNeg) 1 S - trm (d (37 + 3 * k) 0).toInt (d (37 + 3 * k) 1).toInt (wA d) (sA d) (lA dl) (swp (whA d k) x2.toNatClampNeg x3.toNatClampNeg) 2 S - 20 * trm (d (37 + 3 * k) 0).toInt (d (37 + 3 * k) 1).toInt (wA d) (sA d) (lA dl) (swp (whA d k) x2.toNatClampNeg x3.toNatClampNeg) 3 S :=
      ti_sub (ti_sub (ti_add (ti_mul (rfl : (4 : Int32).toInt = 4) y0 (by omega) (by omega)) y1 (by omega) (by omega)) y2 (by omega) (by omega)) (ti_mul (rfl : (20 : Int32).toInt = 20) y3 (by omega) (by omega)) (by omega) (by omega)
    exact t
def ChgQ10 (d : DD) (x1 x2 x3 r : Int32) : Prop :=
  (¬ okG (d 211 1) (d 218 x1.toNatClampNeg) x1 x2 x3 ∧ r = -100000) ∨ (okG (d 211 1) (d 218 x1.toNatClampNeg) x1 x2 x3 ∧ noG (d 224 x1.toNatClampNeg) (fun p => (d 214 p).toInt) (whB d 223 (8 * x1.toNatClampNeg)) x2.toNatClampNeg x3.toNatClampNeg ∧ r = -100001) ∨ (okG (d 211 1) (d 218 x1.toNatClampNeg) x1 x2 x3 ∧ ¬ noG (d 224 x1.toNatClampNeg) (fun p => (d 214 p).toInt) (whB d 223 (8 * x1.toNatClampNeg)) x2.toNatClampNeg x3.toNatClampNeg ∧ ∀ S : Nat, (S : Int) = 2 * (d 218 x1.toNatClampNeg).toInt → ∃ who : Nat → Nat, (∀ i, i < S → who i = swp (whB d 223 (8 * x1.toNatClampNeg)) x2.toNatClampNeg x3.toNatClampNeg i) ∧ r.toInt = tltB (d 218 x1.toNatClampNeg).toInt (d 219 x1.toNatClampNeg).toInt (wB d) (sB d) (lB d) who S)
theorem st247 {d dz : DD} {dl : LL} (hz : Inv dz) (h : ∀ i, i ≠ 247 → dz i = d i) : St d dl dz dl := by
  refine ⟨hz, fun i j q => ?_, fun _ _ _ => rfl⟩
  by_cases e : i = 247
  · subst e
    exact absurd (show false = true from q) (by decide)
  · rw [h i e]
theorem fb_X10_change_58 {n : Nat} (hn : 1000000000 ≤ n) {Q : Int32 → DD → LL → Prop} {x1 x2 x3 : Int32} {d0 : DD} {dl : LL} {k S : Nat} (hk : k < 6) (h1 : x1.toInt = (k : Int)) (b2 : 0 ≤ x2.toInt ∧ x2.toInt < (S : Int)) (b3 : 0 ≤ x3.toInt ∧ x3.toInt < (S : Int)) (hR : 2 ≤ (d0 218 k).toInt) (hS : (S : Int) = 2 * (d0 218 k).toInt) (hno : ∀ dz : DD, Inv dz → (∀ i, i ≠ 247 → dz i = d0 i) → ((d0 214 (whB d0 223 (8 * k) x2.toNatClampNeg)).toInt = 1 - ((x3.toNatClampNeg % 2 : Nat) : Int) ∨ (d0 214 (whB d0 223 (8 * k) x3.toNatClampNeg)).toInt = 1 - ((x2.toNatClampNeg % 2 : Nat) : Int)) → Q (-100001) dz dl) (hyes : ∀ (r : Int32) (dz : DD), Inv dz → (∀ i, i ≠ 247 → dz i = d0 i) → ¬ (d0 214 (whB d0 223 (8 * k) x2.toNatClampNeg)).toInt = 1 - ((x3.toNatClampNeg % 2 : Nat) : Int) → ¬ (d0 214 (whB d0 223 (8 * k) x3.toNatClampNeg)).toInt = 1 - ((x2.toNatClampNeg % 2 : Nat) : Int) → (∃ who : Nat → Nat, (∀ i, i < S → who i = swp (whB d0 223 (8 * k)) x2.toNatClampNeg x3.toNatClampNeg i) ∧ r.toInt = tltB (d0 218 k).toInt (d0 219 k).toInt (wB d0) (sB d0) (lB d0) who S) → Q r dz dl) : ∀ (j s : Nat) (x4 : Int32) (d : DD), Inv d → (∀ i, i ≠ 247 → d i = d0 i) → x4.toInt = (s : Int) → s ≤ S → (∀ i, i < s → d 247 i = d0 223 (8 * k + i)) → 9 ≤ s + j → b_X10_change_58 n Q j x1 x2 x3 x4 d dl := by
  have e1 := at_n h1
  intro j
  induction j with
  | zero =>
    intro s x4 d hI hF h4 hs hc hj
    exfalso
    have := iv_218 hI k
    rw [hF 218 (by omega)] at this
    omega
  | succ j ih =>
    intro s x4 d hI hF h4 hs hc hj
    show _ ∧ _
    have mR := iv_218 hI k
    rw [hF 218 (by omega)] at mR
    have hS8 : S ≤ 8 := by omega
    have e4 := at_n h4
    have i6 : vp_in x1 6 := vin h1 (by omega) (by omega)
    have t2 : ((2 : Int32) * (d 218 k)).toInt = (S : Int) := by
      have t : ((2 : Int32) * (d 218 k)).toInt = 2 * (d 218 k).toInt := ti_mul (rfl : (2 : Int32).toInt = 2) rfl (by rw [hF 218 (by omega)]; omega) (by rw [hF 218 (by omega)]; omega)
      rw [t, hF 218 (by omega)]; omega
    have hx2 : x2.toNatClampNeg = x2.toInt.toNat := rfl
    have hx3 : x3.toNatClampNeg = x3.toInt.toNat := rfl
    have i2 : vp_in x2 8 := vin rfl b2.1 (by omega)
    have i3 : vp_in x3 8 := vin rfl b3.1 (by omega)
    rw [e1, e4]
    refine ⟨i6, fun w => ?_, fun w => ?_⟩
    · have w : (S : Int) ≤ (s : Int) := (i_le t2 h4).mp w
      have hsS : s = S := by omega
      subst hsS
      have m2 := iv_247 hI x2.toNatClampNeg
      have m3 := iv_247 hI x3.toNatClampNeg
      refine ⟨i2, fun v16 e16 => ⟨i3, i2, fun d19 e19 => ⟨i3, fun d21 e21 => ⟨i2, ?_⟩⟩⟩⟩
      have s19 : StP pN d dl d19 dl := by rw [e19]; exact pw_247 (StP.rf hI) m3.1 m3.2 rfl
      have s21 : StP pN d dl d21 dl := by rw [e21]; exact pw_247 s19 (by rw [e16]; exact m2.1) (by rw [e16]; exact m2.2) rfl
      have I21 : Inv d21 := s21.1
      have f21 : ∀ i, i ≠ 247 → d21 i = d0 i := fun i hi => by rw [e21, u2_row hi, e19, u2_row hi]; exact hF i hi
      have r21 : d21 247 = swp (d 247) x2.toNatClampNeg x3.toNatClampNeg := by
        rw [e21, u2_own, e19, u2_own, e16]
        funext i
        unfold swp upd
        by_cases h1 : i = x3.toNatClampNeg
        · simp [h1]
        · by_cases h2 : i = x2.toNatClampNeg
          · simp [h1, h2]
          · simp [h1, h2]
      have q2 : d21 247 x2.toNatClampNeg = d0 223 (8 * k + x3.toNatClampNeg) := by
        rw [r21, ← hc x3.toNatClampNeg (by omega)]
        unfold swp
        by_cases h2 : x2.toNatClampNeg = x3.toNatClampNeg
        · rw [if_pos h2, h2]
        · rw [if_neg h2, if_pos rfl]
      have q3 : d21 247 x3.toNatClampNeg = d0 223 (8 * k + x2.toNatClampNeg) := by
        rw [r21, ← hc x2.toNatClampNeg (by omega)]
        unfold swp
        rw [if_pos rfl]
      have mm2 := iv_247 I21 x2.toNatClampNeg
      have mm3 := iv_247 I21 x3.toNatClampNeg
      have n2 : (d21 247 x2.toNatClampNeg).toInt = ((whB d0 223 (8 * k) x3.toNatClampNeg : Nat) : Int) := by
        have : whB d0 223 (8 * k) x3.toNatClampNeg = (d0 223 (8 * k + x3.toNatClampNeg)).toInt.toNat := rfl
        rw [q2] at mm2 ⊢
        omega
      have n3 : (d21 247 x3.toNatClampNeg).toInt = ((whB d0 223 (8 * k) x2.toNatClampNeg : Nat) : Int) := by
        have : whB d0 223 (8 * k) x2.toNatClampNeg = (d0 223 (8 * k + x2.toNatClampNeg)).toInt.toNat := rfl
        rw [q3] at mm3 ⊢
        omega
      have p2 : x2.toInt = (x2.toNatClampNeg : Int) := by omega
      have p3 : x3.toInt = (x3.toNatClampNeg : Int) := by omega
      have e214 : d21 214 = d0 214 := f21 214 (by omega)
      refine fn_X10_fits n2 (by omega) p2 I21 (fun r hr => ?_)
      rw [e214] at hr
      refine ⟨fun w => ?_, fun w => ⟨i3, ?_⟩⟩
      · rcases hr with ⟨e, _⟩ | ⟨_, q⟩
        · rw [e] at w
          exact absurd w (by decide)
        · exact hno d21 I21 f21 (Or.inr q)
      · have q1 : ¬ (d0 214 (whB d0 223 (8 * k) x3.toNatClampNeg)).toInt = 1 - ((x2.toNatClampNeg % 2 : Nat) : Int) := by
          rcases hr with ⟨_, q⟩ | ⟨e, _⟩
          · exact q
          · exact absurd e w
        refine fn_X10_fits n3 (by omega) p3 I21 (fun r2 hr2 => ?_)
        rw [e214] at hr2
        refine ⟨fun w2 => ?_, fun w2 => ?_⟩
        · have q4 : ¬ (d0 214 (whB d0 223 (8 * k) x2.toNatClampNeg)).toInt = 1 - ((x3.toNatClampNeg % 2 : Nat) : Int) := by
            rcases hr2 with ⟨_, q⟩ | ⟨e, _⟩
            · exact q
            · exact absurd e w2
          have g218 : d21 218 = d0 218 := f21 218 (by omega)
          have g219 : d21 219 = d0 219 := f21 219 (by omega)
          refine fn_X10_tilt hn (c := 247) (x := 0) (k := k) (S := s) I21 (Or.inl rfl) h1 hk rfl (by rw [show ln 247 = 8 from rfl]; omega) (by omega) (by rw [g218]; exact hR) (by rw [g218]; exact hS) (fun r3 hr3 => hyes r3 d21 I21 f21 q4 q1 ⟨whB d21 247 0, fun i hi => ?_, ?_⟩)
          · show (d21 247 (0 + i)).toNatClampNeg = _
            rw [Nat.zero_add, r21]
            unfold swp whB
            by_cases h1 : i = x3.toNatClampNeg
            · rw [if_pos h1, if_pos h1, hc _ (by omega)]
            · rw [if_neg h1, if_neg h1]
              by_cases h2 : i = x2.toNatClampNeg
              · rw [if_pos h2, if_pos h2, hc _ (by omega)]
              · rw [if_neg h2, if_neg h2, hc _ hi]
          · have w0 : wB d21 = wB d0 := by unfold wB; rw [f21 212 (by omega)]
            have s0 : sB d21 = sB d0 := by unfold sB; rw [f21 213 (by omega)]
            have l0 : lB d21 = lB d0 := by unfold lB; rw [f21 217 (by omega)]
            rw [g218, g219, w0, s0, l0] at hr3
            exact hr3
        · rcases hr2 with ⟨e, _⟩ | ⟨_, q⟩
          · rw [e] at w2
            exact absurd w2 (by decide)
          · exact hno d21 I21 f21 (Or.inl q)
    · have w : ¬ (S : Int) ≤ (s : Int) := fun q => w ((i_le t2 h4).mpr q)
      have t8 : (((8 : Int32) * x1) + x4).toInt = ((8 * k + s : Nat) : Int) := by
        have t : (((8 : Int32) * x1) + x4).toInt = 8 * (k : Int) + (s : Int) := ti_add (ti_mul (rfl : (8 : Int32).toInt = 8) h1 (by omega) (by omega)) h4 (by omega) (by omega)
        rw [t]; omega
      have i48 : vp_in (((8 : Int32) * x1) + x4) 48 := vin t8 (by omega) (by omega)
      refine ⟨i48, vin h4 (by omega) (by omega), fun d37 e37 => ?_⟩
      rw [at_n t8] at e37
      have m := iv_223 hI (8 * k + s)
      have s37 : StP pN d dl d37 dl := by rw [e37]; exact pw_247 (StP.rf hI) m.1 m.2 rfl
      refine ih (s + 1) _ d37 s37.1 (fun i hi => by rw [e37, u2_row hi]; exact hF i hi) (inc1 h4 (by omega)) (by omega) (fun i hi => ?_) (by omega)
      by_cases he : i = s
      · rw [he, e37, u2_eq, hF 223 (by omega)]
      · rw [e37, u2_ne (Or.inr he)]
        exact hc i (by omega)
theorem sp_X10_changeF {n : Nat} (hn : 1000000000 ≤ n) {x1 x2 x3 : Int32} {d : DD} {dl : LL} (hI : Inv d) {Q : Int32 → DD → LL → Prop} (hQ : ∀ (r : Int32) (d2 : DD) (l2 : LL), St d dl d2 l2 ∧ (Rok d → ChgQ10 d x1 x2 x3 r) → Q r d2 l2) : F_X10_change n x1 x2 x3 d dl Q := by
  by_cases hR : Rok d
  rotate_left
  · exact sp_X10_change hn hI (fun r d2 l2 ⟨p, _⟩ => hQ r d2 l2 ⟨p, fun q => absurd q hR⟩)
  have mk := iv_211_1 hI
  have bad : ¬ okG (d 211 1) (d 218 x1.toNatClampNeg) x1 x2 x3 → Q (-100000) d dl := fun h => hQ _ _ _ ⟨St.rf hI, fun _ => Or.inl ⟨h, rfl⟩⟩
  refine fn_isCrew10 hn hI (fun g1 => ⟨fun w => absurd w (by decide), fun _ => ?_⟩) (fun g1 => ⟨fun _ => bad (fun h => g1 h.1), fun w => absurd rfl w⟩)
  have i6 : vp_in x1 6 := vin rfl (by omega) (by omega)
  have hk := clamp_in i6
  have hx : x1.toNatClampNeg = x1.toInt.toNat := rfl
  have h1 : x1.toInt = (x1.toNatClampNeg : Int) := by omega
  have mR := iv_218 hI x1.toNatClampNeg
  have t2 : ((2 : Int32) * (d 218 x1.toNatClampNeg)).toInt = 2 * (d 218 x1.toNatClampNeg).toInt := ti_mul (rfl : (2 : Int32).toInt = 2) rfl (by omega) (by omega)
  refine ⟨fun w => bad (fun o => ?_), fun a1 => ⟨fun w => bad (fun o => ?_), fun a2 => ⟨i6, fun w => bad (fun o => ?_), fun a3 => ⟨i6, fun a4 => ⟨i6, fun sd => ?_, fun sd => ?_⟩, fun w => bad (fun o => ?_)⟩⟩⟩⟩
  · have w : x2.toInt < 0 := (i_lt rfl (rfl : (0 : Int32).toInt = 0)).mp w
    have := o.2.1; omega
  · have w : x3.toInt < 0 := (i_lt rfl (rfl : (0 : Int32).toInt = 0)).mp w
    have := o.2.2; omega
  · have w : 2 * (d 218 x1.toNatClampNeg).toInt ≤ x2.toInt := (i_le t2 rfl).mp w
    have := o.2.1; omega
  · have a1 : ¬ x2.toInt < 0 := fun q => a1 ((i_lt rfl (rfl : (0 : Int32).toInt = 0)).mpr q)
    have a2 : ¬ x3.toInt < 0 := fun q => a2 ((i_lt rfl (rfl : (0 : Int32).toInt = 0)).mpr q)
    have a3 : ¬ 2 * (d 218 x1.toNatClampNeg).toInt ≤ x2.toInt := fun q => a3 ((i_le t2 rfl).mpr q)
    have a4 : x3.toInt < 2 * (d 218 x1.toNatClampNeg).toInt := (i_lt rfl t2).mp a4
    have ok : okG (d 211 1) (d 218 x1.toNatClampNeg) x1 x2 x3 := ⟨g1, by omega, by omega⟩
    obtain ⟨S, hS⟩ : ∃ S : Nat, (S : Int) = 2 * (d 218 x1.toNatClampNeg).toInt := ⟨(2 * (d 218 x1.toNatClampNeg).toInt).toNat, by omega⟩
    refine fb_X10_change_58 hn (k := x1.toNatClampNeg) (S := S) (d0 := d) hk h1 ⟨by omega, by omega⟩ ⟨by omega, by omega⟩ (hR _ (by omega)) hS (fun dz iz fz q => hQ _ _ _ ⟨st247 iz fz, fun _ => Or.inr (Or.inl ⟨ok, Or.inr q, rfl⟩)⟩) (fun r dz iz fz q1 q2 q3 => hQ _ _ _ ⟨st247 iz fz, fun _ => Or.inr (Or.inr ⟨ok, ?_, fun S2 hS2 => ?_⟩)⟩) n 0 0 d hI (fun _ _ => rfl) rfl (Nat.zero_le _) (fun i hi => absurd hi (Nat.not_lt_zero _)) (by omega)
    · intro h
      rcases h with h | h | h
      · exact sd h
      · exact q1 h
      · exact q2 h
    · rw [show S2 = S by omega]; exact q3
  · have a1 : ¬ x2.toInt < 0 := fun q => a1 ((i_lt rfl (rfl : (0 : Int32).toInt = 0)).mpr q)
    have a2 : ¬ x3.toInt < 0 := fun q => a2 ((i_lt rfl (rfl : (0 : Int32).toInt = 0)).mpr q)
    have a3 : ¬ 2 * (d 218 x1.toNatClampNeg).toInt ≤ x2.toInt := fun q => a3 ((i_le t2 rfl).mpr q)
    have a4 : x3.toInt < 2 * (d 218 x1.toNatClampNeg).toInt := (i_lt rfl t2).mp a4
    exact hQ _ _ _ ⟨St.rf hI, fun _ => Or.inr (Or.inl ⟨⟨g1, by omega, by omega⟩, Or.inl sd, rfl⟩)⟩
  · have w : ¬ x3.toInt < 2 * (d 218 x1.toNatClampNeg).toInt := fun q => w ((i_lt rfl t2).mpr q)
    have := o.2.2; omega
def fv (sx ag wt : Nat → Int) (p f : Nat) : Int := if f = 0 then (if sx p = 0 then 1 else 0) else if f = 1 then (if sx p = 0 then 0 else 1) else if f = 2 then (if 40 ≤ ag p then 1 else 0) else if f = 3 then (if ag p < 18 then 1 else 0) else if f = 4 then wt p else 1
def sxA (d : DD) : Nat → Int := fun p => (d 5 p).toInt
def agA (d : DD) : Nat → Int := fun p => (d 6 p).toInt
def sxB (d : DD) : Nat → Int := fun p => (d 215 p).toInt
def agB (d : DD) : Nat → Int := fun p => (d 216 p).toInt
def tlA (d : DD) (k f S : Nat) : Int := sm (fun s => fv (sxA d) (agA d) (wA d) (whA d k s) f) S
def tlB (d : DD) (k f S : Nat) : Int := sm (fun s => fv (sxB d) (agB d) (wB d) (whB d 223 (8 * k) s) f) S
theorem fvA_in {d : DD} (hI : Inv d) (p f : Nat) : 0 ≤ fv (sxA d) (agA d) (wA d) p f ∧ fv (sxA d) (agA d) (wA d) p f ≤ 150 := by
  have m := iv_2 hI p
  unfold fv wA
  repeat' split
  all_goals omega
theorem fvB_in {d : DD} (hI : Inv d) (p f : Nat) : 0 ≤ fv (sxB d) (agB d) (wB d) p f ∧ fv (sxB d) (agB d) (wB d) p f ≤ 150 := by
  have m := iv_212 hI p
  unfold fv wB
  repeat' split
  all_goals omega
theorem tlA_in {d : DD} (hI : Inv d) (k f : Nat) {S : Nat} (hS : S ≤ 8) : 0 ≤ tlA d k f S ∧ tlA d k f S ≤ 1200 := by
  have := sm_in (f := fun s => fv (sxA d) (agA d) (wA d) (whA d k s) f) (a := 0) (b := 150) (by omega) (by omega) S hS (fun i _ => fvA_in hI _ f)
  unfold tlA
  omega
theorem tlB_in {d : DD} (hI : Inv d) (k f : Nat) {S : Nat} (hS : S ≤ 8) : 0 ≤ tlB d k f S ∧ tlB d k f S ≤ 1200 := by
  have := sm_in (f := fun s => fv (sxB d) (agB d) (wB d) (whB d 223 (8 * k) s) f) (a := 0) (b := 150) (by omega) (by omega) S hS (fun i _ => fvB_in hI _ f)
  unfold tlB
  omega
theorem tlA_s {d : DD} {k f i : Nat} : tlA d k f (i + 1) = tlA d k f i + fv (sxA d) (agA d) (wA d) (whA d k i) f := rfl
theorem tlB_s {d : DD} {k f i : Nat} : tlB d k f (i + 1) = tlB d k f i + fv (sxB d) (agB d) (wB d) (whB d 223 (8 * k) i) f := rfl
theorem fb_X9_tallySeated_23 {n : Nat} {Q : DD → LL → Prop} {k S : Nat} (hk : k < 6) {d0 : DD} {dl : LL} (hS : (S : Int) = 2 * (d0 (37 + 3 * k) 0).toInt) (hI0 : Inv d0) (hQ : ∀ dz : DD, Inv dz → (∀ c, c ≠ 27 → dz c = d0 c) → (∀ f, f < 6 → (dz 27 f).toInt = tlA d0 k f S) → Q dz dl) : ∀ (j i : Nat) (x2 : Int32) (d : DD), Inv d → (∀ c, c ≠ 27 → d c = d0 c) → x2.toInt = (i : Int) → i ≤ S → (∀ f, f < 6 → (d 27 f).toInt = tlA d0 k f i) → 9 ≤ i + j → b_X9_tallySeated_23 n Q j k x2 d dl := by
  have mR := iv_37_0 hI0 hk
  have hS8 : S ≤ 8 := by omega
  intro j
  induction j with
  | zero =>
    intro i x2 d hI hF h2 hi ht hj
    exfalso
    omega
  | succ j ih =>
    intro i x2 d hI hF h2 hi ht hj
    have e2 := at_n h2
    have q37 : d (37 + 3 * k) 0 = d0 (37 + 3 * k) 0 := by rw [hF _ (by omega)]
    have t2 : ((2 : Int32) * (d (37 + 3 * k) 0)).toInt = (S : Int) := by
      have t : ((2 : Int32) * (d (37 + 3 * k) 0)).toInt = 2 * (d0 (37 + 3 * k) 0).toInt := ti_mul (rfl : (2 : Int32).toInt = 2) (by rw [q37]) (by omega) (by omega)
      rw [t]; omega
    show (_ → _) ∧ _
    refine ⟨fun w => ?_, fun w => ?_⟩
    · have w : (S : Int) ≤ (i : Int) := (i_le t2 h2).mp w
      have hiS : i = S := by omega
      exact hQ d hI hF (fun f hf => by rw [← hiS]; exact ht f hf)
    · have w : ¬ (S : Int) ≤ (i : Int) := fun q => w ((i_le t2 h2).mpr q)
      rw [e2]
      refine ⟨vin h2 (by omega) (by omega), fun v7 e7 => ?_⟩
      have m7 := iv_39 hI hk i
      rw [← e7] at m7
      have p7 : v7.toNatClampNeg = whA d0 k i := by
        unfold whA
        rw [e7, hF (39 + 3 * k) (by omega)]
      have i7 : vp_in v7 40 := vin rfl m7.1 (by omega)
      rw [p7]
      generalize hp : whA d0 k i = p at *
      have bi : ∀ f, 0 ≤ tlA d0 k f i ∧ tlA d0 k f i ≤ 1200 := fun f => tlA_in hI0 k f (by omega)
      have n2 : (2 : Int32).toNatClampNeg = 2 := rfl
      have n3 : (3 : Int32).toNatClampNeg = 3 := rfl
      have n4 : (4 : Int32).toNatClampNeg = 4 := rfl
      have n5 : (5 : Int32).toNatClampNeg = 5 := rfl
      have mw := iv_2 hI0 p
      have go : ∀ (xs : Int32) (u : Nat), xs.toInt = (u : Int) → u < 2 → (∀ f, f < 2 → fv (sxA d0) (agA d0) (wA d0) p f = if f = u then 1 else 0) → b_X9_tallySeated_59 n Q (b_X9_tallySeated_23 n Q j) k x2 v7 xs d dl := by
        intro xs u hxs hu hfv
        have ix : vp_in xs 6 := vin hxs (by omega) (by omega)
        have ex' := at_n hxs
        refine ⟨ix, ix, fun d12 e12 => ⟨i7, ?_⟩⟩
        rw [ex'] at e12
        rw [p7]
        have s12 : StP pN d dl d12 dl := by rw [e12]; exact pw_27 (StP.rf hI) rfl
        have F12 : ∀ c, c ≠ 27 → d12 c = d0 c := fun c hc => by rw [e12, u2_row hc]; exact hF c hc
        have a12 : ∀ f, f < 2 → (d12 27 f).toInt = tlA d0 k f (i + 1) := by
          intro f hf
          rw [tlA_s, hp, hfv f hf]
          by_cases he : f = u
          · have b := bi f
            rw [if_pos he, e12, he, u2_eq]
            rw [he] at b
            exact ti_add (ht u (by omega)) (rfl : (1 : Int32).toInt = 1) (by omega) (by omega)
          · rw [if_neg he, e12, u2_ne (Or.inr he), ht f (by omega)]
            omega
        have b12 : ∀ f, 2 ≤ f → f < 6 → (d12 27 f).toInt = tlA d0 k f i := fun f a b => by rw [e12, u2_ne (Or.inr (by omega))]; exact ht f b
        rw [F12 6 (by omega), n2]
        have go2 : ∀ y : Int32, y.toInt = fv (sxA d0) (agA d0) (wA d0) p 2 → b_X9_tallySeated_90 n Q (b_X9_tallySeated_23 n Q j) k x2 v7 y (d12 27 2) 2 d12 dl := by
          intro y hy
          have y2 := fvA_in hI0 p 2
          refine ⟨by decide, fun d17 e17 => ⟨i7, ?_⟩⟩
          rw [n2] at e17
          rw [p7]
          have s17 : StP pN d dl d17 dl := by rw [e17]; exact pw_27 s12 rfl
          have F17 : ∀ c, c ≠ 27 → d17 c = d0 c := fun c hc => by rw [e17, u2_row hc]; exact F12 c hc
          have b2 := bi 2
          have c17 : (d17 27 2).toInt = tlA d0 k 2 (i + 1) := by rw [e17, u2_eq, tlA_s, hp]; exact ti_add (b12 2 (by omega) (by omega)) hy (by omega) (by omega)
          rw [F17 6 (by omega), n3]
          have go3 : ∀ z : Int32, z.toInt = fv (sxA d0) (agA d0) (wA d0) p 3 → b_X9_tallySeated_118 n Q (b_X9_tallySeated_23 n Q j) k x2 v7 z (d17 27 3) 3 d17 dl := by
            intro z hz
            have z3 := fvA_in hI0 p 3
            refine ⟨by decide, fun d22 e22 => ⟨i7, fun d26 e26 d29 e29 => ?_⟩⟩
            rw [n3] at e22
            rw [p7, n4] at e26
            rw [n5] at e29
            have s22 : StP pN d dl d22 dl := by rw [e22]; exact pw_27 s17 rfl
            have s26 : StP pN d dl d26 dl := by rw [e26]; exact pw_27 s22 rfl
            have s29 : StP pN d dl d29 dl := by rw [e29]; exact pw_27 s26 rfl
            have F29 : ∀ c, c ≠ 27 → d29 c = d0 c := fun c hc => by rw [e29, u2_row hc, e26, u2_row hc, e22, u2_row hc]; exact F17 c hc
            have b3 := bi 3
            have b4 := bi 4
            have b5 := bi 5
            refine ih (i + 1) _ d29 s29.1 F29 (inc1 h2 (by omega)) (by omega) (fun f hf => ?_) (by omega)
            have hc : f = 0 ∨ f = 1 ∨ f = 2 ∨ f = 3 ∨ f = 4 ∨ f = 5 := by omega
            rcases hc with rfl | rfl | rfl | rfl | rfl | rfl
            · rw [e29, u2_ne (Or.inr (by omega)), e26, u2_ne (Or.inr (by omega)), e22, u2_ne (Or.inr (by omega)), e17, u2_ne (Or.inr (by omega))]
              exact a12 0 (by omega)
            · rw [e29, u2_ne (Or.inr (by omega)), e26, u2_ne (Or.inr (by omega)), e22, u2_ne (Or.inr (by omega)), e17, u2_ne (Or.inr (by omega))]
              exact a12 1 (by omega)
            · rw [e29, u2_ne (Or.inr (by omega)), e26, u2_ne (Or.inr (by omega)), e22, u2_ne (Or.inr (by omega))]
              exact c17
            · rw [e29, u2_ne (Or.inr (by omega)), e26, u2_ne (Or.inr (by omega)), e22, u2_eq, tlA_s, hp]
              exact ti_add (by rw [e17, u2_ne (Or.inr (by omega))]; exact b12 3 (by omega) (by omega)) hz (by omega) (by omega)
            · have r4 : (d22 27 4).toInt = tlA d0 k 4 i := by rw [e22, u2_ne (Or.inr (by omega)), e17, u2_ne (Or.inr (by omega))]; exact b12 4 (by omega) (by omega)
              have r2 : (d22 2 p).toInt = fv (sxA d0) (agA d0) (wA d0) p 4 := by rw [e22, u2_row (by omega), F17 2 (by omega)]; rfl
              have f4 := fvA_in hI0 p 4
              rw [e29, u2_ne (Or.inr (by omega)), e26, u2_eq, tlA_s, hp]
              exact ti_add r4 r2 (by omega) (by omega)
            · have r5 : (d26 27 5).toInt = tlA d0 k 5 i := by rw [e26, u2_ne (Or.inr (by omega)), e22, u2_ne (Or.inr (by omega)), e17, u2_ne (Or.inr (by omega))]; exact b12 5 (by omega) (by omega)
              rw [e29, u2_eq, tlA_s, hp]
              exact ti_add r5 (rfl : (1 : Int32).toInt = 1) (by omega) (by omega)
          refine ⟨fun w => go3 0 ?_, fun w => go3 1 ?_⟩
          · have w : 18 ≤ (d0 6 p).toInt := (i_le (rfl : (18 : Int32).toInt = 18) rfl).mp w
            show (0 : Int) = if (d0 6 p).toInt < 18 then 1 else 0
            rw [if_neg (by omega)]
          · have w : ¬ 18 ≤ (d0 6 p).toInt := fun q => w ((i_le (rfl : (18 : Int32).toInt = 18) rfl).mpr q)
            show (1 : Int) = if (d0 6 p).toInt < 18 then 1 else 0
            rw [if_pos (by omega)]
        refine ⟨fun w => go2 0 ?_, fun w => go2 1 ?_⟩
        · have w : (d0 6 p).toInt < 40 := (i_lt rfl (rfl : (40 : Int32).toInt = 40)).mp w
          show (0 : Int) = if 40 ≤ (d0 6 p).toInt then 1 else 0
          rw [if_neg (by omega)]
        · have w : ¬ (d0 6 p).toInt < 40 := fun q => w ((i_lt rfl (rfl : (40 : Int32).toInt = 40)).mpr q)
          show (1 : Int) = if 40 ≤ (d0 6 p).toInt then 1 else 0
          rw [if_pos (by omega)]
      rw [hF 5 (by omega)]
      refine ⟨i7, fun w => go 1 1 rfl (by omega) (fun f hf => ?_), fun w => go 0 0 rfl (by omega) (fun f hf => ?_)⟩
      · have w : ¬ (d0 5 p).toInt = 0 := fun q => w ((i_eq rfl (rfl : (0 : Int32).toInt = 0)).mpr q)
        have hc : f = 0 ∨ f = 1 := by omega
        rcases hc with rfl | rfl
        · show (if (d0 5 p).toInt = 0 then (1 : Int) else 0) = 0
          rw [if_neg w]
        · show (if (d0 5 p).toInt = 0 then (0 : Int) else 1) = 1
          rw [if_neg w]
      · have w : (d0 5 p).toInt = 0 := (i_eq rfl (rfl : (0 : Int32).toInt = 0)).mp w
        have hc : f = 0 ∨ f = 1 := by omega
        rcases hc with rfl | rfl
        · show (if (d0 5 p).toInt = 0 then (1 : Int) else 0) = 1
          rw [if_pos w]
        · show (if (d0 5 p).toInt = 0 then (0 : Int) else 1) = 0
          rw [if_pos w]
theorem fb_X9_tallySeated_2 {n : Nat} (hn : 1000000000 ≤ n) {Q : DD → LL → Prop} {k S : Nat} (hk : k < 6) {d0 : DD} {dl : LL} (hS : (S : Int) = 2 * (d0 (37 + 3 * k) 0).toInt) (hI0 : Inv d0) (hQ : ∀ dz : DD, Inv dz → (∀ c, c ≠ 27 → dz c = d0 c) → (∀ f, f < 6 → (dz 27 f).toInt = tlA d0 k f S) → Q dz dl) : ∀ (j i : Nat) (x2 : Int32) (d : DD), Inv d → (∀ c, c ≠ 27 → d c = d0 c) → x2.toInt = (i : Int) → i ≤ 6 → (∀ f, f < i → (d 27 f).toInt = 0) → 7 ≤ i + j → b_X9_tallySeated_2 n Q j k x2 d dl := by
  intro j
  induction j with
  | zero =>
    intro i x2 d hI hF h2 hi ht hj
    exfalso
    omega
  | succ j ih =>
    intro i x2 d hI hF h2 hi ht hj
    show _ ∧ _
    have e2 := at_n h2
    refine ⟨fun w => ?_, fun w => ?_⟩
    · have w : 6 ≤ (i : Int) := (i_le (rfl : (6 : Int32).toInt = 6) h2).mp w
      exact fb_X9_tallySeated_23 hk hS hI0 hQ n 0 0 d hI hF rfl (Nat.zero_le _) (fun f hf => ht f (by omega)) (by omega)
    · have w : ¬ 6 ≤ (i : Int) := fun q => w ((i_le (rfl : (6 : Int32).toInt = 6) h2).mpr q)
      refine ⟨vin h2 (by omega) (by omega), fun d31 e31 => ?_⟩
      rw [e2] at e31
      have s31 : StP pN d dl d31 dl := by rw [e31]; exact pw_27 (StP.rf hI) rfl
      refine ih (i + 1) _ d31 s31.1 (fun c hc => by rw [e31, u2_row hc]; exact hF c hc) (inc1 h2 (by omega)) (by omega) (fun f hf => ?_) (by omega)
      by_cases he : f = i
      · rw [he, e31, u2_eq]; rfl
      · rw [e31, u2_ne (Or.inr he)]
        exact ht f (by omega)
def hb (x : Int32) (b : Bool) : Prop := (x = 1 ∧ b = true) ∨ (x = 0 ∧ b = false)
def cmp9 (c : Int32) (v m : Int) : Bool := if c = 60 then decide (v < m) else if c = 61 then decide (v = m) else decide (m < v)
def tb9 (d : DD) (k t : Nat) (v : Int) : Bool := cmp9 (d (58 + 6 * k) t) v (d (59 + 6 * k) t).toInt != decide (¬ d (56 + 6 * k) t = 0)
theorem fn_X5_testHolds {n : Nat} {k t : Nat} (hk : k < 6) (ht : t < 8) {x1 x2 : Int32} {v : Int} (h1 : x1.toInt = (t : Int)) (h2 : x2.toInt = v) {d : DD} {dl : LL} (hI : Inv d) {Q : Int32 → DD → LL → Prop} (hQ : ∀ r : Int32, hb r (tb9 d k t v) → Q r d dl) : F_X5_testHolds n k x1 x2 d dl Q := by
  have i8 : vp_in x1 8 := vin h1 (by omega) (by omega)
  have e1 := at_n h1
  have m := iv_56 hI hk t
  have go : ∀ (y : Int32) (b : Bool), hb y b → b = cmp9 (d (58 + 6 * k) t) v (d (59 + 6 * k) t).toInt → b_X5_testHolds_86 n Q k x1 y d dl := by
    intro y b hy hbb
    unfold b_X5_testHolds_86
    rw [e1]
    have ht9 : tb9 d k t v = (b != decide (¬ d (56 + 6 * k) t = 0)) := by unfold tb9; rw [hbb]
    by_cases z : d (56 + 6 * k) t = 0
    · rw [decide_eq_false (fun w => w z)] at ht9
      refine ⟨i8, fun w => hQ 0 (Or.inr ⟨rfl, ?_⟩), fun w => hQ 1 (Or.inl ⟨rfl, ?_⟩)⟩
      · rcases hy with ⟨a, c⟩ | ⟨a, c⟩
        · rw [a, z] at w
          exact absurd w (by decide)
        · rw [ht9, c]; rfl
      · rcases hy with ⟨a, c⟩ | ⟨a, c⟩
        · rw [ht9, c]; rfl
        · rw [a, z] at w
          exact absurd rfl w
    · rw [decide_eq_true z] at ht9
      have z1 : d (56 + 6 * k) t = 1 := by
        have : ¬ (d (56 + 6 * k) t).toInt = 0 := fun q => z ((i_eq rfl (rfl : (0 : Int32).toInt = 0)).mpr q)
        exact (i_eq rfl (rfl : (1 : Int32).toInt = 1)).mpr (by omega)
      refine ⟨i8, fun w => hQ 0 (Or.inr ⟨rfl, ?_⟩), fun w => hQ 1 (Or.inl ⟨rfl, ?_⟩)⟩
      · rcases hy with ⟨a, c⟩ | ⟨a, c⟩
        · rw [ht9, c]; rfl
        · rw [a, z1] at w
          exact absurd w (by decide)
      · rcases hy with ⟨a, c⟩ | ⟨a, c⟩
        · rw [a, z1] at w
          exact absurd rfl w
        · rw [ht9, c]; rfl
  unfold F_X5_testHolds b_X5_testHolds_47 b_X5_testHolds_66 b_X5_testHolds_85
  rw [e1]
  refine ⟨i8, fun c => ⟨i8, fun w => go 0 false (Or.inr ⟨rfl, rfl⟩) ?_, fun w => go 1 true (Or.inl ⟨rfl, rfl⟩) ?_⟩, fun c => ⟨i8, fun w => go 0 false (Or.inr ⟨rfl, rfl⟩) ?_, fun w => go 1 true (Or.inl ⟨rfl, rfl⟩) ?_⟩, fun c => ⟨i8, fun w => go 0 false (Or.inr ⟨rfl, rfl⟩) ?_, fun w => go 1 true (Or.inl ⟨rfl, rfl⟩) ?_⟩⟩
  · have w := (i_le rfl h2).mp w
    unfold cmp9
    rw [if_pos c, decide_eq_false (by omega)]
  · have w := fun q => w ((i_le rfl h2).mpr q)
    unfold cmp9
    rw [if_pos c, decide_eq_true (by omega)]
  · have w := fun q => w ((i_eq h2 rfl).mpr q)
    unfold cmp9
    rw [if_neg (by rw [c]; decide), if_pos c, decide_eq_false w]
  · have w := (i_eq h2 rfl).mp w
    unfold cmp9
    rw [if_neg (by rw [c]; decide), if_pos c, decide_eq_true w]
  · have w := (i_le h2 rfl).mp w
    unfold cmp9
    rw [if_neg c.1, if_neg c.2, decide_eq_false (by omega)]
  · have w := fun q => w ((i_le h2 rfl).mpr q)
    unfold cmp9
    rw [if_neg c.1, if_neg c.2, decide_eq_true (by omega)]
def hl (o t : Nat → Bool) : Nat → Bool × Bool
  | 0 => (false, true)
  | n + 1 => (if o n = true then ((hl o t n).1 || (hl o t n).2) else (hl o t n).1, (if o n = true then true else (hl o t n).2) && t n)
theorem hl_k {o t o2 t2 : Nat → Bool} : ∀ n : Nat, (∀ i, i < n → o i = o2 i ∧ t i = t2 i) → hl o t n = hl o2 t2 n := by
  intro n
  induction n with
  | zero => intro _; rfl
  | succ n ih =>
    intro h
    have a := ih (fun i hi => h i (by omega))
    have b := h n (by omega)
    show (if o n = true then ((hl o t n).1 || (hl o t n).2) else (hl o t n).1, (if o n = true then true else (hl o t n).2) && t n) = (if o2 n = true then ((hl o2 t2 n).1 || (hl o2 t2 n).2) else (hl o2 t2 n).1, (if o2 n = true then true else (hl o2 t2 n).2) && t2 n)
    rw [a, b.1, b.2]
def oo9 (d : DD) (k : Nat) : Nat → Bool := fun t => decide (¬ d (60 + 6 * k) t = 0)
def tt9 (d : DD) (k : Nat) : Nat → Bool := fun t => tb9 d k t (d 27 (d (57 + 6 * k) t).toNatClampNeg).toInt
theorem hb0 {x : Int32} {b : Bool} (h : hb x b) (w : x = 0) : b = false := by
  rcases h with ⟨a, _⟩ | ⟨_, c⟩
  · exact absurd (a.symm.trans w) (by decide)
  · exact c
theorem hb1 {x : Int32} {b : Bool} (h : hb x b) (w : ¬ x = 0) : b = true := by
  rcases h with ⟨_, c⟩ | ⟨a, _⟩
  · exact c
  · exact absurd a w
theorem fb_X5_holds_7 {n : Nat} {Q : Int32 → DD → LL → Prop} {k M : Nat} (hk : k < 6) {d : DD} {dl : LL} (hI : Inv d) (hM : (d (55 + 6 * k) 0).toInt = (M : Int)) (hQ : ∀ r : Int32, hb r ((hl (oo9 d k) (tt9 d k) M).1 || (hl (oo9 d k) (tt9 d k) M).2) → Q r d dl) : ∀ (j t : Nat) (x2 x3 x4 : Int32), x4.toInt = (t : Int) → t ≤ M → hb x2 (hl (oo9 d k) (tt9 d k) t).1 → hb x3 (hl (oo9 d k) (tt9 d k) t).2 → 9 ≤ t + j → b_X5_holds_7 n Q j k x2 x3 x4 d dl := by
  have mM := iv_55_0 hI hk
  intro j
  induction j with
  | zero =>
    intro t x2 x3 x4 h4 ht ha hc hj
    exfalso
    omega
  | succ j ih =>
    intro t x2 x3 x4 h4 ht ha hc hj
    show _ ∧ _
    have e4 := at_n h4
    refine ⟨fun w => ?_, fun w => ?_⟩
    · have w : (M : Int) ≤ (t : Int) := (i_le hM h4).mp w
      have htM : t = M := by omega
      rw [htM] at ha hc
      refine ⟨fun a => hQ 1 (Or.inl ⟨rfl, by rw [hb1 ha a]; rfl⟩), fun a => ⟨fun b => hQ 0 (Or.inr ⟨rfl, by rw [hb0 ha a, hb0 hc b]; rfl⟩), fun b => hQ 1 (Or.inl ⟨rfl, by rw [hb1 hc b, Bool.or_true]⟩)⟩⟩
    · have w : ¬ (M : Int) ≤ (t : Int) := fun q => w ((i_le hM h4).mpr q)
      have i8 : vp_in x4 8 := vin h4 (by omega) (by omega)
      have t4 : (x4 + 1).toInt = ((t + 1 : Nat) : Int) := inc1 h4 (by omega)
      have m57 := iv_57 hI hk t
      have i57 : vp_in (d (57 + 6 * k) t) 6 := vin rfl m57.1 (by omega)
      have st : ∀ (y2 y3 : Int32), hb y2 (if oo9 d k t = true then ((hl (oo9 d k) (tt9 d k) t).1 || (hl (oo9 d k) (tt9 d k) t).2) else (hl (oo9 d k) (tt9 d k) t).1) → hb y3 (if oo9 d k t = true then true else (hl (oo9 d k) (tt9 d k) t).2) → b_X5_holds_42 n Q (b_X5_holds_7 n Q j) k y2 y3 x4 d dl := by
        intro y2 y3 h2 h3
        unfold b_X5_holds_42 b_X5_holds_68
        rw [e4]
        refine ⟨fun a => ih (t + 1) _ _ _ t4 (by omega) h2 (Or.inr ⟨rfl, ?_⟩) (by omega), fun a => ⟨i8, i57, ?_⟩⟩
        · show ((if oo9 d k t = true then true else (hl (oo9 d k) (tt9 d k) t).2) && tt9 d k t) = false
          rw [hb0 h3 a]; rfl
        · refine fn_X5_testHolds hk (by omega) h4 rfl hI (fun r hr => ⟨fun q => ih (t + 1) _ _ _ t4 (by omega) h2 (Or.inr ⟨rfl, ?_⟩) (by omega), fun q => ih (t + 1) _ _ _ t4 (by omega) h2 (Or.inl ⟨rfl, ?_⟩) (by omega)⟩)
          · show ((if oo9 d k t = true then true else (hl (oo9 d k) (tt9 d k) t).2) && tt9 d k t) = false
            rw [show tt9 d k t = false from hb0 hr q, Bool.and_false]
          · show ((if oo9 d k t = true then true else (hl (oo9 d k) (tt9 d k) t).2) && tt9 d k t) = true
            rw [hb1 h3 a, show tt9 d k t = true from hb1 hr q]; rfl
      rw [e4]
      refine ⟨i8, fun o => ?_, fun o => ?_⟩
      · have ho : ¬ oo9 d k t = true := fun q => (of_decide_eq_true q) o
        exact st x2 x3 (by rw [if_neg ho]; exact ha) (by rw [if_neg ho]; exact hc)
      · have ho : oo9 d k t = true := decide_eq_true o
        have s1 : hb 1 ((hl (oo9 d k) (tt9 d k) t).1 || (hl (oo9 d k) (tt9 d k) t).2) → b_X5_holds_34 n Q (b_X5_holds_7 n Q j) k x4 d dl := fun q => st 1 1 (by rw [if_pos ho]; exact q) (by rw [if_pos ho]; exact Or.inl ⟨rfl, rfl⟩)
        refine ⟨fun a => s1 (Or.inl ⟨rfl, by rw [hb1 ha a]; rfl⟩), fun a => ⟨fun b => st 0 1 (by rw [if_pos ho]; exact Or.inr ⟨rfl, by rw [hb0 ha a, hb0 hc b]; rfl⟩) (by rw [if_pos ho]; exact Or.inl ⟨rfl, rfl⟩), fun b => s1 (Or.inl ⟨rfl, by rw [hb1 hc b, Bool.or_true]⟩)⟩⟩
def okK (m r x1 x2 : Int32) : Prop := (0 ≤ x1.toInt ∧ x1.toInt < m.toInt) ∧ (0 ≤ x2.toInt ∧ x2.toInt < r.toInt)
def vv9 (d : DD) (k ρ S : Nat) : Nat → Bool := fun t => tb9 d ρ t (tlA d k (d (57 + 6 * ρ) t).toNatClampNeg S)
def KeQ9 (d : DD) (x1 x2 r : Int32) : Prop := (¬ okK (d 0 2) (d 0 7) x1 x2 ∧ r = -1) ∨ (okK (d 0 2) (d 0 7) x1 x2 ∧ d (37 + 3 * x1.toNatClampNeg) 6 = 0 ∧ r = -3) ∨ (okK (d 0 2) (d 0 7) x1 x2 ∧ ¬ d (37 + 3 * x1.toNatClampNeg) 6 = 0 ∧ ∀ S M : Nat, (S : Int) = 2 * (d (37 + 3 * x1.toNatClampNeg) 0).toInt → (d (55 + 6 * x2.toNatClampNeg) 0).toInt = (M : Int) → hb r ((hl (oo9 d x2.toNatClampNeg) (vv9 d x1.toNatClampNeg x2.toNatClampNeg S) M).1 || (hl (oo9 d x2.toNatClampNeg) (vv9 d x1.toNatClampNeg x2.toNatClampNeg S) M).2))
theorem st27 {d dz : DD} {dl : LL} (hz : Inv dz) (h : ∀ i, i ≠ 27 → dz i = d i) : St d dl dz dl := by
  refine ⟨hz, fun i j q => ?_, fun _ _ _ => rfl⟩
  by_cases e : i = 27
  · subst e
    exact absurd (show false = true from q) (by decide)
  · rw [h i e]
theorem sp_X9_keepsF {n : Nat} (hn : 1000000000 ≤ n) {x1 x2 : Int32} {d : DD} {dl : LL} (hI : Inv d) {Q : Int32 → DD → LL → Prop} (hQ : ∀ (r : Int32) (d2 : DD) (l2 : LL), St d dl d2 l2 ∧ KeQ9 d x1 x2 r → Q r d2 l2) : F_X9_keeps n x1 x2 d dl Q := by
  have mk := iv_0_2 hI
  have mr := iv_0_7 hI
  have bad : ¬ okK (d 0 2) (d 0 7) x1 x2 → Q (-1) d dl := fun h => hQ _ _ _ ⟨St.rf hI, Or.inl ⟨h, rfl⟩⟩
  refine fn_isCrew9 hn hI (fun g1 => ⟨fun w => absurd w (by decide), fun _ => ?_⟩) (fun g1 => ⟨fun _ => bad (fun h => g1 h.1), fun w => absurd rfl w⟩)
  have t7 : ((d 0 7) - 1).toInt = (d 0 7).toInt - 1 := ti_sub rfl (rfl : (1 : Int32).toInt = 1) (by omega) (by omega)
  refine fn_within hn (rfl : (0 : Int32).toInt = 0) t7 hI (fun g2 => ⟨fun _ => ?_, fun w => absurd w (by decide)⟩) (fun g2 => ⟨fun w => absurd rfl w, fun _ => bad (fun h => g2 (by have := h.2; omega))⟩)
  have ok : okK (d 0 2) (d 0 7) x1 x2 := ⟨g1, by omega⟩
  have i6 : vp_in x1 6 := vin rfl (by omega) (by omega)
  have j6 : vp_in x2 6 := vin rfl (by omega) (by omega)
  have hk := clamp_in i6
  have hr := clamp_in j6
  refine ⟨i6, fun k10 e10 => ?_⟩
  subst e10
  refine ⟨fun w => ⟨i6, fun k13 e13 => ?_⟩, fun w => hQ _ _ _ ⟨St.rf hI, Or.inr (Or.inl ⟨ok, w, rfl⟩)⟩⟩
  subst e13
  have mR := iv_37_0 hI hk
  obtain ⟨S, hS⟩ : ∃ S : Nat, (S : Int) = 2 * (d (37 + 3 * x1.toNatClampNeg) 0).toInt := ⟨(2 * (d (37 + 3 * x1.toNatClampNeg) 0).toInt).toNat, by omega⟩
  refine fb_X9_tallySeated_2 hn hk hS hI (fun dz iz fz tz => ⟨j6, fun k18 e18 => ?_⟩) n 0 0 d hI (fun _ _ => rfl) rfl (Nat.zero_le _) (fun f hf => absurd hf (Nat.not_lt_zero _)) (by omega)
  subst e18
  have mM := iv_55_0 iz hr
  obtain ⟨M, hM⟩ : ∃ M : Nat, (dz (55 + 6 * x2.toNatClampNeg) 0).toInt = (M : Int) := ⟨(dz (55 + 6 * x2.toNatClampNeg) 0).toInt.toNat, by omega⟩
  have hM0 : (d (55 + 6 * x2.toNatClampNeg) 0).toInt = (M : Int) := by rw [← fz _ (by omega)]; exact hM
  have eo : oo9 dz x2.toNatClampNeg = oo9 d x2.toNatClampNeg := by unfold oo9; rw [fz _ (by omega)]
  have et : tt9 dz x2.toNatClampNeg = vv9 d x1.toNatClampNeg x2.toNatClampNeg S := by
    funext t
    unfold tt9 vv9 tb9
    have m57 := iv_57 iz hr t
    have hc : (dz (57 + 6 * x2.toNatClampNeg) t).toNatClampNeg = (dz (57 + 6 * x2.toNatClampNeg) t).toInt.toNat := rfl
    rw [tz _ (by omega), fz (56 + 6 * x2.toNatClampNeg) (by omega), fz (57 + 6 * x2.toNatClampNeg) (by omega), fz (58 + 6 * x2.toNatClampNeg) (by omega), fz (59 + 6 * x2.toNatClampNeg) (by omega)]
  have fin : ∀ r : Int32, hb r ((hl (oo9 dz x2.toNatClampNeg) (tt9 dz x2.toNatClampNeg) M).1 || (hl (oo9 dz x2.toNatClampNeg) (tt9 dz x2.toNatClampNeg) M).2) → Q r dz dl := fun r hr => by
    rw [eo, et] at hr
    exact hQ _ _ _ ⟨st27 iz fz, Or.inr (Or.inr ⟨ok, w, fun S2 M2 hS2 hM2 => by rw [show S2 = S by omega, show M2 = M by omega]; exact hr⟩)⟩
  refine fb_X5_holds_7 hr iz hM (fun r hr => ⟨fun q => fin 0 (Or.inr ⟨rfl, hb0 hr q⟩), fun q => fin 1 (Or.inl ⟨rfl, hb1 hr q⟩)⟩) n 0 0 1 0 rfl (Nat.zero_le _) (Or.inr ⟨rfl, rfl⟩) (Or.inl ⟨rfl, rfl⟩) (by omega)
theorem fb_X10_field_5 {n : Nat} {Q : Int32 → DD → LL → Prop} {k S f : Nat} (hk : k < 6) {x1 x2 : Int32} {d : DD} {dl : LL} (hI : Inv d) (h1 : x1.toInt = (k : Int)) (h2 : x2.toInt = (f : Int)) (hf : f ≤ 5) (hS : (S : Int) = 2 * (d 218 k).toInt) (hQ : ∀ r : Int32, r.toInt = tlB d k f S → Q r d dl) : ∀ (j i : Nat) (x3 x4 : Int32), x4.toInt = (i : Int) → i ≤ S → x3.toInt = tlB d k f i → 9 ≤ i + j → b_X10_field_5 n Q j x1 x2 x3 x4 d dl := by
  have mR := iv_218 hI k
  have hS8 : S ≤ 8 := by omega
  have e1 := at_n h1
  have i6 : vp_in x1 6 := vin h1 (by omega) (by omega)
  intro j
  induction j with
  | zero =>
    intro i x3 x4 h4 hi h3 hj
    exfalso
    omega
  | succ j ih =>
    intro i x3 x4 h4 hi h3 hj
    show _ ∧ _
    have t2 : ((2 : Int32) * (d 218 k)).toInt = (S : Int) := by
      have t : ((2 : Int32) * (d 218 k)).toInt = 2 * (d 218 k).toInt := ti_mul (rfl : (2 : Int32).toInt = 2) rfl (by omega) (by omega)
      rw [t]; omega
    rw [e1]
    refine ⟨i6, fun w => ?_, fun w => ?_⟩
    · have w : (S : Int) ≤ (i : Int) := (i_le t2 h4).mp w
      have hiS : i = S := by omega
      exact hQ x3 (by rw [← hiS]; exact h3)
    · have w : ¬ (S : Int) ≤ (i : Int) := fun q => w ((i_le t2 h4).mpr q)
      have t8 : (((8 : Int32) * x1) + x4).toInt = ((8 * k + i : Nat) : Int) := by
        have t : (((8 : Int32) * x1) + x4).toInt = 8 * (k : Int) + (i : Int) := ti_add (ti_mul (rfl : (8 : Int32).toInt = 8) h1 (by omega) (by omega)) h4 (by omega) (by omega)
        rw [t]; omega
      rw [at_n t8]
      refine ⟨vin t8 (by omega) (by omega), fun v4 e4 => ?_⟩
      have m4 := iv_223 hI (8 * k + i)
      rw [← e4] at m4
      have p4 : v4.toNatClampNeg = whB d 223 (8 * k) i := by
        unfold whB
        rw [e4]
      have i4 : vp_in v4 40 := vin rfl m4.1 (by omega)
      rw [p4]
      have bi := tlB_in hI k f (show i ≤ 8 by omega)
      have hs : tlB d k f (i + 1) = tlB d k f i + fv (sxB d) (agB d) (wB d) (whB d 223 (8 * k) i) f := tlB_s
      generalize whB d 223 (8 * k) i = p at *
      have fi := fvB_in hI p f
      have nx : ∀ y : Int32, y.toInt = fv (sxB d) (agB d) (wB d) p f → b_X10_field_5 n Q j x1 x2 (x3 + y) (x4 + 1) d dl := fun y hy =>
        ih (i + 1) _ _ (inc1 h4 (by omega)) (by omega) (by rw [hs]; exact ti_add h3 hy (by omega) (by omega)) (by omega)
      have ms := iv_215 hI p
      refine ⟨fun c => ⟨i4, fun a v7 e7 => ?_, fun a v7 e7 => ?_⟩, fun c => ⟨i4, fun v9 e9 => ?_⟩, fun c => ⟨i4, fun a v e => ?_, fun a v e => ?_⟩, fun c => ⟨i4, fun a v e => ?_, fun a v e => ?_⟩, fun c => ⟨i4, fun v17 e17 => ?_⟩, fun c => ?_⟩
      · have c : (f : Int) = 0 := (i_eq h2 (rfl : (0 : Int32).toInt = 0)).mp c
        have a : ¬ (d 215 p).toInt = 0 := fun q => a ((i_eq rfl (rfl : (0 : Int32).toInt = 0)).mpr q)
        rw [e7]
        refine nx 0 ?_
        rw [show f = 0 by omega]
        show (0 : Int) = if (d 215 p).toInt = 0 then 1 else 0
        rw [if_neg a]
      · have c : (f : Int) = 0 := (i_eq h2 (rfl : (0 : Int32).toInt = 0)).mp c
        have a : (d 215 p).toInt = 0 := (i_eq rfl (rfl : (0 : Int32).toInt = 0)).mp a
        rw [e7]
        refine nx 1 ?_
        rw [show f = 0 by omega]
        show (1 : Int) = if (d 215 p).toInt = 0 then 1 else 0
        rw [if_pos a]
      · have c : (f : Int) = 1 := (i_eq h2 (rfl : (1 : Int32).toInt = 1)).mp c
        rw [e9]
        refine nx _ ?_
        rw [show f = 1 by omega]
        show (d 215 p).toInt = if (d 215 p).toInt = 0 then 0 else 1
        by_cases a : (d 215 p).toInt = 0
        · rw [if_pos a, a]
        · rw [if_neg a]; omega
      · have c : (f : Int) = 2 := (i_eq h2 (rfl : (2 : Int32).toInt = 2)).mp c
        have a : (d 216 p).toInt < 40 := (i_lt rfl (rfl : (40 : Int32).toInt = 40)).mp a
        rw [e]
        refine nx 0 ?_
        rw [show f = 2 by omega]
        show (0 : Int) = if 40 ≤ (d 216 p).toInt then 1 else 0
        rw [if_neg (by omega)]
      · have c : (f : Int) = 2 := (i_eq h2 (rfl : (2 : Int32).toInt = 2)).mp c
        have a : ¬ (d 216 p).toInt < 40 := fun q => a ((i_lt rfl (rfl : (40 : Int32).toInt = 40)).mpr q)
        rw [e]
        refine nx 1 ?_
        rw [show f = 2 by omega]
        show (1 : Int) = if 40 ≤ (d 216 p).toInt then 1 else 0
        rw [if_pos (by omega)]
      · have c : (f : Int) = 3 := (i_eq h2 (rfl : (3 : Int32).toInt = 3)).mp c
        have a : 18 ≤ (d 216 p).toInt := (i_le (rfl : (18 : Int32).toInt = 18) rfl).mp a
        rw [e]
        refine nx 0 ?_
        rw [show f = 3 by omega]
        show (0 : Int) = if (d 216 p).toInt < 18 then 1 else 0
        rw [if_neg (by omega)]
      · have c : (f : Int) = 3 := (i_eq h2 (rfl : (3 : Int32).toInt = 3)).mp c
        have a : ¬ 18 ≤ (d 216 p).toInt := fun q => a ((i_le (rfl : (18 : Int32).toInt = 18) rfl).mpr q)
        rw [e]
        refine nx 1 ?_
        rw [show f = 3 by omega]
        show (1 : Int) = if (d 216 p).toInt < 18 then 1 else 0
        rw [if_pos (by omega)]
      · have c : (f : Int) = 4 := (i_eq h2 (rfl : (4 : Int32).toInt = 4)).mp c
        rw [e17]
        refine nx _ ?_
        rw [show f = 4 by omega]
        rfl
      · rw [h2] at c
        refine nx 1 ?_
        rw [show f = 5 by omega]
        rfl
def sn (v m : Int) : Int32 := if v < m then -1 else if m < v then 1 else 0
def tb10 (d : DD) (x : Nat) (v : Int) : Bool := decide (sn v (d 229 x).toInt = d 228 x) != decide (¬ d 230 x = 0)
def oo10 (d : DD) (ρ : Nat) : Nat → Bool := fun t => decide (¬ d 231 (8 * ρ + t) = 0)
def vv10 (d : DD) (k ρ S : Nat) : Nat → Bool := fun t => tb10 d (8 * ρ + t) (tlB d k (d 227 (8 * ρ + t)).toNatClampNeg S)
theorem fb_X10_keeps_42 {n : Nat} (hn : 1000000000 ≤ n) {Q : Int32 → DD → LL → Prop} {k ρ S M : Nat} (hk : k < 6) (hρ : ρ < 6) {x1 x2 : Int32} {d : DD} {dl : LL} (hI : Inv d) (h1 : x1.toInt = (k : Int)) (h2 : x2.toInt = (ρ : Int)) (hS : (S : Int) = 2 * (d 218 k).toInt) (hM : (d 226 ρ).toInt = (M : Int)) (hQ : ∀ r : Int32, hb r ((hl (oo10 d ρ) (vv10 d k ρ S) M).1 || (hl (oo10 d ρ) (vv10 d k ρ S) M).2) → Q r d dl) : ∀ (j t : Nat) (x3 x4 x5 : Int32), x5.toInt = (t : Int) → t ≤ M → hb x3 (hl (oo10 d ρ) (vv10 d k ρ S) t).1 → hb x4 (hl (oo10 d ρ) (vv10 d k ρ S) t).2 → 9 ≤ t + j → b_X10_keeps_42 n Q j x1 x2 x3 x4 x5 d dl := by
  have mM := iv_226 hI ρ
  have e2 := at_n h2
  have i6 : vp_in x2 6 := vin h2 (by omega) (by omega)
  intro j
  induction j with
  | zero =>
    intro t x3 x4 x5 h5 ht ha hc hj
    exfalso
    omega
  | succ j ih =>
    intro t x3 x4 x5 h5 ht ha hc hj
    show _ ∧ _
    rw [e2]
    refine ⟨i6, fun w => ?_, fun w => ?_⟩
    · have w : (M : Int) ≤ (t : Int) := (i_le hM h5).mp w
      have htM : t = M := by omega
      rw [htM] at ha hc
      refine ⟨fun a => hQ 1 (Or.inl ⟨rfl, by rw [hb1 ha a]; rfl⟩), fun a => ⟨fun b => hQ 0 (Or.inr ⟨rfl, by rw [hb0 ha a, hb0 hc b]; rfl⟩), fun b => hQ 1 (Or.inl ⟨rfl, by rw [hb1 hc b, Bool.or_true]⟩)⟩⟩
    · have w : ¬ (M : Int) ≤ (t : Int) := fun q => w ((i_le hM h5).mpr q)
      intro v13 e13
      have t13 : v13.toInt = ((8 * ρ + t : Nat) : Int) := by
        have t : v13.toInt = 8 * (ρ : Int) + (t : Int) := by rw [e13]; exact ti_add (ti_mul (rfl : (8 : Int32).toInt = 8) h2 (by omega) (by omega)) h5 (by omega) (by omega)
        rw [t]; omega
      have n13 := at_n t13
      have i48 : vp_in v13 48 := vin t13 (by omega) (by omega)
      have t5 : (x5 + 1).toInt = ((t + 1 : Nat) : Int) := inc1 h5 (by omega)
      have m27 := iv_227 hI (8 * ρ + t)
      have m30 := iv_230 hI (8 * ρ + t)
      have hc27 : (d 227 (8 * ρ + t)).toNatClampNeg = (d 227 (8 * ρ + t)).toInt.toNat := rfl
      have st : ∀ (y3 y4 : Int32), hb y3 (if oo10 d ρ t = true then ((hl (oo10 d ρ) (vv10 d k ρ S) t).1 || (hl (oo10 d ρ) (vv10 d k ρ S) t).2) else (hl (oo10 d ρ) (vv10 d k ρ S) t).1) → hb y4 (if oo10 d ρ t = true then true else (hl (oo10 d ρ) (vv10 d k ρ S) t).2) → b_X10_keeps_90 n Q (b_X10_keeps_42 n Q j) x1 x2 y3 y4 x5 v13 d dl := by
        intro y3 y4 h3 h4
        unfold b_X10_keeps_90 b_X10_keeps_137 b_X10_keeps_161 b_X10_keeps_175
        rw [n13]
        refine ⟨i48, ?_⟩
        refine fb_X10_field_5 (n := n) (f := (d 227 (8 * ρ + t)).toNatClampNeg) hk hI h1 (by omega) (by omega) hS (fun r17 hr17 => ⟨i48, ?_⟩) n 0 0 0 rfl (Nat.zero_le _) rfl (by omega)
        have no : (y4 = 0 ∨ vv10 d k ρ S t = false) → (b_X10_keeps_42 n Q j) x1 x2 y3 0 (x5 + 1) d dl := fun q => ih (t + 1) _ _ _ t5 (by omega) h3 (Or.inr ⟨rfl, by
          show ((if oo10 d ρ t = true then true else (hl (oo10 d ρ) (vv10 d k ρ S) t).2) && vv10 d k ρ S t) = false
          rcases q with q | q
          · rw [hb0 h4 q]; rfl
          · rw [q, Bool.and_false]⟩) (by omega)
        have yes : ¬ y4 = 0 → vv10 d k ρ S t = true → (b_X10_keeps_42 n Q j) x1 x2 y3 1 (x5 + 1) d dl := fun a q => ih (t + 1) _ _ _ t5 (by omega) h3 (Or.inl ⟨rfl, by
          show ((if oo10 d ρ t = true then true else (hl (oo10 d ρ) (vv10 d k ρ S) t).2) && vv10 d k ρ S t) = true
          rw [hb1 h4 a, q]; rfl⟩) (by omega)
        have body : ∀ xs : Int32, xs = sn r17.toInt (d 229 (8 * ρ + t)).toInt → (y4 = 0 → (b_X10_keeps_42 n Q j) x1 x2 y3 0 (x5 + 1) d dl) ∧ (¬ y4 = 0 → vp_in v13 48 ∧ (¬ xs = d 228 (8 * ρ + t) → vp_in v13 48 ∧ ((0 : Int32) = d 230 (8 * ρ + t) → (b_X10_keeps_42 n Q j) x1 x2 y3 0 (x5 + 1) d dl) ∧ (¬ (0 : Int32) = d 230 (8 * ρ + t) → (b_X10_keeps_42 n Q j) x1 x2 y3 1 (x5 + 1) d dl)) ∧ (xs = d 228 (8 * ρ + t) → vp_in v13 48 ∧ ((1 : Int32) = d 230 (8 * ρ + t) → (b_X10_keeps_42 n Q j) x1 x2 y3 0 (x5 + 1) d dl) ∧ (¬ (1 : Int32) = d 230 (8 * ρ + t) → (b_X10_keeps_42 n Q j) x1 x2 y3 1 (x5 + 1) d dl))) := by
          intro xs hxs
          have hv : vv10 d k ρ S t = (decide (xs = d 228 (8 * ρ + t)) != decide (¬ d 230 (8 * ρ + t) = 0)) := by
            unfold vv10 tb10
            rw [← hr17, hxs]
          refine ⟨fun a => no (Or.inl a), fun a => ⟨i48, fun b => ?_, fun b => ?_⟩⟩
          · rw [decide_eq_false b] at hv
            refine ⟨i48, fun z => no (Or.inr ?_), fun z => yes a ?_⟩
            · rw [hv, decide_eq_false (fun q => q z.symm)]; rfl
            · rw [hv, decide_eq_true (fun q => z q.symm)]; rfl
          · rw [decide_eq_true b] at hv
            refine ⟨i48, fun z => no (Or.inr ?_), fun z => yes a ?_⟩
            · rw [hv, decide_eq_true (by rw [← z]; decide)]; rfl
            · have z0 : d 230 (8 * ρ + t) = 0 := by
                have q1 : ¬ (d 230 (8 * ρ + t)).toInt = 1 := fun q => z ((i_eq rfl (rfl : (1 : Int32).toInt = 1)).mpr q).symm
                exact (i_eq rfl (rfl : (0 : Int32).toInt = 0)).mpr (by omega)
              rw [hv, decide_eq_false (fun q => q z0)]; rfl
        refine ⟨fun a => ⟨i48, fun b => body 0 ?_, fun b => body 1 ?_⟩, fun a => body (-1) ?_⟩
        · have a := (i_le rfl rfl).mp a
          have b := (i_le rfl rfl).mp b
          unfold sn
          rw [if_neg (by omega), if_neg (by omega)]
        · have a := (i_le rfl rfl).mp a
          have b := fun q => b ((i_le rfl rfl).mpr q)
          unfold sn
          rw [if_neg (by omega), if_pos (by omega)]
        · have a := fun q => a ((i_le rfl rfl).mpr q)
          unfold sn
          rw [if_pos (by omega)]
      rw [n13]
      refine ⟨i48, fun o => ?_, fun o => ?_⟩
      · have ho : ¬ oo10 d ρ t = true := fun q => (of_decide_eq_true q) o
        exact st x3 x4 (by rw [if_neg ho]; exact ha) (by rw [if_neg ho]; exact hc)
      · have ho : oo10 d ρ t = true := decide_eq_true o
        have s1 : hb 1 ((hl (oo10 d ρ) (vv10 d k ρ S) t).1 || (hl (oo10 d ρ) (vv10 d k ρ S) t).2) → b_X10_keeps_81 n Q (b_X10_keeps_42 n Q j) x1 x2 x5 v13 d dl := fun q => st 1 1 (by rw [if_pos ho]; exact q) (by rw [if_pos ho]; exact Or.inl ⟨rfl, rfl⟩)
        refine ⟨fun a => s1 (Or.inl ⟨rfl, by rw [hb1 ha a]; rfl⟩), fun a => ⟨fun b => st 0 1 (by rw [if_pos ho]; exact Or.inr ⟨rfl, by rw [hb0 ha a, hb0 hc b]; rfl⟩) (by rw [if_pos ho]; exact Or.inl ⟨rfl, rfl⟩), fun b => s1 (Or.inl ⟨rfl, by rw [hb1 hc b, Bool.or_true]⟩)⟩⟩
def KeQ10 (d : DD) (x1 x2 r : Int32) : Prop := (¬ okK (d 211 1) (d 211 2) x1 x2 ∧ r = -1) ∨ (okK (d 211 1) (d 211 2) x1 x2 ∧ d 224 x1.toNatClampNeg = 0 ∧ r = -3) ∨ (okK (d 211 1) (d 211 2) x1 x2 ∧ ¬ d 224 x1.toNatClampNeg = 0 ∧ ∀ S M : Nat, (S : Int) = 2 * (d 218 x1.toNatClampNeg).toInt → (d 226 x2.toNatClampNeg).toInt = (M : Int) → hb r ((hl (oo10 d x2.toNatClampNeg) (vv10 d x1.toNatClampNeg x2.toNatClampNeg S) M).1 || (hl (oo10 d x2.toNatClampNeg) (vv10 d x1.toNatClampNeg x2.toNatClampNeg S) M).2))
theorem sp_X10_keepsF {n : Nat} (hn : 1000000000 ≤ n) {x1 x2 : Int32} {d : DD} {dl : LL} (hI : Inv d) {Q : Int32 → DD → LL → Prop} (hQ : ∀ (r : Int32) (d2 : DD) (l2 : LL), Sq d dl d2 l2 ∧ KeQ10 d x1 x2 r → Q r d2 l2) : F_X10_keeps n x1 x2 d dl Q := by
  have mk := iv_211_1 hI
  have mr := iv_211_2 hI
  have bad : ¬ okK (d 211 1) (d 211 2) x1 x2 → Q (-1) d dl := fun h => hQ _ _ _ ⟨⟨hI, rfl, rfl⟩, Or.inl ⟨h, rfl⟩⟩
  refine fn_isCrew10 hn hI (fun g1 => ⟨fun w => absurd w (by decide), fun _ => ?_⟩) (fun g1 => ⟨fun _ => bad (fun h => g1 h.1), fun w => absurd rfl w⟩)
  have i6 : vp_in x1 6 := vin rfl (by omega) (by omega)
  have hk := clamp_in i6
  have hx : x1.toNatClampNeg = x1.toInt.toNat := rfl
  have hx2 : x2.toNatClampNeg = x2.toInt.toNat := rfl
  refine ⟨fun w => bad (fun o => ?_), fun a1 => ⟨fun a2 => ⟨i6, fun w => ?_, fun w => ?_⟩, fun w => bad (fun o => ?_)⟩⟩
  · have w : x2.toInt < 0 := (i_lt rfl (rfl : (0 : Int32).toInt = 0)).mp w
    have := o.2; omega
  · have a1 : ¬ x2.toInt < 0 := fun q => a1 ((i_lt rfl (rfl : (0 : Int32).toInt = 0)).mpr q)
    have a2 : x2.toInt < (d 211 2).toInt := (i_lt rfl rfl).mp a2
    have ok : okK (d 211 1) (d 211 2) x1 x2 := ⟨g1, by omega⟩
    have mR := iv_218 hI x1.toNatClampNeg
    have mM := iv_226 hI x2.toNatClampNeg
    obtain ⟨S, hS⟩ : ∃ S : Nat, (S : Int) = 2 * (d 218 x1.toNatClampNeg).toInt := ⟨(2 * (d 218 x1.toNatClampNeg).toInt).toNat, by omega⟩
    obtain ⟨M, hM⟩ : ∃ M : Nat, (d 226 x2.toNatClampNeg).toInt = (M : Int) := ⟨(d 226 x2.toNatClampNeg).toInt.toNat, by omega⟩
    refine fb_X10_keeps_42 hn hk (show x2.toNatClampNeg < 6 by omega) hI (by omega) (by omega) hS hM (fun r hr => hQ _ _ _ ⟨⟨hI, rfl, rfl⟩, Or.inr (Or.inr ⟨ok, w, fun S2 M2 hS2 hM2 => by rw [show S2 = S by omega, show M2 = M by omega]; exact hr⟩)⟩) n 0 0 1 0 rfl (Nat.zero_le _) (Or.inr ⟨rfl, rfl⟩) (Or.inl ⟨rfl, rfl⟩) (by omega)
  · have a1 : ¬ x2.toInt < 0 := fun q => a1 ((i_lt rfl (rfl : (0 : Int32).toInt = 0)).mpr q)
    have a2 : x2.toInt < (d 211 2).toInt := (i_lt rfl rfl).mp a2
    exact hQ _ _ _ ⟨⟨hI, rfl, rfl⟩, Or.inr (Or.inl ⟨⟨g1, by omega⟩, w, rfl⟩)⟩
  · have w : ¬ x2.toInt < (d 211 2).toInt := fun q => w ((i_lt rfl rfl).mpr q)
    have := o.2; omega
