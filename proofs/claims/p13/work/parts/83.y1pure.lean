theorem inc1 {x : Int32} {s : Nat} (h : x.toInt = (s : Int)) (h2 : s ≤ 100000) : (x + 1).toInt = ((s + 1 : Nat) : Int) := by
  have t : (x + 1).toInt = (s : Int) + 1 := ti_add h (rfl : (1 : Int32).toInt = 1) (by omega) (by omega)
  rw [t]
  omega
theorem hlf {x : Int32} {s : Nat} (h : x.toInt = (s : Int)) : (x / 2).toInt = ((s / 2 : Nat) : Int) := by
  have t : (x / 2).toInt = (s : Int) / 2 := ti_div h (rfl : (2 : Int32).toInt = 2) (by omega) (by omega)
  rw [t]
  omega
def lpm {β : Type} (f : Nat → β → β) : Nat → Nat → β → β
  | 0, _, b => b
  | c + 1, m, b => lpm f c (m + 1) (f m b)
def sm (f : Nat → Int) : Nat → Int
  | 0 => 0
  | k + 1 => sm f k + f k
theorem sm_k {f g : Nat → Int} : ∀ k : Nat, (∀ i, i < k → f i = g i) → sm f k = sm g k := by
  intro k
  induction k with
  | zero => intro _; rfl
  | succ k ih =>
    intro h
    show sm f k + f k = sm g k + g k
    rw [ih (fun i hi => h i (by omega)), h k (by omega)]
def ab (x : Int) : Int := if 0 ≤ x then x else -x
def leS (P : Nat → Nat → Int) (ch : Nat → Nat) (s : Nat) : Int := sm (fun i => if i % 2 = 0 then P 0 (ch i) else -P 0 (ch i)) s
def piS (P : Nat → Nat → Int) (ch : Nat → Nat) (s : Nat) : Int := P 5 0 + sm (fun i => P 0 (ch i) * P 3 i) s
def gaI (P : Nat → Nat → Int) (i m c : Nat) : Int := P 1 m * P 4 i + (if i % 2 = 1 ∧ P (10 + m) c = 1 then 20 else 0)
def gaS (P : Nat → Nat → Int) (ch : Nat → Nat) (s : Nat) : Int := sm (fun i => gaI P i (ch i) (ch (i - 1))) s
def tlt (P : Nat → Nat → Int) (S : Nat) (ch : Nat → Nat) : Int := 4 * ab (leS P ch S) + ab (piS P ch S) - gaS P ch S
def okS (P : Nat → Nat → Int) (s m : Nat) (ch : Nat → Nat) : Prop := (∀ i, i < s → ¬ ch i = m) ∧ ¬ P 2 m = 1 - ((s % 2 : Nat) : Int)
def upN (ch : Nat → Nat) (s m : Nat) : Nat → Nat := fun i => if i = s then m else ch i
theorem upN_e {ch : Nat → Nat} {s m : Nat} : upN ch s m s = m := if_pos rfl
theorem upN_n {ch : Nat → Nat} {s m i : Nat} (h : ¬ i = s) : upN ch s m i = ch i := if_neg h
def upb (B : Bool × Int × (Nat → Nat)) (t : Int) (ch : Nat → Nat) : Bool × Int × (Nat → Nat) := if B.1 = true ∧ B.2.1 ≤ t then B else (true, t, ch)
noncomputable def FS (P : Nat → Nat → Int) (S n : Nat) : Nat → Nat → (Nat → Nat) → Bool × Int × (Nat → Nat) → Bool × Int × (Nat → Nat)
  | 0, _, ch, B => upb B (tlt P S ch) ch
  | k + 1, s, ch, B => lpm (fun m B => @ite _ (okS P s m ch) (Classical.propDecidable _) (FS P S n k (s + 1) (upN ch s m) B) B) n 0 B
def lsz (lo hi : Int) : Int := if 0 < lo then lo else if hi < 0 then -hi else 0
theorem lsz_m {lo hi lo2 hi2 : Int} (h1 : lo ≤ lo2) (h2 : hi2 ≤ hi) (h3 : lo2 ≤ hi2) : lsz lo hi ≤ lsz lo2 hi2 := by
  unfold lsz
  repeat' split
  all_goals omega
theorem lsz_ab (x : Int) : lsz x x = ab x := by
  unfold lsz ab
  repeat' split
  all_goals omega
def bdS (Bn : Nat → Nat → Int) (s : Nat) (le pi ga : Int) : Int := 4 * lsz (le + Bn 0 s) (le + Bn 1 s) + lsz (pi + Bn 2 s) (pi + Bn 3 s) - ga - Bn 4 s
def BnOK (P : Nat → Nat → Int) (S n : Nat) (Bn : Nat → Nat → Int) : Prop :=
  (Bn 0 S = 0 ∧ Bn 1 S = 0 ∧ Bn 2 S = 0 ∧ Bn 3 S = 0 ∧ Bn 4 S = 0) ∧ (∀ s, s ≤ S → Bn 0 s ≤ Bn 1 s ∧ Bn 2 s ≤ Bn 3 s) ∧ ∀ s, s < S → ∀ m, m < n → (Bn 0 s ≤ Bn 0 (s + 1) + (if s % 2 = 0 then P 0 m else -P 0 m) ∧ Bn 1 (s + 1) + (if s % 2 = 0 then P 0 m else -P 0 m) ≤ Bn 1 s ∧ Bn 2 s ≤ Bn 2 (s + 1) + P 0 m * P 3 s ∧ Bn 3 (s + 1) + P 0 m * P 3 s ≤ Bn 3 s ∧ ∀ c, c < n → Bn 4 (s + 1) + gaI P s m c ≤ Bn 4 s)
theorem bd_m {P : Nat → Nat → Int} {S n : Nat} {Bn : Nat → Nat → Int} (h : BnOK P S n Bn) {s m c : Nat} (hs : s < S) (hm : m < n) (hc : c < n) (le pi ga : Int) : bdS Bn s le pi ga ≤ bdS Bn (s + 1) (le + (if s % 2 = 0 then P 0 m else -P 0 m)) (pi + P 0 m * P 3 s) (ga + gaI P s m c) := by
  obtain ⟨a, b, e, f, g⟩ := h.2.2 s hs m hm
  have o := h.2.1 (s + 1) hs
  have g := g c hc
  unfold bdS
  generalize (if s % 2 = 0 then P 0 m else -P 0 m) = u at *
  generalize P 0 m * P 3 s = v at *
  generalize gaI P s m c = w at *
  have x := lsz_m (lo := le + Bn 0 s) (hi := le + Bn 1 s) (lo2 := le + u + Bn 0 (s + 1)) (hi2 := le + u + Bn 1 (s + 1)) (by omega) (by omega) (by omega)
  have y := lsz_m (lo := pi + Bn 2 s) (hi := pi + Bn 3 s) (lo2 := pi + v + Bn 2 (s + 1)) (hi2 := pi + v + Bn 3 (s + 1)) (by omega) (by omega) (by omega)
  omega
theorem leS_u {P : Nat → Nat → Int} {ch : Nat → Nat} {s m : Nat} : leS P (upN ch s m) (s + 1) = leS P ch s + (if s % 2 = 0 then P 0 m else -P 0 m) := by
  show sm _ s + (if s % 2 = 0 then P 0 (upN ch s m s) else -P 0 (upN ch s m s)) = _
  rw [upN_e]
  congr 1
  exact sm_k s (fun i hi => by rw [upN_n (by omega)])
theorem piS_u {P : Nat → Nat → Int} {ch : Nat → Nat} {s m : Nat} : piS P (upN ch s m) (s + 1) = piS P ch s + P 0 m * P 3 s := by
  show P 5 0 + (sm _ s + P 0 (upN ch s m s) * P 3 s) = _
  rw [upN_e, ← Int.add_assoc]
  congr 2
  exact sm_k s (fun i hi => by rw [upN_n (by omega)])
theorem gaS_u {P : Nat → Nat → Int} {ch : Nat → Nat} {s m : Nat} : gaS P (upN ch s m) (s + 1) = gaS P ch s + gaI P s m (upN ch s m (s - 1)) := by
  show sm _ s + gaI P s (upN ch s m s) (upN ch s m (s - 1)) = _
  rw [upN_e]
  congr 1
  exact sm_k s (fun i hi => by rw [upN_n (by omega), upN_n (by omega)])
theorem lpm_id {β : Type} {f : Nat → β → β} {b : β} {N : Nat} (h : ∀ m, m < N → f m b = b) : ∀ (c m : Nat), m + c ≤ N → lpm f c m b = b := by
  intro c
  induction c with
  | zero => intro m _; rfl
  | succ c ih =>
    intro m hm
    show lpm f c (m + 1) (f m b) = b
    rw [h m (by omega)]
    exact ih _ (by omega)
theorem FS_prune {P : Nat → Nat → Int} {S n : Nat} {Bn : Nat → Nat → Int} (h : BnOK P S n Bn) {B : Bool × Int × (Nat → Nat)} (hB : B.1 = true) : ∀ (k s : Nat) (ch : Nat → Nat), s + k = S → (∀ i, i < s → ch i < n) → B.2.1 ≤ bdS Bn s (leS P ch s) (piS P ch s) (gaS P ch s) → FS P S n k s ch B = B := by
  intro k
  induction k with
  | zero =>
    intro s ch hs _ hb
    have hs : s = S := by omega
    subst hs
    show upb B (tlt P s ch) ch = B
    unfold upb
    refine if_pos ⟨hB, ?_⟩
    unfold bdS at hb
    obtain ⟨⟨z0, z1, z2, z3, z4⟩, _⟩ := h
    rw [z0, z1, z2, z3, z4, Int.add_zero, Int.add_zero, lsz_ab, lsz_ab] at hb
    unfold tlt
    omega
  | succ k ih =>
    intro s ch hs hch hb
    show lpm _ n 0 B = B
    refine lpm_id (N := n) (fun m hm => ?_) n 0 (by omega)
    by_cases ok : okS P s m ch
    · show @ite _ (okS P s m ch) (Classical.propDecidable _) _ _ = B
      rw [if_pos ok]
      refine ih (s + 1) _ (by omega) (fun i hi => ?_) ?_
      · by_cases hi2 : i = s
        · rw [hi2, upN_e]; exact hm
        · rw [upN_n hi2]; exact hch i (by omega)
      · rw [leS_u, piS_u, gaS_u]
        refine Int.le_trans hb (bd_m h (by omega) hm ?_ _ _ _)
        by_cases h0 : s = 0
        · subst h0
          rw [show (0 - 1 : Nat) = 0 from rfl, upN_e]; exact hm
        · rw [upN_n (by omega)]; exact hch _ (by omega)
    · exact if_neg ok
