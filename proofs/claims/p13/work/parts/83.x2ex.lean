def pk (N : Int32) (T : Nat → Int32) (p : Nat) : Int32 := if (p : Int) < N.toInt then T p else -1
def ex (g : Nat → Int32) : List Int32 → Nat → Bool × Nat
  | [], p => (true, p)
  | c :: cs, p => if g p = c then ex g cs (p + 1) else (false, p)
theorem ex_y {g : Nat → Int32} {c : Int32} {cs : List Int32} {p : Nat} (h : g p = c) : ex g (c :: cs) p = ex g cs (p + 1) := if_pos h
theorem ex_n {g : Nat → Int32} {c : Int32} {cs : List Int32} {p : Nat} (h : ¬ g p = c) : ex g (c :: cs) p = (false, p) := if_neg h
theorem ex_ge {g : Nat → Int32} : ∀ (l : List Int32) (p : Nat), p ≤ (ex g l p).2 := by
  intro l
  induction l with
  | nil => intro p; exact Nat.le_refl _
  | cons c cs ih =>
    intro p
    by_cases h : g p = c
    · rw [ex_y h]
      exact Nat.le_trans (Nat.le_succ p) (ih (p + 1))
    · rw [ex_n h]
      exact Nat.le_refl _
theorem ex_app {g : Nat → Int32} {c : Int32} : ∀ (l : List Int32) (p : Nat), ex g (l ++ [c]) p = (if (ex g l p).1 = true then (if g (ex g l p).2 = c then (true, (ex g l p).2 + 1) else (false, (ex g l p).2)) else ex g l p) := by
  intro l
  induction l with
  | nil =>
    intro p
    show ex g [c] p = (if true = true then (if g p = c then (true, p + 1) else (false, p)) else _)
    rw [if_pos rfl]
    rfl
  | cons a cs ih =>
    intro p
    show ex g (a :: (cs ++ [c])) p = _
    by_cases h : g p = a
    · rw [ex_y h, ex_y h]
      exact ih (p + 1)
    · rw [ex_n h, ex_n h]
      rfl
def MkL (g : Nat → Int32) (l : List Int32) (p k : Nat) : Prop := k ≤ l.length ∧ ∀ i, i < k → l.getD i 0 = g (p + i)
theorem MkL_c {g : Nat → Int32} {c : Int32} {cs : List Int32} {p k : Nat} : MkL g (c :: cs) p (k + 1) ↔ g p = c ∧ MkL g cs (p + 1) k := by
  constructor
  · intro ⟨h1, h2⟩
    refine ⟨(h2 0 (by omega)).symm, Nat.le_of_succ_le_succ h1, fun i hi => ?_⟩
    have := h2 (i + 1) (by omega)
    rw [show p + 1 + i = p + (i + 1) by omega]
    exact this
  · intro ⟨h1, h2, h3⟩
    refine ⟨Nat.succ_le_succ h2, fun i hi => ?_⟩
    cases i with
    | zero => exact h1.symm
    | succ i =>
      rw [show p + (i + 1) = p + 1 + i by omega]
      exact h3 i (by omega)
theorem ex_full {g : Nat → Int32} : ∀ (l : List Int32) (p : Nat), MkL g l p l.length → ex g l p = (true, p + l.length) := by
  intro l
  induction l with
  | nil => intro p _; rfl
  | cons c cs ih =>
    intro p h
    have h := MkL_c.mp h
    rw [ex_y h.1, ih _ h.2, show p + 1 + cs.length = p + (c :: cs).length by simp; omega]
theorem ex_stop {g : Nat → Int32} : ∀ (l : List Int32) (p k : Nat), MkL g l p k → k < l.length → ¬ MkL g l p (k + 1) → ex g l p = (false, p + k) := by
  intro l
  induction l with
  | nil => intro p k _ h; exact absurd h (Nat.not_lt_zero _)
  | cons c cs ih =>
    intro p k h1 h2 h3
    cases k with
    | zero =>
      refine ex_n (fun q => h3 (MkL_c.mpr ⟨q, Nat.zero_le _, fun i hi => absurd hi (Nat.not_lt_zero _)⟩))
    | succ k =>
      have h1 := MkL_c.mp h1
      rw [ex_y h1.1, ih _ _ h1.2 (Nat.lt_of_succ_lt_succ h2) (fun q => h3 (MkL_c.mpr ⟨h1.1, q⟩)), show p + 1 + k = p + (k + 1) by omega]
def dg (g : Nat → Int32) : Nat → Nat → Nat → Nat × Nat
  | 0, c, p => (c, p)
  | k + 1, c, p => if 48 ≤ (g p).toInt ∧ (g p).toInt ≤ 57 then dg g k (c + 1) (p + 1) else (c, p)
def tsD (g : Nat → Int32) (p : Nat) : Bool × Nat := (decide (0 < (dg g 4 0 p).1), (dg g 4 0 p).2)
def tsS (g : Nat → Int32) (p : Nat) : Bool × Nat := if g p = 60 ∨ g p = 61 ∨ g p = 62 then tsD g (p + 1) else (false, p)
def tsW (g : Nat → Int32) (w : List Int32) (p : Nat) : Bool × Nat := if (ex g w p).1 = true then tsS g (ex g w p).2 else ex g w p
def tsF (g : Nat → Int32) (p : Nat) : Bool × Nat := if g p = 119 then (if g (p + 1) = 101 then tsW g (sbs 14) p else if g (p + 1) = 111 then tsW g (sbs 11) p else (false, p + 1)) else if g p = 109 then tsW g (sbs 10) p else if g p = 111 then tsW g (sbs 12) p else if g p = 121 then tsW g (sbs 13) p else tsW g (sbs 15) p
def tst (g : Nat → Int32) (p : Nat) : Bool × Nat := if g p = 110 then (if (ex g (sbs 9) p).1 = true then tsF g (ex g (sbs 9) p).2 else ex g (sbs 9) p) else tsF g p
def jnt (g : Nat → Int32) (p : Nat) : Bool × Nat := if g p = 32 then (if g (p + 1) = 111 then ex g (sbs 17) (p + 1) else ex g (sbs 18) (p + 1)) else (false, p)
def rlp (g : Nat → Int32) (N : Int) : Nat → Nat → Nat → Bool × Nat
  | 0, _, p => (false, p)
  | f + 1, k, p => if N ≤ (p : Int) then (true, p) else if k = 8 then (false, p) else if (jnt g p).1 = true then (if (tst g (jnt g p).2).1 = true then rlp g N f (k + 1) (tst g (jnt g p).2).2 else tst g (jnt g p).2) else jnt g p
def rul (g : Nat → Int32) (N : Int) : Bool × Nat := if (tst g 0).1 = true then rlp g N 9 1 (tst g 0).2 else tst g 0
def RWs (g : Nat → Int32) (a b p : Nat) (r : Int32) (q : Nat) : Prop := (∃ v : Nat, a ≤ v ∧ v ≤ b ∧ r.toInt = (v : Int) ∧ ex g (sbs v) p = (true, q)) ∨ (r = -1 ∧ (∀ v, a ≤ v → v ≤ b → (ex g (sbs v) p).1 = false ∧ (ex g (sbs v) p).2 ≤ q) ∧ ∃ v, a ≤ v ∧ v ≤ b ∧ (ex g (sbs v) p).2 = q)
theorem ex_eq {g : Nat → Int32} {l : List Int32} {p q : Nat} (h1 : (ex g l p).1 = false) (h2 : (ex g l p).2 = q) : ex g l p = (false, q) := by
  cases h : ex g l p with
  | mk a b =>
    rw [h] at h1 h2
    show (a, b) = (false, q)
    rw [show a = false from h1, show b = q from h2]
