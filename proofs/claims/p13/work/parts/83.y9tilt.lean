theorem fn_X10_trims {n : Nat} (hn : 1000000000 ≤ n) {Q : Int32 → DD → LL → Prop} {c x k : Nat} {x1 x3 x4 : Int32} {what S : Nat} (hw : what ≤ 3) {d : DD} {dl : LL} (hI : Inv d) (hrow : RowT c) (h1 : x1.toInt = (k : Int)) (hk : k < 6) (h3 : x3.toInt = (x : Int)) (hl : x + 8 ≤ ln c) (hx : x ≤ 100) (h4 : x4.toInt = (what : Int)) (hR : 2 ≤ (d 218 k).toInt) (hS : (S : Int) = 2 * (d 218 k).toInt) (hQ : ∀ r : Int32, r.toInt = trm (d 218 k).toInt (d 219 k).toInt (wB d) (sB d) (lB d) (whB d c x) what S → Q r d dl) : F_X10_trims n x1 c x3 x4 d dl Q := by
  have mR := iv_218 hI k
  have mD := iv_219 hI k
  have i6 : vp_in x1 6 := vin h1 (by omega) (by omega)
  have e1 := at_n h1
  refine ⟨i6, fun v2 e2 => ?_⟩
  rw [e1] at e2
  rw [e1]
  have t2 : v2.toInt = (d 218 k).toInt := by rw [e2]
  have go : ∀ y : Int32, y.toInt = tb (d 218 k).toInt (d 219 k).toInt what → b_X10_trims_28 n Q c x3 x4 v2 y d dl := fun y hy =>
    fb_X10_trims_33 hw hI hrow h3 hl hx h4 t2 hR mR.2 mD (fun r hr => hQ r (hr S hS)) n 0 y 0 rfl (by omega) (by rw [hy]; show _ = _ + 0; omega) (by omega)
  refine ⟨fun w => go 0 ?_, fun w => ⟨i6, go _ ?_⟩⟩
  · have w : ¬ (what : Int) = 1 := fun q => w ((i_eq h4 (rfl : (1 : Int32).toInt = 1)).mpr q)
    unfold tb
    rw [if_neg (by omega)]
    rfl
  · have w : (what : Int) = 1 := (i_eq h4 (rfl : (1 : Int32).toInt = 1)).mp w
    unfold tb
    rw [if_pos (by omega)]
    have tn : (-v2).toInt = -(d 218 k).toInt := ti_neg t2 (by omega) (by omega)
    have hb : -600 ≤ -(d 218 k).toInt * (d 219 k).toInt ∧ -(d 218 k).toInt * (d 219 k).toInt ≤ 0 := by
      have hc : (d 218 k).toInt = 2 ∨ (d 218 k).toInt = 3 ∨ (d 218 k).toInt = 4 := by omega
      rcases hc with e | e | e <;> rw [e] <;> omega
    exact ti_mul tn rfl (by omega) (by omega)
def tltB (R D : Int) (w st : Nat → Int) (lk : Nat → Nat → Bool) (who : Nat → Nat) (S : Nat) : Int := 4 * trm R D w st lk who 0 S + trm R D w st lk who 1 S - trm R D w st lk who 2 S - 20 * trm R D w st lk who 3 S
theorem trm_in {d : DD} (hI : Inv d) {R D : Int} (c1 : 2 ≤ R) (c2 : R ≤ 4) (cD : 0 ≤ D ∧ D ≤ 150) {who : Nat → Nat} {what s : Nat} (hw : what ≤ 3) (hs : (s : Int) ≤ 2 * R) : -5000 ≤ trm R D (wB d) (sB d) (lB d) who what s ∧ trm R D (wB d) (sB d) (lB d) who what s ≤ 5000 := by
  have := tra_in hI c1 c2 cD (who := who) hw hs
  unfold trm ab
  split
  · split <;> omega
  · omega
theorem fn_X10_tilt {n : Nat} (hn : 1000000000 ≤ n) {Q : Int32 → DD → LL → Prop} {c x k : Nat} {x1 x3 : Int32} {S : Nat} {d : DD} {dl : LL} (hI : Inv d) (hrow : RowT c) (h1 : x1.toInt = (k : Int)) (hk : k < 6) (h3 : x3.toInt = (x : Int)) (hl : x + 8 ≤ ln c) (hx : x ≤ 100) (hR : 2 ≤ (d 218 k).toInt) (hS : (S : Int) = 2 * (d 218 k).toInt) (hQ : ∀ r : Int32, r.toInt = tltB (d 218 k).toInt (d 219 k).toInt (wB d) (sB d) (lB d) (whB d c x) S → Q r d dl) : F_X10_tilt n x1 c x3 d dl Q := by
  have mR := iv_218 hI k
  have mD := iv_219 hI k
  refine fn_X10_trims hn (what := 0) (by omega) hI hrow h1 hk h3 hl hx rfl hR hS (fun r1 hr1 => ?_)
  refine fn_X10_trims hn (what := 1) (by omega) hI hrow h1 hk h3 hl hx rfl hR hS (fun r4 hr4 => ?_)
  refine fn_X10_trims hn (what := 2) (by omega) hI hrow h1 hk h3 hl hx rfl hR hS (fun r7 hr7 => ?_)
  refine fn_X10_trims hn (what := 3) (by omega) hI hrow h1 hk h3 hl hx rfl hR hS (fun r10 hr10 => hQ _ ?_)
  have b0 := trm_in hI hR mR.2 mD (who := whB d c x) (what := 0) (s := S) (by omega) (by omega)
  have b1 := trm_in hI hR mR.2 mD (who := whB d c x) (what := 1) (s := S) (by omega) (by omega)
  have b2 := trm_in hI hR mR.2 mD (who := whB d c x) (what := 2) (s := S) (by omega) (by omega)
  have b3 := trm_in hI hR mR.2 mD (who := whB d c x) (what := 3) (s := S) (by omega) (by omega)
  have t : (((((4 : Int32) * r1) + r4) - r7) - ((20 : Int32) * r10)).toInt = 4 * trm (d 218 k).toInt (d 219 k).toInt (wB d) (sB d) (lB d) (whB d c x) 0 S + trm (d 218 k).toInt (d 219 k).toInt (wB d) (sB d) (lB d) (whB d c x) 1 S - trm (d 218 k).toInt (d 219 k).toInt (wB d) (sB d) (lB d) (whB d c x) 2 S - 20 * trm (d 218 k).toInt (d 219 k).toInt (wB d) (sB d) (lB d) (whB d c x) 3 S :=
    ti_sub (ti_sub (ti_add (ti_mul (rfl : (4 : Int32).toInt = 4) hr1 (by omega) (by omega)) hr4 (by omega) (by omega)) hr7 (by omega) (by omega)) (ti_mul (rfl : (20 : Int32).toInt = 20) hr10 (by omega) (by omega)) (by omega) (by omega)
  exact t
theorem sm_add {f g : Nat → Int} : ∀ k : Nat, sm (fun i => f i + g i) k = sm f k + sm g k := by
  intro k
  induction k with
  | zero => rfl
  | succ k ih =>
    show sm (fun i => f i + g i) k + (f k + g k) = sm f k + f k + (sm g k + g k)
    rw [ih]
    omega
theorem sm_20 {f : Nat → Int} : ∀ k : Nat, sm (fun i => 20 * f i) k = 20 * sm f k := by
  intro k
  induction k with
  | zero => rfl
  | succ k ih =>
    show sm (fun i => 20 * f i) k + 20 * f k = 20 * (sm f k + f k)
    rw [ih]
    omega
theorem pairs {lk : Nat → Nat → Bool} {who : Nat → Nat} : ∀ r : Nat, (∀ i, i < 2 * r → i % 2 = 0 → lk (who i) (who (i + 1)) = lk (who (i + 1)) (who i)) → sm (fun i => if i % 2 = 1 ∧ lk (who i) (who (i - 1)) = true then (1 : Int) else 0) (2 * r) = sm (fun s => if s % 2 = 0 ∧ lk (who s) (who (s + 1)) = true then (1 : Int) else 0) (2 * r) := by
  intro r
  induction r with
  | zero => intro _; rfl
  | succ r ih =>
    intro h
    rw [show 2 * (r + 1) = 2 * r + 1 + 1 by omega]
    show sm _ (2 * r) + (if (2 * r) % 2 = 1 ∧ lk (who (2 * r)) (who (2 * r - 1)) = true then (1 : Int) else 0) + (if (2 * r + 1) % 2 = 1 ∧ lk (who (2 * r + 1)) (who (2 * r + 1 - 1)) = true then (1 : Int) else 0) = sm _ (2 * r) + (if (2 * r) % 2 = 0 ∧ lk (who (2 * r)) (who (2 * r + 1)) = true then (1 : Int) else 0) + (if (2 * r + 1) % 2 = 0 ∧ lk (who (2 * r + 1)) (who (2 * r + 1 + 1)) = true then (1 : Int) else 0)
    rw [ih (fun i hi h2 => h i (by omega) h2), if_neg (show ¬ ((2 * r) % 2 = 1 ∧ _) from fun w => by have := w.1; omega), if_neg (show ¬ ((2 * r + 1) % 2 = 0 ∧ _) from fun w => by have := w.1; omega), show 2 * r + 1 - 1 = 2 * r by omega]
    have e := h (2 * r) (by omega) (by omega)
    by_cases w : lk (who (2 * r)) (who (2 * r + 1)) = true
    · rw [if_pos (show (2 * r + 1) % 2 = 1 ∧ _ from ⟨by omega, by rw [← e]; exact w⟩), if_pos (show (2 * r) % 2 = 0 ∧ _ from ⟨by omega, w⟩)]
      omega
    · rw [if_neg (show ¬ ((2 * r + 1) % 2 = 1 ∧ _) from fun q => w (by rw [e]; exact q.2)), if_neg (show ¬ ((2 * r) % 2 = 0 ∧ _) from fun q => w q.2)]
theorem tlt_eq {R D : Int} {mem ch : Nat → Nat} {w st ar : Nat → Int} {fr : Nat → Nat → Bool} {who : Nat → Nat} {S r : Nat} (hS : S = 2 * r) (hw : ∀ i, i < S → who i = mem (ch i)) (hsym : ∀ a b, a < S → b < S → fr (mem (ch a)) (mem (ch b)) = fr (mem (ch b)) (mem (ch a))) : tltB R D w st fr who S = tlt (PX R D mem w st ar fr) S ch := by
  have q0 : tra R D w st fr who 0 S = leS (PX R D mem w st ar fr) ch S := by
    show 0 + sm _ S = sm _ S
    rw [Int.zero_add]
    exact sm_k S (fun i hi => by
      show (if i % 2 = 0 then w (who i) else -w (who i)) = (if i % 2 = 0 then w (mem (ch i)) else -w (mem (ch i)))
      rw [hw i hi])
  have q1 : tra R D w st fr who 1 S = piS (PX R D mem w st ar fr) ch S := by
    show -R * D + sm _ S = -R * D + sm _ S
    congr 1
    exact sm_k S (fun i hi => by
      show w (who i) * pfR R i = w (mem (ch i)) * pfR R i
      rw [hw i hi])
  have q23 : tra R D w st fr who 2 S + 20 * tra R D w st fr who 3 S = gaS (PX R D mem w st ar fr) ch S := by
    have e3 : tra R D w st fr who 3 S = sm (fun i => if i % 2 = 1 ∧ fr (who i) (who (i - 1)) = true then (1 : Int) else 0) S := by
      show 0 + sm (tf R w st fr who 3) S = _
      rw [Int.zero_add, sm_k (f := tf R w st fr who 3) (g := fun s => if s % 2 = 0 ∧ fr (who s) (who (s + 1)) = true then (1 : Int) else 0) S (fun i _ => rfl), hS]
      exact (pairs r (fun i hi h2 => by rw [hw i (by omega), hw (i + 1) (by omega)]; exact hsym i (i + 1) (by omega) (by omega))).symm
    rw [e3, ← sm_20]
    show 0 + sm _ S + sm _ S = sm _ S
    rw [Int.zero_add, ← sm_add]
    exact sm_k S (fun i hi => by
      show st (who i) * mfR R i + 20 * (if i % 2 = 1 ∧ fr (who i) (who (i - 1)) = true then (1 : Int) else 0) = st (mem (ch i)) * mfR R i + (if i % 2 = 1 ∧ PX R D mem w st ar fr (10 + ch i) (ch (i - 1)) = 1 then 20 else 0)
      rw [hw i hi]
      by_cases o : i % 2 = 1
      · rw [hw (i - 1) (by omega)]
        by_cases f : fr (mem (ch i)) (mem (ch (i - 1))) = true
        · rw [if_pos ⟨o, f⟩, if_pos ⟨o, PX_fr.mpr f⟩]
          omega
        · rw [if_neg (fun q => f q.2), if_neg (fun q => f (PX_fr.mp q.2))]
          omega
      · rw [if_neg (fun q => o q.1), if_neg (fun q => o q.1)]
        omega)
  unfold tltB tlt trm
  rw [if_pos (by omega), if_pos (by omega), if_neg (by omega), if_neg (by omega), q0, q1, ← q23]
  omega
