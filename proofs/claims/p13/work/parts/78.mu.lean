def tm9 (d : DD) (s : Int) (i : Nat) (w : Int) : Int := if (i : Int) ≤ s then (8 - (d 244 i).toInt) * w else 0
def muS (d : DD) (s : Int) : Int := tm9 d s 0 100000000 + tm9 d s 1 10000000 + tm9 d s 2 1000000 + tm9 d s 3 100000 + tm9 d s 4 10000 + tm9 d s 5 1000 + tm9 d s 6 100 + tm9 d s 7 10
theorem tm9_in {d : DD} {s : Int} {i : Nat} {w : Int} (h : (i : Int) ≤ s) : tm9 d s i w = (8 - (d 244 i).toInt) * w := if_pos h
theorem tm9_out {d : DD} {s : Int} {i : Nat} {w : Int} (h : ¬ (i : Int) ≤ s) : tm9 d s i w = 0 := if_neg h
theorem tm9_nn {d : DD} (hI : Inv d) (s : Int) (i : Nat) {w : Int} (hw : 0 ≤ w) : 0 ≤ tm9 d s i w ∧ tm9 d s i w ≤ 9 * w := by
  have h := iv_244 hI i
  by_cases hi : (i : Int) ≤ s
  · rw [tm9_in hi]
    refine ⟨Int.mul_nonneg (by omega) hw, Int.mul_le_mul_of_nonneg_right (by omega) hw⟩
  · rw [tm9_out hi]
    omega
theorem muS_nn {d : DD} (hI : Inv d) (s : Int) : 0 ≤ muS d s ∧ muS d s ≤ 999999990 := by
  unfold muS
  have h0 := tm9_nn hI s 0 (w := 100000000) (by omega)
  have h1 := tm9_nn hI s 1 (w := 10000000) (by omega)
  have h2 := tm9_nn hI s 2 (w := 1000000) (by omega)
  have h3 := tm9_nn hI s 3 (w := 100000) (by omega)
  have h4 := tm9_nn hI s 4 (w := 10000) (by omega)
  have h5 := tm9_nn hI s 5 (w := 1000) (by omega)
  have h6 := tm9_nn hI s 6 (w := 100) (by omega)
  have h7 := tm9_nn hI s 7 (w := 10) (by omega)
  omega
theorem muS_congr {d d2 : DD} (h : ∀ i, d2 244 i = d 244 i) (s : Int) : muS d2 s = muS d s := by
  unfold muS tm9
  simp only [h]
theorem mu_stay {d : DD} (hI : Inv d) {q : Nat} (hq : q < 8) {v : Int32} (hv : (d 244 q).toInt + 1 ≤ v.toInt) : muS (u2 d 244 q v) (q : Int) < muS d (q : Int) := by
  match q, hq, hv with
  | 0, _, hv =>
    show muS (u2 d 244 0 v) (0 : Int) < muS d (0 : Int)
    have g0 := iv_244 hI 0
    have e0 : u2 d 244 0 v 244 0 = v := u2_eq _ _ _ _
    have e1 : u2 d 244 0 v 244 1 = d 244 1 := u2_ne (Or.inr (by omega))
    have e2 : u2 d 244 0 v 244 2 = d 244 2 := u2_ne (Or.inr (by omega))
    have e3 : u2 d 244 0 v 244 3 = d 244 3 := u2_ne (Or.inr (by omega))
    have e4 : u2 d 244 0 v 244 4 = d 244 4 := u2_ne (Or.inr (by omega))
    have e5 : u2 d 244 0 v 244 5 = d 244 5 := u2_ne (Or.inr (by omega))
    have e6 : u2 d 244 0 v 244 6 = d 244 6 := u2_ne (Or.inr (by omega))
    have e7 : u2 d 244 0 v 244 7 = d 244 7 := u2_ne (Or.inr (by omega))
    unfold muS
    rw [tm9_in (d := (u2 d 244 0 v)) (s := 0) (i := 0) (by omega), tm9_out (d := (u2 d 244 0 v)) (s := 0) (i := 1) (by omega), tm9_out (d := (u2 d 244 0 v)) (s := 0) (i := 2) (by omega), tm9_out (d := (u2 d 244 0 v)) (s := 0) (i := 3) (by omega), tm9_out (d := (u2 d 244 0 v)) (s := 0) (i := 4) (by omega), tm9_out (d := (u2 d 244 0 v)) (s := 0) (i := 5) (by omega), tm9_out (d := (u2 d 244 0 v)) (s := 0) (i := 6) (by omega), tm9_out (d := (u2 d 244 0 v)) (s := 0) (i := 7) (by omega)]
    rw [tm9_in (d := d) (s := 0) (i := 0) (by omega), tm9_out (d := d) (s := 0) (i := 1) (by omega), tm9_out (d := d) (s := 0) (i := 2) (by omega), tm9_out (d := d) (s := 0) (i := 3) (by omega), tm9_out (d := d) (s := 0) (i := 4) (by omega), tm9_out (d := d) (s := 0) (i := 5) (by omega), tm9_out (d := d) (s := 0) (i := 6) (by omega), tm9_out (d := d) (s := 0) (i := 7) (by omega)]
    rw [e0]
    omega
  | 1, _, hv =>
    show muS (u2 d 244 1 v) (1 : Int) < muS d (1 : Int)
    have g0 := iv_244 hI 1
    have e0 : u2 d 244 1 v 244 0 = d 244 0 := u2_ne (Or.inr (by omega))
    have e1 : u2 d 244 1 v 244 1 = v := u2_eq _ _ _ _
    have e2 : u2 d 244 1 v 244 2 = d 244 2 := u2_ne (Or.inr (by omega))
    have e3 : u2 d 244 1 v 244 3 = d 244 3 := u2_ne (Or.inr (by omega))
    have e4 : u2 d 244 1 v 244 4 = d 244 4 := u2_ne (Or.inr (by omega))
    have e5 : u2 d 244 1 v 244 5 = d 244 5 := u2_ne (Or.inr (by omega))
    have e6 : u2 d 244 1 v 244 6 = d 244 6 := u2_ne (Or.inr (by omega))
    have e7 : u2 d 244 1 v 244 7 = d 244 7 := u2_ne (Or.inr (by omega))
    unfold muS
    rw [tm9_in (d := (u2 d 244 1 v)) (s := 1) (i := 0) (by omega), tm9_in (d := (u2 d 244 1 v)) (s := 1) (i := 1) (by omega), tm9_out (d := (u2 d 244 1 v)) (s := 1) (i := 2) (by omega), tm9_out (d := (u2 d 244 1 v)) (s := 1) (i := 3) (by omega), tm9_out (d := (u2 d 244 1 v)) (s := 1) (i := 4) (by omega), tm9_out (d := (u2 d 244 1 v)) (s := 1) (i := 5) (by omega), tm9_out (d := (u2 d 244 1 v)) (s := 1) (i := 6) (by omega), tm9_out (d := (u2 d 244 1 v)) (s := 1) (i := 7) (by omega)]
    rw [tm9_in (d := d) (s := 1) (i := 0) (by omega), tm9_in (d := d) (s := 1) (i := 1) (by omega), tm9_out (d := d) (s := 1) (i := 2) (by omega), tm9_out (d := d) (s := 1) (i := 3) (by omega), tm9_out (d := d) (s := 1) (i := 4) (by omega), tm9_out (d := d) (s := 1) (i := 5) (by omega), tm9_out (d := d) (s := 1) (i := 6) (by omega), tm9_out (d := d) (s := 1) (i := 7) (by omega)]
    rw [e0, e1]
    omega
  | 2, _, hv =>
    show muS (u2 d 244 2 v) (2 : Int) < muS d (2 : Int)
    have g0 := iv_244 hI 2
    have e0 : u2 d 244 2 v 244 0 = d 244 0 := u2_ne (Or.inr (by omega))
    have e1 : u2 d 244 2 v 244 1 = d 244 1 := u2_ne (Or.inr (by omega))
    have e2 : u2 d 244 2 v 244 2 = v := u2_eq _ _ _ _
    have e3 : u2 d 244 2 v 244 3 = d 244 3 := u2_ne (Or.inr (by omega))
    have e4 : u2 d 244 2 v 244 4 = d 244 4 := u2_ne (Or.inr (by omega))
    have e5 : u2 d 244 2 v 244 5 = d 244 5 := u2_ne (Or.inr (by omega))
    have e6 : u2 d 244 2 v 244 6 = d 244 6 := u2_ne (Or.inr (by omega))
    have e7 : u2 d 244 2 v 244 7 = d 244 7 := u2_ne (Or.inr (by omega))
    unfold muS
    rw [tm9_in (d := (u2 d 244 2 v)) (s := 2) (i := 0) (by omega), tm9_in (d := (u2 d 244 2 v)) (s := 2) (i := 1) (by omega), tm9_in (d := (u2 d 244 2 v)) (s := 2) (i := 2) (by omega), tm9_out (d := (u2 d 244 2 v)) (s := 2) (i := 3) (by omega), tm9_out (d := (u2 d 244 2 v)) (s := 2) (i := 4) (by omega), tm9_out (d := (u2 d 244 2 v)) (s := 2) (i := 5) (by omega), tm9_out (d := (u2 d 244 2 v)) (s := 2) (i := 6) (by omega), tm9_out (d := (u2 d 244 2 v)) (s := 2) (i := 7) (by omega)]
    rw [tm9_in (d := d) (s := 2) (i := 0) (by omega), tm9_in (d := d) (s := 2) (i := 1) (by omega), tm9_in (d := d) (s := 2) (i := 2) (by omega), tm9_out (d := d) (s := 2) (i := 3) (by omega), tm9_out (d := d) (s := 2) (i := 4) (by omega), tm9_out (d := d) (s := 2) (i := 5) (by omega), tm9_out (d := d) (s := 2) (i := 6) (by omega), tm9_out (d := d) (s := 2) (i := 7) (by omega)]
    rw [e0, e1, e2]
    omega
  | 3, _, hv =>
    show muS (u2 d 244 3 v) (3 : Int) < muS d (3 : Int)
    have g0 := iv_244 hI 3
    have e0 : u2 d 244 3 v 244 0 = d 244 0 := u2_ne (Or.inr (by omega))
    have e1 : u2 d 244 3 v 244 1 = d 244 1 := u2_ne (Or.inr (by omega))
    have e2 : u2 d 244 3 v 244 2 = d 244 2 := u2_ne (Or.inr (by omega))
    have e3 : u2 d 244 3 v 244 3 = v := u2_eq _ _ _ _
    have e4 : u2 d 244 3 v 244 4 = d 244 4 := u2_ne (Or.inr (by omega))
    have e5 : u2 d 244 3 v 244 5 = d 244 5 := u2_ne (Or.inr (by omega))
    have e6 : u2 d 244 3 v 244 6 = d 244 6 := u2_ne (Or.inr (by omega))
    have e7 : u2 d 244 3 v 244 7 = d 244 7 := u2_ne (Or.inr (by omega))
    unfold muS
    rw [tm9_in (d := (u2 d 244 3 v)) (s := 3) (i := 0) (by omega), tm9_in (d := (u2 d 244 3 v)) (s := 3) (i := 1) (by omega), tm9_in (d := (u2 d 244 3 v)) (s := 3) (i := 2) (by omega), tm9_in (d := (u2 d 244 3 v)) (s := 3) (i := 3) (by omega), tm9_out (d := (u2 d 244 3 v)) (s := 3) (i := 4) (by omega), tm9_out (d := (u2 d 244 3 v)) (s := 3) (i := 5) (by omega), tm9_out (d := (u2 d 244 3 v)) (s := 3) (i := 6) (by omega), tm9_out (d := (u2 d 244 3 v)) (s := 3) (i := 7) (by omega)]
    rw [tm9_in (d := d) (s := 3) (i := 0) (by omega), tm9_in (d := d) (s := 3) (i := 1) (by omega), tm9_in (d := d) (s := 3) (i := 2) (by omega), tm9_in (d := d) (s := 3) (i := 3) (by omega), tm9_out (d := d) (s := 3) (i := 4) (by omega), tm9_out (d := d) (s := 3) (i := 5) (by omega), tm9_out (d := d) (s := 3) (i := 6) (by omega), tm9_out (d := d) (s := 3) (i := 7) (by omega)]
    rw [e0, e1, e2, e3]
    omega
  | 4, _, hv =>
    show muS (u2 d 244 4 v) (4 : Int) < muS d (4 : Int)
    have g0 := iv_244 hI 4
    have e0 : u2 d 244 4 v 244 0 = d 244 0 := u2_ne (Or.inr (by omega))
    have e1 : u2 d 244 4 v 244 1 = d 244 1 := u2_ne (Or.inr (by omega))
    have e2 : u2 d 244 4 v 244 2 = d 244 2 := u2_ne (Or.inr (by omega))
    have e3 : u2 d 244 4 v 244 3 = d 244 3 := u2_ne (Or.inr (by omega))
    have e4 : u2 d 244 4 v 244 4 = v := u2_eq _ _ _ _
    have e5 : u2 d 244 4 v 244 5 = d 244 5 := u2_ne (Or.inr (by omega))
    have e6 : u2 d 244 4 v 244 6 = d 244 6 := u2_ne (Or.inr (by omega))
    have e7 : u2 d 244 4 v 244 7 = d 244 7 := u2_ne (Or.inr (by omega))
    unfold muS
    rw [tm9_in (d := (u2 d 244 4 v)) (s := 4) (i := 0) (by omega), tm9_in (d := (u2 d 244 4 v)) (s := 4) (i := 1) (by omega), tm9_in (d := (u2 d 244 4 v)) (s := 4) (i := 2) (by omega), tm9_in (d := (u2 d 244 4 v)) (s := 4) (i := 3) (by omega), tm9_in (d := (u2 d 244 4 v)) (s := 4) (i := 4) (by omega), tm9_out (d := (u2 d 244 4 v)) (s := 4) (i := 5) (by omega), tm9_out (d := (u2 d 244 4 v)) (s := 4) (i := 6) (by omega), tm9_out (d := (u2 d 244 4 v)) (s := 4) (i := 7) (by omega)]
    rw [tm9_in (d := d) (s := 4) (i := 0) (by omega), tm9_in (d := d) (s := 4) (i := 1) (by omega), tm9_in (d := d) (s := 4) (i := 2) (by omega), tm9_in (d := d) (s := 4) (i := 3) (by omega), tm9_in (d := d) (s := 4) (i := 4) (by omega), tm9_out (d := d) (s := 4) (i := 5) (by omega), tm9_out (d := d) (s := 4) (i := 6) (by omega), tm9_out (d := d) (s := 4) (i := 7) (by omega)]
    rw [e0, e1, e2, e3, e4]
    omega
  | 5, _, hv =>
    show muS (u2 d 244 5 v) (5 : Int) < muS d (5 : Int)
    have g0 := iv_244 hI 5
    have e0 : u2 d 244 5 v 244 0 = d 244 0 := u2_ne (Or.inr (by omega))
    have e1 : u2 d 244 5 v 244 1 = d 244 1 := u2_ne (Or.inr (by omega))
    have e2 : u2 d 244 5 v 244 2 = d 244 2 := u2_ne (Or.inr (by omega))
    have e3 : u2 d 244 5 v 244 3 = d 244 3 := u2_ne (Or.inr (by omega))
    have e4 : u2 d 244 5 v 244 4 = d 244 4 := u2_ne (Or.inr (by omega))
    have e5 : u2 d 244 5 v 244 5 = v := u2_eq _ _ _ _
    have e6 : u2 d 244 5 v 244 6 = d 244 6 := u2_ne (Or.inr (by omega))
    have e7 : u2 d 244 5 v 244 7 = d 244 7 := u2_ne (Or.inr (by omega))
    unfold muS
    rw [tm9_in (d := (u2 d 244 5 v)) (s := 5) (i := 0) (by omega), tm9_in (d := (u2 d 244 5 v)) (s := 5) (i := 1) (by omega), tm9_in (d := (u2 d 244 5 v)) (s := 5) (i := 2) (by omega), tm9_in (d := (u2 d 244 5 v)) (s := 5) (i := 3) (by omega), tm9_in (d := (u2 d 244 5 v)) (s := 5) (i := 4) (by omega), tm9_in (d := (u2 d 244 5 v)) (s := 5) (i := 5) (by omega), tm9_out (d := (u2 d 244 5 v)) (s := 5) (i := 6) (by omega), tm9_out (d := (u2 d 244 5 v)) (s := 5) (i := 7) (by omega)]
    rw [tm9_in (d := d) (s := 5) (i := 0) (by omega), tm9_in (d := d) (s := 5) (i := 1) (by omega), tm9_in (d := d) (s := 5) (i := 2) (by omega), tm9_in (d := d) (s := 5) (i := 3) (by omega), tm9_in (d := d) (s := 5) (i := 4) (by omega), tm9_in (d := d) (s := 5) (i := 5) (by omega), tm9_out (d := d) (s := 5) (i := 6) (by omega), tm9_out (d := d) (s := 5) (i := 7) (by omega)]
    rw [e0, e1, e2, e3, e4, e5]
    omega
  | 6, _, hv =>
    show muS (u2 d 244 6 v) (6 : Int) < muS d (6 : Int)
    have g0 := iv_244 hI 6
    have e0 : u2 d 244 6 v 244 0 = d 244 0 := u2_ne (Or.inr (by omega))
    have e1 : u2 d 244 6 v 244 1 = d 244 1 := u2_ne (Or.inr (by omega))
    have e2 : u2 d 244 6 v 244 2 = d 244 2 := u2_ne (Or.inr (by omega))
    have e3 : u2 d 244 6 v 244 3 = d 244 3 := u2_ne (Or.inr (by omega))
    have e4 : u2 d 244 6 v 244 4 = d 244 4 := u2_ne (Or.inr (by omega))
    have e5 : u2 d 244 6 v 244 5 = d 244 5 := u2_ne (Or.inr (by omega))
    have e6 : u2 d 244 6 v 244 6 = v := u2_eq _ _ _ _
    have e7 : u2 d 244 6 v 244 7 = d 244 7 := u2_ne (Or.inr (by omega))
    unfold muS
    rw [tm9_in (d := (u2 d 244 6 v)) (s := 6) (i := 0) (by omega), tm9_in (d := (u2 d 244 6 v)) (s := 6) (i := 1) (by omega), tm9_in (d := (u2 d 244 6 v)) (s := 6) (i := 2) (by omega), tm9_in (d := (u2 d 244 6 v)) (s := 6) (i := 3) (by omega), tm9_in (d := (u2 d 244 6 v)) (s := 6) (i := 4) (by omega), tm9_in (d := (u2 d 244 6 v)) (s := 6) (i := 5) (by omega), tm9_in (d := (u2 d 244 6 v)) (s := 6) (i := 6) (by omega), tm9_out (d := (u2 d 244 6 v)) (s := 6) (i := 7) (by omega)]
    rw [tm9_in (d := d) (s := 6) (i := 0) (by omega), tm9_in (d := d) (s := 6) (i := 1) (by omega), tm9_in (d := d) (s := 6) (i := 2) (by omega), tm9_in (d := d) (s := 6) (i := 3) (by omega), tm9_in (d := d) (s := 6) (i := 4) (by omega), tm9_in (d := d) (s := 6) (i := 5) (by omega), tm9_in (d := d) (s := 6) (i := 6) (by omega), tm9_out (d := d) (s := 6) (i := 7) (by omega)]
    rw [e0, e1, e2, e3, e4, e5, e6]
    omega
  | 7, _, hv =>
    show muS (u2 d 244 7 v) (7 : Int) < muS d (7 : Int)
    have g0 := iv_244 hI 7
    have e0 : u2 d 244 7 v 244 0 = d 244 0 := u2_ne (Or.inr (by omega))
    have e1 : u2 d 244 7 v 244 1 = d 244 1 := u2_ne (Or.inr (by omega))
    have e2 : u2 d 244 7 v 244 2 = d 244 2 := u2_ne (Or.inr (by omega))
    have e3 : u2 d 244 7 v 244 3 = d 244 3 := u2_ne (Or.inr (by omega))
    have e4 : u2 d 244 7 v 244 4 = d 244 4 := u2_ne (Or.inr (by omega))
    have e5 : u2 d 244 7 v 244 5 = d 244 5 := u2_ne (Or.inr (by omega))
    have e6 : u2 d 244 7 v 244 6 = d 244 6 := u2_ne (Or.inr (by omega))
    have e7 : u2 d 244 7 v 244 7 = v := u2_eq _ _ _ _
    unfold muS
    rw [tm9_in (d := (u2 d 244 7 v)) (s := 7) (i := 0) (by omega), tm9_in (d := (u2 d 244 7 v)) (s := 7) (i := 1) (by omega), tm9_in (d := (u2 d 244 7 v)) (s := 7) (i := 2) (by omega), tm9_in (d := (u2 d 244 7 v)) (s := 7) (i := 3) (by omega), tm9_in (d := (u2 d 244 7 v)) (s := 7) (i := 4) (by omega), tm9_in (d := (u2 d 244 7 v)) (s := 7) (i := 5) (by omega), tm9_in (d := (u2 d 244 7 v)) (s := 7) (i := 6) (by omega), tm9_in (d := (u2 d 244 7 v)) (s := 7) (i := 7) (by omega)]
    rw [tm9_in (d := d) (s := 7) (i := 0) (by omega), tm9_in (d := d) (s := 7) (i := 1) (by omega), tm9_in (d := d) (s := 7) (i := 2) (by omega), tm9_in (d := d) (s := 7) (i := 3) (by omega), tm9_in (d := d) (s := 7) (i := 4) (by omega), tm9_in (d := d) (s := 7) (i := 5) (by omega), tm9_in (d := d) (s := 7) (i := 6) (by omega), tm9_in (d := d) (s := 7) (i := 7) (by omega)]
    rw [e0, e1, e2, e3, e4, e5, e6, e7]
    omega
  | n + 8, hq, _ => exact absurd hq (by omega)
theorem mu_push {d : DD} (hI : Inv d) {q : Nat} (hq : q < 7) {v : Int32} (hv : (d 244 q).toInt + 1 ≤ v.toInt) : muS (u2 d 244 q v) ((q : Int) + 1) < muS d (q : Int) := by
  match q, hq, hv with
  | 0, _, hv =>
    show muS (u2 d 244 0 v) (1 : Int) < muS d (0 : Int)
    have g0 := iv_244 hI 0
    have g1 := iv_244 hI 1
    have e0 : u2 d 244 0 v 244 0 = v := u2_eq _ _ _ _
    have e1 : u2 d 244 0 v 244 1 = d 244 1 := u2_ne (Or.inr (by omega))
    have e2 : u2 d 244 0 v 244 2 = d 244 2 := u2_ne (Or.inr (by omega))
    have e3 : u2 d 244 0 v 244 3 = d 244 3 := u2_ne (Or.inr (by omega))
    have e4 : u2 d 244 0 v 244 4 = d 244 4 := u2_ne (Or.inr (by omega))
    have e5 : u2 d 244 0 v 244 5 = d 244 5 := u2_ne (Or.inr (by omega))
    have e6 : u2 d 244 0 v 244 6 = d 244 6 := u2_ne (Or.inr (by omega))
    have e7 : u2 d 244 0 v 244 7 = d 244 7 := u2_ne (Or.inr (by omega))
    unfold muS
    rw [tm9_in (d := (u2 d 244 0 v)) (s := 1) (i := 0) (by omega), tm9_in (d := (u2 d 244 0 v)) (s := 1) (i := 1) (by omega), tm9_out (d := (u2 d 244 0 v)) (s := 1) (i := 2) (by omega), tm9_out (d := (u2 d 244 0 v)) (s := 1) (i := 3) (by omega), tm9_out (d := (u2 d 244 0 v)) (s := 1) (i := 4) (by omega), tm9_out (d := (u2 d 244 0 v)) (s := 1) (i := 5) (by omega), tm9_out (d := (u2 d 244 0 v)) (s := 1) (i := 6) (by omega), tm9_out (d := (u2 d 244 0 v)) (s := 1) (i := 7) (by omega)]
    rw [tm9_in (d := d) (s := 0) (i := 0) (by omega), tm9_out (d := d) (s := 0) (i := 1) (by omega), tm9_out (d := d) (s := 0) (i := 2) (by omega), tm9_out (d := d) (s := 0) (i := 3) (by omega), tm9_out (d := d) (s := 0) (i := 4) (by omega), tm9_out (d := d) (s := 0) (i := 5) (by omega), tm9_out (d := d) (s := 0) (i := 6) (by omega), tm9_out (d := d) (s := 0) (i := 7) (by omega)]
    rw [e0, e1]
    omega
  | 1, _, hv =>
    show muS (u2 d 244 1 v) (2 : Int) < muS d (1 : Int)
    have g0 := iv_244 hI 1
    have g1 := iv_244 hI 2
    have e0 : u2 d 244 1 v 244 0 = d 244 0 := u2_ne (Or.inr (by omega))
    have e1 : u2 d 244 1 v 244 1 = v := u2_eq _ _ _ _
    have e2 : u2 d 244 1 v 244 2 = d 244 2 := u2_ne (Or.inr (by omega))
    have e3 : u2 d 244 1 v 244 3 = d 244 3 := u2_ne (Or.inr (by omega))
    have e4 : u2 d 244 1 v 244 4 = d 244 4 := u2_ne (Or.inr (by omega))
    have e5 : u2 d 244 1 v 244 5 = d 244 5 := u2_ne (Or.inr (by omega))
    have e6 : u2 d 244 1 v 244 6 = d 244 6 := u2_ne (Or.inr (by omega))
    have e7 : u2 d 244 1 v 244 7 = d 244 7 := u2_ne (Or.inr (by omega))
    unfold muS
    rw [tm9_in (d := (u2 d 244 1 v)) (s := 2) (i := 0) (by omega), tm9_in (d := (u2 d 244 1 v)) (s := 2) (i := 1) (by omega), tm9_in (d := (u2 d 244 1 v)) (s := 2) (i := 2) (by omega), tm9_out (d := (u2 d 244 1 v)) (s := 2) (i := 3) (by omega), tm9_out (d := (u2 d 244 1 v)) (s := 2) (i := 4) (by omega), tm9_out (d := (u2 d 244 1 v)) (s := 2) (i := 5) (by omega), tm9_out (d := (u2 d 244 1 v)) (s := 2) (i := 6) (by omega), tm9_out (d := (u2 d 244 1 v)) (s := 2) (i := 7) (by omega)]
    rw [tm9_in (d := d) (s := 1) (i := 0) (by omega), tm9_in (d := d) (s := 1) (i := 1) (by omega), tm9_out (d := d) (s := 1) (i := 2) (by omega), tm9_out (d := d) (s := 1) (i := 3) (by omega), tm9_out (d := d) (s := 1) (i := 4) (by omega), tm9_out (d := d) (s := 1) (i := 5) (by omega), tm9_out (d := d) (s := 1) (i := 6) (by omega), tm9_out (d := d) (s := 1) (i := 7) (by omega)]
    rw [e0, e1, e2]
    omega
  | 2, _, hv =>
    show muS (u2 d 244 2 v) (3 : Int) < muS d (2 : Int)
    have g0 := iv_244 hI 2
    have g1 := iv_244 hI 3
    have e0 : u2 d 244 2 v 244 0 = d 244 0 := u2_ne (Or.inr (by omega))
    have e1 : u2 d 244 2 v 244 1 = d 244 1 := u2_ne (Or.inr (by omega))
    have e2 : u2 d 244 2 v 244 2 = v := u2_eq _ _ _ _
    have e3 : u2 d 244 2 v 244 3 = d 244 3 := u2_ne (Or.inr (by omega))
    have e4 : u2 d 244 2 v 244 4 = d 244 4 := u2_ne (Or.inr (by omega))
    have e5 : u2 d 244 2 v 244 5 = d 244 5 := u2_ne (Or.inr (by omega))
    have e6 : u2 d 244 2 v 244 6 = d 244 6 := u2_ne (Or.inr (by omega))
    have e7 : u2 d 244 2 v 244 7 = d 244 7 := u2_ne (Or.inr (by omega))
    unfold muS
    rw [tm9_in (d := (u2 d 244 2 v)) (s := 3) (i := 0) (by omega), tm9_in (d := (u2 d 244 2 v)) (s := 3) (i := 1) (by omega), tm9_in (d := (u2 d 244 2 v)) (s := 3) (i := 2) (by omega), tm9_in (d := (u2 d 244 2 v)) (s := 3) (i := 3) (by omega), tm9_out (d := (u2 d 244 2 v)) (s := 3) (i := 4) (by omega), tm9_out (d := (u2 d 244 2 v)) (s := 3) (i := 5) (by omega), tm9_out (d := (u2 d 244 2 v)) (s := 3) (i := 6) (by omega), tm9_out (d := (u2 d 244 2 v)) (s := 3) (i := 7) (by omega)]
    rw [tm9_in (d := d) (s := 2) (i := 0) (by omega), tm9_in (d := d) (s := 2) (i := 1) (by omega), tm9_in (d := d) (s := 2) (i := 2) (by omega), tm9_out (d := d) (s := 2) (i := 3) (by omega), tm9_out (d := d) (s := 2) (i := 4) (by omega), tm9_out (d := d) (s := 2) (i := 5) (by omega), tm9_out (d := d) (s := 2) (i := 6) (by omega), tm9_out (d := d) (s := 2) (i := 7) (by omega)]
    rw [e0, e1, e2, e3]
    omega
  | 3, _, hv =>
    show muS (u2 d 244 3 v) (4 : Int) < muS d (3 : Int)
    have g0 := iv_244 hI 3
    have g1 := iv_244 hI 4
    have e0 : u2 d 244 3 v 244 0 = d 244 0 := u2_ne (Or.inr (by omega))
    have e1 : u2 d 244 3 v 244 1 = d 244 1 := u2_ne (Or.inr (by omega))
    have e2 : u2 d 244 3 v 244 2 = d 244 2 := u2_ne (Or.inr (by omega))
    have e3 : u2 d 244 3 v 244 3 = v := u2_eq _ _ _ _
    have e4 : u2 d 244 3 v 244 4 = d 244 4 := u2_ne (Or.inr (by omega))
    have e5 : u2 d 244 3 v 244 5 = d 244 5 := u2_ne (Or.inr (by omega))
    have e6 : u2 d 244 3 v 244 6 = d 244 6 := u2_ne (Or.inr (by omega))
    have e7 : u2 d 244 3 v 244 7 = d 244 7 := u2_ne (Or.inr (by omega))
    unfold muS
    rw [tm9_in (d := (u2 d 244 3 v)) (s := 4) (i := 0) (by omega), tm9_in (d := (u2 d 244 3 v)) (s := 4) (i := 1) (by omega), tm9_in (d := (u2 d 244 3 v)) (s := 4) (i := 2) (by omega), tm9_in (d := (u2 d 244 3 v)) (s := 4) (i := 3) (by omega), tm9_in (d := (u2 d 244 3 v)) (s := 4) (i := 4) (by omega), tm9_out (d := (u2 d 244 3 v)) (s := 4) (i := 5) (by omega), tm9_out (d := (u2 d 244 3 v)) (s := 4) (i := 6) (by omega), tm9_out (d := (u2 d 244 3 v)) (s := 4) (i := 7) (by omega)]
    rw [tm9_in (d := d) (s := 3) (i := 0) (by omega), tm9_in (d := d) (s := 3) (i := 1) (by omega), tm9_in (d := d) (s := 3) (i := 2) (by omega), tm9_in (d := d) (s := 3) (i := 3) (by omega), tm9_out (d := d) (s := 3) (i := 4) (by omega), tm9_out (d := d) (s := 3) (i := 5) (by omega), tm9_out (d := d) (s := 3) (i := 6) (by omega), tm9_out (d := d) (s := 3) (i := 7) (by omega)]
    rw [e0, e1, e2, e3, e4]
    omega
  | 4, _, hv =>
    show muS (u2 d 244 4 v) (5 : Int) < muS d (4 : Int)
    have g0 := iv_244 hI 4
    have g1 := iv_244 hI 5
    have e0 : u2 d 244 4 v 244 0 = d 244 0 := u2_ne (Or.inr (by omega))
    have e1 : u2 d 244 4 v 244 1 = d 244 1 := u2_ne (Or.inr (by omega))
    have e2 : u2 d 244 4 v 244 2 = d 244 2 := u2_ne (Or.inr (by omega))
    have e3 : u2 d 244 4 v 244 3 = d 244 3 := u2_ne (Or.inr (by omega))
    have e4 : u2 d 244 4 v 244 4 = v := u2_eq _ _ _ _
    have e5 : u2 d 244 4 v 244 5 = d 244 5 := u2_ne (Or.inr (by omega))
    have e6 : u2 d 244 4 v 244 6 = d 244 6 := u2_ne (Or.inr (by omega))
    have e7 : u2 d 244 4 v 244 7 = d 244 7 := u2_ne (Or.inr (by omega))
    unfold muS
    rw [tm9_in (d := (u2 d 244 4 v)) (s := 5) (i := 0) (by omega), tm9_in (d := (u2 d 244 4 v)) (s := 5) (i := 1) (by omega), tm9_in (d := (u2 d 244 4 v)) (s := 5) (i := 2) (by omega), tm9_in (d := (u2 d 244 4 v)) (s := 5) (i := 3) (by omega), tm9_in (d := (u2 d 244 4 v)) (s := 5) (i := 4) (by omega), tm9_in (d := (u2 d 244 4 v)) (s := 5) (i := 5) (by omega), tm9_out (d := (u2 d 244 4 v)) (s := 5) (i := 6) (by omega), tm9_out (d := (u2 d 244 4 v)) (s := 5) (i := 7) (by omega)]
    rw [tm9_in (d := d) (s := 4) (i := 0) (by omega), tm9_in (d := d) (s := 4) (i := 1) (by omega), tm9_in (d := d) (s := 4) (i := 2) (by omega), tm9_in (d := d) (s := 4) (i := 3) (by omega), tm9_in (d := d) (s := 4) (i := 4) (by omega), tm9_out (d := d) (s := 4) (i := 5) (by omega), tm9_out (d := d) (s := 4) (i := 6) (by omega), tm9_out (d := d) (s := 4) (i := 7) (by omega)]
    rw [e0, e1, e2, e3, e4, e5]
    omega
  | 5, _, hv =>
    show muS (u2 d 244 5 v) (6 : Int) < muS d (5 : Int)
    have g0 := iv_244 hI 5
    have g1 := iv_244 hI 6
    have e0 : u2 d 244 5 v 244 0 = d 244 0 := u2_ne (Or.inr (by omega))
    have e1 : u2 d 244 5 v 244 1 = d 244 1 := u2_ne (Or.inr (by omega))
    have e2 : u2 d 244 5 v 244 2 = d 244 2 := u2_ne (Or.inr (by omega))
    have e3 : u2 d 244 5 v 244 3 = d 244 3 := u2_ne (Or.inr (by omega))
    have e4 : u2 d 244 5 v 244 4 = d 244 4 := u2_ne (Or.inr (by omega))
    have e5 : u2 d 244 5 v 244 5 = v := u2_eq _ _ _ _
    have e6 : u2 d 244 5 v 244 6 = d 244 6 := u2_ne (Or.inr (by omega))
    have e7 : u2 d 244 5 v 244 7 = d 244 7 := u2_ne (Or.inr (by omega))
    unfold muS
    rw [tm9_in (d := (u2 d 244 5 v)) (s := 6) (i := 0) (by omega), tm9_in (d := (u2 d 244 5 v)) (s := 6) (i := 1) (by omega), tm9_in (d := (u2 d 244 5 v)) (s := 6) (i := 2) (by omega), tm9_in (d := (u2 d 244 5 v)) (s := 6) (i := 3) (by omega), tm9_in (d := (u2 d 244 5 v)) (s := 6) (i := 4) (by omega), tm9_in (d := (u2 d 244 5 v)) (s := 6) (i := 5) (by omega), tm9_in (d := (u2 d 244 5 v)) (s := 6) (i := 6) (by omega), tm9_out (d := (u2 d 244 5 v)) (s := 6) (i := 7) (by omega)]
    rw [tm9_in (d := d) (s := 5) (i := 0) (by omega), tm9_in (d := d) (s := 5) (i := 1) (by omega), tm9_in (d := d) (s := 5) (i := 2) (by omega), tm9_in (d := d) (s := 5) (i := 3) (by omega), tm9_in (d := d) (s := 5) (i := 4) (by omega), tm9_in (d := d) (s := 5) (i := 5) (by omega), tm9_out (d := d) (s := 5) (i := 6) (by omega), tm9_out (d := d) (s := 5) (i := 7) (by omega)]
    rw [e0, e1, e2, e3, e4, e5, e6]
    omega
  | 6, _, hv =>
    show muS (u2 d 244 6 v) (7 : Int) < muS d (6 : Int)
    have g0 := iv_244 hI 6
    have g1 := iv_244 hI 7
    have e0 : u2 d 244 6 v 244 0 = d 244 0 := u2_ne (Or.inr (by omega))
    have e1 : u2 d 244 6 v 244 1 = d 244 1 := u2_ne (Or.inr (by omega))
    have e2 : u2 d 244 6 v 244 2 = d 244 2 := u2_ne (Or.inr (by omega))
    have e3 : u2 d 244 6 v 244 3 = d 244 3 := u2_ne (Or.inr (by omega))
    have e4 : u2 d 244 6 v 244 4 = d 244 4 := u2_ne (Or.inr (by omega))
    have e5 : u2 d 244 6 v 244 5 = d 244 5 := u2_ne (Or.inr (by omega))
    have e6 : u2 d 244 6 v 244 6 = v := u2_eq _ _ _ _
    have e7 : u2 d 244 6 v 244 7 = d 244 7 := u2_ne (Or.inr (by omega))
    unfold muS
    rw [tm9_in (d := (u2 d 244 6 v)) (s := 7) (i := 0) (by omega), tm9_in (d := (u2 d 244 6 v)) (s := 7) (i := 1) (by omega), tm9_in (d := (u2 d 244 6 v)) (s := 7) (i := 2) (by omega), tm9_in (d := (u2 d 244 6 v)) (s := 7) (i := 3) (by omega), tm9_in (d := (u2 d 244 6 v)) (s := 7) (i := 4) (by omega), tm9_in (d := (u2 d 244 6 v)) (s := 7) (i := 5) (by omega), tm9_in (d := (u2 d 244 6 v)) (s := 7) (i := 6) (by omega), tm9_in (d := (u2 d 244 6 v)) (s := 7) (i := 7) (by omega)]
    rw [tm9_in (d := d) (s := 6) (i := 0) (by omega), tm9_in (d := d) (s := 6) (i := 1) (by omega), tm9_in (d := d) (s := 6) (i := 2) (by omega), tm9_in (d := d) (s := 6) (i := 3) (by omega), tm9_in (d := d) (s := 6) (i := 4) (by omega), tm9_in (d := d) (s := 6) (i := 5) (by omega), tm9_in (d := d) (s := 6) (i := 6) (by omega), tm9_out (d := d) (s := 6) (i := 7) (by omega)]
    rw [e0, e1, e2, e3, e4, e5, e6, e7]
    omega
  | n + 7, hq, _ => exact absurd hq (by omega)
theorem mu_pop {d : DD} (hI : Inv d) {q : Nat} (hq : q < 8) {v : Int32} : muS (u2 d 244 q v) ((q : Int) - 1) < muS d (q : Int) := by
  match q, hq with
  | 0, _ =>
    show muS (u2 d 244 0 v) ((-1) : Int) < muS d (0 : Int)
    have g0 := iv_244 hI 0
    have e0 : u2 d 244 0 v 244 0 = v := u2_eq _ _ _ _
    have e1 : u2 d 244 0 v 244 1 = d 244 1 := u2_ne (Or.inr (by omega))
    have e2 : u2 d 244 0 v 244 2 = d 244 2 := u2_ne (Or.inr (by omega))
    have e3 : u2 d 244 0 v 244 3 = d 244 3 := u2_ne (Or.inr (by omega))
    have e4 : u2 d 244 0 v 244 4 = d 244 4 := u2_ne (Or.inr (by omega))
    have e5 : u2 d 244 0 v 244 5 = d 244 5 := u2_ne (Or.inr (by omega))
    have e6 : u2 d 244 0 v 244 6 = d 244 6 := u2_ne (Or.inr (by omega))
    have e7 : u2 d 244 0 v 244 7 = d 244 7 := u2_ne (Or.inr (by omega))
    unfold muS
    rw [tm9_out (d := (u2 d 244 0 v)) (s := (-1)) (i := 0) (by omega), tm9_out (d := (u2 d 244 0 v)) (s := (-1)) (i := 1) (by omega), tm9_out (d := (u2 d 244 0 v)) (s := (-1)) (i := 2) (by omega), tm9_out (d := (u2 d 244 0 v)) (s := (-1)) (i := 3) (by omega), tm9_out (d := (u2 d 244 0 v)) (s := (-1)) (i := 4) (by omega), tm9_out (d := (u2 d 244 0 v)) (s := (-1)) (i := 5) (by omega), tm9_out (d := (u2 d 244 0 v)) (s := (-1)) (i := 6) (by omega), tm9_out (d := (u2 d 244 0 v)) (s := (-1)) (i := 7) (by omega)]
    rw [tm9_in (d := d) (s := 0) (i := 0) (by omega), tm9_out (d := d) (s := 0) (i := 1) (by omega), tm9_out (d := d) (s := 0) (i := 2) (by omega), tm9_out (d := d) (s := 0) (i := 3) (by omega), tm9_out (d := d) (s := 0) (i := 4) (by omega), tm9_out (d := d) (s := 0) (i := 5) (by omega), tm9_out (d := d) (s := 0) (i := 6) (by omega), tm9_out (d := d) (s := 0) (i := 7) (by omega)]
    omega
  | 1, _ =>
    show muS (u2 d 244 1 v) ((0) : Int) < muS d (1 : Int)
    have g0 := iv_244 hI 1
    have e0 : u2 d 244 1 v 244 0 = d 244 0 := u2_ne (Or.inr (by omega))
    have e1 : u2 d 244 1 v 244 1 = v := u2_eq _ _ _ _
    have e2 : u2 d 244 1 v 244 2 = d 244 2 := u2_ne (Or.inr (by omega))
    have e3 : u2 d 244 1 v 244 3 = d 244 3 := u2_ne (Or.inr (by omega))
    have e4 : u2 d 244 1 v 244 4 = d 244 4 := u2_ne (Or.inr (by omega))
    have e5 : u2 d 244 1 v 244 5 = d 244 5 := u2_ne (Or.inr (by omega))
    have e6 : u2 d 244 1 v 244 6 = d 244 6 := u2_ne (Or.inr (by omega))
    have e7 : u2 d 244 1 v 244 7 = d 244 7 := u2_ne (Or.inr (by omega))
    unfold muS
    rw [tm9_in (d := (u2 d 244 1 v)) (s := (0)) (i := 0) (by omega), tm9_out (d := (u2 d 244 1 v)) (s := (0)) (i := 1) (by omega), tm9_out (d := (u2 d 244 1 v)) (s := (0)) (i := 2) (by omega), tm9_out (d := (u2 d 244 1 v)) (s := (0)) (i := 3) (by omega), tm9_out (d := (u2 d 244 1 v)) (s := (0)) (i := 4) (by omega), tm9_out (d := (u2 d 244 1 v)) (s := (0)) (i := 5) (by omega), tm9_out (d := (u2 d 244 1 v)) (s := (0)) (i := 6) (by omega), tm9_out (d := (u2 d 244 1 v)) (s := (0)) (i := 7) (by omega)]
    rw [tm9_in (d := d) (s := 1) (i := 0) (by omega), tm9_in (d := d) (s := 1) (i := 1) (by omega), tm9_out (d := d) (s := 1) (i := 2) (by omega), tm9_out (d := d) (s := 1) (i := 3) (by omega), tm9_out (d := d) (s := 1) (i := 4) (by omega), tm9_out (d := d) (s := 1) (i := 5) (by omega), tm9_out (d := d) (s := 1) (i := 6) (by omega), tm9_out (d := d) (s := 1) (i := 7) (by omega)]
    rw [e0]
    omega
  | 2, _ =>
    show muS (u2 d 244 2 v) ((1) : Int) < muS d (2 : Int)
    have g0 := iv_244 hI 2
    have e0 : u2 d 244 2 v 244 0 = d 244 0 := u2_ne (Or.inr (by omega))
    have e1 : u2 d 244 2 v 244 1 = d 244 1 := u2_ne (Or.inr (by omega))
    have e2 : u2 d 244 2 v 244 2 = v := u2_eq _ _ _ _
    have e3 : u2 d 244 2 v 244 3 = d 244 3 := u2_ne (Or.inr (by omega))
    have e4 : u2 d 244 2 v 244 4 = d 244 4 := u2_ne (Or.inr (by omega))
    have e5 : u2 d 244 2 v 244 5 = d 244 5 := u2_ne (Or.inr (by omega))
    have e6 : u2 d 244 2 v 244 6 = d 244 6 := u2_ne (Or.inr (by omega))
    have e7 : u2 d 244 2 v 244 7 = d 244 7 := u2_ne (Or.inr (by omega))
    unfold muS
    rw [tm9_in (d := (u2 d 244 2 v)) (s := (1)) (i := 0) (by omega), tm9_in (d := (u2 d 244 2 v)) (s := (1)) (i := 1) (by omega), tm9_out (d := (u2 d 244 2 v)) (s := (1)) (i := 2) (by omega), tm9_out (d := (u2 d 244 2 v)) (s := (1)) (i := 3) (by omega), tm9_out (d := (u2 d 244 2 v)) (s := (1)) (i := 4) (by omega), tm9_out (d := (u2 d 244 2 v)) (s := (1)) (i := 5) (by omega), tm9_out (d := (u2 d 244 2 v)) (s := (1)) (i := 6) (by omega), tm9_out (d := (u2 d 244 2 v)) (s := (1)) (i := 7) (by omega)]
    rw [tm9_in (d := d) (s := 2) (i := 0) (by omega), tm9_in (d := d) (s := 2) (i := 1) (by omega), tm9_in (d := d) (s := 2) (i := 2) (by omega), tm9_out (d := d) (s := 2) (i := 3) (by omega), tm9_out (d := d) (s := 2) (i := 4) (by omega), tm9_out (d := d) (s := 2) (i := 5) (by omega), tm9_out (d := d) (s := 2) (i := 6) (by omega), tm9_out (d := d) (s := 2) (i := 7) (by omega)]
    rw [e0, e1]
    omega
  | 3, _ =>
    show muS (u2 d 244 3 v) ((2) : Int) < muS d (3 : Int)
    have g0 := iv_244 hI 3
    have e0 : u2 d 244 3 v 244 0 = d 244 0 := u2_ne (Or.inr (by omega))
    have e1 : u2 d 244 3 v 244 1 = d 244 1 := u2_ne (Or.inr (by omega))
    have e2 : u2 d 244 3 v 244 2 = d 244 2 := u2_ne (Or.inr (by omega))
    have e3 : u2 d 244 3 v 244 3 = v := u2_eq _ _ _ _
    have e4 : u2 d 244 3 v 244 4 = d 244 4 := u2_ne (Or.inr (by omega))
    have e5 : u2 d 244 3 v 244 5 = d 244 5 := u2_ne (Or.inr (by omega))
    have e6 : u2 d 244 3 v 244 6 = d 244 6 := u2_ne (Or.inr (by omega))
    have e7 : u2 d 244 3 v 244 7 = d 244 7 := u2_ne (Or.inr (by omega))
    unfold muS
    rw [tm9_in (d := (u2 d 244 3 v)) (s := (2)) (i := 0) (by omega), tm9_in (d := (u2 d 244 3 v)) (s := (2)) (i := 1) (by omega), tm9_in (d := (u2 d 244 3 v)) (s := (2)) (i := 2) (by omega), tm9_out (d := (u2 d 244 3 v)) (s := (2)) (i := 3) (by omega), tm9_out (d := (u2 d 244 3 v)) (s := (2)) (i := 4) (by omega), tm9_out (d := (u2 d 244 3 v)) (s := (2)) (i := 5) (by omega), tm9_out (d := (u2 d 244 3 v)) (s := (2)) (i := 6) (by omega), tm9_out (d := (u2 d 244 3 v)) (s := (2)) (i := 7) (by omega)]
    rw [tm9_in (d := d) (s := 3) (i := 0) (by omega), tm9_in (d := d) (s := 3) (i := 1) (by omega), tm9_in (d := d) (s := 3) (i := 2) (by omega), tm9_in (d := d) (s := 3) (i := 3) (by omega), tm9_out (d := d) (s := 3) (i := 4) (by omega), tm9_out (d := d) (s := 3) (i := 5) (by omega), tm9_out (d := d) (s := 3) (i := 6) (by omega), tm9_out (d := d) (s := 3) (i := 7) (by omega)]
    rw [e0, e1, e2]
    omega
  | 4, _ =>
    show muS (u2 d 244 4 v) ((3) : Int) < muS d (4 : Int)
    have g0 := iv_244 hI 4
    have e0 : u2 d 244 4 v 244 0 = d 244 0 := u2_ne (Or.inr (by omega))
    have e1 : u2 d 244 4 v 244 1 = d 244 1 := u2_ne (Or.inr (by omega))
    have e2 : u2 d 244 4 v 244 2 = d 244 2 := u2_ne (Or.inr (by omega))
    have e3 : u2 d 244 4 v 244 3 = d 244 3 := u2_ne (Or.inr (by omega))
    have e4 : u2 d 244 4 v 244 4 = v := u2_eq _ _ _ _
    have e5 : u2 d 244 4 v 244 5 = d 244 5 := u2_ne (Or.inr (by omega))
    have e6 : u2 d 244 4 v 244 6 = d 244 6 := u2_ne (Or.inr (by omega))
    have e7 : u2 d 244 4 v 244 7 = d 244 7 := u2_ne (Or.inr (by omega))
    unfold muS
    rw [tm9_in (d := (u2 d 244 4 v)) (s := (3)) (i := 0) (by omega), tm9_in (d := (u2 d 244 4 v)) (s := (3)) (i := 1) (by omega), tm9_in (d := (u2 d 244 4 v)) (s := (3)) (i := 2) (by omega), tm9_in (d := (u2 d 244 4 v)) (s := (3)) (i := 3) (by omega), tm9_out (d := (u2 d 244 4 v)) (s := (3)) (i := 4) (by omega), tm9_out (d := (u2 d 244 4 v)) (s := (3)) (i := 5) (by omega), tm9_out (d := (u2 d 244 4 v)) (s := (3)) (i := 6) (by omega), tm9_out (d := (u2 d 244 4 v)) (s := (3)) (i := 7) (by omega)]
    rw [tm9_in (d := d) (s := 4) (i := 0) (by omega), tm9_in (d := d) (s := 4) (i := 1) (by omega), tm9_in (d := d) (s := 4) (i := 2) (by omega), tm9_in (d := d) (s := 4) (i := 3) (by omega), tm9_in (d := d) (s := 4) (i := 4) (by omega), tm9_out (d := d) (s := 4) (i := 5) (by omega), tm9_out (d := d) (s := 4) (i := 6) (by omega), tm9_out (d := d) (s := 4) (i := 7) (by omega)]
    rw [e0, e1, e2, e3]
    omega
  | 5, _ =>
    show muS (u2 d 244 5 v) ((4) : Int) < muS d (5 : Int)
    have g0 := iv_244 hI 5
    have e0 : u2 d 244 5 v 244 0 = d 244 0 := u2_ne (Or.inr (by omega))
    have e1 : u2 d 244 5 v 244 1 = d 244 1 := u2_ne (Or.inr (by omega))
    have e2 : u2 d 244 5 v 244 2 = d 244 2 := u2_ne (Or.inr (by omega))
    have e3 : u2 d 244 5 v 244 3 = d 244 3 := u2_ne (Or.inr (by omega))
    have e4 : u2 d 244 5 v 244 4 = d 244 4 := u2_ne (Or.inr (by omega))
    have e5 : u2 d 244 5 v 244 5 = v := u2_eq _ _ _ _
    have e6 : u2 d 244 5 v 244 6 = d 244 6 := u2_ne (Or.inr (by omega))
    have e7 : u2 d 244 5 v 244 7 = d 244 7 := u2_ne (Or.inr (by omega))
    unfold muS
    rw [tm9_in (d := (u2 d 244 5 v)) (s := (4)) (i := 0) (by omega), tm9_in (d := (u2 d 244 5 v)) (s := (4)) (i := 1) (by omega), tm9_in (d := (u2 d 244 5 v)) (s := (4)) (i := 2) (by omega), tm9_in (d := (u2 d 244 5 v)) (s := (4)) (i := 3) (by omega), tm9_in (d := (u2 d 244 5 v)) (s := (4)) (i := 4) (by omega), tm9_out (d := (u2 d 244 5 v)) (s := (4)) (i := 5) (by omega), tm9_out (d := (u2 d 244 5 v)) (s := (4)) (i := 6) (by omega), tm9_out (d := (u2 d 244 5 v)) (s := (4)) (i := 7) (by omega)]
    rw [tm9_in (d := d) (s := 5) (i := 0) (by omega), tm9_in (d := d) (s := 5) (i := 1) (by omega), tm9_in (d := d) (s := 5) (i := 2) (by omega), tm9_in (d := d) (s := 5) (i := 3) (by omega), tm9_in (d := d) (s := 5) (i := 4) (by omega), tm9_in (d := d) (s := 5) (i := 5) (by omega), tm9_out (d := d) (s := 5) (i := 6) (by omega), tm9_out (d := d) (s := 5) (i := 7) (by omega)]
    rw [e0, e1, e2, e3, e4]
    omega
  | 6, _ =>
    show muS (u2 d 244 6 v) ((5) : Int) < muS d (6 : Int)
    have g0 := iv_244 hI 6
    have e0 : u2 d 244 6 v 244 0 = d 244 0 := u2_ne (Or.inr (by omega))
    have e1 : u2 d 244 6 v 244 1 = d 244 1 := u2_ne (Or.inr (by omega))
    have e2 : u2 d 244 6 v 244 2 = d 244 2 := u2_ne (Or.inr (by omega))
    have e3 : u2 d 244 6 v 244 3 = d 244 3 := u2_ne (Or.inr (by omega))
    have e4 : u2 d 244 6 v 244 4 = d 244 4 := u2_ne (Or.inr (by omega))
    have e5 : u2 d 244 6 v 244 5 = d 244 5 := u2_ne (Or.inr (by omega))
    have e6 : u2 d 244 6 v 244 6 = v := u2_eq _ _ _ _
    have e7 : u2 d 244 6 v 244 7 = d 244 7 := u2_ne (Or.inr (by omega))
    unfold muS
    rw [tm9_in (d := (u2 d 244 6 v)) (s := (5)) (i := 0) (by omega), tm9_in (d := (u2 d 244 6 v)) (s := (5)) (i := 1) (by omega), tm9_in (d := (u2 d 244 6 v)) (s := (5)) (i := 2) (by omega), tm9_in (d := (u2 d 244 6 v)) (s := (5)) (i := 3) (by omega), tm9_in (d := (u2 d 244 6 v)) (s := (5)) (i := 4) (by omega), tm9_in (d := (u2 d 244 6 v)) (s := (5)) (i := 5) (by omega), tm9_out (d := (u2 d 244 6 v)) (s := (5)) (i := 6) (by omega), tm9_out (d := (u2 d 244 6 v)) (s := (5)) (i := 7) (by omega)]
    rw [tm9_in (d := d) (s := 6) (i := 0) (by omega), tm9_in (d := d) (s := 6) (i := 1) (by omega), tm9_in (d := d) (s := 6) (i := 2) (by omega), tm9_in (d := d) (s := 6) (i := 3) (by omega), tm9_in (d := d) (s := 6) (i := 4) (by omega), tm9_in (d := d) (s := 6) (i := 5) (by omega), tm9_in (d := d) (s := 6) (i := 6) (by omega), tm9_out (d := d) (s := 6) (i := 7) (by omega)]
    rw [e0, e1, e2, e3, e4, e5]
    omega
  | 7, _ =>
    show muS (u2 d 244 7 v) ((6) : Int) < muS d (7 : Int)
    have g0 := iv_244 hI 7
    have e0 : u2 d 244 7 v 244 0 = d 244 0 := u2_ne (Or.inr (by omega))
    have e1 : u2 d 244 7 v 244 1 = d 244 1 := u2_ne (Or.inr (by omega))
    have e2 : u2 d 244 7 v 244 2 = d 244 2 := u2_ne (Or.inr (by omega))
    have e3 : u2 d 244 7 v 244 3 = d 244 3 := u2_ne (Or.inr (by omega))
    have e4 : u2 d 244 7 v 244 4 = d 244 4 := u2_ne (Or.inr (by omega))
    have e5 : u2 d 244 7 v 244 5 = d 244 5 := u2_ne (Or.inr (by omega))
    have e6 : u2 d 244 7 v 244 6 = d 244 6 := u2_ne (Or.inr (by omega))
    have e7 : u2 d 244 7 v 244 7 = v := u2_eq _ _ _ _
    unfold muS
    rw [tm9_in (d := (u2 d 244 7 v)) (s := (6)) (i := 0) (by omega), tm9_in (d := (u2 d 244 7 v)) (s := (6)) (i := 1) (by omega), tm9_in (d := (u2 d 244 7 v)) (s := (6)) (i := 2) (by omega), tm9_in (d := (u2 d 244 7 v)) (s := (6)) (i := 3) (by omega), tm9_in (d := (u2 d 244 7 v)) (s := (6)) (i := 4) (by omega), tm9_in (d := (u2 d 244 7 v)) (s := (6)) (i := 5) (by omega), tm9_in (d := (u2 d 244 7 v)) (s := (6)) (i := 6) (by omega), tm9_out (d := (u2 d 244 7 v)) (s := (6)) (i := 7) (by omega)]
    rw [tm9_in (d := d) (s := 7) (i := 0) (by omega), tm9_in (d := d) (s := 7) (i := 1) (by omega), tm9_in (d := d) (s := 7) (i := 2) (by omega), tm9_in (d := d) (s := 7) (i := 3) (by omega), tm9_in (d := d) (s := 7) (i := 4) (by omega), tm9_in (d := d) (s := 7) (i := 5) (by omega), tm9_in (d := d) (s := 7) (i := 6) (by omega), tm9_in (d := d) (s := 7) (i := 7) (by omega)]
    rw [e0, e1, e2, e3, e4, e5, e6]
    omega
  | n + 8, hq => exact absurd hq (by omega)
theorem x6_nat {x : Int32} (h0 : 0 ≤ x.toInt) : ((x.toNatClampNeg : Nat) : Int) = x.toInt := by
  rw [clampI (rfl : x.toInt = x.toInt)]
  omega
theorem mu_up {d d2 : DD} {x6 x8 : Int32} (hI : Inv d) (h0 : 0 ≤ x6.toInt) (h1 : x6.toInt ≤ 7) (hv : (d 244 x6.toNatClampNeg).toInt + 1 ≤ x8.toInt) (he : ∀ i, d2 244 i = u2 d 244 x6.toNatClampNeg x8 244 i) : muS d2 x6.toInt < muS d x6.toInt ∧ (x6.toInt ≤ 6 → muS d2 (x6.toInt + 1) < muS d x6.toInt) := by
  have hx := x6_nat h0
  rw [muS_congr he, muS_congr he, ← hx]
  exact ⟨mu_stay hI (by omega) hv, fun h => mu_push hI (by omega) hv⟩
theorem mu_dn {d d2 : DD} {x6 v : Int32} (hI : Inv d) (h0 : 0 ≤ x6.toInt) (h1 : x6.toInt ≤ 7) (he : d2 = u2 d 244 x6.toNatClampNeg v) : muS d2 (x6.toInt + (-1)) < muS d x6.toInt := by
  have hx := x6_nat h0
  rw [he, ← hx]
  exact mu_pop hI (by omega)
def PN (d : DD) (m : Int) : Prop := ∀ j : Nat, j < 8 → (d 244 j).toInt < m
theorem PN_put {d : DD} {m : Int} {i : Nat} {v : Int32} (h : PN d m) (hv : v.toInt < m) : PN (u2 d 244 i v) m := by
  intro j hj
  by_cases hi : j = i
  · subst hi
    rw [u2_eq]
    exact hv
  · rw [u2_ne (Or.inr hi)]
    exact h j hj
theorem PN_row {d : DD} {m : Int} {c i : Nat} {v : Int32} (h : PN d m) (hc : c ≠ 244) : PN (u2 d c i v) m := by
  intro j hj
  rw [u2_row (Ne.symm hc)]
  exact h j hj
theorem PN_at {d : DD} {m : Int} {x : Int32} (h : PN d m) (h0 : 0 ≤ x.toInt) (h1 : x.toInt ≤ 7) : (d 244 x.toNatClampNeg).toInt < m := h _ (by have := x6_nat h0; omega)
def P42 (d : DD) (m : Int) : Prop := ∀ j : Nat, (j : Int) < m → (d 244 j).toInt = -1
theorem P42_0 (d : DD) : P42 d (0 : Int32).toInt := fun j hj => by
  have h9 : (j : Int) < 0 := hj
  omega
theorem P42_s {d : DD} {x : Int32} (h : P42 d x.toInt) (h0 : 0 ≤ x.toInt) : P42 (u2 d 244 x.toNatClampNeg (-1)) (x.toInt + 1) := by
  intro j hj
  have hx := x6_nat h0
  by_cases hi : j = x.toNatClampNeg
  · subst hi
    rw [u2_eq]
    rfl
  · rw [u2_ne (Or.inr hi)]
    exact h j (by omega)
theorem P42_PN {d : DD} {m k : Int} (h : P42 d m) (hm : 8 ≤ m) (hk : 0 ≤ k) : PN d k := fun j hj => by
  rw [h j (by omega)]
  omega
