def tf (R : Int) (w st : Nat → Int) (lk : Nat → Nat → Bool) (who : Nat → Nat) (what s : Nat) : Int :=
  if what = 0 then (if s % 2 = 0 then w (who s) else -w (who s)) else if what = 1 then w (who s) * pfR R s else if what = 2 then st (who s) * mfR R s else (if s % 2 = 0 ∧ lk (who s) (who (s + 1)) = true then 1 else 0)
def tb (R D : Int) (what : Nat) : Int := if what = 1 then -R * D else 0
def tra (R D : Int) (w st : Nat → Int) (lk : Nat → Nat → Bool) (who : Nat → Nat) (what s : Nat) : Int := tb R D what + sm (tf R w st lk who what) s
def trm (R D : Int) (w st : Nat → Int) (lk : Nat → Nat → Bool) (who : Nat → Nat) (what S : Nat) : Int := if what < 2 then ab (tra R D w st lk who what S) else tra R D w st lk who what S
def wB (d : DD) : Nat → Int := fun p => (d 212 p).toInt
def sB (d : DD) : Nat → Int := fun p => (d 213 p).toInt
def lB (d : DD) : Nat → Nat → Bool := fun a b => decide (¬ d 217 (40 * a + b) = 0)
def whB (d : DD) (c x : Nat) : Nat → Nat := fun s => (d c (x + s)).toNatClampNeg
theorem tf_in {d : DD} (hI : Inv d) {R : Int} (c1 : 2 ≤ R) (c2 : R ≤ 4) {who : Nat → Nat} {what s : Nat} (hw : what ≤ 3) (hs : (s : Int) < 2 * R) : -450 ≤ tf R (wB d) (sB d) (lB d) who what s ∧ tf R (wB d) (sB d) (lB d) who what s ≤ 450 := by
  have a : 0 ≤ wB d (who s) ∧ wB d (who s) ≤ 150 := iv_212 hI (who s)
  have b : 0 ≤ sB d (who s) ∧ sB d (who s) ≤ 99 := iv_213 hI (who s)
  have hp := pf_c (R := R) (s := s) c1 c2 hs
  have hm := mf_c (R := R) (s := s) c1 c2 hs
  unfold tf
  generalize wB d (who s) = u at *
  generalize sB d (who s) = v at *
  split
  · split <;> omega
  · split
    · rcases hp with e | e | e | e | e | e | e <;> rw [e] <;> omega
    · split
      · rcases hm with e | e <;> rw [e] <;> omega
      · split <;> omega
theorem tra_in {d : DD} (hI : Inv d) {R D : Int} (c1 : 2 ≤ R) (c2 : R ≤ 4) (cD : 0 ≤ D ∧ D ≤ 150) {who : Nat → Nat} {what s : Nat} (hw : what ≤ 3) (hs : (s : Int) ≤ 2 * R) : -5000 ≤ tra R D (wB d) (sB d) (lB d) who what s ∧ tra R D (wB d) (sB d) (lB d) who what s ≤ 5000 := by
  have := sm_in (f := tf R (wB d) (sB d) (lB d) who what) (a := -450) (b := 450) (by omega) (by omega) s (by omega) (fun i hi => tf_in hI c1 c2 hw (by omega))
  have h2 : -600 ≤ tb R D what ∧ tb R D what ≤ 0 := by
    unfold tb
    split
    · have hc : R = 2 ∨ R = 3 ∨ R = 4 := by omega
      rcases hc with e | e | e <;> rw [e] <;> omega
    · omega
  unfold tra
  omega
theorem fb_X10_trims_33 {n : Nat} {Q : Int32 → DD → LL → Prop} {c : Nat} {x : Nat} {x3 x4 x5 : Int32} {R D : Int} {what : Nat} (hw : what ≤ 3) {d : DD} {dl : LL} (hI : Inv d) (hrow : RowT c) (h3 : x3.toInt = (x : Int)) (hl : x + 8 ≤ ln c) (hx : x ≤ 100) (h4 : x4.toInt = (what : Int)) (h5 : x5.toInt = R) (c1 : 2 ≤ R) (c2 : R ≤ 4) (cD : 0 ≤ D ∧ D ≤ 150) (hQ : ∀ r : Int32, (∀ S : Nat, (S : Int) = 2 * R → r.toInt = trm R D (wB d) (sB d) (lB d) (whB d c x) what S) → Q r d dl) : ∀ (j s : Nat) (x6 x7 : Int32), x7.toInt = (s : Int) → (s : Int) ≤ 2 * R → x6.toInt = tra R D (wB d) (sB d) (lB d) (whB d c x) what s → 9 ≤ s + j → b_X10_trims_33 n Q j c x3 x4 x5 x6 x7 d dl := by
  intro j
  induction j with
  | zero =>
    intro s x6 x7 h7 hs h6 hj
    exfalso
    omega
  | succ j hK =>
    intro s x6 x7 h7 hs h6 hj
    show _ ∧ _
    have b6 := tra_in hI c1 c2 cD (who := whB d c x) hw hs
    have t5 : ((2 : Int32) * x5).toInt = 2 * R := ti_mul (rfl : (2 : Int32).toInt = 2) h5 (by omega) (by omega)
    refine ⟨fun h => ?_, fun h => ?_⟩
    · have h : 2 * R ≤ (s : Int) := (i_le t5 h7).mp h
      have fs : ∀ S : Nat, (S : Int) = 2 * R → S = s := fun S hS => by omega
      refine ⟨fun w => hQ x6 (fun S hS => ?_), fun w => fn_X10_size h6 (by omega) (fun r hr => hQ r (fun S hS => ?_))⟩
      · have w : 2 ≤ (what : Int) := (i_le (rfl : (2 : Int32).toInt = 2) h4).mp w
        rw [fs S hS]
        unfold trm
        rw [if_neg (by omega)]
        exact h6
      · have w : ¬ 2 ≤ (what : Int) := fun q => w ((i_le (rfl : (2 : Int32).toInt = 2) h4).mpr q)
        rw [fs S hS]
        unfold trm
        rw [if_pos (by omega)]
        exact hr
    · have h : ¬ 2 * R ≤ (s : Int) := fun q => h ((i_le t5 h7).mpr q)
      have hs2 : (s : Int) < 2 * R := by omega
      have t7 : (x7 + 1).toInt = ((s + 1 : Nat) : Int) := inc1 h7 (by omega)
      have ti0 : (x3 + x7).toInt = (x : Int) + (s : Int) := ti_add h3 h7 (by omega) (by omega)
      have ti : (x3 + x7).toInt = ((x + s : Nat) : Int) := by rw [ti0]; omega
      have ei := at_n ti
      have ti1 : ((x3 + x7) + 1).toInt = ((x + (s + 1) : Nat) : Int) := by
        have t9 := inc1 ti (by omega)
        rw [t9]
        omega
      have ei1 := at_n ti1
      have mv := rowt_iv hI hrow (x + s)
      have mv1 := rowt_iv hI hrow (x + (s + 1))
      have bf := tf_in hI c1 c2 (who := whB d c x) hw hs2
      have nx : ∀ y : Int32, y.toInt = tra R D (wB d) (sB d) (lB d) (whB d c x) what s + tf R (wB d) (sB d) (lB d) (whB d c x) what s → b_X10_trims_33 n Q j c x3 x4 x5 y (x7 + 1) d dl := by
        intro y hy
        refine hK (s + 1) y _ t7 (by omega) ?_ (by omega)
        rw [hy]
        show tb R D what + _ + _ = tb R D what + (_ + _)
        omega
      refine ⟨vin ti (by omega) (by omega), ?_⟩
      rw [ei]
      intro v10 e10 v11 e11 v12 e12
      rw [← e10] at mv
      have hwh : v10.toNatClampNeg = whB d c x s := by rw [e10]; rfl
      have hv10 : v10.toNatClampNeg = v10.toInt.toNat := rfl
      have i40 : vp_in v10 40 := vin rfl (by omega) (by omega)
      have t11 : v11.toInt = ((s / 2 : Nat) : Int) := by rw [e11]; exact hlf h7
      have t12 : v12.toInt = R - 1 - ((s / 2 : Nat) : Int) := by rw [e12]; exact ti_sub (ti_sub h5 (rfl : (1 : Int32).toInt = 1) (by omega) (by omega)) t11 (by omega) (by omega)
      have tr : (irem x7 2).toInt = (s : Int) % 2 := ti_rem h7 (rfl : (2 : Int32).toInt = 2) (by omega) (by omega)
      have w0 : x4 = 0 ↔ (what : Int) = 0 := i_eq h4 (rfl : (0 : Int32).toInt = 0)
      have w1 : x4 = 1 ↔ (what : Int) = 1 := i_eq h4 (rfl : (1 : Int32).toInt = 1)
      have w2 : x4 = 2 ↔ (what : Int) = 2 := i_eq h4 (rfl : (2 : Int32).toInt = 2)
      have a1 := iv_212 hI v10.toNatClampNeg
      have a2 := iv_213 hI v10.toNatClampNeg
      have hp := pf_c (R := R) (s := s) c1 c2 hs2
      have hm := mf_c (R := R) (s := s) c1 c2 hs2
      refine ⟨fun n0 => ⟨fun n1 => ⟨fun n2 => ⟨fun o => ?_, fun o => ?_⟩, fun y2 => ⟨i40, fun o => ?_, fun o => ?_⟩⟩, fun y1 => ⟨i40, fun v24 e24 => ?_⟩⟩, fun y0 => ⟨fun o => ⟨i40, ?_⟩, fun o => ⟨i40, ?_⟩⟩⟩
      · have o : ¬ (s : Int) % 2 = 0 := fun q => o ((i_eq tr (rfl : (0 : Int32).toInt = 0)).mpr q)
        refine nx x6 ?_
        have h3' : what = 3 := by
          have m0 : ¬ (what : Int) = 0 := fun q => n0 (w0.mpr q)
          have m1 : ¬ (what : Int) = 1 := fun q => n1 (w1.mpr q)
          have m2 : ¬ (what : Int) = 2 := fun q => n2 (w2.mpr q)
          omega
        rw [h6]
        unfold tf
        rw [if_neg (by omega), if_neg (by omega), if_neg (by omega), if_neg (by omega)]
        omega
      · have o : (s : Int) % 2 = 0 := (i_eq tr (rfl : (0 : Int32).toInt = 0)).mp o
        have h3' : what = 3 := by
          have m0 : ¬ (what : Int) = 0 := fun q => n0 (w0.mpr q)
          have m1 : ¬ (what : Int) = 1 := fun q => n1 (w1.mpr q)
          have m2 : ¬ (what : Int) = 2 := fun q => n2 (w2.mpr q)
          omega
        rw [ei1]
        have hwh1 : (d c (x + (s + 1))).toNatClampNeg = whB d c x (s + 1) := rfl
        obtain ⟨ik, ck⟩ := ix40 (x1 := v10) (x3 := d c (x + (s + 1))) (by omega) (by omega) (by omega) (by omega)
        rw [ck, hwh, hwh1]
        refine ⟨vin ti1 (by omega) (by omega), ik, fun l => nx x6 ?_, fun l => nx _ ?_⟩
        · rw [h6]
          unfold tf
          rw [if_neg (by omega), if_neg (by omega), if_neg (by omega), if_neg (fun w => by
            have := of_decide_eq_true w.2
            exact this l)]
          omega
        · have t1 : (x6 + 1).toInt = tra R D (wB d) (sB d) (lB d) (whB d c x) what s + 1 := ti_add h6 (rfl : (1 : Int32).toInt = 1) (by omega) (by omega)
          rw [t1]
          unfold tf
          rw [if_neg (by omega), if_neg (by omega), if_neg (by omega), if_pos ⟨by omega, decide_eq_true l⟩]
      · have hw2 : what = 2 := by have := w2.mp y2; omega
        have o : R - 1 - ((s / 2 : Nat) : Int) ≤ ((s / 2 : Nat) : Int) := (i_le t12 t11).mp o
        intro v22 e22
        refine nx v22 ?_
        have tm : ((d 213 v10.toNatClampNeg) * v12).toInt = (d 213 v10.toNatClampNeg).toInt * (R - 1 - ((s / 2 : Nat) : Int)) := by
          refine ti_mul rfl t12 ?_ ?_
          · have e : R - 1 - ((s / 2 : Nat) : Int) = 0 ∨ R - 1 - ((s / 2 : Nat) : Int) = 1 := by omega
            rcases e with e | e <;> rw [e] <;> omega
          · have e : R - 1 - ((s / 2 : Nat) : Int) = 0 ∨ R - 1 - ((s / 2 : Nat) : Int) = 1 := by omega
            rcases e with e | e <;> rw [e] <;> omega
        have fe : tf R (wB d) (sB d) (lB d) (whB d c x) what s = (d 213 v10.toNatClampNeg).toInt * (R - 1 - ((s / 2 : Nat) : Int)) := by
          unfold tf
          rw [if_neg (by omega), if_neg (by omega), if_pos hw2, ← hwh]
          unfold mfR
          by_cases q : R - 1 - ((s / 2 : Nat) : Int) < ((s / 2 : Nat) : Int)
          · rw [if_pos q]; rfl
          · rw [if_neg q, show R - 1 - ((s / 2 : Nat) : Int) = ((s / 2 : Nat) : Int) by omega]; rfl
        rw [fe] at bf ⊢
        rw [e22]
        exact ti_add h6 tm (by omega) (by omega)
      · have hw2 : what = 2 := by have := w2.mp y2; omega
        have o : ¬ R - 1 - ((s / 2 : Nat) : Int) ≤ ((s / 2 : Nat) : Int) := fun q => o ((i_le t12 t11).mpr q)
        intro v22 e22
        refine nx v22 ?_
        have tm : ((d 213 v10.toNatClampNeg) * v11).toInt = (d 213 v10.toNatClampNeg).toInt * ((s / 2 : Nat) : Int) := by
          refine ti_mul rfl t11 ?_ ?_
          · have e : ((s / 2 : Nat) : Int) = 0 ∨ ((s / 2 : Nat) : Int) = 1 := by omega
            rcases e with e | e <;> rw [e] <;> omega
          · have e : ((s / 2 : Nat) : Int) = 0 ∨ ((s / 2 : Nat) : Int) = 1 := by omega
            rcases e with e | e <;> rw [e] <;> omega
        have fe : tf R (wB d) (sB d) (lB d) (whB d c x) what s = (d 213 v10.toNatClampNeg).toInt * ((s / 2 : Nat) : Int) := by
          unfold tf
          rw [if_neg (by omega), if_neg (by omega), if_pos hw2, ← hwh]
          unfold mfR
          rw [if_neg (by omega)]
          rfl
        rw [fe] at bf ⊢
        rw [e22]
        exact ti_add h6 tm (by omega) (by omega)
      · have hw1 : what = 1 := by have := w1.mp y1; omega
        refine nx v24 ?_
        have tp : (((2 : Int32) * v11) - (x5 - 1)).toInt = pfR R s := ti_sub (ti_mul (rfl : (2 : Int32).toInt = 2) t11 (by omega) (by omega)) (ti_sub h5 (rfl : (1 : Int32).toInt = 1) (by omega) (by omega)) (by omega) (by omega)
        have fe : tf R (wB d) (sB d) (lB d) (whB d c x) what s = (d 212 v10.toNatClampNeg).toInt * pfR R s := by
          unfold tf
          rw [if_neg (by omega), if_pos hw1, ← hwh]
          rfl
        rw [fe] at bf ⊢
        rw [e24]
        exact ti_add h6 (ti_mul rfl tp (by omega) (by omega)) (by omega) (by omega)
      · have hw0 : what = 0 := by have := w0.mp y0; omega
        have o : ¬ (s : Int) % 2 = 0 := fun q => o ((i_eq tr (rfl : (0 : Int32).toInt = 0)).mpr q)
        intro v27 e27
        refine nx v27 ?_
        have t1 : (x6 + -(d 212 v10.toNatClampNeg)).toInt = tra R D (wB d) (sB d) (lB d) (whB d c x) what s + -(d 212 v10.toNatClampNeg).toInt := ti_add h6 (ti_neg rfl (by omega) (by omega)) (by omega) (by omega)
        rw [e27, t1]
        unfold tf
        rw [if_pos hw0, if_neg (by omega), ← hwh]
        rfl
      · have hw0 : what = 0 := by have := w0.mp y0; omega
        have o : (s : Int) % 2 = 0 := (i_eq tr (rfl : (0 : Int32).toInt = 0)).mp o
        intro v27 e27
        refine nx v27 ?_
        have t1 : (x6 + (d 212 v10.toNatClampNeg)).toInt = tra R D (wB d) (sB d) (lB d) (whB d c x) what s + (d 212 v10.toNatClampNeg).toInt := ti_add h6 rfl (by omega) (by omega)
        rw [e27, t1]
        unfold tf
        rw [if_pos hw0, if_pos (by omega), ← hwh]
        rfl
