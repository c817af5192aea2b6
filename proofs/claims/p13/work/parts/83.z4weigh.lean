def wA (d : DD) : Nat → Int := fun p => (d 2 p).toInt
def sA (d : DD) : Nat → Int := fun p => (d 3 p).toInt
def lA (dl : LL) : Nat → Nat → Bool := fun a b => bt (dl 7 a) b
def whA (d : DD) (k : Nat) : Nat → Nat := fun s => (d (39 + 3 * k) s).toNatClampNeg
theorem pf_2 {R : Int} {r : Nat} : pfR R (2 * r) = 2 * (r : Int) - (R - 1) ∧ pfR R (2 * r + 1) = 2 * (r : Int) - (R - 1) := by
  unfold pfR
  rw [show 2 * r / 2 = r by omega, show (2 * r + 1) / 2 = r by omega]
  exact ⟨rfl, rfl⟩
theorem mf_2 {R : Int} {r : Nat} : mfR R (2 * r) = (if R - 1 - (r : Int) < (r : Int) then R - 1 - (r : Int) else (r : Int)) ∧ mfR R (2 * r + 1) = (if R - 1 - (r : Int) < (r : Int) then R - 1 - (r : Int) else (r : Int)) := by
  unfold mfR
  rw [show 2 * r / 2 = r by omega, show (2 * r + 1) / 2 = r by omega]
  exact ⟨rfl, rfl⟩
theorem tra_2 {R D : Int} {w st : Nat → Int} {lk : Nat → Nat → Bool} {who : Nat → Nat} {what r : Nat} : tra R D w st lk who what (2 * (r + 1)) = tra R D w st lk who what (2 * r) + tf R w st lk who what (2 * r) + tf R w st lk who what (2 * r + 1) := by
  rw [show 2 * (r + 1) = 2 * r + 1 + 1 by omega]
  show tb R D what + (sm _ (2 * r) + _ + _) = tb R D what + sm _ (2 * r) + _ + _
  omega
theorem traA_in {d : DD} (hI : Inv d) {dl : LL} {R D : Int} (c1 : 2 ≤ R) (c2 : R ≤ 4) (cD : 0 ≤ D ∧ D ≤ 150) {who : Nat → Nat} {what s : Nat} (hw : what ≤ 3) (hs : (s : Int) ≤ 2 * R) : -5000 ≤ tra R D (wA d) (sA d) (lA dl) who what s ∧ tra R D (wA d) (sA d) (lA dl) who what s ≤ 5000 := by
  have one : ∀ i : Nat, (i : Int) < 2 * R → -450 ≤ tf R (wA d) (sA d) (lA dl) who what i ∧ tf R (wA d) (sA d) (lA dl) who what i ≤ 450 := by
    intro i hi
    have a : 0 ≤ wA d (who i) ∧ wA d (who i) ≤ 150 := iv_2 hI (who i)
    have b : 0 ≤ sA d (who i) ∧ sA d (who i) ≤ 99 := iv_3 hI (who i)
    have hp := pf_c (R := R) (s := i) c1 c2 hi
    have hm := mf_c (R := R) (s := i) c1 c2 hi
    unfold tf
    generalize wA d (who i) = u at *
    generalize sA d (who i) = v at *
    split
    · split <;> omega
    · split
      · rcases hp with e | e | e | e | e | e | e <;> rw [e] <;> omega
      · split
        · rcases hm with e | e <;> rw [e] <;> omega
        · split <;> omega
  have := sm_in (f := tf R (wA d) (sA d) (lA dl) who what) (a := -450) (b := 450) (by omega) (by omega) s (by omega) (fun i hi => one i (by omega))
  have h2 : -600 ≤ tb R D what ∧ tb R D what ≤ 0 := by
    unfold tb
    split
    · have hc : R = 2 ∨ R = 3 ∨ R = 4 := by omega
      rcases hc with e | e | e <;> rw [e] <;> omega
    · omega
  unfold tra
  omega
def Wg (d0 : DD) (dl : LL) (k : Nat) (R D : Int) (who : Nat → Nat) (S : Nat) (dz : DD) : Prop := (dz 9 0).toInt = trm R D (wA d0) (sA d0) (lA dl) who 0 S ∧ (dz 9 1).toInt = trm R D (wA d0) (sA d0) (lA dl) who 1 S ∧ (dz 9 2).toInt = trm R D (wA d0) (sA d0) (lA dl) who 2 S ∧ (dz 9 3).toInt = trm R D (wA d0) (sA d0) (lA dl) who 3 S
theorem fb_X8_weigh_21 {n : Nat} {Q : DD → LL → Prop} {k : Nat} (hk : k < 6) {d0 : DD} {dl : LL} (hI0 : Inv d0) {R D : Int} (hR : (d0 (37 + 3 * k) 0).toInt = R) (c1 : 2 ≤ R) (c2 : R ≤ 4) (cD : 0 ≤ D ∧ D ≤ 150) (hQ : ∀ dz : DD, Inv dz → (∀ i, i ≠ 9 → dz i = d0 i) → (∀ S : Nat, (S : Int) = 2 * R → Wg d0 dl k R D (whA d0 k) S dz) → Q dz dl) : ∀ (j r : Nat) (x3 x4 x5 : Int32) (d : DD), Inv d → (∀ i, i ≠ 9 → d i = d0 i) → x5.toInt = (r : Int) → (r : Int) ≤ R → x3.toInt = tra R D (wA d0) (sA d0) (lA dl) (whA d0 k) 0 (2 * r) → x4.toInt = tra R D (wA d0) (sA d0) (lA dl) (whA d0 k) 1 (2 * r) → (d 9 2).toInt = tra R D (wA d0) (sA d0) (lA dl) (whA d0 k) 2 (2 * r) → (d 9 3).toInt = tra R D (wA d0) (sA d0) (lA dl) (whA d0 k) 3 (2 * r) → 5 ≤ r + j → b_X8_weigh_21 n Q j k x3 x4 x5 d dl := by
  intro j
  induction j with
  | zero =>
    intro r x3 x4 x5 d hI hF h5 hr h3 h4 g2 g3 hj
    exfalso
    omega
  | succ j hK =>
    intro r x3 x4 x5 d hI hF h5 hr h3 h4 g2 g3 hj
    show _ ∧ _
    have b3 := traA_in hI0 (dl := dl) c1 c2 cD (who := whA d0 k) (what := 0) (s := 2 * r) (by omega) (by omega)
    have b4 := traA_in hI0 (dl := dl) c1 c2 cD (who := whA d0 k) (what := 1) (s := 2 * r) (by omega) (by omega)
    have bm := traA_in hI0 (dl := dl) c1 c2 cD (who := whA d0 k) (what := 2) (s := 2 * r) (by omega) (by omega)
    have bf := traA_in hI0 (dl := dl) c1 c2 cD (who := whA d0 k) (what := 3) (s := 2 * r) (by omega) (by omega)
    have hR' : (d (37 + 3 * k) 0).toInt = R := by rw [hF _ (by omega)]; exact hR
    refine ⟨fun h d7 e7 d8 e8 => ?_, fun h => ?_⟩
    · have h : R ≤ (r : Int) := (i_le hR' h5).mp h
      have a3 : ((if 0 ≤ x3 then x3 else -x3) : Int32).toInt = ab (tra R D (wA d0) (sA d0) (lA dl) (whA d0 k) 0 (2 * r)) := ti_abs h3 (by omega)
      have a4 : ((if 0 ≤ x4 then x4 else -x4) : Int32).toInt = ab (tra R D (wA d0) (sA d0) (lA dl) (whA d0 k) 1 (2 * r)) := ti_abs h4 (by omega)
      have s7 : StP pN d dl d7 dl := by rw [e7]; exact pw_9_0 (StP.rf hI) rfl
      have s8 : StP pN d dl d8 dl := by rw [e8]; exact pw_9_1 s7 rfl
      refine hQ d8 s8.1 (fun i hi => by rw [e8, u2_row hi, e7, u2_row hi]; exact hF i hi) (fun S hS => ?_)
      have hSr : S = 2 * r := by omega
      subst hSr
      refine ⟨?_, ?_, ?_, ?_⟩
      · rw [e8, u2_ne (Or.inr (by omega)), e7, u2_eq, a3]; rfl
      · rw [e8, u2_eq, a4]; rfl
      · rw [e8, u2_ne (Or.inr (by omega)), e7, u2_ne (Or.inr (by omega)), g2]; rfl
      · rw [e8, u2_ne (Or.inr (by omega)), e7, u2_ne (Or.inr (by omega)), g3]; rfl
    · have h : ¬ R ≤ (r : Int) := fun q => h ((i_le hR' h5).mpr q)
      have t2 : ((2 : Int32) * x5).toInt = ((2 * r : Nat) : Int) := by
        have t : ((2 : Int32) * x5).toInt = 2 * (r : Int) := ti_mul (rfl : (2 : Int32).toInt = 2) h5 (by omega) (by omega)
        rw [t]; omega
      have t21 : (((2 : Int32) * x5) + 1).toInt = ((2 * r + 1 : Nat) : Int) := inc1 t2 (by omega)
      have e2 := at_n t2
      have e21 := at_n t21
      have hd39 : d (39 + 3 * k) = d0 (39 + 3 * k) := hF _ (by omega)
      have m10 := iv_39 hI hk (2 * r)
      have m12 := iv_39 hI hk (2 * r + 1)
      refine ⟨vin t2 (by omega) (by omega), ?_⟩
      rw [e2]
      intro v10 e10
      refine ⟨vin t21 (by omega) (by omega), ?_⟩
      rw [e21]
      intro v12 e12
      rw [← e10] at m10
      rw [← e12] at m12
      have w10 : v10.toNatClampNeg = whA d0 k (2 * r) := by rw [e10, hd39]; rfl
      have w12 : v12.toNatClampNeg = whA d0 k (2 * r + 1) := by rw [e12, hd39]; rfl
      have i10 : vp_in v10 40 := vin rfl (by omega) (by omega)
      have i12 : vp_in v12 40 := vin rfl (by omega) (by omega)
      have rd2 : d 2 = d0 2 := hF 2 (by omega)
      have rd3 : d 3 = d0 3 := hF 3 (by omega)
      have a10 := iv_2 hI v10.toNatClampNeg
      have a12 := iv_2 hI v12.toNatClampNeg
      have s10 := iv_3 hI v10.toNatClampNeg
      have s12 := iv_3 hI v12.toNatClampNeg
      have tw10 : (d 2 v10.toNatClampNeg).toInt = wA d0 (whA d0 k (2 * r)) := by rw [rd2, w10]; rfl
      have tw12 : (d 2 v12.toNatClampNeg).toInt = wA d0 (whA d0 k (2 * r + 1)) := by rw [rd2, w12]; rfl
      have ts10 : (d 3 v10.toNatClampNeg).toInt = sA d0 (whA d0 k (2 * r)) := by rw [rd3, w10]; rfl
      have ts12 : (d 3 v12.toNatClampNeg).toInt = sA d0 (whA d0 k (2 * r + 1)) := by rw [rd3, w12]; rfl
      rw [tw10] at a10
      rw [tw12] at a12
      rw [ts10] at s10
      rw [ts12] at s12
      refine ⟨i10, i12, fun v15 e15 => ⟨i10, i12, ?_⟩⟩
      have t15 : v15.toInt = tra R D (wA d0) (sA d0) (lA dl) (whA d0 k) 0 (2 * (r + 1)) := by
        have t : (x3 + ((d 2 v10.toNatClampNeg) - (d 2 v12.toNatClampNeg))).toInt = tra R D (wA d0) (sA d0) (lA dl) (whA d0 k) 0 (2 * r) + (wA d0 (whA d0 k (2 * r)) - wA d0 (whA d0 k (2 * r + 1))) := ti_add h3 (ti_sub tw10 tw12 (by omega) (by omega)) (by omega) (by omega)
        rw [e15, t, tra_2]
        show _ = _ + (if 2 * r % 2 = 0 then wA d0 (whA d0 k (2 * r)) else -wA d0 (whA d0 k (2 * r))) + (if (2 * r + 1) % 2 = 0 then wA d0 (whA d0 k (2 * r + 1)) else -wA d0 (whA d0 k (2 * r + 1)))
        rw [if_pos (by omega), if_neg (by omega)]
        omega
      unfold F_X1_pitchFactor
      have tp : (((2 : Int32) * x5) - ((d (37 + 3 * k) 0) - 1)).toInt = pfR R (2 * r) := by
        have t : (((2 : Int32) * x5) - ((d (37 + 3 * k) 0) - 1)).toInt = ((2 * r : Nat) : Int) - (R - 1) := ti_sub t2 (ti_sub hR' (rfl : (1 : Int32).toInt = 1) (by omega) (by omega)) (by omega) (by omega)
        rw [t, pf_2.1]
        omega
      have hpc := pf_c (R := R) (s := 2 * r) c1 c2 (by omega)
      have hmc := mf_c (R := R) (s := 2 * r) c1 c2 (by omega)
      have pfe : pfR R (2 * r + 1) = pfR R (2 * r) := by rw [pf_2.1, pf_2.2]
      have mfe : mfR R (2 * r + 1) = mfR R (2 * r) := by rw [mf_2.1, mf_2.2]
      intro v21 e21'
      have pb : -900 ≤ (wA d0 (whA d0 k (2 * r)) + wA d0 (whA d0 k (2 * r + 1))) * pfR R (2 * r) ∧ (wA d0 (whA d0 k (2 * r)) + wA d0 (whA d0 k (2 * r + 1))) * pfR R (2 * r) ≤ 900 := by
        rcases hpc with e | e | e | e | e | e | e <;> rw [e] <;> omega
      have mb : 0 ≤ (sA d0 (whA d0 k (2 * r)) + sA d0 (whA d0 k (2 * r + 1))) * mfR R (2 * r) ∧ (sA d0 (whA d0 k (2 * r)) + sA d0 (whA d0 k (2 * r + 1))) * mfR R (2 * r) ≤ 900 := by
        rcases hmc with e | e <;> rw [e] <;> omega
      have t21' : v21.toInt = tra R D (wA d0) (sA d0) (lA dl) (whA d0 k) 1 (2 * (r + 1)) := by
        have t : (x4 + (((d 2 v10.toNatClampNeg) + (d 2 v12.toNatClampNeg)) * (((2 : Int32) * x5) - ((d (37 + 3 * k) 0) - 1)))).toInt = tra R D (wA d0) (sA d0) (lA dl) (whA d0 k) 1 (2 * r) + (wA d0 (whA d0 k (2 * r)) + wA d0 (whA d0 k (2 * r + 1))) * pfR R (2 * r) := ti_add h4 (ti_mul (ti_add tw10 tw12 (by omega) (by omega)) tp (by omega) (by omega)) (by omega) (by omega)
        rw [e21', t, tra_2]
        show _ = _ + wA d0 (whA d0 k (2 * r)) * pfR R (2 * r) + wA d0 (whA d0 k (2 * r + 1)) * pfR R (2 * r + 1)
        rw [pfe, Int.add_mul]
        omega
      refine ⟨i10, i12, ?_⟩
      unfold F_X1_middleFactor
      have tb' : (((d (37 + 3 * k) 0) - 1) - x5).toInt = R - 1 - (r : Int) := ti_sub (ti_sub hR' (rfl : (1 : Int32).toInt = 1) (by omega) (by omega)) h5 (by omega) (by omega)
      have tmf : ((if (((d (37 + 3 * k) 0) - 1) - x5) < x5 then (((d (37 + 3 * k) 0) - 1) - x5) else x5) : Int32).toInt = mfR R (2 * r) := by
        rw [mf_2.1]
        by_cases w : (((d (37 + 3 * k) 0) - 1) - x5) < x5
        · rw [if_pos w, if_pos ((i_lt tb' h5).mp w), tb']
        · rw [if_neg w, if_neg (fun q => w ((i_lt tb' h5).mpr q)), h5]
      generalize ((if (((d (37 + 3 * k) 0) - 1) - x5) < x5 then (((d (37 + 3 * k) 0) - 1) - x5) else x5) : Int32) = r24 at tmf ⊢
      intro d27 e27
      have s27 : StP pN d dl d27 dl := by rw [e27]; exact pw_9_2 (StP.rf hI) rfl
      have k27 : (d27 9 2).toInt = tra R D (wA d0) (sA d0) (lA dl) (whA d0 k) 2 (2 * (r + 1)) := by
        have t : ((d 9 2) + (((d 3 v10.toNatClampNeg) + (d 3 v12.toNatClampNeg)) * r24)).toInt = tra R D (wA d0) (sA d0) (lA dl) (whA d0 k) 2 (2 * r) + (sA d0 (whA d0 k (2 * r)) + sA d0 (whA d0 k (2 * r + 1))) * mfR R (2 * r) := ti_add g2 (ti_mul (ti_add ts10 ts12 (by omega) (by omega)) tmf (by omega) (by omega)) (by omega) (by omega)
        rw [e27, u2_eq, t, tra_2]
        show _ = _ + sA d0 (whA d0 k (2 * r)) * mfR R (2 * r) + sA d0 (whA d0 k (2 * r + 1)) * mfR R (2 * r + 1)
        rw [mfe, Int.add_mul]
        omega
      have f27 : (d27 9 3).toInt = tra R D (wA d0) (sA d0) (lA dl) (whA d0 k) 3 (2 * r) := by rw [e27, u2_ne (Or.inr (by omega))]; exact g3
      have o3 : tf R (wA d0) (sA d0) (lA dl) (whA d0 k) 3 (2 * r + 1) = 0 := by
        show (if (2 * r + 1) % 2 = 0 ∧ lA dl (whA d0 k (2 * r + 1)) (whA d0 k (2 * r + 1 + 1)) = true then (1 : Int) else 0) = 0
        rw [if_neg (fun q => by have := q.1; omega)]
      have go : ∀ y : Int32, y.toInt = tf R (wA d0) (sA d0) (lA dl) (whA d0 k) 3 (2 * r) → (y = 0 ∨ y = 1) → b_X8_weigh_151 n Q (b_X8_weigh_21 n Q j) k v15 v21 x5 y (d27 9 3) d27 dl := by
        intro y hy hy01
        intro d32 e32
        have yb : 0 ≤ y.toInt ∧ y.toInt ≤ 1 := by
          rcases hy01 with e | e <;> rw [e] <;> decide
        have s32 : StP pN d dl d32 dl := by rw [e32]; exact pw_9_3 s27 rfl
        refine hK (r + 1) v15 v21 _ d32 s32.1 (fun i hi => by rw [e32, u2_row hi, e27, u2_row hi]; exact hF i hi) (inc1 h5 (by omega)) (by omega) t15 t21' (by rw [e32, u2_ne (Or.inr (by omega))]; exact k27) ?_ (by omega)
        have t : ((d27 9 3) + y).toInt = tra R D (wA d0) (sA d0) (lA dl) (whA d0 k) 3 (2 * r) + tf R (wA d0) (sA d0) (lA dl) (whA d0 k) 3 (2 * r) := ti_add f27 hy (by omega) (by omega)
        rw [e32, u2_eq, t, tra_2, o3]
        omega
      have fe : tf R (wA d0) (sA d0) (lA dl) (whA d0 k) 3 (2 * r) = if bt (dl 7 (whA d0 k (2 * r))) (whA d0 k (2 * r + 1)) = true then 1 else 0 := by
        show (if 2 * r % 2 = 0 ∧ bt (dl 7 (whA d0 k (2 * r))) (whA d0 k (2 * r + 1)) = true then (1 : Int) else 0) = _
        by_cases w : bt (dl 7 (whA d0 k (2 * r))) (whA d0 k (2 * r + 1)) = true
        · rw [if_pos w, if_pos ⟨by omega, w⟩]
        · rw [if_neg w, if_neg (fun q => w q.2)]
      refine fn_X4_areFriends ⟨by omega, by omega⟩ ⟨by omega, by omega⟩ ?_
      rw [w10, w12]
      by_cases w : bt (dl 7 (whA d0 k (2 * r))) (whA d0 k (2 * r + 1)) = true
      · rw [if_pos w]
        exact ⟨fun q => absurd q (by decide), fun _ => go 1 (by rw [fe, if_pos w]; rfl) (Or.inr rfl)⟩
      · rw [if_neg w]
        exact ⟨fun _ => go 0 (by rw [fe, if_neg w]; rfl) (Or.inl rfl), fun q => absurd rfl q⟩
