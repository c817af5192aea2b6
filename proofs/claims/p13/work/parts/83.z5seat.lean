theorem fb_X6_copyBestTo_2 {n : Nat} {Q : DD → LL → Prop} {dl : LL} {k S : Nat} (hk : k < 6) (hS : S ≤ 8) : ∀ (j i : Nat) (x2 : Int32) (d : DD), Inv d → (d 10 2).toInt = (S : Int) → x2.toInt = (i : Int) → i ≤ S → (∀ a, a < i → d (39 + 3 * k) a = d (38 + 3 * k) (d 18 a).toNatClampNeg) → 9 ≤ i + j → (∀ dz : DD, Inv dz → (∀ a, a ≠ 39 + 3 * k → dz a = d a) → (∀ a, a < S → dz (39 + 3 * k) a = d (38 + 3 * k) (d 18 a).toNatClampNeg) → Q dz dl) → b_X6_copyBestTo_2 n Q j k x2 d dl := by
  intro j
  induction j with
  | zero =>
    intro i x2 d hI h10 h2 hi hc hj hQ
    exfalso
    omega
  | succ j ih =>
    intro i x2 d hI h10 h2 hi hc hj hQ
    show _ ∧ _
    have e2 := at_n h2
    refine ⟨fun h => ?_, fun h => ?_⟩
    · have h : (S : Int) ≤ (i : Int) := (i_le h10 h2).mp h
      exact hQ d hI (fun _ _ => rfl) (fun a ha => hc a (by omega))
    · have h : ¬ (S : Int) ≤ (i : Int) := fun q => h ((i_le h10 h2).mpr q)
      have i8 : vp_in x2 8 := vin h2 (by omega) (by omega)
      have m18 := iv_18 hI i
      rw [e2]
      refine ⟨i8, vin rfl (by omega) (by omega), i8, fun d5 e5 => ?_⟩
      have m := iv_38 hI hk (d 18 i).toNatClampNeg
      have s5 : StP pN d dl d5 dl := by rw [e5]; exact pw_39 (StP.rf hI) hk m.1 m.2 rfl
      have r5 : ∀ a, a ≠ 39 + 3 * k → d5 a = d a := fun a ha => by rw [e5, u2_row ha]
      refine ih (i + 1) _ d5 s5.1 (by rw [r5 10 (by omega)]; exact h10) (inc1 h2 (by omega)) (by omega) (fun a ha => ?_) (by omega) (fun dz iz f1 f2 => hQ dz iz (fun a ha => (f1 a ha).trans (r5 a ha)) (fun a ha => by rw [f2 a ha, r5 (38 + 3 * k) (by omega), r5 18 (by omega)]))
      rw [r5 (38 + 3 * k) (by omega), r5 18 (by omega)]
      by_cases he : a = i
      · rw [he, e5, u2_eq]
      · rw [e5, u2_ne (Or.inr he)]
        exact hc a (by omega)
def SeatQ9 (d : DD) (dl : LL) (dz : DD) (x1 r : Int32) : Prop :=
  (¬ (0 ≤ x1.toInt ∧ x1.toInt < (d 0 2).toInt) ∧ r = -100000 ∧ dz = d) ∨ (∃ k S nn : Nat, x1.toInt = (k : Int) ∧ (k : Int) < (d 0 2).toInt ∧ (S : Int) = 2 * (d (37 + 3 * k) 0).toInt ∧ (d (37 + 3 * k) 3).toInt = (nn : Int) ∧ (∀ i, (i < 10 ∨ 23 < i) → i ≠ 37 + 3 * k → i ≠ 39 + 3 * k → dz i = d i) ∧ (∀ j, j ≠ 6 → dz (37 + 3 * k) j = d (37 + 3 * k) j) ∧ (((FSof (PA9 d dl k) S nn).1 = false ∧ r = -100001 ∧ dz (37 + 3 * k) 6 = 0 ∧ dz (39 + 3 * k) = d (39 + 3 * k)) ∨ ((FSof (PA9 d dl k) S nn).1 = true ∧ r.toInt = (FSof (PA9 d dl k) S nn).2.1 ∧ dz (37 + 3 * k) 6 = 1 ∧ ∀ i, i < S → (FSof (PA9 d dl k) S nn).2.2 i < 8 ∧ dz (39 + 3 * k) i = d (38 + 3 * k) ((FSof (PA9 d dl k) S nn).2.2 i))))
theorem sp_X9_seatF {n : Nat} (hn : 1000000000 ≤ n) {x1 : Int32} {d : DD} {dl : LL} (hI : Inv d) {Q : Int32 → DD → LL → Prop} (hQ : ∀ (r : Int32) (dz : DD), Inv dz → SeatQ9 d dl dz x1 r → Q r dz dl) : F_X9_seat n x1 d dl Q := by
  have mk := iv_0_2 hI
  refine sp_X9_isCrew hn hI (fun r1 d2 l3 ⟨p1, q1⟩ => ?_)
  obtain ⟨h3, rfl, rfl⟩ := p1
  refine ⟨fun w => ?_, fun w => ?_⟩
  · have w : ¬ r1.toInt = 0 := fun q => w ((i_eq rfl (rfl : (0 : Int32).toInt = 0)).mpr q)
    have i6 : vp_in x1 6 := vin rfl (by omega) (by omega)
    have hk := clamp_in i6
    have ek : x1.toNatClampNeg = x1.toInt.toNat := rfl
    refine ⟨i6, fun k6 e6 => ?_⟩
    subst e6
    generalize hkk : x1.toNatClampNeg = k at *
    have mR := iv_37_0 hI hk
    have mC := iv_37_3 hI hk
    obtain ⟨S, hS⟩ : ∃ S : Nat, (S : Int) = 2 * (d2 (37 + 3 * k) 0).toInt := ⟨(2 * (d2 (37 + 3 * k) 0).toInt).toNat, by omega⟩
    obtain ⟨nn, hnn⟩ : ∃ nn : Nat, (d2 (37 + 3 * k) 3).toInt = (nn : Int) := ⟨(d2 (37 + 3 * k) 3).toInt.toNat, by omega⟩
    refine fn_X6_find hn hk hI hS hnn (fun r dz iz fz z2 hr => ?_)
    rcases hr with ⟨er, hT⟩ | ⟨er, hT, h0, h18⟩
    · refine ⟨Or.inl er, fun d10 e10 => ?_⟩
      rw [er] at e10
      have s10 : StP pN dz l3 d10 l3 := by rw [e10]; exact pw_37_6 (StP.rf iz) hk (by decide) (by decide) rfl
      have z6 : d10 (37 + 3 * k) 6 = 0 := by rw [e10, u2_eq]
      refine ⟨fun q => absurd z6 q, fun _ => hQ _ d10 s10.1 (Or.inr ⟨k, S, nn, by omega, by omega, hS, hnn, fun i a b c => ?_, fun j hj => ?_, Or.inl ⟨hT, rfl, z6, ?_⟩⟩)⟩
      · rw [e10, u2_row b]; exact fz i a
      · rw [e10, u2_ne (Or.inr hj), fz _ (by omega)]
      · rw [e10, u2_row (by omega)]; exact fz _ (by omega)
    · refine ⟨Or.inr er, fun d10 e10 => ?_⟩
      rw [er] at e10
      have s10 : StP pN dz l3 d10 l3 := by rw [e10]; exact pw_37_6 (StP.rf iz) hk (by decide) (by decide) rfl
      have z6 : d10 (37 + 3 * k) 6 = 1 := by rw [e10, u2_eq]
      have r10 : ∀ i, i ≠ 37 + 3 * k → d10 i = dz i := fun i hi => by rw [e10, u2_row hi]
      refine ⟨fun _ => ?_, fun q => absurd (z6.symm.trans q) (by decide)⟩
      refine fb_X6_copyBestTo_2 (S := S) hk (by omega) n 0 0 d10 s10.1 (by rw [r10 10 (by omega)]; exact z2) rfl (Nat.zero_le _) (fun a ha => absurd ha (Nat.not_lt_zero _)) (by omega) (fun dw iw f1 f2 => hQ _ dw iw (Or.inr ⟨k, S, nn, by omega, by omega, hS, hnn, fun i a b c => ?_, fun j hj => ?_, Or.inr ⟨hT, ?_, ?_, fun i hi => ?_⟩⟩))
      · rw [f1 i c, r10 i b]; exact fz i a
      · rw [f1 _ (by omega), e10, u2_ne (Or.inr hj), fz _ (by omega)]
      · rw [f1 10 (by omega), r10 10 (by omega)]; exact h0
      · rw [f1 _ (by omega)]; exact z6
      · have m18 := iv_18 iz i
        have e18 := h18 i hi
        refine ⟨by omega, ?_⟩
        rw [f2 i hi, r10 18 (by omega), at_n e18, r10 _ (by omega), fz _ (by omega)]
  · have w : r1.toInt = 0 := (i_eq rfl (rfl : (0 : Int32).toInt = 0)).mp w
    exact hQ _ _ hI (Or.inl ⟨by omega, rfl, rfl⟩)
def Rok (d : DD) : Prop := ∀ k : Nat, (k : Int) < (d 211 1).toInt → 2 ≤ (d 218 k).toInt
def Sym (d : DD) : Prop := ∀ a b, a < 40 → b < 40 → lB d a b = lB d b a
def SeatQ10 (d dz : DD) (x1 r : Int32) : Prop :=
  (¬ (0 ≤ x1.toInt ∧ x1.toInt < (d 211 1).toInt) ∧ r = -100000 ∧ dz = d) ∨ (∃ k S nn : Nat, x1.toInt = (k : Int) ∧ (k : Int) < (d 211 1).toInt ∧ (S : Int) = 2 * (d 218 k).toInt ∧ (d 220 k).toInt = (nn : Int) ∧ FrT d dz ∧ SeatP10 d dz k S nn r)
theorem fn_X10_seatQ {n : Nat} (hn : 1000000000 ≤ n) {x1 : Int32} {d : DD} {dl : LL} (hI : Inv d) (hR : Rok d) (hsym : Sym d) {Q : Int32 → DD → LL → Prop} (hQ : ∀ (r : Int32) (dz : DD), Inv dz → SeatQ10 d dz x1 r → Q r dz dl) : F_X10_seat n x1 d dl Q := by
  have mk := iv_211_1 hI
  by_cases h : 0 ≤ x1.toInt ∧ x1.toInt < (d 211 1).toInt
  · have ek : x1.toNatClampNeg = x1.toInt.toNat := rfl
    obtain ⟨k, hk⟩ : ∃ k : Nat, x1.toInt = (k : Int) := ⟨x1.toInt.toNat, by omega⟩
    have mR := iv_218 hI k
    have mC := iv_220 hI k
    obtain ⟨S, hS⟩ : ∃ S : Nat, (S : Int) = 2 * (d 218 k).toInt := ⟨(2 * (d 218 k).toInt).toNat, by omega⟩
    obtain ⟨nn, hnn⟩ : ∃ nn : Nat, (d 220 k).toInt = (nn : Int) := ⟨(d 220 k).toInt.toNat, by omega⟩
    exact fn_X10_seat hn hI (by omega) hk hnn (hR k (by omega)) hS hsym (fun r dz fz pz => hQ r dz fz.1 (Or.inr ⟨k, S, nn, hk, by omega, hS, hnn, fz, pz⟩))
  · refine sp_X10_isCrew hn hI (fun r1 d2 l3 ⟨p1, q1⟩ => ?_)
    obtain ⟨h3, rfl, rfl⟩ := p1
    refine ⟨fun w => ?_, fun w => hQ _ _ hI (Or.inl ⟨h, rfl, rfl⟩)⟩
    have w : ¬ r1.toInt = 0 := fun q => w ((i_eq rfl (rfl : (0 : Int32).toInt = 0)).mpr q)
    omega
theorem PX_k {R D R2 D2 : Int} {mem mem2 : Nat → Nat} {w st ar w2 st2 ar2 : Nat → Int} {fr fr2 : Nat → Nat → Bool} (h1 : R = R2) (h2 : D = D2) (h3 : ∀ j, mem j = mem2 j) (h4 : w = w2) (h5 : st = st2) (h6 : ar = ar2) (h7 : ∀ i j, fr (mem i) (mem j) = fr2 (mem i) (mem j)) : PX R D mem w st ar fr = PX R2 D2 mem2 w2 st2 ar2 fr2 := by
  have hm : mem = mem2 := funext h3
  subst h1; subst h2; subst hm; subst h4; subst h5; subst h6
  funext i j
  unfold PX
  rw [h7]
