def hc3 (d : DD) (q l k : Nat) : Prop := ¬ d 239 l = -1 ∧ ¬ d 234 (4 * q + k) = -1 ∧ HC d (d 239 l) (d 234 (4 * q + k))
def B10 (d : DD) (m : Int32) (q : Nat) : Prop := gp (d 232 q).toInt m.toInt < (d 211 5).toInt ∧ ∃ l, l < 4 ∧ ∃ k, k < 4 ∧ hc3 d q l k
theorem ix4 {x1 x3 : Int32} (a1 : 0 ≤ x1.toInt) (a2 : x1.toInt ≤ 23) (b1 : 0 ≤ x3.toInt) (b2 : x3.toInt < 4) : vp_in (((4 : Int32) * x1) + x3) 96 ∧ (((4 : Int32) * x1) + x3).toNatClampNeg = 4 * x1.toNatClampNeg + x3.toNatClampNeg := by
  have t8 : ((4 : Int32) * x1).toInt = 4 * x1.toInt := ti_mul (rfl : (4 : Int32).toInt = 4) rfl (by omega) (by omega)
  have t : (((4 : Int32) * x1) + x3).toInt = 4 * x1.toInt + x3.toInt := ti_add t8 rfl (by omega) (by omega)
  refine ⟨vin t (by omega) (by omega), ?_⟩
  rw [clampI t]
  have a : x1.toNatClampNeg = x1.toInt.toNat := rfl
  have b : x3.toNatClampNeg = x3.toInt.toNat := rfl
  omega
theorem fb_X10_race_89 {n : Nat} (hn : 1000000000 ≤ n) {Q : Int32 → DD → LL → Prop} {K48 : Int32 → Int32 → Int32 → DD → LL → Prop} {K80 : Int32 → Int32 → Int32 → Int32 → DD → LL → Prop} {x1 x2 x3 x4 : Int32} {d : DD} {dl : LL} (hI : Inv d) (b3 : 0 ≤ x3.toInt ∧ x3.toInt ≤ 23) (b4 : 0 ≤ x4.toInt ∧ x4.toInt ≤ 3) (hit : ∀ k, k < 4 → hc3 d x3.toNatClampNeg x4.toNatClampNeg k → Q (((-10) : Int32) - x3) d dl) (miss : (∀ k, k < 4 → ¬ hc3 d x3.toNatClampNeg x4.toNatClampNeg k) → K80 x1 x2 x3 (x4 + 1) d dl) : ∀ (j : Nat) (x5 : Int32), 0 ≤ x5.toInt → x5.toInt ≤ 4 → (∀ k : Nat, (k : Int) < x5.toInt → ¬ hc3 d x3.toNatClampNeg x4.toNatClampNeg k) → 5 ≤ x5.toInt + (j : Int) → b_X10_race_89 n Q K48 K80 j x1 x2 x3 x4 x5 d dl := by
  intro j
  induction j with
  | zero =>
    intro x5 h0 h1 hno hm
    exfalso
    omega
  | succ j hK =>
    intro x5 h0 h1 hno hm
    show _ ∧ _
    have hx : x5.toNatClampNeg = x5.toInt.toNat := rfl
    refine ⟨fun h => ?_, fun h => ?_⟩
    · have h : 4 ≤ x5.toInt := (i_le (rfl : (4 : Int32).toInt = 4) rfl).mp h
      exact miss (fun k hk => hno k (by omega))
    · have h : ¬ 4 ≤ x5.toInt := fun q => h ((i_le (rfl : (4 : Int32).toInt = 4) rfl).mpr q)
      have t : (x5 + 1).toInt = x5.toInt + 1 := ti_add rfl (rfl : (1 : Int32).toInt = 1) (by omega) (by omega)
      have i4 : vp_in x4 4 := vin rfl (by omega) (by omega)
      obtain ⟨ii, ci⟩ := ix4 b3.1 b3.2 h0 (show x5.toInt < 4 by omega)
      have nx : ¬ hc3 d x3.toNatClampNeg x4.toNatClampNeg x5.toNatClampNeg → b_X10_race_89 n Q K48 K80 j x1 x2 x3 x4 (x5 + 1) d dl := by
        intro g
        refine hK _ (by omega) (by omega) (fun l hl => ?_) (by omega)
        by_cases hl2 : l = x5.toNatClampNeg
        · rw [hl2]; exact g
        · exact hno l (by omega)
      rw [ci]
      refine ⟨i4, fun h2 => nx (fun g => g.1 h2), fun h2 => ⟨ii, fun h3 => nx (fun g => g.2.1 h3), fun h3 => ⟨i4, ii, ?_⟩⟩⟩
      have m4 := iv_239 hI x4.toNatClampNeg
      have m5 := iv_234 hI (4 * x3.toNatClampNeg + x5.toNatClampNeg)
      have h2i := m1 h2
      have h3i := m1 h3
      refine fn_X10_haveCommon hn hI ⟨by omega, by omega⟩ ⟨by omega, by omega⟩ (fun r hr => ⟨fun h6 => nx (fun g => ?_), fun h6 => ?_⟩)
      · rcases hr with ⟨e, _⟩ | ⟨_, q⟩
        · rw [e] at h6; exact absurd h6 (by decide)
        · exact q g.2.2
      · rcases hr with ⟨_, q⟩ | ⟨e, _⟩
        · exact hit x5.toNatClampNeg (by omega) ⟨h2, h3, q⟩
        · exact absurd e h6
theorem fb_X10_race_80 {n : Nat} (hn : 1000000000 ≤ n) {Q : Int32 → DD → LL → Prop} {K48 : Int32 → Int32 → Int32 → DD → LL → Prop} {x1 x2 x3 : Int32} {d : DD} {dl : LL} (hI : Inv d) (b3 : 0 ≤ x3.toInt ∧ x3.toInt ≤ 23) (hit : ∀ l, l < 4 → ∀ k, k < 4 → hc3 d x3.toNatClampNeg l k → Q (((-10) : Int32) - x3) d dl) (miss : (∀ l, l < 4 → ∀ k, k < 4 → ¬ hc3 d x3.toNatClampNeg l k) → K48 x1 x2 (x3 + 1) d dl) : ∀ (j : Nat) (x4 : Int32), 0 ≤ x4.toInt → x4.toInt ≤ 4 → (∀ l : Nat, (l : Int) < x4.toInt → ∀ k, k < 4 → ¬ hc3 d x3.toNatClampNeg l k) → 5 ≤ x4.toInt + (j : Int) → b_X10_race_80 n Q K48 j x1 x2 x3 x4 d dl := by
  intro j
  induction j with
  | zero =>
    intro x4 h0 h1 hno hm
    exfalso
    omega
  | succ j hK =>
    intro x4 h0 h1 hno hm
    show _ ∧ _
    have hx : x4.toNatClampNeg = x4.toInt.toNat := rfl
    refine ⟨fun h => ?_, fun h => ?_⟩
    · have h : 4 ≤ x4.toInt := (i_le (rfl : (4 : Int32).toInt = 4) rfl).mp h
      exact miss (fun l hl => hno l (by omega))
    · have h : ¬ 4 ≤ x4.toInt := fun q => h ((i_le (rfl : (4 : Int32).toInt = 4) rfl).mpr q)
      have t : (x4 + 1).toInt = x4.toInt + 1 := ti_add rfl (rfl : (1 : Int32).toInt = 1) (by omega) (by omega)
      refine fb_X10_race_89 hn hI b3 ⟨h0, by omega⟩ (hit _ (by omega)) (fun g => ?_) n 0 (show (0 : Int) ≤ 0 by omega) (show (0 : Int) ≤ 4 by omega) (fun l hl => absurd (show (l : Int) < 0 from hl) (by omega)) (show (5 : Int) ≤ 0 + (n : Int) by omega)
      refine hK _ (by omega) (by omega) (fun l hl => ?_) (by omega)
      by_cases hl2 : l = x4.toNatClampNeg
      · rw [hl2]; exact g
      · exact hno l (by omega)
def End10 (d dz : DD) (R : Nat) (m rd : Int32) : Prop := dz 232 R = m ∧ dz 233 R = rd ∧ (∀ q, q ≠ R → dz 232 q = d 232 q ∧ dz 233 q = d 233 q) ∧ (∀ l, l < 4 → dz 234 (4 * R + l) = d 239 l) ∧ (∀ a, ¬ (4 * R ≤ a ∧ a < 4 * R + 4) → dz 234 a = d 234 a) ∧ (∀ l, l < 4 → dz 239 l = -1) ∧ (dz 211 3).toInt = (d 211 3).toInt + 1 ∧ dz 211 6 = 0
theorem StP.pair {P : Nat → Nat → Bool} {e d : DD} {el dl : LL} {j : Nat} {v : Int32} (h : StP P e el d dl) (h1 : -1 ≤ v.toInt) (h2 : v.toInt ≤ 5) (p4 : P 234 j = false) (p5 : P 235 j = false) : StP P e el (u2 (u2 d 234 j v) 235 j 0) dl := by
  refine ⟨⟨InI2_put (InI2_put h.1.1 h1 h2) (i_rg 0).1 (i_rg 0).2, ?_⟩, ?_, h.2.2⟩
  · intro a ha
    by_cases hj : a = j
    · subst hj
      rw [u2_eq] at ha
      exact absurd rfl ha
    · rw [u2_ne (Or.inr hj), u2_row (by decide)] at ha
      rw [u2_row (by decide), u2_ne (Or.inr hj)]
      exact h.1.2 a ha
  · intro a b hr
    have g5 : a ≠ 235 ∨ b ≠ j := by
      by_cases ha : a = 235
      · refine Or.inr (fun hb => ?_)
        subst ha; subst hb
        exact absurd (hr.symm.trans p5) (by decide)
      · exact Or.inl ha
    have g4 : a ≠ 234 ∨ b ≠ j := by
      by_cases ha : a = 234
      · refine Or.inr (fun hb => ?_)
        subst ha; subst hb
        exact absurd (hr.symm.trans p4) (by decide)
      · exact Or.inl ha
    rw [u2_ne g5, u2_ne g4]
    exact h.2.1 a b hr
theorem fb_X10_race_201 {n : Nat} {e : DD} {el : LL} {Q : Int32 → DD → LL → Prop} {R : Nat} : ∀ (j : Nat) (x3 : Int32) (d : DD) (dl : LL), StR e el d dl → R = (d 211 3).toNatClampNeg → 0 ≤ x3.toInt → x3.toInt ≤ 4 → (d 211 3).toInt ≤ 23 → (∀ l : Nat, (l : Int) < x3.toInt → d 239 l = -1) → 5 ≤ x3.toInt + (j : Int) → (∀ dz : DD, StR e el dz dl → (∀ i, i ≠ 211 → i ≠ 234 → i ≠ 235 → i ≠ 236 → i ≠ 237 → i ≠ 239 → dz i = d i) → (∀ l : Nat, l < 4 → dz 234 (4 * R + l) = if (l : Int) < x3.toInt then d 234 (4 * R + l) else d 239 l) → (∀ a, ¬ (4 * R ≤ a ∧ a < 4 * R + 4) → dz 234 a = d 234 a) → (∀ l, l < 4 → dz 239 l = -1) → (dz 211 3).toInt = (d 211 3).toInt + 1 → dz 211 6 = 0 → Q (d 211 3) dz dl) → b_X10_race_201 n Q j x3 d dl := by
  intro j
  induction j with
  | zero =>
    intro x3 d dl hS hR h0 h1 h3 hno hm hQ
    exfalso
    omega
  | succ j hK =>
    intro x3 d dl hS hR h0 h1 h3 hno hm hQ
    show _ ∧ _
    have m := iv_211_3 hS.1
    have hx : x3.toNatClampNeg = x3.toInt.toNat := rfl
    refine ⟨fun h => ?_, fun h => ?_⟩
    · have h : 4 ≤ x3.toInt := (i_le (rfl : (4 : Int32).toInt = 4) rfl).mp h
      intro d15 e15 d16 e16
      have s1 : StR e el d15 dl := by rw [e15]; exact pw_211_6 hS rfl
      have k3 : d15 211 3 = d 211 3 := by rw [e15, u2_ne (Or.inr (by omega))]
      have t : ((d15 211 3) + 1).toInt = (d 211 3).toInt + 1 := ti_add (congrArg Int32.toInt k3) (rfl : (1 : Int32).toInt = 1) (by omega) (by omega)
      have s2 : StR e el d16 dl := by rw [e16]; exact pw_211_3 s1 (by rw [t]; omega) (by rw [t]; omega) rfl
      rw [k3]
      refine hQ d16 s2 (fun i g _ _ _ _ _ => by rw [e16, u2_row g, e15, u2_row g]) (fun l hl => ?_) (fun a _ => ?_) (fun l hl => ?_) ?_ ?_
      · rw [if_pos (by omega), e16, u2_row (by omega), e15, u2_row (by omega)]
      · rw [e16, u2_row (by omega), e15, u2_row (by omega)]
      · rw [e16, u2_row (by omega), e15, u2_row (by omega)]
        exact hno l (by omega)
      · rw [e16, u2_eq, t]
      · rw [e16, u2_ne (Or.inr (by omega)), e15, u2_eq]
    · have h : ¬ 4 ≤ x3.toInt := fun q => h ((i_le (rfl : (4 : Int32).toInt = 4) rfl).mpr q)
      have t : (x3 + 1).toInt = x3.toInt + 1 := ti_add rfl (rfl : (1 : Int32).toInt = 1) (by omega) (by omega)
      have hi : vp_in x3 4 := vin rfl (by omega) (by omega)
      obtain ⟨hp, cp⟩ := ix4 m.1 h3 h0 (show x3.toInt < 4 by omega)
      rw [← hR] at cp
      refine ⟨hi, hp, ?_⟩
      intro d19 e19
      have k19 : d19 211 3 = d 211 3 := by rw [e19, u2_row (by omega)]
      rw [k19]
      refine ⟨hp, ?_⟩
      intro d21 e21
      have m9 := iv_239 hS.1 x3.toNatClampNeg
      have s21 : StR e el d21 dl := by rw [e21, e19]; exact StP.pair hS m9.1 m9.2 rfl rfl
      have k21 : d21 211 3 = d 211 3 := by rw [e21, u2_row (by omega), k19]
      rw [k21]
      refine ⟨hp, ?_⟩
      intro d23 e23
      have s23 : StR e el d23 dl := by rw [e23]; exact pw_236 s21 rfl
      have k23 : d23 211 3 = d 211 3 := by rw [e23, u2_row (by omega), k21]
      rw [k23]
      refine ⟨hp, ?_⟩
      intro d25 e25
      have s25 : StR e el d25 dl := by rw [e25]; exact pw_237 s23 (vn_in _).1 (vn_in _).2 rfl
      refine ⟨hi, ?_⟩
      intro d27 e27
      have s27 : StR e el d27 dl := by rw [e27]; exact pw_239 s25 (by decide) (by decide) rfl
      rw [cp] at e19 e21 e23 e25
      have k27 : d27 211 3 = d 211 3 := by rw [e27, u2_row (by omega), e25, u2_row (by omega), k23]
      have o4 : ∀ a, d27 234 a = u2 d 234 (4 * R + x3.toNatClampNeg) (d 239 x3.toNatClampNeg) 234 a := fun a => by rw [e27, u2_row (by omega), e25, u2_row (by omega), e23, u2_row (by omega), e21, u2_row (by omega), e19]
      have o9 : ∀ l, l ≠ x3.toNatClampNeg → d27 239 l = d 239 l := fun l hl => by rw [e27, u2_ne (Or.inr hl), e25, u2_row (by omega), e23, u2_row (by omega), e21, u2_row (by omega), e19, u2_row (by omega)]
      have hz := hK (x3 + 1) d27 dl s27 (by rw [k27]; exact hR) (by omega) (by omega) (by rw [k27]; exact h3) (fun l hl => ?_) (by omega) (fun dz sz f1 f2 f3 f4 f5 f6 => ?_)
      · exact hz
      · by_cases hl2 : l = x3.toNatClampNeg
        · rw [hl2, e27, u2_eq]
        · rw [o9 l hl2]
          exact hno l (by omega)
      · rw [k27]
        refine hQ dz sz (fun i g1 g2 g3 g4 g5 g6 => by rw [f1 i g1 g2 g3 g4 g5 g6, e27, u2_row g6, e25, u2_row g5, e23, u2_row g4, e21, u2_row g3, e19, u2_row g2]) (fun l hl => ?_) (fun a ha => ?_) f4 (by rw [f5, k27]) f6
        · rw [f2 l hl]
          by_cases hl2 : l = x3.toNatClampNeg
          · rw [if_pos (by omega), if_neg (by omega), o4, hl2, u2_eq]
          · by_cases hl3 : (l : Int) < x3.toInt
            · rw [if_pos (by omega), if_pos hl3, o4, u2_ne (Or.inr (by omega))]
            · rw [if_neg (by omega), if_neg hl3, o9 l hl2]
        · rw [f3 a ha, o4, u2_ne (Or.inr (by omega))]
theorem fb_X10_race_48 {n : Nat} (hn : 1000000000 ≤ n) {Q : Int32 → DD → LL → Prop} {x1 x2 : Int32} {d : DD} {dl : LL} (hI : Inv d) (ok : okR x1 x2) (h3 : (d 211 3).toInt ≤ 23) (hit : ∀ q : Int32, 0 ≤ q.toInt → q.toInt < (d 211 3).toInt → B10 d x1 q.toNatClampNeg → (∀ i : Nat, (i : Int) < q.toInt → ¬ B10 d x1 i) → Q (((-10) : Int32) - q) d dl) (fin : (∀ i : Nat, (i : Int) < (d 211 3).toInt → ¬ B10 d x1 i) → ∀ dz : DD, StR d dl dz dl → End10 d dz (d 211 3).toNatClampNeg x1 x2 → Q (d 211 3) dz dl) : ∀ (j : Nat) (x3 : Int32), 0 ≤ x3.toInt → x3.toInt ≤ 24 → (∀ i : Nat, (i : Int) < x3.toInt → ¬ B10 d x1 i) → 25 ≤ x3.toInt + (j : Int) → b_X10_race_48 n Q j x1 x2 x3 d dl := by
  intro j
  induction j with
  | zero =>
    intro x3 h0 h1 hno hm
    exfalso
    omega
  | succ j hK =>
    intro x3 h0 h1 hno hm
    show _ ∧ _
    have m := iv_211_3 hI
    have hx : x3.toNatClampNeg = x3.toInt.toNat := rfl
    have k1 := ok.1
    have k2 := ok.2
    refine ⟨fun h => ?_, fun h => ?_⟩
    · have h : (d 211 3).toInt ≤ x3.toInt := (i_le rfl rfl).mp h
      have fz := fin (fun i hi => hno i (by omega))
      have hi : vp_in (d 211 3) 24 := vin rfl (by omega) (by omega)
      refine ⟨hi, ?_⟩
      intro d9 e9
      have s9 : StR d dl d9 dl := by rw [e9]; exact pw_232 (StP.rf hI) k1.1 k1.2 rfl
      have k9 : d9 211 3 = d 211 3 := by rw [e9, u2_row (by omega)]
      rw [k9]
      refine ⟨hi, ?_⟩
      intro d11 e11
      have s11 : StR d dl d11 dl := by rw [e11]; exact pw_233 s9 k2.1 k2.2 rfl
      have k11 : d11 211 3 = d 211 3 := by rw [e11, u2_row (by omega), k9]
      rw [k11]
      refine ⟨hi, ?_⟩
      intro d13 e13
      have s13 : StR d dl d13 dl := by rw [e13]; exact pw_238 s11 (vn_in _).1 (vn_in _).2 rfl
      have k13 : d13 211 3 = d 211 3 := by rw [e13, u2_row (by omega), k11]
      have r4 : d13 234 = d 234 := by rw [e13, u2_row (by omega), e11, u2_row (by omega), e9, u2_row (by omega)]
      have r9 : d13 239 = d 239 := by rw [e13, u2_row (by omega), e11, u2_row (by omega), e9, u2_row (by omega)]
      refine fb_X10_race_201 (e := d) (el := dl) (R := (d 211 3).toNatClampNeg) n 0 d13 dl s13 (by rw [k13]) (show (0 : Int) ≤ 0 by omega) (show (0 : Int) ≤ 4 by omega) (by rw [k13]; exact h3) (fun l hl => absurd (show (l : Int) < 0 from hl) (by omega)) (show (5 : Int) ≤ 0 + (n : Int) by omega) (fun dz sz f1 f2 f3 f4 f5 f6 => ?_)
      rw [k13]
      refine fz dz sz ⟨?_, ?_, fun q hq => ⟨?_, ?_⟩, fun l hl => ?_, fun a ha => ?_, f4, by rw [f5, k13], f6⟩
      · rw [f1 232 (by omega) (by omega) (by omega) (by omega) (by omega) (by omega), e13, u2_row (by omega), e11, u2_row (by omega), e9, u2_eq]
      · rw [f1 233 (by omega) (by omega) (by omega) (by omega) (by omega) (by omega), e13, u2_row (by omega), e11, u2_eq]
      · rw [f1 232 (by omega) (by omega) (by omega) (by omega) (by omega) (by omega), e13, u2_row (by omega), e11, u2_row (by omega), e9, u2_ne (Or.inr hq)]
      · rw [f1 233 (by omega) (by omega) (by omega) (by omega) (by omega) (by omega), e13, u2_row (by omega), e11, u2_ne (Or.inr hq), e9, u2_row (by omega)]
      · rw [f2 l hl, if_neg (show ¬ (l : Int) < (0 : Int32).toInt from (show ¬ (l : Int) < 0 by omega)), r9]
      · rw [f3 a ha, r4]
    · have h : ¬ (d 211 3).toInt ≤ x3.toInt := fun q => h ((i_le rfl rfl).mpr q)
      have t : (x3 + 1).toInt = x3.toInt + 1 := ti_add rfl (rfl : (1 : Int32).toInt = 1) (by omega) (by omega)
      have mq := iv_232 hI x3.toNatClampNeg
      have nx : ¬ B10 d x1 x3.toNatClampNeg → b_X10_race_48 n Q j x1 x2 (x3 + 1) d dl := by
        intro g
        refine hK _ (by omega) (by omega) (fun l hl => ?_) (by omega)
        by_cases hl2 : l = x3.toNatClampNeg
        · rw [hl2]; exact g
        · exact hno l (by omega)
      have ts : ((d 232 x3.toNatClampNeg) - x1).toInt = (d 232 x3.toNatClampNeg).toInt - x1.toInt := ti_sub rfl rfl (by omega) (by omega)
      have go : ∀ r : Int32, r.toInt = gp (d 232 x3.toNatClampNeg).toInt x1.toInt → (r < (d 211 5) → b_X10_race_80 n Q (b_X10_race_48 n Q j) n x1 x2 x3 0 d dl) ∧ (¬ r < (d 211 5) → b_X10_race_48 n Q j x1 x2 (x3 + 1) d dl) := by
        intro r hr
        refine ⟨fun g => ?_, fun g => ?_⟩
        · have g : r.toInt < (d 211 5).toInt := (i_lt rfl rfl).mp g
          refine fb_X10_race_80 hn hI ⟨h0, by omega⟩ (fun l hl k hk q => ?_) (fun q => nx (fun b => ?_)) n 0 (show (0 : Int) ≤ 0 by omega) (show (0 : Int) ≤ 4 by omega) (fun l hl => absurd (show (l : Int) < 0 from hl) (by omega)) (show (5 : Int) ≤ 0 + (n : Int) by omega)
          · exact hit x3 h0 (by omega) ⟨by rw [← hr]; exact g, l, hl, k, hk, q⟩ hno
          · obtain ⟨_, l, hl, k, hk, e⟩ := b
            exact q l hl k hk e
        · have g : ¬ r.toInt < (d 211 5).toInt := fun q => g ((i_lt rfl rfl).mpr q)
          exact nx (fun b => g (by rw [hr]; exact b.1))
      refine ⟨vin rfl (by omega) (by omega), fun g => go _ ?_, fun g => go _ ?_⟩
      · have g : 0 ≤ (d 232 x3.toNatClampNeg).toInt - x1.toInt := (i_le (rfl : (0 : Int32).toInt = 0) ts).mp g
        rw [ts]
        unfold gp
        rw [if_pos g]
      · have g : ¬ 0 ≤ (d 232 x3.toNatClampNeg).toInt - x1.toInt := fun q => g ((i_le (rfl : (0 : Int32).toInt = 0) ts).mpr q)
        rw [ti_neg ts (by omega) (by omega)]
        unfold gp
        rw [if_neg g]
def RaceP10 (d : DD) (dz : DD) (m rd r : Int32) : Prop :=
  (¬ okR m rd ∧ r = -2 ∧ dz = d) ∨ (okR m rd ∧ ¬ 2 ≤ (d 211 6).toInt ∧ r = -3 ∧ dz = d) ∨ (okR m rd ∧ 2 ≤ (d 211 6).toInt ∧ ¬ (d 211 3).toInt < 24 ∧ r = -4 ∧ dz = d) ∨ (okR m rd ∧ 2 ≤ (d 211 6).toInt ∧ (d 211 3).toInt < 24 ∧ ∃ q : Nat, (q : Int) < (d 211 3).toInt ∧ B10 d m q ∧ (∀ i : Nat, i < q → ¬ B10 d m i) ∧ r.toInt = -10 - (q : Int) ∧ dz = d) ∨ (okR m rd ∧ 2 ≤ (d 211 6).toInt ∧ (d 211 3).toInt < 24 ∧ (∀ i : Nat, (i : Int) < (d 211 3).toInt → ¬ B10 d m i) ∧ r = d 211 3 ∧ End10 d dz (d 211 3).toNatClampNeg m rd)
theorem sp_X10_race {n : Nat} (hn : 1000000000 ≤ n) {x1 x2 : Int32} {d : DD} {dl : LL} (hI : Inv d) {Q : Int32 → DD → LL → Prop} (hQ : ∀ (r : Int32) (d2 : DD) (l2 : LL), StR d dl d2 l2 ∧ RaceP10 d d2 x1 x2 r → Q r d2 l2) : F_X10_race n x1 x2 d dl Q := by
  have m3 := iv_211_3 hI
  have bad : ¬ okR x1 x2 → Q (-2) d dl := fun h => hQ _ _ _ ⟨StP.rf hI, Or.inl ⟨h, rfl, rfl⟩⟩
  refine ⟨fun h1 => ?_, fun h1 => ⟨fun h2 => ?_, fun h2 => ⟨fun h3 => ?_, fun h3 => ⟨fun h4 => ?_, fun h4 => ?_⟩⟩⟩⟩
  · have h1 : x1.toInt < 0 := (i_lt rfl (rfl : (0 : Int32).toInt = 0)).mp h1
    exact bad (fun h => by have := h.1; omega)
  · have h2 : 999 < x1.toInt := (i_lt (rfl : (999 : Int32).toInt = 999) rfl).mp h2
    exact bad (fun h => by have := h.1; omega)
  · have h3 : x2.toInt < 0 := (i_lt rfl (rfl : (0 : Int32).toInt = 0)).mp h3
    exact bad (fun h => by have := h.2; omega)
  · have h1 : ¬ x1.toInt < 0 := fun q => h1 ((i_lt rfl (rfl : (0 : Int32).toInt = 0)).mpr q)
    have h2 : ¬ 999 < x1.toInt := fun q => h2 ((i_lt (rfl : (999 : Int32).toInt = 999) rfl).mpr q)
    have h3 : ¬ x2.toInt < 0 := fun q => h3 ((i_lt rfl (rfl : (0 : Int32).toInt = 0)).mpr q)
    have h4 : x2.toInt ≤ 1 := (i_le rfl (rfl : (1 : Int32).toInt = 1)).mp h4
    have ok : okR x1 x2 := ⟨by omega, by omega⟩
    refine ⟨fun h5 => ⟨fun h6 => ?_, fun h6 => ?_⟩, fun h5 => ?_⟩
    · have h5 : 2 ≤ (d 211 6).toInt := (i_le (rfl : (2 : Int32).toInt = 2) rfl).mp h5
      have h6 : ¬ (d 211 3).toInt = 24 := fun q => h6 ((i_eq rfl (rfl : (24 : Int32).toInt = 24)).mpr q)
      have h7 : (d 211 3).toInt < 24 := by omega
      refine fb_X10_race_48 hn hI ok (by omega) (fun q q0 q1 hb hf => ?_) (fun hf dz sz ez => ?_) n 0 (show (0 : Int) ≤ 0 by omega) (show (0 : Int) ≤ 24 by omega) (fun l hl => absurd (show (l : Int) < 0 from hl) (by omega)) (show (25 : Int) ≤ 0 + (n : Int) by omega)
      · have qn : q.toNatClampNeg = q.toInt.toNat := rfl
        refine hQ _ _ _ ⟨StP.rf hI, Or.inr (Or.inr (Or.inr (Or.inl ⟨ok, h5, h7, q.toNatClampNeg, by omega, hb, fun i hi => hf i (by omega), ?_, rfl⟩)))⟩
        rw [ti_sub (a := (-10 : Int32)) (b := q) (p := -10) (q := q.toInt) rfl rfl (by omega) (by omega)]
        omega
      · exact hQ _ _ _ ⟨sz, Or.inr (Or.inr (Or.inr (Or.inr ⟨ok, h5, h7, hf, rfl, ez⟩)))⟩
    · have h5 : 2 ≤ (d 211 6).toInt := (i_le (rfl : (2 : Int32).toInt = 2) rfl).mp h5
      have h6 : (d 211 3).toInt = 24 := (i_eq rfl (rfl : (24 : Int32).toInt = 24)).mp h6
      exact hQ _ _ _ ⟨StP.rf hI, Or.inr (Or.inr (Or.inl ⟨ok, h5, by omega, rfl, rfl⟩))⟩
    · have h5 : ¬ 2 ≤ (d 211 6).toInt := fun q => h5 ((i_le (rfl : (2 : Int32).toInt = 2) rfl).mpr q)
      exact hQ _ _ _ ⟨StP.rf hI, Or.inr (Or.inl ⟨ok, h5, rfl, rfl⟩)⟩
  · have h4 : ¬ x2.toInt ≤ 1 := fun q => h4 ((i_le rfl (rfl : (1 : Int32).toInt = 1)).mpr q)
    exact bad (fun h => by have := h.2; omega)
