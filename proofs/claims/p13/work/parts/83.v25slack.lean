def itr (f : Nat → Int → Int) : Nat → Nat → Int → Int
  | _, 0, a => a
  | j, k + 1, a => itr f (j + 1) k (f j a)
theorem itr_k {f g : Nat → Int → Int} {N : Nat} (h : ∀ j a, j < N → f j a = g j a) : ∀ (k j : Nat) (a : Int), j + k ≤ N → itr f j k a = itr g j k a := by
  intro k
  induction k with
  | zero => intro j a _; rfl
  | succ k ih =>
    intro j a hj
    show itr f (j + 1) k (f j a) = itr g (j + 1) k (g j a)
    rw [h j a (by omega)]
    exact ih _ _ (by omega)
noncomputable def ns (g : Int) (P : Prop) (a : Int) : Int := @ite Int ((a = -1 ∨ g < a) ∧ P) (Classical.propDecidable _) g a
theorem ns_k {g g2 : Int} {P P2 : Prop} (h : g = g2) (hp : P ↔ P2) (a : Int) : ns g P a = ns g2 P2 a := by
  subst h
  have : P = P2 := propext hp
  subst this
  rfl
theorem ns_y {g a : Int} {P : Prop} (h1 : a = -1 ∨ g < a) (h2 : P) : ns g P a = g := if_pos ⟨h1, h2⟩
theorem ns_n {g a : Int} {P : Prop} (h : ¬ ((a = -1 ∨ g < a) ∧ P)) : ns g P a = a := if_neg h
noncomputable def g9 (d : DD) (dl : LL) (i j : Nat) (a : Int) : Int := ns (gp (d (91 + 5 * i) 0).toInt (d (91 + 5 * j) 0).toInt) (RMt d dl i j) a
def RM10 (d : DD) (i j : Nat) : Prop := ∃ l, l < 4 ∧ ∃ k, k < 4 ∧ ¬ d 234 (4 * i + l) = -1 ∧ ¬ d 234 (4 * j + k) = -1 ∧ HC d (d 234 (4 * i + l)) (d 234 (4 * j + k))
noncomputable def g10 (d : DD) (i j : Nat) (a : Int) : Int := ns (gp (d 232 i).toInt (d 232 j).toInt) (RM10 d i j) a
noncomputable def S9 (d : DD) (dl : LL) (i : Nat) (a : Int) : Int := itr (g9 d dl i) 0 i a
noncomputable def S10 (d : DD) (i : Nat) (a : Int) : Int := itr (g10 d i) 0 i a
theorem fb_X9_slack_47 {n : Nat} (hn : 1000000000 ≤ n) {Q : Int32 → DD → LL → Prop} {K4 : Int32 → Int32 → DD → LL → Prop} {K14 : Int32 → Int32 → Int32 → DD → LL → Prop} {x1 x2 x3 x4 : Int32} {d : DD} {dl : LL} (hI : Inv d) (b2 : 0 ≤ x2.toInt ∧ x2.toInt ≤ 23) (b3 : 0 ≤ x3.toInt ∧ x3.toInt ≤ 23) (yes : RMt d dl x2.toNatClampNeg x3.toNatClampNeg → K14 x4 x2 (x3 + 1) d dl) (no : ¬ RMt d dl x2.toNatClampNeg x3.toNatClampNeg → K14 x1 x2 (x3 + 1) d dl) : b_X9_slack_47 n Q K4 K14 x1 x2 x3 x4 d dl := by
  have i2 : vp_in x2 24 := vin rfl (by omega) (by omega)
  have i3 : vp_in x3 24 := vin rfl (by omega) (by omega)
  refine ⟨i2, fun k12 e12 => ⟨i3, fun k14 e14 => ?_⟩⟩
  subst e12; subst e14
  refine fn_X9_racesMeet hn (clamp_in i2) (clamp_in i3) hI (fun r hr => ⟨fun h6 => no ?_, fun h6 => yes ?_⟩)
  · rcases hr with ⟨e, _⟩ | ⟨_, q⟩
    · rw [e] at h6; exact absurd h6 (by decide)
    · exact q
  · rcases hr with ⟨_, q⟩ | ⟨e, _⟩
    · exact q
    · exact absurd e h6
theorem gp_in {a b : Int} (a0 : 0 ≤ a) (a1 : a ≤ 999) (b0 : 0 ≤ b) (b1 : b ≤ 999) : 0 ≤ gp a b ∧ gp a b ≤ 999 := by unfold gp; split <;> omega
theorem fb_X9_slack_14 {n : Nat} (hn : 1000000000 ≤ n) {Q : Int32 → DD → LL → Prop} {K4 : Int32 → Int32 → DD → LL → Prop} {x2 : Int32} {d : DD} {dl : LL} (hI : Inv d) (b2 : 0 ≤ x2.toInt ∧ x2.toInt ≤ 23) {v : Int} (hQ : ∀ x1 : Int32, x1.toInt = v → K4 x1 (x2 + 1) d dl) : ∀ (j : Nat) (x1 x3 : Int32), 0 ≤ x3.toInt → x3.toInt ≤ x2.toInt → v = itr (g9 d dl x2.toNatClampNeg) x3.toNatClampNeg (x2.toNatClampNeg - x3.toNatClampNeg) x1.toInt → 25 ≤ x3.toInt + (j : Int) → b_X9_slack_14 n Q K4 j x1 x2 x3 d dl := by
  intro j
  induction j with
  | zero =>
    intro x1 x3 h0 h1 hv hm
    exfalso
    omega
  | succ j hK =>
    intro x1 x3 h0 h1 hv hm
    show _ ∧ _
    have hx : x3.toNatClampNeg = x3.toInt.toNat := rfl
    have hy : x2.toNatClampNeg = x2.toInt.toNat := rfl
    refine ⟨fun h => ?_, fun h => ?_⟩
    · have h : x2.toInt ≤ x3.toInt := (i_le rfl rfl).mp h
      have hz : x2.toNatClampNeg - x3.toNatClampNeg = 0 := by omega
      rw [hz] at hv
      exact hQ _ hv.symm
    · have h : ¬ x2.toInt ≤ x3.toInt := fun q => h ((i_le rfl rfl).mpr q)
      have t : (x3 + 1).toInt = x3.toInt + 1 := ti_add rfl (rfl : (1 : Int32).toInt = 1) (by omega) (by omega)
      have tn : (x3 + 1).toNatClampNeg = x3.toNatClampNeg + 1 := by rw [clampI t]; omega
      have hz : x2.toNatClampNeg - x3.toNatClampNeg = (x2.toNatClampNeg - (x3 + 1).toNatClampNeg) + 1 := by omega
      rw [hz] at hv
      have hv : v = itr (g9 d dl x2.toNatClampNeg) (x3 + 1).toNatClampNeg (x2.toNatClampNeg - (x3 + 1).toNatClampNeg) (g9 d dl x2.toNatClampNeg x3.toNatClampNeg x1.toInt) := by
        rw [tn] at hv ⊢
        exact hv
      have nx : ∀ y : Int32, y.toInt = g9 d dl x2.toNatClampNeg x3.toNatClampNeg x1.toInt → b_X9_slack_14 n Q K4 j y x2 (x3 + 1) d dl := fun y hy2 => hK _ _ (by omega) (by omega) (by rw [hy2]; exact hv) (by omega)
      have i2 : vp_in x2 24 := vin rfl (by omega) (by omega)
      have i3 : vp_in x3 24 := vin rfl (by omega) (by omega)
      refine ⟨i2, fun k4 e4 => ⟨i3, fun k6 e6 => ?_⟩⟩
      subst e4; subst e6
      refine fn_X3_minutesTo (clamp_in i2) (clamp_in i3) hI (fun r7 hr7 => ?_)
      have go : (x1.toInt = -1 ∨ r7.toInt < x1.toInt) → b_X9_slack_47 n Q K4 (b_X9_slack_14 n Q K4 j) x1 x2 x3 r7 d dl := fun g => fb_X9_slack_47 hn hI b2 ⟨h0, by omega⟩ (fun q => nx r7 (by rw [hr7]; exact (ns_y (by rw [← hr7]; exact g) q).symm)) (fun q => nx x1 ((ns_n (fun w => q w.2)).symm))
      refine ⟨fun h2 => go (Or.inl ((i_eq rfl (rfl : (-1 : Int32).toInt = -1)).mp h2)), fun h2 => ⟨fun h3 => ?_, fun h3 => ?_⟩⟩
      · have h2 := m1 h2
        have h3 : x1.toInt ≤ r7.toInt := (i_le rfl rfl).mp h3
        exact nx x1 ((ns_n (fun w => w.1.elim h2 (fun w => by rw [← hr7] at w; omega))).symm)
      · have h3 : ¬ x1.toInt ≤ r7.toInt := fun q => h3 ((i_le rfl rfl).mpr q)
        exact go (Or.inr (by omega))
theorem fb_X9_slack_4 {n : Nat} (hn : 1000000000 ≤ n) {Q : Int32 → DD → LL → Prop} {d : DD} {dl : LL} (hI : Inv d) {v : Int} (hQ : ∀ r : Int32, r.toInt = v → Q r d dl) : ∀ (j : Nat) (x1 x2 : Int32), 0 ≤ x2.toInt → x2.toInt ≤ (d 0 13).toInt → v = itr (S9 d dl) x2.toNatClampNeg ((d 0 13).toNatClampNeg - x2.toNatClampNeg) x1.toInt → 26 ≤ x2.toInt + (j : Int) → b_X9_slack_4 n Q j x1 x2 d dl := by
  have m := iv_0_13 hI
  intro j
  induction j with
  | zero =>
    intro x1 x2 h0 h1 hv hm
    exfalso
    omega
  | succ j hK =>
    intro x1 x2 h0 h1 hv hm
    show _ ∧ _
    have hx : x2.toNatClampNeg = x2.toInt.toNat := rfl
    have hy : (d 0 13).toNatClampNeg = (d 0 13).toInt.toNat := rfl
    refine ⟨fun h => ?_, fun h => ?_⟩
    · have h : (d 0 13).toInt ≤ x2.toInt := (i_le rfl rfl).mp h
      have hz : (d 0 13).toNatClampNeg - x2.toNatClampNeg = 0 := by omega
      rw [hz] at hv
      exact hQ _ hv.symm
    · have h : ¬ (d 0 13).toInt ≤ x2.toInt := fun q => h ((i_le rfl rfl).mpr q)
      have t : (x2 + 1).toInt = x2.toInt + 1 := ti_add rfl (rfl : (1 : Int32).toInt = 1) (by omega) (by omega)
      have tn : (x2 + 1).toNatClampNeg = x2.toNatClampNeg + 1 := by rw [clampI t]; omega
      have hz : (d 0 13).toNatClampNeg - x2.toNatClampNeg = ((d 0 13).toNatClampNeg - (x2 + 1).toNatClampNeg) + 1 := by omega
      rw [hz] at hv
      have hv : v = itr (S9 d dl) (x2 + 1).toNatClampNeg ((d 0 13).toNatClampNeg - (x2 + 1).toNatClampNeg) (S9 d dl x2.toNatClampNeg x1.toInt) := by
        rw [tn] at hv ⊢
        exact hv
      exact fb_X9_slack_14 hn hI ⟨h0, by omega⟩ (v := S9 d dl x2.toNatClampNeg x1.toInt) (fun y hy2 => hK _ _ (by omega) (by omega) (by rw [hy2]; exact hv) (by omega)) n x1 0 (show (0 : Int) ≤ 0 by omega) h0 rfl (show (25 : Int) ≤ 0 + (n : Int) by omega)
theorem sp_X9_slackF {n : Nat} (hn : 1000000000 ≤ n) {d : DD} {dl : LL} (hI : Inv d) {Q : Int32 → DD → LL → Prop} (hQ : ∀ (r : Int32) (d2 : DD) (l2 : LL), Sq d dl d2 l2 ∧ r.toInt = itr (S9 d dl) 0 (d 0 13).toNatClampNeg (-1) → Q r d2 l2) : F_X9_slack n d dl Q :=
  fb_X9_slack_4 hn hI (fun r hr => hQ _ _ _ ⟨⟨hI, rfl, rfl⟩, hr⟩) n (-1) 0 (show (0 : Int) ≤ 0 by omega) (iv_0_13 hI).1 rfl (show (26 : Int) ≤ 0 + (n : Int) by omega)
