def PX (R D : Int) (mem : Nat → Nat) (w st ar : Nat → Int) (fr : Nat → Nat → Bool) : Nat → Nat → Int := fun i j =>
  if i = 0 then w (mem j) else if i = 1 then st (mem j) else if i = 2 then ar (mem j) else if i = 3 then 2 * ((j / 2 : Nat) : Int) - (R - 1) else if i = 4 then (if R - 1 - ((j / 2 : Nat) : Int) < ((j / 2 : Nat) : Int) then R - 1 - ((j / 2 : Nat) : Int) else ((j / 2 : Nat) : Int)) else if i = 5 then -R * D else if 10 ≤ i ∧ fr (mem (i - 10)) (mem j) = true then 1 else 0
def memA (d : DD) (k : Nat) : Nat → Nat := fun j => if j < 8 then (d (38 + 3 * k) j).toNatClampNeg else 0
def PA9 (d : DD) (dl : LL) (k : Nat) : Nat → Nat → Int := PX (d (37 + 3 * k) 0).toInt (d (37 + 3 * k) 1).toInt (memA d k) (fun p => (d 2 p).toInt) (fun p => (d 3 p).toInt) (fun p => (d 4 p).toInt) (fun a b => bt (dl 7 a) b)
theorem PX_fr {R D : Int} {mem : Nat → Nat} {w st ar : Nat → Int} {fr : Nat → Nat → Bool} {m c : Nat} : PX R D mem w st ar fr (10 + m) c = 1 ↔ fr (mem m) (mem c) = true := by
  unfold PX
  rw [if_neg (by omega), if_neg (by omega), if_neg (by omega), if_neg (by omega), if_neg (by omega), if_neg (by omega), show 10 + m - 10 = m by omega]
  by_cases h : fr (mem m) (mem c) = true
  · rw [if_pos ⟨by omega, h⟩]
    exact ⟨fun _ => h, fun _ => rfl⟩
  · rw [if_neg (fun w => h w.2)]
    exact ⟨fun w => absurd w (by decide), fun w => absurd w h⟩
def Mb (d0 d : DD) (dl : LL) (k x : Nat) : Prop := Inv d ∧ (∀ i, i ≠ 11 → i ≠ 12 → i ≠ 13 → i ≠ 14 → d i = d0 i) ∧ ∀ m, m < x → ((d 11 m).toInt = (d0 2 (memA d0 k m)).toInt ∧ (d 12 m).toInt = (d0 3 (memA d0 k m)).toInt ∧ (d 13 m).toInt = (d0 4 (memA d0 k m)).toInt ∧ ∀ c : Nat, (c : Int) < (d0 10 3).toInt → (b32 (d 14 m) c = true ↔ bt (dl 7 (memA d0 k m)) (memA d0 k c) = true))
theorem fb_X6_loadMembers_67 {n : Nat} {Q : DD → LL → Prop} {K2 : Nat → Int32 → DD → LL → Prop} {d0 : DD} {dl : LL} {k x : Nat} (hk : k < 6) {x3 x4 : Int32} (h3 : x3.toInt = (x : Int)) (hx8 : (x : Int) < (d0 10 3).toInt) (hm8 : (d0 10 3).toInt ≤ 8) (h4 : x4.toInt = ((memA d0 k x : Nat) : Int)) (hx40 : memA d0 k x < 40) (hK2 : ∀ d : DD, Mb d0 d dl k (x + 1) → K2 k (x3 + 1) d dl) : ∀ (j : Nat) (x5 : Int32) (d : DD), Mb d0 d dl k x → ((d 11 x).toInt = (d0 2 (memA d0 k x)).toInt ∧ (d 12 x).toInt = (d0 3 (memA d0 k x)).toInt ∧ (d 13 x).toInt = (d0 4 (memA d0 k x)).toInt) → 0 ≤ x5.toInt → x5.toInt ≤ 8 → (∀ c : Nat, c < 32 → (b32 (d 14 x) c = true ↔ ((c : Int) < x5.toInt ∧ bt (dl 7 (memA d0 k x)) (memA d0 k c) = true))) → 9 ≤ x5.toInt + (j : Int) → b_X6_loadMembers_67 n Q K2 j k x3 x4 x5 d dl := by
  intro j
  induction j with
  | zero =>
    intro x5 d hM hx h0 h1 hb hm
    exfalso
    omega
  | succ j hK =>
    intro x5 d hM hx h0 h1 hb hm
    show _ ∧ _
    have h5 : x5.toNatClampNeg = x5.toInt.toNat := rfl
    have e3 := at_n h3
    have r10 : d 10 3 = d0 10 3 := by rw [hM.2.1 10 (by omega) (by omega) (by omega) (by omega)]
    refine ⟨fun h => ?_, fun h => ?_⟩
    · have h : (d0 10 3).toInt ≤ x5.toInt := (i_le (by rw [r10]) rfl).mp h
      refine hK2 d ⟨hM.1, hM.2.1, fun m hmx => ?_⟩
      by_cases he : m = x
      · subst he
        refine ⟨hx.1, hx.2.1, hx.2.2, fun c hc => ?_⟩
        refine (hb c (by omega)).trans ⟨fun w => w.2, fun w => ⟨by omega, w⟩⟩
      · exact hM.2.2 m (by omega)
    · have h : ¬ (d0 10 3).toInt ≤ x5.toInt := fun q => h ((i_le (by rw [r10]) rfl).mpr q)
      have t : (x5 + 1).toInt = x5.toInt + 1 := ti_add rfl (rfl : (1 : Int32).toInt = 1) (by omega) (by omega)
      have i5 : vp_in x5 8 := vin rfl (by omega) (by omega)
      have i3 : vp_in x3 8 := vin h3 (by omega) (by omega)
      have em : d (38 + 3 * k) x5.toNatClampNeg = d0 (38 + 3 * k) x5.toNatClampNeg := by rw [hM.2.1 _ (by omega) (by omega) (by omega) (by omega)]
      have mm := iv_38 hM.1 hk x5.toNatClampNeg
      have ec : (d (38 + 3 * k) x5.toNatClampNeg).toNatClampNeg = memA d0 k x5.toNatClampNeg := by
        unfold memA
        rw [if_pos (by omega), em]
      refine ⟨i5, fn_X4_areFriends ⟨by omega, by omega⟩ ⟨by omega, by omega⟩ ?_⟩
      rw [at_n h4, ec]
      have nx : ¬ bt (dl 7 (memA d0 k x)) (memA d0 k x5.toNatClampNeg) = true → b_X6_loadMembers_67 n Q K2 j k x3 x4 (x5 + 1) d dl := by
        intro g
        refine hK _ _ hM hx (by omega) (by omega) (fun c hc => ?_) (by omega)
        refine (hb c hc).trans ⟨fun w => ⟨by have := w.1; omega, w.2⟩, fun w => ⟨?_, w.2⟩⟩
        by_cases hc2 : c = x5.toNatClampNeg
        · rw [hc2] at w
          exact absurd w.2 g
        · have := w.1
          omega
      refine ⟨fun h6 => nx (fun g => ?_), fun h6 => ⟨i3, i3, fun d23 e23 => ?_⟩⟩
      · rw [if_pos g] at h6
        exact absurd h6 (by decide)
      · have g : bt (dl 7 (memA d0 k x)) (memA d0 k x5.toNatClampNeg) = true := by
          cases hb2 : bt (dl 7 (memA d0 k x)) (memA d0 k x5.toNatClampNeg)
          · rw [hb2] at h6
            exact absurd rfl h6
          · rfl
        rw [e3] at e23
        have s23 : StP pN d dl d23 dl := by rw [e23]; exact pw_14 (StP.rf hM.1) rfl
        refine hK _ _ ⟨s23.1, fun i a b c e => by rw [e23, u2_row e]; exact hM.2.1 i a b c e, fun m hmx => ?_⟩ ?_ (by omega) (by omega) (fun c hc => ?_) (by omega)
        · rw [e23, u2_row (by omega), u2_row (by omega), u2_row (by omega), u2_ne (Or.inr (by omega))]
          exact hM.2.2 m hmx
        · rw [e23, u2_row (by omega), u2_row (by omega), u2_row (by omega)]
          exact hx
        · rw [e23, u2_eq, b32_or, b32_one (by omega) (by omega), Bool.or_eq_true]
          constructor
          · intro q
            rcases q with q | q
            · have := (hb c hc).mp q
              exact ⟨by have := this.1; omega, this.2⟩
            · have q := of_decide_eq_true q
              rw [q]
              exact ⟨by omega, g⟩
          · intro ⟨a, b⟩
            by_cases hc2 : c = x5.toNatClampNeg
            · exact Or.inr (decide_eq_true hc2)
            · exact Or.inl ((hb c hc).mpr ⟨by omega, b⟩)
theorem fb_X6_loadMembers_2 {n : Nat} (hn : 1000000000 ≤ n) {Q : DD → LL → Prop} {d0 : DD} {dl : LL} {k : Nat} (hk : k < 6) (hm8 : (d0 10 3).toInt ≤ 8) (hQ : ∀ d : DD, Mb d0 d dl k (d0 10 3).toNatClampNeg → Q d dl) : ∀ (j : Nat) (x : Nat) (x3 : Int32) (d : DD), Mb d0 d dl k x → x3.toInt = (x : Int) → (x : Int) ≤ (d0 10 3).toInt → 9 ≤ x + j → b_X6_loadMembers_2 n Q j k x3 d dl := by
  intro j
  induction j with
  | zero =>
    intro x x3 d hM h3 hx hm
    exfalso
    omega
  | succ j hK =>
    intro x x3 d hM h3 hx hm
    show _ ∧ _
    have e3 := at_n h3
    have r10 : d 10 3 = d0 10 3 := by rw [hM.2.1 10 (by omega) (by omega) (by omega) (by omega)]
    have hn3 : (d0 10 3).toNatClampNeg = (d0 10 3).toInt.toNat := rfl
    refine ⟨fun h => ?_, fun h => ?_⟩
    · have h : (d0 10 3).toInt ≤ (x : Int) := (i_le (by rw [r10]) h3).mp h
      exact hQ d (by rw [show (d0 10 3).toNatClampNeg = x by omega]; exact hM)
    · have h : ¬ (d0 10 3).toInt ≤ (x : Int) := fun q => h ((i_le (by rw [r10]) h3).mpr q)
      have i3 : vp_in x3 8 := vin h3 (by omega) (by omega)
      have mm := iv_38 hM.1 hk x
      have rr : ∀ i, i ≠ 11 → i ≠ 12 → i ≠ 13 → i ≠ 14 → d i = d0 i := hM.2.1
      rw [e3]
      refine ⟨i3, fun v3 ev => ?_⟩
      have hv : v3.toNatClampNeg = memA d0 k x := by
        unfold memA
        rw [if_pos (by omega), ev, rr _ (by omega) (by omega) (by omega) (by omega)]
      rw [← ev] at mm
      have hv2 : v3.toNatClampNeg = v3.toInt.toNat := rfl
      have iv : vp_in v3 40 := vin rfl (by omega) (by omega)
      rw [hv]
      refine ⟨iv, i3, fun d6 e6 => ⟨iv, i3, fun d9 e9 => ⟨iv, i3, fun d12 e12 => ⟨i3, fun d14 e14 => ?_⟩⟩⟩⟩
      have a2 := iv_2 hM.1 (memA d0 k x)
      have s6 : StP pN d dl d6 dl := by rw [e6]; exact pw_11 (StP.rf hM.1) rfl
      have s9 : StP pN d dl d9 dl := by rw [e9]; exact pw_12 s6 rfl
      have s12 : StP pN d dl d12 dl := by rw [e12]; exact pw_13 s9 rfl
      have s14 : StP pN d dl d14 dl := by rw [e14]; exact pw_14 s12 rfl
      have k11 : d14 11 = upd (d 11) x (d 2 (memA d0 k x)) := by rw [e14, u2_row (by omega), e12, u2_row (by omega), e9, u2_row (by omega), e6, u2_own]
      have k12 : d14 12 = upd (d 12) x (d 3 (memA d0 k x)) := by rw [e14, u2_row (by omega), e12, u2_row (by omega), e9, u2_own, e6, u2_row (by omega), u2_row (by omega)]
      have k13 : d14 13 = upd (d 13) x (d 4 (memA d0 k x)) := by rw [e14, u2_row (by omega), e12, u2_own, e9, u2_row (by omega), u2_row (by omega), e6, u2_row (by omega), u2_row (by omega)]
      have k14 : d14 14 = upd (d 14) x 0 := by rw [e14, u2_own, e12, u2_row (by omega), e9, u2_row (by omega), e6, u2_row (by omega)]
      have ko : ∀ i, i ≠ 11 → i ≠ 12 → i ≠ 13 → i ≠ 14 → d14 i = d0 i := fun i a b c e => by rw [e14, u2_row e, e12, u2_row c, e9, u2_row b, e6, u2_row a]; exact rr i a b c e
      refine fb_X6_loadMembers_67 hk h3 (by omega) hm8 (by omega) (by omega) (fun dz Mz => hK (x + 1) _ dz Mz (inc1 h3 (by omega)) (by omega) (by omega)) n 0 d14 ⟨s14.1, ko, fun m hmx => ?_⟩ ?_ (show (0 : Int) ≤ 0 by omega) (show (0 : Int) ≤ 8 by omega) (fun c hc => ?_) (show (9 : Int) ≤ 0 + (n : Int) by omega)
      · rw [k11, k12, k13, k14]
        have u : ∀ (f : Nat → Int32) (v : Int32), upd f x v m = f m := fun f v => by simp [upd, show ¬ m = x by omega]
        rw [u, u, u, u]
        exact hM.2.2 m hmx
      · have u : ∀ (f : Nat → Int32) (v : Int32), upd f x v x = v := fun f v => by simp [upd]
        rw [k11, k12, k13, u, u, u, rr 2 (by omega) (by omega) (by omega) (by omega), rr 3 (by omega) (by omega) (by omega) (by omega), rr 4 (by omega) (by omega) (by omega) (by omega)]
        exact ⟨rfl, rfl, rfl⟩
      · have u : upd (d 14) x (0 : Int32) x = 0 := by simp [upd]
        rw [k14, u, b32_zero]
        exact ⟨fun w => absurd w (by decide), fun w => by have : (c : Int) < 0 := w.1; omega⟩
