def okK (m r x1 x2 : Int32) : Prop := (0 ≤ x1.toInt ∧ x1.toInt < m.toInt) ∧ (0 ≤ x2.toInt ∧ x2.toInt < r.toInt)
def vv9 (d : DD) (k ρ S : Nat) : Nat → Bool := fun t => tb9 d ρ t (tlA d k (d (57 + 6 * ρ) t).toNatClampNeg S)
def KeQ9 (d : DD) (x1 x2 r : Int32) : Prop := (¬ okK (d 0 2) (d 0 7) x1 x2 ∧ r = -1) ∨ (okK (d 0 2) (d 0 7) x1 x2 ∧ d (37 + 3 * x1.toNatClampNeg) 6 = 0 ∧ r = -3) ∨ (okK (d 0 2) (d 0 7) x1 x2 ∧ ¬ d (37 + 3 * x1.toNatClampNeg) 6 = 0 ∧ ∀ S M : Nat, (S : Int) = 2 * (d (37 + 3 * x1.toNatClampNeg) 0).toInt → (d (55 + 6 * x2.toNatClampNeg) 0).toInt = (M : Int) → hb r ((hl (oo9 d x2.toNatClampNeg) (vv9 d x1.toNatClampNeg x2.toNatClampNeg S) M).1 || (hl (oo9 d x2.toNatClampNeg) (vv9 d x1.toNatClampNeg x2.toNatClampNeg S) M).2))
theorem st27 {d dz : DD} {dl : LL} (hz : Inv dz) (h : ∀ i, i ≠ 27 → dz i = d i) : St d dl dz dl := by
  refine ⟨hz, fun i j q => ?_, fun _ _ _ => rfl⟩
  by_cases e : i = 27
  · subst e
    exact absurd (show false = true from q) (by decide)
  · rw [h i e]
theorem sp_X9_keepsF {n : Nat} (hn : 1000000000 ≤ n) {x1 x2 : Int32} {d : DD} {dl : LL} (hI : Inv d) {Q : Int32 → DD → LL → Prop} (hQ : ∀ (r : Int32) (d2 : DD) (l2 : LL), St d dl d2 l2 ∧ KeQ9 d x1 x2 r → Q r d2 l2) : F_X9_keeps n x1 x2 d dl Q := by
  have mk := iv_0_2 hI
  have mr := iv_0_7 hI
  have bad : ¬ okK (d 0 2) (d 0 7) x1 x2 → Q (-1) d dl := fun h => hQ _ _ _ ⟨St.rf hI, Or.inl ⟨h, rfl⟩⟩
  refine fn_isCrew9 hn hI (fun g1 => ⟨fun w => absurd w (by decide), fun _ => ?_⟩) (fun g1 => ⟨fun _ => bad (fun h => g1 h.1), fun w => absurd rfl w⟩)
  have t7 : ((d 0 7) - 1).toInt = (d 0 7).toInt - 1 := ti_sub rfl (rfl : (1 : Int32).toInt = 1) (by omega) (by omega)
  refine fn_within (p := 0) hn rfl t7 hI (fun g2 => ⟨fun _ => ?_, fun w => absurd w (by decide)⟩) (fun g2 => ⟨fun w => absurd rfl w, fun _ => bad (fun h => g2 (by have := h.2; omega))⟩)
  have ok : okK (d 0 2) (d 0 7) x1 x2 := ⟨g1, by omega⟩
  have i6 : vp_in x1 6 := vin rfl (by omega) (by omega)
  have j6 : vp_in x2 6 := vin rfl (by omega) (by omega)
  have hk := clamp_in i6
  have hr := clamp_in j6
  refine ⟨i6, fun k10 e10 => ?_⟩
  subst e10
  refine ⟨fun w => ⟨i6, fun k13 e13 => ?_⟩, fun w => hQ _ _ _ ⟨St.rf hI, Or.inr (Or.inl ⟨ok, w, rfl⟩)⟩⟩
  subst e13
  have mR := iv_37_0 hI hk
  obtain ⟨S, hS⟩ : ∃ S : Nat, (S : Int) = 2 * (d (37 + 3 * x1.toNatClampNeg) 0).toInt := ⟨(2 * (d (37 + 3 * x1.toNatClampNeg) 0).toInt).toNat, by omega⟩
  refine fb_X9_tallySeated_2 hn hk hS hI (fun dz iz fz tz => ⟨j6, fun k18 e18 => ?_⟩) n 0 0 d hI (fun _ _ => rfl) rfl (Nat.zero_le _) (fun f hf => absurd hf (Nat.not_lt_zero _)) (by omega)
  subst e18
  have mM := iv_55_0 iz hr
  obtain ⟨M, hM⟩ : ∃ M : Nat, (dz (55 + 6 * x2.toNatClampNeg) 0).toInt = (M : Int) := ⟨(dz (55 + 6 * x2.toNatClampNeg) 0).toInt.toNat, by omega⟩
  have hM0 : (d (55 + 6 * x2.toNatClampNeg) 0).toInt = (M : Int) := by rw [← fz _ (by omega)]; exact hM
  have eo : oo9 dz x2.toNatClampNeg = oo9 d x2.toNatClampNeg := by unfold oo9; rw [fz _ (by omega)]
  have et : tt9 dz x2.toNatClampNeg = vv9 d x1.toNatClampNeg x2.toNatClampNeg S := by
    funext t
    unfold tt9 vv9 tb9
    have m57 := iv_57 iz hr t
    have hc : (dz (57 + 6 * x2.toNatClampNeg) t).toNatClampNeg = (dz (57 + 6 * x2.toNatClampNeg) t).toInt.toNat := rfl
    rw [tz _ (by omega), fz (56 + 6 * x2.toNatClampNeg) (by omega), fz (57 + 6 * x2.toNatClampNeg) (by omega), fz (58 + 6 * x2.toNatClampNeg) (by omega), fz (59 + 6 * x2.toNatClampNeg) (by omega)]
  have fin : ∀ r : Int32, hb r ((hl (oo9 dz x2.toNatClampNeg) (tt9 dz x2.toNatClampNeg) M).1 || (hl (oo9 dz x2.toNatClampNeg) (tt9 dz x2.toNatClampNeg) M).2) → Q r dz dl := fun r hr => by
    rw [eo, et] at hr
    exact hQ _ _ _ ⟨st27 iz fz, Or.inr (Or.inr ⟨ok, w, fun S2 M2 hS2 hM2 => by rw [show S2 = S by omega, show M2 = M by omega]; exact hr⟩)⟩
  refine fb_X5_holds_7 hr iz hM (fun r hr => ⟨fun q => fin 0 (Or.inr ⟨rfl, hb0 hr q⟩), fun q => fin 1 (Or.inl ⟨rfl, hb1 hr q⟩)⟩) n 0 0 1 0 rfl (Nat.zero_le _) (Or.inr ⟨rfl, rfl⟩) (Or.inl ⟨rfl, rfl⟩) (by omega)
theorem fb_X10_field_5 {n : Nat} {Q : Int32 → DD → LL → Prop} {k S f : Nat} (hk : k < 6) {x1 x2 : Int32} {d : DD} {dl : LL} (hI : Inv d) (h1 : x1.toInt = (k : Int)) (h2 : x2.toInt = (f : Int)) (hf : f ≤ 5) (hS : (S : Int) = 2 * (d 218 k).toInt) (hQ : ∀ r : Int32, r.toInt = tlB d k f S → Q r d dl) : ∀ (j i : Nat) (x3 x4 : Int32), x4.toInt = (i : Int) → i ≤ S → x3.toInt = tlB d k f i → 9 ≤ i + j → b_X10_field_5 n Q j x1 x2 x3 x4 d dl := by
  have mR := iv_218 hI k
  have hS8 : S ≤ 8 := by omega
  have e1 := at_n h1
  have i6 : vp_in x1 6 := vin h1 (by omega) (by omega)
  intro j
  induction j with
  | zero =>
    intro i x3 x4 h4 hi h3 hj
    exfalso
    omega
  | succ j ih =>
    intro i x3 x4 h4 hi h3 hj
    show _ ∧ _
    have t2 : ((2 : Int32) * (d 218 k)).toInt = (S : Int) := by
      have t : ((2 : Int32) * (d 218 k)).toInt = 2 * (d 218 k).toInt := ti_mul (rfl : (2 : Int32).toInt = 2) rfl (by omega) (by omega)
      rw [t]; omega
    rw [e1]
    refine ⟨i6, fun w => ?_, fun w => ?_⟩
    · have w : (S : Int) ≤ (i : Int) := (i_le t2 h4).mp w
      have hiS : i = S := by omega
      exact hQ x3 (by rw [← hiS]; exact h3)
    · have w : ¬ (S : Int) ≤ (i : Int) := fun q => w ((i_le t2 h4).mpr q)
      have t8 : (((8 : Int32) * x1) + x4).toInt = ((8 * k + i : Nat) : Int) := by
        have t : (((8 : Int32) * x1) + x4).toInt = 8 * (k : Int) + (i : Int) := ti_add (ti_mul (rfl : (8 : Int32).toInt = 8) h1 (by omega) (by omega)) h4 (by omega) (by omega)
        rw [t]; omega
      rw [at_n t8]
      refine ⟨vin t8 (by omega) (by omega), fun v4 e4 => ?_⟩
      have m4 := iv_223 hI (8 * k + i)
      rw [← e4] at m4
      have p4 : v4.toNatClampNeg = whB d 223 (8 * k) i := by
        unfold whB
        rw [e4]
      have i4 : vp_in v4 40 := vin rfl m4.1 (by omega)
      rw [p4]
      have bi := tlB_in hI k f (show i ≤ 8 by omega)
      have hs : tlB d k f (i + 1) = tlB d k f i + fv (sxB d) (agB d) (wB d) (whB d 223 (8 * k) i) f := tlB_s
      generalize whB d 223 (8 * k) i = p at *
      have fi := fvB_in hI p f
      have nx : ∀ y : Int32, y.toInt = fv (sxB d) (agB d) (wB d) p f → b_X10_field_5 n Q j x1 x2 (x3 + y) (x4 + 1) d dl := fun y hy =>
        ih (i + 1) _ _ (inc1 h4 (by omega)) (by omega) (by rw [hs]; exact ti_add h3 hy (by omega) (by omega)) (by omega)
      have ms := iv_215 hI p
      refine ⟨fun c => ⟨i4, fun a v7 e7 => ?_, fun a v7 e7 => ?_⟩, fun c => ⟨i4, fun v9 e9 => ?_⟩, fun c => ⟨i4, fun a v e => ?_, fun a v e => ?_⟩, fun c => ⟨i4, fun a v e => ?_, fun a v e => ?_⟩, fun c => ⟨i4, fun v17 e17 => ?_⟩, fun c => ?_⟩
      · have c : (f : Int) = 0 := (i_eq h2 (rfl : (0 : Int32).toInt = 0)).mp c
        have a : ¬ (d 215 p).toInt = 0 := fun q => a ((i_eq rfl (rfl : (0 : Int32).toInt = 0)).mpr q)
        rw [e7]
        refine nx 0 ?_
        rw [show f = 0 by omega]
        show (0 : Int) = if (d 215 p).toInt = 0 then 1 else 0
        rw [if_neg a]
      · have c : (f : Int) = 0 := (i_eq h2 (rfl : (0 : Int32).toInt = 0)).mp c
        have a : (d 215 p).toInt = 0 := (i_eq rfl (rfl : (0 : Int32).toInt = 0)).mp a
        rw [e7]
        refine nx 1 ?_
        rw [show f = 0 by omega]
        show (1 : Int) = if (d 215 p).toInt = 0 then 1 else 0
        rw [if_pos a]
      · have c : (f : Int) = 1 := (i_eq h2 (rfl : (1 : Int32).toInt = 1)).mp c
        rw [e9]
        refine nx _ ?_
        rw [show f = 1 by omega]
        show (d 215 p).toInt = if (d 215 p).toInt = 0 then 0 else 1
        by_cases a : (d 215 p).toInt = 0
        · rw [if_pos a, a]
        · rw [if_neg a]; omega
      · have c : (f : Int) = 2 := (i_eq h2 (rfl : (2 : Int32).toInt = 2)).mp c
        have a : (d 216 p).toInt < 40 := (i_lt rfl (rfl : (40 : Int32).toInt = 40)).mp a
        rw [e]
        refine nx 0 ?_
        rw [show f = 2 by omega]
        show (0 : Int) = if 40 ≤ (d 216 p).toInt then 1 else 0
        rw [if_neg (by omega)]
      · have c : (f : Int) = 2 := (i_eq h2 (rfl : (2 : Int32).toInt = 2)).mp c
        have a : ¬ (d 216 p).toInt < 40 := fun q => a ((i_lt rfl (rfl : (40 : Int32).toInt = 40)).mpr q)
        rw [e]
        refine nx 1 ?_
        rw [show f = 2 by omega]
        show (1 : Int) = if 40 ≤ (d 216 p).toInt then 1 else 0
        rw [if_pos (by omega)]
      · have c : (f : Int) = 3 := (i_eq h2 (rfl : (3 : Int32).toInt = 3)).mp c
        have a : 18 ≤ (d 216 p).toInt := (i_le (rfl : (18 : Int32).toInt = 18) rfl).mp a
        rw [e]
        refine nx 0 ?_
        rw [show f = 3 by omega]
        show (0 : Int) = if (d 216 p).toInt < 18 then 1 else 0
        rw [if_neg (by omega)]
      · have c : (f : Int) = 3 := (i_eq h2 (rfl : (3 : Int32).toInt = 3)).mp c
        have a : ¬ 18 ≤ (d 216 p).toInt := fun q => a ((i_le (rfl : (18 : Int32).toInt = 18) rfl).mpr q)
        rw [e]
        refine nx 1 ?_
        rw [show f = 3 by omega]
        show (1 : Int) = if (d 216 p).toInt < 18 then 1 else 0
        rw [if_pos (by omega)]
      · have c : (f : Int) = 4 := (i_eq h2 (rfl : (4 : Int32).toInt = 4)).mp c
        rw [e17]
        refine nx _ ?_
        rw [show f = 4 by omega]
        rfl
      · rw [h2] at c
        refine nx 1 ?_
        rw [show f = 5 by omega]
        rfl
def sn (v m : Int) : Int32 := if v < m then -1 else if m < v then 1 else 0
def tb10 (d : DD) (x : Nat) (v : Int) : Bool := decide (sn v (d 229 x).toInt = d 228 x) != decide (¬ d 230 x = 0)
def oo10 (d : DD) (ρ : Nat) : Nat → Bool := fun t => decide (¬ d 231 (8 * ρ + t) = 0)
def vv10 (d : DD) (k ρ S : Nat) : Nat → Bool := fun t => tb10 d (8 * ρ + t) (tlB d k (d 227 (8 * ρ + t)).toNatClampNeg S)
theorem fb_X10_keeps_42 {n : Nat} (hn : 1000000000 ≤ n) {Q : Int32 → DD → LL → Prop} {k ρ S M : Nat} (hk : k < 6) (hρ : ρ < 6) {x1 x2 : Int32} {d : DD} {dl : LL} (hI : Inv d) (h1 : x1.toInt = (k : Int)) (h2 : x2.toInt = (ρ : Int)) (hS : (S : Int) = 2 * (d 218 k).toInt) (hM : (d 226 ρ).toInt = (M : Int)) (hQ : ∀ r : Int32, hb r ((hl (oo10 d ρ) (vv10 d k ρ S) M).1 || (hl (oo10 d ρ) (vv10 d k ρ S) M).2) → Q r d dl) : ∀ (j t : Nat) (x3 x4 x5 : Int32), x5.toInt = (t : Int) → t ≤ M → hb x3 (hl (oo10 d ρ) (vv10 d k ρ S) t).1 → hb x4 (hl (oo10 d ρ) (vv10 d k ρ S) t).2 → 9 ≤ t + j → b_X10_keeps_42 n Q j x1 x2 x3 x4 x5 d dl := by
  have mM := iv_226 hI ρ
  have e2 := at_n h2
  have i6 : vp_in x2 6 := vin h2 (by omega) (by omega)
  intro j
  induction j with
  | zero =>
    intro t x3 x4 x5 h5 ht ha hc hj
    exfalso
    omega
  | succ j ih =>
    intro t x3 x4 x5 h5 ht ha hc hj
    show _ ∧ _
    rw [e2]
    refine ⟨i6, fun w => ?_, fun w => ?_⟩
    · have w : (M : Int) ≤ (t : Int) := (i_le hM h5).mp w
      have htM : t = M := by omega
      rw [htM] at ha hc
      refine ⟨fun a => hQ 1 (Or.inl ⟨rfl, by rw [hb1 ha a]; rfl⟩), fun a => ⟨fun b => hQ 0 (Or.inr ⟨rfl, by rw [hb0 ha a, hb0 hc b]; rfl⟩), fun b => hQ 1 (Or.inl ⟨rfl, by rw [hb1 hc b, Bool.or_true]⟩)⟩⟩
    · have w : ¬ (M : Int) ≤ (t : Int) := fun q => w ((i_le hM h5).mpr q)
      intro v13 e13
      have t13 : v13.toInt = ((8 * ρ + t : Nat) : Int) := by
        have t : v13.toInt = 8 * (ρ : Int) + (t : Int) := by rw [e13]; exact ti_add (ti_mul (rfl : (8 : Int32).toInt = 8) h2 (by omega) (by omega)) h5 (by omega) (by omega)
        rw [t]; omega
      have n13 := at_n t13
      have i48 : vp_in v13 48 := vin t13 (by omega) (by omega)
      have t5 : (x5 + 1).toInt = ((t + 1 : Nat) : Int) := inc1 h5 (by omega)
      have m27 := iv_227 hI (8 * ρ + t)
      have m30 := iv_230 hI (8 * ρ + t)
      have hc27 : (d 227 (8 * ρ + t)).toNatClampNeg = (d 227 (8 * ρ + t)).toInt.toNat := rfl
      have st : ∀ (y3 y4 : Int32), hb y3 (if oo10 d ρ t = true then ((hl (oo10 d ρ) (vv10 d k ρ S) t).1 || (hl (oo10 d ρ) (vv10 d k ρ S) t).2) else (hl (oo10 d ρ) (vv10 d k ρ S) t).1) → hb y4 (if oo10 d ρ t = true then true else (hl (oo10 d ρ) (vv10 d k ρ S) t).2) → b_X10_keeps_90 n Q (b_X10_keeps_42 n Q j) x1 x2 y3 y4 x5 v13 d dl := by
        intro y3 y4 h3 h4
        unfold b_X10_keeps_90 b_X10_keeps_137 b_X10_keeps_161 b_X10_keeps_175
        rw [n13]
        refine ⟨i48, ?_⟩
        refine fb_X10_field_5 (n := n) (f := (d 227 (8 * ρ + t)).toNatClampNeg) hk hI h1 (by omega) (by omega) hS (fun r17 hr17 => ⟨i48, ?_⟩) n 0 0 0 rfl (Nat.zero_le _) rfl (by omega)
        have no : (y4 = 0 ∨ vv10 d k ρ S t = false) → (b_X10_keeps_42 n Q j) x1 x2 y3 0 (x5 + 1) d dl := fun q => ih (t + 1) _ _ _ t5 (by omega) h3 (Or.inr ⟨rfl, by
          show ((if oo10 d ρ t = true then true else (hl (oo10 d ρ) (vv10 d k ρ S) t).2) && vv10 d k ρ S t) = false
          rcases q with q | q
          · rw [hb0 h4 q]; rfl
          · rw [q, Bool.and_false]⟩) (by omega)
        have yes : ¬ y4 = 0 → vv10 d k ρ S t = true → (b_X10_keeps_42 n Q j) x1 x2 y3 1 (x5 + 1) d dl := fun a q => ih (t + 1) _ _ _ t5 (by omega) h3 (Or.inl ⟨rfl, by
          show ((if oo10 d ρ t = true then true else (hl (oo10 d ρ) (vv10 d k ρ S) t).2) && vv10 d k ρ S t) = true
          rw [hb1 h4 a, q]; rfl⟩) (by omega)
        have body : ∀ xs : Int32, xs = sn r17.toInt (d 229 (8 * ρ + t)).toInt → (y4 = 0 → (b_X10_keeps_42 n Q j) x1 x2 y3 0 (x5 + 1) d dl) ∧ (¬ y4 = 0 → vp_in v13 48 ∧ (¬ xs = d 228 (8 * ρ + t) → vp_in v13 48 ∧ ((0 : Int32) = d 230 (8 * ρ + t) → (b_X10_keeps_42 n Q j) x1 x2 y3 0 (x5 + 1) d dl) ∧ (¬ (0 : Int32) = d 230 (8 * ρ + t) → (b_X10_keeps_42 n Q j) x1 x2 y3 1 (x5 + 1) d dl)) ∧ (xs = d 228 (8 * ρ + t) → vp_in v13 48 ∧ ((1 : Int32) = d 230 (8 * ρ + t) → (b_X10_keeps_42 n Q j) x1 x2 y3 0 (x5 + 1) d dl) ∧ (¬ (1 : Int32) = d 230 (8 * ρ + t) → (b_X10_keeps_42 n Q j) x1 x2 y3 1 (x5 + 1) d dl))) := by
          intro xs hxs
          have hv : vv10 d k ρ S t = (decide (xs = d 228 (8 * ρ + t)) != decide (¬ d 230 (8 * ρ + t) = 0)) := by
            unfold vv10 tb10
            rw [← hr17, hxs]
          refine ⟨fun a => no (Or.inl a), fun a => ⟨i48, fun b => ?_, fun b => ?_⟩⟩
          · rw [decide_eq_false b] at hv
            refine ⟨i48, fun z => no (Or.inr ?_), fun z => yes a ?_⟩
            · rw [hv, decide_eq_false (show ¬ ¬ d 230 (8 * ρ + t) = 0 from fun q => q z.symm)]; rfl
            · rw [hv, decide_eq_true (show ¬ d 230 (8 * ρ + t) = 0 from fun q => z q.symm)]; rfl
          · rw [decide_eq_true b] at hv
            refine ⟨i48, fun z => no (Or.inr ?_), fun z => yes a ?_⟩
            · rw [hv, decide_eq_true (show ¬ d 230 (8 * ρ + t) = 0 by rw [← z]; decide)]; rfl
            · have z0 : d 230 (8 * ρ + t) = 0 := by
                have q1 : ¬ (d 230 (8 * ρ + t)).toInt = 1 := fun q => z ((i_eq rfl (rfl : (1 : Int32).toInt = 1)).mpr q).symm
                have h9 : (d 230 (8 * ρ + t)).toInt = 0 := by omega
                exact (i_eq h9 (rfl : (0 : Int32).toInt = 0)).mpr rfl
              rw [hv, decide_eq_false (show ¬ ¬ d 230 (8 * ρ + t) = 0 from fun q => q z0)]; rfl
        refine ⟨fun a => ⟨i48, fun b => body 0 ?_, fun b => body 1 ?_⟩, fun a => body (-1) ?_⟩
        · have a : (d 229 (8 * ρ + t)).toInt ≤ r17.toInt := (i_le rfl rfl).mp a
          have b : r17.toInt ≤ (d 229 (8 * ρ + t)).toInt := (i_le rfl rfl).mp b
          unfold sn
          rw [if_neg (by omega), if_neg (by omega)]
        · have a : (d 229 (8 * ρ + t)).toInt ≤ r17.toInt := (i_le rfl rfl).mp a
          have b : ¬ r17.toInt ≤ (d 229 (8 * ρ + t)).toInt := fun q => b ((i_le rfl rfl).mpr q)
          unfold sn
          rw [if_neg (by omega), if_pos (by omega)]
        · have a : ¬ (d 229 (8 * ρ + t)).toInt ≤ r17.toInt := fun q => a ((i_le rfl rfl).mpr q)
          unfold sn
          rw [if_pos (by omega)]
      rw [n13]
      refine ⟨i48, fun o => ?_, fun o => ?_⟩
      · have ho : ¬ oo10 d ρ t = true := fun q => (of_decide_eq_true q) o
        exact st x3 x4 (by rw [if_neg ho]; exact ha) (by rw [if_neg ho]; exact hc)
      · have ho : oo10 d ρ t = true := decide_eq_true o
        have s1 : hb 1 ((hl (oo10 d ρ) (vv10 d k ρ S) t).1 || (hl (oo10 d ρ) (vv10 d k ρ S) t).2) → b_X10_keeps_81 n Q (b_X10_keeps_42 n Q j) x1 x2 x5 v13 d dl := fun q => st 1 1 (by rw [if_pos ho]; exact q) (by rw [if_pos ho]; exact Or.inl ⟨rfl, rfl⟩)
        refine ⟨fun a => s1 (Or.inl ⟨rfl, by rw [hb1 ha a]; rfl⟩), fun a => ⟨fun b => st 0 1 (by rw [if_pos ho]; exact Or.inr ⟨rfl, by rw [hb0 ha a, hb0 hc b]; rfl⟩) (by rw [if_pos ho]; exact Or.inl ⟨rfl, rfl⟩), fun b => s1 (Or.inl ⟨rfl, by rw [hb1 hc b, Bool.or_true]⟩)⟩⟩
def KeQ10 (d : DD) (x1 x2 r : Int32) : Prop := (¬ okK (d 211 1) (d 211 2) x1 x2 ∧ r = -1) ∨ (okK (d 211 1) (d 211 2) x1 x2 ∧ d 224 x1.toNatClampNeg = 0 ∧ r = -3) ∨ (okK (d 211 1) (d 211 2) x1 x2 ∧ ¬ d 224 x1.toNatClampNeg = 0 ∧ ∀ S M : Nat, (S : Int) = 2 * (d 218 x1.toNatClampNeg).toInt → (d 226 x2.toNatClampNeg).toInt = (M : Int) → hb r ((hl (oo10 d x2.toNatClampNeg) (vv10 d x1.toNatClampNeg x2.toNatClampNeg S) M).1 || (hl (oo10 d x2.toNatClampNeg) (vv10 d x1.toNatClampNeg x2.toNatClampNeg S) M).2))
theorem sp_X10_keepsF {n : Nat} (hn : 1000000000 ≤ n) {x1 x2 : Int32} {d : DD} {dl : LL} (hI : Inv d) {Q : Int32 → DD → LL → Prop} (hQ : ∀ (r : Int32) (d2 : DD) (l2 : LL), Sq d dl d2 l2 ∧ KeQ10 d x1 x2 r → Q r d2 l2) : F_X10_keeps n x1 x2 d dl Q := by
  have mk := iv_211_1 hI
  have mr := iv_211_2 hI
  have bad : ¬ okK (d 211 1) (d 211 2) x1 x2 → Q (-1) d dl := fun h => hQ _ _ _ ⟨⟨hI, rfl, rfl⟩, Or.inl ⟨h, rfl⟩⟩
  refine fn_isCrew10 hn hI (fun g1 => ⟨fun w => absurd w (by decide), fun _ => ?_⟩) (fun g1 => ⟨fun _ => bad (fun h => g1 h.1), fun w => absurd rfl w⟩)
  have i6 : vp_in x1 6 := vin rfl (by omega) (by omega)
  have hk := clamp_in i6
  have hx : x1.toNatClampNeg = x1.toInt.toNat := rfl
  have hx2 : x2.toNatClampNeg = x2.toInt.toNat := rfl
  refine ⟨fun w => bad (fun o => ?_), fun a1 => ⟨fun a2 => ⟨i6, fun w => ?_, fun w => ?_⟩, fun w => bad (fun o => ?_)⟩⟩
  · have w : x2.toInt < 0 := (i_lt rfl (rfl : (0 : Int32).toInt = 0)).mp w
    have := o.2; omega
  · have a1 : ¬ x2.toInt < 0 := fun q => a1 ((i_lt rfl (rfl : (0 : Int32).toInt = 0)).mpr q)
    have a2 : x2.toInt < (d 211 2).toInt := (i_lt rfl rfl).mp a2
    have ok : okK (d 211 1) (d 211 2) x1 x2 := ⟨g1, by omega⟩
    have mR := iv_218 hI x1.toNatClampNeg
    have mM := iv_226 hI x2.toNatClampNeg
    obtain ⟨S, hS⟩ : ∃ S : Nat, (S : Int) = 2 * (d 218 x1.toNatClampNeg).toInt := ⟨(2 * (d 218 x1.toNatClampNeg).toInt).toNat, by omega⟩
    obtain ⟨M, hM⟩ : ∃ M : Nat, (d 226 x2.toNatClampNeg).toInt = (M : Int) := ⟨(d 226 x2.toNatClampNeg).toInt.toNat, by omega⟩
    refine fb_X10_keeps_42 hn hk (show x2.toNatClampNeg < 6 by omega) hI (by omega) (by omega) hS hM (fun r hr => hQ _ _ _ ⟨⟨hI, rfl, rfl⟩, Or.inr (Or.inr ⟨ok, w, fun S2 M2 hS2 hM2 => by rw [show S2 = S by omega, show M2 = M by omega]; exact hr⟩)⟩) n 0 0 1 0 rfl (Nat.zero_le _) (Or.inr ⟨rfl, rfl⟩) (Or.inl ⟨rfl, rfl⟩) (by omega)
  · have a1 : ¬ x2.toInt < 0 := fun q => a1 ((i_lt rfl (rfl : (0 : Int32).toInt = 0)).mpr q)
    have a2 : x2.toInt < (d 211 2).toInt := (i_lt rfl rfl).mp a2
    exact hQ _ _ _ ⟨⟨hI, rfl, rfl⟩, Or.inr (Or.inl ⟨⟨g1, by omega⟩, w, rfl⟩)⟩
  · have w : ¬ x2.toInt < (d 211 2).toInt := fun q => w ((i_lt rfl rfl).mpr q)
    have := o.2; omega
theorem cmp_eq {c e : Int32} {v m : Int} (hc : c = 60 ∨ c = 61 ∨ c = 62) (he : sg c = e) : cmp9 c v m = decide (sn v m = e) := by
  rcases hc with rfl | rfl | rfl
  · rw [← he, show sg 60 = -1 from rfl, show cmp9 60 v m = decide (v < m) from rfl]
    unfold sn
    by_cases h1 : v < m
    · rw [if_pos h1, decide_eq_true h1]; rfl
    · rw [if_neg h1, decide_eq_false h1]
      by_cases h2 : m < v
      · rw [if_pos h2]; rfl
      · rw [if_neg h2]; rfl
  · rw [← he, show sg 61 = 0 from rfl, show cmp9 61 v m = decide (v = m) from rfl]
    unfold sn
    by_cases h1 : v < m
    · rw [if_pos h1, decide_eq_false (by omega)]; rfl
    · rw [if_neg h1]
      by_cases h2 : m < v
      · rw [if_pos h2, decide_eq_false (by omega)]; rfl
      · rw [if_neg h2, decide_eq_true (by omega)]; rfl
  · rw [← he, show sg 62 = 1 from rfl, show cmp9 62 v m = decide (m < v) from rfl]
    unfold sn
    by_cases h1 : v < m
    · rw [if_pos h1, decide_eq_false (by omega)]; rfl
    · rw [if_neg h1]
      by_cases h2 : m < v
      · rw [if_pos h2, decide_eq_true h2]; rfl
      · rw [if_neg h2, decide_eq_false h2]; rfl
theorem keeps_step {d d1 d2 : DD} {dl l1 lw : LL} {r1 r2 x1 x2 : Int32} (h : R0 d dl) (p1 : St d dl d1 l1) (q1 : KeQ9 d x1 x2 r1) (p2 : Sq d1 l1 d2 lw) (q2 : KeQ10 d1 x1 x2 r2) : R0 d2 lw ∧ r1 = r2 := by
  have hR1 := h.st p1
  obtain ⟨_, rfl, rfl⟩ := p2
  refine ⟨hR1, ?_⟩
  have c4 : d 0 2 = d 211 1 := h.c4
  have c13 : d 0 7 = d 211 2 := h.c13
  have m := iv_0_2 h.i
  have m7 := iv_0_7 h.i
  have hx : x1.toNatClampNeg = x1.toInt.toNat := rfl
  have hx2 : x2.toNatClampNeg = x2.toInt.toNat := rfl
  have k : ∀ i j, rl (rg i) j = true → d2 i j = d i j := p1.2.1
  have e1 : d2 211 1 = d 0 2 := by rw [k 211 1 rfl, c4]
  have e2 : d2 211 2 = d 0 7 := by rw [k 211 2 rfl, c13]
  have e224 : d2 224 = d 224 := funext (fun l => k 224 l rfl)
  unfold KeQ10 at q2
  rw [e1, e2, e224] at q2
  by_cases g : okK (d 0 2) (d 0 7) x1 x2
  rotate_left
  · rcases q1 with ⟨_, a⟩ | ⟨o, _⟩ | ⟨o, _⟩
    · rcases q2 with ⟨_, b⟩ | ⟨o, _⟩ | ⟨o, _⟩
      · rw [a, b]
      all_goals exact absurd o g
    all_goals exact absurd o g
  have g1 := g.1
  have g2 := g.2
  have hk : x1.toNatClampNeg < 6 := by omega
  have hr : x2.toNatClampNeg < 6 := by omega
  have c18 := h.c18 _ hk
  rw [← c18] at q2
  rcases q1 with ⟨o, _⟩ | ⟨_, s, a⟩ | ⟨_, s, a⟩
  · exact absurd g o
  · rcases q2 with ⟨o, _⟩ | ⟨_, _, b⟩ | ⟨_, s2, _⟩
    · exact absurd g o
    · rw [a, b]
    · exact absurd s s2
  · rcases q2 with ⟨o, _⟩ | ⟨_, s2, _⟩ | ⟨_, _, b⟩
    · exact absurd g o
    · exact absurd s2 s
    have c16 := h.c16 _ hk (by omega)
    have c21 := h.c21 _ hr (by omega)
    have mR := iv_37_0 h.i hk
    have mM := iv_55_0 h.i hr
    obtain ⟨S, hS⟩ : ∃ S : Nat, (S : Int) = 2 * (d (37 + 3 * x1.toNatClampNeg) 0).toInt := ⟨(2 * (d (37 + 3 * x1.toNatClampNeg) 0).toInt).toNat, by omega⟩
    obtain ⟨M, hM⟩ : ∃ M : Nat, (d (55 + 6 * x2.toNatClampNeg) 0).toInt = (M : Int) := ⟨(d (55 + 6 * x2.toNatClampNeg) 0).toInt.toNat, by omega⟩
    have e218 : d2 218 x1.toNatClampNeg = d (37 + 3 * x1.toNatClampNeg) 0 := by rw [k 218 _ rfl, c16.1]
    have e226 : d2 226 x2.toNatClampNeg = d (55 + 6 * x2.toNatClampNeg) 0 := by rw [k 226 _ rfl, c21.1]
    have s' : ¬ d 224 x1.toNatClampNeg = 0 := by rw [← c18]; exact s
    have c19 := (h.c19 _ hk s').2
    have wh : ∀ i, i < S → whA d x1.toNatClampNeg i = whB d2 223 (8 * x1.toNatClampNeg) i := by
      intro i hi
      unfold whA whB
      rw [k 223 _ rfl, c19 i (by rw [← c16.1]; omega)]
    have hs : sxB d2 = sxA d := by
      funext p
      unfold sxA sxB
      rw [k 215 _ rfl, (h.c15 _).2.2.2.1]
    have hg : agB d2 = agA d := by
      funext p
      unfold agA agB
      rw [k 216 _ rfl, (h.c15 _).2.2.2.2]
    have hw : wB d2 = wA d := by
      funext p
      unfold wA wB
      rw [k 212 _ rfl, (h.c15 _).1]
    have tl : ∀ f, tlA d x1.toNatClampNeg f S = tlB d2 x1.toNatClampNeg f S := by
      intro f
      unfold tlA tlB
      rw [hs, hg, hw]
      exact sm_k S (fun i hi => by rw [wh i hi])
    have a := a S M hS hM
    have b := b S M (by rw [e218]; exact hS) (by rw [e226]; exact hM)
    rw [hl_k (o2 := oo10 d2 x2.toNatClampNeg) (t2 := vv10 d2 x1.toNatClampNeg x2.toNatClampNeg S) M (fun i hi => ?_)] at a
    · rcases a with ⟨a1, a2⟩ | ⟨a1, a2⟩
      · rcases b with ⟨b1, _⟩ | ⟨_, b2⟩
        · rw [a1, b1]
        · exact absurd (a2.symm.trans b2) (by decide)
      · rcases b with ⟨_, b2⟩ | ⟨b1, _⟩
        · exact absurd (a2.symm.trans b2) (by decide)
        · rw [a1, b1]
    · have hi8 : i < 8 := by omega
      obtain ⟨y0, y7, yc, y8, y9, y1⟩ := c21.2 i hi8 (by rw [← c21.1, hM]; omega)
      refine ⟨?_, ?_⟩
      · unfold oo9 oo10
        rw [k 231 _ rfl, y1]
      · unfold vv9 vv10 tb9 tb10
        rw [tl, cmp_eq yc y8, k 227 _ rfl, k 228 _ rfl, k 229 _ rfl, k 230 _ rfl, y7, y9, y0]
