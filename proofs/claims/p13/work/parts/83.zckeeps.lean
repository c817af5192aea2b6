def fv (sx ag wt : Nat → Int) (p f : Nat) : Int := if f = 0 then (if sx p = 0 then 1 else 0) else if f = 1 then (if sx p = 0 then 0 else 1) else if f = 2 then (if 40 ≤ ag p then 1 else 0) else if f = 3 then (if ag p < 18 then 1 else 0) else if f = 4 then wt p else 1
def sxA (d : DD) : Nat → Int := fun p => (d 5 p).toInt
def agA (d : DD) : Nat → Int := fun p => (d 6 p).toInt
def sxB (d : DD) : Nat → Int := fun p => (d 215 p).toInt
def agB (d : DD) : Nat → Int := fun p => (d 216 p).toInt
def tlA (d : DD) (k f S : Nat) : Int := sm (fun s => fv (sxA d) (agA d) (wA d) (whA d k s) f) S
def tlB (d : DD) (k f S : Nat) : Int := sm (fun s => fv (sxB d) (agB d) (wB d) (whB d 223 (8 * k) s) f) S
theorem fvA_in {d : DD} (hI : Inv d) (p f : Nat) : 0 ≤ fv (sxA d) (agA d) (wA d) p f ∧ fv (sxA d) (agA d) (wA d) p f ≤ 150 := by
  have m := iv_2 hI p
  unfold fv wA
  repeat' split
  all_goals omega
theorem fvB_in {d : DD} (hI : Inv d) (p f : Nat) : 0 ≤ fv (sxB d) (agB d) (wB d) p f ∧ fv (sxB d) (agB d) (wB d) p f ≤ 150 := by
  have m := iv_212 hI p
  unfold fv wB
  repeat' split
  all_goals omega
theorem tlA_in {d : DD} (hI : Inv d) (k f : Nat) {S : Nat} (hS : S ≤ 8) : 0 ≤ tlA d k f S ∧ tlA d k f S ≤ 1200 := by
  have := sm_in (f := fun s => fv (sxA d) (agA d) (wA d) (whA d k s) f) (a := 0) (b := 150) (by omega) (by omega) S hS (fun i _ => fvA_in hI _ f)
  unfold tlA
  omega
theorem tlB_in {d : DD} (hI : Inv d) (k f : Nat) {S : Nat} (hS : S ≤ 8) : 0 ≤ tlB d k f S ∧ tlB d k f S ≤ 1200 := by
  have := sm_in (f := fun s => fv (sxB d) (agB d) (wB d) (whB d 223 (8 * k) s) f) (a := 0) (b := 150) (by omega) (by omega) S hS (fun i _ => fvB_in hI _ f)
  unfold tlB
  omega
theorem tlA_s {d : DD} {k f i : Nat} : tlA d k f (i + 1) = tlA d k f i + fv (sxA d) (agA d) (wA d) (whA d k i) f := rfl
theorem tlB_s {d : DD} {k f i : Nat} : tlB d k f (i + 1) = tlB d k f i + fv (sxB d) (agB d) (wB d) (whB d 223 (8 * k) i) f := rfl
theorem fb_X9_tallySeated_23 {n : Nat} {Q : DD → LL → Prop} {k S : Nat} (hk : k < 6) {d0 : DD} {dl : LL} (hS : (S : Int) = 2 * (d0 (37 + 3 * k) 0).toInt) (hI0 : Inv d0) (hQ : ∀ dz : DD, Inv dz → (∀ c, c ≠ 27 → dz c = d0 c) → (∀ f, f < 6 → (dz 27 f).toInt = tlA d0 k f S) → Q dz dl) : ∀ (j i : Nat) (x2 : Int32) (d : DD), Inv d → (∀ c, c ≠ 27 → d c = d0 c) → x2.toInt = (i : Int) → i ≤ S → (∀ f, f < 6 → (d 27 f).toInt = tlA d0 k f i) → 9 ≤ i + j → b_X9_tallySeated_23 n Q j k x2 d dl := by
  have mR := iv_37_0 hI0 hk
  have hS8 : S ≤ 8 := by omega
  intro j
  induction j with
  | zero =>
    intro i x2 d hI hF h2 hi ht hj
    exfalso
    omega
  | succ j ih =>
    intro i x2 d hI hF h2 hi ht hj
    have e2 := at_n h2
    have q37 : d (37 + 3 * k) 0 = d0 (37 + 3 * k) 0 := by rw [hF _ (by omega)]
    have t2 : ((2 : Int32) * (d (37 + 3 * k) 0)).toInt = (S : Int) := by
      have t : ((2 : Int32) * (d (37 + 3 * k) 0)).toInt = 2 * (d0 (37 + 3 * k) 0).toInt := ti_mul (rfl : (2 : Int32).toInt = 2) (by rw [q37]) (by omega) (by omega)
      rw [t]; omega
    show (_ → _) ∧ _
    refine ⟨fun w => ?_, fun w => ?_⟩
    · have w : (S : Int) ≤ (i : Int) := (i_le t2 h2).mp w
      have hiS : i = S := by omega
      exact hQ d hI hF (fun f hf => by rw [← hiS]; exact ht f hf)
    · have w : ¬ (S : Int) ≤ (i : Int) := fun q => w ((i_le t2 h2).mpr q)
      rw [e2]
      refine ⟨vin h2 (by omega) (by omega), fun v7 e7 => ?_⟩
      have m7 := iv_39 hI hk i
      rw [← e7] at m7
      have p7 : v7.toNatClampNeg = whA d0 k i := by
        unfold whA
        rw [e7, hF (39 + 3 * k) (by omega)]
      have i7 : vp_in v7 40 := vin rfl m7.1 (by omega)
      rw [p7]
      generalize hp : whA d0 k i = p at *
      have bi : ∀ f, 0 ≤ tlA d0 k f i ∧ tlA d0 k f i ≤ 1200 := fun f => tlA_in hI0 k f (by omega)
      have n2 : (2 : Int32).toNatClampNeg = 2 := rfl
      have n3 : (3 : Int32).toNatClampNeg = 3 := rfl
      have n4 : (4 : Int32).toNatClampNeg = 4 := rfl
      have n5 : (5 : Int32).toNatClampNeg = 5 := rfl
      have mw := iv_2 hI0 p
      have go : ∀ (xs : Int32) (u : Nat), xs.toInt = (u : Int) → u < 2 → (∀ f, f < 2 → fv (sxA d0) (agA d0) (wA d0) p f = if f = u then 1 else 0) → b_X9_tallySeated_59 n Q (b_X9_tallySeated_23 n Q j) k x2 v7 xs d dl := by
        intro xs u hxs hu hfv
        have ix : vp_in xs 6 := vin hxs (by omega) (by omega)
        have ex' := at_n hxs
        refine ⟨ix, ix, fun d12 e12 => ⟨i7, ?_⟩⟩
        rw [ex'] at e12
        rw [p7]
        have s12 : StP pN d dl d12 dl := by rw [e12]; exact pw_27 (StP.rf hI) rfl
        have F12 : ∀ c, c ≠ 27 → d12 c = d0 c := fun c hc => by rw [e12, u2_row hc]; exact hF c hc
        have a12 : ∀ f, f < 2 → (d12 27 f).toInt = tlA d0 k f (i + 1) := by
          intro f hf
          rw [tlA_s, hp, hfv f hf]
          by_cases he : f = u
          · have b := bi f
            rw [if_pos he, e12, he, u2_eq]
            rw [he] at b
            exact ti_add (ht u (by omega)) (rfl : (1 : Int32).toInt = 1) (by omega) (by omega)
          · rw [if_neg he, e12, u2_ne (Or.inr he), ht f (by omega)]
            omega
        have b12 : ∀ f, 2 ≤ f → f < 6 → (d12 27 f).toInt = tlA d0 k f i := fun f a b => by rw [e12, u2_ne (Or.inr (by omega))]; exact ht f b
        rw [F12 6 (by omega), n2]
        have go2 : ∀ y : Int32, y.toInt = fv (sxA d0) (agA d0) (wA d0) p 2 → b_X9_tallySeated_90 n Q (b_X9_tallySeated_23 n Q j) k x2 v7 y (d12 27 2) 2 d12 dl := by
          intro y hy
          have y2 := fvA_in hI0 p 2
          refine ⟨vin (p := 2) rfl (by omega) (by omega), fun d17 e17 => ⟨i7, ?_⟩⟩
          rw [n2] at e17
          rw [p7]
          have s17 : StP pN d dl d17 dl := by rw [e17]; exact pw_27 s12 rfl
          have F17 : ∀ c, c ≠ 27 → d17 c = d0 c := fun c hc => by rw [e17, u2_row hc]; exact F12 c hc
          have b2 := bi 2
          have c17 : (d17 27 2).toInt = tlA d0 k 2 (i + 1) := by rw [e17, u2_eq, tlA_s, hp]; exact ti_add (b12 2 (by omega) (by omega)) hy (by omega) (by omega)
          rw [F17 6 (by omega), n3]
          have go3 : ∀ z : Int32, z.toInt = fv (sxA d0) (agA d0) (wA d0) p 3 → b_X9_tallySeated_118 n Q (b_X9_tallySeated_23 n Q j) k x2 v7 z (d17 27 3) 3 d17 dl := by
            intro z hz
            have z3 := fvA_in hI0 p 3
            refine ⟨vin (p := 3) rfl (by omega) (by omega), fun d22 e22 => ⟨i7, fun d26 e26 d29 e29 => ?_⟩⟩
            rw [n3] at e22
            rw [p7, n4] at e26
            rw [n5] at e29
            have s22 : StP pN d dl d22 dl := by rw [e22]; exact pw_27 s17 rfl
            have s26 : StP pN d dl d26 dl := by rw [e26]; exact pw_27 s22 rfl
            have s29 : StP pN d dl d29 dl := by rw [e29]; exact pw_27 s26 rfl
            have F29 : ∀ c, c ≠ 27 → d29 c = d0 c := fun c hc => by rw [e29, u2_row hc, e26, u2_row hc, e22, u2_row hc]; exact F17 c hc
            have b3 := bi 3
            have b4 := bi 4
            have b5 := bi 5
            refine ih (i + 1) _ d29 s29.1 F29 (inc1 h2 (by omega)) (by omega) (fun f hf => ?_) (by omega)
            have hc : f = 0 ∨ f = 1 ∨ f = 2 ∨ f = 3 ∨ f = 4 ∨ f = 5 := by omega
            rcases hc with rfl | rfl | rfl | rfl | rfl | rfl
            · rw [e29, u2_ne (Or.inr (by omega)), e26, u2_ne (Or.inr (by omega)), e22, u2_ne (Or.inr (by omega)), e17, u2_ne (Or.inr (by omega))]
              exact a12 0 (by omega)
            · rw [e29, u2_ne (Or.inr (by omega)), e26, u2_ne (Or.inr (by omega)), e22, u2_ne (Or.inr (by omega)), e17, u2_ne (Or.inr (by omega))]
              exact a12 1 (by omega)
            · rw [e29, u2_ne (Or.inr (by omega)), e26, u2_ne (Or.inr (by omega)), e22, u2_ne (Or.inr (by omega))]
              exact c17
            · rw [e29, u2_ne (Or.inr (by omega)), e26, u2_ne (Or.inr (by omega)), e22, u2_eq, tlA_s, hp]
              exact ti_add (by rw [e17, u2_ne (Or.inr (by omega))]; exact b12 3 (by omega) (by omega)) hz (by omega) (by omega)
            · have r4 : (d22 27 4).toInt = tlA d0 k 4 i := by rw [e22, u2_ne (Or.inr (by omega)), e17, u2_ne (Or.inr (by omega))]; exact b12 4 (by omega) (by omega)
              have r2 : (d22 2 p).toInt = fv (sxA d0) (agA d0) (wA d0) p 4 := by rw [e22, u2_row (by omega), F17 2 (by omega)]; rfl
              have f4 := fvA_in hI0 p 4
              rw [e29, u2_ne (Or.inr (by omega)), e26, u2_eq, tlA_s, hp]
              exact ti_add r4 r2 (by omega) (by omega)
            · have r5 : (d26 27 5).toInt = tlA d0 k 5 i := by rw [e26, u2_ne (Or.inr (by omega)), e22, u2_ne (Or.inr (by omega)), e17, u2_ne (Or.inr (by omega))]; exact b12 5 (by omega) (by omega)
              rw [e29, u2_eq, tlA_s, hp, show fv (sxA d0) (agA d0) (wA d0) p 5 = 1 from rfl]
              exact ti_add r5 (rfl : (1 : Int32).toInt = 1) (by omega) (by omega)
          refine ⟨fun w => go3 0 ?_, fun w => go3 1 ?_⟩
          · have w : 18 ≤ (d0 6 p).toInt := (i_le (rfl : (18 : Int32).toInt = 18) rfl).mp w
            show (0 : Int) = if (d0 6 p).toInt < 18 then 1 else 0
            rw [if_neg (by omega)]
          · have w : ¬ 18 ≤ (d0 6 p).toInt := fun q => w ((i_le (rfl : (18 : Int32).toInt = 18) rfl).mpr q)
            show (1 : Int) = if (d0 6 p).toInt < 18 then 1 else 0
            rw [if_pos (by omega)]
        refine ⟨fun w => go2 0 ?_, fun w => go2 1 ?_⟩
        · have w : (d0 6 p).toInt < 40 := (i_lt rfl (rfl : (40 : Int32).toInt = 40)).mp w
          show (0 : Int) = if 40 ≤ (d0 6 p).toInt then 1 else 0
          rw [if_neg (by omega)]
        · have w : ¬ (d0 6 p).toInt < 40 := fun q => w ((i_lt rfl (rfl : (40 : Int32).toInt = 40)).mpr q)
          show (1 : Int) = if 40 ≤ (d0 6 p).toInt then 1 else 0
          rw [if_pos (by omega)]
      rw [hF 5 (by omega)]
      refine ⟨i7, fun w => go 1 1 rfl (by omega) (fun f hf => ?_), fun w => go 0 0 rfl (by omega) (fun f hf => ?_)⟩
      · have w : ¬ (d0 5 p).toInt = 0 := fun q => w ((i_eq rfl (rfl : (0 : Int32).toInt = 0)).mpr q)
        have hc : f = 0 ∨ f = 1 := by omega
        rcases hc with rfl | rfl
        · show (if (d0 5 p).toInt = 0 then (1 : Int) else 0) = 0
          rw [if_neg w]
        · show (if (d0 5 p).toInt = 0 then (0 : Int) else 1) = 1
          rw [if_neg w]
      · have w : (d0 5 p).toInt = 0 := (i_eq rfl (rfl : (0 : Int32).toInt = 0)).mp w
        have hc : f = 0 ∨ f = 1 := by omega
        rcases hc with rfl | rfl
        · show (if (d0 5 p).toInt = 0 then (1 : Int) else 0) = 1
          rw [if_pos w]
        · show (if (d0 5 p).toInt = 0 then (0 : Int) else 1) = 0
          rw [if_pos w]
theorem fb_X9_tallySeated_2 {n : Nat} (hn : 1000000000 ≤ n) {Q : DD → LL → Prop} {k S : Nat} (hk : k < 6) {d0 : DD} {dl : LL} (hS : (S : Int) = 2 * (d0 (37 + 3 * k) 0).toInt) (hI0 : Inv d0) (hQ : ∀ dz : DD, Inv dz → (∀ c, c ≠ 27 → dz c = d0 c) → (∀ f, f < 6 → (dz 27 f).toInt = tlA d0 k f S) → Q dz dl) : ∀ (j i : Nat) (x2 : Int32) (d : DD), Inv d → (∀ c, c ≠ 27 → d c = d0 c) → x2.toInt = (i : Int) → i ≤ 6 → (∀ f, f < i → (d 27 f).toInt = 0) → 7 ≤ i + j → b_X9_tallySeated_2 n Q j k x2 d dl := by
  intro j
  induction j with
  | zero =>
    intro i x2 d hI hF h2 hi ht hj
    exfalso
    omega
  | succ j ih =>
    intro i x2 d hI hF h2 hi ht hj
    show _ ∧ _
    have e2 := at_n h2
    refine ⟨fun w => ?_, fun w => ?_⟩
    · have w : 6 ≤ (i : Int) := (i_le (rfl : (6 : Int32).toInt = 6) h2).mp w
      exact fb_X9_tallySeated_23 hk hS hI0 hQ n 0 0 d hI hF rfl (Nat.zero_le _) (fun f hf => ht f (by omega)) (by omega)
    · have w : ¬ 6 ≤ (i : Int) := fun q => w ((i_le (rfl : (6 : Int32).toInt = 6) h2).mpr q)
      refine ⟨vin h2 (by omega) (by omega), fun d31 e31 => ?_⟩
      rw [e2] at e31
      have s31 : StP pN d dl d31 dl := by rw [e31]; exact pw_27 (StP.rf hI) rfl
      refine ih (i + 1) _ d31 s31.1 (fun c hc => by rw [e31, u2_row hc]; exact hF c hc) (inc1 h2 (by omega)) (by omega) (fun f hf => ?_) (by omega)
      by_cases he : f = i
      · rw [he, e31, u2_eq]; rfl
      · rw [e31, u2_ne (Or.inr he)]
        exact ht f (by omega)
def hb (x : Int32) (b : Bool) : Prop := (x = 1 ∧ b = true) ∨ (x = 0 ∧ b = false)
def cmp9 (c : Int32) (v m : Int) : Bool := if c = 60 then decide (v < m) else if c = 61 then decide (v = m) else decide (m < v)
def tb9 (d : DD) (k t : Nat) (v : Int) : Bool := cmp9 (d (58 + 6 * k) t) v (d (59 + 6 * k) t).toInt != decide (¬ d (56 + 6 * k) t = 0)
theorem fn_X5_testHolds {n : Nat} {k t : Nat} (hk : k < 6) (ht : t < 8) {x1 x2 : Int32} {v : Int} (h1 : x1.toInt = (t : Int)) (h2 : x2.toInt = v) {d : DD} {dl : LL} (hI : Inv d) {Q : Int32 → DD → LL → Prop} (hQ : ∀ r : Int32, hb r (tb9 d k t v) → Q r d dl) : F_X5_testHolds n k x1 x2 d dl Q := by
  have i8 : vp_in x1 8 := vin h1 (by omega) (by omega)
  have e1 := at_n h1
  have m := iv_56 hI hk t
  have go : ∀ (y : Int32) (b : Bool), hb y b → b = cmp9 (d (58 + 6 * k) t) v (d (59 + 6 * k) t).toInt → b_X5_testHolds_86 n Q k x1 y d dl := by
    intro y b hy hbb
    unfold b_X5_testHolds_86
    rw [e1]
    have ht9 : tb9 d k t v = (b != decide (¬ d (56 + 6 * k) t = 0)) := by unfold tb9; rw [hbb]
    by_cases z : d (56 + 6 * k) t = 0
    · rw [decide_eq_false (fun w => w z)] at ht9
      refine ⟨i8, fun w => hQ 0 (Or.inr ⟨rfl, ?_⟩), fun w => hQ 1 (Or.inl ⟨rfl, ?_⟩)⟩
      · rcases hy with ⟨a, c⟩ | ⟨a, c⟩
        · rw [a, z] at w
          exact absurd w (by decide)
        · rw [ht9, c]; rfl
      · rcases hy with ⟨a, c⟩ | ⟨a, c⟩
        · rw [ht9, c]; rfl
        · rw [a, z] at w
          exact absurd rfl w
    · rw [decide_eq_true z] at ht9
      have z1 : d (56 + 6 * k) t = 1 := by
        have : ¬ (d (56 + 6 * k) t).toInt = 0 := fun q => z ((i_eq rfl (rfl : (0 : Int32).toInt = 0)).mpr q)
        have h9 : (d (56 + 6 * k) t).toInt = 1 := by omega
        exact (i_eq h9 (rfl : (1 : Int32).toInt = 1)).mpr rfl
      refine ⟨i8, fun w => hQ 0 (Or.inr ⟨rfl, ?_⟩), fun w => hQ 1 (Or.inl ⟨rfl, ?_⟩)⟩
      · rcases hy with ⟨a, c⟩ | ⟨a, c⟩
        · rw [ht9, c]; rfl
        · rw [a, z1] at w
          exact absurd w (by decide)
      · rcases hy with ⟨a, c⟩ | ⟨a, c⟩
        · rw [a, z1] at w
          exact absurd rfl w
        · rw [ht9, c]; rfl
  unfold F_X5_testHolds b_X5_testHolds_47 b_X5_testHolds_66 b_X5_testHolds_85
  rw [e1]
  refine ⟨i8, fun c => ⟨i8, fun w => go 0 false (Or.inr ⟨rfl, rfl⟩) ?_, fun w => go 1 true (Or.inl ⟨rfl, rfl⟩) ?_⟩, fun c => ⟨i8, fun w => go 0 false (Or.inr ⟨rfl, rfl⟩) ?_, fun w => go 1 true (Or.inl ⟨rfl, rfl⟩) ?_⟩, fun c => ⟨i8, fun w => go 0 false (Or.inr ⟨rfl, rfl⟩) ?_, fun w => go 1 true (Or.inl ⟨rfl, rfl⟩) ?_⟩⟩
  · have w : (d (59 + 6 * k) t).toInt ≤ v := (i_le rfl h2).mp w
    unfold cmp9
    rw [if_pos c, decide_eq_false (by omega)]
  · have w : ¬ (d (59 + 6 * k) t).toInt ≤ v := fun q => w ((i_le rfl h2).mpr q)
    unfold cmp9
    rw [if_pos c, decide_eq_true (by omega)]
  · have w : ¬ v = (d (59 + 6 * k) t).toInt := fun q => w ((i_eq h2 rfl).mpr q)
    unfold cmp9
    rw [if_neg (by rw [c]; decide), if_pos c, decide_eq_false w]
  · have w : v = (d (59 + 6 * k) t).toInt := (i_eq h2 rfl).mp w
    unfold cmp9
    rw [if_neg (by rw [c]; decide), if_pos c, decide_eq_true w]
  · have w : v ≤ (d (59 + 6 * k) t).toInt := (i_le h2 rfl).mp w
    unfold cmp9
    rw [if_neg c.1, if_neg c.2, decide_eq_false (by omega)]
  · have w : ¬ v ≤ (d (59 + 6 * k) t).toInt := fun q => w ((i_le h2 rfl).mpr q)
    unfold cmp9
    rw [if_neg c.1, if_neg c.2, decide_eq_true (by omega)]
def hl (o t : Nat → Bool) : Nat → Bool × Bool
  | 0 => (false, true)
  | n + 1 => (if o n = true then ((hl o t n).1 || (hl o t n).2) else (hl o t n).1, (if o n = true then true else (hl o t n).2) && t n)
theorem hl_k {o t o2 t2 : Nat → Bool} : ∀ n : Nat, (∀ i, i < n → o i = o2 i ∧ t i = t2 i) → hl o t n = hl o2 t2 n := by
  intro n
  induction n with
  | zero => intro _; rfl
  | succ n ih =>
    intro h
    have a := ih (fun i hi => h i (by omega))
    have b := h n (by omega)
    show (if o n = true then ((hl o t n).1 || (hl o t n).2) else (hl o t n).1, (if o n = true then true else (hl o t n).2) && t n) = (if o2 n = true then ((hl o2 t2 n).1 || (hl o2 t2 n).2) else (hl o2 t2 n).1, (if o2 n = true then true else (hl o2 t2 n).2) && t2 n)
    rw [a, b.1, b.2]
def oo9 (d : DD) (k : Nat) : Nat → Bool := fun t => decide (¬ d (60 + 6 * k) t = 0)
def tt9 (d : DD) (k : Nat) : Nat → Bool := fun t => tb9 d k t (d 27 (d (57 + 6 * k) t).toNatClampNeg).toInt
theorem hb0 {x : Int32} {b : Bool} (h : hb x b) (w : x = 0) : b = false := by
  rcases h with ⟨a, _⟩ | ⟨_, c⟩
  · exact absurd (a.symm.trans w) (by decide)
  · exact c
theorem hb1 {x : Int32} {b : Bool} (h : hb x b) (w : ¬ x = 0) : b = true := by
  rcases h with ⟨_, c⟩ | ⟨a, _⟩
  · exact c
  · exact absurd a w
theorem fb_X5_holds_7 {n : Nat} {Q : Int32 → DD → LL → Prop} {k M : Nat} (hk : k < 6) {d : DD} {dl : LL} (hI : Inv d) (hM : (d (55 + 6 * k) 0).toInt = (M : Int)) (hQ : ∀ r : Int32, hb r ((hl (oo9 d k) (tt9 d k) M).1 || (hl (oo9 d k) (tt9 d k) M).2) → Q r d dl) : ∀ (j t : Nat) (x2 x3 x4 : Int32), x4.toInt = (t : Int) → t ≤ M → hb x2 (hl (oo9 d k) (tt9 d k) t).1 → hb x3 (hl (oo9 d k) (tt9 d k) t).2 → 9 ≤ t + j → b_X5_holds_7 n Q j k x2 x3 x4 d dl := by
  have mM := iv_55_0 hI hk
  intro j
  induction j with
  | zero =>
    intro t x2 x3 x4 h4 ht ha hc hj
    exfalso
    omega
  | succ j ih =>
    intro t x2 x3 x4 h4 ht ha hc hj
    show _ ∧ _
    have e4 := at_n h4
    refine ⟨fun w => ?_, fun w => ?_⟩
    · have w : (M : Int) ≤ (t : Int) := (i_le hM h4).mp w
      have htM : t = M := by omega
      rw [htM] at ha hc
      refine ⟨fun a => hQ 1 (Or.inl ⟨rfl, by rw [hb1 ha a]; rfl⟩), fun a => ⟨fun b => hQ 0 (Or.inr ⟨rfl, by rw [hb0 ha a, hb0 hc b]; rfl⟩), fun b => hQ 1 (Or.inl ⟨rfl, by rw [hb1 hc b, Bool.or_true]⟩)⟩⟩
    · have w : ¬ (M : Int) ≤ (t : Int) := fun q => w ((i_le hM h4).mpr q)
      have i8 : vp_in x4 8 := vin h4 (by omega) (by omega)
      have t4 : (x4 + 1).toInt = ((t + 1 : Nat) : Int) := inc1 h4 (by omega)
      have m57 := iv_57 hI hk t
      have i57 : vp_in (d (57 + 6 * k) t) 6 := vin rfl m57.1 (by omega)
      have st : ∀ (y2 y3 : Int32), hb y2 (if oo9 d k t = true then ((hl (oo9 d k) (tt9 d k) t).1 || (hl (oo9 d k) (tt9 d k) t).2) else (hl (oo9 d k) (tt9 d k) t).1) → hb y3 (if oo9 d k t = true then true else (hl (oo9 d k) (tt9 d k) t).2) → b_X5_holds_42 n Q (b_X5_holds_7 n Q j) k y2 y3 x4 d dl := by
        intro y2 y3 h2 h3
        unfold b_X5_holds_42 b_X5_holds_68
        rw [e4]
        refine ⟨fun a => ih (t + 1) _ _ _ t4 (by omega) h2 (Or.inr ⟨rfl, ?_⟩) (by omega), fun a => ⟨i8, i57, ?_⟩⟩
        · show ((if oo9 d k t = true then true else (hl (oo9 d k) (tt9 d k) t).2) && tt9 d k t) = false
          rw [hb0 h3 a]; rfl
        · refine fn_X5_testHolds hk (by omega) h4 rfl hI (fun r hr => ⟨fun q => ih (t + 1) _ _ _ t4 (by omega) h2 (Or.inr ⟨rfl, ?_⟩) (by omega), fun q => ih (t + 1) _ _ _ t4 (by omega) h2 (Or.inl ⟨rfl, ?_⟩) (by omega)⟩)
          · show ((if oo9 d k t = true then true else (hl (oo9 d k) (tt9 d k) t).2) && tt9 d k t) = false
            rw [show tt9 d k t = false from hb0 hr q, Bool.and_false]
          · show ((if oo9 d k t = true then true else (hl (oo9 d k) (tt9 d k) t).2) && tt9 d k t) = true
            rw [hb1 h3 a, show tt9 d k t = true from hb1 hr q]; rfl
      rw [e4]
      refine ⟨i8, fun o => ?_, fun o => ?_⟩
      · have ho : ¬ oo9 d k t = true := fun q => (of_decide_eq_true q) o
        exact st x2 x3 (by rw [if_neg ho]; exact ha) (by rw [if_neg ho]; exact hc)
      · have ho : oo9 d k t = true := decide_eq_true o
        have s1 : hb 1 ((hl (oo9 d k) (tt9 d k) t).1 || (hl (oo9 d k) (tt9 d k) t).2) → b_X5_holds_34 n Q (b_X5_holds_7 n Q j) k x4 d dl := fun q => st 1 1 (by rw [if_pos ho]; exact q) (by rw [if_pos ho]; exact Or.inl ⟨rfl, rfl⟩)
        refine ⟨fun a => s1 (Or.inl ⟨rfl, by rw [hb1 ha a]; rfl⟩), fun a => ⟨fun b => st 0 1 (by rw [if_pos ho]; exact Or.inr ⟨rfl, by rw [hb0 ha a, hb0 hc b]; rfl⟩) (by rw [if_pos ho]; exact Or.inl ⟨rfl, rfl⟩), fun b => s1 (Or.inl ⟨rfl, by rw [hb1 hc b, Bool.or_true]⟩)⟩⟩
