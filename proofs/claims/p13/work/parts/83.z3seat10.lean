theorem fb_X10_seat_105 {n : Nat} (hn : 1000000000 ≤ n) {Q : Int32 → DD → LL → Prop} {K63 : Int32 → Int32 → Int32 → Int32 → Int32 → Int32 → Int32 → DD → LL → Prop} {d0 : DD} {dl : LL} {k S nn : Nat} {T : Bool × Int × (Nat → Nat)} {x1 x2 x3 x4 x5 x6 x7 : Int32} {j : Nat} (hK : KOK K63 d0 dl k S nn T x1 x2 x3 j) (hk : k < 6) (h1 : x1.toInt = (k : Int)) (h2 : x2.toInt = (S : Int)) (h3 : x3.toInt = (nn : Int)) (hn8 : nn ≤ 8) (hR : 2 ≤ (d0 218 k).toInt) (hS : (S : Int) = 2 * (d0 218 k).toInt) (hS8 : S ≤ 8) (hsym : ∀ a b, a < 40 → b < 40 → lB d0 a b = lB d0 b a) {s : Nat} {c : Nat → Nat} {cur : Int} {B : Bool × Int × (Nat → Nat)} {d : DD} (hF : FrS d0 d) (hB : BSB d0 d k S x4 x5 B) (hs : s < S) (hc : ∀ i, i < s → (d 244 i).toInt = (c i : Int) ∧ c i < nn ∧ (d 247 i).toInt = ((memB d0 k (c i) : Nat) : Int)) (hcur : (d 244 s).toInt = cur) (hhi : ∀ i, s < i → i < 8 → (d 244 i).toInt = -1) (hd : ∀ i j, i < j → j < s → ¬ c i = c j) (hu : ∀ m : Nat, m < nn → (b32 x7 m = true ↔ ∃ i, i < s ∧ c i = m)) (h6 : x6.toInt = (s : Int)) (hm : muS d x6.toInt ≤ (j : Int)) : ∀ (jj v : Nat) (x8 : Int32), x8.toInt = (v : Int) → v ≤ nn → cur + 1 ≤ (v : Int) → T = RMu (PB d0 k) S nn s c (lpm (fsm (PB d0 k) S nn (S - s - 1) s (cutN c s)) (nn - v) v B) → 9 ≤ v + jj → b_X10_seat_105 n Q K63 jj x1 x2 x3 x4 x5 x6 x7 x8 d dl := by
  intro jj
  induction jj with
  | zero =>
    intro v x8 h8 hv hcv hT hj
    exfalso
    omega
  | succ jj ih =>
    intro v x8 h8 hv hcv hT hj
    show _ ∧ _
    have e8 := at_n h8
    refine ⟨fun h => ?_, fun h => ?_⟩
    · have h : (nn : Int) ≤ (v : Int) := (i_le h3 h8).mp h
      exact seat_149 hn hK hk h1 h2 h3 hn8 hR hS hS8 hsym hF hB hs hc hcur hhi hd hu h6 h8 hv hcv (fun w => absurd w (by omega)) hT hm
    · have h : ¬ (nn : Int) ≤ (v : Int) := fun q => h ((i_le h3 h8).mpr q)
      have hvn : v < nn := by omega
      have next : ¬ okS (PB d0 k) s v (cutN c s) → b_X10_seat_105 n Q K63 jj x1 x2 x3 x4 x5 x6 x7 (x8 + 1) d dl := by
        intro w
        refine ih (v + 1) _ (inc1 h8 (by omega)) (by omega) (by omega) ?_ (by omega)
        rw [hT, show nn - v = (nn - (v + 1)) + 1 by omega, lpm_s, fsm_n w]
      have fr := b32_r1 (m := x7) (x := x8) (by omega) (by omega)
      rw [e8] at fr
      have cut : ∀ i, i < s → cutN c s i = c i := fun i hi => by unfold cutN; rw [if_pos hi]
      refine ⟨fun w => next (fun ok => ?_), fun w => ?_⟩
      · obtain ⟨i, hi, ei⟩ := (hu v hvn).mp (fr.mp w)
        exact ok.1 i hi (by rw [cut i hi]; exact ei)
      · obtain ⟨ii, ci⟩ := ix8 (x1 := x1) (x3 := x8) (by omega) (by omega) (by omega) (by omega)
        rw [at_n h1, e8] at ci
        rw [ci]
        refine ⟨ii, ?_⟩
        have m222 := iv_222 hF.1 (8 * k + v)
        have q222 : d 222 = d0 222 := hF.2 222 (by omega) (by omega) (by omega)
        have q214 : d 214 = d0 214 := hF.2 214 (by omega) (by omega) (by omega)
        have hmb : (d 222 (8 * k + v)).toInt = ((memB d0 k v : Nat) : Int) := by
          unfold memB
          rw [if_pos (by omega), ← q222]
          have : (d 222 (8 * k + v)).toNatClampNeg = (d 222 (8 * k + v)).toInt.toNat := rfl
          omega
        have pa : PB d0 k 2 v = (d 214 (memB d0 k v)).toInt := by rw [q214]; rfl
        refine fn_X10_fits hmb (by omega) h6 hF.1 (fun r hr => ⟨fun w2 => ?_, fun w2 => next (fun ok => ?_)⟩)
        · rcases hr with ⟨_, q⟩ | ⟨e, _⟩
          · refine seat_149 hn hK hk h1 h2 h3 hn8 hR hS hS8 hsym hF hB hs hc hcur hhi hd hu h6 h8 hv hcv (fun _ => ⟨fun i hi ei => ?_, by rw [pa]; exact q⟩) hT hm
            rw [cut i hi] at ei
            exact w (fr.mpr ((hu v hvn).mpr ⟨i, hi, ei⟩))
          · exact absurd e w2
        · rcases hr with ⟨e, _⟩ | ⟨_, q⟩
          · rw [e] at w2
            exact absurd w2 (by decide)
          · exact ok.2 (by rw [pa]; exact q)
theorem fb_X10_seat_63 {n : Nat} (hn : 1000000000 ≤ n) {Q : Int32 → DD → LL → Prop} {d0 : DD} {dl : LL} {k S nn : Nat} {T : Bool × Int × (Nat → Nat)} {x1 x2 x3 : Int32} (hk : k < 6) (h1 : x1.toInt = (k : Int)) (h2 : x2.toInt = (S : Int)) (h3 : x3.toInt = (nn : Int)) (hn8 : nn ≤ 8) (hR : 2 ≤ (d0 218 k).toInt) (hS : (S : Int) = 2 * (d0 218 k).toInt) (hS8 : S ≤ 8) (hsym : ∀ a b, a < 40 → b < 40 → lB d0 a b = lB d0 b a) (hfin : ∀ (x4 x5 : Int32) (d : DD), FrS d0 d → BSB d0 d k S x4 x5 T → ∀ d12 : DD, d12 = u2 d 224 k (vp_nar .boolean x5) → (¬ x5 = 0 → b_X10_seat_302 n Q n x1 x2 x4 0 d12 dl) ∧ (x5 = 0 → Q (-100001) d12 dl)) : ∀ j : Nat, KOK (b_X10_seat_63 n Q j) d0 dl k S nn T x1 x2 x3 j := by
  intro j
  induction j with
  | zero =>
    intro x4 x5 x6 x7 d h hm
    exfalso
    have hI : Inv d := by
      rcases h with ⟨s, _, c, cur, B, hF, _⟩ | ⟨_, hF, _⟩
      · exact hF.1
      · exact hF.1
    have hz9 := muS_nn hI x6.toInt
    omega
  | succ j ih =>
    intro x4 x5 x6 x7 d h hm
    show _ ∧ _
    refine ⟨fun h6 => ?_, fun h6 => ?_⟩
    · have h6 : x6.toInt < 0 := (i_lt rfl (rfl : (0 : Int32).toInt = 0)).mp h6
      rcases h with ⟨s, q, _⟩ | ⟨_, hF, hB⟩
      · omega
      rw [at_n h1]
      exact ⟨vin h1 (by omega) (by omega), hfin x4 x5 d hF hB⟩
    · have h6 : ¬ x6.toInt < 0 := fun q => h6 ((i_lt rfl (rfl : (0 : Int32).toInt = 0)).mpr q)
      rcases h with ⟨s, q6, c, cur, B, hF, hB, hs, hc, hcur, hhi, ⟨hc0, hc1⟩, hd, hne, hu, hT⟩ | ⟨q, _⟩
      rotate_left
      · omega
      have e6 := at_n q6
      have i6 : vp_in x6 8 := vin q6 (by omega) (by omega)
      rw [e6]
      have go : ∀ y7 : Int32, (∀ m : Nat, m < nn → (b32 y7 m = true ↔ ∃ i, i < s ∧ c i = m)) → b_X10_seat_94 n Q (b_X10_seat_63 n Q j) x1 x2 x3 x4 x5 x6 y7 d dl := by
        intro y7 hy
        refine ⟨i6, ?_⟩
        rw [e6]
        intro v21 e21
        have t21 : v21.toInt = (((cur + 1).toNat : Nat) : Int) := by
          have t0 : ((d 244 s) + 1).toInt = cur + 1 := ti_add hcur (rfl : (1 : Int32).toInt = 1) (by omega) (by omega)
          rw [e21, t0]
          omega
        exact fb_X10_seat_105 hn ih hk h1 h2 h3 hn8 hR hS hS8 hsym hF hB hs hc hcur hhi hd hy q6 (by omega) n (cur + 1).toNat v21 t21 (by omega) (by omega) hT (by omega)
      refine ⟨i6, fun w => go x7 (fun m hmn => ?_), fun w => ⟨i6, fun v49 e49 => go v49 (fun m hmn => ?_)⟩⟩
      · have w : cur < 0 := (i_lt hcur (rfl : (0 : Int32).toInt = 0)).mp w
        refine (hu m hmn).trans ⟨fun q => ?_, fun q => Or.inl q⟩
        rcases q with q | q
        · exact q
        · omega
      · have w : ¬ cur < 0 := fun q => w ((i_lt hcur (rfl : (0 : Int32).toInt = 0)).mpr q)
        have ec : (d 244 s).toNatClampNeg = cur.toNat := clampI hcur
        rw [e49, b32_and, b32_not (by omega) (by omega) (by omega), ec, Bool.and_eq_true]
        constructor
        · intro ⟨a, b⟩
          rcases (hu m hmn).mp a with q | q
          · exact q
          · have : m = cur.toNat := by omega
            rw [decide_eq_true this] at b
            exact absurd b (by decide)
        · intro q
          refine ⟨(hu m hmn).mpr (Or.inl q), ?_⟩
          obtain ⟨i, hi, ei⟩ := q
          have : ¬ m = cur.toNat := fun z => hne i hi (by omega)
          rw [decide_eq_false this]
          rfl
def SeatP10 (d0 dz : DD) (k S nn : Nat) (r : Int32) : Prop :=
  ((FSof (PB d0 k) S nn).1 = false ∧ r = -100001 ∧ dz 224 = upd (d0 224) k 0 ∧ dz 223 = d0 223) ∨ ((FSof (PB d0 k) S nn).1 = true ∧ r.toInt = (FSof (PB d0 k) S nn).2.1 ∧ dz 224 = upd (d0 224) k 1 ∧ (∀ i, i < S → (dz 223 (8 * k + i)).toInt = ((memB d0 k ((FSof (PB d0 k) S nn).2.2 i) : Nat) : Int)) ∧ ∀ a, ¬ (8 * k ≤ a ∧ a < 8 * k + S) → dz 223 a = d0 223 a)
def FrT (d0 d : DD) : Prop := Inv d ∧ ∀ i, i ≠ 223 → i ≠ 224 → i ≠ 244 → i ≠ 245 → i ≠ 247 → d i = d0 i
theorem fb_X10_seat_302 {n : Nat} {Q : Int32 → DD → LL → Prop} {x1 x2 x4 : Int32} {dl : LL} {k S : Nat} (hk : k < 6) (h1 : x1.toInt = (k : Int)) (h2 : x2.toInt = (S : Int)) (hS : S ≤ 8) : ∀ (j i : Nat) (x8 : Int32) (d : DD), Inv d → x8.toInt = (i : Int) → i ≤ S → (∀ a, a < i → d 223 (8 * k + a) = d 245 a) → 9 ≤ i + j → (∀ dz : DD, Inv dz → (∀ a, a ≠ 223 → dz a = d a) → (∀ a, a < S → dz 223 (8 * k + a) = d 245 a) → (∀ a, ¬ (8 * k ≤ a ∧ a < 8 * k + S) → dz 223 a = d 223 a) → Q x4 dz dl) → b_X10_seat_302 n Q j x1 x2 x4 x8 d dl := by
  intro j
  induction j with
  | zero =>
    intro i x8 d hI h8 hi hc hj hQ
    exfalso
    omega
  | succ j ih =>
    intro i x8 d hI h8 hi hc hj hQ
    show _ ∧ _
    have e8 := at_n h8
    refine ⟨fun h => ?_, fun h => ?_⟩
    · have h : (S : Int) ≤ (i : Int) := (i_le h2 h8).mp h
      exact hQ d hI (fun _ _ => rfl) (fun a ha => hc a (by omega)) (fun _ _ => rfl)
    · have h : ¬ (S : Int) ≤ (i : Int) := fun q => h ((i_le h2 h8).mpr q)
      have i8 : vp_in x8 8 := vin h8 (by omega) (by omega)
      obtain ⟨ii, ci⟩ := ix8 (x1 := x1) (x3 := x8) (by omega) (by omega) (by omega) (by omega)
      rw [at_n h1, e8] at ci
      rw [ci, e8]
      refine ⟨i8, ii, fun d17 e17 => ?_⟩
      have m := iv_245 hI i
      have s17 : StP pN d dl d17 dl := by rw [e17]; exact pw_223 (StP.rf hI) m.1 m.2 rfl
      have r17 : ∀ a, a ≠ 223 → d17 a = d a := fun a ha => by rw [e17, u2_row ha]
      refine ih (i + 1) _ d17 s17.1 (inc1 h8 (by omega)) (by omega) (fun a ha => ?_) (by omega) (fun dz iz f1 f2 f3 => hQ dz iz (fun a ha => (f1 a ha).trans (r17 a ha)) (fun a ha => by rw [f2 a ha, r17 245 (by omega)]) (fun a ha => by rw [f3 a ha, e17, u2_ne (Or.inr (by omega))]))
      rw [r17 245 (by omega)]
      by_cases he : a = i
      · rw [he, e17, u2_eq]
      · rw [e17, u2_ne (Or.inr (by omega))]
        exact hc a (by omega)
theorem fb_X10_seat_42 {n : Nat} {Q : Int32 → DD → LL → Prop} {x1 x2 x3 x4 x5 x6 x7 : Int32} {dl : LL} {d0 : DD} (hQ : ∀ d : DD, FrS d0 d → (∀ i, i < 8 → (d 244 i).toInt = -1) → b_X10_seat_63 n Q n x1 x2 x3 x4 x5 x6 x7 d dl) : ∀ (j i : Nat) (x8 : Int32) (d : DD), FrS d0 d → x8.toInt = (i : Int) → i ≤ 8 → (∀ a, a < i → (d 244 a).toInt = -1) → 9 ≤ i + j → b_X10_seat_42 n Q j x1 x2 x3 x4 x5 x6 x7 x8 d dl := by
  intro j
  induction j with
  | zero =>
    intro i x8 d hF h8 hi hc hj
    exfalso
    omega
  | succ j ih =>
    intro i x8 d hF h8 hi hc hj
    show _ ∧ _
    have e8 := at_n h8
    refine ⟨fun h => ?_, fun h => ?_⟩
    · have h : 8 ≤ (i : Int) := (i_le (rfl : (8 : Int32).toInt = 8) h8).mp h
      exact hQ d hF (fun a ha => hc a (by omega))
    · have h : ¬ 8 ≤ (i : Int) := fun q => h ((i_le (rfl : (8 : Int32).toInt = 8) h8).mpr q)
      refine ⟨vin h8 (by omega) (by omega), ?_⟩
      rw [e8]
      intro d51 e51
      have s51 : StP pN d dl d51 dl := by rw [e51]; exact pw_244 (StP.rf hF.1) (by decide) (by decide) rfl
      refine ih (i + 1) _ d51 ⟨s51.1, fun a b c e => by rw [e51, u2_row b]; exact hF.2 a b c e⟩ (inc1 h8 (by omega)) (by omega) (fun a ha => ?_) (by omega)
      by_cases he : a = i
      · rw [he, e51, u2_eq]; rfl
      · rw [e51, u2_ne (Or.inr he)]
        exact hc a (by omega)
theorem fn_X10_seat {n : Nat} (hn : 1000000000 ≤ n) {Q : Int32 → DD → LL → Prop} {d0 : DD} {dl : LL} {k S nn : Nat} {x1 : Int32} (hI : Inv d0) (hk : (k : Int) < (d0 211 1).toInt) (h1 : x1.toInt = (k : Int)) (hnn : (d0 220 k).toInt = (nn : Int)) (hR : 2 ≤ (d0 218 k).toInt) (hS : (S : Int) = 2 * (d0 218 k).toInt) (hsym : ∀ a b, a < 40 → b < 40 → lB d0 a b = lB d0 b a) (hQ : ∀ (r : Int32) (dz : DD), FrT d0 dz → SeatP10 d0 dz k S nn r → Q r dz dl) : F_X10_seat n x1 d0 dl Q := by
  have mk := iv_211_1 hI
  have mR := iv_218 hI k
  have mn := iv_220 hI k
  have hk6 : k < 6 := by omega
  have e1 := at_n h1
  refine sp_X10_isCrew hn hI (fun r1 d2 l3 ⟨p1, q1⟩ => ?_)
  obtain ⟨_, rfl, rfl⟩ := p1
  have i6 : vp_in x1 6 := vin h1 (by omega) (by omega)
  refine ⟨fun _ => ⟨i6, ?_⟩, fun w => ?_⟩
  · rw [e1]
    intro v6 e6
    refine ⟨i6, ?_⟩
    intro v8 e8
    have t6 : v6.toInt = (S : Int) := by
      have t : ((2 : Int32) * (d2 218 k)).toInt = 2 * (d2 218 k).toInt := ti_mul (rfl : (2 : Int32).toInt = 2) rfl (by omega) (by omega)
      rw [e6, t]
      omega
    have t8 : v8.toInt = (nn : Int) := by rw [e8]; exact hnn
    refine fb_X10_seat_42 (d0 := d2) (fun d hF hm1 => ?_) n 0 0 d2 ⟨hI, fun _ _ _ _ => rfl⟩ rfl (Nat.zero_le _) (fun a ha => absurd ha (Nat.not_lt_zero _)) (by omega)
    have hz := muS_nn hF.1 (0 : Int32).toInt
    refine fb_X10_seat_63 hn (T := FSof (PB d2 k) S nn) hk6 h1 t6 t8 (by omega) hR hS (by omega) hsym (fun x4 x5 dw hFw hBw d12 e12 => ?_) n 0 0 0 0 d (Or.inl ⟨0, rfl, fun _ => 0, -1, (false, 0, fun _ => 0), hF, Or.inl ⟨rfl, rfl⟩, by omega, fun i hi => absurd hi (Nat.not_lt_zero _), hm1 0 (by omega), fun i _ hi => hm1 i hi, ⟨by omega, by omega⟩, fun i j2 _ hj => absurd hj (Nat.not_lt_zero _), fun i hi => absurd hi (Nat.not_lt_zero _), fun m hmn => ?_, ?_⟩) (by omega)
    · have s12 : StP pN dw l3 d12 l3 := by rw [e12]; exact pw_224 (StP.rf hFw.1) (vn_in _).1 (vn_in _).2 rfl
      have r12 : ∀ i, i ≠ 224 → d12 i = dw i := fun i hi => by rw [e12, u2_row hi]
      have q224 : dw 224 = d2 224 := hFw.2 224 (by omega) (by omega) (by omega)
      have q223 : dw 223 = d2 223 := hFw.2 223 (by omega) (by omega) (by omega)
      refine ⟨fun w => ?_, fun w => ?_⟩
      · rcases hBw with ⟨_, a⟩ | ⟨a, b, c, e⟩
        · exact absurd a w
        refine fb_X10_seat_302 hk6 h1 t6 (by omega) n 0 0 d12 s12.1 rfl (Nat.zero_le _) (fun a ha => absurd ha (Nat.not_lt_zero _)) (by omega) (fun dz iz f1 f2 f3 => hQ x4 dz ⟨iz, fun i a b c e f => ?_⟩ (Or.inr ⟨a, c, ?_, fun i hi => ?_, fun x hx => ?_⟩))
        · rw [f1 i a, r12 i b]
          exact hFw.2 i c e f
        · rw [f1 224 (by omega), e12, u2_own, q224, b]
          rfl
        · rw [f2 i hi, r12 245 (by omega)]
          exact e i hi
        · rw [f3 x hx, r12 223 (by omega), q223]
      · rcases hBw with ⟨a, _⟩ | ⟨_, b, _⟩
        · refine hQ _ d12 ⟨s12.1, fun i a b c e f => ?_⟩ (Or.inl ⟨a, rfl, ?_, by rw [r12 223 (by omega), q223]⟩)
          · rw [r12 i b]
            exact hFw.2 i c e f
          · rw [e12, u2_own, q224, w]
            rfl
        · exact absurd (b.symm.trans w) (by decide)
    · rw [b32_zero]
      exact ⟨fun w => absurd w (by decide), fun w => by
        rcases w with ⟨i, hi, _⟩ | w
        · exact absurd hi (Nat.not_lt_zero _)
        · omega⟩
    · show FSof (PB d2 k) S nn = lpm _ nn 0 _
      unfold FSof
      rw [show FS (PB d2 k) S nn S 0 (fun _ => 0) (false, 0, fun _ => 0) = FS (PB d2 k) S nn ((S - 0 - 1) + 1) 0 (fun _ => 0) (false, 0, fun _ => 0) by rw [show S - 0 - 1 + 1 = S by omega], FS_s]
      have hc0 : cutN (fun _ => 0) 0 = fun _ => 0 := by
        funext i
        unfold cutN
        rw [if_neg (Nat.not_lt_zero _)]
      rw [hc0]
  · have w : r1.toInt = 0 := (i_eq rfl (rfl : (0 : Int32).toInt = 0)).mp w
    omega
