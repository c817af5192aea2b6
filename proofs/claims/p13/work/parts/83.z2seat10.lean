def KOK (K63 : Int32 → Int32 → Int32 → Int32 → Int32 → Int32 → Int32 → DD → LL → Prop) (d0 : DD) (dl : LL) (k S nn : Nat) (T : Bool × Int × (Nat → Nat)) (x1 x2 x3 : Int32) (j : Nat) : Prop := ∀ (x4 x5 x6 x7 : Int32) (d : DD), ((∃ s : Nat, x6.toInt = (s : Int) ∧ SL d0 k S nn T x4 x5 x7 s d) ∨ (x6.toInt = -1 ∧ FrS d0 d ∧ BSB d0 d k S x4 x5 T)) → muS d x6.toInt < (j : Int) → K63 x1 x2 x3 x4 x5 x6 x7 d dl
theorem fb_X10_seat_254 {n : Nat} {Q : Int32 → DD → LL → Prop} {K63 : Int32 → Int32 → Int32 → Int32 → Int32 → Int32 → Int32 → DD → LL → Prop} {x1 x2 x3 x4 x5 x6 x7 : Int32} {dl : LL} {S : Nat} (h2 : x2.toInt = (S : Int)) (hS : S ≤ 8) : ∀ (j i : Nat) (x10 : Int32) (d : DD), Inv d → x10.toInt = (i : Int) → i ≤ S → (∀ a, a < i → d 245 a = d 247 a) → 9 ≤ i + j → (∀ dz : DD, Inv dz → (∀ a, a ≠ 245 → dz a = d a) → (∀ a, a < S → dz 245 a = d 247 a) → K63 x1 x2 x3 x4 x5 x6 x7 dz dl) → b_X10_seat_254 n Q K63 j x1 x2 x3 x4 x5 x6 x7 x10 d dl := by
  intro j
  induction j with
  | zero =>
    intro i x10 d hI h10 hi hc hj hK
    exfalso
    omega
  | succ j ih =>
    intro i x10 d hI h10 hi hc hj hK
    show _ ∧ _
    have e10 := at_n h10
    refine ⟨fun h => ?_, fun h => ?_⟩
    · have h : (S : Int) ≤ (i : Int) := (i_le h2 h10).mp h
      exact hK d hI (fun _ _ => rfl) (fun a ha => hc a (by omega))
    · have h : ¬ (S : Int) ≤ (i : Int) := fun q => h ((i_le h2 h10).mpr q)
      have i8 : vp_in x10 8 := vin h10 (by omega) (by omega)
      rw [e10]
      refine ⟨i8, i8, fun d38 e38 => ?_⟩
      have m := iv_247 hI i
      have s38 : StP pN d dl d38 dl := by rw [e38]; exact pw_245 (StP.rf hI) m.1 m.2 rfl
      have r38 : ∀ a, a ≠ 245 → d38 a = d a := fun a ha => by rw [e38, u2_row ha]
      refine ih (i + 1) _ d38 s38.1 (inc1 h10 (by omega)) (by omega) (fun a ha => ?_) (by omega) (fun dz iz f1 f2 => hK dz iz (fun a ha => (f1 a ha).trans (r38 a ha)) (fun a ha => by rw [f2 a ha, r38 247 (by omega)]))
      rw [r38 247 (by omega)]
      by_cases he : a = i
      · rw [he, e38, u2_eq]
      · rw [e38, u2_ne (Or.inr he)]
        exact hc a (by omega)
theorem seat_149 {n : Nat} (hn : 1000000000 ≤ n) {Q : Int32 → DD → LL → Prop} {K63 : Int32 → Int32 → Int32 → Int32 → Int32 → Int32 → Int32 → DD → LL → Prop} {d0 : DD} {dl : LL} {k S nn : Nat} {T : Bool × Int × (Nat → Nat)} {x1 x2 x3 x4 x5 x6 x7 x8 : Int32} {j : Nat} (hK : KOK K63 d0 dl k S nn T x1 x2 x3 j) (hk : k < 6) (h1 : x1.toInt = (k : Int)) (h2 : x2.toInt = (S : Int)) (h3 : x3.toInt = (nn : Int)) (hn8 : nn ≤ 8) (hR : 2 ≤ (d0 218 k).toInt) (hS : (S : Int) = 2 * (d0 218 k).toInt) (hS8 : S ≤ 8) (hsym : ∀ a b, a < 40 → b < 40 → lB d0 a b = lB d0 b a) {s v : Nat} {c : Nat → Nat} {cur : Int} {B : Bool × Int × (Nat → Nat)} {d : DD} (hF : FrS d0 d) (hB : BSB d0 d k S x4 x5 B) (hs : s < S) (hc : ∀ i, i < s → (d 244 i).toInt = (c i : Int) ∧ c i < nn ∧ (d 247 i).toInt = ((memB d0 k (c i) : Nat) : Int)) (hcur : (d 244 s).toInt = cur) (hhi : ∀ i, s < i → i < 8 → (d 244 i).toInt = -1) (hd : ∀ i j, i < j → j < s → ¬ c i = c j) (hu : ∀ m : Nat, m < nn → (b32 x7 m = true ↔ ∃ i, i < s ∧ c i = m)) (h6 : x6.toInt = (s : Int)) (h8 : x8.toInt = (v : Int)) (hv : v ≤ nn) (hcv : cur + 1 ≤ (v : Int)) (hok : v < nn → okS (PB d0 k) s v (cutN c s)) (hT : T = RMu (PB d0 k) S nn s c (lpm (fsm (PB d0 k) S nn (S - s - 1) s (cutN c s)) (nn - v) v B)) (hm : muS d x6.toInt ≤ (j : Int)) : b_X10_seat_149 n Q K63 x1 x2 x3 x4 x5 x6 x7 x8 d dl := by
  have e6 := at_n h6
  have i6 : vp_in x6 8 := vin h6 (by omega) (by omega)
  refine ⟨fun h => ⟨i6, fun d25 e25 v26 e26 => ?_⟩, fun h => ⟨i6, fun d41 e41 => ?_⟩⟩
  · have h : ¬ (v : Int) = (nn : Int) := fun q => h ((i_eq h8 h3).mpr q)
    have hvn : v < nn := by omega
    have ok := hok hvn
    obtain ⟨ii, ci⟩ := ix8 (x1 := x1) (x3 := x8) (by omega) (by omega) (by omega) (by omega)
    rw [at_n h1, at_n h8] at ci
    have e8 := at_n h8
    rw [e6] at e25
    refine ⟨ii, i6, ?_⟩
    rw [ci, e6]
    intro d29 e29
    have m222 := iv_222 hF.1 (8 * k + v)
    have r25 : d25 222 = d 222 := by rw [e25, u2_row (by omega)]
    have q222 : d 222 = d0 222 := hF.2 222 (by omega) (by omega) (by omega)
    have s25 : StP pN d dl d25 dl := by rw [e25]; exact pw_244 (StP.rf hF.1) (by omega) (by omega) rfl
    have s29 : StP pN d dl d29 dl := by rw [e29]; exact pw_247 s25 (by rw [r25]; omega) (by rw [r25]; omega) rfl
    have F29 : FrS d0 d29 := ⟨s29.1, fun i a b e => by rw [e29, u2_row e, e25, u2_row a]; exact hF.2 i a b e⟩
    have hmb : (d0 222 (8 * k + v)).toInt = ((memB d0 k v : Nat) : Int) := by
      unfold memB
      rw [if_pos (by omega), ← q222]
      have : (d 222 (8 * k + v)).toNatClampNeg = (d 222 (8 * k + v)).toInt.toNat := rfl
      omega
    have p244 : ∀ i, i ≠ s → d29 244 i = d 244 i := fun i hi => by rw [e29, u2_row (by omega), e25, u2_ne (Or.inr hi)]
    have p244s : (d29 244 s).toInt = (v : Int) := by rw [e29, u2_row (by omega), e25, u2_eq]; exact h8
    have p247 : ∀ i, i ≠ s → d29 247 i = d 247 i := fun i hi => by rw [e29, u2_ne (Or.inr hi), e25, u2_row (by omega)]
    have p247s : (d29 247 s).toInt = ((memB d0 k v : Nat) : Int) := by rw [e29, u2_eq, r25, q222]; exact hmb
    have p245 : d29 245 = d 245 := by rw [e29, u2_row (by omega), e25, u2_row (by omega)]
    have cok : ∀ i, i < s → ¬ c i = v := fun i hi q => ok.1 i hi (by unfold cutN; rw [if_pos hi]; exact q)
    have us : ∀ m : Nat, m < nn → (b32 v26 m = true ↔ ((∃ i, i < s ∧ c i = m) ∨ (v : Int) = (m : Int))) := by
      intro m hmn
      rw [e26, b32_or, b32_one (by omega) (by omega), e8, Bool.or_eq_true]
      refine or_congr (hu m hmn) ⟨fun q => ?_, fun q => decide_eq_true (by omega)⟩
      have := of_decide_eq_true q
      omega
    have mu := mu_up (d := d) (d2 := d29) (x6 := x6) (x8 := x8) hF.1 (by omega) (by omega) (by rw [e6, hcur, h8]; exact hcv) (fun i => by rw [e6, e29, u2_row (by omega), e25])
    have t6 : (x6 + 1).toInt = ((s + 1 : Nat) : Int) := inc1 h6 (by omega)
    have hz : nn - v = (nn - (v + 1)) + 1 := by omega
    rw [hz, lpm_s, fsm_y ok] at hT
    generalize hch : upN (cutN c s) s v = ch at *
    have same : ∀ (y4 y5 : Int32) (d2 : DD) (B2 : Bool × Int × (Nat → Nat)), FrS d0 d2 → (∀ i, d2 244 i = d29 244 i) → (∀ i, d2 247 i = d29 247 i) → BSB d0 d2 k S y4 y5 B2 → T = RMu (PB d0 k) S nn s c (lpm (fsm (PB d0 k) S nn (S - s - 1) s (cutN c s)) (nn - (v + 1)) (v + 1) B2) → K63 x1 x2 x3 y4 y5 x6 v26 d2 dl := by
      intro y4 y5 d2 B2 F2 a2 b2 C2 T2
      refine hK y4 y5 x6 v26 d2 (Or.inl ⟨s, h6, c, (v : Int), B2, F2, C2, hs, fun i hi => ?_, by rw [a2]; exact p244s, fun i hi1 hi2 => ?_, ⟨by omega, by omega⟩, hd, fun i hi q => cok i hi (by omega), us, ?_⟩) ?_
      · rw [a2, b2, p244 i (by omega), p247 i (by omega)]
        exact hc i hi
      · rw [a2, p244 i (by omega)]
        exact hhi i hi1 hi2
      · rw [show ((v : Int) + 1).toNat = v + 1 by omega]
        exact T2
      · have := muS_congr a2 x6.toInt
        omega
    refine ⟨fun h9 => ?_, fun h9 => ?_⟩
    · have h9 : (S : Int) ≤ ((s + 1 : Nat) : Int) := (i_le h2 t6).mp h9
      have hs1 : s + 1 = S := by omega
      have hz0 : S - s - 1 = 0 := by omega
      have r218 : d29 218 = d0 218 := F29.2 218 (by omega) (by omega) (by omega)
      have r219 : d29 219 = d0 219 := F29.2 219 (by omega) (by omega) (by omega)
      have rw_ : wB d29 = wB d0 := by unfold wB; rw [F29.2 212 (by omega) (by omega) (by omega)]
      have rs_ : sB d29 = sB d0 := by unfold sB; rw [F29.2 213 (by omega) (by omega) (by omega)]
      have rl_ : lB d29 = lB d0 := by unfold lB; rw [F29.2 217 (by omega) (by omega) (by omega)]
      refine fn_X10_tilt hn (c := 247) (x := 0) (S := S) s29.1 (Or.inl rfl) h1 hk rfl (by decide) (by omega) (by rw [r218]; exact hR) (by rw [r218]; exact hS) (fun r31 hr31 => ?_)
      rw [r218, r219, rw_, rs_, rl_] at hr31
      have hwho : ∀ i, i < S → whB d29 247 0 i = memB d0 k (ch i) := by
        intro i hi
        unfold whB
        rw [Nat.zero_add, ← hch]
        by_cases he : i = s
        · rw [he, upN_e]
          exact at_n p247s
        · rw [upN_n he, p247 i he]
          unfold cutN
          rw [if_pos (by omega)]
          exact at_n (hc i (by omega)).2.2
      have m40 : ∀ x, memB d0 k x < 40 := by
        intro x
        unfold memB
        by_cases q : x < 8
        · rw [if_pos q, ← q222]
          have a := iv_222 hF.1 (8 * k + x)
          have : (d 222 (8 * k + x)).toNatClampNeg = (d 222 (8 * k + x)).toInt.toNat := rfl
          omega
        · rw [if_neg q]; omega
      have hr : r31.toInt = tlt (PB d0 k) S ch := by
        rw [hr31]
        exact tlt_eq (r := (d0 218 k).toInt.toNat) (by omega) hwho (fun a b _ _ => hsym _ _ (m40 _) (m40 _))
      have hT : T = RMu (PB d0 k) S nn s c (lpm (fsm (PB d0 k) S nn (S - s - 1) s (cutN c s)) (nn - (v + 1)) (v + 1) (upb B (tlt (PB d0 k) S ch) ch)) := by
        rw [hT, hz0]
        rfl
      have put : ¬ (B.1 = true ∧ B.2.1 ≤ tlt (PB d0 k) S ch) → b_X10_seat_244 n Q K63 x1 x2 x3 x6 v26 r31 d29 dl := by
        intro w
        refine fb_X10_seat_254 h2 hS8 n 0 0 d29 s29.1 rfl (Nat.zero_le _) (fun a ha => absurd ha (Nat.not_lt_zero _)) (by omega) (fun dz iz f1 f2 => ?_)
        refine same r31 1 dz _ ⟨iz, fun i a b e => by rw [f1 i b]; exact F29.2 i a b e⟩ (fun i => by rw [f1 244 (by omega)]) (fun i => by rw [f1 247 (by omega)]) ?_ hT
        unfold upb
        rw [if_neg w]
        refine Or.inr ⟨rfl, rfl, hr, fun i hi => ?_⟩
        rw [f2 i hi]
        have a := iv_247 s29.1 i
        have b : (d29 247 i).toNatClampNeg = (d29 247 i).toInt.toNat := rfl
        have e := hwho i hi
        unfold whB at e
        rw [Nat.zero_add] at e
        show (d29 247 i).toInt = ((memB d0 k (ch i) : Nat) : Int)
        omega
      refine ⟨fun w => put (fun q => ?_), fun w => ⟨fun w2 => ?_, fun w2 => put (fun q => ?_)⟩⟩
      · rcases hB with ⟨a, _⟩ | ⟨_, a, _⟩
        · exact absurd (a.symm.trans q.1) (by decide)
        · exact absurd (a.symm.trans w) (by decide)
      · rcases hB with ⟨_, a⟩ | ⟨a1, a2, a3, a4⟩
        · exact absurd a w
        have w2 : B.2.1 ≤ tlt (PB d0 k) S ch := (i_le a3 hr).mp w2
        refine same x4 x5 d29 B F29 (fun _ => rfl) (fun _ => rfl) (Or.inr ⟨a1, a2, a3, fun i hi => by rw [p245]; exact a4 i hi⟩) ?_
        rw [hT]
        unfold upb
        rw [if_pos ⟨a1, w2⟩]
      · rcases hB with ⟨_, a⟩ | ⟨a1, a2, a3, a4⟩
        · exact absurd a w
        exact w2 ((i_le a3 hr).mpr q.2)
    · have h9 : ¬ (S : Int) ≤ ((s + 1 : Nat) : Int) := fun q => h9 ((i_le h2 t6).mpr q)
      refine hK x4 x5 (x6 + 1) v26 d29 (Or.inl ⟨s + 1, t6, upN c s v, -1, B, F29, ?_, by omega, fun i hi => ?_, ?_, fun i hi1 hi2 => ?_, ⟨by omega, by omega⟩, fun i j2 hij hj => ?_, fun i hi q => by omega, fun m hmn => ?_, ?_⟩) ?_
      · unfold BSB
        rw [p245]
        exact hB
      · by_cases he : i = s
        · rw [he, upN_e]
          exact ⟨p244s, hvn, p247s⟩
        · rw [upN_n he, p244 i he, p247 i he]
          exact hc i (by omega)
      · rw [p244 (s + 1) (by omega)]
        exact hhi (s + 1) (by omega) (by omega)
      · rw [p244 i (by omega)]
        exact hhi i (by omega) hi2
      · by_cases he : j2 = s
        · rw [he, upN_e, upN_n (by omega)]
          exact cok i (by omega)
        · rw [upN_n he, upN_n (by omega)]
          exact hd i j2 hij (by omega)
      · refine (us m hmn).trans ⟨fun q => Or.inl ?_, fun q => ?_⟩
        · rcases q with ⟨i, hi, ei⟩ | q
          · exact ⟨i, by omega, by rw [upN_n (by omega)]; exact ei⟩
          · exact ⟨s, by omega, by rw [upN_e]; omega⟩
        · rcases q with ⟨i, hi, ei⟩ | q
          · by_cases he : i = s
            · rw [he, upN_e] at ei
              exact Or.inr (by omega)
            · rw [upN_n he] at ei
              exact Or.inl ⟨i, by omega, ei⟩
          · omega
      · show T = RMu (PB d0 k) S nn s (upN c s v) (lpm (fsm (PB d0 k) S nn (S - s - 1) s (cutN (upN c s v) s)) (nn - (upN c s v s + 1)) (upN c s v s + 1) (lpm (fsm (PB d0 k) S nn (S - (s + 1) - 1) (s + 1) (cutN (upN c s v) (s + 1))) (nn - ((-1 : Int) + 1).toNat) ((-1 : Int) + 1).toNat B))
        rw [RMu_u s _ (Nat.le_refl _), cut_u, upN_e, cut_s, hch, hT, show S - s - 1 = (S - (s + 1) - 1) + 1 by omega, FS_s]
        rfl
      · rw [t6]
        have := mu.2 (by omega)
        rw [h6] at this hm
        have e : ((s + 1 : Nat) : Int) = (s : Int) + 1 := by omega
        rw [e]
        omega
  · have h : (v : Int) = (nn : Int) := (i_eq h8 h3).mp h
    rw [e6] at e41
    have hz : nn - v = 0 := by omega
    rw [hz] at hT
    have hT : T = RMu (PB d0 k) S nn s c B := hT
    have s41 : StP pN d dl d41 dl := by rw [e41]; exact pw_244 (StP.rf hF.1) (by decide) (by decide) rfl
    have F41 : FrS d0 d41 := ⟨s41.1, fun i a b e => by rw [e41, u2_row a]; exact hF.2 i a b e⟩
    have B41 : BSB d0 d41 k S x4 x5 B := by
      unfold BSB
      rw [e41, u2_row (by omega)]
      exact hB
    have mu := mu_dn (d := d) (d2 := d41) (x6 := x6) (v := -1) hF.1 (by omega) (by omega) (by rw [e6]; exact e41)
    obtain ⟨z, ez, tz⟩ := dec1 h6 (by omega)
    rw [← ez]
    rw [h6] at mu hm
    have hmz : muS d41 z.toInt < (j : Int) := by
      rw [tz, show (s : Int) - 1 = (s : Int) + -1 by omega]
      omega
    cases s with
    | zero => exact hK x4 x5 z x7 d41 (Or.inr ⟨by rw [tz]; rfl, F41, by rw [hT]; exact B41⟩) hmz
    | succ s =>
      refine hK x4 x5 z x7 d41 (Or.inl ⟨s, by rw [tz]; omega, c, (c s : Int), B, F41, B41, by omega, fun i hi => ?_, ?_, fun i hi1 hi2 => ?_, ⟨by omega, ?_⟩, fun i j2 a b => hd i j2 a (by omega), fun i hi q => hd i s hi (by omega) (by omega), fun m hmn => ?_, ?_⟩) hmz
      · rw [e41, u2_ne (Or.inr (by omega)), u2_row (by omega)]
        exact hc i (by omega)
      · rw [e41, u2_ne (Or.inr (by omega))]
        exact (hc s (by omega)).1
      · by_cases he : i = s + 1
        · rw [he, e41, u2_eq]; rfl
        · rw [e41, u2_ne (Or.inr he)]
          exact hhi i (by omega) hi2
      · have := (hc s (by omega)).2.1
        omega
      · refine (hu m hmn).trans ⟨fun ⟨i, hi, ei⟩ => ?_, fun q => ?_⟩
        · by_cases he : i = s
          · rw [he] at ei
            exact Or.inr (by omega)
          · exact Or.inl ⟨i, by omega, ei⟩
        · rcases q with ⟨i, hi, ei⟩ | q
          · exact ⟨i, by omega, ei⟩
          · exact ⟨s, by omega, by omega⟩
      · rw [hT, show ((c s : Int) + 1).toNat = c s + 1 by omega]
        rfl
