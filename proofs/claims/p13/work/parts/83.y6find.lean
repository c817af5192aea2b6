noncomputable def cu (ch : Nat → Nat) (s : Nat) (n : Nat) : Int := sm (fun m => @ite Int (∀ i, i < s → ¬ ch i = m) (Classical.propDecidable _) 1 0) n
theorem sm_one {f g : Nat → Int} {q : Nat} : ∀ k : Nat, q < k → (∀ i, i < k → i ≠ q → f i = g i) → f q = g q + 1 → sm f k = sm g k + 1 := by
  intro k
  induction k with
  | zero => intro h; exact absurd h (Nat.not_lt_zero _)
  | succ k ih =>
    intro hq h1 h2
    show sm f k + f k = sm g k + g k + 1
    by_cases e : q = k
    · subst e
      rw [sm_k q (fun i hi => h1 i (by omega) (by omega)), h2]
      omega
    · rw [ih (by omega) (fun i hi hne => h1 i (by omega) hne) h2, h1 k (by omega) (by omega)]
      omega
theorem cu_u {ch : Nat → Nat} {s m n : Nat} (hm : m < n) (ok : ∀ i, i < s → ¬ ch i = m) : cu ch s n = cu (upN ch s m) (s + 1) n + 1 := by
  unfold cu
  refine sm_one (q := m) n hm (fun i hi hne => ?_) ?_
  · by_cases w : ∀ j, j < s → ¬ ch j = i
    · rw [if_pos w, if_pos (fun j hj => ?_)]
      by_cases hj2 : j = s
      · rw [hj2, upN_e]; exact fun e => hne e.symm
      · rw [upN_n hj2]; exact w j (by omega)
    · rw [if_neg w, if_neg (fun w2 => w (fun j hj e => w2 j (by omega) (by rw [upN_n (by omega)]; exact e)))]
  · rw [if_pos ok, if_neg (fun w => w s (by omega) upN_e)]
    rfl
theorem cu_nn (ch : Nat → Nat) (s : Nat) : ∀ n : Nat, 0 ≤ cu ch s n := by
  intro n
  induction n with
  | zero => exact Int.le_refl _
  | succ n ih =>
    have ih : 0 ≤ sm (fun m => @ite Int (∀ i, i < s → ¬ ch i = m) (Classical.propDecidable _) 1 0) n := ih
    show 0 ≤ sm _ n + @ite Int (∀ i, i < s → ¬ ch i = n) (Classical.propDecidable _) 1 0
    by_cases w : ∀ i, i < s → ¬ ch i = n
    · rw [if_pos w]; omega
    · rw [if_neg w]; omega
theorem cu_0 (ch : Nat → Nat) : ∀ n : Nat, cu ch 0 n = (n : Int) := by
  intro n
  induction n with
  | zero => rfl
  | succ n ih =>
    have ih : sm (fun m => @ite Int (∀ i, i < 0 → ¬ ch i = m) (Classical.propDecidable _) 1 0) n = (n : Int) := ih
    show sm _ n + @ite Int (∀ i, i < 0 → ¬ ch i = n) (Classical.propDecidable _) 1 0 = ((n + 1 : Nat) : Int)
    rw [ih, if_pos (fun i hi => absurd hi (Nat.not_lt_zero _))]
    omega
theorem FS_few {P : Nat → Nat → Int} {S n : Nat} {B : Bool × Int × (Nat → Nat)} : ∀ (k s : Nat) (ch : Nat → Nat), cu ch s n < (k : Int) → FS P S n k s ch B = B := by
  intro k
  induction k with
  | zero =>
    intro s ch h
    have := cu_nn ch s n
    omega
  | succ k ih =>
    intro s ch h
    rw [FS_s]
    refine lpm_id (N := n) (fun m hm => ?_) n 0 (by omega)
    by_cases ok : okS P s m ch
    · rw [fsm_y ok]
      have := cu_u hm ok.1
      exact ih (s + 1) _ (by omega)
    · exact fsm_n ok
theorem or0 {a b : Int32} (h : a ||| b = 0) : a = 0 ∧ b = 0 := by
  have w := b32_z.mp h
  refine ⟨b32_z.mpr (fun x hx => ?_), b32_z.mpr (fun x hx => ?_)⟩
  · have := w x hx
    rw [b32_or] at this
    cases h1 : b32 a x
    · rfl
    · rw [h1, Bool.true_or] at this; exact absurd this (by decide)
  · have := w x hx
    rw [b32_or] at this
    cases h1 : b32 b x
    · rfl
    · rw [h1, Bool.or_true] at this; exact absurd this (by decide)
theorem fb_X6_loadBounds_28 {n : Nat} {Q : DD → LL → Prop} {k : Nat} {dl : LL} {d : DD} {nn : Nat} (h10 : (d 10 3).toInt = (nn : Int)) (hn8 : nn ≤ 8) (hw : ∀ m, m < nn → (0 ≤ (d 11 m).toInt ∧ (d 11 m).toInt ≤ 150) ∧ (0 ≤ (d 12 m).toInt ∧ (d 12 m).toInt ≤ 99)) (hQ : ∀ (x2 x3 x4 bo : Int32), (0 ≤ x2.toInt ∧ x2.toInt ≤ 150) → (0 ≤ x3.toInt ∧ x3.toInt ≤ 150) → (0 ≤ x4.toInt ∧ x4.toInt ≤ 99) → (∀ i, i < nn → x2.toInt ≤ (d 11 i).toInt ∧ (d 11 i).toInt ≤ x3.toInt ∧ (d 12 i).toInt ≤ x4.toInt) → ((bo = 0 ∧ ∀ i, i < nn → d 14 i = 0) ∨ bo = 20) → b_X6_loadBounds_104 n Q k x2 x3 x4 bo d dl) : ∀ (j m : Nat) (x2 x3 x4 x5 x6 : Int32), x6.toInt = (m : Int) → m ≤ nn → (0 ≤ x2.toInt ∧ x2.toInt ≤ 150) → (0 ≤ x3.toInt ∧ x3.toInt ≤ 150) → (0 ≤ x4.toInt ∧ x4.toInt ≤ 99) → (∀ i, i < m → x2.toInt ≤ (d 11 i).toInt ∧ (d 11 i).toInt ≤ x3.toInt ∧ (d 12 i).toInt ≤ x4.toInt ∧ (x5 = 0 → d 14 i = 0)) → 9 ≤ m + j → b_X6_loadBounds_28 n Q j k x2 x3 x4 x5 x6 d dl := by
  intro j
  induction j with
  | zero =>
    intro m x2 x3 x4 x5 x6 h6 hm b2 b3 b4 hi hj
    exfalso
    omega
  | succ j hK =>
    intro m x2 x3 x4 x5 x6 h6 hm b2 b3 b4 hi hj
    show _ ∧ _
    have e6 := at_n h6
    refine ⟨fun h => ?_, fun h => ?_⟩
    · have h : (nn : Int) ≤ (m : Int) := (i_le h10 h6).mp h
      have hmn : m = nn := by omega
      subst hmn
      refine ⟨fun h5 => hQ _ _ _ _ b2 b3 b4 (fun i q => ⟨(hi i q).1, (hi i q).2.1, (hi i q).2.2.1⟩) (Or.inl ⟨rfl, fun i q => (hi i q).2.2.2 h5⟩), fun h5 => hQ _ _ _ _ b2 b3 b4 (fun i q => ⟨(hi i q).1, (hi i q).2.1, (hi i q).2.2.1⟩) (Or.inr rfl)⟩
    · have h : ¬ (nn : Int) ≤ (m : Int) := fun q => h ((i_le h10 h6).mpr q)
      have hmn : m < nn := by omega
      have i8 : vp_in x6 8 := vin h6 (by omega) (by omega)
      have wm := hw m hmn
      rw [e6]
      refine ⟨i8, fun v55 e55 => ⟨i8, fun v57 e57 => ⟨i8, fun v59 e59 => ⟨i8, fun v61 e61 => ?_⟩⟩⟩⟩
      have t55 : v55.toInt = min x2.toInt (d 11 m).toInt := by rw [e55]; exact ti_min rfl rfl
      have t57 : v57.toInt = max x3.toInt (d 11 m).toInt := by rw [e57]; exact ti_max rfl rfl
      have t59 : v59.toInt = max x4.toInt (d 12 m).toInt := by rw [e59]; exact ti_max rfl rfl
      refine hK (m + 1) _ _ _ _ _ (inc1 h6 (by omega)) (by omega) (by omega) (by omega) (by omega) (fun i q => ?_) (by omega)
      by_cases e : i = m
      · subst e
        exact ⟨by omega, by omega, by omega, fun z => by rw [e61] at z; exact (or0 z).2⟩
      · have := hi i (by omega)
        exact ⟨by omega, by omega, by omega, fun z => by rw [e61] at z; exact this.2.2.2 (or0 z).1⟩
theorem fn_X6_loadBounds {n : Nat} (hn : 1000000000 ≤ n) {Q : DD → LL → Prop} {k : Nat} (hk : k < 6) {dl : LL} {d : DD} (hI : Inv d) {nn S : Nat} {R : Int} (cR : 2 ≤ R ∧ R ≤ 4) (hR : (d (37 + 3 * k) 0).toInt = R) (hS : (S : Int) = 2 * R) (h10 : (d 10 3).toInt = (nn : Int)) (h12 : (d 10 2).toInt = (S : Int)) (hn8 : nn ≤ 8) (hn1 : 1 ≤ nn) {P : Nat → Nat → Int} (hp : ∀ m, m < nn → ((d 11 m).toInt = P 0 m ∧ (d 12 m).toInt = P 1 m ∧ (d 13 m).toInt = P 2 m ∧ ∀ c, c < nn → (b32 (d 14 m) c = true ↔ P (10 + m) c = 1))) (h3 : ∀ s, P 3 s = pfR R s) (h4 : ∀ s, P 4 s = mfR R s) (h5 : -100000 ≤ P 5 0 ∧ P 5 0 ≤ 100000) (hw : ∀ m, m < nn → (0 ≤ P 0 m ∧ P 0 m ≤ 150) ∧ (0 ≤ P 1 m ∧ P 1 m ≤ 99)) (hQ : ∀ (dz : DD) (Bn : Nat → Nat → Int), Inv dz → FrB d dz → Ld dz P S nn Bn → BnOK P S nn Bn → Q dz dl) : F_X6_loadBounds n k d dl Q := by
  intro v2 e2 v4 e4 v6 e6
  have hw2 : ∀ m, m < nn → (0 ≤ (d 11 m).toInt ∧ (d 11 m).toInt ≤ 150) ∧ (0 ≤ (d 12 m).toInt ∧ (d 12 m).toInt ≤ 99) := fun m hm => by rw [(hp m hm).1, (hp m hm).2.1]; exact hw m hm
  have w0 := hw2 0 (by omega)
  have z0 : (0 : Int32).toNatClampNeg = 0 := rfl
  rw [z0] at e2 e4 e6
  refine fb_X6_loadBounds_28 h10 hn8 hw2 (fun x2 x3 x4 bo b2 b3 b4 hb hbo => ?_) n 0 v2 v4 v6 0 0 rfl (Nat.zero_le _) (by rw [e2]; exact w0.1) (by rw [e4]; exact w0.1) (by rw [e6]; exact w0.2) (fun i q => absurd q (Nat.not_lt_zero _)) (by omega)
  have eS := at_n h12
  have iS : vp_in (d 10 2) 9 := vin h12 (by omega) (by omega)
  refine ⟨iS, ?_⟩
  rw [eS]
  intro d10 e10
  have k10 : d10 10 2 = d 10 2 := by rw [e10, u2_row (by omega)]
  rw [k10]
  refine ⟨iS, ?_⟩
  rw [eS]
  intro d12 e12
  have k12 : d12 10 2 = d 10 2 := by rw [e12, u2_row (by omega), k10]
  rw [k12]
  refine ⟨iS, ?_⟩
  rw [eS]
  intro d14 e14
  have k14 : d14 10 2 = d 10 2 := by rw [e14, u2_row (by omega), k12]
  rw [k14]
  refine ⟨iS, ?_⟩
  rw [eS]
  intro d16 e16
  have k16 : d16 10 2 = d 10 2 := by rw [e16, u2_row (by omega), k14]
  rw [k16]
  refine ⟨iS, ?_⟩
  rw [eS]
  intro d18 e18 v19 e19
  have k18 : d18 10 2 = d 10 2 := by rw [e18, u2_row (by omega), k16]
  have s10 : StP pN d dl d10 dl := by rw [e10]; exact pw_19 (StP.rf hI) rfl
  have s12 : StP pN d dl d12 dl := by rw [e12]; exact pw_20 s10 rfl
  have s14 : StP pN d dl d14 dl := by rw [e14]; exact pw_21 s12 rfl
  have s16 : StP pN d dl d16 dl := by rw [e16]; exact pw_22 s14 rfl
  have s18 : StP pN d dl d18 dl := by rw [e18]; exact pw_23 s16 rfl
  have F18 : FrB d d18 := fun i _ _ c e f g h => by rw [e18, u2_row h, e16, u2_row g, e14, u2_row f, e12, u2_row e, e10, u2_row c]
  have y19 : d18 19 S = 0 := by rw [e18, u2_row (by omega), e16, u2_row (by omega), e14, u2_row (by omega), e12, u2_row (by omega), e10, u2_eq]
  have y20 : d18 20 S = 0 := by rw [e18, u2_row (by omega), e16, u2_row (by omega), e14, u2_row (by omega), e12, u2_eq]
  have y21 : d18 21 S = 0 := by rw [e18, u2_row (by omega), e16, u2_row (by omega), e14, u2_eq]
  have y22 : d18 22 S = 0 := by rw [e18, u2_row (by omega), e16, u2_eq]
  have y23 : d18 23 S = 0 := by rw [e18, u2_eq]
  have Z18 : Bz d18 S := by
    unfold Bz
    rw [y19, y20, y21, y22, y23]
    exact ⟨rfl, rfl, rfl, rfl, rfl⟩
  have t19 : v19.toInt = (S : Int) - 1 := by rw [e19]; exact ti_sub (by rw [k18]; exact h12) (rfl : (1 : Int32).toInt = 1) (by omega) (by omega)
  have cbo : bo.toInt = 0 ∨ bo.toInt = 20 := by
    rcases hbo with ⟨a, _⟩ | a
    · rw [a]; exact Or.inl rfl
    · rw [a]; exact Or.inr rfl
  refine fb_X6_loadBounds_164 hk (lo := x2.toInt) (hi := x3.toInt) (st := x4.toInt) (bo := bo.toInt) (R := R) rfl rfl rfl rfl b2 b3 b4 cbo cR (d0 := d) hR hS (fun dz iz Fz Zz Qz Rz => ?_) n S v19 d18 t19 (Nat.le_refl _) s18.1 F18 Z18 (fun s a b => absurd b (by omega)) (fun s a b => ?_) (by omega)
  · refine hQ dz (fun t s => (dz (19 + t) s).toInt) iz Fz ?_ ?_
    · refine ⟨⟨by omega, hn8, by rw [Fz 10 (by omega) (by omega) (by omega) (by omega) (by omega) (by omega) (by omega)]; exact h12, by rw [Fz 10 (by omega) (by omega) (by omega) (by omega) (by omega) (by omega) (by omega)]; exact h10⟩, fun m hm => ?_, fun s hs => ?_, fun s hs => ⟨rfl, rfl, rfl, rfl, rfl⟩, fun s hs t ht => ?_, h5, fun m hm => ⟨(hw m hm).1, fun s hs => ?_⟩⟩
      · rw [Fz 11 (by omega) (by omega) (by omega) (by omega) (by omega) (by omega) (by omega), Fz 12 (by omega) (by omega) (by omega) (by omega) (by omega) (by omega) (by omega), Fz 13 (by omega) (by omega) (by omega) (by omega) (by omega) (by omega) (by omega), Fz 14 (by omega) (by omega) (by omega) (by omega) (by omega) (by omega) (by omega)]
        exact hp m hm
      · rw [h3, h4]
        exact ⟨(Qz s hs).1, (Qz s hs).2.1⟩
      · have := Rz s hs (19 + t) (by omega) (by omega)
        have c : ((S - s : Nat) : Int) ≤ 8 := by omega
        show -100000 ≤ (dz (19 + t) s).toInt ∧ (dz (19 + t) s).toInt ≤ 100000
        omega
      · have hpc := pf_c (R := R) (s := s) cR.1 cR.2 (by omega)
        have hmc := mf_c (R := R) (s := s) cR.1 cR.2 (by omega)
        have a := hw m hm
        rw [h3, h4]
        refine ⟨?_, ?_⟩
        · rcases hmc with e | e <;> rw [e] <;> omega
        · rcases hpc with e | e | e | e | e | e | e <;> rw [e] <;> omega
    · refine ⟨Zz, fun s hs => ?_, fun s hs m hm => ?_⟩
      · have l0 := hb 0 (by omega)
        have low : ∀ (c s : Nat), s + c = S → (dz 19 s).toInt ≤ (dz 20 s).toInt ∧ (dz 21 s).toInt ≤ (dz 22 s).toInt := by
          intro c
          induction c with
          | zero =>
            intro s e
            have e : s = S := by omega
            subst e
            rw [Zz.1, Zz.2.1, Zz.2.2.1, Zz.2.2.2.1]
            omega
          | succ c ih =>
            intro s e
            have i := ih (s + 1) (by omega)
            obtain ⟨q1, q2, q3, q4, q5, q6, q7⟩ := Qz s (by omega)
            have hpc := pf_c (R := R) (s := s) cR.1 cR.2 (by omega)
            rw [q3, q4, q5, q6]
            refine ⟨?_, ?_⟩
            · split <;> omega
            · rcases hpc with e | e | e | e | e | e | e <;> rw [e] <;> split <;> omega
        exact low (S - s) s (by omega)
      · obtain ⟨q1, q2, q3, q4, q5, q6, q7⟩ := Qz s hs
        have hpc := pf_c (R := R) (s := s) cR.1 cR.2 (by omega)
        have hmc := mf_c (R := R) (s := s) cR.1 cR.2 (by omega)
        have bm := hb m hm
        have p0 := (hp m hm).1
        have p1 := (hp m hm).2.1
        have wm := hw m hm
        rw [h3]
        show (dz 19 s).toInt ≤ (dz 19 (s + 1)).toInt + _ ∧ (dz 20 (s + 1)).toInt + _ ≤ (dz 20 s).toInt ∧ (dz 21 s).toInt ≤ (dz 21 (s + 1)).toInt + _ ∧ (dz 22 (s + 1)).toInt + _ ≤ (dz 22 s).toInt ∧ ∀ c, c < nn → (dz 23 (s + 1)).toInt + _ ≤ (dz 23 s).toInt
        rw [q3, q4, q5, q6, q7]
        refine ⟨?_, ?_, ?_, ?_, fun c hc => ?_⟩
        · split <;> omega
        · split <;> omega
        · rcases hpc with e | e | e | e | e | e | e <;> rw [e] <;> split <;> omega
        · rcases hpc with e | e | e | e | e | e | e <;> rw [e] <;> split <;> omega
        · unfold gaI
          rw [h4]
          have fz : P (10 + m) c = 1 → bo.toInt = 20 := by
            intro w
            rcases hbo with ⟨_, a⟩ | a
            · have := ((hp m hm).2.2.2 c hc).mpr w
              rw [a m hm, b32_zero] at this
              exact absurd this (by decide)
            · rw [a]; rfl
          by_cases w : s % 2 = 1 ∧ P (10 + m) c = 1
          · rw [if_pos w, if_neg (by omega), fz w.2]
            rcases hmc with e | e <;> rw [e] <;> omega
          · rw [if_neg w]
            rcases hmc with e | e <;> rw [e] <;> split <;> omega
  · have hs : s = S := by omega
    subst hs
    intro t ta tb
    have hc : t = 19 ∨ t = 20 ∨ t = 21 ∨ t = 22 ∨ t = 23 := by omega
    rcases hc with rfl | rfl | rfl | rfl | rfl
    · rw [y19]; exact ⟨by rw [Nat.sub_self]; decide, by rw [Nat.sub_self]; decide⟩
    · rw [y20]; exact ⟨by rw [Nat.sub_self]; decide, by rw [Nat.sub_self]; decide⟩
    · rw [y21]; exact ⟨by rw [Nat.sub_self]; decide, by rw [Nat.sub_self]; decide⟩
    · rw [y22]; exact ⟨by rw [Nat.sub_self]; decide, by rw [Nat.sub_self]; decide⟩
    · rw [y23]; exact ⟨by rw [Nat.sub_self]; decide, by rw [Nat.sub_self]; decide⟩
