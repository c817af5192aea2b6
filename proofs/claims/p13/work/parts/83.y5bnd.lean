def pfR (R : Int) (s : Nat) : Int := 2 * ((s / 2 : Nat) : Int) - (R - 1)
def mfR (R : Int) (s : Nat) : Int := if R - 1 - ((s / 2 : Nat) : Int) < ((s / 2 : Nat) : Int) then R - 1 - ((s / 2 : Nat) : Int) else ((s / 2 : Nat) : Int)
theorem pf_c {R : Int} {s : Nat} (h1 : 2 ≤ R) (h2 : R ≤ 4) (h3 : (s : Int) < 2 * R) : pfR R s = -3 ∨ pfR R s = -2 ∨ pfR R s = -1 ∨ pfR R s = 0 ∨ pfR R s = 1 ∨ pfR R s = 2 ∨ pfR R s = 3 := by unfold pfR; omega
theorem mf_c {R : Int} {s : Nat} (h1 : 2 ≤ R) (h2 : R ≤ 4) (h3 : (s : Int) < 2 * R) : mfR R s = 0 ∨ mfR R s = 1 := by unfold mfR; split <;> omega
def Bq (lo hi st bo : Int) (R : Int) (d : DD) (s : Nat) : Prop :=
  (d 15 s).toInt = pfR R s ∧ (d 16 s).toInt = mfR R s ∧ (d 19 s).toInt = (d 19 (s + 1)).toInt + (if s % 2 = 0 then lo else -hi) ∧ (d 20 s).toInt = (d 20 (s + 1)).toInt + (if s % 2 = 0 then hi else -lo) ∧ (d 21 s).toInt = (d 21 (s + 1)).toInt + pfR R s * (if pfR R s < 0 then hi else lo) ∧ (d 22 s).toInt = (d 22 (s + 1)).toInt + pfR R s * (if pfR R s < 0 then lo else hi) ∧ (d 23 s).toInt = (d 23 (s + 1)).toInt + st * mfR R s + (if s % 2 = 0 then 0 else bo)
def Bz (d : DD) (S : Nat) : Prop := (d 19 S).toInt = 0 ∧ (d 20 S).toInt = 0 ∧ (d 21 S).toInt = 0 ∧ (d 22 S).toInt = 0 ∧ (d 23 S).toInt = 0
def Br (d : DD) (s : Nat) : Prop := (-4000 ≤ (d 19 s).toInt ∧ (d 19 s).toInt ≤ 4000) ∧ (-4000 ≤ (d 20 s).toInt ∧ (d 20 s).toInt ≤ 4000) ∧ (-4000 ≤ (d 21 s).toInt ∧ (d 21 s).toInt ≤ 4000) ∧ (-4000 ≤ (d 22 s).toInt ∧ (d 22 s).toInt ≤ 4000) ∧ (-4000 ≤ (d 23 s).toInt ∧ (d 23 s).toInt ≤ 4000)
def Brk (d : DD) (s c : Nat) : Prop := ∀ t, 19 ≤ t → t ≤ 23 → -((c : Int) * 500) ≤ (d t s).toInt ∧ (d t s).toInt ≤ (c : Int) * 500
def FrB (d dz : DD) : Prop := ∀ i, i ≠ 15 → i ≠ 16 → i ≠ 19 → i ≠ 20 → i ≠ 21 → i ≠ 22 → i ≠ 23 → dz i = d i
theorem fb_X6_loadBounds_164 {n : Nat} {Q : DD → LL → Prop} {k : Nat} (hk : k < 6) {x2 x3 x4 x6 : Int32} {lo hi st bo R : Int} (h2 : x2.toInt = lo) (h3 : x3.toInt = hi) (h4 : x4.toInt = st) (h6 : x6.toInt = bo) (c2 : 0 ≤ lo ∧ lo ≤ 150) (c3 : 0 ≤ hi ∧ hi ≤ 150) (c4 : 0 ≤ st ∧ st ≤ 99) (c6 : bo = 0 ∨ bo = 20) (cR : 2 ≤ R ∧ R ≤ 4) {d0 : DD} {dl : LL} (hR : (d0 (37 + 3 * k) 0).toInt = R) {S : Nat} (hS : (S : Int) = 2 * R) (hQ : ∀ dz : DD, Inv dz → FrB d0 dz → Bz dz S → (∀ s, s < S → Bq lo hi st bo R dz s) → (∀ s, s ≤ S → Brk dz s (S - s)) → Q dz dl) : ∀ (j : Nat) (x : Nat) (x7 : Int32) (d : DD), x7.toInt = (x : Int) - 1 → x ≤ S → Inv d → FrB d0 d → Bz d S → (∀ s, x ≤ s → s < S → Bq lo hi st bo R d s) → (∀ s, x ≤ s → s ≤ S → Brk d s (S - s)) → x < j → b_X6_loadBounds_164 n Q j k x2 x3 x4 x6 x7 d dl := by
  intro j
  induction j with
  | zero =>
    intro x x7 d h7 hx hI hF hz hq hr hm
    exact absurd hm (Nat.not_lt_zero _)
  | succ j hK =>
    intro x x7 d h7 hx hI hF hz hq hr hm
    show _ ∧ _
    refine ⟨fun h => ?_, fun h => ?_⟩
    · have h : x7.toInt < 0 := (i_lt rfl (rfl : (0 : Int32).toInt = 0)).mp h
      have hx0 : x = 0 := by omega
      subst hx0
      exact hQ d hI hF hz (fun s hs => hq s (Nat.zero_le _) hs) (fun s hs => hr s (Nat.zero_le _) hs)
    · have h : ¬ x7.toInt < 0 := fun q => h ((i_lt rfl (rfl : (0 : Int32).toInt = 0)).mpr q)
      obtain ⟨s, rfl⟩ : ∃ s, x = s + 1 := ⟨x - 1, by omega⟩
      have h7 : x7.toInt = (s : Int) := by omega
      have e7 := at_n h7
      have t7 : (x7 + 1).toInt = ((s + 1 : Nat) : Int) := inc1 h7 (by omega)
      have e71 := at_n t7
      have i8 : vp_in x7 8 := vin h7 (by omega) (by omega)
      have i9 : vp_in x7 9 := vin h7 (by omega) (by omega)
      have i91 : vp_in (x7 + 1) 9 := vin t7 (by omega) (by omega)
      have hp := pf_c (R := R) (s := s) cR.1 cR.2 (by omega)
      have hmf := mf_c (R := R) (s := s) cR.1 cR.2 (by omega)
      have rk := hr (s + 1) (Nat.le_refl _) hx
      have k19 := rk 19 (by omega) (by omega)
      have k20 := rk 20 (by omega) (by omega)
      have k21 := rk 21 (by omega) (by omega)
      have k22 := rk 22 (by omega) (by omega)
      have k23 := rk 23 (by omega) (by omega)
      intro v21 e21
      have t21 : v21.toInt = ((s / 2 : Nat) : Int) := by rw [e21]; exact hlf h7
      have tr : (irem x7 2).toInt = (s : Int) % 2 := ti_rem h7 (rfl : (2 : Int32).toInt = 2) (by omega) (by omega)
      have rR : (d (37 + 3 * k) 0).toInt = R := by rw [hF (37 + 3 * k) (by omega) (by omega) (by omega) (by omega) (by omega) (by omega) (by omega)]; exact hR
      have go : ∀ xs0 : Int32, ((xs0 = 1 ∧ s % 2 = 0) ∨ (xs0 = 0 ∧ ¬ s % 2 = 0)) → b_X6_loadBounds_187 n Q (b_X6_loadBounds_164 n Q j) k x2 x3 x4 x6 x7 v21 xs0 d dl := by
        intro xs0 hxs
        unfold b_X6_loadBounds_187 F_X1_pitchFactor F_X1_middleFactor
        have tp : (((2 : Int32) * v21) - ((d (37 + 3 * k) 0) - 1)).toInt = pfR R s := ti_sub (ti_mul (rfl : (2 : Int32).toInt = 2) t21 (by omega) (by omega)) (ti_sub rR (rfl : (1 : Int32).toInt = 1) (by omega) (by omega)) (by omega) (by omega)
        generalize (((2 : Int32) * v21) - ((d (37 + 3 * k) 0) - 1)) = r23 at tp ⊢
        refine ⟨i8, fun d27 e27 => ?_⟩
        rw [e7] at e27
        have q27 : d27 (37 + 3 * k) 0 = d (37 + 3 * k) 0 := by rw [e27, u2_row (by omega)]
        have tb : (((d27 (37 + 3 * k) 0) - 1) - v21).toInt = R - 1 - ((s / 2 : Nat) : Int) := ti_sub (ti_sub (by rw [q27]; exact rR) (rfl : (1 : Int32).toInt = 1) (by omega) (by omega)) t21 (by omega) (by omega)
        have tmf : ((if (((d27 (37 + 3 * k) 0) - 1) - v21) < v21 then (((d27 (37 + 3 * k) 0) - 1) - v21) else v21) : Int32).toInt = mfR R s := by
          unfold mfR
          by_cases w : (((d27 (37 + 3 * k) 0) - 1) - v21) < v21
          · rw [if_pos w, if_pos ((i_lt tb t21).mp w), tb]
          · rw [if_neg w, if_neg (fun q => w ((i_lt tb t21).mpr q)), t21]
        generalize ((if (((d27 (37 + 3 * k) 0) - 1) - v21) < v21 then (((d27 (37 + 3 * k) 0) - 1) - v21) else v21) : Int32) = r28 at tmf ⊢
        refine ⟨i8, fun d32 e32 => ⟨i91, ?_⟩⟩
        rw [e7] at e32
        rw [e71]
        have s27 : StP pN d dl d27 dl := by rw [e27]; exact pw_15 (StP.rf hI) rfl
        have s32 : StP pN d dl d32 dl := by rw [e32]; exact pw_16 s27 rfl
        have hxl : xs0 = 0 → ¬ s % 2 = 0 := fun w => by
          rcases hxs with ⟨a, _⟩ | ⟨_, b⟩
          · exact absurd (a.symm.trans w) (by decide)
          · exact b
        have hxr : ¬ xs0 = 0 → s % 2 = 0 := fun w => by
          rcases hxs with ⟨_, b⟩ | ⟨a, _⟩
          · exact b
          · exact absurd a w
        have c53 : ((S - (s + 1) : Nat) : Int) = (S : Int) - (s : Int) - 1 := by omega
        rw [c53] at k19 k20 k21 k22 k23
        have kS : ((S - s : Nat) : Int) = (S : Int) - (s : Int) := by omega
        have hS8 : (S : Int) ≤ 8 := by omega
        have w19 : (d32 19 (s + 1)).toInt = (d 19 (s + 1)).toInt := by rw [e32, u2_row (by omega), e27, u2_row (by omega)]
        have G1 : ∀ y : Int32, y.toInt = (if s % 2 = 0 then lo else -hi) → b_X6_loadBounds_245 n Q (b_X6_loadBounds_164 n Q j) k x2 x3 x4 x6 x7 xs0 r23 y (d32 19 (s + 1)) x7 d32 dl := by
          intro y hy
          have by1 : -150 ≤ (if s % 2 = 0 then lo else -hi) ∧ (if s % 2 = 0 then lo else -hi) ≤ 150 := by split <;> omega
          refine ⟨i9, fun d36 e36 => ⟨i91, ?_⟩⟩
          rw [e7] at e36
          rw [e71]
          have a36 : (d36 19 s).toInt = (d 19 (s + 1)).toInt + (if s % 2 = 0 then lo else -hi) := by rw [e36, u2_eq]; exact ti_add w19 hy (by omega) (by omega)
          have s36 : StP pN d dl d36 dl := by rw [e36]; exact pw_19 s32 rfl
          have w20 : (d36 20 (s + 1)).toInt = (d 20 (s + 1)).toInt := by rw [e36, u2_row (by omega), e32, u2_row (by omega), e27, u2_row (by omega)]
          have G2 : ∀ y : Int32, y.toInt = (if s % 2 = 0 then hi else -lo) → b_X6_loadBounds_273 n Q (b_X6_loadBounds_164 n Q j) k x2 x3 x4 x6 x7 xs0 r23 y (d36 20 (s + 1)) x7 d36 dl := by
            intro y hy
            have by2 : -150 ≤ (if s % 2 = 0 then hi else -lo) ∧ (if s % 2 = 0 then hi else -lo) ≤ 150 := by split <;> omega
            refine ⟨i9, fun d40 e40 => ⟨i91, ?_⟩⟩
            rw [e7] at e40
            rw [e71]
            have a40 : (d40 20 s).toInt = (d 20 (s + 1)).toInt + (if s % 2 = 0 then hi else -lo) := by rw [e40, u2_eq]; exact ti_add w20 hy (by omega) (by omega)
            have s40 : StP pN d dl d40 dl := by rw [e40]; exact pw_20 s36 rfl
            have w21 : (d40 21 (s + 1)).toInt = (d 21 (s + 1)).toInt := by rw [e40, u2_row (by omega), e36, u2_row (by omega), e32, u2_row (by omega), e27, u2_row (by omega)]
            have G3 : ∀ y : Int32, y.toInt = (if pfR R s < 0 then hi else lo) → b_X6_loadBounds_302 n Q (b_X6_loadBounds_164 n Q j) k x2 x3 x4 x6 x7 xs0 r23 y r23 (d40 21 (s + 1)) x7 d40 dl := by
              intro y hy
              have by3 : -450 ≤ pfR R s * (if pfR R s < 0 then hi else lo) ∧ pfR R s * (if pfR R s < 0 then hi else lo) ≤ 450 := by
                rcases hp with e | e | e | e | e | e | e <;> rw [e] <;> split <;> omega
              refine ⟨i9, fun d44 e44 => ⟨i91, ?_⟩⟩
              rw [e7] at e44
              rw [e71]
              have a44 : (d44 21 s).toInt = (d 21 (s + 1)).toInt + pfR R s * (if pfR R s < 0 then hi else lo) := by rw [e44, u2_eq]; exact ti_add w21 (ti_mul tp hy (by omega) (by omega)) (by omega) (by omega)
              have s44 : StP pN d dl d44 dl := by rw [e44]; exact pw_21 s40 rfl
              have w22 : (d44 22 (s + 1)).toInt = (d 22 (s + 1)).toInt := by rw [e44, u2_row (by omega), e40, u2_row (by omega), e36, u2_row (by omega), e32, u2_row (by omega), e27, u2_row (by omega)]
              have G4 : ∀ y : Int32, y.toInt = (if pfR R s < 0 then lo else hi) → b_X6_loadBounds_332 n Q (b_X6_loadBounds_164 n Q j) k x2 x3 x4 x6 x7 xs0 y r23 (d44 22 (s + 1)) x7 d44 dl := by
                intro y hy
                have by4 : -450 ≤ pfR R s * (if pfR R s < 0 then lo else hi) ∧ pfR R s * (if pfR R s < 0 then lo else hi) ≤ 450 := by
                  rcases hp with e | e | e | e | e | e | e <;> rw [e] <;> split <;> omega
                have by5 : 0 ≤ st * mfR R s ∧ st * mfR R s ≤ 99 := by
                  rcases hmf with e | e <;> rw [e] <;> omega
                refine ⟨i9, fun d48 e48 => ?_⟩
                rw [e7] at e48
                rw [e71, e7]
                have a48 : (d48 22 s).toInt = (d 22 (s + 1)).toInt + pfR R s * (if pfR R s < 0 then lo else hi) := by rw [e48, u2_eq]; exact ti_add w22 (ti_mul tp hy (by omega) (by omega)) (by omega) (by omega)
                have s48 : StP pN d dl d48 dl := by rw [e48]; exact pw_22 s44 rfl
                have w23 : (d48 23 (s + 1)).toInt = (d 23 (s + 1)).toInt := by rw [e48, u2_row (by omega), e44, u2_row (by omega), e40, u2_row (by omega), e36, u2_row (by omega), e32, u2_row (by omega), e27, u2_row (by omega)]
                have w16 : (d48 16 s).toInt = mfR R s := by rw [e48, u2_row (by omega), e44, u2_row (by omega), e40, u2_row (by omega), e36, u2_row (by omega), e32, u2_eq]; exact tmf
                have tx : ((d48 23 (s + 1)) + (x4 * (d48 16 s))).toInt = (d 23 (s + 1)).toInt + st * mfR R s := ti_add w23 (ti_mul h4 w16 (by omega) (by omega)) (by omega) (by omega)
                have G5 : ∀ y : Int32, y.toInt = (if s % 2 = 0 then 0 else bo) → b_X6_loadBounds_372 n Q (b_X6_loadBounds_164 n Q j) k x2 x3 x4 x6 x7 y ((d48 23 (s + 1)) + (x4 * (d48 16 s))) x7 d48 dl := by
                  intro y hy
                  have by6 : 0 ≤ (if s % 2 = 0 then 0 else bo) ∧ (if s % 2 = 0 then 0 else bo) ≤ 20 := by split <;> omega
                  refine ⟨i9, fun d53 e53 => ?_⟩
                  rw [e7] at e53
                  have a53 : (d53 23 s).toInt = (d 23 (s + 1)).toInt + st * mfR R s + (if s % 2 = 0 then 0 else bo) := by rw [e53, u2_eq]; exact ti_add tx hy (by omega) (by omega)
                  have s53 : StP pN d dl d53 dl := by rw [e53]; exact pw_23 s48 rfl
                  have ou : ∀ i j, (i ≠ 15 ∨ j ≠ s) → (i ≠ 16 ∨ j ≠ s) → (i ≠ 19 ∨ j ≠ s) → (i ≠ 20 ∨ j ≠ s) → (i ≠ 21 ∨ j ≠ s) → (i ≠ 22 ∨ j ≠ s) → (i ≠ 23 ∨ j ≠ s) → d53 i j = d i j := fun i j a b c e f g h => by rw [e53, u2_ne h, e48, u2_ne g, e44, u2_ne f, e40, u2_ne e, e36, u2_ne c, e32, u2_ne b, e27, u2_ne a]
                  have oj : ∀ i j, j ≠ s → d53 i j = d i j := fun i j hj => ou i j (Or.inr hj) (Or.inr hj) (Or.inr hj) (Or.inr hj) (Or.inr hj) (Or.inr hj) (Or.inr hj)
                  have z15 : (d53 15 s).toInt = pfR R s := by rw [e53, u2_row (by omega), e48, u2_row (by omega), e44, u2_row (by omega), e40, u2_row (by omega), e36, u2_row (by omega), e32, u2_row (by omega), e27, u2_eq]; exact tp
                  have z16 : (d53 16 s).toInt = mfR R s := by rw [e53, u2_row (by omega)]; exact w16
                  have z19 : (d53 19 s).toInt = (d53 19 (s + 1)).toInt + (if s % 2 = 0 then lo else -hi) := by rw [oj 19 (s + 1) (by omega), e53, u2_row (by omega), e48, u2_row (by omega), e44, u2_row (by omega), e40, u2_row (by omega)]; exact a36
                  have z20 : (d53 20 s).toInt = (d53 20 (s + 1)).toInt + (if s % 2 = 0 then hi else -lo) := by rw [oj 20 (s + 1) (by omega), e53, u2_row (by omega), e48, u2_row (by omega), e44, u2_row (by omega)]; exact a40
                  have z21 : (d53 21 s).toInt = (d53 21 (s + 1)).toInt + pfR R s * (if pfR R s < 0 then hi else lo) := by rw [oj 21 (s + 1) (by omega), e53, u2_row (by omega), e48, u2_row (by omega)]; exact a44
                  have z22 : (d53 22 s).toInt = (d53 22 (s + 1)).toInt + pfR R s * (if pfR R s < 0 then lo else hi) := by rw [oj 22 (s + 1) (by omega), e53, u2_row (by omega)]; exact a48
                  have z23 : (d53 23 s).toInt = (d53 23 (s + 1)).toInt + st * mfR R s + (if s % 2 = 0 then 0 else bo) := by rw [oj 23 (s + 1) (by omega)]; exact a53
                  obtain ⟨z7, ez7, tz7⟩ := dec1 h7 (by omega)
                  rw [← ez7]
                  refine hK s z7 d53 tz7 (by omega) s53.1 (fun i a b c e f g h => ?_) ?_ (fun s2 ha hb => ?_) (fun s2 ha hb => ?_) (by omega)
                  · rw [← hF i a b c e f g h]
                    exact funext (fun j => ou i j (Or.inl a) (Or.inl b) (Or.inl c) (Or.inl e) (Or.inl f) (Or.inl g) (Or.inl h))
                  · unfold Bz
                    rw [oj _ S (by omega), oj _ S (by omega), oj _ S (by omega), oj _ S (by omega), oj _ S (by omega)]
                    exact hz
                  · by_cases he : s2 = s
                    · rw [he]
                      exact ⟨z15, z16, z19, z20, z21, z22, z23⟩
                    · have := hq s2 (by omega) hb
                      unfold Bq at this ⊢
                      rw [oj _ s2 he, oj _ s2 he, oj _ s2 he, oj _ s2 he, oj _ s2 he, oj _ s2 he, oj _ s2 he, oj _ (s2 + 1) (by omega), oj _ (s2 + 1) (by omega), oj _ (s2 + 1) (by omega), oj _ (s2 + 1) (by omega), oj _ (s2 + 1) (by omega)]
                      exact this
                  · by_cases he : s2 = s
                    · rw [he]
                      intro t ta tb
                      rw [kS]
                      have hc : t = 19 ∨ t = 20 ∨ t = 21 ∨ t = 22 ∨ t = 23 := by omega
                      rw [oj 19 (s + 1) (by omega)] at z19
                      rw [oj 20 (s + 1) (by omega)] at z20
                      rw [oj 21 (s + 1) (by omega)] at z21
                      rw [oj 22 (s + 1) (by omega)] at z22
                      rw [oj 23 (s + 1) (by omega)] at z23
                      rcases hc with rfl | rfl | rfl | rfl | rfl
                      · rw [z19]; omega
                      · rw [z20]; omega
                      · rw [z21]; omega
                      · rw [z22]; omega
                      · rw [z23]; omega
                    · intro t ta tb
                      rw [oj _ s2 he]
                      exact hr s2 (by omega) hb t ta tb
                refine ⟨i91, i8, fun w => G5 x6 (by rw [if_neg (hxl w)]; exact h6), fun w => G5 0 (by rw [if_pos (hxr w)]; rfl)⟩
              refine ⟨fun w => G4 x3 ?_, fun w => G4 x2 ?_⟩
              · have w : 0 ≤ pfR R s := (i_le (rfl : (0 : Int32).toInt = 0) tp).mp w
                rw [if_neg (by omega)]; exact h3
              · have w : ¬ 0 ≤ pfR R s := fun q => w ((i_le (rfl : (0 : Int32).toInt = 0) tp).mpr q)
                rw [if_pos (by omega)]; exact h2
            refine ⟨fun w => G3 x2 ?_, fun w => G3 x3 ?_⟩
            · have w : 0 ≤ pfR R s := (i_le (rfl : (0 : Int32).toInt = 0) tp).mp w
              rw [if_neg (by omega)]; exact h2
            · have w : ¬ 0 ≤ pfR R s := fun q => w ((i_le (rfl : (0 : Int32).toInt = 0) tp).mpr q)
              rw [if_pos (by omega)]; exact h3
          refine ⟨fun w => G2 (-x2) ?_, fun w => G2 x3 ?_⟩
          · rw [if_neg (hxl w)]; exact ti_neg h2 (by omega) (by omega)
          · rw [if_pos (hxr w)]; exact h3
        refine ⟨fun w => G1 (-x3) ?_, fun w => G1 x2 ?_⟩
        · rw [if_neg (hxl w)]; exact ti_neg h3 (by omega) (by omega)
        · rw [if_pos (hxr w)]; exact h2
      refine ⟨fun w => go 0 (Or.inr ⟨rfl, ?_⟩), fun w => go 1 (Or.inl ⟨rfl, ?_⟩)⟩
      · have w : ¬ (s : Int) % 2 = 0 := fun q => w ((i_eq tr (rfl : (0 : Int32).toInt = 0)).mpr q)
        omega
      · have w : (s : Int) % 2 = 0 := (i_eq tr (rfl : (0 : Int32).toInt = 0)).mp w
        omega
