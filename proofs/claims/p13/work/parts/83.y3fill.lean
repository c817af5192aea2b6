theorem sm_in {f : Nat → Int} {a b : Int} (ha : a ≤ 0) (hb : 0 ≤ b) : ∀ k : Nat, k ≤ 8 → (∀ i, i < k → a ≤ f i ∧ f i ≤ b) → 8 * a ≤ sm f k ∧ sm f k ≤ 8 * b := by
  have gen : ∀ k : Nat, (∀ i, i < k → a ≤ f i ∧ f i ≤ b) → (k : Int) * a ≤ sm f k ∧ sm f k ≤ (k : Int) * b := by
    intro k
    induction k with
    | zero =>
      intro _
      show ((0 : Nat) : Int) * a ≤ 0 ∧ 0 ≤ ((0 : Nat) : Int) * b
      simp
    | succ k ih =>
      intro h
      have i1 := ih (fun i hi => h i (by omega))
      have i2 := h k (by omega)
      show ((k + 1 : Nat) : Int) * a ≤ sm f k + f k ∧ sm f k + f k ≤ ((k + 1 : Nat) : Int) * b
      rw [show ((k + 1 : Nat) : Int) = (k : Int) + 1 by omega, Int.add_mul, Int.add_mul, Int.one_mul, Int.one_mul]
      generalize (k : Int) * a = u at *
      generalize (k : Int) * b = v at *
      omega
  intro k hk h
  have g := gen k h
  have c : k = 0 ∨ k = 1 ∨ k = 2 ∨ k = 3 ∨ k = 4 ∨ k = 5 ∨ k = 6 ∨ k = 7 ∨ k = 8 := by omega
  rcases c with rfl | rfl | rfl | rfl | rfl | rfl | rfl | rfl | rfl <;> omega
theorem leS_in {d : DD} {P : Nat → Nat → Int} {S n s : Nat} {Bn : Nat → Nat → Int} {ch : Nat → Nat} (h : Ld d P S n Bn) (hs : s ≤ S) (hc : ∀ i, i < s → ch i < n) : -1200 ≤ leS P ch s ∧ leS P ch s ≤ 1200 := by
  obtain ⟨⟨s8, _⟩, _, _, _, _, _, hp⟩ := h
  have := sm_in (f := fun i => if i % 2 = 0 then P 0 (ch i) else -P 0 (ch i)) (a := -150) (b := 150) (by omega) (by omega) s (by omega) (fun i hi => by
    have p := (hp (ch i) (hc i hi)).1
    show -150 ≤ (if i % 2 = 0 then P 0 (ch i) else -P 0 (ch i)) ∧ (if i % 2 = 0 then P 0 (ch i) else -P 0 (ch i)) ≤ 150
    split <;> omega)
  unfold leS
  omega
theorem piS_in {d : DD} {P : Nat → Nat → Int} {S n s : Nat} {Bn : Nat → Nat → Int} {ch : Nat → Nat} (h : Ld d P S n Bn) (hs : s ≤ S) (hc : ∀ i, i < s → ch i < n) : -110000 ≤ piS P ch s ∧ piS P ch s ≤ 110000 := by
  obtain ⟨⟨s8, _⟩, _, _, _, _, h5, hp⟩ := h
  have := sm_in (f := fun i => P 0 (ch i) * P 3 i) (a := -1000) (b := 1000) (by omega) (by omega) s (by omega) (fun i hi => ((hp (ch i) (hc i hi)).2 i (by omega)).2)
  unfold piS
  omega
theorem gaS_in {d : DD} {P : Nat → Nat → Int} {S n s : Nat} {Bn : Nat → Nat → Int} {ch : Nat → Nat} (h : Ld d P S n Bn) (hs : s ≤ S) (hc : ∀ i, i < s → ch i < n) : -100 ≤ gaS P ch s ∧ gaS P ch s ≤ 9000 := by
  obtain ⟨⟨s8, _⟩, _, _, _, _, _, hp⟩ := h
  have := sm_in (f := fun i => gaI P i (ch i) (ch (i - 1))) (a := 0) (b := 1020) (by omega) (by omega) s (by omega) (fun i hi => by
    have p := ((hp (ch i) (hc i hi)).2 i (by omega)).1
    show 0 ≤ gaI P i (ch i) (ch (i - 1)) ∧ gaI P i (ch i) (ch (i - 1)) ≤ 1020
    unfold gaI
    generalize P 1 (ch i) * P 4 i = u at *
    split <;> omega)
  unfold gaS
  omega
theorem ab_in {x : Int} (h1 : -1000000 ≤ x) (h2 : x ≤ 1000000) : 0 ≤ ab x ∧ ab x ≤ 1000000 := by unfold ab; split <;> omega
theorem lpm_s {β : Type} {f : Nat → β → β} {c m : Nat} {b : β} : lpm f (c + 1) m b = lpm f c (m + 1) (f m b) := rfl
noncomputable def fsm (P : Nat → Nat → Int) (S n k s : Nat) (ch : Nat → Nat) : Nat → Bool × Int × (Nat → Nat) → Bool × Int × (Nat → Nat) := fun m B => @ite _ (okS P s m ch) (Classical.propDecidable _) (FS P S n k (s + 1) (upN ch s m) B) B
theorem FS_s {P : Nat → Nat → Int} {S n k s : Nat} {ch : Nat → Nat} {B : Bool × Int × (Nat → Nat)} : FS P S n (k + 1) s ch B = lpm (fsm P S n k s ch) n 0 B := rfl
theorem fsm_y {P : Nat → Nat → Int} {S n k s m : Nat} {ch : Nat → Nat} {B : Bool × Int × (Nat → Nat)} (h : okS P s m ch) : fsm P S n k s ch m B = FS P S n k (s + 1) (upN ch s m) B := if_pos h
theorem fsm_n {P : Nat → Nat → Int} {S n k s m : Nat} {ch : Nat → Nat} {B : Bool × Int × (Nat → Nat)} (h : ¬ okS P s m ch) : fsm P S n k s ch m B = B := if_neg h
def FillOK (n : Nat) (P : Nat → Nat → Int) (S nn : Nat) (Bn : Nat → Nat → Int) (dl : LL) (k : Nat) : Prop := ∀ (s : Nat) (x1 x2 x3 x4 x5 : Int32) (ch : Nat → Nat) (B : Bool × Int × (Nat → Nat)) (d : DD) (Q : DD → LL → Prop), S < k + s → s ≤ S → Inv d → Ld d P S nn Bn → x1.toInt = (s : Int) → (∀ m, m < nn → (b32 x2 m = true ↔ ∃ i, i < s ∧ ch i = m)) → (∀ i, i < s → ch i < nn ∧ (d 17 i).toInt = (ch i : Int)) → x3.toInt = leS P ch s → x4.toInt = piS P ch s → x5.toInt = gaS P ch s → BS d S B → (∀ dz : DD, Fr6 s d dz → BS dz S (FS P S nn (S - s) s ch B) → Q dz dl) → F_X6_fillFrom n k x1 x2 x3 x4 x5 d dl Q
theorem fill_61 {n : Nat} (hn : 1000000000 ≤ n) {P : Nat → Nat → Int} {S nn : Nat} {Bn : Nat → Nat → Int} {dl : LL} {k : Nat} (ih : FillOK n P S nn Bn dl k) {s : Nat} {x1 x2 x3 x4 x5 x6 : Int32} {ch : Nat → Nat} {d : DD} {Q : DD → LL → Prop} (hk : S < k + 1 + s) (hs : s < S) (hI : Inv d) (hL : Ld d P S nn Bn) (h1 : x1.toInt = (s : Int)) (h6 : x6.toInt = (s : Int) % 2) (hu : ∀ m, m < nn → (b32 x2 m = true ↔ ∃ i, i < s ∧ ch i = m)) (hc : ∀ i, i < s → ch i < nn ∧ (d 17 i).toInt = (ch i : Int)) (h3 : x3.toInt = leS P ch s) (h4 : x4.toInt = piS P ch s) (h5 : x5.toInt = gaS P ch s) {T : Bool × Int × (Nat → Nat)} (hQ : ∀ dz : DD, Fr6 s d dz → BS dz S T → Q dz dl) : ∀ (j : Nat) (m : Nat) (x7 : Int32) (dw : DD) (B : Bool × Int × (Nat → Nat)), Fr6 s d dw → BS dw S B → x7.toInt = (m : Int) → m ≤ nn → T = lpm (fsm P S nn (S - s - 1) s ch) (nn - m) m B → 9 ≤ m + j → b_X6_fillFrom_61 n (F_X6_fillFrom n k) Q j x1 x2 x3 x4 x5 x6 x7 dw dl := by
  have hL0 := hL
  obtain ⟨⟨s8, n8, _, _⟩, hm11, hs15, _, _, _, hp⟩ := hL0
  intro j
  induction j with
  | zero =>
    intro m x7 dw B hF hB h7 hm hT hj
    exfalso
    omega
  | succ j hK =>
    intro m x7 dw B hF hB h7 hm hT hj
    show _ ∧ _
    have hLw : Ld dw P S nn Bn := hL.fr hF
    have hw := hLw.1
    have e7 := at_n h7
    have e1 := at_n h1
    refine ⟨fun h => ?_, fun h => ?_⟩
    · have h : (nn : Int) ≤ (m : Int) := (i_le hw.2.2.2 h7).mp h
      have hz : nn - m = 0 := by omega
      rw [hz] at hT
      exact hQ dw hF (by rw [hT]; exact hB)
    · have h : ¬ (nn : Int) ≤ (m : Int) := fun q => h ((i_le hw.2.2.2 h7).mpr q)
      have hmn : m < nn := by omega
      have t7 : (x7 + 1).toInt = ((m + 1 : Nat) : Int) := inc1 h7 (by omega)
      have hz : nn - m = (nn - (m + 1)) + 1 := by omega
      rw [hz, lpm_s] at hT
      have skip : ¬ okS P s m ch → b_X6_fillFrom_61 n (F_X6_fillFrom n k) Q j x1 x2 x3 x4 x5 x6 (x7 + 1) dw dl := by
        intro g
        rw [fsm_n g] at hT
        exact hK (m + 1) _ dw B hF hB t7 (by omega) hT (by omega)
      have fr := b32_read (m := x2) (x := x7) (by omega) (by omega)
      rw [e7] at fr
      have hum := hu m hmn
      have i7 : vp_in x7 8 := vin h7 (by omega) (by omega)
      have i1 : vp_in x1 8 := vin h1 (by omega) (by omega)
      obtain ⟨w11, _, w13, _⟩ := hLw.2.1 m hmn
      obtain ⟨w15, _⟩ := hLw.2.2.1 s hs
      have pm := hp m hmn
      have ts : ((1 : Int32) - x6).toInt = 1 - (s : Int) % 2 := ti_sub (rfl : (1 : Int32).toInt = 1) h6 (by omega) (by omega)
      refine ⟨fun g => skip (fun w => ?_), fun g => ⟨i7, ?_⟩⟩
      · cases hb : b32 x2 m
        · exact g (fr.mpr hb)
        · obtain ⟨i, hi, ei⟩ := hum.mp hb
          exact w.1 i hi ei
      · have g := fr.mp g
        rw [e7, e1]
        refine ⟨fun a => skip (fun w => ?_), fun a => ⟨i1, fun d9 e9 => ?_⟩⟩
        · have a : P 2 m = 1 - (s : Int) % 2 := (i_eq w13 ts).mp a
          exact w.2 (by rw [a]; omega)
        · have a : ¬ P 2 m = 1 - (s : Int) % 2 := fun q => a ((i_eq w13 ts).mpr q)
          have ok : okS P s m ch := ⟨fun i hi ei => by
            have := hum.mpr ⟨i, hi, ei⟩
            rw [g] at this
            exact absurd this (by decide), fun q => a (by rw [q]; omega)⟩
          rw [fsm_y ok] at hT
          have s9 : StP pN dw dl d9 dl := by rw [e9]; exact pw_17 (StP.rf hF.1) (by omega) (by omega) rfl
          have F9 : Fr6 s dw d9 := ⟨s9.1, fun i _ b _ => by rw [e9, u2_row b], fun j _ _ => by rw [e9, u2_row (by omega)], fun i hi => by rw [e9, u2_ne (Or.inr (by omega))]⟩
          have L9 : Ld d9 P S nn Bn := hLw.fr F9
          have B9' : BS d9 S B := by
            unfold BS
            rw [e9, u2_row (by omega), u2_row (by omega)]
            exact hB
          have c9 : ∀ i, i < s + 1 → upN ch s m i < nn ∧ (d9 17 i).toInt = (upN ch s m i : Int) := by
            intro i hi
            by_cases hi2 : i = s
            · rw [hi2, upN_e, e9, u2_eq]
              exact ⟨hmn, h7⟩
            · rw [upN_n hi2, e9, u2_ne (Or.inr hi2), hF.2.2.2 i (by omega)]
              exact hc i (by omega)
          have cl : upN ch s m (s - 1) < nn := (c9 (s - 1) (by omega)).1
          have bl := leS_in (ch := ch) hL (Nat.le_of_lt hs) (fun i hi => (hc i hi).1)
          have bp := piS_in (ch := ch) hL (Nat.le_of_lt hs) (fun i hi => (hc i hi).1)
          have bg := gaS_in (ch := ch) hL (Nat.le_of_lt hs) (fun i hi => (hc i hi).1)
          have r11 : (d9 11 m).toInt = P 0 m := (L9.2.1 m hmn).1
          have r15 : (d9 15 s).toInt = P 3 s := (L9.2.2.1 s hs).1
          have tn1 : (x1 + 1).toInt = ((s + 1 : Nat) : Int) := inc1 h1 (by omega)
          have go : ∀ xs0 : Int32, xs0.toInt = leS P (upN ch s m) (s + 1) → b_X6_fillFrom_137 n (F_X6_fillFrom n k) Q (b_X6_fillFrom_61 n (F_X6_fillFrom n k) Q j) x1 x2 x3 x4 x5 x6 x7 xs0 (x2 ||| ((1 : Int32) <<< (x7 &&& 31))) (x1 + 1) d9 dl := by
            intro xs0 hx0
            refine ⟨i7, i1, ?_⟩
            rw [e7, e1]
            refine fn_X6_gainOf L9 h1 hs h7 hmn cl (fun hs1 => (c9 (s - 1) (by omega)).2) (fun r14 hr14 => ?_)
            have pv := (pm.2 s hs).2
            have pg := (pm.2 s hs).1
            have tm : ((d9 11 m) * (d9 15 s)).toInt = P 0 m * P 3 s := ti_mul r11 r15 (by omega) (by omega)
            have gb : -1 ≤ gaI P s m (upN ch s m (s - 1)) ∧ gaI P s m (upN ch s m (s - 1)) ≤ 1020 := by
              unfold gaI
              generalize P 1 m * P 4 s = u at *
              split <;> omega
            refine ih (s + 1) _ _ _ _ _ (upN ch s m) B d9 _ (by omega) (by omega) F9.1 L9 tn1 (fun m2 hm2 => ?_) c9 hx0 (by rw [piS_u]; exact ti_add h4 tm (by omega) (by omega)) (by rw [gaS_u]; exact ti_add h5 hr14 (by omega) (by omega)) B9' (fun d18 F18 B18 => ?_)
            · rw [b32_or, b32_one (by omega) (by omega), e7, Bool.or_eq_true]
              constructor
              · intro q
                rcases q with q | q
                · obtain ⟨i, hi, ei⟩ := (hu m2 hm2).mp q
                  exact ⟨i, by omega, by rw [upN_n (by omega)]; exact ei⟩
                · have q := of_decide_eq_true q
                  exact ⟨s, by omega, by rw [upN_e, q]⟩
              · intro ⟨i, hi, ei⟩
                by_cases hi2 : i = s
                · rw [hi2, upN_e] at ei
                  exact Or.inr (decide_eq_true ei.symm)
                · rw [upN_n hi2] at ei
                  exact Or.inl ((hu m2 hm2).mpr ⟨i, by omega, ei⟩)
            · rw [show S - (s + 1) = S - s - 1 by omega] at B18
              exact hK (m + 1) _ d18 _ ((hF.tr F9 (Nat.le_refl _)).tr F18 (by omega)) B18 t7 (by omega) hT (by omega)
          refine ⟨fun b => ⟨i7, go _ ?_⟩, fun b => ⟨i7, go _ ?_⟩⟩
          · have b : ¬ (s : Int) % 2 = 0 := fun q => b ((i_eq h6 (rfl : (0 : Int32).toInt = 0)).mpr q)
            have pm1 := pm.1
            have t : (x3 - (d9 11 m)).toInt = leS P ch s - P 0 m := ti_sub h3 r11 (by omega) (by omega)
            rw [leS_u, if_neg (by omega), t]
            omega
          · have b : (s : Int) % 2 = 0 := (i_eq h6 (rfl : (0 : Int32).toInt = 0)).mp b
            rw [leS_u, if_pos (by omega)]
            have pm1 := pm.1
            exact ti_add h3 r11 (by omega) (by omega)
theorem fill_25 {n : Nat} (hn : 1000000000 ≤ n) {P : Nat → Nat → Int} {S nn : Nat} {Bn : Nat → Nat → Int} (hBn : BnOK P S nn Bn) {dl : LL} {k : Nat} (ih : FillOK n P S nn Bn dl k) {s : Nat} {x1 x2 x3 x4 x5 : Int32} {ch : Nat → Nat} {B : Bool × Int × (Nat → Nat)} {d : DD} {Q : DD → LL → Prop} (hk : S < k + 1 + s) (hs : s ≤ S) (hI : Inv d) (hL : Ld d P S nn Bn) (h1 : x1.toInt = (s : Int)) (hu : ∀ m, m < nn → (b32 x2 m = true ↔ ∃ i, i < s ∧ ch i = m)) (hc : ∀ i, i < s → ch i < nn ∧ (d 17 i).toInt = (ch i : Int)) (h3 : x3.toInt = leS P ch s) (h4 : x4.toInt = piS P ch s) (h5 : x5.toInt = gaS P ch s) (hB : BS d S B) (hup : ¬ (B.1 = true ∧ B.2.1 ≤ bdS Bn s (leS P ch s) (piS P ch s) (gaS P ch s))) (hQ : ∀ dz : DD, Fr6 s d dz → BS dz S (FS P S nn (S - s) s ch B) → Q dz dl) : b_X6_fillFrom_25 n (F_X6_fillFrom n k) Q x1 x2 x3 x4 x5 d dl := by
  have hw := hL.1
  have bl := leS_in (ch := ch) hL hs (fun i hi => (hc i hi).1)
  have bp := piS_in (ch := ch) hL hs (fun i hi => (hc i hi).1)
  have bg := gaS_in (ch := ch) hL hs (fun i hi => (hc i hi).1)
  refine ⟨fun h => ?_, fun h => ?_⟩
  · have h : (s : Int) < (S : Int) := (i_lt h1 hw.2.2.1).mp h
    intro v3 e3
    have t3 : v3.toInt = (s : Int) % 2 := by rw [e3]; exact ti_rem h1 (rfl : (2 : Int32).toInt = 2) (by omega) (by omega)
    refine fill_61 hn ih hk (by omega) hI hL h1 t3 hu hc h3 h4 h5 (T := FS P S nn (S - s) s ch B) hQ n 0 0 d B (Fr6.rf hI) hB rfl (Nat.zero_le _) ?_ (by omega)
    rw [show S - s = (S - s - 1) + 1 by omega, FS_s]
    rfl
  · have h : ¬ (s : Int) < (S : Int) := fun q => h ((i_lt h1 hw.2.2.1).mpr q)
    have hsS : s = S := by omega
    subst hsS
    have a3 := ti_abs h3 (by omega)
    have a4 := ti_abs h4 (by omega)
    have b3 := ab_in (x := leS P ch s) (by omega) (by omega)
    have b4 := ab_in (x := piS P ch s) (by omega) (by omega)
    have a3 : ((if 0 ≤ x3 then x3 else -x3) : Int32).toInt = ab (leS P ch s) := a3
    have a4 : ((if 0 ≤ x4 then x4 else -x4) : Int32).toInt = ab (piS P ch s) := a4
    refine fn_X6_keepChosen hn hw.1 hI hw.2.2.1 (fun dz F1 z1 z0 z8 => hQ dz F1 ?_)
    rw [Nat.sub_self]
    show BS dz s (upb B (tlt P s ch) ch)
    have tb : bdS Bn s (leS P ch s) (piS P ch s) (gaS P ch s) = tlt P s ch := by
      obtain ⟨⟨y0, y1, y2, y3, y4⟩, _⟩ := hBn
      unfold bdS tlt
      rw [y0, y1, y2, y3, y4, Int.add_zero, Int.add_zero, lsz_ab, lsz_ab]
      omega
    rw [tb] at hup
    unfold upb
    rw [if_neg hup]
    refine Or.inr ⟨rfl, z1, ?_, fun i hi => by rw [z8 i hi]; exact (hc i hi).2⟩
    have t : ((((4 : Int32) * (if 0 ≤ x3 then x3 else -x3)) + (if 0 ≤ x4 then x4 else -x4)) - x5).toInt = 4 * ab (leS P ch s) + ab (piS P ch s) - gaS P ch s := ti_sub (ti_add (ti_mul (rfl : (4 : Int32).toInt = 4) a3 (by omega) (by omega)) a4 (by omega) (by omega)) h5 (by omega) (by omega)
    rw [z0]
    exact t
theorem fill_all {n : Nat} (hn : 1000000000 ≤ n) {P : Nat → Nat → Int} {S nn : Nat} {Bn : Nat → Nat → Int} (hBn : BnOK P S nn Bn) {dl : LL} : ∀ k : Nat, FillOK n P S nn Bn dl k := by
  intro k
  induction k with
  | zero =>
    intro s x1 x2 x3 x4 x5 ch B d Q hk hs
    exfalso
    omega
  | succ k ih =>
    intro s x1 x2 x3 x4 x5 ch B d Q hk hs hI hL h1 hu hc h3 h4 h5 hB hQ
    have bl := leS_in (ch := ch) hL hs (fun i hi => (hc i hi).1)
    have bp := piS_in (ch := ch) hL hs (fun i hi => (hc i hi).1)
    have bg := gaS_in (ch := ch) hL hs (fun i hi => (hc i hi).1)
    show _ ∧ _
    refine ⟨fun h => ?_, fun h => ?_⟩
    · refine fill_25 hn hBn ih hk hs hI hL h1 hu hc h3 h4 h5 hB (fun w => ?_) hQ
      rcases hB with ⟨a, _⟩ | ⟨_, b, _⟩
      · exact absurd (a.symm.trans w.1) (by decide)
      · exact absurd (b.symm.trans h) (by decide)
    · rcases hB with ⟨_, b⟩ | ⟨b1, b2, b3, b4⟩
      · exact absurd b h
      have hB : BS d S B := Or.inr ⟨b1, b2, b3, b4⟩
      refine fn_X6_leastFrom hL h1 hs h3 h4 h5 (by omega) (by omega) (by omega) (fun r hr => ⟨fun g => ?_, fun g => ?_⟩)
      · have g : bdS Bn s (leS P ch s) (piS P ch s) (gaS P ch s) < B.2.1 := (i_lt hr b3).mp g
        exact fill_25 hn hBn ih hk hs hI hL h1 hu hc h3 h4 h5 hB (fun w => by have := w.2; omega) hQ
      · have g : ¬ bdS Bn s (leS P ch s) (piS P ch s) (gaS P ch s) < B.2.1 := fun q => g ((i_lt hr b3).mpr q)
        refine hQ d (Fr6.rf hI) ?_
        rw [FS_prune hBn b1 (S - s) s ch (by omega) (fun i hi => (hc i hi).1) (by omega)]
        exact hB
