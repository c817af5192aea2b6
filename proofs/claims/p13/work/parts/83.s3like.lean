def ok2 (m : Int32) (a b : Int32) : Prop := (0 ≤ a.toInt ∧ a.toInt < m.toInt) ∧ (0 ≤ b.toInt ∧ b.toInt < m.toInt)
def okL (a b x : Int32) : Prop := (0 ≤ x.toInt ∧ x.toInt ≤ 1) ∧ ¬ a = b
def LikL (dl lz : LL) (A B : Nat) (v : Bool) : Prop := (∀ p q : Nat, p < 40 → q < 40 → bt (lz 7 p) q = if (p = A ∧ q = B) ∨ (p = B ∧ q = A) then v else bt (dl 7 p) q) ∧ ∀ i, i ≠ 7 → lz i = dl i
def LikeP9 (d : DD) (dl lz : LL) (a b x r : Int32) : Prop :=
  (¬ ok2 (d 1 0) a b ∧ r = -1 ∧ lz = dl) ∨ (ok2 (d 1 0) a b ∧ ¬ okL a b x ∧ r = -2 ∧ lz = dl) ∨ (ok2 (d 1 0) a b ∧ okL a b x ∧ (r = if bt (dl 7 a.toNatClampNeg) b.toNatClampNeg = true then 1 else 0) ∧ LikL dl lz a.toNatClampNeg b.toNatClampNeg (decide (x = 1)))
def LikeP10 (d dz : DD) (a b x r : Int32) : Prop :=
  (¬ ok2 (d 211 0) a b ∧ r = -1 ∧ dz = d) ∨ (ok2 (d 211 0) a b ∧ ¬ okL a b x ∧ r = -2 ∧ dz = d) ∨ (ok2 (d 211 0) a b ∧ okL a b x ∧ (r = if d 217 (40 * a.toNatClampNeg + b.toNatClampNeg) = 0 then 0 else 1) ∧ dz = u2 (u2 d 217 (40 * a.toNatClampNeg + b.toNatClampNeg) (if x = 1 then 1 else 0)) 217 (40 * b.toNatClampNeg + a.toNatClampNeg) (if x = 1 then 1 else 0))
theorem fn_X4_areFriends {n : Nat} {x1 x2 : Int32} {d : DD} {dl : LL} (b1 : 0 ≤ x1.toInt ∧ x1.toInt < 40) (b2 : 0 ≤ x2.toInt ∧ x2.toInt < 40) {Q : Int32 → DD → LL → Prop} (hQ : Q (if bt (dl 7 x1.toNatClampNeg) x2.toNatClampNeg = true then 1 else 0) d dl) : F_X4_areFriends n x1 x2 d dl Q := by
  have hr := bt_read (m := dl 7 x1.toNatClampNeg) (x := x2) b2.1 b2.2
  refine ⟨vin rfl b1.1 (by omega), fun h => ?_, fun h => ?_⟩
  · rw [if_neg (by rw [hr.mp h]; decide)] at hQ
    exact hQ
  · have h2 : bt (dl 7 x1.toNatClampNeg) x2.toNatClampNeg = true := by
      cases hb : bt (dl 7 x1.toNatClampNeg) x2.toNatClampNeg
      · exact absurd (hr.mpr hb) h
      · rfl
    rw [if_pos h2] at hQ
    exact hQ
theorem lik_mk {dl la lb : LL} {A B : Nat} {wA wB : Int64} (v : Bool) (hAB : A ≠ B) (ea : la = l2 dl 7 A wA) (eb : lb = l2 la 7 B wB) (hA : ∀ q, q < 40 → bt wA q = if q = B then v else bt (dl 7 A) q) (hB : ∀ q, q < 40 → bt wB q = if q = A then v else bt (dl 7 B) q) : LikL dl lb A B v := by
  refine ⟨fun p q hp hq => ?_, fun i hi => by rw [eb, l2_row hi, ea, l2_row hi]⟩
  by_cases pB : p = B
  · subst pB
    rw [eb, l2_eq, hB q hq]
    by_cases qA : q = A
    · rw [if_pos qA, if_pos (Or.inr ⟨rfl, qA⟩)]
    · rw [if_neg qA, if_neg (fun h => h.elim (fun g => hAB g.1.symm) (fun g => qA g.2))]
  · rw [eb, l2_ne (Or.inr pB)]
    by_cases pA : p = A
    · subst pA
      rw [ea, l2_eq, hA q hq]
      by_cases qB : q = B
      · rw [if_pos qB, if_pos (Or.inl ⟨rfl, qB⟩)]
      · rw [if_neg qB, if_neg (fun h => h.elim (fun g => qB g.2) (fun g => pB g.1))]
    · rw [ea, l2_ne (Or.inr pA), if_neg (fun h => h.elim (fun g => pA g.1) (fun g => pB g.1))]
theorem fn_X4_setFriends {n : Nat} {x1 x2 x3 : Int32} {d : DD} {dl : LL} (b1 : 0 ≤ x1.toInt ∧ x1.toInt < 40) (b2 : 0 ≤ x2.toInt ∧ x2.toInt < 40) (hne : ¬ x1 = x2) {Q : DD → LL → Prop} (hQ : ∀ lz : LL, LikL dl lz x1.toNatClampNeg x2.toNatClampNeg (!decide (x3 = 0)) → Q d lz) : F_X4_setFriends n x1 x2 x3 d dl Q := by
  have i1 : vp_in x1 40 := vin rfl b1.1 (by omega)
  have i2 : vp_in x2 40 := vin rfl b2.1 (by omega)
  have hAB : x1.toNatClampNeg ≠ x2.toNatClampNeg := by
    intro h
    have a : x1.toNatClampNeg = x1.toInt.toNat := rfl
    have b : x2.toNatClampNeg = x2.toInt.toNat := rfl
    exact hne (Int32.toInt_inj.mp (by omega))
  have o1 : ∀ q, bt (lshl 1 x1) q = decide (q = x1.toNatClampNeg) := fun q => bt_one b1.1 b1.2
  have o2 : ∀ q, bt (lshl 1 x2) q = decide (q = x2.toNatClampNeg) := fun q => bt_one b2.1 b2.2
  have n1 : ∀ q, q < 40 → bt (lshl 1 x1 ^^^ (-1)) q = !decide (q = x1.toNatClampNeg) := fun q hq => bt_not b1.1 b1.2 (by omega)
  have n2 : ∀ q, q < 40 → bt (lshl 1 x2 ^^^ (-1)) q = !decide (q = x2.toNatClampNeg) := fun q hq => bt_not b2.1 b2.2 (by omega)
  intro v1 e1 v2 e2
  refine ⟨fun h => ⟨i1, i1, fun l6 e6 => ⟨fun _ => ⟨i2, i2, fun l10 e10 => hQ _ ?_⟩, fun g => absurd h g⟩⟩, fun h => ⟨i1, i1, fun l6 e6 => ⟨fun g => absurd g h, fun _ => ⟨i2, i2, fun l13 e13 => hQ _ ?_⟩⟩⟩⟩
  · rw [decide_eq_true h]
    refine lik_mk _ hAB e6 e10 (fun q hq => ?_) (fun q hq => ?_)
    · rw [bt_and, e2, n2 q hq]
      by_cases g : q = x2.toNatClampNeg <;> simp [g]
    · rw [bt_and, e1, n1 q hq, e6, l2_ne (Or.inr hAB.symm)]
      by_cases g : q = x1.toNatClampNeg <;> simp [g]
  · rw [decide_eq_false h]
    refine lik_mk _ hAB e6 e13 (fun q hq => ?_) (fun q hq => ?_)
    · rw [bt_or, e2, o2 q]
      by_cases g : q = x2.toNatClampNeg <;> simp [g]
    · rw [bt_or, e1, o1 q, e6, l2_ne (Or.inr hAB.symm)]
      by_cases g : q = x1.toNatClampNeg <;> simp [g]
theorem ix40 {x1 x3 : Int32} (a1 : 0 ≤ x1.toInt) (a2 : x1.toInt < 40) (b1 : 0 ≤ x3.toInt) (b2 : x3.toInt < 40) : vp_in (((40 : Int32) * x1) + x3) 1600 ∧ (((40 : Int32) * x1) + x3).toNatClampNeg = 40 * x1.toNatClampNeg + x3.toNatClampNeg := by
  have t8 : ((40 : Int32) * x1).toInt = 40 * x1.toInt := ti_mul (rfl : (40 : Int32).toInt = 40) rfl (by omega) (by omega)
  have t : (((40 : Int32) * x1) + x3).toInt = 40 * x1.toInt + x3.toInt := ti_add t8 rfl (by omega) (by omega)
  refine ⟨vin t (by omega) (by omega), ?_⟩
  rw [clampI t]
  have a : x1.toNatClampNeg = x1.toInt.toNat := rfl
  have b : x3.toNatClampNeg = x3.toInt.toNat := rfl
  omega
theorem like_58 {n : Nat} {x1 x2 x3 r : Int32} {d : DD} {dl : LL} {Q : Int32 → DD → LL → Prop} (b1 : 0 ≤ x1.toInt ∧ x1.toInt < 40) (b2 : 0 ≤ x2.toInt ∧ x2.toInt < 40) (hne : ¬ x1 = x2) (hQ : ∀ lz : LL, LikL dl lz x1.toNatClampNeg x2.toNatClampNeg (decide (x3 = 1)) → Q r d lz) : b_X9_like_58 n Q x1 x2 x3 r d dl := by
  refine ⟨fun h => ?_, fun h => ?_⟩
  · rw [decide_eq_false h] at hQ
    exact fn_X4_setFriends (x3 := 0) b1 b2 hne (fun lz hl => hQ lz hl)
  · rw [decide_eq_true h] at hQ
    exact fn_X4_setFriends (x3 := 1) b1 b2 hne (fun lz hl => hQ lz hl)
theorem sp_X9_like {n : Nat} (hn : 1000000000 ≤ n) {x1 x2 x3 : Int32} {d : DD} {dl : LL} (hI : Inv d) {Q : Int32 → DD → LL → Prop} (hQ : ∀ (r : Int32) (dz : DD) (lz : LL), (Inv dz ∧ dz = d) ∧ LikeP9 d dl lz x1 x2 x3 r → Q r dz lz) : F_X9_like n x1 x2 x3 d dl Q := by
  have m := iv_1_0 hI
  refine sp_X4_has hn hI (fun r1 d2 l3 ⟨p1, q1⟩ => ?_)
  obtain ⟨h3, rfl, rfl⟩ := p1
  refine ⟨fun h1 => ?_, fun h1 => ?_⟩
  · have h1 : r1.toInt = 0 := (i_eq rfl (rfl : (0 : Int32).toInt = 0)).mp h1
    exact hQ _ _ _ ⟨⟨hI, rfl⟩, Or.inl ⟨fun h => by have := h.1; omega, rfl, rfl⟩⟩
  have h1 : ¬ r1.toInt = 0 := fun q => h1 ((i_eq rfl (rfl : (0 : Int32).toInt = 0)).mpr q)
  refine sp_X4_has hn hI (fun r5 d6 l7 ⟨p2, q2⟩ => ?_)
  obtain ⟨h4, rfl, rfl⟩ := p2
  refine ⟨fun h2 => ?_, fun h2 => ?_⟩
  · have h2 : ¬ r5.toInt = 0 := fun q => h2 ((i_eq rfl (rfl : (0 : Int32).toInt = 0)).mpr q)
    have ok : ok2 (d6 1 0) x1 x2 := ⟨by omega, by omega⟩
    refine sp_X9_within hn hI (fun r9 d10 l11 ⟨p3, q3⟩ => ?_)
    obtain ⟨h5, rfl, rfl⟩ := p3
    replace q3 : 0 ≤ r9.toInt ∧ r9.toInt ≤ 1 ∧ ((r9.toInt = 1 ∧ 0 ≤ x3.toInt ∧ x3.toInt ≤ 1) ∨ (r9.toInt = 0 ∧ ¬ (0 ≤ x3.toInt ∧ x3.toInt ≤ 1))) := q3
    refine ⟨fun h6 => ?_, fun h6 => ⟨fun h7 => ?_, fun h7 => ?_⟩⟩
    · have h6 : r9.toInt = 0 := (i_eq rfl (rfl : (0 : Int32).toInt = 0)).mp h6
      exact hQ _ _ _ ⟨⟨hI, rfl⟩, Or.inr (Or.inl ⟨ok, fun h => by have := h.1; omega, rfl, rfl⟩)⟩
    · have h6 : ¬ r9.toInt = 0 := fun q => h6 ((i_eq rfl (rfl : (0 : Int32).toInt = 0)).mpr q)
      have okl : okL x1 x2 x3 := ⟨by omega, h7⟩
      have b1 : 0 ≤ x1.toInt ∧ x1.toInt < 40 := by omega
      have b2 : 0 ≤ x2.toInt ∧ x2.toInt < 40 := by omega
      refine fn_X4_areFriends b1 b2 ⟨fun h8 => ?_, fun h8 => ?_⟩
      · refine like_58 b1 b2 h7 (fun lz hl => hQ _ _ _ ⟨⟨hI, rfl⟩, Or.inr (Or.inr ⟨ok, okl, h8.symm, hl⟩)⟩)
      · refine like_58 b1 b2 h7 (fun lz hl => hQ _ _ _ ⟨⟨hI, rfl⟩, Or.inr (Or.inr ⟨ok, okl, ?_, hl⟩)⟩)
        by_cases hb : bt (l11 7 x1.toNatClampNeg) x2.toNatClampNeg = true
        · rw [if_pos hb]
        · rw [if_neg hb] at h8
          exact absurd rfl h8
    · exact hQ _ _ _ ⟨⟨hI, rfl⟩, Or.inr (Or.inl ⟨ok, fun h => h.2 h7, rfl, rfl⟩)⟩
  · have h2 : r5.toInt = 0 := (i_eq rfl (rfl : (0 : Int32).toInt = 0)).mp h2
    exact hQ _ _ _ ⟨⟨hI, rfl⟩, Or.inl ⟨fun h => by have := h.2; omega, rfl, rfl⟩⟩
theorem Kp.rf {P : Nat → Nat → Bool} {d : DD} (h : Inv d) : Kp P d d := ⟨h, fun _ _ _ => rfl⟩
theorem StP.kp {P : Nat → Nat → Bool} {e d : DD} {el dl : LL} (h : StP P e el d dl) : Kp P e d := ⟨h.1, h.2.1⟩
theorem like_68 {n : Nat} {x1 x2 x3 v w r : Int32} {d : DD} {dl : LL} {Q : Int32 → DD → LL → Prop} (hI : Inv d) (b1 : 0 ≤ x1.toInt ∧ x1.toInt < 40) (b2 : 0 ≤ x2.toInt ∧ x2.toInt < 40) (hw : vp_nar .boolean w = (if x3 = 1 then 1 else 0)) (hr : r = if v = 0 then 0 else 1)
    (hQ : ∀ dz : DD, Kp pK d dz → dz = u2 (u2 d 217 (40 * x1.toNatClampNeg + x2.toNatClampNeg) (if x3 = 1 then 1 else 0)) 217 (40 * x2.toNatClampNeg + x1.toNatClampNeg) (if x3 = 1 then 1 else 0) → Q r dz dl) : b_X10_like_68 n Q x1 x2 x3 v w (((40 : Int32) * x1) + x2) d dl := by
  obtain ⟨i1, c1⟩ := ix40 b1.1 b1.2 b2.1 b2.2
  obtain ⟨i2, c2⟩ := ix40 b2.1 b2.2 b1.1 b1.2
  have nv : 0 ≤ ((if x3 = 1 then 1 else 0 : Int32)).toInt ∧ ((if x3 = 1 then 1 else 0 : Int32)).toInt ≤ 1 := by split <;> decide
  refine ⟨i1, fun d16 e16 => ?_⟩
  rw [c1, hw] at e16
  have s16 : StK d dl d16 dl := by rw [e16]; exact pw_217 (StP.rf hI) nv.1 nv.2 rfl
  have fin : ∀ w2 : Int32, vp_nar .boolean w2 = (if x3 = 1 then 1 else 0) → b_X10_like_89 n Q v w2 (((40 : Int32) * x2) + x1) d16 dl := by
    intro w2 hw2
    refine ⟨i2, fun d19 e19 => ?_⟩
    rw [c2, hw2] at e19
    have s19 : StK d dl d19 dl := by rw [e19]; exact pw_217 s16 nv.1 nv.2 rfl
    have hz := hQ d19 s19.kp (by rw [e19, e16])
    refine ⟨fun h => ?_, fun h => ?_⟩
    · rw [hr, if_pos h] at hz; exact hz
    · rw [hr, if_neg h] at hz; exact hz
  refine ⟨fun h => fin 0 ?_, fun h => fin 1 ?_⟩
  · rw [if_neg h]; decide
  · rw [if_pos h]; decide
theorem sp_X10_like {n : Nat} (hn : 1000000000 ≤ n) {x1 x2 x3 : Int32} {d : DD} {dl : LL} (hI : Inv d) {Q : Int32 → DD → LL → Prop} (hQ : ∀ (r : Int32) (dz : DD) (lz : LL), (Kp pK d dz ∧ lz = dl) ∧ LikeP10 d dz x1 x2 x3 r → Q r dz lz) : F_X10_like n x1 x2 x3 d dl Q := by
  have m := iv_211_0 hI
  refine sp_X10_isPaddler hn hI (fun r1 d2 l3 ⟨p1, q1⟩ => ?_)
  obtain ⟨h3, rfl, rfl⟩ := p1
  refine ⟨fun h1 => ?_, fun h1 => ?_⟩
  · have h1 : r1.toInt = 0 := (i_eq rfl (rfl : (0 : Int32).toInt = 0)).mp h1
    exact hQ _ _ _ ⟨⟨Kp.rf hI, rfl⟩, Or.inl ⟨fun h => by have := h.1; omega, rfl, rfl⟩⟩
  have h1 : ¬ r1.toInt = 0 := fun q => h1 ((i_eq rfl (rfl : (0 : Int32).toInt = 0)).mpr q)
  refine sp_X10_isPaddler hn hI (fun r5 d6 l7 ⟨p2, q2⟩ => ?_)
  obtain ⟨h4, rfl, rfl⟩ := p2
  refine ⟨fun h2 => ?_, fun h2 => ?_⟩
  · have h2 : ¬ r5.toInt = 0 := fun q => h2 ((i_eq rfl (rfl : (0 : Int32).toInt = 0)).mpr q)
    have ok : ok2 (d6 211 0) x1 x2 := ⟨by omega, by omega⟩
    have bad : ¬ okL x1 x2 x3 → Q (-2) d6 l7 := fun h => hQ _ _ _ ⟨⟨Kp.rf hI, rfl⟩, Or.inr (Or.inl ⟨ok, h, rfl, rfl⟩)⟩
    refine ⟨fun h6 => ?_, fun h6 => ⟨fun h7 => ?_, fun h7 => ⟨fun h8 => ?_, fun h8 => ?_⟩⟩⟩
    · have h6 : x3.toInt < 0 := (i_lt rfl (rfl : (0 : Int32).toInt = 0)).mp h6
      exact bad (fun h => by have := h.1; omega)
    · have h7 : 1 < x3.toInt := (i_lt (rfl : (1 : Int32).toInt = 1) rfl).mp h7
      exact bad (fun h => by have := h.1; omega)
    · have h6 : ¬ x3.toInt < 0 := fun q => h6 ((i_lt rfl (rfl : (0 : Int32).toInt = 0)).mpr q)
      have h7 : ¬ 1 < x3.toInt := fun q => h7 ((i_lt (rfl : (1 : Int32).toInt = 1) rfl).mpr q)
      have okl : okL x1 x2 x3 := ⟨by omega, h8⟩
      have b1 : 0 ≤ x1.toInt ∧ x1.toInt < 40 := by omega
      have b2 : 0 ≤ x2.toInt ∧ x2.toInt < 40 := by omega
      obtain ⟨i1, c1⟩ := ix40 b1.1 b1.2 b2.1 b2.2
      refine ⟨i1, fun v13 e13 => ?_⟩
      rw [c1] at e13
      have gz : ∀ dz : DD, Kp pK d6 dz → dz = u2 (u2 d6 217 (40 * x1.toNatClampNeg + x2.toNatClampNeg) (if x3 = 1 then 1 else 0)) 217 (40 * x2.toNatClampNeg + x1.toNatClampNeg) (if x3 = 1 then 1 else 0) → Q (if v13 = 0 then 0 else 1) dz l7 := fun dz k e => hQ _ _ _ ⟨⟨k, rfl⟩, Or.inr (Or.inr ⟨ok, okl, by rw [e13], e⟩)⟩
      refine ⟨fun h => ?_, fun h => ?_⟩
      · exact like_68 hI b1 b2 (by rw [if_neg h]; decide) rfl gz
      · exact like_68 hI b1 b2 (by rw [if_pos h]; decide) rfl gz
    · exact bad (fun h => h.2 h8)
  · have h2 : r5.toInt = 0 := (i_eq rfl (rfl : (0 : Int32).toInt = 0)).mp h2
    exact hQ _ _ _ ⟨⟨Kp.rf hI, rfl⟩, Or.inl ⟨fun h => by have := h.2; omega, rfl, rfl⟩⟩
theorem like_step {d d1 d2 : DD} {dl l1 l2 : LL} {r1 r2 x1 x2 x3 : Int32} (h : R0 d dl) (p1 : Inv d1 ∧ d1 = d) (q1 : LikeP9 d dl l1 x1 x2 x3 r1) (p2 : Kp pK d1 d2 ∧ l2 = l1) (q2 : LikeP10 d1 d2 x1 x2 x3 r2) : R0 d2 l2 ∧ r1 = r2 := by
  obtain ⟨_, rfl⟩ := p1
  obtain ⟨p2, rfl⟩ := p2
  have e : d1 1 0 = d1 211 0 := h.c1
  have m := iv_211_0 h.i
  unfold LikeP9 at q1
  rw [e] at q1
  rcases q1 with ⟨o1, e1, f1⟩ | ⟨o1, g1, e1, f1⟩ | ⟨o1, g1, e1, f1⟩ <;> rcases q2 with ⟨o2, e2, f2⟩ | ⟨o2, g2, e2, f2⟩ | ⟨o2, g2, e2, f2⟩ <;> first
    | exact absurd o1 o2
    | exact absurd o2 o1
    | exact absurd g1 g2
    | exact absurd g2 g1
    | (rw [f1, f2, e1, e2]; exact ⟨h, rfl⟩)
    | skip
  have hA : x1.toNatClampNeg = x1.toInt.toNat := rfl
  have hB : x2.toNatClampNeg = x2.toInt.toNat := rfl
  have k1 := o1.1
  have k2 := o1.2
  generalize x1.toNatClampNeg = A at *
  generalize x2.toNatClampNeg = B at *
  have A40 : A < 40 := by omega
  have B40 : B < 40 := by omega
  have hvv : ∀ p q : Nat, p < 40 → q < 40 → d2 217 (40 * p + q) = if (p = A ∧ q = B) ∨ (p = B ∧ q = A) then (if x3 = 1 then 1 else 0) else d1 217 (40 * p + q) := by
    intro p q hp hq
    have hv : d2 217 (40 * p + q) = if (p = A ∧ q = B) ∨ (p = B ∧ q = A) then (if x3 = 1 then 1 else 0) else d1 217 (40 * p + q) := by
      rw [f2]
      by_cases hba : p = B ∧ q = A
      · rw [if_pos (Or.inr hba), hba.1, hba.2, u2_eq]
      · rw [u2_ne (Or.inr (by omega))]
        by_cases hab : p = A ∧ q = B
        · rw [if_pos (Or.inl hab), hab.1, hab.2, u2_eq]
        · rw [u2_ne (Or.inr (by omega)), if_neg (fun g => g.elim hab hba)]
    exact hv
  refine ⟨h.u_like p2 (fun k hk => by rw [f1.2 _ (by omega)]) (fun p q hp hq => ?_) (fun p q hp hq => ?_), ?_⟩
  · rw [f1.1 p q hp hq, hvv p q hp hq]
    by_cases hc : (p = A ∧ q = B) ∨ (p = B ∧ q = A)
    · rw [if_pos hc, if_pos hc]
      by_cases hx : x3 = 1
      · rw [if_pos hx, decide_eq_true hx]; decide
      · rw [if_neg hx, decide_eq_false hx]; decide
    · rw [if_neg hc, if_neg hc]
      exact h.c6 p q hp hq
  · rw [hvv p q hp hq, hvv q p hq hp]
    by_cases hc : (p = A ∧ q = B) ∨ (p = B ∧ q = A)
    · rw [if_pos hc, if_pos (hc.elim (fun w => Or.inr ⟨w.2, w.1⟩) (fun w => Or.inl ⟨w.2, w.1⟩))]
    · rw [if_neg hc, if_neg (fun w => hc (w.elim (fun w => Or.inr ⟨w.2, w.1⟩) (fun w => Or.inl ⟨w.2, w.1⟩)))]
      exact h.c20 p q hp hq
  · have c := h.c6 A B A40 B40
    have n := iv_217 h.i (40 * A + B)
    rw [e1, e2]
    by_cases hb : bt (dl 7 A) B = true
    · rw [if_pos hb, c.mp hb, if_neg (by decide)]
    · have h0 : d1 217 (40 * A + B) = 0 := by
        have h1 : ¬ d1 217 (40 * A + B) = 1 := fun q => hb (c.mpr q)
        have h2 : ¬ (d1 217 (40 * A + B)).toInt = 1 := fun q => h1 ((i_eq rfl (rfl : (1 : Int32).toInt = 1)).mpr q)
        have h4 : (d1 217 (40 * A + B)).toInt = 0 := by omega
        exact (i_eq h4 (rfl : (0 : Int32).toInt = 0)).mpr rfl
      rw [if_neg hb, h0, if_pos rfl]
