def MtB (dl : LL) (a b : Int32) : Prop := a = b ∨ ∃ p, p < 64 ∧ bt (dl (37 + 3 * a.toNatClampNeg) 5) p = true ∧ bt (dl (37 + 3 * b.toNatClampNeg) 5) p = true
def HC (d : DD) (a b : Int32) : Prop := a = b ∨ Com d a.toNatClampNeg b.toNatClampNeg
def MetB (d : DD) (dl : LL) (c : Nat) (x : Int32) : Prop := ∃ l, l < 4 ∧ ¬ d c l = -1 ∧ MtB dl (d c l) x
def Met10 (d : DD) (x : Int32) : Prop := ∃ l, l < 4 ∧ ¬ d 239 l = -1 ∧ HC d x (d 239 l)
theorem cl6 {a : Int32} (h0 : 0 ≤ a.toInt) (h1 : a.toInt ≤ 5) : a.toNatClampNeg < 6 := by
  have : a.toNatClampNeg = a.toInt.toNat := rfl
  omega
theorem mt_hc {d : DD} {dl : LL} (hI : Inv d) (h : C8 d dl) {a c : Int32} (a0 : 0 ≤ a.toInt) (a1 : a.toInt ≤ 5) (c0 : 0 ≤ c.toInt) (c1 : c.toInt ≤ 5) : MtB dl a c ↔ HC d c a := by
  have ha := cl6 a0 a1
  have hc := cl6 c0 c1
  constructor
  · intro q
    rcases q with q | ⟨p, hp, g1, g2⟩
    · exact Or.inl q.symm
    · obtain ⟨i, ki, ei⟩ := (h _ ha p hp).mp g1
      obtain ⟨j, kj, ej⟩ := (h _ hc p hp).mp g2
      exact Or.inr ⟨j, kj, i, ki, Int32.toInt_inj.mp (by omega)⟩
  · intro q
    rcases q with q | ⟨j, kj, i, ki, e⟩
    · exact Or.inl q.symm
    · have n := iv_222 hI (8 * c.toNatClampNeg + j)
      generalize hv : d 222 (8 * c.toNatClampNeg + j) = v at *
      have nz : v.toNatClampNeg = v.toInt.toNat := rfl
      exact Or.inr ⟨v.toNatClampNeg, by omega, (h _ ha _ (by omega)).mpr ⟨i, ki, by rw [e]; omega⟩, (h _ hc _ (by omega)).mpr ⟨j, kj, by rw [hv]; omega⟩⟩
theorem m1 {v : Int32} (h : ¬ v = -1) : ¬ v.toInt = -1 := fun q => h ((i_eq rfl (rfl : (-1 : Int32).toInt = -1)).mpr q)
theorem m1r {v : Int32} (h : ¬ v.toInt = -1) : ¬ v = -1 := fun q => h ((i_eq rfl (rfl : (-1 : Int32).toInt = -1)).mp q)
theorem fb_X9_isMet_2 {n : Nat} {Q : Int32 → DD → LL → Prop} {c1 : Nat} {x2 : Int32} {d : DD} {dl : LL} (hI : Inv d) (hrow : RowB c1) (b2 : 0 ≤ x2.toInt ∧ x2.toInt ≤ 5) (hQ : ∀ r : Int32, ((r = 1 ∧ MetB d dl c1 x2) ∨ (r = 0 ∧ ¬ MetB d dl c1 x2)) → Q r d dl) : ∀ (j : Nat) (x3 : Int32), 0 ≤ x3.toInt → x3.toInt ≤ 4 → (∀ l : Nat, (l : Int) < x3.toInt → ¬ (¬ d c1 l = -1 ∧ MtB dl (d c1 l) x2)) → 5 ≤ x3.toInt + (j : Int) → b_X9_isMetByOneOf_2 n Q j c1 x2 x3 d dl := by
  intro j
  induction j with
  | zero =>
    intro x3 h0 h1 hno hm
    exfalso
    omega
  | succ j hK =>
    intro x3 h0 h1 hno hm
    show _ ∧ _
    refine ⟨fun h => ?_, fun h => ?_⟩
    · have h : 4 ≤ x3.toInt := (i_le (rfl : (4 : Int32).toInt = 4) rfl).mp h
      exact hQ 0 (Or.inr ⟨rfl, fun ⟨l, hl, g⟩ => hno l (by omega) g⟩)
    · have h : ¬ 4 ≤ x3.toInt := fun q => h ((i_le (rfl : (4 : Int32).toInt = 4) rfl).mpr q)
      have hx : x3.toNatClampNeg = x3.toInt.toNat := rfl
      have t : (x3 + 1).toInt = x3.toInt + 1 := ti_add rfl (rfl : (1 : Int32).toInt = 1) (by omega) (by omega)
      refine ⟨vin rfl (by omega) (by omega), fun v3 e3 => ?_⟩
      have mv := rowb_iv hI hrow x3.toNatClampNeg
      rw [← e3] at mv
      have nx : ¬ (¬ v3 = -1 ∧ MtB dl v3 x2) → b_X9_isMetByOneOf_2 n Q j c1 x2 (x3 + 1) d dl := by
        intro g
        refine hK _ (by omega) (by omega) (fun l hl => ?_) (by omega)
        by_cases hl2 : l = x3.toNatClampNeg
        · rw [hl2, ← e3]; exact g
        · exact hno l (by omega)
      have yes : ¬ v3 = -1 → MtB dl v3 x2 → Q 1 d dl := fun g1 g2 => hQ 1 (Or.inl ⟨rfl, x3.toNatClampNeg, by omega, by rw [← e3]; exact g1, by rw [← e3]; exact g2⟩)
      refine ⟨fun h2 => nx (fun g => g.1 h2), fun h2 => ⟨fun h3 => yes h2 (Or.inl h3), fun h3 => ?_⟩⟩
      have h2i := m1 h2
      refine ⟨vin rfl (by omega) (by omega), fun k7 e7 => ⟨vin rfl b2.1 (by omega), fun k9 e9 => ⟨fun h4 => nx (fun g => ?_), fun h4 => yes h2 ?_⟩⟩⟩
      · subst e7; subst e9
        have h4 := bt_none.mp (cmp0.mp h4)
        rcases g.2 with g | ⟨p, hp, g1, g2⟩
        · exact h3 g
        · exact h4 p hp ⟨g1, g2⟩
      · subst e7; subst e9
        refine Or.inr (Classical.byContradiction (fun g => h4 (cmp0.mpr (bt_none.mpr (fun p hp q => g ⟨p, hp, q.1, q.2⟩)))))
theorem fn_X9_isMetByOneOf {n : Nat} (hn : 1000000000 ≤ n) {Q : Int32 → DD → LL → Prop} {c1 : Nat} {x2 : Int32} {d : DD} {dl : LL} (hI : Inv d) (hrow : RowB c1) (b2 : 0 ≤ x2.toInt ∧ x2.toInt ≤ 5) (hQ : ∀ r : Int32, ((r = 1 ∧ MetB d dl c1 x2) ∨ (r = 0 ∧ ¬ MetB d dl c1 x2)) → Q r d dl) : F_X9_isMetByOneOf n c1 x2 d dl Q :=
  fb_X9_isMet_2 hI hrow b2 hQ n 0 (show (0 : Int) ≤ 0 by omega) (show (0 : Int) ≤ 4 by omega) (fun l hl => absurd (show (l : Int) < 0 from hl) (by omega)) (show (5 : Int) ≤ 0 + (n : Int) by omega)
theorem fn_X10_haveCommon {n : Nat} (hn : 1000000000 ≤ n) {Q : Int32 → DD → LL → Prop} {x1 x2 : Int32} {d : DD} {dl : LL} (hI : Inv d) (b1 : 0 ≤ x1.toInt ∧ x1.toInt ≤ 5) (b2 : 0 ≤ x2.toInt ∧ x2.toInt ≤ 5) (hQ : ∀ r : Int32, ((r = 1 ∧ HC d x1 x2) ∨ (r = 0 ∧ ¬ HC d x1 x2)) → Q r d dl) : F_X10_haveCommon n x1 x2 d dl Q := by
  refine ⟨fun h => ?_, fun h => hQ 1 (Or.inl ⟨rfl, Or.inl h⟩)⟩
  refine fb_X10_haveCommon_9 hn hI b1 b2 (fun r hr => ?_) n 0 (show (0 : Int) ≤ 0 by omega) (show (0 : Int) ≤ 8 by omega) (fun l hl => absurd (show (l : Int) < 0 from hl) (by omega)) (show (9 : Int) ≤ 0 + (n : Int) by omega)
  rcases hr with ⟨e, g⟩ | ⟨e, g⟩
  · exact hQ r (Or.inl ⟨e, Or.inr g⟩)
  · exact hQ r (Or.inr ⟨e, fun q => q.elim h g⟩)
def cs (d : DD) : Nat → Int
  | 0 => 0
  | k + 1 => cs d k + wn (d 28 k)
theorem wn_in (x : Int32) : 0 ≤ wn x ∧ wn x ≤ 1 := by unfold wn; split <;> omega
theorem cs_in (d : DD) : ∀ k : Nat, 0 ≤ cs d k ∧ cs d k ≤ (k : Int) := by
  intro k
  induction k with
  | zero => exact ⟨Int.le_refl _, Int.le_refl _⟩
  | succ k ih =>
    have w := wn_in (d 28 k)
    show 0 ≤ cs d k + wn (d 28 k) ∧ cs d k + wn (d 28 k) ≤ ((k + 1 : Nat) : Int)
    omega
theorem cs_4 (d : DD) : cs d 4 = cnt d := by
  show (((0 + wn (d 28 0)) + wn (d 28 1)) + wn (d 28 2)) + wn (d 28 3) = _
  unfold cnt
  omega
theorem fb_X9_howManyWait_4 {n : Nat} {Q : Int32 → DD → LL → Prop} {d : DD} {dl : LL} (hQ : ∀ r : Int32, r.toInt = cnt d → Q r d dl) : ∀ (j : Nat) (x1 x2 : Int32), 0 ≤ x2.toInt → x2.toInt ≤ 4 → x1.toInt = cs d x2.toNatClampNeg → 5 ≤ x2.toInt + (j : Int) → b_X9_howManyWait_4 n Q j x1 x2 d dl := by
  intro j
  induction j with
  | zero =>
    intro x1 x2 h0 h1 hc hm
    exfalso
    omega
  | succ j hK =>
    intro x1 x2 h0 h1 hc hm
    show _ ∧ _
    have hx : x2.toNatClampNeg = x2.toInt.toNat := rfl
    refine ⟨fun h => ?_, fun h => ?_⟩
    · have h : 4 ≤ x2.toInt := (i_le (rfl : (4 : Int32).toInt = 4) rfl).mp h
      have h4 : x2.toNatClampNeg = 4 := by omega
      rw [h4, cs_4] at hc
      exact hQ _ hc
    · have h : ¬ 4 ≤ x2.toInt := fun q => h ((i_le (rfl : (4 : Int32).toInt = 4) rfl).mpr q)
      have t : (x2 + 1).toInt = x2.toInt + 1 := ti_add rfl (rfl : (1 : Int32).toInt = 1) (by omega) (by omega)
      have hy : (x2 + 1).toNatClampNeg = x2.toNatClampNeg + 1 := by rw [clampI t]; omega
      have k := cs_in d x2.toNatClampNeg
      refine ⟨vin rfl (by omega) (by omega), fun h2 v4 e4 => ?_, fun h2 v4 e4 => ?_⟩
      · have tv : v4.toInt = x1.toInt + 0 := by rw [e4]; exact ti_add rfl (rfl : (0 : Int32).toInt = 0) (by omega) (by omega)
        refine hK _ _ (by omega) (by omega) ?_ (by omega)
        rw [hy, tv, hc]
        show _ = cs d x2.toNatClampNeg + wn (d 28 x2.toNatClampNeg)
        unfold wn
        rw [if_pos h2]
      · have tv : v4.toInt = x1.toInt + 1 := by rw [e4]; exact ti_add rfl (rfl : (1 : Int32).toInt = 1) (by omega) (by omega)
        refine hK _ _ (by omega) (by omega) ?_ (by omega)
        rw [hy, tv, hc]
        show _ = cs d x2.toNatClampNeg + wn (d 28 x2.toNatClampNeg)
        unfold wn
        rw [if_neg h2]
theorem fn_X9_howManyWait {n : Nat} (hn : 1000000000 ≤ n) {Q : Int32 → DD → LL → Prop} {d : DD} {dl : LL} (hQ : ∀ r : Int32, r.toInt = cnt d → Q r d dl) : F_X9_howManyWait n d dl Q :=
  fb_X9_howManyWait_4 hQ n 0 0 (show (0 : Int) ≤ 0 by omega) (show (0 : Int) ≤ 4 by omega) rfl (show (5 : Int) ≤ 0 + (n : Int) by omega)
def okW (m c l : Int32) : Prop := (0 ≤ c.toInt ∧ c.toInt < m.toInt) ∧ (0 ≤ l.toInt ∧ l.toInt ≤ 3)
def LaneP9 (d : DD) (dl : LL) (dz : DD) (c l r : Int32) : Prop :=
  (¬ okW (d 0 2) c l ∧ r = -1 ∧ dz = d) ∨ (okW (d 0 2) c l ∧ (¬ d 28 l.toNatClampNeg = -1 ∨ MetB d dl 28 c) ∧ r = -3 ∧ dz = d) ∨ (okW (d 0 2) c l ∧ ¬ (¬ d 28 l.toNatClampNeg = -1 ∨ MetB d dl 28 c) ∧ r.toInt = cnt dz ∧ dz = u2 d 28 l.toNatClampNeg c)
def LaneP10 (d : DD) (dz : DD) (c l r : Int32) : Prop :=
  (¬ okW (d 211 1) c l ∧ r = -1 ∧ dz = d) ∨ (okW (d 211 1) c l ∧ (¬ d 239 l.toNatClampNeg = -1 ∨ Met10 d c) ∧ r = -3 ∧ dz = d) ∨ (okW (d 211 1) c l ∧ ¬ (¬ d 239 l.toNatClampNeg = -1 ∨ Met10 d c) ∧ r = d 211 6 + 1 ∧ dz = u2 (u2 d 239 l.toNatClampNeg c) 211 6 (d 211 6 + 1))
theorem sp_X9_lane {n : Nat} (hn : 1000000000 ≤ n) {x1 x2 : Int32} {d : DD} {dl : LL} (hI : Inv d) {Q : Int32 → DD → LL → Prop} (hQ : ∀ (r : Int32) (d2 : DD) (l2 : LL), StO d dl d2 l2 ∧ LaneP9 d dl d2 x1 x2 r → Q r d2 l2) : F_X9_lane n x1 x2 d dl Q := by
  have m2 := iv_0_2 hI
  refine sp_X9_isCrew hn hI (fun r1 d2 l3 ⟨p1, q1⟩ => ?_)
  obtain ⟨h3, rfl, rfl⟩ := p1
  refine ⟨fun h1 => ?_, fun h1 => ?_⟩
  · have h1 : r1.toInt = 0 := (i_eq rfl (rfl : (0 : Int32).toInt = 0)).mp h1
    exact hQ _ _ _ ⟨StP.rf hI, Or.inl ⟨fun h => by have := h.1; omega, rfl, rfl⟩⟩
  have h1 : ¬ r1.toInt = 0 := fun q => h1 ((i_eq rfl (rfl : (0 : Int32).toInt = 0)).mpr q)
  refine sp_X9_isLane hn hI (fun r5 d6 l7 ⟨p2, q2⟩ => ?_)
  obtain ⟨h4, rfl, rfl⟩ := p2
  refine ⟨fun h2 => ?_, fun h2 => ?_⟩
  · have h2 : ¬ r5.toInt = 0 := fun q => h2 ((i_eq rfl (rfl : (0 : Int32).toInt = 0)).mpr q)
    have ok : okW (d6 0 2) x1 x2 := ⟨by omega, by omega⟩
    have hi : vp_in x2 4 := vin rfl (by omega) (by omega)
    refine ⟨hi, fun h5 => ?_, fun h5 => ?_⟩
    · exact hQ _ _ _ ⟨StP.rf hI, Or.inr (Or.inl ⟨ok, Or.inl h5, rfl, rfl⟩)⟩
    · refine fn_X9_isMetByOneOf hn hI (Or.inl rfl) ⟨by omega, by omega⟩ (fun r hr => ⟨fun h6 => ⟨hi, fun d16 e16 => ?_⟩, fun h6 => ?_⟩)
      · have nm : ¬ MetB d6 l7 28 x1 := by
          rcases hr with ⟨e, _⟩ | ⟨_, g⟩
          · rw [e] at h6; exact absurd h6 (by decide)
          · exact g
        have s : StO d6 l7 d16 l7 := by rw [e16]; exact pw_28 (StP.rf hI) (by omega) (by omega) rfl
        exact fn_X9_howManyWait hn (fun r17 hr17 => hQ _ _ _ ⟨s, Or.inr (Or.inr ⟨ok, fun g => g.elim (fun q => q h5) nm, hr17, e16⟩)⟩)
      · rcases hr with ⟨_, g⟩ | ⟨e, _⟩
        · exact hQ _ _ _ ⟨StP.rf hI, Or.inr (Or.inl ⟨ok, Or.inr g, rfl, rfl⟩)⟩
        · exact absurd e h6
  · have h2 : r5.toInt = 0 := (i_eq rfl (rfl : (0 : Int32).toInt = 0)).mp h2
    exact hQ _ _ _ ⟨StP.rf hI, Or.inl ⟨fun h => by have := h.2; omega, rfl, rfl⟩⟩
theorem fb_X10_lane_34 {n : Nat} (hn : 1000000000 ≤ n) {Q : Int32 → DD → LL → Prop} {x1 x2 : Int32} {d : DD} {dl : LL} (hI : Inv d) (b1 : 0 ≤ x1.toInt ∧ x1.toInt ≤ 5) (b2 : 0 ≤ x2.toInt ∧ x2.toInt ≤ 3) (hit : Met10 d x1 → Q (-3) d dl) (miss : ¬ Met10 d x1 → Q (d 211 6 + 1) (u2 (u2 d 239 x2.toNatClampNeg x1) 211 6 (d 211 6 + 1)) dl) : ∀ (j : Nat) (x3 : Int32), 0 ≤ x3.toInt → x3.toInt ≤ 4 → (∀ l : Nat, (l : Int) < x3.toInt → ¬ (¬ d 239 l = -1 ∧ HC d x1 (d 239 l))) → 5 ≤ x3.toInt + (j : Int) → b_X10_lane_34 n Q j x1 x2 x3 d dl := by
  intro j
  induction j with
  | zero =>
    intro x3 h0 h1 hno hm
    exfalso
    omega
  | succ j hK =>
    intro x3 h0 h1 hno hm
    show _ ∧ _
    have hx : x3.toNatClampNeg = x3.toInt.toNat := rfl
    refine ⟨fun h => ?_, fun h => ?_⟩
    · have h : 4 ≤ x3.toInt := (i_le (rfl : (4 : Int32).toInt = 4) rfl).mp h
      have hz := miss (fun ⟨l, hl, g⟩ => hno l (by omega) g)
      refine ⟨vin rfl (by omega) (by omega), fun d11 e11 d12 e12 => ?_⟩
      have k : d11 211 6 = d 211 6 := by rw [e11, u2_row (by omega)]
      rw [e12, k, e11]
      exact hz
    · have h : ¬ 4 ≤ x3.toInt := fun q => h ((i_le (rfl : (4 : Int32).toInt = 4) rfl).mpr q)
      have t : (x3 + 1).toInt = x3.toInt + 1 := ti_add rfl (rfl : (1 : Int32).toInt = 1) (by omega) (by omega)
      have hi : vp_in x3 4 := vin rfl (by omega) (by omega)
      have mv := iv_239 hI x3.toNatClampNeg
      have nx : ¬ (¬ d 239 x3.toNatClampNeg = -1 ∧ HC d x1 (d 239 x3.toNatClampNeg)) → b_X10_lane_34 n Q j x1 x2 (x3 + 1) d dl := by
        intro g
        refine hK _ (by omega) (by omega) (fun l hl => ?_) (by omega)
        by_cases hl2 : l = x3.toNatClampNeg
        · rw [hl2]; exact g
        · exact hno l (by omega)
      refine ⟨hi, fun h2 => nx (fun g => g.1 h2), fun h2 => ⟨hi, ?_⟩⟩
      have h2i := m1 h2
      refine fn_X10_haveCommon hn hI b1 ⟨by omega, by omega⟩ (fun r hr => ⟨fun h6 => nx (fun g => ?_), fun h6 => ?_⟩)
      · rcases hr with ⟨e, _⟩ | ⟨_, q⟩
        · rw [e] at h6; exact absurd h6 (by decide)
        · exact q g.2
      · rcases hr with ⟨_, q⟩ | ⟨e, _⟩
        · exact hit ⟨x3.toNatClampNeg, by omega, h2, q⟩
        · exact absurd e h6
theorem sp_X10_lane {n : Nat} (hn : 1000000000 ≤ n) {x1 x2 : Int32} {d : DD} {dl : LL} (hI : Inv d) {Q : Int32 → DD → LL → Prop} (hQ : ∀ (r : Int32) (d2 : DD) (l2 : LL), StY d dl d2 l2 ∧ LaneP10 d d2 x1 x2 r → Q r d2 l2) : F_X10_lane n x1 x2 d dl Q := by
  have m2 := iv_211_1 hI
  refine sp_X10_isCrew hn hI (fun r1 d2 l3 ⟨p1, q1⟩ => ?_)
  obtain ⟨h3, rfl, rfl⟩ := p1
  have bad : ¬ okW (d2 211 1) x1 x2 → Q (-1) d2 l3 := fun h => hQ _ _ _ ⟨StP.rf hI, Or.inl ⟨h, rfl, rfl⟩⟩
  refine ⟨fun h1 => ?_, fun h1 => ⟨fun h4 => ?_, fun h4 => ⟨fun h5 => ?_, fun h5 => ?_⟩⟩⟩
  · have h1 : r1.toInt = 0 := (i_eq rfl (rfl : (0 : Int32).toInt = 0)).mp h1
    exact bad (fun h => by have := h.1; omega)
  · have h4 : x2.toInt < 0 := (i_lt rfl (rfl : (0 : Int32).toInt = 0)).mp h4
    exact bad (fun h => by have := h.2; omega)
  · have h1 : ¬ r1.toInt = 0 := fun q => h1 ((i_eq rfl (rfl : (0 : Int32).toInt = 0)).mpr q)
    have h4 : ¬ x2.toInt < 0 := fun q => h4 ((i_lt rfl (rfl : (0 : Int32).toInt = 0)).mpr q)
    have h5 : x2.toInt ≤ 3 := (i_le rfl (rfl : (3 : Int32).toInt = 3)).mp h5
    have ok : okW (d2 211 1) x1 x2 := ⟨by omega, by omega⟩
    refine ⟨vin rfl (by omega) (by omega), fun h6 => ?_, fun h6 => ?_⟩
    · refine fb_X10_lane_34 hn hI ⟨by omega, by omega⟩ ⟨by omega, by omega⟩ (fun g => ?_) (fun g => ?_) n 0 (show (0 : Int) ≤ 0 by omega) (show (0 : Int) ≤ 4 by omega) (fun l hl => absurd (show (l : Int) < 0 from hl) (by omega)) (show (5 : Int) ≤ 0 + (n : Int) by omega)
      · exact hQ _ _ _ ⟨StP.rf hI, Or.inr (Or.inl ⟨ok, Or.inr g, rfl, rfl⟩)⟩
      · exact hQ _ _ _ ⟨pw_211_6 (pw_239 (StP.rf hI) (by omega) (by omega) rfl) rfl, Or.inr (Or.inr ⟨ok, fun q => q.elim (fun q => q h6) g, rfl, rfl⟩)⟩
    · exact hQ _ _ _ ⟨StP.rf hI, Or.inr (Or.inl ⟨ok, Or.inl h6, rfl, rfl⟩)⟩
  · have h5 : ¬ x2.toInt ≤ 3 := fun q => h5 ((i_le rfl (rfl : (3 : Int32).toInt = 3)).mpr q)
    exact bad (fun h => by have := h.2; omega)
theorem cnt_put {d : DD} {L : Nat} {c : Int32} (hL : L < 4) (h1 : d 28 L = -1) (h2 : ¬ c = -1) : cnt (u2 d 28 L c) = cnt d + 1 := by
  have w0 : wn (-1) = 0 := rfl
  have w1 : wn c = 1 := by unfold wn; rw [if_neg h2]
  have ho : ∀ l, l ≠ L → u2 d 28 L c 28 l = d 28 l := fun l hl => u2_ne (Or.inr hl)
  have he : u2 d 28 L c 28 L = c := u2_eq _ _ _ _
  unfold cnt
  have hc : L = 0 ∨ L = 1 ∨ L = 2 ∨ L = 3 := by omega
  rcases hc with rfl | rfl | rfl | rfl
  · rw [he, ho 1 (by omega), ho 2 (by omega), ho 3 (by omega), h1, w0, w1]; omega
  · rw [he, ho 0 (by omega), ho 2 (by omega), ho 3 (by omega), h1, w0, w1]; omega
  · rw [he, ho 0 (by omega), ho 1 (by omega), ho 3 (by omega), h1, w0, w1]; omega
  · rw [he, ho 0 (by omega), ho 1 (by omega), ho 2 (by omega), h1, w0, w1]; omega
theorem HC_k {d d2 : DD} {a b : Int32} (h1 : d2 220 = d 220) (h2 : d2 222 = d 222) : HC d2 a b ↔ HC d a b := by
  unfold HC Com Mem
  rw [h1, h2]
theorem met_eq {d : DD} {dl : LL} (h : R0 d dl) {c : Int32} (c0 : 0 ≤ c.toInt) (c1 : c.toInt ≤ 5) : MetB d dl 28 c ↔ Met10 d c := by
  have one : ∀ l, l < 4 → ((¬ d 28 l = -1 ∧ MtB dl (d 28 l) c) ↔ (¬ d 239 l = -1 ∧ HC d c (d 239 l))) := by
    intro l hl
    rw [← h.c9 l hl]
    have mv := rowb_iv h.i (Or.inl rfl) (c := 28) l
    by_cases g : d 28 l = -1
    · exact ⟨fun q => absurd g q.1, fun q => absurd g q.1⟩
    · have gi := m1 g
      have e := mt_hc h.i h.c8 (a := d 28 l) (c := c) (by omega) (by omega) c0 c1
      exact ⟨fun q => ⟨q.1, e.mp q.2⟩, fun q => ⟨q.1, e.mpr q.2⟩⟩
  exact ⟨fun ⟨l, hl, g⟩ => ⟨l, hl, (one l hl).mp g⟩, fun ⟨l, hl, g⟩ => ⟨l, hl, (one l hl).mpr g⟩⟩
theorem cnt_in (d : DD) : 0 ≤ cnt d ∧ cnt d ≤ 4 := by
  have := cs_in d 4
  rw [cs_4] at this
  omega
theorem cnt_k {d d2 : DD} (h : ∀ l, d2 28 l = d 28 l) : cnt d2 = cnt d := by unfold cnt; rw [h, h, h, h]
theorem lane_step {d d1 d2 : DD} {dl l1 lw : LL} {r1 r2 x1 x2 : Int32} (h : R0 d dl) (p1 : StO d dl d1 l1) (q1 : LaneP9 d dl d1 x1 x2 r1) (p2 : StY d1 l1 d2 lw) (q2 : LaneP10 d1 d2 x1 x2 r2) : R0 d2 lw ∧ r1 = r2 := by
  have m2 := iv_0_2 h.i
  have e1 : d1 211 1 = d 0 2 := by rw [p1.2.1 211 1 rfl]; exact h.c4.symm
  have e6 : d1 211 6 = d 211 6 := p1.2.1 211 6 rfl
  have e239 : d1 239 = d 239 := funext (fun l => p1.2.1 239 l rfl)
  have e220 : d1 220 = d 220 := funext (fun l => p1.2.1 220 l rfl)
  have e222 : d1 222 = d 222 := funext (fun l => p1.2.1 222 l rfl)
  have k28 : ∀ l, d2 28 l = d1 28 l := fun l => p2.2.1 28 l rfl
  have c10 : (d 211 6).toInt = cnt d := h.c10
  have hcn := cnt_in d
  have em : Met10 d1 x1 ↔ Met10 d x1 := by
    unfold Met10
    rw [e239]
    exact ⟨fun ⟨l, a, b, c⟩ => ⟨l, a, b, (HC_k e220 e222).mp c⟩, fun ⟨l, a, b, c⟩ => ⟨l, a, b, (HC_k e220 e222).mpr c⟩⟩
  unfold LaneP10 at q2
  rw [e1, e6, em, e239] at q2
  by_cases ok : okW (d 0 2) x1 x2
  rotate_left
  · rcases q1 with ⟨_, a1, a2⟩ | ⟨o, _⟩ | ⟨o, _⟩
    · rcases q2 with ⟨_, b1, b2⟩ | ⟨o, _⟩ | ⟨o, _⟩
      · subst a2; subst b2
        exact ⟨h.u_lane p1 p2 h.c9 h.c10, by rw [a1, b1]⟩
      all_goals exact absurd o ok
    all_goals exact absurd o ok
  have hA : x2.toNatClampNeg = x2.toInt.toNat := rfl
  have k1 := ok.1
  have k2 := ok.2
  have hL : x2.toNatClampNeg < 4 := by omega
  have e9 := h.c9 _ hL
  have me := met_eq h k1.1 (show x1.toInt ≤ 5 by omega)
  rw [← me, ← e9] at q2
  rcases q1 with ⟨o, _⟩ | ⟨_, g1, a1, a2⟩ | ⟨_, g1, a1, a2⟩
  · exact absurd ok o
  · rcases q2 with ⟨o, _⟩ | ⟨_, g2, b1, b2⟩ | ⟨_, g2, b1, b2⟩
    · exact absurd ok o
    · subst a2; subst b2
      exact ⟨h.u_lane p1 p2 h.c9 h.c10, by rw [a1, b1]⟩
    · exact absurd g1 g2
  · rcases q2 with ⟨o, _⟩ | ⟨_, g2, b1, b2⟩ | ⟨_, g2, b1, b2⟩
    · exact absurd ok o
    · exact absurd g2 g1
    have w : d 28 x2.toNatClampNeg = -1 := Classical.byContradiction (fun q => g1 (Or.inl q))
    have cn : cnt d1 = cnt d + 1 := by rw [a2]; exact cnt_put hL w (m1r (by omega))
    have t : (d 211 6 + 1).toInt = cnt d + 1 := ti_add c10 (rfl : (1 : Int32).toInt = 1) (by omega) (by omega)
    refine ⟨h.u_lane p1 p2 (fun l hl => ?_) ?_, ?_⟩
    · rw [k28, b2, u2_row (by omega), a2]
      by_cases hl2 : l = x2.toNatClampNeg
      · rw [hl2, u2_eq, u2_eq]
      · rw [u2_ne (Or.inr hl2), u2_ne (Or.inr hl2), ← a2, e239]
        exact h.c9 l hl
    · show (d2 211 6).toInt = cnt d2
      rw [cnt_k k28, cn, b2, u2_eq, t]
    · rw [b1]
      exact Int32.toInt_inj.mp (by rw [t, a1, cn])
