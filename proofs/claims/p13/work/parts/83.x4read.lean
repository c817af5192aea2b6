def gA (d : DD) : Nat → Int32 := pk (d 24 0) (d 25)
def gB (d : DD) : Nat → Int32 := pk (d 211 4) (d 225)
theorem gA_st {d dz : DD} {dl lz : LL} (s : St d dl dz lz) : gA dz = gA d := by
  unfold gA
  rw [s.2.1 24 0 rfl, show dz 25 = d 25 from funext (fun l => s.2.1 25 l rfl)]
theorem gB_st {d dz : DD} {dl lz : LL} (s : St d dl dz lz) : gB dz = gB d := by
  unfold gB
  rw [s.2.1 211 4 rfl, show dz 225 = d 225 from funext (fun l => s.2.1 225 l rfl)]
theorem pkt_lt {N : Int32} {T : Nat → Int32} {p : Nat} (h : 0 ≤ (pk N T p).toInt) : (p : Int) < N.toInt := by
  unfold pk at h
  by_cases q : (p : Int) < N.toInt
  · exact q
  · rw [if_neg q] at h
    exact absurd h (by decide)
theorem fn_X7_peek {n : Nat} {d : DD} {dl : LL} (hI : Inv d) {Q : Int32 → DD → LL → Prop} (hQ : Q (gA d (d 24 1).toNatClampNeg) d dl) : F_X7_peek n d dl Q := by
  have a := iv_24_0 hI
  have b := iv_24_1 hI
  have hx : (d 24 1).toNatClampNeg = (d 24 1).toInt.toNat := rfl
  unfold gA pk at hQ
  refine ⟨fun h => ?_, fun h => ?_⟩
  · have h : (d 24 0).toInt ≤ (d 24 1).toInt := (i_le rfl rfl).mp h
    rw [if_neg (by omega)] at hQ
    exact hQ
  · have h : ¬ (d 24 0).toInt ≤ (d 24 1).toInt := fun q => h ((i_le rfl rfl).mpr q)
    rw [if_pos (by omega)] at hQ
    exact ⟨vin rfl (by omega) (by omega), hQ⟩
theorem fn_X10_now {n : Nat} {d : DD} {dl : LL} (hI : Inv d) {Q : Int32 → DD → LL → Prop} (hQ : Q (gB d (d 211 46).toNatClampNeg) d dl) : F_X10_now n d dl Q := by
  have a := iv_211_4 hI
  have b := iv_211_46 hI
  have hx : (d 211 46).toNatClampNeg = (d 211 46).toInt.toNat := rfl
  unfold gB pk at hQ
  refine ⟨fun h => ?_, fun h => ?_⟩
  · have h : (d 211 4).toInt ≤ (d 211 46).toInt := (i_le rfl rfl).mp h
    rw [if_neg (by omega)] at hQ
    exact hQ
  · have h : ¬ (d 211 4).toInt ≤ (d 211 46).toInt := fun q => h ((i_le rfl rfl).mpr q)
    rw [if_pos (by omega)] at hQ
    exact ⟨vin rfl (by omega) (by omega), hQ⟩
theorem fn_X7_wordOf {n : Nat} {x0 : Int32} {d : DD} {dl : LL} (b0 : 0 ≤ x0.toInt ∧ x0.toInt ≤ 8) {Q : Nat → DD → LL → Prop} (hQ : Q x0.toNatClampNeg d dl) : F_X7_wordOf n x0 d dl Q := by
  have hx : x0.toNatClampNeg = x0.toInt.toNat := rfl
  refine ⟨fun h => ?_, fun h => ?_, fun h => ?_, fun h => ?_, fun h => ?_, fun h => ?_, fun h => ?_, fun h => ?_, fun h => ?_⟩
  · subst h; exact hQ
  · subst h; exact hQ
  · subst h; exact hQ
  · subst h; exact hQ
  · subst h; exact hQ
  · subst h; exact hQ
  · subst h; exact hQ
  · subst h; exact hQ
  · have h8 : x0.toNatClampNeg = 8 := by omega
    rw [h8] at hQ
    exact hQ
theorem fn_X7_hasSign {n : Nat} (hn : 1000000000 ≤ n) {w : Nat} (hw : w < 19) {x1 x2 : Int32} {d : DD} {dl : LL} (hI : Inv d) (b1 : 0 ≤ x1.toInt ∧ x1.toInt ≤ 5) {Q : Int32 → DD → LL → Prop} (hQ : ∀ r : Int32, ((r = 1 ∧ x1.toInt < ((sbs w).length : Int) ∧ (sbs w).getD x1.toNatClampNeg 0 = x2) ∨ (r = 0 ∧ ¬ (x1.toInt < ((sbs w).length : Int) ∧ (sbs w).getD x1.toNatClampNeg 0 = x2))) → Q r d dl) : F_X7_hasSign n w x1 x2 d dl Q := by
  refine sp_J0_length_8abf5 hn hI hw (fun r1 d2 l3 ⟨p1, q1⟩ => ?_)
  obtain ⟨h3, rfl, rfl⟩ := p1
  refine ⟨fun h => ?_, fun h => ?_⟩
  · have h : r1.toInt ≤ x1.toInt := (i_le rfl rfl).mp h
    exact hQ 0 (Or.inr ⟨rfl, fun q => by have := q.1; omega⟩)
  · have h : ¬ r1.toInt ≤ x1.toInt := fun q => h ((i_le rfl rfl).mpr q)
    have hl : x1.toInt < ((sbs w).length : Int) := by omega
    refine sp_J0_charAt_5068e hn h3 hw ⟨b1.1, hl⟩ (fun r5 d6 l7 ⟨p2, q2⟩ => ?_)
    obtain ⟨h4, rfl, rfl⟩ := p2
    have q3 : r5 = (sbs w).getD x1.toNatClampNeg 0 := q2.2.2
    refine ⟨fun h5 => hQ 0 (Or.inr ⟨rfl, fun q => h5 (by rw [q3]; exact q.2)⟩), fun h5 => hQ 1 (Or.inl ⟨rfl, hl, by rw [← q3]; exact h5⟩)⟩
theorem MkL_s {g : Nat → Int32} {l : List Int32} {p k : Nat} : MkL g l p (k + 1) ↔ MkL g l p k ∧ k < l.length ∧ l.getD k 0 = g (p + k) := by
  constructor
  · intro ⟨h1, h2⟩
    exact ⟨⟨Nat.le_of_succ_le h1, fun i hi => h2 i (Nat.lt_succ_of_lt hi)⟩, h1, h2 k (Nat.lt_succ_self k)⟩
  · intro ⟨⟨_, h2⟩, h3, h4⟩
    refine ⟨h3, fun i hi => ?_⟩
    by_cases hk : i = k
    · rw [hk]; exact h4
    · exact h2 i (by omega)
theorem sbs_in : ∀ w, w < 19 → 1 ≤ (sbs w).length ∧ (sbs w).length ≤ 6 ∧ ∀ i, i < (sbs w).length → 32 ≤ ((sbs w).getD i 0).toInt := by
  intro w hw
  have a := str_len w hw
  refine ⟨a.2.1, a.2.2.1, fun i hi => ?_⟩
  have b := str_chr w hw i (by omega) hi
  exact b.2.2.1
theorem fb_X7_readWord_88 {n : Nat} (hn : 1000000000 ≤ n) {Q : Int32 → DD → LL → Prop} {K5 : Int32 → Int32 → Int32 → Int32 → DD → LL → Prop} {x1 x2 x3 x4 : Int32} {g : Nat → Int32} {p : Nat} {d : DD} {dl : LL} (hI : Inv d) (b1 : 0 ≤ x1.toInt) (b2 : x1.toInt ≤ x2.toInt ∧ x2.toInt ≤ 8) (b4 : 0 ≤ x4.toInt ∧ x4.toInt ≤ 5) (hf : ∀ v : Nat, (v : Int) ≤ x2.toInt → x1.toInt ≤ (v : Int) → (b32 x3 v = true ↔ MkL g (sbs v) p (x4.toNatClampNeg + 1)))
    (yes : ∀ y : Int32, x1.toInt ≤ y.toInt → y.toInt ≤ x2.toInt → MkL g (sbs y.toNatClampNeg) p (sbs y.toNatClampNeg).length → (sbs y.toNatClampNeg).length = x4.toNatClampNeg + 1 → Q y d dl) (no : (∀ v : Nat, (v : Int) ≤ x2.toInt → x1.toInt ≤ (v : Int) → MkL g (sbs v) p (x4.toNatClampNeg + 1) → ¬ (sbs v).length = x4.toNatClampNeg + 1) → K5 x1 x2 x3 (x4 + 1) d dl) : ∀ (j : Nat) (x6 : Int32), x1.toInt ≤ x6.toInt → x6.toInt ≤ x2.toInt + 1 → (∀ v : Nat, (v : Int) < x6.toInt → x1.toInt ≤ (v : Int) → MkL g (sbs v) p (x4.toNatClampNeg + 1) → ¬ (sbs v).length = x4.toNatClampNeg + 1) → 10 ≤ x6.toInt + (j : Int) → b_X7_readWord_88 n Q K5 j x1 x2 x3 x4 x6 d dl := by
  intro j
  induction j with
  | zero =>
    intro x6 h0 h1 hno hm
    exfalso
    omega
  | succ j hK =>
    intro x6 h0 h1 hno hm
    show _ ∧ _
    have hx : x6.toNatClampNeg = x6.toInt.toNat := rfl
    have h4 : x4.toNatClampNeg = x4.toInt.toNat := rfl
    refine ⟨fun h => ?_, fun h => ?_⟩
    · have h : x2.toInt < x6.toInt := (i_lt rfl rfl).mp h
      exact no (fun v a b => hno v (by omega) b)
    · have h : ¬ x2.toInt < x6.toInt := fun q => h ((i_lt rfl rfl).mpr q)
      have t : (x6 + 1).toInt = x6.toInt + 1 := ti_add rfl (rfl : (1 : Int32).toInt = 1) (by omega) (by omega)
      have t4 : (x4 + 1).toInt = x4.toInt + 1 := ti_add rfl (rfl : (1 : Int32).toInt = 1) (by omega) (by omega)
      have nx : ¬ (MkL g (sbs x6.toNatClampNeg) p (x4.toNatClampNeg + 1) ∧ (sbs x6.toNatClampNeg).length = x4.toNatClampNeg + 1) → b_X7_readWord_88 n Q K5 j x1 x2 x3 x4 (x6 + 1) d dl := by
        intro w
        refine hK _ (by omega) (by omega) (fun v hv ha hm2 hl => ?_) (by omega)
        by_cases hv2 : v = x6.toNatClampNeg
        · rw [hv2] at hm2 hl
          exact w ⟨hm2, hl⟩
        · exact hno v (by omega) ha hm2 hl
      have fr := b32_read (m := x3) (x := x6) (by omega) (by omega)
      have ff := hf x6.toNatClampNeg (by omega) (by omega)
      refine ⟨fun h2 => nx (fun w => ?_), fun h2 => ?_⟩
      · have := ff.mpr w.1
        rw [fr.mp h2] at this
        exact absurd this (by decide)
      · have fm : MkL g (sbs x6.toNatClampNeg) p (x4.toNatClampNeg + 1) := by
          apply ff.mp
          cases hb : b32 x3 x6.toNatClampNeg
          · exact absurd (fr.mpr hb) h2
          · rfl
        refine fn_X7_wordOf ⟨by omega, by omega⟩ ⟨by omega, ?_⟩
        refine sp_J0_length_8abf5 hn hI (by omega) (fun r10 d11 l12 ⟨p1, q1⟩ => ?_)
        obtain ⟨h3, rfl, rfl⟩ := p1
        have q2 : r10.toInt = ((sbs x6.toNatClampNeg).length : Int) := q1.2.2
        refine ⟨fun h5 => nx (fun w => ?_), fun h5 => ?_⟩
        · have h5 : ¬ r10.toInt = x4.toInt + 1 := fun q => h5 ((i_eq rfl t4).mpr q)
          have := w.2
          omega
        · have h5 : r10.toInt = x4.toInt + 1 := (i_eq rfl t4).mp h5
          have hl : (sbs x6.toNatClampNeg).length = x4.toNatClampNeg + 1 := by omega
          exact yes x6 h0 (by omega) (by rw [hl]; exact fm) hl
