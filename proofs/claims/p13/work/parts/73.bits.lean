def bt (m : Int64) (x : Nat) : Bool := m.toBitVec.getLsbD x
theorem i32_of {x : Int32} (h0 : 0 ≤ x.toInt) : x = Int32.ofNat x.toNatClampNeg := by
  have h1 := (i_rg x).2
  apply Int32.toInt_inj.mp
  have hx : x.toNatClampNeg = x.toInt.toNat := rfl
  rw [hx, Int32.toInt_ofNat']
  have : ((x.toInt.toNat : Nat) : Int) = x.toInt := by omega
  rw [this]
  exact (bm (by omega) (by omega)).symm
theorem sh_u : ∀ k : Fin 40, ((Int32.ofNat k.1).toInt64.toUInt64 &&& Int64.toUInt64 63) = UInt64.ofNat k.1 := by decide +kernel
theorem sh_l : ∀ k : Fin 40, lshl 1 (Int32.ofNat k.1) = ⟨⟨BitVec.twoPow 64 k.1⟩⟩ := by decide +kernel
theorem bt_or {m q : Int64} {x : Nat} : bt (m ||| q) x = (bt m x || bt q x) := by
  unfold bt
  rw [Int64.toBitVec_or, BitVec.getLsbD_or]
theorem bt_and {m q : Int64} {x : Nat} : bt (m &&& q) x = (bt m x && bt q x) := by
  unfold bt
  rw [Int64.toBitVec_and, BitVec.getLsbD_and]
theorem bt_one {y : Int32} {x : Nat} (h0 : 0 ≤ y.toInt) (h1 : y.toInt < 40) : bt (lshl 1 y) x = decide (x = y.toNatClampNeg) := by
  have hk : y.toNatClampNeg < 40 := by have : y.toNatClampNeg = y.toInt.toNat := rfl; omega
  have e := sh_l ⟨y.toNatClampNeg, hk⟩
  rw [i32_of h0, e]
  show (BitVec.twoPow 64 y.toNatClampNeg).getLsbD x = _
  rw [BitVec.getLsbD_twoPow]
  have : ((Int32.ofNat y.toNatClampNeg).toNatClampNeg) = y.toNatClampNeg := by rw [← i32_of h0]
  rw [this]
  by_cases h : x = y.toNatClampNeg <;> simp [h] <;> omega
theorem cmp0 {a : Int64} : lg_cmp a 0 = 0 ↔ a = 0 := by
  unfold lg_cmp
  by_cases h : a = 0
  · subst h
    exact ⟨fun _ => rfl, fun _ => by decide⟩
  · refine ⟨fun q => ?_, fun q => absurd q h⟩
    by_cases h2 : a > 0
    · rw [if_pos h2] at q; exact absurd q (by decide)
    · rw [if_neg h2, if_neg h] at q; exact absurd q (by decide)
theorem bt_ext {a b : Int64} (h : ∀ x, x < 64 → bt a x = bt b x) : a = b := by
  apply Int64.toBitVec_inj.mp
  apply BitVec.eq_of_getLsbD_eq
  intro i hi
  exact h i hi
theorem bt_zero {x : Nat} : bt 0 x = false := by
  show (0#64).getLsbD x = false
  simp
theorem bt_none {a b : Int64} : a &&& b = 0 ↔ ∀ x, x < 64 → ¬ (bt a x = true ∧ bt b x = true) := by
  constructor
  · intro h x hx hq
    have h1 : bt (a &&& b) x = bt 0 x := by rw [h]
    rw [bt_and, bt_zero, hq.1, hq.2] at h1
    exact absurd h1 (by decide)
  · intro h
    apply bt_ext
    intro x hx
    rw [bt_and, bt_zero]
    have := h x hx
    cases ha : bt a x <;> cases hb : bt b x <;> simp_all
theorem bt_shr {m : Int64} {x : Int32} {j : Nat} (h0 : 0 ≤ x.toInt) (h1 : x.toInt < 40) : bt (lushr m x) j = bt m (x.toNatClampNeg + j) := by
  have hk : x.toNatClampNeg < 40 := by have : x.toNatClampNeg = x.toInt.toNat := rfl; omega
  have e := sh_u ⟨x.toNatClampNeg, hk⟩
  have e2 : (x.toInt64.toUInt64 &&& Int64.toUInt64 63) = UInt64.ofNat x.toNatClampNeg := by
    have := e
    rwa [show (Int32.ofNat (⟨x.toNatClampNeg, hk⟩ : Fin 40).1) = x from (i32_of h0).symm] at this
  unfold lushr bt
  rw [e2]
  show (m.toBitVec >>> (UInt64.ofNat x.toNatClampNeg % 64).toBitVec).getLsbD j = m.toBitVec.getLsbD (x.toNatClampNeg + j)
  rw [BitVec.ushiftRight_eq', BitVec.getLsbD_ushiftRight]
  have : (UInt64.ofNat x.toNatClampNeg % 64).toBitVec.toNat = x.toNatClampNeg := by
    show (UInt64.ofNat x.toNatClampNeg % 64).toNat = x.toNatClampNeg
    simp
    omega
  rw [this]
theorem bt_read {m : Int64} {x : Int32} (h0 : 0 ≤ x.toInt) (h1 : x.toInt < 40) : lg_cmp ((lushr m x) &&& 1) 0 = 0 ↔ bt m x.toNatClampNeg = false := by
  rw [cmp0, bt_none]
  have b1 : ∀ j, bt 1 j = decide (j = 0) := by
    intro j
    show (1#64).getLsbD j = _
    simp
  constructor
  · intro h
    have := h 0 (by decide)
    rw [bt_shr h0 h1, b1] at this
    simpa using this
  · intro h j hj hq
    rw [bt_shr h0 h1, b1] at hq
    have hz : j = 0 := by simpa using hq.2
    subst hz
    have := hq.1
    rw [Nat.add_zero, h] at this
    exact absurd this (by decide)
theorem bt_not {y : Int32} {x : Nat} (h0 : 0 ≤ y.toInt) (h1 : y.toInt < 40) (hx : x < 64) : bt (lshl 1 y ^^^ (-1)) x = !decide (x = y.toNatClampNeg) := by
  have e : bt (lshl 1 y ^^^ (-1)) x = (bt (lshl 1 y) x ^^ bt (-1) x) := by
    unfold bt
    rw [Int64.toBitVec_xor, BitVec.getLsbD_xor]
  have e2 : bt (-1) x = true := by
    show (BitVec.allOnes 64).getLsbD x = true
    rw [BitVec.getLsbD_allOnes]
    exact decide_eq_true hx
  rw [e, e2, bt_one h0 h1]
  simp
