def b32 (m : Int32) (x : Nat) : Bool := m.toBitVec.getLsbD x
theorem us_u : ∀ k : Fin 32, ((Int32.ofNat k.1).toUInt32 &&& Int32.toUInt32 31) = UInt32.ofNat k.1 := by decide +kernel
theorem sl_1 : ∀ k : Fin 32, ((1 : Int32) <<< ((Int32.ofNat k.1) &&& 31)) = ⟨⟨BitVec.twoPow 32 k.1⟩⟩ := by decide +kernel
theorem b32_or {m q : Int32} {x : Nat} : b32 (m ||| q) x = (b32 m x || b32 q x) := by
  unfold b32
  rw [Int32.toBitVec_or, BitVec.getLsbD_or]
theorem b32_and {m q : Int32} {x : Nat} : b32 (m &&& q) x = (b32 m x && b32 q x) := by
  unfold b32
  rw [Int32.toBitVec_and, BitVec.getLsbD_and]
theorem b32_one {y : Int32} {x : Nat} (h0 : 0 ≤ y.toInt) (h1 : y.toInt < 32) : b32 ((1 : Int32) <<< (y &&& 31)) x = decide (x = y.toNatClampNeg) := by
  have hk : y.toNatClampNeg < 32 := by have : y.toNatClampNeg = y.toInt.toNat := rfl; omega
  have e := sl_1 ⟨y.toNatClampNeg, hk⟩
  rw [i32_of h0, e]
  show (BitVec.twoPow 32 y.toNatClampNeg).getLsbD x = _
  rw [BitVec.getLsbD_twoPow]
  have : ((Int32.ofNat y.toNatClampNeg).toNatClampNeg) = y.toNatClampNeg := by rw [← i32_of h0]
  rw [this]
  by_cases h : x = y.toNatClampNeg <;> simp [h] <;> omega
theorem b32_ext {a b : Int32} (h : ∀ x, x < 32 → b32 a x = b32 b x) : a = b := by
  apply Int32.toBitVec_inj.mp
  apply BitVec.eq_of_getLsbD_eq
  intro i hi
  exact h i hi
theorem b32_zero {x : Nat} : b32 0 x = false := by
  show (0#32).getLsbD x = false
  simp
theorem b32_z {a : Int32} : a = 0 ↔ ∀ x, x < 32 → b32 a x = false := by
  constructor
  · intro h x _
    rw [h]
    exact b32_zero
  · intro h
    exact b32_ext (fun x hx => by rw [h x hx, b32_zero])
theorem b32_m1 {x : Nat} (h : x < 32) : b32 (-1) x = true := by
  show (BitVec.allOnes 32).getLsbD x = true
  rw [BitVec.getLsbD_allOnes]
  exact decide_eq_true h
theorem b32_shr {m : Int32} {x : Int32} {j : Nat} (h0 : 0 ≤ x.toInt) (h1 : x.toInt < 32) : b32 (ushr m x) j = b32 m (x.toNatClampNeg + j) := by
  have hk : x.toNatClampNeg < 32 := by have : x.toNatClampNeg = x.toInt.toNat := rfl; omega
  have e := us_u ⟨x.toNatClampNeg, hk⟩
  have e2 : (x.toUInt32 &&& Int32.toUInt32 31) = UInt32.ofNat x.toNatClampNeg := by
    have := e
    rwa [show (Int32.ofNat (⟨x.toNatClampNeg, hk⟩ : Fin 32).1) = x from (i32_of h0).symm] at this
  unfold ushr b32
  rw [e2]
  show (m.toBitVec >>> (UInt32.ofNat x.toNatClampNeg % 32).toBitVec).getLsbD j = m.toBitVec.getLsbD (x.toNatClampNeg + j)
  rw [BitVec.ushiftRight_eq', BitVec.getLsbD_ushiftRight]
  have : (UInt32.ofNat x.toNatClampNeg % 32).toBitVec.toNat = x.toNatClampNeg := by
    show (UInt32.ofNat x.toNatClampNeg % 32).toNat = x.toNatClampNeg
    simp
    omega
  rw [this]
theorem b32_read {m : Int32} {x : Int32} (h0 : 0 ≤ x.toInt) (h1 : x.toInt < 32) : ((ushr m x) &&& 1) = 0 ↔ b32 m x.toNatClampNeg = false := by
  rw [b32_z]
  have b1 : ∀ j, b32 1 j = decide (j = 0) := by
    intro j
    show (1#32).getLsbD j = _
    simp
  constructor
  · intro h
    have := h 0 (by decide)
    rw [b32_and, b32_shr h0 h1, b1] at this
    simpa using this
  · intro h j _
    rw [b32_and, b32_shr h0 h1, b1]
    by_cases hz : j = 0
    · subst hz
      rw [Nat.add_zero, h]
      rfl
    · simp [hz]
theorem sh_u64 : ∀ k : Fin 64, ((Int32.ofNat k.1).toInt64.toUInt64 &&& Int64.toUInt64 63) = UInt64.ofNat k.1 := by decide +kernel
theorem sh_s64 : ∀ k : Fin 64, (((Int32.ofNat k.1).toInt64 &&& 63).toBitVec.smod 64#64) = BitVec.ofNat 64 k.1 := by decide +kernel
theorem bt_shr64 {m : Int64} {x : Int32} {j : Nat} (h0 : 0 ≤ x.toInt) (h1 : x.toInt < 64) : bt (lushr m x) j = bt m (x.toNatClampNeg + j) := by
  have hk : x.toNatClampNeg < 64 := by have : x.toNatClampNeg = x.toInt.toNat := rfl; omega
  have e := sh_u64 ⟨x.toNatClampNeg, hk⟩
  have e2 : (x.toInt64.toUInt64 &&& Int64.toUInt64 63) = UInt64.ofNat x.toNatClampNeg := by
    have := e
    rwa [show (Int32.ofNat (⟨x.toNatClampNeg, hk⟩ : Fin 64).1) = x from (i32_of h0).symm] at this
  unfold lushr bt
  rw [e2]
  show (m.toBitVec >>> (UInt64.ofNat x.toNatClampNeg % 64).toBitVec).getLsbD j = m.toBitVec.getLsbD (x.toNatClampNeg + j)
  rw [BitVec.ushiftRight_eq', BitVec.getLsbD_ushiftRight]
  have : (UInt64.ofNat x.toNatClampNeg % 64).toBitVec.toNat = x.toNatClampNeg := by
    show (UInt64.ofNat x.toNatClampNeg % 64).toNat = x.toNatClampNeg
    simp
    omega
  rw [this]
theorem bt_sshr64 {m : Int64} {x : Int32} {j : Nat} (h0 : 0 ≤ x.toInt) (hj : x.toNatClampNeg + j < 64) : bt (lshr m x) j = bt m (x.toNatClampNeg + j) := by
  have hk : x.toNatClampNeg < 64 := by omega
  have e := sh_s64 ⟨x.toNatClampNeg, hk⟩
  rw [show (Int32.ofNat (⟨x.toNatClampNeg, hk⟩ : Fin 64).1) = x from (i32_of h0).symm] at e
  unfold lshr bt
  rw [Int64.toBitVec_shiftRight]
  show (m.toBitVec.sshiftRight' ((x.toInt64 &&& 63).toBitVec.smod 64#64)).getLsbD j = _
  rw [e]
  show (m.toBitVec.sshiftRight (BitVec.ofNat 64 x.toNatClampNeg).toNat).getLsbD j = _
  have hn : (BitVec.ofNat 64 x.toNatClampNeg).toNat = x.toNatClampNeg := by
    rw [BitVec.toNat_ofNat]
    omega
  rw [hn, BitVec.getLsbD_sshiftRight, if_pos hj]
  have : decide (64 ≤ j) = false := decide_eq_false (by omega)
  rw [this]
  rfl
theorem byte_eq {y : Int64} {x : Int32} (h0 : 0 ≤ x.toInt) (h1 : x.toInt ≤ 56) : (lushr y x &&& 255) = (lshr y x &&& 255) := by
  have hx : x.toNatClampNeg = x.toInt.toNat := rfl
  have b255 : ∀ j, 8 ≤ j → bt 255 j = false := by
    intro j hj
    show (255#64).getLsbD j = false
    rw [BitVec.getLsbD_ofNat]
    have : Nat.testBit 255 j = false := Nat.testBit_lt_two_pow (Nat.lt_of_lt_of_le (by decide : 255 < 2 ^ 8) (Nat.pow_le_pow_right (by decide) hj))
    rw [this]
    simp
  apply bt_ext
  intro j hj
  rw [bt_and, bt_and]
  by_cases h8 : 8 ≤ j
  · rw [b255 j h8, Bool.and_false, Bool.and_false]
  · rw [bt_shr64 h0 (by omega), bt_sshr64 h0 (by omega)]
