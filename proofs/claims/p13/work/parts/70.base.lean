theorem bm {p : Int} (h1 : -2147483648 ≤ p) (h2 : p ≤ 2147483647) : p.bmod (2 ^ 32) = p := Int.bmod_eq_of_le (by omega) (by omega)
theorem ti_add {a b : Int32} {p q : Int} (ha : a.toInt = p) (hb : b.toInt = q) (h1 : -2147483648 ≤ p + q) (h2 : p + q ≤ 2147483647) : (a + b).toInt = p + q := by
  rw [Int32.toInt_add, ha, hb]
  exact bm h1 h2
theorem ti_sub {a b : Int32} {p q : Int} (ha : a.toInt = p) (hb : b.toInt = q) (h1 : -2147483648 ≤ p - q) (h2 : p - q ≤ 2147483647) : (a - b).toInt = p - q := by
  rw [Int32.toInt_sub, ha, hb]
  exact bm h1 h2
theorem ti_mul {a b : Int32} {p q : Int} (ha : a.toInt = p) (hb : b.toInt = q) (h1 : -2147483648 ≤ p * q) (h2 : p * q ≤ 2147483647) : (a * b).toInt = p * q := by
  rw [Int32.toInt_mul, ha, hb]
  exact bm h1 h2
theorem ti_neg {a : Int32} {p : Int} (ha : a.toInt = p) (h1 : -2147483648 ≤ -p) (h2 : -p ≤ 2147483647) : (-a).toInt = -p := by
  rw [Int32.toInt_neg, ha]
  exact bm h1 h2
theorem ti_div {a b : Int32} {p q : Int} (ha : a.toInt = p) (hb : b.toInt = q) (h0 : 0 ≤ p) (h1 : 0 < q) : (a / b).toInt = p / q := by
  rw [Int32.toInt_div, ha, hb, Int.tdiv_eq_ediv_of_nonneg h0]
  have h2 : p ≤ 2147483647 := by rw [← ha]; exact Int.le_of_lt_add_one a.toInt_lt
  have h3 : 0 ≤ p / q := Int.ediv_nonneg h0 (by omega)
  have h4 : p / q ≤ p := Int.ediv_le_self q h0
  exact bm (by omega) (by omega)
theorem ti_rem {a b : Int32} {p q : Int} (ha : a.toInt = p) (hb : b.toInt = q) (h0 : 0 ≤ p) (h1 : 0 < q) : (irem a b).toInt = p % q := by
  have h2 : p ≤ 2147483647 := by rw [← ha]; exact Int.le_of_lt_add_one a.toInt_lt
  have h3 : 0 ≤ p / q := Int.ediv_nonneg h0 (by omega)
  have h4 : p / q ≤ p := Int.ediv_le_self q h0
  have h5 : p / q * q + p % q = p := Int.ediv_mul_add_emod p q
  have h6 : 0 ≤ p % q := Int.emod_nonneg p (by omega)
  have h7 : 0 ≤ p / q * q := Int.mul_nonneg h3 (by omega)
  have e1 := ti_div ha hb h0 h1
  have e2 := ti_mul e1 hb (by omega) (by omega)
  have e3 := ti_sub ha e2 (by omega) (by omega)
  rw [irem, e3]
  omega
theorem i_le {a b : Int32} {p q : Int} (ha : a.toInt = p) (hb : b.toInt = q) : a ≤ b ↔ p ≤ q := by rw [Int32.le_iff_toInt_le, ha, hb]
theorem i_lt {a b : Int32} {p q : Int} (ha : a.toInt = p) (hb : b.toInt = q) : a < b ↔ p < q := by rw [Int32.lt_iff_toInt_lt, ha, hb]
theorem i_eq {a b : Int32} {p q : Int} (ha : a.toInt = p) (hb : b.toInt = q) : a = b ↔ p = q := by rw [← Int32.toInt_inj, ha, hb]
theorem vin {x : Int32} {p : Int} {n : Nat} (hx : x.toInt = p) (h0 : 0 ≤ p) (h1 : p < n) : vp_in x n := vp_in_iff.mpr ⟨by omega, by omega⟩
theorem clampI {x : Int32} {p : Int} (hx : x.toInt = p) : x.toNatClampNeg = p.toNat := by rw [← hx]; rfl
theorem i_rg (x : Int32) : -2147483648 ≤ x.toInt ∧ x.toInt ≤ 2147483647 := ⟨x.le_toInt, Int.le_of_lt_add_one x.toInt_lt⟩
theorem bo_nar {v : Int32} (h : v = 0 ∨ v = 1) : narrow .boolean (.int v) = .int v := by rcases h with rfl | rfl <;> rfl
theorem bo_vn {v : Int32} (h : v = 0 ∨ v = 1) : vp_nar .boolean v = v := by rcases h with rfl | rfl <;> rfl
theorem bo_of {v : Int32} (h : 0 ≤ v.toInt ∧ v.toInt ≤ 1) : v = 0 ∨ v = 1 := by
  rcases (show v.toInt = 0 ∨ v.toInt = 1 by omega) with h | h
  · exact Or.inl (Int32.toInt_inj.mp h)
  · exact Or.inr (Int32.toInt_inj.mp h)
theorem bo_in {v : Int32} (h : v = 0 ∨ v = 1) : 0 ≤ v.toInt ∧ v.toInt ≤ 1 := by rcases h with rfl | rfl <;> decide
theorem vn_in (v : Int32) : 0 ≤ (vp_nar .boolean v).toInt ∧ (vp_nar .boolean v).toInt ≤ 1 := by
  have h : vp_nar .boolean v = v &&& 1 := by
    simp only [vp_nar, narrow]
  rw [h]
  have := pk_andE v (m := 1) 1 rfl
  obtain ⟨j, hj, e⟩ := this
  rw [e, nI_toInt (by omega)]
  omega
