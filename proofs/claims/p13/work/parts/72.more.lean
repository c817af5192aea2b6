def RowB (c : Nat) : Prop := c = 28 ∨ ∃ k, k < 24 ∧ c = 92 + 5 * k
theorem rowb_iv {d : DD} {c : Nat} (h : Inv d) (hc : RowB c) (j : Nat) : -1 ≤ (d c j).toInt ∧ (d c j).toInt ≤ 5 := by
  rcases hc with rfl | ⟨k, hk, rfl⟩
  · exact iv_28 h j
  · exact iv_92 h hk j
def RowT (c : Nat) : Prop := c = 247 ∨ c = 223
theorem rowt_iv {d : DD} {c : Nat} (h : Inv d) (hc : RowT c) (j : Nat) : 0 ≤ (d c j).toInt ∧ (d c j).toInt ≤ 39 := by
  rcases hc with rfl | rfl
  · exact iv_247 h j
  · exact iv_223 h j
def Sq (e : DD) (el : LL) (d : DD) (dl : LL) : Prop := Inv d ∧ d = e ∧ dl = el
theorem Sq.rf {d : DD} {dl : LL} (h : Inv d) : Sq d dl d dl := ⟨h, rfl, rfl⟩
theorem Sq.tr {e d d2 : DD} {el dl l2 : LL} (h : Sq e el d dl) (h2 : Sq d dl d2 l2) : Sq e el d2 l2 := ⟨h2.1, h2.2.1.trans h.2.1, h2.2.2.trans h.2.2⟩
theorem St.sq {e d d2 : DD} {el dl l2 : LL} (h : St e el d dl) (h2 : Sq d dl d2 l2) : St e el d2 l2 := by
  obtain ⟨h3, rfl, rfl⟩ := h2
  exact h
theorem ti_max {a b : Int32} {p q : Int} (ha : a.toInt = p) (hb : b.toInt = q) : ((if a < b then b else a) : Int32).toInt = max p q := by
  by_cases h : a < b
  · rw [if_pos h, hb]; have := (i_lt ha hb).mp h; omega
  · rw [if_neg h, ha]; have : ¬ p < q := fun q9 => h ((i_lt ha hb).mpr q9); omega
theorem ti_min {a b : Int32} {p q : Int} (ha : a.toInt = p) (hb : b.toInt = q) : ((if b < a then b else a) : Int32).toInt = min p q := by
  by_cases h : b < a
  · rw [if_pos h, hb]; have := (i_lt hb ha).mp h; omega
  · rw [if_neg h, ha]; have : ¬ q < p := fun q9 => h ((i_lt hb ha).mpr q9); omega
theorem ti_abs {a : Int32} {p : Int} (ha : a.toInt = p) (h1 : -2147483648 < p) : ((if 0 ≤ a then a else -a) : Int32).toInt = (if 0 ≤ p then p else -p) := by
  have hz : (0 : Int32).toInt = 0 := rfl
  by_cases h : 0 ≤ a
  · rw [if_pos h, ha, if_pos ((i_le hz ha).mp h)]
  · have h2 : ¬ 0 ≤ p := fun q9 => h ((i_le hz ha).mpr q9)
    rw [if_neg h, if_neg h2]
    have := (i_rg a).2
    exact ti_neg ha (by omega) (by omega)
