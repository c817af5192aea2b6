def N0 : Nat := 1000000000
def rg (i : Nat) : Nat := if i < 37 then i else if i < 55 then 37 + (i - 37) % 3 else if i < 91 then 55 + (i - 55) % 6 else if i < 211 then 91 + (i - 91) % 5 else i
def lo (c j : Nat) : Int := match c with
  | 0 => if j = 2 then 0 else if j = 7 then 0 else if j = 9 then 0 else if j = 13 then 0 else (-2147483648)
  | 1 => if j = 0 then 0 else (-2147483648)
  | 2 => 0
  | 3 => 0
  | 4 => 0
  | 5 => 0
  | 6 => 0
  | 10 => if j = 1 then 0 else if j = 2 then 0 else if j = 3 then 0 else (-2147483648)
  | 17 => 0
  | 18 => 0
  | 24 => if j = 0 then 0 else if j = 1 then 0 else (-2147483648)
  | 28 => (-1)
  | 32 => if j = 0 then 0 else (-2147483648)
  | 35 => 0
  | 36 => 0
  | 37 => if j = 0 then 2 else if j = 1 then 0 else if j = 2 then 1 else if j = 3 then 0 else if j = 6 then 0 else (-2147483648)
  | 38 => 0
  | 39 => 0
  | 55 => if j = 0 then 0 else (-2147483648)
  | 56 => 0
  | 57 => 0
  | 60 => 0
  | 91 => if j = 0 then 0 else if j = 1 then 0 else if j = 2 then 0 else (-2147483648)
  | 92 => (-1)
  | 95 => 0
  | 211 => if j = 0 then 0 else if j = 1 then 0 else if j = 2 then 0 else if j = 3 then 0 else if j = 4 then 0 else if j = 5 then 0 else if j = 7 then 0 else if j = 46 then 0 else if j = 47 then (-1) else (-2147483648)
  | 212 => 0
  | 213 => 0
  | 214 => 0
  | 215 => 0
  | 216 => 0
  | 217 => 0
  | 218 => 0
  | 219 => 0
  | 220 => 0
  | 221 => 0
  | 222 => 0
  | 223 => 0
  | 224 => 0
  | 226 => 0
  | 227 => 0
  | 230 => 0
  | 231 => 0
  | 232 => 0
  | 233 => 0
  | 234 => (-1)
  | 237 => 0
  | 238 => 0
  | 239 => (-1)
  | 241 => 0
  | 243 => 0
  | 244 => (-1)
  | 245 => 0
  | 247 => 0
  | _ => (-2147483648)
def hi (c j : Nat) : Int := match c with
  | 0 => if j = 2 then 6 else if j = 7 then 6 else if j = 9 then 99 else if j = 13 then 24 else 2147483647
  | 1 => if j = 0 then 40 else 2147483647
  | 2 => 150
  | 3 => 99
  | 4 => 2
  | 5 => 1
  | 6 => 90
  | 10 => if j = 1 then 1 else if j = 2 then 8 else if j = 3 then 8 else 2147483647
  | 17 => 7
  | 18 => 7
  | 24 => if j = 0 then 120 else if j = 1 then 120 else 2147483647
  | 28 => 5
  | 32 => if j = 0 then 6 else 2147483647
  | 35 => 1
  | 36 => 1
  | 37 => if j = 0 then 4 else if j = 1 then 150 else if j = 2 then 9 else if j = 3 then 8 else if j = 6 then 1 else 2147483647
  | 38 => 39
  | 39 => 39
  | 55 => if j = 0 then 8 else 2147483647
  | 56 => 1
  | 57 => 5
  | 60 => 1
  | 91 => if j = 0 then 999 else if j = 1 then 1 else if j = 2 then 1 else 2147483647
  | 92 => 5
  | 95 => 1
  | 211 => if j = 0 then 40 else if j = 1 then 6 else if j = 2 then 6 else if j = 3 then 24 else if j = 4 then 120 else if j = 5 then 99 else if j = 7 then 6 else if j = 46 then 120 else if j = 47 then 121 else 2147483647
  | 212 => 150
  | 213 => 99
  | 214 => 2
  | 215 => 1
  | 216 => 90
  | 217 => 1
  | 218 => 4
  | 219 => 150
  | 220 => 8
  | 221 => 9
  | 222 => 39
  | 223 => 39
  | 224 => 1
  | 226 => 8
  | 227 => 5
  | 230 => 1
  | 231 => 1
  | 232 => 999
  | 233 => 1
  | 234 => 5
  | 237 => 1
  | 238 => 1
  | 239 => 5
  | 241 => 5
  | 243 => 1
  | 244 => 7
  | 245 => 39
  | 247 => 39
  | _ => 2147483647
def rl (c j : Nat) : Bool := match c with
  | 0 => j == 2 || j == 7 || j == 9 || j == 13
  | 1 => j == 0
  | 2 => true
  | 3 => true
  | 4 => true
  | 5 => true
  | 6 => true
  | 24 => j == 0
  | 25 => true
  | 28 => true
  | 29 => true
  | 37 => j == 0 || j == 1 || j == 2 || j == 3 || j == 6
  | 38 => true
  | 39 => true
  | 55 => j == 0
  | 56 => true
  | 57 => true
  | 58 => true
  | 59 => true
  | 60 => true
  | 91 => j == 0 || j == 1
  | 92 => true
  | 211 => j == 0 || j == 1 || j == 2 || j == 3 || j == 4 || j == 5 || j == 6
  | 212 => true
  | 213 => true
  | 214 => true
  | 215 => true
  | 216 => true
  | 217 => true
  | 218 => true
  | 219 => true
  | 220 => true
  | 221 => true
  | 222 => true
  | 223 => true
  | 224 => true
  | 225 => true
  | 226 => true
  | 227 => true
  | 228 => true
  | 229 => true
  | 230 => true
  | 231 => true
  | 232 => true
  | 233 => true
  | 234 => true
  | 239 => true
  | 240 => true
  | _ => false
def rll (c j : Nat) : Bool := match c with
  | 7 => true
  | 37 => j == 5
  | _ => false
theorem rg_37 {k : Nat} (h : k < 6) : rg (37 + 3 * k) = 37 := by unfold rg; rw [if_neg (by omega), if_pos (by omega)]; omega
theorem rg_38 {k : Nat} (h : k < 6) : rg (38 + 3 * k) = 38 := by unfold rg; rw [if_neg (by omega), if_pos (by omega)]; omega
theorem rg_39 {k : Nat} (h : k < 6) : rg (39 + 3 * k) = 39 := by unfold rg; rw [if_neg (by omega), if_pos (by omega)]; omega
theorem rg_55 {k : Nat} (h : k < 6) : rg (55 + 6 * k) = 55 := by unfold rg; rw [if_neg (by omega), if_neg (by omega), if_pos (by omega)]; omega
theorem rg_56 {k : Nat} (h : k < 6) : rg (56 + 6 * k) = 56 := by unfold rg; rw [if_neg (by omega), if_neg (by omega), if_pos (by omega)]; omega
theorem rg_57 {k : Nat} (h : k < 6) : rg (57 + 6 * k) = 57 := by unfold rg; rw [if_neg (by omega), if_neg (by omega), if_pos (by omega)]; omega
theorem rg_58 {k : Nat} (h : k < 6) : rg (58 + 6 * k) = 58 := by unfold rg; rw [if_neg (by omega), if_neg (by omega), if_pos (by omega)]; omega
theorem rg_59 {k : Nat} (h : k < 6) : rg (59 + 6 * k) = 59 := by unfold rg; rw [if_neg (by omega), if_neg (by omega), if_pos (by omega)]; omega
theorem rg_60 {k : Nat} (h : k < 6) : rg (60 + 6 * k) = 60 := by unfold rg; rw [if_neg (by omega), if_neg (by omega), if_pos (by omega)]; omega
theorem rg_91 {k : Nat} (h : k < 24) : rg (91 + 5 * k) = 91 := by unfold rg; rw [if_neg (by omega), if_neg (by omega), if_neg (by omega), if_pos (by omega)]; omega
theorem rg_92 {k : Nat} (h : k < 24) : rg (92 + 5 * k) = 92 := by unfold rg; rw [if_neg (by omega), if_neg (by omega), if_neg (by omega), if_pos (by omega)]; omega
theorem rg_93 {k : Nat} (h : k < 24) : rg (93 + 5 * k) = 93 := by unfold rg; rw [if_neg (by omega), if_neg (by omega), if_neg (by omega), if_pos (by omega)]; omega
theorem rg_94 {k : Nat} (h : k < 24) : rg (94 + 5 * k) = 94 := by unfold rg; rw [if_neg (by omega), if_neg (by omega), if_neg (by omega), if_pos (by omega)]; omega
theorem rg_95 {k : Nat} (h : k < 24) : rg (95 + 5 * k) = 95 := by unfold rg; rw [if_neg (by omega), if_neg (by omega), if_neg (by omega), if_pos (by omega)]; omega
def InI2 (d : DD) : Prop := ∀ i j, lo (rg i) j ≤ (d i j).toInt ∧ (d i j).toInt ≤ hi (rg i) j
/-- a time only where a crew goes -/
def J1 (d : DD) : Prop := ∀ a, ¬ d 235 a = 0 → 0 ≤ (d 234 a).toInt
def Inv (d : DD) : Prop := InI2 d ∧ J1 d
def Keep (e d : DD) : Prop := ∀ i j, rl (rg i) j = true → d i j = e i j
def LKeep (e d : LL) : Prop := ∀ i j, rll (rg i) j = true → d i j = e i j
/-- d, dl came of e, el: the invariant holds, nothing relevant has changed -/
def St (e : DD) (el : LL) (d : DD) (dl : LL) : Prop := Inv d ∧ Keep e d ∧ LKeep el dl
theorem St.rf {d : DD} {dl : LL} (h : Inv d) : St d dl d dl := ⟨h, fun _ _ _ => rfl, fun _ _ _ => rfl⟩
theorem St.tr {e d d2 : DD} {el dl l2 : LL} (h : St e el d dl) (h2 : St d dl d2 l2) : St e el d2 l2 := ⟨h2.1, fun i j q => (h2.2.1 i j q).trans (h.2.1 i j q), fun i j q => (h2.2.2 i j q).trans (h.2.2 i j q)⟩
theorem InI2_put {d : DD} {i j : Nat} {v : Int32} (h : InI2 d) (h1 : lo (rg i) j ≤ v.toInt) (h2 : v.toInt ≤ hi (rg i) j) : InI2 (u2 d i j v) := by
  intro a b
  by_cases hab : a = i ∧ b = j
  · obtain ⟨rfl, rfl⟩ := hab
    rw [u2_eq]
    exact ⟨h1, h2⟩
  · rw [u2_ne (by
      by_cases ha : a = i
      · exact Or.inr (fun hb => hab ⟨ha, hb⟩)
      · exact Or.inl ha)]
    exact h a b
theorem J1_put {d : DD} {i j : Nat} {v : Int32} (h : J1 d) (h1 : i ≠ 235) (h2 : i ≠ 234) : J1 (u2 d i j v) := by
  intro a ha
  rw [u2_row (Ne.symm h1)] at ha
  rw [u2_row (Ne.symm h2)]
  exact h a ha
theorem J1_time {d : DD} {j : Nat} {v : Int32} (h : J1 d) (h1 : v = 0 ∨ 0 ≤ (d 234 j).toInt) : J1 (u2 d 235 j v) := by
  intro a ha
  rw [u2_row (by decide)]
  by_cases hj : a = j
  · subst hj
    rw [u2_eq] at ha
    rcases h1 with h1 | h1
    · exact absurd h1 ha
    · exact h1
  · rw [u2_ne (Or.inr hj)] at ha
    exact h a ha
theorem Keep_put {e d : DD} {i j : Nat} {v : Int32} (h : Keep e d) (h1 : rl (rg i) j = false) : Keep e (u2 d i j v) := by
  intro a b hr
  rw [u2_ne (by
    by_cases ha : a = i
    · refine Or.inr (fun hb => ?_)
      subst ha; subst hb
      rw [h1] at hr
      exact absurd hr (by decide)
    · exact Or.inl ha)]
  exact h a b hr
theorem l2_ne {d : LL} {i j a b : Nat} {v : Int64} (h : a ≠ i ∨ b ≠ j) : l2 d i j v a b = d a b := by
  by_cases ha : a = i
  · subst ha
    rcases h with h | h
    · exact absurd rfl h
    · simp [l2, vp_updL, h]
  · rw [l2_row ha]
theorem LKeep_put {e d : LL} {i j : Nat} {v : Int64} (h : LKeep e d) (h1 : rll (rg i) j = false) : LKeep e (l2 d i j v) := by
  intro a b hr
  rw [l2_ne (by
    by_cases ha : a = i
    · refine Or.inr (fun hb => ?_)
      subst ha; subst hb
      rw [h1] at hr
      exact absurd hr (by decide)
    · exact Or.inl ha)]
  exact h a b hr
theorem St.put {e d : DD} {el dl : LL} {i j : Nat} {v : Int32} (h : St e el d dl) (h1 : lo (rg i) j ≤ v.toInt) (h2 : v.toInt ≤ hi (rg i) j) (h3 : rl (rg i) j = false) (h4 : i ≠ 235) (h5 : i ≠ 234) : St e el (u2 d i j v) dl := ⟨⟨InI2_put h.1.1 h1 h2, J1_put h.1.2 h4 h5⟩, Keep_put h.2.1 h3, h.2.2⟩
theorem St.putl {e d : DD} {el dl : LL} {i j : Nat} {v : Int64} (h : St e el d dl) (h3 : rll (rg i) j = false) : St e el d (l2 dl i j v) := ⟨h.1, h.2.1, LKeep_put h.2.2 h3⟩
theorem iv_0_2 {d : DD} (h : Inv d) : 0 ≤ (d 0 2).toInt ∧ (d 0 2).toInt ≤ 6 := by
  have h1 := h.1 0 2
  exact h1
theorem iv_0_7 {d : DD} (h : Inv d) : 0 ≤ (d 0 7).toInt ∧ (d 0 7).toInt ≤ 6 := by
  have h1 := h.1 0 7
  exact h1
theorem iv_0_9 {d : DD} (h : Inv d) : 0 ≤ (d 0 9).toInt ∧ (d 0 9).toInt ≤ 99 := by
  have h1 := h.1 0 9
  exact h1
theorem iv_0_13 {d : DD} (h : Inv d) : 0 ≤ (d 0 13).toInt ∧ (d 0 13).toInt ≤ 24 := by
  have h1 := h.1 0 13
  exact h1
theorem iv_1_0 {d : DD} (h : Inv d) : 0 ≤ (d 1 0).toInt ∧ (d 1 0).toInt ≤ 40 := by
  have h1 := h.1 1 0
  exact h1
theorem iv_2 {d : DD} (h : Inv d) (j : Nat) : 0 ≤ (d 2 j).toInt ∧ (d 2 j).toInt ≤ 150 := by
  have h1 := h.1 2 j
  exact h1
theorem iv_3 {d : DD} (h : Inv d) (j : Nat) : 0 ≤ (d 3 j).toInt ∧ (d 3 j).toInt ≤ 99 := by
  have h1 := h.1 3 j
  exact h1
theorem iv_4 {d : DD} (h : Inv d) (j : Nat) : 0 ≤ (d 4 j).toInt ∧ (d 4 j).toInt ≤ 2 := by
  have h1 := h.1 4 j
  exact h1
theorem iv_5 {d : DD} (h : Inv d) (j : Nat) : 0 ≤ (d 5 j).toInt ∧ (d 5 j).toInt ≤ 1 := by
  have h1 := h.1 5 j
  exact h1
theorem iv_6 {d : DD} (h : Inv d) (j : Nat) : 0 ≤ (d 6 j).toInt ∧ (d 6 j).toInt ≤ 90 := by
  have h1 := h.1 6 j
  exact h1
theorem pv_8 {e d : DD} {el dl : LL} {j : Nat} {v : Int32} (h : St e el d dl) : St e el (u2 d 8 j v) dl := h.put (i_rg v).1 (i_rg v).2 rfl (by omega) (by omega)
theorem pv_9_0 {e d : DD} {el dl : LL} {v : Int32} (h : St e el d dl) : St e el (u2 d 9 0 v) dl := h.put (i_rg v).1 (i_rg v).2 rfl (by omega) (by omega)
theorem pv_9_1 {e d : DD} {el dl : LL} {v : Int32} (h : St e el d dl) : St e el (u2 d 9 1 v) dl := h.put (i_rg v).1 (i_rg v).2 rfl (by omega) (by omega)
theorem pv_9_2 {e d : DD} {el dl : LL} {v : Int32} (h : St e el d dl) : St e el (u2 d 9 2 v) dl := h.put (i_rg v).1 (i_rg v).2 rfl (by omega) (by omega)
theorem pv_9_3 {e d : DD} {el dl : LL} {v : Int32} (h : St e el d dl) : St e el (u2 d 9 3 v) dl := h.put (i_rg v).1 (i_rg v).2 rfl (by omega) (by omega)
theorem pv_10_0 {e d : DD} {el dl : LL} {v : Int32} (h : St e el d dl) : St e el (u2 d 10 0 v) dl := h.put (i_rg v).1 (i_rg v).2 rfl (by omega) (by omega)
theorem iv_10_1 {d : DD} (h : Inv d) : 0 ≤ (d 10 1).toInt ∧ (d 10 1).toInt ≤ 1 := by
  have h1 := h.1 10 1
  exact h1
theorem pv_10_1 {e d : DD} {el dl : LL} {v : Int32} (h : St e el d dl) (h1 : 0 ≤ v.toInt) (h2 : v.toInt ≤ 1) : St e el (u2 d 10 1 v) dl := h.put h1 h2 rfl (by omega) (by omega)
theorem iv_10_2 {d : DD} (h : Inv d) : 0 ≤ (d 10 2).toInt ∧ (d 10 2).toInt ≤ 8 := by
  have h1 := h.1 10 2
  exact h1
theorem pv_10_2 {e d : DD} {el dl : LL} {v : Int32} (h : St e el d dl) (h1 : 0 ≤ v.toInt) (h2 : v.toInt ≤ 8) : St e el (u2 d 10 2 v) dl := h.put h1 h2 rfl (by omega) (by omega)
theorem iv_10_3 {d : DD} (h : Inv d) : 0 ≤ (d 10 3).toInt ∧ (d 10 3).toInt ≤ 8 := by
  have h1 := h.1 10 3
  exact h1
theorem pv_10_3 {e d : DD} {el dl : LL} {v : Int32} (h : St e el d dl) (h1 : 0 ≤ v.toInt) (h2 : v.toInt ≤ 8) : St e el (u2 d 10 3 v) dl := h.put h1 h2 rfl (by omega) (by omega)
theorem pv_11 {e d : DD} {el dl : LL} {j : Nat} {v : Int32} (h : St e el d dl) : St e el (u2 d 11 j v) dl := h.put (i_rg v).1 (i_rg v).2 rfl (by omega) (by omega)
theorem pv_12 {e d : DD} {el dl : LL} {j : Nat} {v : Int32} (h : St e el d dl) : St e el (u2 d 12 j v) dl := h.put (i_rg v).1 (i_rg v).2 rfl (by omega) (by omega)
theorem pv_13 {e d : DD} {el dl : LL} {j : Nat} {v : Int32} (h : St e el d dl) : St e el (u2 d 13 j v) dl := h.put (i_rg v).1 (i_rg v).2 rfl (by omega) (by omega)
theorem pv_14 {e d : DD} {el dl : LL} {j : Nat} {v : Int32} (h : St e el d dl) : St e el (u2 d 14 j v) dl := h.put (i_rg v).1 (i_rg v).2 rfl (by omega) (by omega)
theorem pv_15 {e d : DD} {el dl : LL} {j : Nat} {v : Int32} (h : St e el d dl) : St e el (u2 d 15 j v) dl := h.put (i_rg v).1 (i_rg v).2 rfl (by omega) (by omega)
theorem pv_16 {e d : DD} {el dl : LL} {j : Nat} {v : Int32} (h : St e el d dl) : St e el (u2 d 16 j v) dl := h.put (i_rg v).1 (i_rg v).2 rfl (by omega) (by omega)
theorem iv_17 {d : DD} (h : Inv d) (j : Nat) : 0 ≤ (d 17 j).toInt ∧ (d 17 j).toInt ≤ 7 := by
  have h1 := h.1 17 j
  exact h1
theorem pv_17 {e d : DD} {el dl : LL} {j : Nat} {v : Int32} (h : St e el d dl) (h1 : 0 ≤ v.toInt) (h2 : v.toInt ≤ 7) : St e el (u2 d 17 j v) dl := h.put h1 h2 rfl (by omega) (by omega)
theorem iv_18 {d : DD} (h : Inv d) (j : Nat) : 0 ≤ (d 18 j).toInt ∧ (d 18 j).toInt ≤ 7 := by
  have h1 := h.1 18 j
  exact h1
theorem pv_18 {e d : DD} {el dl : LL} {j : Nat} {v : Int32} (h : St e el d dl) (h1 : 0 ≤ v.toInt) (h2 : v.toInt ≤ 7) : St e el (u2 d 18 j v) dl := h.put h1 h2 rfl (by omega) (by omega)
theorem pv_19 {e d : DD} {el dl : LL} {j : Nat} {v : Int32} (h : St e el d dl) : St e el (u2 d 19 j v) dl := h.put (i_rg v).1 (i_rg v).2 rfl (by omega) (by omega)
theorem pv_20 {e d : DD} {el dl : LL} {j : Nat} {v : Int32} (h : St e el d dl) : St e el (u2 d 20 j v) dl := h.put (i_rg v).1 (i_rg v).2 rfl (by omega) (by omega)
theorem pv_21 {e d : DD} {el dl : LL} {j : Nat} {v : Int32} (h : St e el d dl) : St e el (u2 d 21 j v) dl := h.put (i_rg v).1 (i_rg v).2 rfl (by omega) (by omega)
theorem pv_22 {e d : DD} {el dl : LL} {j : Nat} {v : Int32} (h : St e el d dl) : St e el (u2 d 22 j v) dl := h.put (i_rg v).1 (i_rg v).2 rfl (by omega) (by omega)
theorem pv_23 {e d : DD} {el dl : LL} {j : Nat} {v : Int32} (h : St e el d dl) : St e el (u2 d 23 j v) dl := h.put (i_rg v).1 (i_rg v).2 rfl (by omega) (by omega)
theorem iv_24_0 {d : DD} (h : Inv d) : 0 ≤ (d 24 0).toInt ∧ (d 24 0).toInt ≤ 120 := by
  have h1 := h.1 24 0
  exact h1
theorem iv_24_1 {d : DD} (h : Inv d) : 0 ≤ (d 24 1).toInt ∧ (d 24 1).toInt ≤ 120 := by
  have h1 := h.1 24 1
  exact h1
theorem pv_24_1 {e d : DD} {el dl : LL} {v : Int32} (h : St e el d dl) (h1 : 0 ≤ v.toInt) (h2 : v.toInt ≤ 120) : St e el (u2 d 24 1 v) dl := h.put h1 h2 rfl (by omega) (by omega)
theorem pv_26 {e d : DD} {el dl : LL} {j : Nat} {v : Int32} (h : St e el d dl) : St e el (u2 d 26 j v) dl := h.put (i_rg v).1 (i_rg v).2 rfl (by omega) (by omega)
theorem pv_27 {e d : DD} {el dl : LL} {j : Nat} {v : Int32} (h : St e el d dl) : St e el (u2 d 27 j v) dl := h.put (i_rg v).1 (i_rg v).2 rfl (by omega) (by omega)
theorem iv_28 {d : DD} (h : Inv d) (j : Nat) : (-1) ≤ (d 28 j).toInt ∧ (d 28 j).toInt ≤ 5 := by
  have h1 := h.1 28 j
  exact h1
theorem pv_30 {e d : DD} {el dl : LL} {j : Nat} {v : Int32} (h : St e el d dl) : St e el (u2 d 30 j v) dl := h.put (i_rg v).1 (i_rg v).2 rfl (by omega) (by omega)
theorem pv_31_0 {e d : DD} {el dl : LL} {v : Int32} (h : St e el d dl) : St e el (u2 d 31 0 v) dl := h.put (i_rg v).1 (i_rg v).2 rfl (by omega) (by omega)
theorem pv_31_1 {e d : DD} {el dl : LL} {v : Int32} (h : St e el d dl) : St e el (u2 d 31 1 v) dl := h.put (i_rg v).1 (i_rg v).2 rfl (by omega) (by omega)
theorem iv_32_0 {d : DD} (h : Inv d) : 0 ≤ (d 32 0).toInt ∧ (d 32 0).toInt ≤ 6 := by
  have h1 := h.1 32 0
  exact h1
theorem pv_32_0 {e d : DD} {el dl : LL} {v : Int32} (h : St e el d dl) (h1 : 0 ≤ v.toInt) (h2 : v.toInt ≤ 6) : St e el (u2 d 32 0 v) dl := h.put h1 h2 rfl (by omega) (by omega)
theorem pv_33 {e d : DD} {el dl : LL} {j : Nat} {v : Int32} (h : St e el d dl) : St e el (u2 d 33 j v) dl := h.put (i_rg v).1 (i_rg v).2 rfl (by omega) (by omega)
theorem pv_34 {e d : DD} {el dl : LL} {j : Nat} {v : Int32} (h : St e el d dl) : St e el (u2 d 34 j v) dl := h.put (i_rg v).1 (i_rg v).2 rfl (by omega) (by omega)
theorem iv_35 {d : DD} (h : Inv d) (j : Nat) : 0 ≤ (d 35 j).toInt ∧ (d 35 j).toInt ≤ 1 := by
  have h1 := h.1 35 j
  exact h1
theorem pv_35 {e d : DD} {el dl : LL} {j : Nat} {v : Int32} (h : St e el d dl) (h1 : 0 ≤ v.toInt) (h2 : v.toInt ≤ 1) : St e el (u2 d 35 j v) dl := h.put h1 h2 rfl (by omega) (by omega)
theorem iv_36 {d : DD} (h : Inv d) (j : Nat) : 0 ≤ (d 36 j).toInt ∧ (d 36 j).toInt ≤ 1 := by
  have h1 := h.1 36 j
  exact h1
theorem pv_36 {e d : DD} {el dl : LL} {j : Nat} {v : Int32} (h : St e el d dl) (h1 : 0 ≤ v.toInt) (h2 : v.toInt ≤ 1) : St e el (u2 d 36 j v) dl := h.put h1 h2 rfl (by omega) (by omega)
theorem iv_211_0 {d : DD} (h : Inv d) : 0 ≤ (d 211 0).toInt ∧ (d 211 0).toInt ≤ 40 := by
  have h1 := h.1 211 0
  exact h1
theorem iv_211_1 {d : DD} (h : Inv d) : 0 ≤ (d 211 1).toInt ∧ (d 211 1).toInt ≤ 6 := by
  have h1 := h.1 211 1
  exact h1
theorem iv_211_2 {d : DD} (h : Inv d) : 0 ≤ (d 211 2).toInt ∧ (d 211 2).toInt ≤ 6 := by
  have h1 := h.1 211 2
  exact h1
theorem iv_211_3 {d : DD} (h : Inv d) : 0 ≤ (d 211 3).toInt ∧ (d 211 3).toInt ≤ 24 := by
  have h1 := h.1 211 3
  exact h1
theorem iv_211_4 {d : DD} (h : Inv d) : 0 ≤ (d 211 4).toInt ∧ (d 211 4).toInt ≤ 120 := by
  have h1 := h.1 211 4
  exact h1
theorem iv_211_5 {d : DD} (h : Inv d) : 0 ≤ (d 211 5).toInt ∧ (d 211 5).toInt ≤ 99 := by
  have h1 := h.1 211 5
  exact h1
theorem iv_211_7 {d : DD} (h : Inv d) : 0 ≤ (d 211 7).toInt ∧ (d 211 7).toInt ≤ 6 := by
  have h1 := h.1 211 7
  exact h1
theorem pv_211_7 {e d : DD} {el dl : LL} {v : Int32} (h : St e el d dl) (h1 : 0 ≤ v.toInt) (h2 : v.toInt ≤ 6) : St e el (u2 d 211 7 v) dl := h.put h1 h2 rfl (by omega) (by omega)
theorem pv_211_44 {e d : DD} {el dl : LL} {v : Int64} (h : St e el d dl) : St e el d (l2 dl 211 44 v) := h.putl rfl
theorem pv_211_45 {e d : DD} {el dl : LL} {v : Int64} (h : St e el d dl) : St e el d (l2 dl 211 45 v) := h.putl rfl
theorem iv_211_46 {d : DD} (h : Inv d) : 0 ≤ (d 211 46).toInt ∧ (d 211 46).toInt ≤ 120 := by
  have h1 := h.1 211 46
  exact h1
theorem pv_211_46 {e d : DD} {el dl : LL} {v : Int32} (h : St e el d dl) (h1 : 0 ≤ v.toInt) (h2 : v.toInt ≤ 120) : St e el (u2 d 211 46 v) dl := h.put h1 h2 rfl (by omega) (by omega)
theorem iv_211_47 {d : DD} (h : Inv d) : (-1) ≤ (d 211 47).toInt ∧ (d 211 47).toInt ≤ 121 := by
  have h1 := h.1 211 47
  exact h1
theorem pv_211_47 {e d : DD} {el dl : LL} {v : Int32} (h : St e el d dl) (h1 : (-1) ≤ v.toInt) (h2 : v.toInt ≤ 121) : St e el (u2 d 211 47 v) dl := h.put h1 h2 rfl (by omega) (by omega)
theorem iv_212 {d : DD} (h : Inv d) (j : Nat) : 0 ≤ (d 212 j).toInt ∧ (d 212 j).toInt ≤ 150 := by
  have h1 := h.1 212 j
  exact h1
theorem iv_213 {d : DD} (h : Inv d) (j : Nat) : 0 ≤ (d 213 j).toInt ∧ (d 213 j).toInt ≤ 99 := by
  have h1 := h.1 213 j
  exact h1
theorem iv_214 {d : DD} (h : Inv d) (j : Nat) : 0 ≤ (d 214 j).toInt ∧ (d 214 j).toInt ≤ 2 := by
  have h1 := h.1 214 j
  exact h1
theorem iv_215 {d : DD} (h : Inv d) (j : Nat) : 0 ≤ (d 215 j).toInt ∧ (d 215 j).toInt ≤ 1 := by
  have h1 := h.1 215 j
  exact h1
theorem iv_216 {d : DD} (h : Inv d) (j : Nat) : 0 ≤ (d 216 j).toInt ∧ (d 216 j).toInt ≤ 90 := by
  have h1 := h.1 216 j
  exact h1
theorem iv_217 {d : DD} (h : Inv d) (j : Nat) : 0 ≤ (d 217 j).toInt ∧ (d 217 j).toInt ≤ 1 := by
  have h1 := h.1 217 j
  exact h1
theorem iv_218 {d : DD} (h : Inv d) (j : Nat) : 0 ≤ (d 218 j).toInt ∧ (d 218 j).toInt ≤ 4 := by
  have h1 := h.1 218 j
  exact h1
theorem iv_219 {d : DD} (h : Inv d) (j : Nat) : 0 ≤ (d 219 j).toInt ∧ (d 219 j).toInt ≤ 150 := by
  have h1 := h.1 219 j
  exact h1
theorem iv_220 {d : DD} (h : Inv d) (j : Nat) : 0 ≤ (d 220 j).toInt ∧ (d 220 j).toInt ≤ 8 := by
  have h1 := h.1 220 j
  exact h1
theorem iv_221 {d : DD} (h : Inv d) (j : Nat) : 0 ≤ (d 221 j).toInt ∧ (d 221 j).toInt ≤ 9 := by
  have h1 := h.1 221 j
  exact h1
theorem iv_222 {d : DD} (h : Inv d) (j : Nat) : 0 ≤ (d 222 j).toInt ∧ (d 222 j).toInt ≤ 39 := by
  have h1 := h.1 222 j
  exact h1
theorem iv_223 {d : DD} (h : Inv d) (j : Nat) : 0 ≤ (d 223 j).toInt ∧ (d 223 j).toInt ≤ 39 := by
  have h1 := h.1 223 j
  exact h1
theorem iv_224 {d : DD} (h : Inv d) (j : Nat) : 0 ≤ (d 224 j).toInt ∧ (d 224 j).toInt ≤ 1 := by
  have h1 := h.1 224 j
  exact h1
theorem iv_226 {d : DD} (h : Inv d) (j : Nat) : 0 ≤ (d 226 j).toInt ∧ (d 226 j).toInt ≤ 8 := by
  have h1 := h.1 226 j
  exact h1
theorem iv_227 {d : DD} (h : Inv d) (j : Nat) : 0 ≤ (d 227 j).toInt ∧ (d 227 j).toInt ≤ 5 := by
  have h1 := h.1 227 j
  exact h1
theorem iv_230 {d : DD} (h : Inv d) (j : Nat) : 0 ≤ (d 230 j).toInt ∧ (d 230 j).toInt ≤ 1 := by
  have h1 := h.1 230 j
  exact h1
theorem iv_231 {d : DD} (h : Inv d) (j : Nat) : 0 ≤ (d 231 j).toInt ∧ (d 231 j).toInt ≤ 1 := by
  have h1 := h.1 231 j
  exact h1
theorem iv_232 {d : DD} (h : Inv d) (j : Nat) : 0 ≤ (d 232 j).toInt ∧ (d 232 j).toInt ≤ 999 := by
  have h1 := h.1 232 j
  exact h1
theorem iv_233 {d : DD} (h : Inv d) (j : Nat) : 0 ≤ (d 233 j).toInt ∧ (d 233 j).toInt ≤ 1 := by
  have h1 := h.1 233 j
  exact h1
theorem iv_234 {d : DD} (h : Inv d) (j : Nat) : (-1) ≤ (d 234 j).toInt ∧ (d 234 j).toInt ≤ 5 := by
  have h1 := h.1 234 j
  exact h1
theorem pv_236 {e d : DD} {el dl : LL} {j : Nat} {v : Int32} (h : St e el d dl) : St e el (u2 d 236 j v) dl := h.put (i_rg v).1 (i_rg v).2 rfl (by omega) (by omega)
theorem iv_237 {d : DD} (h : Inv d) (j : Nat) : 0 ≤ (d 237 j).toInt ∧ (d 237 j).toInt ≤ 1 := by
  have h1 := h.1 237 j
  exact h1
theorem pv_237 {e d : DD} {el dl : LL} {j : Nat} {v : Int32} (h : St e el d dl) (h1 : 0 ≤ v.toInt) (h2 : v.toInt ≤ 1) : St e el (u2 d 237 j v) dl := h.put h1 h2 rfl (by omega) (by omega)
theorem iv_238 {d : DD} (h : Inv d) (j : Nat) : 0 ≤ (d 238 j).toInt ∧ (d 238 j).toInt ≤ 1 := by
  have h1 := h.1 238 j
  exact h1
theorem pv_238 {e d : DD} {el dl : LL} {j : Nat} {v : Int32} (h : St e el d dl) (h1 : 0 ≤ v.toInt) (h2 : v.toInt ≤ 1) : St e el (u2 d 238 j v) dl := h.put h1 h2 rfl (by omega) (by omega)
theorem iv_239 {d : DD} (h : Inv d) (j : Nat) : (-1) ≤ (d 239 j).toInt ∧ (d 239 j).toInt ≤ 5 := by
  have h1 := h.1 239 j
  exact h1
theorem iv_241 {d : DD} (h : Inv d) (j : Nat) : 0 ≤ (d 241 j).toInt ∧ (d 241 j).toInt ≤ 5 := by
  have h1 := h.1 241 j
  exact h1
theorem pv_241 {e d : DD} {el dl : LL} {j : Nat} {v : Int32} (h : St e el d dl) (h1 : 0 ≤ v.toInt) (h2 : v.toInt ≤ 5) : St e el (u2 d 241 j v) dl := h.put h1 h2 rfl (by omega) (by omega)
theorem pv_242 {e d : DD} {el dl : LL} {j : Nat} {v : Int32} (h : St e el d dl) : St e el (u2 d 242 j v) dl := h.put (i_rg v).1 (i_rg v).2 rfl (by omega) (by omega)
theorem iv_243 {d : DD} (h : Inv d) (j : Nat) : 0 ≤ (d 243 j).toInt ∧ (d 243 j).toInt ≤ 1 := by
  have h1 := h.1 243 j
  exact h1
theorem pv_243 {e d : DD} {el dl : LL} {j : Nat} {v : Int32} (h : St e el d dl) (h1 : 0 ≤ v.toInt) (h2 : v.toInt ≤ 1) : St e el (u2 d 243 j v) dl := h.put h1 h2 rfl (by omega) (by omega)
theorem iv_244 {d : DD} (h : Inv d) (j : Nat) : (-1) ≤ (d 244 j).toInt ∧ (d 244 j).toInt ≤ 7 := by
  have h1 := h.1 244 j
  exact h1
theorem pv_244 {e d : DD} {el dl : LL} {j : Nat} {v : Int32} (h : St e el d dl) (h1 : (-1) ≤ v.toInt) (h2 : v.toInt ≤ 7) : St e el (u2 d 244 j v) dl := h.put h1 h2 rfl (by omega) (by omega)
theorem iv_245 {d : DD} (h : Inv d) (j : Nat) : 0 ≤ (d 245 j).toInt ∧ (d 245 j).toInt ≤ 39 := by
  have h1 := h.1 245 j
  exact h1
theorem pv_245 {e d : DD} {el dl : LL} {j : Nat} {v : Int32} (h : St e el d dl) (h1 : 0 ≤ v.toInt) (h2 : v.toInt ≤ 39) : St e el (u2 d 245 j v) dl := h.put h1 h2 rfl (by omega) (by omega)
theorem pv_246 {e d : DD} {el dl : LL} {j : Nat} {v : Int32} (h : St e el d dl) : St e el (u2 d 246 j v) dl := h.put (i_rg v).1 (i_rg v).2 rfl (by omega) (by omega)
theorem iv_247 {d : DD} (h : Inv d) (j : Nat) : 0 ≤ (d 247 j).toInt ∧ (d 247 j).toInt ≤ 39 := by
  have h1 := h.1 247 j
  exact h1
theorem pv_247 {e d : DD} {el dl : LL} {j : Nat} {v : Int32} (h : St e el d dl) (h1 : 0 ≤ v.toInt) (h2 : v.toInt ≤ 39) : St e el (u2 d 247 j v) dl := h.put h1 h2 rfl (by omega) (by omega)
theorem iv_37_0 {d : DD} (h : Inv d) {k : Nat} (hk : k < 6) : 2 ≤ (d (37 + 3 * k) 0).toInt ∧ (d (37 + 3 * k) 0).toInt ≤ 4 := by
  have h1 := h.1 (37 + 3 * k) 0
  rw [rg_37 hk] at h1
  exact h1
theorem iv_37_1 {d : DD} (h : Inv d) {k : Nat} (hk : k < 6) : 0 ≤ (d (37 + 3 * k) 1).toInt ∧ (d (37 + 3 * k) 1).toInt ≤ 150 := by
  have h1 := h.1 (37 + 3 * k) 1
  rw [rg_37 hk] at h1
  exact h1
theorem iv_37_2 {d : DD} (h : Inv d) {k : Nat} (hk : k < 6) : 1 ≤ (d (37 + 3 * k) 2).toInt ∧ (d (37 + 3 * k) 2).toInt ≤ 9 := by
  have h1 := h.1 (37 + 3 * k) 2
  rw [rg_37 hk] at h1
  exact h1
theorem iv_37_3 {d : DD} (h : Inv d) {k : Nat} (hk : k < 6) : 0 ≤ (d (37 + 3 * k) 3).toInt ∧ (d (37 + 3 * k) 3).toInt ≤ 8 := by
  have h1 := h.1 (37 + 3 * k) 3
  rw [rg_37 hk] at h1
  exact h1
theorem iv_37_6 {d : DD} (h : Inv d) {k : Nat} (hk : k < 6) : 0 ≤ (d (37 + 3 * k) 6).toInt ∧ (d (37 + 3 * k) 6).toInt ≤ 1 := by
  have h1 := h.1 (37 + 3 * k) 6
  rw [rg_37 hk] at h1
  exact h1
theorem iv_38 {d : DD} (h : Inv d) {k : Nat} (hk : k < 6) (j : Nat) : 0 ≤ (d (38 + 3 * k) j).toInt ∧ (d (38 + 3 * k) j).toInt ≤ 39 := by
  have h1 := h.1 (38 + 3 * k) j
  rw [rg_38 hk] at h1
  exact h1
theorem iv_39 {d : DD} (h : Inv d) {k : Nat} (hk : k < 6) (j : Nat) : 0 ≤ (d (39 + 3 * k) j).toInt ∧ (d (39 + 3 * k) j).toInt ≤ 39 := by
  have h1 := h.1 (39 + 3 * k) j
  rw [rg_39 hk] at h1
  exact h1
theorem iv_55_0 {d : DD} (h : Inv d) {k : Nat} (hk : k < 6) : 0 ≤ (d (55 + 6 * k) 0).toInt ∧ (d (55 + 6 * k) 0).toInt ≤ 8 := by
  have h1 := h.1 (55 + 6 * k) 0
  rw [rg_55 hk] at h1
  exact h1
theorem iv_56 {d : DD} (h : Inv d) {k : Nat} (hk : k < 6) (j : Nat) : 0 ≤ (d (56 + 6 * k) j).toInt ∧ (d (56 + 6 * k) j).toInt ≤ 1 := by
  have h1 := h.1 (56 + 6 * k) j
  rw [rg_56 hk] at h1
  exact h1
theorem iv_57 {d : DD} (h : Inv d) {k : Nat} (hk : k < 6) (j : Nat) : 0 ≤ (d (57 + 6 * k) j).toInt ∧ (d (57 + 6 * k) j).toInt ≤ 5 := by
  have h1 := h.1 (57 + 6 * k) j
  rw [rg_57 hk] at h1
  exact h1
theorem iv_60 {d : DD} (h : Inv d) {k : Nat} (hk : k < 6) (j : Nat) : 0 ≤ (d (60 + 6 * k) j).toInt ∧ (d (60 + 6 * k) j).toInt ≤ 1 := by
  have h1 := h.1 (60 + 6 * k) j
  rw [rg_60 hk] at h1
  exact h1
theorem iv_91_0 {d : DD} (h : Inv d) {k : Nat} (hk : k < 24) : 0 ≤ (d (91 + 5 * k) 0).toInt ∧ (d (91 + 5 * k) 0).toInt ≤ 999 := by
  have h1 := h.1 (91 + 5 * k) 0
  rw [rg_91 hk] at h1
  exact h1
theorem iv_91_1 {d : DD} (h : Inv d) {k : Nat} (hk : k < 24) : 0 ≤ (d (91 + 5 * k) 1).toInt ∧ (d (91 + 5 * k) 1).toInt ≤ 1 := by
  have h1 := h.1 (91 + 5 * k) 1
  rw [rg_91 hk] at h1
  exact h1
theorem iv_91_2 {d : DD} (h : Inv d) {k : Nat} (hk : k < 24) : 0 ≤ (d (91 + 5 * k) 2).toInt ∧ (d (91 + 5 * k) 2).toInt ≤ 1 := by
  have h1 := h.1 (91 + 5 * k) 2
  rw [rg_91 hk] at h1
  exact h1
theorem pv_91_2 {e d : DD} {el dl : LL} {v : Int32} (h : St e el d dl) {k : Nat} (hk : k < 24) (h1 : 0 ≤ v.toInt) (h2 : v.toInt ≤ 1) : St e el (u2 d (91 + 5 * k) 2 v) dl := h.put (by rw [rg_91 hk]; exact h1) (by rw [rg_91 hk]; exact h2) (by rw [rg_91 hk]; rfl) (by omega) (by omega)
theorem iv_92 {d : DD} (h : Inv d) {k : Nat} (hk : k < 24) (j : Nat) : (-1) ≤ (d (92 + 5 * k) j).toInt ∧ (d (92 + 5 * k) j).toInt ≤ 5 := by
  have h1 := h.1 (92 + 5 * k) j
  rw [rg_92 hk] at h1
  exact h1
theorem pv_93 {e d : DD} {el dl : LL} {j : Nat} {v : Int32} (h : St e el d dl) {k : Nat} (hk : k < 24) : St e el (u2 d (93 + 5 * k) j v) dl := h.put (by rw [rg_93 hk]; exact (i_rg v).1) (by rw [rg_93 hk]; exact (i_rg v).2) (by rw [rg_93 hk]; rfl) (by omega) (by omega)
theorem pv_94 {e d : DD} {el dl : LL} {j : Nat} {v : Int32} (h : St e el d dl) {k : Nat} (hk : k < 24) : St e el (u2 d (94 + 5 * k) j v) dl := h.put (by rw [rg_94 hk]; exact (i_rg v).1) (by rw [rg_94 hk]; exact (i_rg v).2) (by rw [rg_94 hk]; rfl) (by omega) (by omega)
theorem iv_95 {d : DD} (h : Inv d) {k : Nat} (hk : k < 24) (j : Nat) : 0 ≤ (d (95 + 5 * k) j).toInt ∧ (d (95 + 5 * k) j).toInt ≤ 1 := by
  have h1 := h.1 (95 + 5 * k) j
  rw [rg_95 hk] at h1
  exact h1
theorem pv_95 {e d : DD} {el dl : LL} {j : Nat} {v : Int32} (h : St e el d dl) {k : Nat} (hk : k < 24) (h1 : 0 ≤ v.toInt) (h2 : v.toInt ≤ 1) : St e el (u2 d (95 + 5 * k) j v) dl := h.put (by rw [rg_95 hk]; exact h1) (by rw [rg_95 hk]; exact h2) (by rw [rg_95 hk]; rfl) (by omega) (by omega)
theorem pv_235 {e d : DD} {el dl : LL} {j : Nat} {v : Int32} (h : St e el d dl) (h1 : v = 0 ∨ 0 ≤ (d 234 j).toInt) : St e el (u2 d 235 j v) dl := ⟨⟨InI2_put h.1.1 (i_rg v).1 (i_rg v).2, J1_time h.1.2 h1⟩, Keep_put h.2.1 rfl, h.2.2⟩
