/-- the element type of row i (of a cell that is no row: int, so that cA i may be any int row's class) -/
def ety (i : Nat) : FieldType := if kd i = 12 then .long else if kd i = 13 then .boolean else if kd i = 14 then .object RX1 else if kd i = 15 then .object RX5 else if kd i = 16 then .object RX3 else .int
def tysW (cA : Nat → ClassId) : List (ClassId × FieldType) := (List.range 248).map (fun i => (cA i, ety i))
theorem ty_at {cA : Nat → ClassId} {i : Nat} (hi : i < 248) : (tysW cA)[i]? = some (cA i, ety i) := by simp [tysW, hi]
theorem ty_11 {cA : Nat → ClassId} {i : Nat} (hi : i < 248) (h : kd i = 11) : (tysW cA)[i]? = some (cA i, .int) := by rw [ty_at hi]; simp [ety, h]
theorem ty_12 {cA : Nat → ClassId} {i : Nat} (hi : i < 248) (h : kd i = 12) : (tysW cA)[i]? = some (cA i, .long) := by rw [ty_at hi]; simp [ety, h]
theorem ty_13 {cA : Nat → ClassId} {i : Nat} (hi : i < 248) (h : kd i = 13) : (tysW cA)[i]? = some (cA i, .boolean) := by rw [ty_at hi]; simp [ety, h]
theorem ty_14 {cA : Nat → ClassId} {i : Nat} (hi : i < 248) (h : kd i = 14) : (tysW cA)[i]? = some (cA i, .object RX1) := by rw [ty_at hi]; simp [ety, h]
theorem ty_15 {cA : Nat → ClassId} {i : Nat} (hi : i < 248) (h : kd i = 15) : (tysW cA)[i]? = some (cA i, .object RX5) := by rw [ty_at hi]; simp [ety, h]
theorem ty_16 {cA : Nat → ClassId} {i : Nat} (hi : i < 248) (h : kd i = 16) : (tysW cA)[i]? = some (cA i, .object RX3) := by rw [ty_at hi]; simp [ety, h]
/-- the cells of the pool, and all that come from sz on -/
def AA (ad : Nat → Nat) (sz : Nat) : Nat → Prop := fun q => (∃ i, i < 248 ∧ q = ad i) ∨ sz ≤ q
theorem pw_some {n : Nat} {ad : Nat → Nat} {C : Nat → va_E} {k : Nat} {q : Nat × va_E} (h : (pw n ad C)[k]? = some q) : k < n ∧ q = (ad k, C k) := by
  have hk : k < n := by
    have := (List.getElem?_eq_some_iff.mp h).1
    rwa [pw_len] at this
  rw [pw_get hk] at h
  exact ⟨hk, (Option.some.inj h).symm⟩
theorem AA_D {ad : Nat → Nat} {C : Nat → va_E} {sz : Nat} {A : Nat → Prop} (h : va_D A (pw 248 ad C)) : va_D (AA ad sz) (pw 248 ad C) :=
  ⟨h.1, fun k q hk => by obtain ⟨h1, rfl⟩ := pw_some hk; exact Or.inl ⟨k, h1, rfl⟩⟩
theorem D_any {n : Nat} {ad : Nat → Nat} {C C2 : Nat → va_E} {A : Nat → Prop} (h : va_D A (pw n ad C)) : va_D A (pw n ad C2) := by
  refine ⟨fun i j p q hi hj e => ?_, fun k q hk => ?_⟩
  · obtain ⟨h1, rfl⟩ := pw_some hi
    obtain ⟨h2, rfl⟩ := pw_some hj
    exact h.1 i j (ad i, C i) (ad j, C j) (pw_get h1) (pw_get h2) e
  · obtain ⟨h1, rfl⟩ := pw_some hk
    exact h.2 k (ad k, C k) (pw_get h1)
theorem AA_free {ad : Nat → Nat} {H0 H : Heap} {locs : List Loc} (hS : va_S (AA ad H0.size) H0 H locs) : ∀ q, AA ad H.size q → AA ad H0.size q :=
  fun q h => h.elim Or.inl (fun h1 => Or.inr (Nat.le_trans hS.1 h1))
/-- every int of the memory lies in its interval -/
def InI (bl bh : Nat → Nat → Int) (d : Nat → Nat → Int32) : Prop := ∀ i j, bl i j ≤ (d i j).toInt ∧ (d i j).toInt ≤ bh i j
theorem InI_put {bl bh : Nat → Nat → Int} {d : Nat → Nat → Int32} {i j : Nat} {v : Int32} (h : InI bl bh d) (h1 : bl i j ≤ v.toInt) (h2 : v.toInt ≤ bh i j) : InI bl bh (u2 d i j v) := by
  intro a b
  by_cases hab : a = i ∧ b = j
  · obtain ⟨rfl, rfl⟩ := hab
    rw [u2_eq]
    exact ⟨h1, h2⟩
  · rw [u2_ne (by
      by_cases ha : a = i
      · exact Or.inr (fun hb => hab ⟨ha, hb⟩)
      · exact Or.inl ha)]
    exact h a b
