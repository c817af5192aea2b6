theorem sw18 (x : Int32) (h : 1 ≤ x.toInt ∧ x.toInt ≤ 8) : x = 1 ∨ x = 2 ∨ x = 3 ∨ x = 4 ∨ x = 5 ∨ x = 6 ∨ x = 7 ∨ x = 8 := by
  rcases (show x.toInt = 1 ∨ x.toInt = 2 ∨ x.toInt = 3 ∨ x.toInt = 4 ∨ x.toInt = 5 ∨ x.toInt = 6 ∨ x.toInt = 7 ∨ x.toInt = 8 by omega) with h | h | h | h | h | h | h | h
  · have h1 : x = 1 := Int32.toInt_inj.mp h
    simp [h1]
  · have h1 : x = 2 := Int32.toInt_inj.mp h
    simp [h1]
  · have h1 : x = 3 := Int32.toInt_inj.mp h
    simp [h1]
  · have h1 : x = 4 := Int32.toInt_inj.mp h
    simp [h1]
  · have h1 : x = 5 := Int32.toInt_inj.mp h
    simp [h1]
  · have h1 : x = 6 := Int32.toInt_inj.mp h
    simp [h1]
  · have h1 : x = 7 := Int32.toInt_inj.mp h
    simp [h1]
  · have h1 : x = 8 := Int32.toInt_inj.mp h
    simp [h1]
