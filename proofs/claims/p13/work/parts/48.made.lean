def W4 : Nat → Int32 := upd (upd (upd (upd (fun _ => 0) (0 : Int32).toNatClampNeg (-1)) (1 : Int32).toNatClampNeg (-1)) (2 : Int32).toNatClampNeg (-1)) (3 : Int32).toNatClampNeg (-1)
/-- the memory at the start -/
def d0 : DD := fun i => if i = 0 then (fun j => if j = 9 then 10 else 0) else if i = 28 then W4 else if i = 211 then (fun j => if j = 5 then 10 else 0) else if i = 239 then W4 else if 37 ≤ i ∧ i < 55 ∧ (i - 37) % 3 = 0 then (fun j => if j = 0 then 2 else if j = 2 then 4 else 0) else (fun _ => 0)
def l0 : LL := fun _ _ => 0
theorem d0_crew {i : Nat} (h1 : 37 ≤ i) (h2 : i < 55) (h3 : (i - 37) % 3 = 0) : d0 i = (fun j => if j = 0 then 2 else if j = 2 then 4 else 0) := by
  unfold d0
  rw [if_neg (by omega), if_neg (by omega), if_neg (by omega), if_neg (by omega), if_pos ⟨h1, h2, h3⟩]
theorem d0_z {i : Nat} (h0 : i ≠ 0) (h1 : i ≠ 28) (h2 : i ≠ 211) (h3 : i ≠ 239) (h4 : ¬ (37 ≤ i ∧ i < 55 ∧ (i - 37) % 3 = 0)) : d0 i = (fun _ => 0) := by
  unfold d0
  rw [if_neg h0, if_neg h1, if_neg h2, if_neg h3, if_neg h4]
theorem fam_crew_len : ∀ (k : Nat) (a : Nat → Nat) (ca : Nat → ClassId), (fam_crew k a ca).length = 3 * k := by
  intro k
  induction k with
  | zero => intros; rfl
  | succ k ih =>
    intro a ca
    rw [fam_crew, List.length_append, ih]
    show 3 * k + 3 = _
    omega
theorem el_crew_0 {m : Nat} (hm : m < 6) (a : Nat → Nat) (ca : Nat → ClassId) : CC a ca d0 l0 (37 + 3 * m) = .inr (1, [.int 2, .int 0, .int 4, .int 0, .ref (a (38 + 3 * m)), .long 0, .int 0, .ref (a (39 + 3 * m))]) := by
  rw [CC]
  rw [cc_1 (kd_crew_0 m hm).1, d0_crew (by omega) (by omega) (by omega)]
  rw [show 37 + 3 * m + 1 = 38 + 3 * m by omega, show 37 + 3 * m + 2 = 39 + 3 * m by omega]
  rfl
theorem el_crew_1 {m : Nat} (hm : m < 6) (a : Nat → Nat) (ca : Nat → ClassId) : CC a ca d0 l0 (38 + 3 * m) = .inl (ca (38 + 3 * m), 8, .inl (fun _ => 0)) := by
  rw [CC]
  rw [cc_11 (kd_crew_1 m hm).1, (kd_crew_1 m hm).2, d0_z (by omega) (by omega) (by omega) (by omega) (by omega)]
theorem el_crew_2 {m : Nat} (hm : m < 6) (a : Nat → Nat) (ca : Nat → ClassId) : CC a ca d0 l0 (39 + 3 * m) = .inl (ca (39 + 3 * m), 8, .inl (fun _ => 0)) := by
  rw [CC]
  rw [cc_11 (kd_crew_2 m hm).1, (kd_crew_2 m hm).2, d0_z (by omega) (by omega) (by omega) (by omega) (by omega)]
theorem fam_crew_get : ∀ (k : Nat) (a : Nat → Nat) (ca : Nat → ClassId), k ≤ 6 → ∀ i, i < 3 * k → (fam_crew k a ca)[i]? = some (a (37 + i), CC a ca d0 l0 (37 + i)) := by
  intro k
  induction k with
  | zero => intro a ca _ i hi; omega
  | succ k ih =>
    intro a ca hk i hi
    rw [fam_crew]
    by_cases h : i < 3 * k
    · rw [List.getElem?_append_left (by rw [fam_crew_len]; exact h)]
      exact ih a ca (by omega) i h
    · rw [List.getElem?_append_right (by rw [fam_crew_len]; omega), fam_crew_len]
      rcases (show i = 3 * k + 0 ∨ i = 3 * k + 1 ∨ i = 3 * k + 2 by omega) with rfl | rfl | rfl
      · rw [show 3 * k + 0 - 3 * k = 0 by omega, show 37 + (3 * k + 0) = 37 + 3 * k by omega, el_crew_0 (by omega)]
        rfl
      · rw [show 3 * k + 1 - 3 * k = 1 by omega, show 37 + (3 * k + 1) = 38 + 3 * k by omega, el_crew_1 (by omega)]
        rfl
      · rw [show 3 * k + 2 - 3 * k = 2 by omega, show 37 + (3 * k + 2) = 39 + 3 * k by omega, el_crew_2 (by omega)]
        rfl
theorem fam_rule_len : ∀ (k : Nat) (a : Nat → Nat) (ca : Nat → ClassId), (fam_rule k a ca).length = 6 * k := by
  intro k
  induction k with
  | zero => intros; rfl
  | succ k ih =>
    intro a ca
    rw [fam_rule, List.length_append, ih]
    show 6 * k + 6 = _
    omega
theorem el_rule_0 {m : Nat} (hm : m < 6) (a : Nat → Nat) (ca : Nat → ClassId) : CC a ca d0 l0 (55 + 6 * m) = .inr (5, [.int 0, .ref (a (56 + 6 * m)), .ref (a (57 + 6 * m)), .ref (a (58 + 6 * m)), .ref (a (59 + 6 * m)), .ref (a (60 + 6 * m))]) := by
  rw [CC]
  rw [cc_5 (kd_rule_0 m hm).1, d0_z (by omega) (by omega) (by omega) (by omega) (by omega)]
  rw [show 55 + 6 * m + 1 = 56 + 6 * m by omega, show 55 + 6 * m + 2 = 57 + 6 * m by omega, show 55 + 6 * m + 3 = 58 + 6 * m by omega, show 55 + 6 * m + 4 = 59 + 6 * m by omega, show 55 + 6 * m + 5 = 60 + 6 * m by omega]
theorem el_rule_1 {m : Nat} (hm : m < 6) (a : Nat → Nat) (ca : Nat → ClassId) : CC a ca d0 l0 (56 + 6 * m) = .inl (ca (56 + 6 * m), 8, .inl (fun _ => 0)) := by
  rw [CC]
  rw [cc_13 (kd_rule_1 m hm).1, (kd_rule_1 m hm).2, d0_z (by omega) (by omega) (by omega) (by omega) (by omega)]
theorem el_rule_2 {m : Nat} (hm : m < 6) (a : Nat → Nat) (ca : Nat → ClassId) : CC a ca d0 l0 (57 + 6 * m) = .inl (ca (57 + 6 * m), 8, .inl (fun _ => 0)) := by
  rw [CC]
  rw [cc_11 (kd_rule_2 m hm).1, (kd_rule_2 m hm).2, d0_z (by omega) (by omega) (by omega) (by omega) (by omega)]
theorem el_rule_3 {m : Nat} (hm : m < 6) (a : Nat → Nat) (ca : Nat → ClassId) : CC a ca d0 l0 (58 + 6 * m) = .inl (ca (58 + 6 * m), 8, .inl (fun _ => 0)) := by
  rw [CC]
  rw [cc_11 (kd_rule_3 m hm).1, (kd_rule_3 m hm).2, d0_z (by omega) (by omega) (by omega) (by omega) (by omega)]
theorem el_rule_4 {m : Nat} (hm : m < 6) (a : Nat → Nat) (ca : Nat → ClassId) : CC a ca d0 l0 (59 + 6 * m) = .inl (ca (59 + 6 * m), 8, .inl (fun _ => 0)) := by
  rw [CC]
  rw [cc_11 (kd_rule_4 m hm).1, (kd_rule_4 m hm).2, d0_z (by omega) (by omega) (by omega) (by omega) (by omega)]
theorem el_rule_5 {m : Nat} (hm : m < 6) (a : Nat → Nat) (ca : Nat → ClassId) : CC a ca d0 l0 (60 + 6 * m) = .inl (ca (60 + 6 * m), 8, .inl (fun _ => 0)) := by
  rw [CC]
  rw [cc_13 (kd_rule_5 m hm).1, (kd_rule_5 m hm).2, d0_z (by omega) (by omega) (by omega) (by omega) (by omega)]
theorem fam_rule_get : ∀ (k : Nat) (a : Nat → Nat) (ca : Nat → ClassId), k ≤ 6 → ∀ i, i < 6 * k → (fam_rule k a ca)[i]? = some (a (55 + i), CC a ca d0 l0 (55 + i)) := by
  intro k
  induction k with
  | zero => intro a ca _ i hi; omega
  | succ k ih =>
    intro a ca hk i hi
    rw [fam_rule]
    by_cases h : i < 6 * k
    · rw [List.getElem?_append_left (by rw [fam_rule_len]; exact h)]
      exact ih a ca (by omega) i h
    · rw [List.getElem?_append_right (by rw [fam_rule_len]; omega), fam_rule_len]
      rcases (show i = 6 * k + 0 ∨ i = 6 * k + 1 ∨ i = 6 * k + 2 ∨ i = 6 * k + 3 ∨ i = 6 * k + 4 ∨ i = 6 * k + 5 by omega) with rfl | rfl | rfl | rfl | rfl | rfl
      · rw [show 6 * k + 0 - 6 * k = 0 by omega, show 55 + (6 * k + 0) = 55 + 6 * k by omega, el_rule_0 (by omega)]
        rfl
      · rw [show 6 * k + 1 - 6 * k = 1 by omega, show 55 + (6 * k + 1) = 56 + 6 * k by omega, el_rule_1 (by omega)]
        rfl
      · rw [show 6 * k + 2 - 6 * k = 2 by omega, show 55 + (6 * k + 2) = 57 + 6 * k by omega, el_rule_2 (by omega)]
        rfl
      · rw [show 6 * k + 3 - 6 * k = 3 by omega, show 55 + (6 * k + 3) = 58 + 6 * k by omega, el_rule_3 (by omega)]
        rfl
      · rw [show 6 * k + 4 - 6 * k = 4 by omega, show 55 + (6 * k + 4) = 59 + 6 * k by omega, el_rule_4 (by omega)]
        rfl
      · rw [show 6 * k + 5 - 6 * k = 5 by omega, show 55 + (6 * k + 5) = 60 + 6 * k by omega, el_rule_5 (by omega)]
        rfl
theorem fam_race_len : ∀ (k : Nat) (a : Nat → Nat) (ca : Nat → ClassId), (fam_race k a ca).length = 5 * k := by
  intro k
  induction k with
  | zero => intros; rfl
  | succ k ih =>
    intro a ca
    rw [fam_race, List.length_append, ih]
    show 5 * k + 5 = _
    omega
theorem el_race_0 {m : Nat} (hm : m < 24) (a : Nat → Nat) (ca : Nat → ClassId) : CC a ca d0 l0 (91 + 5 * m) = .inr (3, [.int 0, .int 0, .int 0, .ref (a (92 + 5 * m)), .ref (a (93 + 5 * m)), .ref (a (94 + 5 * m)), .ref (a (95 + 5 * m))]) := by
  rw [CC]
  rw [cc_3 (kd_race_0 m hm).1, d0_z (by omega) (by omega) (by omega) (by omega) (by omega)]
  rw [show 91 + 5 * m + 1 = 92 + 5 * m by omega, show 91 + 5 * m + 2 = 93 + 5 * m by omega, show 91 + 5 * m + 3 = 94 + 5 * m by omega, show 91 + 5 * m + 4 = 95 + 5 * m by omega]
theorem el_race_1 {m : Nat} (hm : m < 24) (a : Nat → Nat) (ca : Nat → ClassId) : CC a ca d0 l0 (92 + 5 * m) = .inl (ca (92 + 5 * m), 4, .inl (fun _ => 0)) := by
  rw [CC]
  rw [cc_11 (kd_race_1 m hm).1, (kd_race_1 m hm).2, d0_z (by omega) (by omega) (by omega) (by omega) (by omega)]
theorem el_race_2 {m : Nat} (hm : m < 24) (a : Nat → Nat) (ca : Nat → ClassId) : CC a ca d0 l0 (93 + 5 * m) = .inl (ca (93 + 5 * m), 4, .inl (fun _ => 0)) := by
  rw [CC]
  rw [cc_11 (kd_race_2 m hm).1, (kd_race_2 m hm).2, d0_z (by omega) (by omega) (by omega) (by omega) (by omega)]
theorem el_race_3 {m : Nat} (hm : m < 24) (a : Nat → Nat) (ca : Nat → ClassId) : CC a ca d0 l0 (94 + 5 * m) = .inl (ca (94 + 5 * m), 4, .inl (fun _ => 0)) := by
  rw [CC]
  rw [cc_11 (kd_race_3 m hm).1, (kd_race_3 m hm).2, d0_z (by omega) (by omega) (by omega) (by omega) (by omega)]
theorem el_race_4 {m : Nat} (hm : m < 24) (a : Nat → Nat) (ca : Nat → ClassId) : CC a ca d0 l0 (95 + 5 * m) = .inl (ca (95 + 5 * m), 4, .inl (fun _ => 0)) := by
  rw [CC]
  rw [cc_13 (kd_race_4 m hm).1, (kd_race_4 m hm).2, d0_z (by omega) (by omega) (by omega) (by omega) (by omega)]
theorem fam_race_get : ∀ (k : Nat) (a : Nat → Nat) (ca : Nat → ClassId), k ≤ 24 → ∀ i, i < 5 * k → (fam_race k a ca)[i]? = some (a (91 + i), CC a ca d0 l0 (91 + i)) := by
  intro k
  induction k with
  | zero => intro a ca _ i hi; omega
  | succ k ih =>
    intro a ca hk i hi
    rw [fam_race]
    by_cases h : i < 5 * k
    · rw [List.getElem?_append_left (by rw [fam_race_len]; exact h)]
      exact ih a ca (by omega) i h
    · rw [List.getElem?_append_right (by rw [fam_race_len]; omega), fam_race_len]
      rcases (show i = 5 * k + 0 ∨ i = 5 * k + 1 ∨ i = 5 * k + 2 ∨ i = 5 * k + 3 ∨ i = 5 * k + 4 by omega) with rfl | rfl | rfl | rfl | rfl
      · rw [show 5 * k + 0 - 5 * k = 0 by omega, show 91 + (5 * k + 0) = 91 + 5 * k by omega, el_race_0 (by omega)]
        rfl
      · rw [show 5 * k + 1 - 5 * k = 1 by omega, show 91 + (5 * k + 1) = 92 + 5 * k by omega, el_race_1 (by omega)]
        rfl
      · rw [show 5 * k + 2 - 5 * k = 2 by omega, show 91 + (5 * k + 2) = 93 + 5 * k by omega, el_race_2 (by omega)]
        rfl
      · rw [show 5 * k + 3 - 5 * k = 3 by omega, show 91 + (5 * k + 3) = 94 + 5 * k by omega, el_race_3 (by omega)]
        rfl
      · rw [show 5 * k + 4 - 5 * k = 4 by omega, show 91 + (5 * k + 4) = 95 + 5 * k by omega, el_race_4 (by omega)]
        rfl
def gi (i : Nat) : Nat := ([0, 204, 205, 206, 207, 208, 209, 210, 159, 203, 189, 190, 191, 192, 193, 194, 195, 196, 197, 198, 199, 200, 201, 202, 187, 188, 122, 186, 185, 184, 1, 183, 178, 179, 180, 181, 182, 160, 161, 162, 163, 164, 165, 166, 167, 168, 169, 170, 171, 172, 173, 174, 175, 176, 177, 123, 124, 125, 126, 127, 128, 129, 130, 131, 132, 133, 134, 135, 136, 137, 138, 139, 140, 141, 142, 143, 144, 145, 146, 147, 148, 149, 150, 151, 152, 153, 154, 155, 156, 157, 158, 2, 3, 4, 5, 6, 7, 8, 9, 10, 11, 12, 13, 14, 15, 16, 17, 18, 19, 20, 21, 22, 23, 24, 25, 26, 27, 28, 29, 30, 31, 32, 33, 34, 35, 36, 37, 38, 39, 40, 41, 42, 43, 44, 45, 46, 47, 48, 49, 50, 51, 52, 53, 54, 55, 56, 57, 58, 59, 60, 61, 62, 63, 64, 65, 66, 67, 68, 69, 70, 71, 72, 73, 74, 75, 76, 77, 78, 79, 80, 81, 82, 83, 84, 85, 86, 87, 88, 89, 90, 91, 92, 93, 94, 95, 96, 97, 98, 99, 100, 101, 102, 103, 104, 105, 106, 107, 108, 109, 110, 111, 112, 113, 114, 115, 116, 117, 118, 119, 120, 121] : List Nat).getD i 0
def gj (i : Nat) : Nat := ([0, 30, 91, 92, 93, 94, 95, 96, 97, 98, 99, 100, 101, 102, 103, 104, 105, 106, 107, 108, 109, 110, 111, 112, 113, 114, 115, 116, 117, 118, 119, 120, 121, 122, 123, 124, 125, 126, 127, 128, 129, 130, 131, 132, 133, 134, 135, 136, 137, 138, 139, 140, 141, 142, 143, 144, 145, 146, 147, 148, 149, 150, 151, 152, 153, 154, 155, 156, 157, 158, 159, 160, 161, 162, 163, 164, 165, 166, 167, 168, 169, 170, 171, 172, 173, 174, 175, 176, 177, 178, 179, 180, 181, 182, 183, 184, 185, 186, 187, 188, 189, 190, 191, 192, 193, 194, 195, 196, 197, 198, 199, 200, 201, 202, 203, 204, 205, 206, 207, 208, 209, 210, 26, 55, 56, 57, 58, 59, 60, 61, 62, 63, 64, 65, 66, 67, 68, 69, 70, 71, 72, 73, 74, 75, 76, 77, 78, 79, 80, 81, 82, 83, 84, 85, 86, 87, 88, 89, 90, 8, 37, 38, 39, 40, 41, 42, 43, 44, 45, 46, 47, 48, 49, 50, 51, 52, 53, 54, 32, 33, 34, 35, 36, 31, 29, 28, 27, 24, 25, 10, 11, 12, 13, 14, 15, 16, 17, 18, 19, 20, 21, 22, 23, 9, 1, 2, 3, 4, 5, 6, 7] : List Nat).getD i 0
theorem gij : ∀ i, i < 211 → gj (gi i) = i := by decide +kernel
theorem gi_race : ∀ i, i < 120 → gi (91 + i) = 2 + i := by decide +kernel
theorem gi_rule : ∀ i, i < 36 → gi (55 + i) = 123 + i := by decide +kernel
theorem gi_crew : ∀ i, i < 18 → gi (37 + i) = 160 + i := by decide +kernel
def tl9 (a : Nat → Nat) (ca : Nat → ClassId) : va_W := [((a 32), .inr (2, [.int 0, .ref (a 33), .ref (a 34), .ref (a 35), .ref (a 36)])), ((a 33), .inl ((ca 33), 6, .inl (fun _ => 0))), ((a 34), .inl ((ca 34), 6, .inl (fun _ => 0))), ((a 35), .inl ((ca 35), 6, .inl (fun _ => 0))), ((a 36), .inl ((ca 36), 6, .inl (fun _ => 0))), ((a 31), .inr (0, [.int 0, .int 0])), ((a 29), .inl ((ca 29), 4, .inl (fun _ => 0))), ((a 28), .inl ((ca 28), 4, .inl (upd (upd (upd (upd (fun _ => 0) (0 : Int32).toNatClampNeg (-1)) (1 : Int32).toNatClampNeg (-1)) (2 : Int32).toNatClampNeg (-1)) (3 : Int32).toNatClampNeg (-1)))), ((a 27), .inl ((ca 27), 6, .inl (fun _ => 0))), ((a 24), .inr (7, [.int 0, .int 0, .ref (a 25)])), ((a 25), .inl ((ca 25), 120, .inl (fun _ => 0))), ((a 10), .inr (6, [.int 0, .int 0, .int 0, .int 0, .ref (a 11), .ref (a 12), .ref (a 13), .ref (a 14), .ref (a 15), .ref (a 16), .ref (a 17), .ref (a 18), .ref (a 19), .ref (a 20), .ref (a 21), .ref (a 22), .ref (a 23)])), ((a 11), .inl ((ca 11), 8, .inl (fun _ => 0))), ((a 12), .inl ((ca 12), 8, .inl (fun _ => 0))), ((a 13), .inl ((ca 13), 8, .inl (fun _ => 0))), ((a 14), .inl ((ca 14), 8, .inl (fun _ => 0))), ((a 15), .inl ((ca 15), 8, .inl (fun _ => 0))), ((a 16), .inl ((ca 16), 8, .inl (fun _ => 0))), ((a 17), .inl ((ca 17), 8, .inl (fun _ => 0))), ((a 18), .inl ((ca 18), 8, .inl (fun _ => 0))), ((a 19), .inl ((ca 19), 9, .inl (fun _ => 0))), ((a 20), .inl ((ca 20), 9, .inl (fun _ => 0))), ((a 21), .inl ((ca 21), 9, .inl (fun _ => 0))), ((a 22), .inl ((ca 22), 9, .inl (fun _ => 0))), ((a 23), .inl ((ca 23), 9, .inl (fun _ => 0))), ((a 9), .inr (8, [.int 0, .int 0, .int 0, .int 0])), ((a 1), .inr (4, [.int 0, .ref (a 2), .ref (a 3), .ref (a 4), .ref (a 5), .ref (a 6), .ref (a 7)])), ((a 2), .inl ((ca 2), 40, .inl (fun _ => 0))), ((a 3), .inl ((ca 3), 40, .inl (fun _ => 0))), ((a 4), .inl ((ca 4), 40, .inl (fun _ => 0))), ((a 5), .inl ((ca 5), 40, .inl (fun _ => 0))), ((a 6), .inl ((ca 6), 40, .inl (fun _ => 0))), ((a 7), .inl ((ca 7), 40, .inr (.inl (fun _ => 0))))]
def wo9 (a : Nat → Nat) (ca : Nat → ClassId) : va_W := [((a 0), .inr (9, [.ref (a 1), .ref (a 8), .int 0, .ref (a 9), .ref (a 10), .ref (a 24), .ref (a 26), .int 0, .ref (a 27), .int 10, .ref (a 28), .ref (a 29), .ref (a 30), .int 0, .ref (a 31), .ref (a 32)])), (a 30, .inl (ca 30, 24, .inr (.inr (.inr (.inr (row_race a 24))))))] ++ (fam_race 24 a ca ++ ((a 26, .inl (ca 26, 6, .inr (.inr (.inr (.inr (row_rule a 6)))))) :: (fam_rule 6 a ca ++ ((a 8, .inl (ca 8, 6, .inr (.inr (.inr (.inr (row_crew a 6)))))) :: (fam_crew 6 a ca ++ tl9 a ca)))))
theorem ga_r {α : Type} {l₁ l₂ : List α} {n : Nat} (h : l₁.length = n) (i : Nat) : (l₁ ++ l₂)[n + i]? = l₂[i]? := by
  rw [List.getElem?_append_right (by omega)]
  congr 1
  omega
theorem wo9_race (a : Nat → Nat) (ca : Nat → ClassId) (i : Nat) (h : i < 120) : (wo9 a ca)[2 + i]? = (fam_race 24 a ca)[i]? := by
  rw [wo9, ga_r (n := 2) rfl, List.getElem?_append_left (by rw [fam_race_len]; omega)]
theorem wo9_2 (a : Nat → Nat) (ca : Nat → ClassId) (i : Nat) : (wo9 a ca)[2 + (120 + i)]? = ((a 26, .inl (ca 26, 6, .inr (.inr (.inr (.inr (row_rule a 6)))))) :: (fam_rule 6 a ca ++ ((a 8, .inl (ca 8, 6, .inr (.inr (.inr (.inr (row_crew a 6)))))) :: (fam_crew 6 a ca ++ tl9 a ca))))[i]? := by
  rw [wo9, ga_r (n := 2) rfl, ga_r (n := 120) (fam_race_len 24 a ca)]
theorem wo9_r (a : Nat → Nat) (ca : Nat → ClassId) : (wo9 a ca)[122]? = some ((a 26, .inl (ca 26, 6, .inr (.inr (.inr (.inr (row_rule a 6))))))) := wo9_2 a ca 0
theorem wo9_rule (a : Nat → Nat) (ca : Nat → ClassId) (i : Nat) (h : i < 36) : (wo9 a ca)[123 + i]? = (fam_rule 6 a ca)[i]? := by
  rw [show 123 + i = 2 + (120 + (i + 1)) by omega, wo9_2, List.getElem?_cons_succ, List.getElem?_append_left (by rw [fam_rule_len]; omega)]
theorem wo9_3 (a : Nat → Nat) (ca : Nat → ClassId) (i : Nat) : (wo9 a ca)[159 + i]? = ((a 8, .inl (ca 8, 6, .inr (.inr (.inr (.inr (row_crew a 6)))))) :: (fam_crew 6 a ca ++ tl9 a ca))[i]? := by
  rw [show 159 + i = 2 + (120 + ((36 + i) + 1)) by omega, wo9_2, List.getElem?_cons_succ, ga_r (n := 36) (fam_rule_len 6 a ca)]
theorem wo9_c (a : Nat → Nat) (ca : Nat → ClassId) : (wo9 a ca)[159]? = some ((a 8, .inl (ca 8, 6, .inr (.inr (.inr (.inr (row_crew a 6))))))) := wo9_3 a ca 0
theorem wo9_t (a : Nat → Nat) (ca : Nat → ClassId) (i : Nat) : (wo9 a ca)[160 + i]? = (fam_crew 6 a ca ++ tl9 a ca)[i]? := by
  rw [show 160 + i = 159 + (i + 1) by omega, wo9_3, List.getElem?_cons_succ]
theorem wo9_crew (a : Nat → Nat) (ca : Nat → ClassId) (i : Nat) (h : i < 18) : (wo9 a ca)[160 + i]? = (fam_crew 6 a ca)[i]? := by
  rw [wo9_t, List.getElem?_append_left (by rw [fam_crew_len]; omega)]
theorem wo9_tl (a : Nat → Nat) (ca : Nat → ClassId) (i : Nat) : (wo9 a ca)[178 + i]? = (tl9 a ca)[i]? := by
  rw [show 178 + i = 160 + (18 + i) by omega, wo9_t, List.getElem?_append_right (by rw [fam_crew_len]; omega), fam_crew_len]
  congr 1
  omega
theorem w9_0 (a : Nat → Nat) (ca : Nat → ClassId) : (wo9 a ca)[gi 0]? = some (a 0, CC a ca d0 l0 0) := by
  rw [show gi 0 = 0 from rfl, CC, cc_9 (rfl : kd 0 = 9)]
  exact (rfl : (wo9 a ca)[0]? = _)
theorem w9_1 (a : Nat → Nat) (ca : Nat → ClassId) : (wo9 a ca)[gi 1]? = some (a 1, CC a ca d0 l0 1) := by
  rw [show gi 1 = 204 from rfl, CC, cc_4 (rfl : kd 1 = 4)]
  exact (wo9_tl a ca 26).trans rfl
theorem w9_2 (a : Nat → Nat) (ca : Nat → ClassId) : (wo9 a ca)[gi 2]? = some (a 2, CC a ca d0 l0 2) := by
  rw [show gi 2 = 205 from rfl, CC, cc_11 (rfl : kd 2 = 11), show d0 2 = (fun _ => 0) from rfl]
  exact (wo9_tl a ca 27).trans rfl
theorem w9_3 (a : Nat → Nat) (ca : Nat → ClassId) : (wo9 a ca)[gi 3]? = some (a 3, CC a ca d0 l0 3) := by
  rw [show gi 3 = 206 from rfl, CC, cc_11 (rfl : kd 3 = 11), show d0 3 = (fun _ => 0) from rfl]
  exact (wo9_tl a ca 28).trans rfl
theorem w9_4 (a : Nat → Nat) (ca : Nat → ClassId) : (wo9 a ca)[gi 4]? = some (a 4, CC a ca d0 l0 4) := by
  rw [show gi 4 = 207 from rfl, CC, cc_11 (rfl : kd 4 = 11), show d0 4 = (fun _ => 0) from rfl]
  exact (wo9_tl a ca 29).trans rfl
theorem w9_5 (a : Nat → Nat) (ca : Nat → ClassId) : (wo9 a ca)[gi 5]? = some (a 5, CC a ca d0 l0 5) := by
  rw [show gi 5 = 208 from rfl, CC, cc_11 (rfl : kd 5 = 11), show d0 5 = (fun _ => 0) from rfl]
  exact (wo9_tl a ca 30).trans rfl
theorem w9_6 (a : Nat → Nat) (ca : Nat → ClassId) : (wo9 a ca)[gi 6]? = some (a 6, CC a ca d0 l0 6) := by
  rw [show gi 6 = 209 from rfl, CC, cc_11 (rfl : kd 6 = 11), show d0 6 = (fun _ => 0) from rfl]
  exact (wo9_tl a ca 31).trans rfl
theorem w9_7 (a : Nat → Nat) (ca : Nat → ClassId) : (wo9 a ca)[gi 7]? = some (a 7, CC a ca d0 l0 7) := by
  rw [show gi 7 = 210 from rfl, CC, cc_12 (rfl : kd 7 = 12), show l0 7 = (fun _ => 0) from rfl]
  exact (wo9_tl a ca 32).trans rfl
theorem w9_8 (a : Nat → Nat) (ca : Nat → ClassId) : (wo9 a ca)[gi 8]? = some (a 8, CC a ca d0 l0 8) := by
  rw [show gi 8 = 159 from rfl, CC, cc_14 (rfl : kd 8 = 14)]
  exact wo9_c a ca
theorem w9_9 (a : Nat → Nat) (ca : Nat → ClassId) : (wo9 a ca)[gi 9]? = some (a 9, CC a ca d0 l0 9) := by
  rw [show gi 9 = 203 from rfl, CC, cc_8 (rfl : kd 9 = 8)]
  exact (wo9_tl a ca 25).trans rfl
theorem w9_10 (a : Nat → Nat) (ca : Nat → ClassId) : (wo9 a ca)[gi 10]? = some (a 10, CC a ca d0 l0 10) := by
  rw [show gi 10 = 189 from rfl, CC, cc_6 (rfl : kd 10 = 6)]
  exact (wo9_tl a ca 11).trans rfl
theorem w9_11 (a : Nat → Nat) (ca : Nat → ClassId) : (wo9 a ca)[gi 11]? = some (a 11, CC a ca d0 l0 11) := by
  rw [show gi 11 = 190 from rfl, CC, cc_11 (rfl : kd 11 = 11), show d0 11 = (fun _ => 0) from rfl]
  exact (wo9_tl a ca 12).trans rfl
theorem w9_12 (a : Nat → Nat) (ca : Nat → ClassId) : (wo9 a ca)[gi 12]? = some (a 12, CC a ca d0 l0 12) := by
  rw [show gi 12 = 191 from rfl, CC, cc_11 (rfl : kd 12 = 11), show d0 12 = (fun _ => 0) from rfl]
  exact (wo9_tl a ca 13).trans rfl
theorem w9_13 (a : Nat → Nat) (ca : Nat → ClassId) : (wo9 a ca)[gi 13]? = some (a 13, CC a ca d0 l0 13) := by
  rw [show gi 13 = 192 from rfl, CC, cc_11 (rfl : kd 13 = 11), show d0 13 = (fun _ => 0) from rfl]
  exact (wo9_tl a ca 14).trans rfl
theorem w9_14 (a : Nat → Nat) (ca : Nat → ClassId) : (wo9 a ca)[gi 14]? = some (a 14, CC a ca d0 l0 14) := by
  rw [show gi 14 = 193 from rfl, CC, cc_11 (rfl : kd 14 = 11), show d0 14 = (fun _ => 0) from rfl]
  exact (wo9_tl a ca 15).trans rfl
theorem w9_15 (a : Nat → Nat) (ca : Nat → ClassId) : (wo9 a ca)[gi 15]? = some (a 15, CC a ca d0 l0 15) := by
  rw [show gi 15 = 194 from rfl, CC, cc_11 (rfl : kd 15 = 11), show d0 15 = (fun _ => 0) from rfl]
  exact (wo9_tl a ca 16).trans rfl
theorem w9_16 (a : Nat → Nat) (ca : Nat → ClassId) : (wo9 a ca)[gi 16]? = some (a 16, CC a ca d0 l0 16) := by
  rw [show gi 16 = 195 from rfl, CC, cc_11 (rfl : kd 16 = 11), show d0 16 = (fun _ => 0) from rfl]
  exact (wo9_tl a ca 17).trans rfl
theorem w9_17 (a : Nat → Nat) (ca : Nat → ClassId) : (wo9 a ca)[gi 17]? = some (a 17, CC a ca d0 l0 17) := by
  rw [show gi 17 = 196 from rfl, CC, cc_11 (rfl : kd 17 = 11), show d0 17 = (fun _ => 0) from rfl]
  exact (wo9_tl a ca 18).trans rfl
theorem w9_18 (a : Nat → Nat) (ca : Nat → ClassId) : (wo9 a ca)[gi 18]? = some (a 18, CC a ca d0 l0 18) := by
  rw [show gi 18 = 197 from rfl, CC, cc_11 (rfl : kd 18 = 11), show d0 18 = (fun _ => 0) from rfl]
  exact (wo9_tl a ca 19).trans rfl
theorem w9_19 (a : Nat → Nat) (ca : Nat → ClassId) : (wo9 a ca)[gi 19]? = some (a 19, CC a ca d0 l0 19) := by
  rw [show gi 19 = 198 from rfl, CC, cc_11 (rfl : kd 19 = 11), show d0 19 = (fun _ => 0) from rfl]
  exact (wo9_tl a ca 20).trans rfl
theorem w9_20 (a : Nat → Nat) (ca : Nat → ClassId) : (wo9 a ca)[gi 20]? = some (a 20, CC a ca d0 l0 20) := by
  rw [show gi 20 = 199 from rfl, CC, cc_11 (rfl : kd 20 = 11), show d0 20 = (fun _ => 0) from rfl]
  exact (wo9_tl a ca 21).trans rfl
theorem w9_21 (a : Nat → Nat) (ca : Nat → ClassId) : (wo9 a ca)[gi 21]? = some (a 21, CC a ca d0 l0 21) := by
  rw [show gi 21 = 200 from rfl, CC, cc_11 (rfl : kd 21 = 11), show d0 21 = (fun _ => 0) from rfl]
  exact (wo9_tl a ca 22).trans rfl
theorem w9_22 (a : Nat → Nat) (ca : Nat → ClassId) : (wo9 a ca)[gi 22]? = some (a 22, CC a ca d0 l0 22) := by
  rw [show gi 22 = 201 from rfl, CC, cc_11 (rfl : kd 22 = 11), show d0 22 = (fun _ => 0) from rfl]
  exact (wo9_tl a ca 23).trans rfl
theorem w9_23 (a : Nat → Nat) (ca : Nat → ClassId) : (wo9 a ca)[gi 23]? = some (a 23, CC a ca d0 l0 23) := by
  rw [show gi 23 = 202 from rfl, CC, cc_11 (rfl : kd 23 = 11), show d0 23 = (fun _ => 0) from rfl]
  exact (wo9_tl a ca 24).trans rfl
theorem w9_24 (a : Nat → Nat) (ca : Nat → ClassId) : (wo9 a ca)[gi 24]? = some (a 24, CC a ca d0 l0 24) := by
  rw [show gi 24 = 187 from rfl, CC, cc_7 (rfl : kd 24 = 7)]
  exact (wo9_tl a ca 9).trans rfl
theorem w9_25 (a : Nat → Nat) (ca : Nat → ClassId) : (wo9 a ca)[gi 25]? = some (a 25, CC a ca d0 l0 25) := by
  rw [show gi 25 = 188 from rfl, CC, cc_11 (rfl : kd 25 = 11), show d0 25 = (fun _ => 0) from rfl]
  exact (wo9_tl a ca 10).trans rfl
theorem w9_26 (a : Nat → Nat) (ca : Nat → ClassId) : (wo9 a ca)[gi 26]? = some (a 26, CC a ca d0 l0 26) := by
  rw [show gi 26 = 122 from rfl, CC, cc_15 (rfl : kd 26 = 15)]
  exact wo9_r a ca
theorem w9_27 (a : Nat → Nat) (ca : Nat → ClassId) : (wo9 a ca)[gi 27]? = some (a 27, CC a ca d0 l0 27) := by
  rw [show gi 27 = 186 from rfl, CC, cc_11 (rfl : kd 27 = 11), show d0 27 = (fun _ => 0) from rfl]
  exact (wo9_tl a ca 8).trans rfl
theorem w9_28 (a : Nat → Nat) (ca : Nat → ClassId) : (wo9 a ca)[gi 28]? = some (a 28, CC a ca d0 l0 28) := by
  rw [show gi 28 = 185 from rfl, CC, cc_11 (rfl : kd 28 = 11), show d0 28 = W4 from rfl]
  exact (wo9_tl a ca 7).trans rfl
theorem w9_29 (a : Nat → Nat) (ca : Nat → ClassId) : (wo9 a ca)[gi 29]? = some (a 29, CC a ca d0 l0 29) := by
  rw [show gi 29 = 184 from rfl, CC, cc_11 (rfl : kd 29 = 11), show d0 29 = (fun _ => 0) from rfl]
  exact (wo9_tl a ca 6).trans rfl
theorem w9_30 (a : Nat → Nat) (ca : Nat → ClassId) : (wo9 a ca)[gi 30]? = some (a 30, CC a ca d0 l0 30) := by
  rw [show gi 30 = 1 from rfl, CC, cc_16 (rfl : kd 30 = 16)]
  exact (rfl : (wo9 a ca)[1]? = _)
theorem w9_31 (a : Nat → Nat) (ca : Nat → ClassId) : (wo9 a ca)[gi 31]? = some (a 31, CC a ca d0 l0 31) := by
  rw [show gi 31 = 183 from rfl, CC, cc_0 (rfl : kd 31 = 0)]
  exact (wo9_tl a ca 5).trans rfl
theorem w9_32 (a : Nat → Nat) (ca : Nat → ClassId) : (wo9 a ca)[gi 32]? = some (a 32, CC a ca d0 l0 32) := by
  rw [show gi 32 = 178 from rfl, CC, cc_2 (rfl : kd 32 = 2)]
  exact (wo9_tl a ca 0).trans rfl
theorem w9_33 (a : Nat → Nat) (ca : Nat → ClassId) : (wo9 a ca)[gi 33]? = some (a 33, CC a ca d0 l0 33) := by
  rw [show gi 33 = 179 from rfl, CC, cc_11 (rfl : kd 33 = 11), show d0 33 = (fun _ => 0) from rfl]
  exact (wo9_tl a ca 1).trans rfl
theorem w9_34 (a : Nat → Nat) (ca : Nat → ClassId) : (wo9 a ca)[gi 34]? = some (a 34, CC a ca d0 l0 34) := by
  rw [show gi 34 = 180 from rfl, CC, cc_11 (rfl : kd 34 = 11), show d0 34 = (fun _ => 0) from rfl]
  exact (wo9_tl a ca 2).trans rfl
theorem w9_35 (a : Nat → Nat) (ca : Nat → ClassId) : (wo9 a ca)[gi 35]? = some (a 35, CC a ca d0 l0 35) := by
  rw [show gi 35 = 181 from rfl, CC, cc_13 (rfl : kd 35 = 13), show d0 35 = (fun _ => 0) from rfl]
  exact (wo9_tl a ca 3).trans rfl
theorem w9_36 (a : Nat → Nat) (ca : Nat → ClassId) : (wo9 a ca)[gi 36]? = some (a 36, CC a ca d0 l0 36) := by
  rw [show gi 36 = 182 from rfl, CC, cc_13 (rfl : kd 36 = 13), show d0 36 = (fun _ => 0) from rfl]
  exact (wo9_tl a ca 4).trans rfl
theorem wo9_at (a : Nat → Nat) (ca : Nat → ClassId) : ∀ i, i < 211 → (wo9 a ca)[gi i]? = some (a i, CC a ca d0 l0 i) := by
  intro i hi
  by_cases h1 : 91 ≤ i
  · obtain ⟨j, rfl⟩ : ∃ j, i = 91 + j := ⟨i - 91, by omega⟩
    rw [gi_race j (by omega), wo9_race a ca j (by omega), fam_race_get 24 a ca (Nat.le_refl _) j (by omega)]
  by_cases h2 : 55 ≤ i
  · obtain ⟨j, rfl⟩ : ∃ j, i = 55 + j := ⟨i - 55, by omega⟩
    rw [gi_rule j (by omega), wo9_rule a ca j (by omega), fam_rule_get 6 a ca (Nat.le_refl _) j (by omega)]
  by_cases h3 : 37 ≤ i
  · obtain ⟨j, rfl⟩ : ∃ j, i = 37 + j := ⟨i - 37, by omega⟩
    rw [gi_crew j (by omega), wo9_crew a ca j (by omega), fam_crew_get 6 a ca (Nat.le_refl _) j (by omega)]
  match i, h3 with
  | 0, _ => exact w9_0 a ca
  | 1, _ => exact w9_1 a ca
  | 2, _ => exact w9_2 a ca
  | 3, _ => exact w9_3 a ca
  | 4, _ => exact w9_4 a ca
  | 5, _ => exact w9_5 a ca
  | 6, _ => exact w9_6 a ca
  | 7, _ => exact w9_7 a ca
  | 8, _ => exact w9_8 a ca
  | 9, _ => exact w9_9 a ca
  | 10, _ => exact w9_10 a ca
  | 11, _ => exact w9_11 a ca
  | 12, _ => exact w9_12 a ca
  | 13, _ => exact w9_13 a ca
  | 14, _ => exact w9_14 a ca
  | 15, _ => exact w9_15 a ca
  | 16, _ => exact w9_16 a ca
  | 17, _ => exact w9_17 a ca
  | 18, _ => exact w9_18 a ca
  | 19, _ => exact w9_19 a ca
  | 20, _ => exact w9_20 a ca
  | 21, _ => exact w9_21 a ca
  | 22, _ => exact w9_22 a ca
  | 23, _ => exact w9_23 a ca
  | 24, _ => exact w9_24 a ca
  | 25, _ => exact w9_25 a ca
  | 26, _ => exact w9_26 a ca
  | 27, _ => exact w9_27 a ca
  | 28, _ => exact w9_28 a ca
  | 29, _ => exact w9_29 a ca
  | 30, _ => exact w9_30 a ca
  | 31, _ => exact w9_31 a ca
  | 32, _ => exact w9_32 a ca
  | 33, _ => exact w9_33 a ca
  | 34, _ => exact w9_34 a ca
  | 35, _ => exact w9_35 a ca
  | 36, _ => exact w9_36 a ca
  | n + 37, h3 => exact absurd (Nat.le_add_left 37 n) h3
theorem wo9_pw {D : va_G} {H : Heap} {a : Nat → Nat} {ca : Nat → ClassId} (hP : va_P D vwCl (wo9 a ca) H) : va_P D vwCl (pw 211 a (CC a ca d0 l0)) H :=
  hP.by gi (fun k q hk => by obtain ⟨h1, rfl⟩ := pw_some hk; exact wo9_at a ca k h1)
theorem wo9_dw {A : Nat → Prop} {a : Nat → Nat} {ca : Nat → ClassId} (hD : va_D A (wo9 a ca)) : va_D A (pw 211 a (CC a ca d0 l0)) :=
  hD.by gi (fun k q hk => by obtain ⟨h1, rfl⟩ := pw_some hk; exact wo9_at a ca k h1) (fun i j hi hj h => by
    rw [pw_len] at hi hj
    have := congrArg gj h
    rwa [gij i hi, gij j hj] at this)
