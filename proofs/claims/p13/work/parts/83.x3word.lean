theorem ex_hd {g : Nat → Int32} {c : Int32} {cs : List Int32} {p q : Nat} (h : ex g (c :: cs) p = (true, q)) : g p = c ∧ ex g cs (p + 1) = (true, q) := by
  by_cases hc : g p = c
  · rw [ex_y hc] at h
    exact ⟨hc, h⟩
  · rw [ex_n hc] at h
    exact absurd (show false = true from congrArg Prod.fst h) (by decide)
theorem tsW_y {g : Nat → Int32} {w : List Int32} {p q : Nat} (h : ex g w p = (true, q)) : tsW g w p = tsS g q := by
  unfold tsW
  rw [h]
  rfl
theorem tsW_n {g : Nat → Int32} {w : List Int32} {p q : Nat} (h : ex g w p = (false, q)) : tsW g w p = (false, q) := by
  unfold tsW
  rw [h]
  rfl
theorem s0 : sbs 0 = [109, 101, 110] := rfl
theorem s1 : sbs 1 = [119, 111, 109, 101, 110] := rfl
theorem s2 : sbs 2 = [111, 108, 100] := rfl
theorem s3 : sbs 3 = [121, 111, 117, 110, 103] := rfl
theorem s4 : sbs 4 = [119, 101, 105, 103, 104, 116] := rfl
theorem s5 : sbs 5 = [99, 114, 101, 119] := rfl
theorem s6 : sbs 6 = [110, 111, 116] := rfl
theorem s7 : sbs 7 = [111, 114] := rfl
theorem s8 : sbs 8 = [97, 110, 100] := rfl
theorem s9 : sbs 9 = sbs 6 ++ [32] := rfl
theorem s10 : sbs 10 = sbs 0 := rfl
theorem s11 : sbs 11 = sbs 1 := rfl
theorem s12 : sbs 12 = sbs 2 := rfl
theorem s13 : sbs 13 = sbs 3 := rfl
theorem s14 : sbs 14 = sbs 4 := rfl
theorem s15 : sbs 15 = sbs 5 := rfl
theorem s17 : sbs 17 = sbs 7 ++ [32] := rfl
theorem s18 : sbs 18 = sbs 8 ++ [32] := rfl
theorem tsF_w {g : Nat → Int32} {p : Nat} (h : g p = 119) (h2 : g (p + 1) = 101) : tsF g p = tsW g (sbs 4) p := by
  unfold tsF
  rw [if_pos h, if_pos h2, s14]
theorem tsF_v {g : Nat → Int32} {p : Nat} (h : g p = 119) (h2 : g (p + 1) = 111) : tsF g p = tsW g (sbs 1) p := by
  unfold tsF
  rw [if_pos h, if_neg (by rw [h2]; decide), if_pos h2, s11]
theorem tsF_m {g : Nat → Int32} {p : Nat} (h : g p = 109) : tsF g p = tsW g (sbs 0) p := by
  unfold tsF
  rw [if_neg (by rw [h]; decide), if_pos h, s10]
theorem tsF_o {g : Nat → Int32} {p : Nat} (h : g p = 111) : tsF g p = tsW g (sbs 2) p := by
  unfold tsF
  rw [if_neg (by rw [h]; decide), if_neg (by rw [h]; decide), if_pos h, s12]
theorem tsF_y {g : Nat → Int32} {p : Nat} (h : g p = 121) : tsF g p = tsW g (sbs 3) p := by
  unfold tsF
  rw [if_neg (by rw [h]; decide), if_neg (by rw [h]; decide), if_neg (by rw [h]; decide), if_pos h, s13]
theorem tsF_c {g : Nat → Int32} {p : Nat} (h1 : ¬ g p = 119) (h2 : ¬ g p = 109) (h3 : ¬ g p = 111) (h4 : ¬ g p = 121) : tsF g p = tsW g (sbs 5) p := by
  unfold tsF
  rw [if_neg h1, if_neg h2, if_neg h3, if_neg h4, s15]
theorem word05y {g : Nat → Int32} {p q v : Nat} (hv : v ≤ 5) (h : ex g (sbs v) p = (true, q)) : tsF g p = tsS g q := by
  have hc : v = 0 ∨ v = 1 ∨ v = 2 ∨ v = 3 ∨ v = 4 ∨ v = 5 := by omega
  rcases hc with rfl | rfl | rfl | rfl | rfl | rfl
  · rw [tsF_m (ex_hd h).1]; exact tsW_y h
  · rw [tsF_v (ex_hd h).1 (ex_hd (ex_hd h).2).1]; exact tsW_y h
  · rw [tsF_o (ex_hd h).1]; exact tsW_y h
  · rw [tsF_y (ex_hd h).1]; exact tsW_y h
  · rw [tsF_w (ex_hd h).1 (ex_hd (ex_hd h).2).1]; exact tsW_y h
  · have e : g p = 99 := (ex_hd h).1
    rw [tsF_c (by rw [e]; decide) (by rw [e]; decide) (by rw [e]; decide) (by rw [e]; decide)]; exact tsW_y h
theorem word05n {g : Nat → Int32} {p q : Nat} (h1 : ∀ v, v ≤ 5 → (ex g (sbs v) p).1 = false ∧ (ex g (sbs v) p).2 ≤ q) (h2 : ∃ v, v ≤ 5 ∧ (ex g (sbs v) p).2 = q) : tsF g p = (false, q) := by
  have f0 := h1 0 (by omega)
  have f1 := h1 1 (by omega)
  have f2 := h1 2 (by omega)
  have f3 := h1 3 (by omega)
  have f4 := h1 4 (by omega)
  have f5 := h1 5 (by omega)
  have g0 := ex_ge (g := g) (sbs 0) p
  have g1 := ex_ge (g := g) (sbs 1) p
  have g2 := ex_ge (g := g) (sbs 2) p
  have g3 := ex_ge (g := g) (sbs 3) p
  have g4 := ex_ge (g := g) (sbs 4) p
  have g5 := ex_ge (g := g) (sbs 5) p
  have n0 : ¬ g p = 109 → (ex g (sbs 0) p).2 = p := fun h => by rw [s0, ex_n h]
  have n1 : ¬ g p = 119 → (ex g (sbs 1) p).2 = p := fun h => by rw [s1, ex_n h]
  have n2 : ¬ g p = 111 → (ex g (sbs 2) p).2 = p := fun h => by rw [s2, ex_n h]
  have n3 : ¬ g p = 121 → (ex g (sbs 3) p).2 = p := fun h => by rw [s3, ex_n h]
  have n4 : ¬ g p = 119 → (ex g (sbs 4) p).2 = p := fun h => by rw [s4, ex_n h]
  have n5 : ¬ g p = 99 → (ex g (sbs 5) p).2 = p := fun h => by rw [s5, ex_n h]
  obtain ⟨v, hv, e⟩ := h2
  have hc : v = 0 ∨ v = 1 ∨ v = 2 ∨ v = 3 ∨ v = 4 ∨ v = 5 := by omega
  have h2 : (ex g (sbs 0) p).2 = q ∨ (ex g (sbs 1) p).2 = q ∨ (ex g (sbs 2) p).2 = q ∨ (ex g (sbs 3) p).2 = q ∨ (ex g (sbs 4) p).2 = q ∨ (ex g (sbs 5) p).2 = q := by
    rcases hc with rfl | rfl | rfl | rfl | rfl | rfl
    · exact Or.inl e
    · exact Or.inr (Or.inl e)
    · exact Or.inr (Or.inr (Or.inl e))
    · exact Or.inr (Or.inr (Or.inr (Or.inl e)))
    · exact Or.inr (Or.inr (Or.inr (Or.inr (Or.inl e))))
    · exact Or.inr (Or.inr (Or.inr (Or.inr (Or.inr e))))
  clear h1 e hc hv
  by_cases w : g p = 119
  · have a0 := n0 (by rw [w]; decide)
    have a2 := n2 (by rw [w]; decide)
    have a3 := n3 (by rw [w]; decide)
    have a5 := n5 (by rw [w]; decide)
    clear n0 n1 n2 n3 n4 n5
    by_cases w1 : g (p + 1) = 101
    · rw [tsF_w w w1]
      refine tsW_n (ex_eq f4.1 ?_)
      have a1 : (ex g (sbs 1) p).2 = p + 1 := by rw [s1, ex_y w, ex_n (by rw [w1]; decide)]
      have b4 : p + 2 ≤ (ex g (sbs 4) p).2 := by rw [s4, ex_y w, ex_y w1]; exact ex_ge _ _
      omega
    · by_cases w2 : g (p + 1) = 111
      · rw [tsF_v w w2]
        refine tsW_n (ex_eq f1.1 ?_)
        have a4 : (ex g (sbs 4) p).2 = p + 1 := by rw [s4, ex_y w, ex_n w1]
        have b1 : p + 2 ≤ (ex g (sbs 1) p).2 := by rw [s1, ex_y w, ex_y w2]; exact ex_ge _ _
        omega
      · have a4 : (ex g (sbs 4) p).2 = p + 1 := by rw [s4, ex_y w, ex_n w1]
        have a1 : (ex g (sbs 1) p).2 = p + 1 := by rw [s1, ex_y w, ex_n w2]
        have hq : q = p + 1 := by omega
        unfold tsF
        rw [if_pos w, if_neg w1, if_neg w2, hq]
  have a1 := n1 w
  have a4 := n4 w
  by_cases m : g p = 109
  · have a2 := n2 (by rw [m]; decide)
    have a3 := n3 (by rw [m]; decide)
    have a5 := n5 (by rw [m]; decide)
    clear n0 n1 n2 n3 n4 n5
    rw [tsF_m m]
    exact tsW_n (ex_eq f0.1 (by omega))
  have a0 := n0 m
  by_cases o : g p = 111
  · have a3 := n3 (by rw [o]; decide)
    have a5 := n5 (by rw [o]; decide)
    clear n0 n1 n2 n3 n4 n5
    rw [tsF_o o]
    exact tsW_n (ex_eq f2.1 (by omega))
  have a2 := n2 o
  by_cases y : g p = 121
  · have a5 := n5 (by rw [y]; decide)
    clear n0 n1 n2 n3 n4 n5
    rw [tsF_y y]
    exact tsW_n (ex_eq f3.1 (by omega))
  have a3 := n3 y
  clear n0 n1 n2 n3 n4 n5
  rw [tsF_c w m o y]
  exact tsW_n (ex_eq f5.1 (by omega))
theorem tst_f {g : Nat → Int32} {p : Nat} (h : ¬ g p = 110) : tst g p = tsF g p := if_neg h
theorem tst_6 {g : Nat → Int32} {p q : Nat} (h : ex g (sbs 6) p = (true, q)) : tst g p = if g q = 32 then tsF g (q + 1) else (false, q) := by
  unfold tst
  rw [if_pos (ex_hd h).1, s9, ex_app, h]
  show (if (if true = true then (if g q = 32 then (true, q + 1) else (false, q)) else _ : Bool × Nat).1 = true then _ else _) = _
  rw [if_pos rfl]
  by_cases e : g q = 32
  · rw [if_pos e, if_pos e]; rfl
  · rw [if_neg e, if_neg e]; rfl
theorem word06y {g : Nat → Int32} {p q v : Nat} (hv : v ≤ 5) (h : ex g (sbs v) p = (true, q)) : tst g p = tsS g q := by
  rw [tst_f, word05y hv h]
  have hc : v = 0 ∨ v = 1 ∨ v = 2 ∨ v = 3 ∨ v = 4 ∨ v = 5 := by omega
  rcases hc with rfl | rfl | rfl | rfl | rfl | rfl <;> rw [(ex_hd h).1] <;> decide
theorem word06n {g : Nat → Int32} {p q : Nat} (h1 : ∀ v, v ≤ 6 → (ex g (sbs v) p).1 = false ∧ (ex g (sbs v) p).2 ≤ q) (h2 : ∃ v, v ≤ 6 ∧ (ex g (sbs v) p).2 = q) : tst g p = (false, q) := by
  by_cases n : g p = 110
  · have o : ∀ v, v ≤ 5 → (ex g (sbs v) p).2 = p := by
      intro v hv
      have hc : v = 0 ∨ v = 1 ∨ v = 2 ∨ v = 3 ∨ v = 4 ∨ v = 5 := by omega
      rcases hc with rfl | rfl | rfl | rfl | rfl | rfl
      · rw [s0, ex_n (by rw [n]; decide)]
      · rw [s1, ex_n (by rw [n]; decide)]
      · rw [s2, ex_n (by rw [n]; decide)]
      · rw [s3, ex_n (by rw [n]; decide)]
      · rw [s4, ex_n (by rw [n]; decide)]
      · rw [s5, ex_n (by rw [n]; decide)]
    have f6 := h1 6 (by omega)
    have g6 := ex_ge (g := g) (sbs 6) p
    have hq : (ex g (sbs 6) p).2 = q := by
      obtain ⟨v, hv, e⟩ := h2
      by_cases h6 : v = 6
      · rw [← h6]; exact e
      · have := o v (by omega)
        omega
    have e := ex_eq f6.1 hq
    unfold tst
    rw [if_pos n, s9, ex_app, e]
    rfl
  · rw [tst_f n]
    refine word05n (fun v hv => h1 v (by omega)) ?_
    obtain ⟨v, hv, e⟩ := h2
    by_cases h6 : v = 6
    · rw [h6, s6, ex_n n] at e
      have a := h1 0 (by omega)
      have b := ex_ge (g := g) (sbs 0) p
      have e : p = q := e
      exact ⟨0, by omega, by omega⟩
    · exact ⟨v, by omega, e⟩
theorem word78y {g : Nat → Int32} {p q v : Nat} (hb : g p = 32) (h7 : 7 ≤ v) (hv : v ≤ 8) (h : ex g (sbs v) (p + 1) = (true, q)) : jnt g p = if g q = 32 then (true, q + 1) else (false, q) := by
  unfold jnt
  rw [if_pos hb]
  have hc : v = 7 ∨ v = 8 := by omega
  rcases hc with rfl | rfl
  · rw [if_pos (ex_hd h).1, s17, ex_app, h]
    rfl
  · have e : g (p + 1) = 97 := (ex_hd h).1
    rw [if_neg (by rw [e]; decide), s18, ex_app, h]
    rfl
theorem word78n {g : Nat → Int32} {p q : Nat} (hb : g p = 32) (h1 : ∀ v, 7 ≤ v → v ≤ 8 → (ex g (sbs v) (p + 1)).1 = false ∧ (ex g (sbs v) (p + 1)).2 ≤ q) (h2 : ∃ v, 7 ≤ v ∧ v ≤ 8 ∧ (ex g (sbs v) (p + 1)).2 = q) : jnt g p = (false, q) := by
  have f7 := h1 7 (by omega) (by omega)
  have f8 := h1 8 (by omega) (by omega)
  have g7 := ex_ge (g := g) (sbs 7) (p + 1)
  have g8 := ex_ge (g := g) (sbs 8) (p + 1)
  obtain ⟨v, ha, hv, e⟩ := h2
  have h2 : (ex g (sbs 7) (p + 1)).2 = q ∨ (ex g (sbs 8) (p + 1)).2 = q := by
    have hc : v = 7 ∨ v = 8 := by omega
    rcases hc with rfl | rfl
    · exact Or.inl e
    · exact Or.inr e
  clear h1 e ha hv
  unfold jnt
  rw [if_pos hb]
  by_cases o : g (p + 1) = 111
  · have a8 : (ex g (sbs 8) (p + 1)).2 = p + 1 := by rw [s8, ex_n (by rw [o]; decide)]
    rw [if_pos o, s17, ex_app, ex_eq f7.1 (show _ = q by omega)]
    rfl
  · have a7 : (ex g (sbs 7) (p + 1)).2 = p + 1 := by rw [s7, ex_n o]
    rw [if_neg o, s18, ex_app, ex_eq f8.1 (show _ = q by omega)]
    rfl
