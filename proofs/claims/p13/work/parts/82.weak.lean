set_option maxHeartbeats 4000000 in
set_option maxRecDepth 100000 in
theorem sp_X9_rest {n : Nat} (hn : 1000000000 ≤ n) {x1 : Int32} {d : DD} {dl : LL} (hI : Inv d) {Q : Int32 → DD → LL → Prop} (hQ : ∀ (r : Int32) (d2 : DD) (l2 : LL), StC d dl d2 l2 ∧ ((-2) ≤ r.toInt ∧ r.toInt ≤ 99 ∧ (((0 ≤ x1.toInt ∧ x1.toInt ≤ 99) ∧ r.toInt = (d 0 9).toInt ∧ (d2 0 9).toInt = x1.toInt) ∨ (¬ (0 ≤ x1.toInt ∧ x1.toInt ≤ 99) ∧ r.toInt = -2 ∧ (d2 0 9).toInt = (d 0 9).toInt))) → Q r d2 l2) : F_X9_rest n x1 d dl Q := by
  obtain ⟨e, he⟩ : ∃ e : DD, e = d := ⟨_, rfl⟩
  obtain ⟨el, hel⟩ : ∃ el : LL, el = dl := ⟨_, rfl⟩
  have hS : StC e el d dl := by rw [he, hel]; exact StC.rf hI
  rw [← he, ← hel] at hQ
  show F_X9_within n x1 0 99 d dl (fun r1 d2 l3 => (¬ r1 = 0 → ∀ v5 : Int32, v5 = (d2 0 9) → ∀ d6 : DD, d6 = u2 d2 0 9 x1 → Q v5 d6 l3) ∧ (r1 = 0 → Q (-2) d2 l3))
  have hx0 : (e 0 9).toInt = (d 0 9).toInt := by rw [he]
  refine sp_X9_within hn hS.1 (fun r1 d2 l3 ⟨p_1, u_2⟩ => ?_)
  have s_3 : StC e el d2 l3 := hS.sq p_1
  have w_4 : d2 = d := p_1.2.1
  replace u_2 : (0 ≤ r1.toInt ∧ r1.toInt ≤ 1 ∧ ((r1.toInt = 1 ∧ 0 ≤ x1.toInt ∧ x1.toInt ≤ 99) ∨ (r1.toInt = 0 ∧ ¬ (0 ≤ x1.toInt ∧ x1.toInt ≤ 99)))) := u_2
  refine ⟨fun h4 => ?_, fun h4 => ?_⟩
  · have h4 : ¬ (r1.toInt = 0) := fun q => h4 ((i_eq rfl (rfl : (0 : Int32).toInt = 0)).mpr q)
    have q_5 : d2 0 9 = (d 0 9) := by rw [w_4]
    have m_6 := iv_0_9 hS.1
    have t_7 : (d2 0 9).toInt = (d 0 9).toInt := (congrArg Int32.toInt q_5).trans rfl
    intro v5 e5
    have t_8 : v5.toInt = (d 0 9).toInt := (congrArg Int32.toInt e5).trans t_7
    intro d6 ed6
    have s_9 : StC e el d6 l3 := by rw [ed6]; exact pw_0_9 s_3 (by omega) (by omega) rfl
    have q_10 : d6 0 9 = x1 := by rw [ed6, u2_eq]
    have t_11 : (d6 0 9).toInt = x1.toInt := (congrArg Int32.toInt q_10).trans rfl
    exact hQ _ _ _ ⟨s_9, by omega⟩
  · have h4 : r1.toInt = 0 := (i_eq rfl (rfl : (0 : Int32).toInt = 0)).mp h4
    have q_12 : d2 0 9 = (d 0 9) := by rw [w_4]
    have m_13 := iv_0_9 hS.1
    have t_14 : (d2 0 9).toInt = (d 0 9).toInt := (congrArg Int32.toInt q_12).trans rfl
    exact hQ _ _ _ ⟨s_3, (show ((-2) ≤ (-2) ∧ (-2) ≤ 99 ∧ (((0 ≤ x1.toInt ∧ x1.toInt ≤ 99) ∧ (-2) = (e 0 9).toInt ∧ (d2 0 9).toInt = x1.toInt) ∨ (¬ (0 ≤ x1.toInt ∧ x1.toInt ≤ 99) ∧ (-2) = -2 ∧ (d2 0 9).toInt = (e 0 9).toInt))) from by omega)⟩
set_option maxHeartbeats 4000000 in
set_option maxRecDepth 100000 in
theorem sp_X10_rest {n : Nat} (hn : 1000000000 ≤ n) {x1 : Int32} {d : DD} {dl : LL} (hI : Inv d) {Q : Int32 → DD → LL → Prop} (hQ : ∀ (r : Int32) (d2 : DD) (l2 : LL), StD d dl d2 l2 ∧ ((-2) ≤ r.toInt ∧ r.toInt ≤ 99 ∧ (((0 ≤ x1.toInt ∧ x1.toInt ≤ 99) ∧ r.toInt = (d 211 5).toInt ∧ (d2 211 5).toInt = x1.toInt) ∨ (¬ (0 ≤ x1.toInt ∧ x1.toInt ≤ 99) ∧ r.toInt = -2 ∧ (d2 211 5).toInt = (d 211 5).toInt))) → Q r d2 l2) : F_X10_rest n x1 d dl Q := by
  obtain ⟨e, he⟩ : ∃ e : DD, e = d := ⟨_, rfl⟩
  obtain ⟨el, hel⟩ : ∃ el : LL, el = dl := ⟨_, rfl⟩
  have hS : StD e el d dl := by rw [he, hel]; exact StD.rf hI
  rw [← he, ← hel] at hQ
  show (x1 < 0 → Q (-2) d dl) ∧ (¬ x1 < 0 → (x1 ≤ 99 → ∀ v3 : Int32, v3 = (d 211 5) → ∀ d4 : DD, d4 = u2 d 211 5 x1 → Q v3 d4 dl) ∧ (¬ x1 ≤ 99 → Q (-2) d dl))
  have hx0 : (e 211 5).toInt = (d 211 5).toInt := by rw [he]
  refine ⟨fun h1 => ?_, fun h1 => ?_⟩
  · have h1 : x1.toInt < 0 := (i_lt rfl (rfl : (0 : Int32).toInt = 0)).mp h1
    have m_1 := iv_211_5 hS.1
    exact hQ _ _ _ ⟨hS, (show ((-2) ≤ (-2) ∧ (-2) ≤ 99 ∧ (((0 ≤ x1.toInt ∧ x1.toInt ≤ 99) ∧ (-2) = (e 211 5).toInt ∧ (d 211 5).toInt = x1.toInt) ∨ (¬ (0 ≤ x1.toInt ∧ x1.toInt ≤ 99) ∧ (-2) = -2 ∧ (d 211 5).toInt = (e 211 5).toInt))) from by omega)⟩
  · have h1 : ¬ (x1.toInt < 0) := fun q => h1 ((i_lt rfl (rfl : (0 : Int32).toInt = 0)).mpr q)
    refine ⟨fun h2 => ?_, fun h2 => ?_⟩
    · have h2 : x1.toInt ≤ 99 := (i_le rfl (rfl : (99 : Int32).toInt = 99)).mp h2
      have m_2 := iv_211_5 hS.1
      intro v3 e3
      have t_3 : v3.toInt = (d 211 5).toInt := (congrArg Int32.toInt e3).trans rfl
      intro d4 ed4
      have s_4 : StD e el d4 dl := by rw [ed4]; exact pw_211_5 hS (by omega) (by omega) rfl
      have q_5 : d4 211 5 = x1 := by rw [ed4, u2_eq]
      have t_6 : (d4 211 5).toInt = x1.toInt := (congrArg Int32.toInt q_5).trans rfl
      exact hQ _ _ _ ⟨s_4, by omega⟩
    · have h2 : ¬ (x1.toInt ≤ 99) := fun q => h2 ((i_le rfl (rfl : (99 : Int32).toInt = 99)).mpr q)
      have m_7 := iv_211_5 hS.1
      exact hQ _ _ _ ⟨hS, (show ((-2) ≤ (-2) ∧ (-2) ≤ 99 ∧ (((0 ≤ x1.toInt ∧ x1.toInt ≤ 99) ∧ (-2) = (e 211 5).toInt ∧ (d 211 5).toInt = x1.toInt) ∨ (¬ (0 ≤ x1.toInt ∧ x1.toInt ≤ 99) ∧ (-2) = -2 ∧ (d 211 5).toInt = (e 211 5).toInt))) from by omega)⟩
