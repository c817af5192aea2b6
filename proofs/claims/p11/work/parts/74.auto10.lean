set_option maxHeartbeats 4000000 in
set_option maxRecDepth 100000 in
theorem sp_X10_field {n : Nat} (hn : 1000000000 ≤ n) {x1 : Int32} {x2 : Int32} {d : DD} {dl : LL} (hI : Inv d) (bx1 : 0 ≤ x1.toInt ∧ x1.toInt ≤ 5) {Q : Int32 → DD → LL → Prop} (hQ : ∀ (r : Int32) (d2 : DD) (l2 : LL), Sq d dl d2 l2 ∧ (True) → Q r d2 l2) : F_X10_field n x1 x2 d dl Q := by
  obtain ⟨e, he⟩ : ∃ e : DD, e = d := ⟨_, rfl⟩
  obtain ⟨el, hel⟩ : ∃ el : LL, el = dl := ⟨_, rfl⟩
  have hS : Sq e el d dl := by rw [he, hel]; exact Sq.rf hI
  rw [← he, ← hel] at hQ
  show b_X10_field_5 n Q n x1 x2 0 0 d dl
  exact sb_X10_field_5 hn hQ n _ _ _ _ _ _ hS (by omega) (show 0 ≤ 0 ∧ 0 ≤ 8 from by omega) (show 9 - 0 < (n : Int) from by omega)
set_option maxHeartbeats 4000000 in
set_option maxRecDepth 100000 in
theorem sb_X10_keeps_175 {n : Nat} (hn : 1000000000 ≤ n) {e : DD} {el : LL} {Q : Int32 → DD → LL → Prop} (hQ : ∀ (r : Int32) (d2 : DD) (l2 : LL), Sq e el d2 l2 ∧ ((-3) ≤ r.toInt ∧ r.toInt ≤ 1) → Q r d2 l2) {K42 : Int32 → Int32 → Int32 → Int32 → Int32 → DD → LL → Prop} {j42 : Nat} (hK42 : ∀ (x1 : Int32) (x2 : Int32) (x3 : Int32) (x4 : Int32) (x5 : Int32) (d : DD) (dl : LL), Sq e el d dl → (0 ≤ x1.toInt ∧ x1.toInt ≤ 5) → (0 ≤ x2.toInt ∧ x2.toInt ≤ 5) → (0 ≤ x3.toInt ∧ x3.toInt ≤ 1) → (0 ≤ x4.toInt ∧ x4.toInt ≤ 1) → (0 ≤ x5.toInt ∧ x5.toInt ≤ 8) → 9 - x5.toInt < (j42 : Int) → K42 x1 x2 x3 x4 x5 d dl) : ∀ (x1 : Int32) (x2 : Int32) (x3 : Int32) (x5 : Int32) (d : DD) (dl : LL), Sq e el d dl → (0 ≤ x1.toInt ∧ x1.toInt ≤ 5) → (0 ≤ x2.toInt ∧ x2.toInt ≤ 5) → (0 ≤ x3.toInt ∧ x3.toInt ≤ 1) → (0 ≤ x5.toInt ∧ x5.toInt ≤ 7) → 9 - x5.toInt ≤ (j42 : Int) → b_X10_keeps_175 n Q K42 x1 x2 x3 x5 d dl := by
  intro x1 x2 x3 x5 d dl hS bx1 bx2 bx3 bx5 hm42
  show K42 x1 x2 x3 0 (x5 + 1) d dl
  have t_1 : (x5 + 1).toInt = x5.toInt + 1 := ti_add rfl (rfl : (1 : Int32).toInt = 1) (by omega) (by omega)
  exact hK42 _ _ _ _ _ _ _ hS (by omega) (by omega) (by omega) (show 0 ≤ 0 ∧ 0 ≤ 1 from by omega) (by omega) (by omega)
set_option maxHeartbeats 4000000 in
set_option maxRecDepth 100000 in
theorem sb_X10_keeps_161 {n : Nat} (hn : 1000000000 ≤ n) {e : DD} {el : LL} {Q : Int32 → DD → LL → Prop} (hQ : ∀ (r : Int32) (d2 : DD) (l2 : LL), Sq e el d2 l2 ∧ ((-3) ≤ r.toInt ∧ r.toInt ≤ 1) → Q r d2 l2) {K42 : Int32 → Int32 → Int32 → Int32 → Int32 → DD → LL → Prop} {j42 : Nat} (hK42 : ∀ (x1 : Int32) (x2 : Int32) (x3 : Int32) (x4 : Int32) (x5 : Int32) (d : DD) (dl : LL), Sq e el d dl → (0 ≤ x1.toInt ∧ x1.toInt ≤ 5) → (0 ≤ x2.toInt ∧ x2.toInt ≤ 5) → (0 ≤ x3.toInt ∧ x3.toInt ≤ 1) → (0 ≤ x4.toInt ∧ x4.toInt ≤ 1) → (0 ≤ x5.toInt ∧ x5.toInt ≤ 8) → 9 - x5.toInt < (j42 : Int) → K42 x1 x2 x3 x4 x5 d dl) : ∀ (x1 : Int32) (x2 : Int32) (x3 : Int32) (x5 : Int32) (x6 : Int32) (xs0 : Int32) (d : DD) (dl : LL), Sq e el d dl → (0 ≤ x1.toInt ∧ x1.toInt ≤ 5) → (0 ≤ x2.toInt ∧ x2.toInt ≤ 5) → (0 ≤ x3.toInt ∧ x3.toInt ≤ 1) → (0 ≤ x5.toInt ∧ x5.toInt ≤ 7) → (0 ≤ x6.toInt ∧ x6.toInt ≤ 47) → (0 ≤ xs0.toInt ∧ xs0.toInt ≤ 1) → 9 - x5.toInt ≤ (j42 : Int) → b_X10_keeps_161 n Q K42 x1 x2 x3 x5 x6 xs0 d dl := by
  intro x1 x2 x3 x5 x6 xs0 d dl hS bx1 bx2 bx3 bx5 bx6 bxs0 hm42
  show vp_in x6 48 ∧ (xs0 = (d 230 x6.toNatClampNeg) → b_X10_keeps_175 n Q K42 x1 x2 x3 x5 d dl) ∧ (¬ xs0 = (d 230 x6.toNatClampNeg) → K42 x1 x2 x3 1 (x5 + 1) d dl)
  have ih27 : vp_in x6 48 := vin rfl (by omega) (by omega)
  refine ⟨ih27, ?_⟩
  have m_2 := iv_230 hS.1 (x6.toNatClampNeg)
  refine ⟨fun h28 => ?_, fun h28 => ?_⟩
  · have h28 : xs0.toInt = (d 230 x6.toNatClampNeg).toInt := (i_eq rfl rfl).mp h28
    exact sb_X10_keeps_175 hn hQ hK42 _ _ _ _ _ _ hS (by omega) (by omega) (by omega) (by omega) (by omega)
  · have h28 : ¬ (xs0.toInt = (d 230 x6.toNatClampNeg).toInt) := fun q => h28 ((i_eq rfl rfl).mpr q)
    have t_3 : (x5 + 1).toInt = x5.toInt + 1 := ti_add rfl (rfl : (1 : Int32).toInt = 1) (by omega) (by omega)
    exact hK42 _ _ _ _ _ _ _ hS (by omega) (by omega) (by omega) (show 0 ≤ 1 ∧ 1 ≤ 1 from by omega) (by omega) (by omega)
set_option maxHeartbeats 4000000 in
set_option maxRecDepth 100000 in
theorem sb_X10_keeps_137 {n : Nat} (hn : 1000000000 ≤ n) {e : DD} {el : LL} {Q : Int32 → DD → LL → Prop} (hQ : ∀ (r : Int32) (d2 : DD) (l2 : LL), Sq e el d2 l2 ∧ ((-3) ≤ r.toInt ∧ r.toInt ≤ 1) → Q r d2 l2) {K42 : Int32 → Int32 → Int32 → Int32 → Int32 → DD → LL → Prop} {j42 : Nat} (hK42 : ∀ (x1 : Int32) (x2 : Int32) (x3 : Int32) (x4 : Int32) (x5 : Int32) (d : DD) (dl : LL), Sq e el d dl → (0 ≤ x1.toInt ∧ x1.toInt ≤ 5) → (0 ≤ x2.toInt ∧ x2.toInt ≤ 5) → (0 ≤ x3.toInt ∧ x3.toInt ≤ 1) → (0 ≤ x4.toInt ∧ x4.toInt ≤ 1) → (0 ≤ x5.toInt ∧ x5.toInt ≤ 8) → 9 - x5.toInt < (j42 : Int) → K42 x1 x2 x3 x4 x5 d dl) : ∀ (x1 : Int32) (x2 : Int32) (x3 : Int32) (x4 : Int32) (x5 : Int32) (x6 : Int32) (xs0 : Int32) (d : DD) (dl : LL), Sq e el d dl → (0 ≤ x1.toInt ∧ x1.toInt ≤ 5) → (0 ≤ x2.toInt ∧ x2.toInt ≤ 5) → (0 ≤ x3.toInt ∧ x3.toInt ≤ 1) → (0 ≤ x4.toInt ∧ x4.toInt ≤ 1) → (0 ≤ x5.toInt ∧ x5.toInt ≤ 7) → (0 ≤ x6.toInt ∧ x6.toInt ≤ 47) → ((-1) ≤ xs0.toInt ∧ xs0.toInt ≤ 1) → 9 - x5.toInt ≤ (j42 : Int) → b_X10_keeps_137 n Q K42 x1 x2 x3 x4 x5 x6 xs0 d dl := by
  intro x1 x2 x3 x4 x5 x6 xs0 d dl hS bx1 bx2 bx3 bx4 bx5 bx6 bxs0 hm42
  show (x4 = 0 → b_X10_keeps_175 n Q K42 x1 x2 x3 x5 d dl) ∧ (¬ x4 = 0 → vp_in x6 48 ∧ (¬ xs0 = (d 228 x6.toNatClampNeg) → b_X10_keeps_161 n Q K42 x1 x2 x3 x5 x6 0 d dl) ∧ (xs0 = (d 228 x6.toNatClampNeg) → b_X10_keeps_161 n Q K42 x1 x2 x3 x5 x6 1 d dl))
  refine ⟨fun h24 => ?_, fun h24 => ?_⟩
  · have h24 : x4.toInt = 0 := (i_eq rfl (rfl : (0 : Int32).toInt = 0)).mp h24
    exact sb_X10_keeps_175 hn hQ hK42 _ _ _ _ _ _ hS (by omega) (by omega) (by omega) (by omega) (by omega)
  · have h24 : ¬ (x4.toInt = 0) := fun q => h24 ((i_eq rfl (rfl : (0 : Int32).toInt = 0)).mpr q)
    have ih25 : vp_in x6 48 := vin rfl (by omega) (by omega)
    refine ⟨ih25, ?_⟩
    refine ⟨fun h26 => ?_, fun h26 => ?_⟩
    · have h26 : ¬ (xs0.toInt = (d 228 x6.toNatClampNeg).toInt) := fun q => h26 ((i_eq rfl rfl).mpr q)
      exact sb_X10_keeps_161 hn hQ hK42 _ _ _ _ _ _ _ _ hS (by omega) (by omega) (by omega) (by omega) (by omega) (show 0 ≤ 0 ∧ 0 ≤ 1 from by omega) (by omega)
    · have h26 : xs0.toInt = (d 228 x6.toNatClampNeg).toInt := (i_eq rfl rfl).mp h26
      exact sb_X10_keeps_161 hn hQ hK42 _ _ _ _ _ _ _ _ hS (by omega) (by omega) (by omega) (by omega) (by omega) (show 0 ≤ 1 ∧ 1 ≤ 1 from by omega) (by omega)
set_option maxHeartbeats 4000000 in
set_option maxRecDepth 100000 in
theorem sb_X10_keeps_90 {n : Nat} (hn : 1000000000 ≤ n) {e : DD} {el : LL} {Q : Int32 → DD → LL → Prop} (hQ : ∀ (r : Int32) (d2 : DD) (l2 : LL), Sq e el d2 l2 ∧ ((-3) ≤ r.toInt ∧ r.toInt ≤ 1) → Q r d2 l2) {K42 : Int32 → Int32 → Int32 → Int32 → Int32 → DD → LL → Prop} {j42 : Nat} (hK42 : ∀ (x1 : Int32) (x2 : Int32) (x3 : Int32) (x4 : Int32) (x5 : Int32) (d : DD) (dl : LL), Sq e el d dl → (0 ≤ x1.toInt ∧ x1.toInt ≤ 5) → (0 ≤ x2.toInt ∧ x2.toInt ≤ 5) → (0 ≤ x3.toInt ∧ x3.toInt ≤ 1) → (0 ≤ x4.toInt ∧ x4.toInt ≤ 1) → (0 ≤ x5.toInt ∧ x5.toInt ≤ 8) → 9 - x5.toInt < (j42 : Int) → K42 x1 x2 x3 x4 x5 d dl) : ∀ (x1 : Int32) (x2 : Int32) (x3 : Int32) (x4 : Int32) (x5 : Int32) (x6 : Int32) (d : DD) (dl : LL), Sq e el d dl → (0 ≤ x1.toInt ∧ x1.toInt ≤ 5) → (0 ≤ x2.toInt ∧ x2.toInt ≤ 5) → (0 ≤ x3.toInt ∧ x3.toInt ≤ 1) → (0 ≤ x4.toInt ∧ x4.toInt ≤ 1) → (0 ≤ x5.toInt ∧ x5.toInt ≤ 7) → (0 ≤ x6.toInt ∧ x6.toInt ≤ 47) → 9 - x5.toInt ≤ (j42 : Int) → b_X10_keeps_90 n Q K42 x1 x2 x3 x4 x5 x6 d dl := by
  intro x1 x2 x3 x4 x5 x6 d dl hS bx1 bx2 bx3 bx4 bx5 bx6 hm42
  show vp_in x6 48 ∧ F_X10_field n x1 (d 227 x6.toNatClampNeg) d dl (fun r17 d18 l19 => vp_in x6 48 ∧ ((d18 229 x6.toNatClampNeg) ≤ r17 → vp_in x6 48 ∧ (r17 ≤ (d18 229 x6.toNatClampNeg) → b_X10_keeps_137 n Q K42 x1 x2 x3 x4 x5 x6 0 d18 l19) ∧ (¬ r17 ≤ (d18 229 x6.toNatClampNeg) → b_X10_keeps_137 n Q K42 x1 x2 x3 x4 x5 x6 1 d18 l19)) ∧ (¬ (d18 229 x6.toNatClampNeg) ≤ r17 → b_X10_keeps_137 n Q K42 x1 x2 x3 x4 x5 x6 (-1) d18 l19))
  have ih16 : vp_in x6 48 := vin rfl (by omega) (by omega)
  refine ⟨ih16, ?_⟩
  have m_4 := iv_227 hS.1 (x6.toNatClampNeg)
  refine sp_X10_field hn hS.1 ⟨by omega, by omega⟩ (fun r17 d18 l19 ⟨p_5, u_6⟩ => ?_)
  have s_7 : Sq e el d18 l19 := hS.tr p_5
  have w_8 : d18 = d := p_5.2.1
  have ih20 : vp_in x6 48 := vin rfl (by omega) (by omega)
  refine ⟨ih20, ?_⟩
  have q_9 : d18 229 x6.toNatClampNeg = (d 229 x6.toNatClampNeg) := by rw [w_8]
  have t_10 : (d18 229 x6.toNatClampNeg).toInt = (d 229 x6.toNatClampNeg).toInt := (congrArg Int32.toInt q_9).trans rfl
  refine ⟨fun h21 => ?_, fun h21 => ?_⟩
  · have h21 : (d 229 x6.toNatClampNeg).toInt ≤ r17.toInt := (i_le t_10 rfl).mp h21
    have ih22 : vp_in x6 48 := vin rfl (by omega) (by omega)
    refine ⟨ih22, ?_⟩
    refine ⟨fun h23 => ?_, fun h23 => ?_⟩
    · have h23 : r17.toInt ≤ (d 229 x6.toNatClampNeg).toInt := (i_le rfl t_10).mp h23
      exact sb_X10_keeps_137 hn hQ hK42 _ _ _ _ _ _ _ _ _ s_7 (by omega) (by omega) (by omega) (by omega) (by omega) (by omega) (show (-1) ≤ 0 ∧ 0 ≤ 1 from by omega) (by omega)
    · have h23 : ¬ (r17.toInt ≤ (d 229 x6.toNatClampNeg).toInt) := fun q => h23 ((i_le rfl t_10).mpr q)
      exact sb_X10_keeps_137 hn hQ hK42 _ _ _ _ _ _ _ _ _ s_7 (by omega) (by omega) (by omega) (by omega) (by omega) (by omega) (show (-1) ≤ 1 ∧ 1 ≤ 1 from by omega) (by omega)
  · have h21 : ¬ ((d 229 x6.toNatClampNeg).toInt ≤ r17.toInt) := fun q => h21 ((i_le t_10 rfl).mpr q)
    exact sb_X10_keeps_137 hn hQ hK42 _ _ _ _ _ _ _ _ _ s_7 (by omega) (by omega) (by omega) (by omega) (by omega) (by omega) (show (-1) ≤ (-1) ∧ (-1) ≤ 1 from by omega) (by omega)
set_option maxHeartbeats 4000000 in
set_option maxRecDepth 100000 in
theorem sb_X10_keeps_86 {n : Nat} (hn : 1000000000 ≤ n) {e : DD} {el : LL} {Q : Int32 → DD → LL → Prop} (hQ : ∀ (r : Int32) (d2 : DD) (l2 : LL), Sq e el d2 l2 ∧ ((-3) ≤ r.toInt ∧ r.toInt ≤ 1) → Q r d2 l2) {K42 : Int32 → Int32 → Int32 → Int32 → Int32 → DD → LL → Prop} {j42 : Nat} (hK42 : ∀ (x1 : Int32) (x2 : Int32) (x3 : Int32) (x4 : Int32) (x5 : Int32) (d : DD) (dl : LL), Sq e el d dl → (0 ≤ x1.toInt ∧ x1.toInt ≤ 5) → (0 ≤ x2.toInt ∧ x2.toInt ≤ 5) → (0 ≤ x3.toInt ∧ x3.toInt ≤ 1) → (0 ≤ x4.toInt ∧ x4.toInt ≤ 1) → (0 ≤ x5.toInt ∧ x5.toInt ≤ 8) → 9 - x5.toInt < (j42 : Int) → K42 x1 x2 x3 x4 x5 d dl) : ∀ (x1 : Int32) (x2 : Int32) (x5 : Int32) (x6 : Int32) (xs0 : Int32) (d : DD) (dl : LL), Sq e el d dl → (0 ≤ x1.toInt ∧ x1.toInt ≤ 5) → (0 ≤ x2.toInt ∧ x2.toInt ≤ 5) → (0 ≤ x5.toInt ∧ x5.toInt ≤ 7) → (0 ≤ x6.toInt ∧ x6.toInt ≤ 47) → (0 ≤ xs0.toInt ∧ xs0.toInt ≤ 1) → 9 - x5.toInt ≤ (j42 : Int) → b_X10_keeps_86 n Q K42 x1 x2 x5 x6 xs0 d dl := by
  intro x1 x2 x5 x6 xs0 d dl hS bx1 bx2 bx5 bx6 bxs0 hm42
  show b_X10_keeps_90 n Q K42 x1 x2 xs0 1 x5 x6 d dl
  exact sb_X10_keeps_90 hn hQ hK42 _ _ _ _ _ _ _ _ hS (by omega) (by omega) (by omega) (show 0 ≤ 1 ∧ 1 ≤ 1 from by omega) (by omega) (by omega) (by omega)
set_option maxHeartbeats 4000000 in
set_option maxRecDepth 100000 in
theorem sb_X10_keeps_81 {n : Nat} (hn : 1000000000 ≤ n) {e : DD} {el : LL} {Q : Int32 → DD → LL → Prop} (hQ : ∀ (r : Int32) (d2 : DD) (l2 : LL), Sq e el d2 l2 ∧ ((-3) ≤ r.toInt ∧ r.toInt ≤ 1) → Q r d2 l2) {K42 : Int32 → Int32 → Int32 → Int32 → Int32 → DD → LL → Prop} {j42 : Nat} (hK42 : ∀ (x1 : Int32) (x2 : Int32) (x3 : Int32) (x4 : Int32) (x5 : Int32) (d : DD) (dl : LL), Sq e el d dl → (0 ≤ x1.toInt ∧ x1.toInt ≤ 5) → (0 ≤ x2.toInt ∧ x2.toInt ≤ 5) → (0 ≤ x3.toInt ∧ x3.toInt ≤ 1) → (0 ≤ x4.toInt ∧ x4.toInt ≤ 1) → (0 ≤ x5.toInt ∧ x5.toInt ≤ 8) → 9 - x5.toInt < (j42 : Int) → K42 x1 x2 x3 x4 x5 d dl) : ∀ (x1 : Int32) (x2 : Int32) (x5 : Int32) (x6 : Int32) (d : DD) (dl : LL), Sq e el d dl → (0 ≤ x1.toInt ∧ x1.toInt ≤ 5) → (0 ≤ x2.toInt ∧ x2.toInt ≤ 5) → (0 ≤ x5.toInt ∧ x5.toInt ≤ 7) → (0 ≤ x6.toInt ∧ x6.toInt ≤ 47) → 9 - x5.toInt ≤ (j42 : Int) → b_X10_keeps_81 n Q K42 x1 x2 x5 x6 d dl := by
  intro x1 x2 x5 x6 d dl hS bx1 bx2 bx5 bx6 hm42
  show b_X10_keeps_86 n Q K42 x1 x2 x5 x6 1 d dl
  exact sb_X10_keeps_86 hn hQ hK42 _ _ _ _ _ _ _ hS (by omega) (by omega) (by omega) (by omega) (show 0 ≤ 1 ∧ 1 ≤ 1 from by omega) (by omega)
set_option maxHeartbeats 4000000 in
set_option maxRecDepth 100000 in
theorem sb_X10_keeps_42 {n : Nat} (hn : 1000000000 ≤ n) {e : DD} {el : LL} {Q : Int32 → DD → LL → Prop} (hQ : ∀ (r : Int32) (d2 : DD) (l2 : LL), Sq e el d2 l2 ∧ ((-3) ≤ r.toInt ∧ r.toInt ≤ 1) → Q r d2 l2) : ∀ (j42 : Nat) (x1 : Int32) (x2 : Int32) (x3 : Int32) (x4 : Int32) (x5 : Int32) (d : DD) (dl : LL), Sq e el d dl → (0 ≤ x1.toInt ∧ x1.toInt ≤ 5) → (0 ≤ x2.toInt ∧ x2.toInt ≤ 5) → (0 ≤ x3.toInt ∧ x3.toInt ≤ 1) → (0 ≤ x4.toInt ∧ x4.toInt ≤ 1) → (0 ≤ x5.toInt ∧ x5.toInt ≤ 8) → 9 - x5.toInt < (j42 : Int) → b_X10_keeps_42 n Q j42 x1 x2 x3 x4 x5 d dl := by
  intro j42
  induction j42 with
  | zero =>
    intro x1 x2 x3 x4 x5 d dl hS bx1 bx2 bx3 bx4 bx5 hm42
    exfalso
    omega
  | succ j42 hK42 =>
    intro x1 x2 x3 x4 x5 d dl hS bx1 bx2 bx3 bx4 bx5 hm42
    show vp_in x2 6 ∧ ((d 226 x2.toNatClampNeg) ≤ x5 → (¬ x3 = 0 → Q 1 d dl) ∧ (x3 = 0 → (x4 = 0 → Q 0 d dl) ∧ (¬ x4 = 0 → Q 1 d dl))) ∧ (¬ (d 226 x2.toNatClampNeg) ≤ x5 → ∀ v13 : Int32, v13 = (((8 : Int32) * x2) + x5) → vp_in v13 48 ∧ ((d 231 v13.toNatClampNeg) = 0 → b_X10_keeps_90 n Q (b_X10_keeps_42 n Q j42) x1 x2 x3 x4 x5 v13 d dl) ∧ (¬ (d 231 v13.toNatClampNeg) = 0 → (¬ x3 = 0 → b_X10_keeps_81 n Q (b_X10_keeps_42 n Q j42) x1 x2 x5 v13 d dl) ∧ (x3 = 0 → (x4 = 0 → b_X10_keeps_86 n Q (b_X10_keeps_42 n Q j42) x1 x2 x5 v13 0 d dl) ∧ (¬ x4 = 0 → b_X10_keeps_81 n Q (b_X10_keeps_42 n Q j42) x1 x2 x5 v13 d dl))))
    have ih9 : vp_in x2 6 := vin rfl (by omega) (by omega)
    refine ⟨ih9, ?_⟩
    have m_11 := iv_226 hS.1 (x2.toNatClampNeg)
    refine ⟨fun h10 => ?_, fun h10 => ?_⟩
    · have h10 : (d 226 x2.toNatClampNeg).toInt ≤ x5.toInt := (i_le rfl rfl).mp h10
      refine ⟨fun h11 => ?_, fun h11 => ?_⟩
      · have h11 : ¬ (x3.toInt = 0) := fun q => h11 ((i_eq rfl (rfl : (0 : Int32).toInt = 0)).mpr q)
        exact hQ _ _ _ ⟨hS, (show ((-3) ≤ 1 ∧ 1 ≤ 1) from by omega)⟩
      · have h11 : x3.toInt = 0 := (i_eq rfl (rfl : (0 : Int32).toInt = 0)).mp h11
        refine ⟨fun h12 => ?_, fun h12 => ?_⟩
        · have h12 : x4.toInt = 0 := (i_eq rfl (rfl : (0 : Int32).toInt = 0)).mp h12
          exact hQ _ _ _ ⟨hS, (show ((-3) ≤ 0 ∧ 0 ≤ 1) from by omega)⟩
        · have h12 : ¬ (x4.toInt = 0) := fun q => h12 ((i_eq rfl (rfl : (0 : Int32).toInt = 0)).mpr q)
          exact hQ _ _ _ ⟨hS, (show ((-3) ≤ 1 ∧ 1 ≤ 1) from by omega)⟩
    · have h10 : ¬ ((d 226 x2.toNatClampNeg).toInt ≤ x5.toInt) := fun q => h10 ((i_le rfl rfl).mpr q)
      have t_12 : ((8 : Int32) * x2).toInt = 8 * x2.toInt := ti_mul (rfl : (8 : Int32).toInt = 8) rfl (by omega) (by omega)
      have t_13 : (((8 : Int32) * x2) + x5).toInt = (8 * x2.toInt) + x5.toInt := ti_add t_12 rfl (by omega) (by omega)
      intro v13 e13
      have t_14 : v13.toInt = ((8 * x2.toInt) + x5.toInt) := (congrArg Int32.toInt e13).trans t_13
      have ih14 : vp_in v13 48 := vin t_14 (by omega) (by omega)
      refine ⟨ih14, ?_⟩
      have m_15 := iv_231 hS.1 (v13.toNatClampNeg)
      refine ⟨fun h15 => ?_, fun h15 => ?_⟩
      · have h15 : (d 231 v13.toNatClampNeg).toInt = 0 := (i_eq rfl (rfl : (0 : Int32).toInt = 0)).mp h15
        exact sb_X10_keeps_90 hn hQ hK42 _ _ _ _ _ _ _ _ hS (by omega) (by omega) (by omega) (by omega) (by omega) (by omega) (by omega)
      · have h15 : ¬ ((d 231 v13.toNatClampNeg).toInt = 0) := fun q => h15 ((i_eq rfl (rfl : (0 : Int32).toInt = 0)).mpr q)
        refine ⟨fun h29 => ?_, fun h29 => ?_⟩
        · have h29 : ¬ (x3.toInt = 0) := fun q => h29 ((i_eq rfl (rfl : (0 : Int32).toInt = 0)).mpr q)
          exact sb_X10_keeps_81 hn hQ hK42 _ _ _ _ _ _ hS (by omega) (by omega) (by omega) (by omega) (by omega)
        · have h29 : x3.toInt = 0 := (i_eq rfl (rfl : (0 : Int32).toInt = 0)).mp h29
          refine ⟨fun h30 => ?_, fun h30 => ?_⟩
          · have h30 : x4.toInt = 0 := (i_eq rfl (rfl : (0 : Int32).toInt = 0)).mp h30
            exact sb_X10_keeps_86 hn hQ hK42 _ _ _ _ _ _ _ hS (by omega) (by omega) (by omega) (by omega) (show 0 ≤ 0 ∧ 0 ≤ 1 from by omega) (by omega)
          · have h30 : ¬ (x4.toInt = 0) := fun q => h30 ((i_eq rfl (rfl : (0 : Int32).toInt = 0)).mpr q)
            exact sb_X10_keeps_81 hn hQ hK42 _ _ _ _ _ _ hS (by omega) (by omega) (by omega) (by omega) (by omega)
set_option maxHeartbeats 4000000 in
set_option maxRecDepth 100000 in
theorem sp_X10_keeps {n : Nat} (hn : 1000000000 ≤ n) {x1 : Int32} {x2 : Int32} {d : DD} {dl : LL} (hI : Inv d) {Q : Int32 → DD → LL → Prop} (hQ : ∀ (r : Int32) (d2 : DD) (l2 : LL), Sq d dl d2 l2 ∧ ((-3) ≤ r.toInt ∧ r.toInt ≤ 1) → Q r d2 l2) : F_X10_keeps n x1 x2 d dl Q := by
  obtain ⟨e, he⟩ : ∃ e : DD, e = d := ⟨_, rfl⟩
  obtain ⟨el, hel⟩ : ∃ el : LL, el = dl := ⟨_, rfl⟩
  have hS : Sq e el d dl := by rw [he, hel]; exact Sq.rf hI
  rw [← he, ← hel] at hQ
  show F_X10_isCrew n x1 d dl (fun r1 d2 l3 => (r1 = 0 → Q (-1) d2 l3) ∧ (¬ r1 = 0 → (x2 < 0 → Q (-1) d2 l3) ∧ (¬ x2 < 0 → (x2 < (d2 211 2) → vp_in x1 6 ∧ (¬ (d2 224 x1.toNatClampNeg) = 0 → b_X10_keeps_42 n Q n x1 x2 0 1 0 d2 l3) ∧ ((d2 224 x1.toNatClampNeg) = 0 → Q (-3) d2 l3)) ∧ (¬ x2 < (d2 211 2) → Q (-1) d2 l3))))
  refine sp_X10_isCrew hn hS.1 (fun r1 d2 l3 ⟨p_16, u_17⟩ => ?_)
  have s_18 : Sq e el d2 l3 := hS.tr p_16
  have w_19 : d2 = d := p_16.2.1
  replace u_17 : (0 ≤ r1.toInt ∧ r1.toInt ≤ 1 ∧ ((r1.toInt = 1 ∧ 0 ≤ x1.toInt ∧ x1.toInt < (d 211 1).toInt) ∨ (r1.toInt = 0 ∧ ¬ (0 ≤ x1.toInt ∧ x1.toInt < (d 211 1).toInt)))) := u_17
  have m_20 := iv_211_1 hS.1
  refine ⟨fun h4 => ?_, fun h4 => ?_⟩
  · have h4 : r1.toInt = 0 := (i_eq rfl (rfl : (0 : Int32).toInt = 0)).mp h4
    exact hQ _ _ _ ⟨s_18, (show ((-3) ≤ (-1) ∧ (-1) ≤ 1) from by omega)⟩
  · have h4 : ¬ (r1.toInt = 0) := fun q => h4 ((i_eq rfl (rfl : (0 : Int32).toInt = 0)).mpr q)
    refine ⟨fun h5 => ?_, fun h5 => ?_⟩
    · have h5 : x2.toInt < 0 := (i_lt rfl (rfl : (0 : Int32).toInt = 0)).mp h5
      exact hQ _ _ _ ⟨s_18, (show ((-3) ≤ (-1) ∧ (-1) ≤ 1) from by omega)⟩
    · have h5 : ¬ (x2.toInt < 0) := fun q => h5 ((i_lt rfl (rfl : (0 : Int32).toInt = 0)).mpr q)
      have q_21 : d2 211 2 = (d 211 2) := by rw [w_19]
      have m_22 := iv_211_2 hS.1
      have t_23 : (d2 211 2).toInt = (d 211 2).toInt := (congrArg Int32.toInt q_21).trans rfl
      refine ⟨fun h6 => ?_, fun h6 => ?_⟩
      · have h6 : x2.toInt < (d 211 2).toInt := (i_lt rfl t_23).mp h6
        have ih7 : vp_in x1 6 := vin rfl (by omega) (by omega)
        refine ⟨ih7, ?_⟩
        have q_24 : d2 224 x1.toNatClampNeg = (d 224 x1.toNatClampNeg) := by rw [w_19]
        have m_25 := iv_224 hS.1 (x1.toNatClampNeg)
        have t_26 : (d2 224 x1.toNatClampNeg).toInt = (d 224 x1.toNatClampNeg).toInt := (congrArg Int32.toInt q_24).trans rfl
        refine ⟨fun h8 => ?_, fun h8 => ?_⟩
        · have h8 : ¬ ((d 224 x1.toNatClampNeg).toInt = 0) := fun q => h8 ((i_eq t_26 (rfl : (0 : Int32).toInt = 0)).mpr q)
          exact sb_X10_keeps_42 hn hQ n _ _ _ _ _ _ _ s_18 (by omega) (by omega) (show 0 ≤ 0 ∧ 0 ≤ 1 from by omega) (show 0 ≤ 1 ∧ 1 ≤ 1 from by omega) (show 0 ≤ 0 ∧ 0 ≤ 8 from by omega) (show 9 - 0 < (n : Int) from by omega)
        · have h8 : (d 224 x1.toNatClampNeg).toInt = 0 := (i_eq t_26 (rfl : (0 : Int32).toInt = 0)).mp h8
          exact hQ _ _ _ ⟨s_18, (show ((-3) ≤ (-3) ∧ (-3) ≤ 1) from by omega)⟩
      · have h6 : ¬ (x2.toInt < (d 211 2).toInt) := fun q => h6 ((i_lt rfl t_23).mpr q)
        exact hQ _ _ _ ⟨s_18, (show ((-3) ≤ (-1) ∧ (-1) ≤ 1) from by omega)⟩
set_option maxHeartbeats 4000000 in
set_option maxRecDepth 100000 in
theorem sb_X10_haveCommon_9 {n : Nat} (hn : 1000000000 ≤ n) {e : DD} {el : LL} {Q : Int32 → DD → LL → Prop} (hQ : ∀ (r : Int32) (d2 : DD) (l2 : LL), Sq e el d2 l2 ∧ (0 ≤ r.toInt ∧ r.toInt ≤ 1) → Q r d2 l2) : ∀ (j9 : Nat) (x1 : Int32) (x2 : Int32) (x3 : Int32) (d : DD) (dl : LL), Sq e el d dl → (0 ≤ x1.toInt ∧ x1.toInt ≤ 5) → (0 ≤ x2.toInt ∧ x2.toInt ≤ 5) → (0 ≤ x3.toInt ∧ x3.toInt ≤ 8) → 9 - x3.toInt < (j9 : Int) → b_X10_haveCommon_9 n Q j9 x1 x2 x3 d dl := by
  intro j9
  induction j9 with
  | zero =>
    intro x1 x2 x3 d dl hS bx1 bx2 bx3 hm9
    exfalso
    omega
  | succ j9 hK9 =>
    intro x1 x2 x3 d dl hS bx1 bx2 bx3 hm9
    show vp_in x1 6 ∧ ((d 220 x1.toNatClampNeg) ≤ x3 → Q 0 d dl) ∧ (¬ (d 220 x1.toNatClampNeg) ≤ x3 → vp_in (((8 : Int32) * x1) + x3) 48 ∧ F_X10_isMember n x2 (d 222 (((8 : Int32) * x1) + x3).toNatClampNeg) d dl (fun r5 d6 l7 => (r5 = 0 → (b_X10_haveCommon_9 n Q j9) x1 x2 (x3 + 1) d6 l7) ∧ (¬ r5 = 0 → Q 1 d6 l7)))
    have ih2 : vp_in x1 6 := vin rfl (by omega) (by omega)
    refine ⟨ih2, ?_⟩
    have m_1 := iv_220 hS.1 (x1.toNatClampNeg)
    refine ⟨fun h3 => ?_, fun h3 => ?_⟩
    · have h3 : (d 220 x1.toNatClampNeg).toInt ≤ x3.toInt := (i_le rfl rfl).mp h3
      exact hQ _ _ _ ⟨hS, (show (0 ≤ 0 ∧ 0 ≤ 1) from by omega)⟩
    · have h3 : ¬ ((d 220 x1.toNatClampNeg).toInt ≤ x3.toInt) := fun q => h3 ((i_le rfl rfl).mpr q)
      have t_2 : ((8 : Int32) * x1).toInt = 8 * x1.toInt := ti_mul (rfl : (8 : Int32).toInt = 8) rfl (by omega) (by omega)
      have t_3 : (((8 : Int32) * x1) + x3).toInt = (8 * x1.toInt) + x3.toInt := ti_add t_2 rfl (by omega) (by omega)
      have ih4 : vp_in (((8 : Int32) * x1) + x3) 48 := vin t_3 (by omega) (by omega)
      refine ⟨ih4, ?_⟩
      have m_4 := iv_222 hS.1 ((((8 : Int32) * x1) + x3).toNatClampNeg)
      refine sp_X10_isMember hn hS.1 ⟨by omega, by omega⟩ (fun r5 d6 l7 ⟨p_5, u_6⟩ => ?_)
      have s_7 : Sq e el d6 l7 := hS.tr p_5
      have w_8 : d6 = d := p_5.2.1
      replace u_6 : (0 ≤ r5.toInt ∧ r5.toInt ≤ 1) := u_6
      refine ⟨fun h8 => ?_, fun h8 => ?_⟩
      · have h8 : r5.toInt = 0 := (i_eq rfl (rfl : (0 : Int32).toInt = 0)).mp h8
        have t_9 : (x3 + 1).toInt = x3.toInt + 1 := ti_add rfl (rfl : (1 : Int32).toInt = 1) (by omega) (by omega)
        exact hK9 _ _ _ _ _ s_7 (by omega) (by omega) (by omega) (by omega)
      · have h8 : ¬ (r5.toInt = 0) := fun q => h8 ((i_eq rfl (rfl : (0 : Int32).toInt = 0)).mpr q)
        exact hQ _ _ _ ⟨s_7, (show (0 ≤ 1 ∧ 1 ≤ 1) from by omega)⟩
set_option maxHeartbeats 4000000 in
set_option maxRecDepth 100000 in
theorem sp_X10_haveCommon {n : Nat} (hn : 1000000000 ≤ n) {x1 : Int32} {x2 : Int32} {d : DD} {dl : LL} (hI : Inv d) (bx1 : 0 ≤ x1.toInt ∧ x1.toInt ≤ 5) (bx2 : 0 ≤ x2.toInt ∧ x2.toInt ≤ 5) {Q : Int32 → DD → LL → Prop} (hQ : ∀ (r : Int32) (d2 : DD) (l2 : LL), Sq d dl d2 l2 ∧ (0 ≤ r.toInt ∧ r.toInt ≤ 1) → Q r d2 l2) : F_X10_haveCommon n x1 x2 d dl Q := by
  obtain ⟨e, he⟩ : ∃ e : DD, e = d := ⟨_, rfl⟩
  obtain ⟨el, hel⟩ : ∃ el : LL, el = dl := ⟨_, rfl⟩
  have hS : Sq e el d dl := by rw [he, hel]; exact Sq.rf hI
  rw [← he, ← hel] at hQ
  show (¬ x1 = x2 → b_X10_haveCommon_9 n Q n x1 x2 0 d dl) ∧ (x1 = x2 → Q 1 d dl)
  refine ⟨fun h1 => ?_, fun h1 => ?_⟩
  · have h1 : ¬ (x1.toInt = x2.toInt) := fun q => h1 ((i_eq rfl rfl).mpr q)
    exact sb_X10_haveCommon_9 hn hQ n _ _ _ _ _ hS (by omega) (by omega) (show 0 ≤ 0 ∧ 0 ≤ 8 from by omega) (show 9 - 0 < (n : Int) from by omega)
  · have h1 : x1.toInt = x2.toInt := (i_eq rfl rfl).mp h1
    exact hQ _ _ _ ⟨hS, (show (0 ≤ 1 ∧ 1 ≤ 1) from by omega)⟩
set_option maxHeartbeats 4000000 in
set_option maxRecDepth 100000 in
theorem sp_X10_isRace {n : Nat} (hn : 1000000000 ≤ n) {x1 : Int32} {d : DD} {dl : LL} (hI : Inv d) {Q : Int32 → DD → LL → Prop} (hQ : ∀ (r : Int32) (d2 : DD) (l2 : LL), Sq d dl d2 l2 ∧ (0 ≤ r.toInt ∧ r.toInt ≤ 1 ∧ ((r.toInt = 1 ∧ 0 ≤ x1.toInt ∧ x1.toInt < (d 211 3).toInt) ∨ (r.toInt = 0 ∧ ¬ (0 ≤ x1.toInt ∧ x1.toInt < (d 211 3).toInt)))) → Q r d2 l2) : F_X10_isRace n x1 d dl Q := by
  obtain ⟨e, he⟩ : ∃ e : DD, e = d := ⟨_, rfl⟩
  obtain ⟨el, hel⟩ : ∃ el : LL, el = dl := ⟨_, rfl⟩
  have hS : Sq e el d dl := by rw [he, hel]; exact Sq.rf hI
  rw [← he, ← hel] at hQ
  show (x1 < 0 → Q 0 d dl) ∧ (¬ x1 < 0 → ((d 211 3) ≤ x1 → Q 0 d dl) ∧ (¬ (d 211 3) ≤ x1 → Q 1 d dl))
  have hx0 : (e 211 3).toInt = (d 211 3).toInt := by rw [he]
  refine ⟨fun h1 => ?_, fun h1 => ?_⟩
  · have h1 : x1.toInt < 0 := (i_lt rfl (rfl : (0 : Int32).toInt = 0)).mp h1
    exact hQ _ _ _ ⟨hS, (show (0 ≤ 0 ∧ 0 ≤ 1 ∧ ((0 = 1 ∧ 0 ≤ x1.toInt ∧ x1.toInt < (e 211 3).toInt) ∨ (0 = 0 ∧ ¬ (0 ≤ x1.toInt ∧ x1.toInt < (e 211 3).toInt)))) from by omega)⟩
  · have h1 : ¬ (x1.toInt < 0) := fun q => h1 ((i_lt rfl (rfl : (0 : Int32).toInt = 0)).mpr q)
    have m_1 := iv_211_3 hS.1
    refine ⟨fun h2 => ?_, fun h2 => ?_⟩
    · have h2 : (d 211 3).toInt ≤ x1.toInt := (i_le rfl rfl).mp h2
      exact hQ _ _ _ ⟨hS, (show (0 ≤ 0 ∧ 0 ≤ 1 ∧ ((0 = 1 ∧ 0 ≤ x1.toInt ∧ x1.toInt < (e 211 3).toInt) ∨ (0 = 0 ∧ ¬ (0 ≤ x1.toInt ∧ x1.toInt < (e 211 3).toInt)))) from by omega)⟩
    · have h2 : ¬ ((d 211 3).toInt ≤ x1.toInt) := fun q => h2 ((i_le rfl rfl).mpr q)
      exact hQ _ _ _ ⟨hS, (show (0 ≤ 1 ∧ 1 ≤ 1 ∧ ((1 = 1 ∧ 0 ≤ x1.toInt ∧ x1.toInt < (e 211 3).toInt) ∨ (1 = 0 ∧ ¬ (0 ≤ x1.toInt ∧ x1.toInt < (e 211 3).toInt)))) from by omega)⟩
set_option maxHeartbeats 4000000 in
set_option maxRecDepth 100000 in
theorem sb_X10_goes_203 {n : Nat} (hn : 1000000000 ≤ n) {e : DD} {el : LL} {Q : Int32 → DD → LL → Prop} (hQ : ∀ (r : Int32) (d2 : DD) (l2 : LL), St e el d2 l2 ∧ (0 ≤ r.toInt ∧ r.toInt ≤ 1) → Q r d2 l2) {K90 : Int32 → Int32 → Int32 → Int32 → Int32 → Int32 → Int32 → Int32 → DD → LL → Prop} {j90 : Nat} (hK90 : ∀ (x1 : Int32) (x2 : Int32) (x4 : Int32) (x5 : Int32) (x7 : Int32) (x8 : Int32) (x9 : Int32) (x10 : Int32) (d : DD) (dl : LL), St e el d dl → (0 ≤ x1.toInt ∧ x1.toInt ≤ 95) → (0 ≤ x2.toInt ∧ x2.toInt ≤ 3) → (0 ≤ x4.toInt ∧ x4.toInt ≤ 5) → (0 ≤ x5.toInt ∧ x5.toInt ≤ 8) → (1000 ≤ x8.toInt ∧ x8.toInt ≤ 20000) → (1 ≤ x10.toInt ∧ x10.toInt ≤ 2001) → (0 ≤ (d 234 x1.toNatClampNeg).toInt) → 2002 - x10.toInt < (j90 : Int) → K90 x1 x2 x4 x5 x7 x8 x9 x10 d dl) : ∀ (j203 : Nat) (x1 : Int32) (x2 : Int32) (x4 : Int32) (x5 : Int32) (x7 : Int32) (x8 : Int32) (x9 : Int32) (x10 : Int32) (x12 : Int32) (x13 : Int32) (d : DD) (dl : LL), St e el d dl → (0 ≤ x1.toInt ∧ x1.toInt ≤ 95) → (0 ≤ x2.toInt ∧ x2.toInt ≤ 3) → (0 ≤ x4.toInt ∧ x4.toInt ≤ 5) → (0 ≤ x5.toInt ∧ x5.toInt ≤ 8) → (1000 ≤ x8.toInt ∧ x8.toInt ≤ 20000) → (1 ≤ x10.toInt ∧ x10.toInt ≤ 2000) → (0 ≤ x13.toInt ∧ x13.toInt ≤ 8) → (0 ≤ (d 234 x1.toNatClampNeg).toInt) → (1 ≤ x12.toInt) → 2002 - x10.toInt ≤ (j90 : Int) → 9 - x13.toInt < (j203 : Int) → b_X10_goes_203 n Q K90 j203 x1 x2 x4 x5 x7 x8 x9 x10 x12 x13 d dl := by
  intro j203
  induction j203 with
  | zero =>
    intro x1 x2 x4 x5 x7 x8 x9 x10 x12 x13 d dl hS bx1 bx2 bx4 bx5 bx8 bx10 bx13 bi0 bi1 hm90 hm203
    exfalso
    omega
  | succ j203 hK203 =>
    intro x1 x2 x4 x5 x7 x8 x9 x10 x12 x13 d dl hS bx1 bx2 bx4 bx5 bx8 bx10 bx13 bi0 bi1 hm90 hm203
    show (x5 ≤ x13 → ∀ v20 : Int32, v20 = (x8 - x9) → ∀ v21 : Int32, v21 = (x9 + x12) → vp_in x1 96 ∧ ∀ d23 : DD, d23 = u2 d 236 x1.toNatClampNeg v21 → (v21 < x8 → K90 x1 x2 x4 x5 x7 x8 v21 (x10 + 1) d23 dl) ∧ (¬ v21 < x8 → ¬ x12 = 0 ∧ vp_in x1 96 ∧ ∀ d27 : DD, d27 = u2 d23 235 x1.toNatClampNeg (((100 : Int32) * (x10 - 1)) + ((v20 * 100) / x12)) → Q 1 d27 dl)) ∧ (¬ x5 ≤ x13 → vp_in x13 8 ∧ vp_in x4 6 ∧ vp_in x4 6 ∧ (200 ≤ ((d 246 x13.toNatClampNeg) - ((d 221 x4.toNatClampNeg) * (d 221 x4.toNatClampNeg))) → vp_in x13 8 ∧ vp_in x4 6 ∧ vp_in x4 6 ∧ vp_in x13 8 ∧ ∀ d36 : DD, d36 = u2 d 246 x13.toNatClampNeg ((d 246 x13.toNatClampNeg) - ((d 221 x4.toNatClampNeg) * (d 221 x4.toNatClampNeg))) → (b_X10_goes_203 n Q K90 j203) x1 x2 x4 x5 x7 x8 x9 x10 x12 (x13 + 1) d36 dl) ∧ (¬ 200 ≤ ((d 246 x13.toNatClampNeg) - ((d 221 x4.toNatClampNeg) * (d 221 x4.toNatClampNeg))) → vp_in x13 8 ∧ ∀ d38 : DD, d38 = u2 d 246 x13.toNatClampNeg 200 → (b_X10_goes_203 n Q K90 j203) x1 x2 x4 x5 x7 x8 x9 x10 x12 (x13 + 1) d38 dl))
    refine ⟨fun h19 => ?_, fun h19 => ?_⟩
    · have h19 : x5.toInt ≤ x13.toInt := (i_le rfl rfl).mp h19
      intro v20 e20
      have t_1 : v20.toInt = (x8 - x9).toInt := (congrArg Int32.toInt e20).trans rfl
      intro v21 e21
      have t_2 : v21.toInt = (x9 + x12).toInt := (congrArg Int32.toInt e21).trans rfl
      have ih22 : vp_in x1 96 := vin rfl (by omega) (by omega)
      refine ⟨ih22, ?_⟩
      intro d23 ed23
      have s_3 : St e el d23 dl := by rw [ed23]; exact pv_236 hS
      refine ⟨fun h24 => ?_, fun h24 => ?_⟩
      · have h24 : (x9 + x12).toInt < x8.toInt := (i_lt t_2 rfl).mp h24
        have t_4 : (x10 + 1).toInt = x10.toInt + 1 := ti_add rfl (rfl : (1 : Int32).toInt = 1) (by omega) (by omega)
        have q_5 : d23 234 x1.toNatClampNeg = (d 234 x1.toNatClampNeg) := by rw [ed23, u2_row (by omega)]
        have m_6 := iv_234 hS.1 (x1.toNatClampNeg)
        have t_7 : (d23 234 x1.toNatClampNeg).toInt = (d 234 x1.toNatClampNeg).toInt := (congrArg Int32.toInt q_5).trans rfl
        exact hK90 _ _ _ _ _ _ _ _ _ _ s_3 (by omega) (by omega) (by omega) (by omega) (by omega) (by omega) (by omega) (by omega)
      · have h24 : ¬ ((x9 + x12).toInt < x8.toInt) := fun q => h24 ((i_lt t_2 rfl).mpr q)
        have z_8 : ¬ x12.toInt = 0 := by omega
        refine ⟨fun q => z_8 ((i_eq rfl (rfl : (0 : Int32).toInt = 0)).mp q), ?_⟩
        have ih26 : vp_in x1 96 := vin rfl (by omega) (by omega)
        refine ⟨ih26, ?_⟩
        have q_9 : d23 234 x1.toNatClampNeg = (d 234 x1.toNatClampNeg) := by rw [ed23, u2_row (by omega)]
        have m_10 := iv_234 hS.1 (x1.toNatClampNeg)
        have t_11 : (d23 234 x1.toNatClampNeg).toInt = (d 234 x1.toNatClampNeg).toInt := (congrArg Int32.toInt q_9).trans rfl
        intro d27 ed27
        have s_12 : St e el d27 dl := by rw [ed27]; exact pv_235 s_3 (Or.inr (by omega))
        exact hQ _ _ _ ⟨s_12, (show (0 ≤ 1 ∧ 1 ≤ 1) from by omega)⟩
    · have h19 : ¬ (x5.toInt ≤ x13.toInt) := fun q => h19 ((i_le rfl rfl).mpr q)
      have ih28 : vp_in x13 8 := vin rfl (by omega) (by omega)
      refine ⟨ih28, ?_⟩
      have ih29 : vp_in x4 6 := vin rfl (by omega) (by omega)
      refine ⟨ih29, ?_⟩
      have ih30 : vp_in x4 6 := vin rfl (by omega) (by omega)
      refine ⟨ih30, ?_⟩
      refine ⟨fun h31 => ?_, fun h31 => ?_⟩
      · have h31 : 200 ≤ ((d 246 x13.toNatClampNeg) - ((d 221 x4.toNatClampNeg) * (d 221 x4.toNatClampNeg))).toInt := (i_le (rfl : (200 : Int32).toInt = 200) rfl).mp h31
        have ih32 : vp_in x13 8 := vin rfl (by omega) (by omega)
        refine ⟨ih32, ?_⟩
        have ih33 : vp_in x4 6 := vin rfl (by omega) (by omega)
        refine ⟨ih33, ?_⟩
        have ih34 : vp_in x4 6 := vin rfl (by omega) (by omega)
        refine ⟨ih34, ?_⟩
        have ih35 : vp_in x13 8 := vin rfl (by omega) (by omega)
        refine ⟨ih35, ?_⟩
        intro d36 ed36
        have s_13 : St e el d36 dl := by rw [ed36]; exact pv_246 hS
        have t_14 : (x13 + 1).toInt = x13.toInt + 1 := ti_add rfl (rfl : (1 : Int32).toInt = 1) (by omega) (by omega)
        have q_15 : d36 234 x1.toNatClampNeg = (d 234 x1.toNatClampNeg) := by rw [ed36, u2_row (by omega)]
        have m_16 := iv_234 hS.1 (x1.toNatClampNeg)
        have t_17 : (d36 234 x1.toNatClampNeg).toInt = (d 234 x1.toNatClampNeg).toInt := (congrArg Int32.toInt q_15).trans rfl
        exact hK203 _ _ _ _ _ _ _ _ _ _ _ _ s_13 (by omega) (by omega) (by omega) (by omega) (by omega) (by omega) (by omega) (by omega) (by omega) (by omega) (by omega)
      · have h31 : ¬ (200 ≤ ((d 246 x13.toNatClampNeg) - ((d 221 x4.toNatClampNeg) * (d 221 x4.toNatClampNeg))).toInt) := fun q => h31 ((i_le (rfl : (200 : Int32).toInt = 200) rfl).mpr q)
        have ih37 : vp_in x13 8 := vin rfl (by omega) (by omega)
        refine ⟨ih37, ?_⟩
        intro d38 ed38
        have s_18 : St e el d38 dl := by rw [ed38]; exact pv_246 hS
        have t_19 : (x13 + 1).toInt = x13.toInt + 1 := ti_add rfl (rfl : (1 : Int32).toInt = 1) (by omega) (by omega)
        have q_20 : d38 234 x1.toNatClampNeg = (d 234 x1.toNatClampNeg) := by rw [ed38, u2_row (by omega)]
        have m_21 := iv_234 hS.1 (x1.toNatClampNeg)
        have t_22 : (d38 234 x1.toNatClampNeg).toInt = (d 234 x1.toNatClampNeg).toInt := (congrArg Int32.toInt q_20).trans rfl
        exact hK203 _ _ _ _ _ _ _ _ _ _ _ _ s_18 (by omega) (by omega) (by omega) (by omega) (by omega) (by omega) (by omega) (by omega) (by omega) (by omega) (by omega)
