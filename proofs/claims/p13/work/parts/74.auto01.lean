set_option maxHeartbeats 4000000 in
set_option maxRecDepth 100000 in
theorem sb_X6_loadBounds_164 {n : Nat} (hn : 1000000000 ≤ n) {e : DD} {el : LL} {Q : DD → LL → Prop} (hQ : ∀ (d2 : DD) (l2 : LL), St e el d2 l2 ∧ True → Q d2 l2) : ∀ (j164 : Nat) (k1 : Nat) (x2 : Int32) (x3 : Int32) (x4 : Int32) (x6 : Int32) (x7 : Int32) (hk1 : k1 < 6) (d : DD) (dl : LL), St e el d dl → (0 ≤ x6.toInt ∧ x6.toInt ≤ 20) → ((-1) ≤ x7.toInt ∧ x7.toInt ≤ 7) → x7.toInt + 2 < (j164 : Int) → b_X6_loadBounds_164 n Q j164 k1 x2 x3 x4 x6 x7 d dl := by
  intro j164
  induction j164 with
  | zero =>
    intro k1 x2 x3 x4 x6 x7 hk1 d dl hS bx6 bx7 hm164
    exfalso
    omega
  | succ j164 hK164 =>
    intro k1 x2 x3 x4 x6 x7 hk1 d dl hS bx6 bx7 hm164
    show (x7 < 0 → Q d dl) ∧ (¬ x7 < 0 → ∀ v21 : Int32, v21 = (x7 / 2) → (¬ (irem x7 2) = 0 → b_X6_loadBounds_187 n Q (b_X6_loadBounds_164 n Q j164) k1 x2 x3 x4 x6 x7 v21 0 d dl) ∧ ((irem x7 2) = 0 → b_X6_loadBounds_187 n Q (b_X6_loadBounds_164 n Q j164) k1 x2 x3 x4 x6 x7 v21 1 d dl))
    refine ⟨fun h20 => ?_, fun h20 => ?_⟩
    · have h20 : x7.toInt < 0 := (i_lt rfl (rfl : (0 : Int32).toInt = 0)).mp h20
      exact hQ _ _ ⟨hS, trivial⟩
    · have h20 : ¬ (x7.toInt < 0) := fun q => h20 ((i_lt rfl (rfl : (0 : Int32).toInt = 0)).mpr q)
      have t_39 : (x7 / 2).toInt = x7.toInt / 2 := ti_div rfl (rfl : (2 : Int32).toInt = 2) (by omega) (by omega)
      intro v21 e21
      have t_40 : v21.toInt = (x7.toInt / 2) := (congrArg Int32.toInt e21).trans t_39
      have t_41 : (irem x7 2).toInt = x7.toInt % 2 := ti_rem rfl (rfl : (2 : Int32).toInt = 2) (by omega) (by omega)
      refine ⟨fun h22 => ?_, fun h22 => ?_⟩
      · have h22 : ¬ ((x7.toInt % 2) = 0) := fun q => h22 ((i_eq t_41 (rfl : (0 : Int32).toInt = 0)).mpr q)
        exact sb_X6_loadBounds_187 hn hQ hK164 _ _ _ _ _ _ _ _ hk1 _ _ hS (by omega) (by omega) (by omega) (show 0 ≤ 0 ∧ 0 ≤ 1 from by omega) (by omega)
      · have h22 : (x7.toInt % 2) = 0 := (i_eq t_41 (rfl : (0 : Int32).toInt = 0)).mp h22
        exact sb_X6_loadBounds_187 hn hQ hK164 _ _ _ _ _ _ _ _ hk1 _ _ hS (by omega) (by omega) (by omega) (show 0 ≤ 1 ∧ 1 ≤ 1 from by omega) (by omega)
set_option maxHeartbeats 4000000 in
set_option maxRecDepth 100000 in
theorem sb_X6_loadBounds_104 {n : Nat} (hn : 1000000000 ≤ n) {e : DD} {el : LL} {Q : DD → LL → Prop} (hQ : ∀ (d2 : DD) (l2 : LL), St e el d2 l2 ∧ True → Q d2 l2) : ∀ (k1 : Nat) (x2 : Int32) (x3 : Int32) (x4 : Int32) (xs0 : Int32) (hk1 : k1 < 6) (d : DD) (dl : LL), St e el d dl → (0 ≤ xs0.toInt ∧ xs0.toInt ≤ 20) → b_X6_loadBounds_104 n Q k1 x2 x3 x4 xs0 d dl := by
  intro k1 x2 x3 x4 xs0 hk1 d dl hS bxs0
  show vp_in (d 10 2) 9 ∧ ∀ d10 : DD, d10 = u2 d 19 (d 10 2).toNatClampNeg 0 → vp_in (d10 10 2) 9 ∧ ∀ d12 : DD, d12 = u2 d10 20 (d10 10 2).toNatClampNeg 0 → vp_in (d12 10 2) 9 ∧ ∀ d14 : DD, d14 = u2 d12 21 (d12 10 2).toNatClampNeg 0 → vp_in (d14 10 2) 9 ∧ ∀ d16 : DD, d16 = u2 d14 22 (d14 10 2).toNatClampNeg 0 → vp_in (d16 10 2) 9 ∧ ∀ d18 : DD, d18 = u2 d16 23 (d16 10 2).toNatClampNeg 0 → ∀ v19 : Int32, v19 = ((d18 10 2) - 1) → b_X6_loadBounds_164 n Q n k1 x2 x3 x4 xs0 v19 d18 dl
  have m_42 := iv_10_2 hS.1
  have ih9 : vp_in (d 10 2) 9 := vin rfl (by omega) (by omega)
  refine ⟨ih9, ?_⟩
  intro d10 ed10
  have s_43 : St e el d10 dl := by rw [ed10]; exact pv_19 hS
  have q_44 : d10 10 2 = (d 10 2) := by rw [ed10, u2_row (by omega)]
  have t_45 : (d10 10 2).toInt = (d 10 2).toInt := (congrArg Int32.toInt q_44).trans rfl
  have ih11 : vp_in (d10 10 2) 9 := vin t_45 (by omega) (by omega)
  refine ⟨ih11, ?_⟩
  intro d12 ed12
  have s_46 : St e el d12 dl := by rw [ed12]; exact pv_20 s_43
  have q_47 : d12 10 2 = (d 10 2) := by rw [ed12, u2_row (by omega)]; rw [ed10, u2_row (by omega)]
  have t_48 : (d12 10 2).toInt = (d 10 2).toInt := (congrArg Int32.toInt q_47).trans rfl
  have ih13 : vp_in (d12 10 2) 9 := vin t_48 (by omega) (by omega)
  refine ⟨ih13, ?_⟩
  intro d14 ed14
  have s_49 : St e el d14 dl := by rw [ed14]; exact pv_21 s_46
  have q_50 : d14 10 2 = (d 10 2) := by rw [ed14, u2_row (by omega)]; rw [ed12, u2_row (by omega)]; rw [ed10, u2_row (by omega)]
  have t_51 : (d14 10 2).toInt = (d 10 2).toInt := (congrArg Int32.toInt q_50).trans rfl
  have ih15 : vp_in (d14 10 2) 9 := vin t_51 (by omega) (by omega)
  refine ⟨ih15, ?_⟩
  intro d16 ed16
  have s_52 : St e el d16 dl := by rw [ed16]; exact pv_22 s_49
  have q_53 : d16 10 2 = (d 10 2) := by rw [ed16, u2_row (by omega)]; rw [ed14, u2_row (by omega)]; rw [ed12, u2_row (by omega)]; rw [ed10, u2_row (by omega)]
  have t_54 : (d16 10 2).toInt = (d 10 2).toInt := (congrArg Int32.toInt q_53).trans rfl
  have ih17 : vp_in (d16 10 2) 9 := vin t_54 (by omega) (by omega)
  refine ⟨ih17, ?_⟩
  intro d18 ed18
  have s_55 : St e el d18 dl := by rw [ed18]; exact pv_23 s_52
  have q_56 : d18 10 2 = (d 10 2) := by rw [ed18, u2_row (by omega)]; rw [ed16, u2_row (by omega)]; rw [ed14, u2_row (by omega)]; rw [ed12, u2_row (by omega)]; rw [ed10, u2_row (by omega)]
  have t_57 : (d18 10 2).toInt = (d 10 2).toInt := (congrArg Int32.toInt q_56).trans rfl
  have t_58 : ((d18 10 2) - 1).toInt = (d 10 2).toInt - 1 := ti_sub t_57 (rfl : (1 : Int32).toInt = 1) (by omega) (by omega)
  intro v19 e19
  have t_59 : v19.toInt = ((d 10 2).toInt - 1) := (congrArg Int32.toInt e19).trans t_58
  exact sb_X6_loadBounds_164 hn hQ n _ _ _ _ _ _ hk1 _ _ s_55 (by omega) (by omega) (by omega)
set_option maxHeartbeats 4000000 in
set_option maxRecDepth 100000 in
theorem sb_X6_loadBounds_28 {n : Nat} (hn : 1000000000 ≤ n) {e : DD} {el : LL} {Q : DD → LL → Prop} (hQ : ∀ (d2 : DD) (l2 : LL), St e el d2 l2 ∧ True → Q d2 l2) : ∀ (j28 : Nat) (k1 : Nat) (x2 : Int32) (x3 : Int32) (x4 : Int32) (x5 : Int32) (x6 : Int32) (hk1 : k1 < 6) (d : DD) (dl : LL), St e el d dl → (0 ≤ x6.toInt ∧ x6.toInt ≤ 8) → 9 - x6.toInt < (j28 : Int) → b_X6_loadBounds_28 n Q j28 k1 x2 x3 x4 x5 x6 d dl := by
  intro j28
  induction j28 with
  | zero =>
    intro k1 x2 x3 x4 x5 x6 hk1 d dl hS bx6 hm28
    exfalso
    omega
  | succ j28 hK28 =>
    intro k1 x2 x3 x4 x5 x6 hk1 d dl hS bx6 hm28
    show ((d 10 3) ≤ x6 → (x5 = 0 → b_X6_loadBounds_104 n Q k1 x2 x3 x4 0 d dl) ∧ (¬ x5 = 0 → b_X6_loadBounds_104 n Q k1 x2 x3 x4 20 d dl)) ∧ (¬ (d 10 3) ≤ x6 → vp_in x6 8 ∧ ∀ v55 : Int32, v55 = (if (d 11 x6.toNatClampNeg) < x2 then (d 11 x6.toNatClampNeg) else x2) → vp_in x6 8 ∧ ∀ v57 : Int32, v57 = (if x3 < (d 11 x6.toNatClampNeg) then (d 11 x6.toNatClampNeg) else x3) → vp_in x6 8 ∧ ∀ v59 : Int32, v59 = (if x4 < (d 12 x6.toNatClampNeg) then (d 12 x6.toNatClampNeg) else x4) → vp_in x6 8 ∧ ∀ v61 : Int32, v61 = (x5 ||| (d 14 x6.toNatClampNeg)) → (b_X6_loadBounds_28 n Q j28) k1 v55 v57 v59 v61 (x6 + 1) d dl)
    have m_60 := iv_10_3 hS.1
    refine ⟨fun h7 => ?_, fun h7 => ?_⟩
    · have h7 : (d 10 3).toInt ≤ x6.toInt := (i_le rfl rfl).mp h7
      refine ⟨fun h8 => ?_, fun h8 => ?_⟩
      · have h8 : x5.toInt = 0 := (i_eq rfl (rfl : (0 : Int32).toInt = 0)).mp h8
        exact sb_X6_loadBounds_104 hn hQ _ _ _ _ _ hk1 _ _ hS (show 0 ≤ 0 ∧ 0 ≤ 20 from by omega)
      · have h8 : ¬ (x5.toInt = 0) := fun q => h8 ((i_eq rfl (rfl : (0 : Int32).toInt = 0)).mpr q)
        exact sb_X6_loadBounds_104 hn hQ _ _ _ _ _ hk1 _ _ hS (show 0 ≤ 20 ∧ 20 ≤ 20 from by omega)
    · have h7 : ¬ ((d 10 3).toInt ≤ x6.toInt) := fun q => h7 ((i_le rfl rfl).mpr q)
      have ih54 : vp_in x6 8 := vin rfl (by omega) (by omega)
      refine ⟨ih54, ?_⟩
      have t_61 : (if (d 11 x6.toNatClampNeg) < x2 then (d 11 x6.toNatClampNeg) else x2).toInt = min x2.toInt (d 11 x6.toNatClampNeg).toInt := ti_min rfl rfl
      intro v55 e55
      have t_62 : v55.toInt = (min x2.toInt (d 11 x6.toNatClampNeg).toInt) := (congrArg Int32.toInt e55).trans t_61
      have ih56 : vp_in x6 8 := vin rfl (by omega) (by omega)
      refine ⟨ih56, ?_⟩
      have t_63 : (if x3 < (d 11 x6.toNatClampNeg) then (d 11 x6.toNatClampNeg) else x3).toInt = max x3.toInt (d 11 x6.toNatClampNeg).toInt := ti_max rfl rfl
      intro v57 e57
      have t_64 : v57.toInt = (max x3.toInt (d 11 x6.toNatClampNeg).toInt) := (congrArg Int32.toInt e57).trans t_63
      have ih58 : vp_in x6 8 := vin rfl (by omega) (by omega)
      refine ⟨ih58, ?_⟩
      have t_65 : (if x4 < (d 12 x6.toNatClampNeg) then (d 12 x6.toNatClampNeg) else x4).toInt = max x4.toInt (d 12 x6.toNatClampNeg).toInt := ti_max rfl rfl
      intro v59 e59
      have t_66 : v59.toInt = (max x4.toInt (d 12 x6.toNatClampNeg).toInt) := (congrArg Int32.toInt e59).trans t_65
      have ih60 : vp_in x6 8 := vin rfl (by omega) (by omega)
      refine ⟨ih60, ?_⟩
      intro v61 e61
      have t_67 : v61.toInt = (x5 ||| (d 14 x6.toNatClampNeg)).toInt := (congrArg Int32.toInt e61).trans rfl
      have t_68 : (x6 + 1).toInt = x6.toInt + 1 := ti_add rfl (rfl : (1 : Int32).toInt = 1) (by omega) (by omega)
      exact hK28 _ _ _ _ _ _ hk1 _ _ hS (by omega) (by omega)
set_option maxHeartbeats 4000000 in
set_option maxRecDepth 100000 in
theorem sp_X6_loadBounds {n : Nat} (hn : 1000000000 ≤ n) {k1 : Nat} {d : DD} {dl : LL} (hI : Inv d) (hk1 : k1 < 6) {Q : DD → LL → Prop} (hQ : ∀ (d2 : DD) (l2 : LL), St d dl d2 l2 ∧ True → Q d2 l2) : F_X6_loadBounds n k1 d dl Q := by
  obtain ⟨e, he⟩ : ∃ e : DD, e = d := ⟨_, rfl⟩
  obtain ⟨el, hel⟩ : ∃ el : LL, el = dl := ⟨_, rfl⟩
  have hS : St e el d dl := by rw [he, hel]; exact St.rf hI
  rw [← he, ← hel] at hQ
  show ∀ v2 : Int32, v2 = (d 11 (0 : Int32).toNatClampNeg) → ∀ v4 : Int32, v4 = (d 11 (0 : Int32).toNatClampNeg) → ∀ v6 : Int32, v6 = (d 12 (0 : Int32).toNatClampNeg) → b_X6_loadBounds_28 n Q n k1 v2 v4 v6 0 0 d dl
  intro v2 e2
  have t_69 : v2.toInt = (d 11 (0 : Int32).toNatClampNeg).toInt := (congrArg Int32.toInt e2).trans rfl
  intro v4 e4
  have t_70 : v4.toInt = (d 11 (0 : Int32).toNatClampNeg).toInt := (congrArg Int32.toInt e4).trans rfl
  intro v6 e6
  have t_71 : v6.toInt = (d 12 (0 : Int32).toNatClampNeg).toInt := (congrArg Int32.toInt e6).trans rfl
  exact sb_X6_loadBounds_28 hn hQ n _ _ _ _ _ _ hk1 _ _ hS (show 0 ≤ 0 ∧ 0 ≤ 8 from by omega) (show 9 - 0 < (n : Int) from by omega)
set_option maxHeartbeats 4000000 in
set_option maxRecDepth 100000 in
theorem sp_X1_drummerPitch {n : Nat} (hn : 1000000000 ≤ n) {k0 : Nat} {d : DD} {dl : LL} (hI : Inv d) (hk0 : k0 < 6) {Q : Int32 → DD → LL → Prop} (hQ : ∀ (r : Int32) (d2 : DD) (l2 : LL), Sq d dl d2 l2 ∧ (True) → Q r d2 l2) : F_X1_drummerPitch n k0 d dl Q := by
  obtain ⟨e, he⟩ : ∃ e : DD, e = d := ⟨_, rfl⟩
  obtain ⟨el, hel⟩ : ∃ el : LL, el = dl := ⟨_, rfl⟩
  have hS : Sq e el d dl := by rw [he, hel]; exact Sq.rf hI
  rw [← he, ← hel] at hQ
  show Q ((-(d (37 + 3 * k0) 0)) * (d (37 + 3 * k0) 1)) d dl
  exact hQ _ _ _ ⟨hS, trivial⟩
set_option maxHeartbeats 4000000 in
set_option maxRecDepth 100000 in
theorem sp_X6_leastSize {n : Nat} (hn : 1000000000 ≤ n) {x0 : Int32} {x1 : Int32} {d : DD} {dl : LL} (hI : Inv d) {Q : Int32 → DD → LL → Prop} (hQ : ∀ (r : Int32) (d2 : DD) (l2 : LL), Sq d dl d2 l2 ∧ (True) → Q r d2 l2) : F_X6_leastSize n x0 x1 d dl Q := by
  obtain ⟨e, he⟩ : ∃ e : DD, e = d := ⟨_, rfl⟩
  obtain ⟨el, hel⟩ : ∃ el : LL, el = dl := ⟨_, rfl⟩
  have hS : Sq e el d dl := by rw [he, hel]; exact Sq.rf hI
  rw [← he, ← hel] at hQ
  show (x0 ≤ 0 → (0 ≤ x1 → Q 0 d dl) ∧ (¬ 0 ≤ x1 → Q (-x1) d dl)) ∧ (¬ x0 ≤ 0 → Q x0 d dl)
  refine ⟨fun h1 => ?_, fun h1 => ?_⟩
  · have h1 : x0.toInt ≤ 0 := (i_le rfl (rfl : (0 : Int32).toInt = 0)).mp h1
    refine ⟨fun h2 => ?_, fun h2 => ?_⟩
    · have h2 : 0 ≤ x1.toInt := (i_le (rfl : (0 : Int32).toInt = 0) rfl).mp h2
      exact hQ _ _ _ ⟨hS, trivial⟩
    · have h2 : ¬ (0 ≤ x1.toInt) := fun q => h2 ((i_le (rfl : (0 : Int32).toInt = 0) rfl).mpr q)
      exact hQ _ _ _ ⟨hS, trivial⟩
  · have h1 : ¬ (x0.toInt ≤ 0) := fun q => h1 ((i_le rfl (rfl : (0 : Int32).toInt = 0)).mpr q)
    exact hQ _ _ _ ⟨hS, trivial⟩
set_option maxHeartbeats 4000000 in
set_option maxRecDepth 100000 in
theorem sp_X6_leastFrom {n : Nat} (hn : 1000000000 ≤ n) {x1 : Int32} {x2 : Int32} {x3 : Int32} {x4 : Int32} {d : DD} {dl : LL} (hI : Inv d) (bx1 : 0 ≤ x1.toInt ∧ x1.toInt ≤ 8) {Q : Int32 → DD → LL → Prop} (hQ : ∀ (r : Int32) (d2 : DD) (l2 : LL), Sq d dl d2 l2 ∧ (True) → Q r d2 l2) : F_X6_leastFrom n x1 x2 x3 x4 d dl Q := by
  obtain ⟨e, he⟩ : ∃ e : DD, e = d := ⟨_, rfl⟩
  obtain ⟨el, hel⟩ : ∃ el : LL, el = dl := ⟨_, rfl⟩
  have hS : Sq e el d dl := by rw [he, hel]; exact Sq.rf hI
  rw [← he, ← hel] at hQ
  show vp_in x1 9 ∧ vp_in x1 9 ∧ F_X6_leastSize n (x2 + (d 19 x1.toNatClampNeg)) (x2 + (d 20 x1.toNatClampNeg)) d dl (fun r3 d4 l5 => vp_in x1 9 ∧ vp_in x1 9 ∧ F_X6_leastSize n (x3 + (d4 21 x1.toNatClampNeg)) (x3 + (d4 22 x1.toNatClampNeg)) d4 l5 (fun r8 d9 l10 => vp_in x1 9 ∧ Q (((((4 : Int32) * r3) + r8) - x4) - (d9 23 x1.toNatClampNeg)) d9 l10))
  have ih1 : vp_in x1 9 := vin rfl (by omega) (by omega)
  refine ⟨ih1, ?_⟩
  have ih2 : vp_in x1 9 := vin rfl (by omega) (by omega)
  refine ⟨ih2, ?_⟩
  refine sp_X6_leastSize hn hS.1 (fun r3 d4 l5 ⟨p_1, u_2⟩ => ?_)
  have s_3 : Sq e el d4 l5 := hS.tr p_1
  have w_4 : d4 = d := p_1.2.1
  have ih6 : vp_in x1 9 := vin rfl (by omega) (by omega)
  refine ⟨ih6, ?_⟩
  have ih7 : vp_in x1 9 := vin rfl (by omega) (by omega)
  refine ⟨ih7, ?_⟩
  refine sp_X6_leastSize hn s_3.1 (fun r8 d9 l10 ⟨p_5, u_6⟩ => ?_)
  have s_7 : Sq e el d9 l10 := s_3.tr p_5
  have w_8 : d9 = d4 := p_5.2.1
  have ih11 : vp_in x1 9 := vin rfl (by omega) (by omega)
  refine ⟨ih11, ?_⟩
  exact hQ _ _ _ ⟨s_7, trivial⟩
set_option maxHeartbeats 4000000 in
set_option maxRecDepth 100000 in
theorem sb_X6_keepChosen_12 {n : Nat} (hn : 1000000000 ≤ n) {e : DD} {el : LL} {Q : DD → LL → Prop} (hQ : ∀ (d2 : DD) (l2 : LL), St e el d2 l2 ∧ True → Q d2 l2) : ∀ (j12 : Nat) (x2 : Int32) (d : DD) (dl : LL), St e el d dl → (0 ≤ x2.toInt ∧ x2.toInt ≤ 8) → 9 - x2.toInt < (j12 : Int) → b_X6_keepChosen_12 n Q j12 x2 d dl := by
  intro j12
  induction j12 with
  | zero =>
    intro x2 d dl hS bx2 hm12
    exfalso
    omega
  | succ j12 hK12 =>
    intro x2 d dl hS bx2 hm12
    show ((d 10 2) ≤ x2 → Q d dl) ∧ (¬ (d 10 2) ≤ x2 → vp_in x2 8 ∧ vp_in x2 8 ∧ ∀ d6 : DD, d6 = u2 d 18 x2.toNatClampNeg (d 17 x2.toNatClampNeg) → (b_X6_keepChosen_12 n Q j12) (x2 + 1) d6 dl)
    have m_1 := iv_10_2 hS.1
    refine ⟨fun h3 => ?_, fun h3 => ?_⟩
    · have h3 : (d 10 2).toInt ≤ x2.toInt := (i_le rfl rfl).mp h3
      exact hQ _ _ ⟨hS, trivial⟩
    · have h3 : ¬ ((d 10 2).toInt ≤ x2.toInt) := fun q => h3 ((i_le rfl rfl).mpr q)
      have ih4 : vp_in x2 8 := vin rfl (by omega) (by omega)
      refine ⟨ih4, ?_⟩
      have ih5 : vp_in x2 8 := vin rfl (by omega) (by omega)
      refine ⟨ih5, ?_⟩
      have m_2 := iv_17 hS.1 (x2.toNatClampNeg)
      intro d6 ed6
      have s_3 : St e el d6 dl := by rw [ed6]; exact pv_18 hS (by omega) (by omega)
      have t_4 : (x2 + 1).toInt = x2.toInt + 1 := ti_add rfl (rfl : (1 : Int32).toInt = 1) (by omega) (by omega)
      exact hK12 _ _ _ s_3 (by omega) (by omega)
set_option maxHeartbeats 4000000 in
set_option maxRecDepth 100000 in
theorem sp_X6_keepChosen {n : Nat} (hn : 1000000000 ≤ n) {x1 : Int32} {d : DD} {dl : LL} (hI : Inv d) {Q : DD → LL → Prop} (hQ : ∀ (d2 : DD) (l2 : LL), St d dl d2 l2 ∧ True → Q d2 l2) : F_X6_keepChosen n x1 d dl Q := by
  obtain ⟨e, he⟩ : ∃ e : DD, e = d := ⟨_, rfl⟩
  obtain ⟨el, hel⟩ : ∃ el : LL, el = dl := ⟨_, rfl⟩
  have hS : St e el d dl := by rw [he, hel]; exact St.rf hI
  rw [← he, ← hel] at hQ
  show ∀ d1 : DD, d1 = u2 d 10 1 1 → ∀ d2 : DD, d2 = u2 d1 10 0 x1 → b_X6_keepChosen_12 n Q n 0 d2 dl
  intro d1 ed1
  have s_5 : St e el d1 dl := by rw [ed1]; exact pv_10_1 hS (by decide) (by decide)
  intro d2 ed2
  have s_6 : St e el d2 dl := by rw [ed2]; exact pv_10_0 s_5
  exact sb_X6_keepChosen_12 hn hQ n _ _ _ s_6 (show 0 ≤ 0 ∧ 0 ≤ 8 from by omega) (show 9 - 0 < (n : Int) from by omega)
set_option maxHeartbeats 4000000 in
set_option maxRecDepth 100000 in
theorem sb_X6_gainOf_46 {n : Nat} (hn : 1000000000 ≤ n) {e : DD} {el : LL} {Q : Int32 → DD → LL → Prop} (hQ : ∀ (r : Int32) (d2 : DD) (l2 : LL), Sq e el d2 l2 ∧ (True) → Q r d2 l2) : ∀ (x3 : Int32) (xs0 : Int32) (d : DD) (dl : LL), Sq e el d dl → (0 ≤ xs0.toInt ∧ xs0.toInt ≤ 1) → b_X6_gainOf_46 n Q x3 xs0 d dl := by
  intro x3 xs0 d dl hS bxs0
  show (xs0 = 0 → Q x3 d dl) ∧ (¬ xs0 = 0 → Q (x3 + 20) d dl)
  refine ⟨fun h5 => ?_, fun h5 => ?_⟩
  · have h5 : xs0.toInt = 0 := (i_eq rfl (rfl : (0 : Int32).toInt = 0)).mp h5
    exact hQ _ _ _ ⟨hS, trivial⟩
  · have h5 : ¬ (xs0.toInt = 0) := fun q => h5 ((i_eq rfl (rfl : (0 : Int32).toInt = 0)).mpr q)
    exact hQ _ _ _ ⟨hS, trivial⟩
set_option maxHeartbeats 4000000 in
set_option maxRecDepth 100000 in
theorem sb_X6_gainOf_45 {n : Nat} (hn : 1000000000 ≤ n) {e : DD} {el : LL} {Q : Int32 → DD → LL → Prop} (hQ : ∀ (r : Int32) (d2 : DD) (l2 : LL), Sq e el d2 l2 ∧ (True) → Q r d2 l2) : ∀ (x3 : Int32) (d : DD) (dl : LL), Sq e el d dl → b_X6_gainOf_45 n Q x3 d dl := by
  intro x3 d dl hS
  show b_X6_gainOf_46 n Q x3 0 d dl
  exact sb_X6_gainOf_46 hn hQ _ _ _ _ hS (show 0 ≤ 0 ∧ 0 ≤ 1 from by omega)
set_option maxHeartbeats 4000000 in
set_option maxRecDepth 100000 in
theorem sp_X6_gainOf {n : Nat} (hn : 1000000000 ≤ n) {x1 : Int32} {x2 : Int32} {d : DD} {dl : LL} (hI : Inv d) (bx1 : 0 ≤ x1.toInt ∧ x1.toInt ≤ 7) (bx2 : 0 ≤ x2.toInt ∧ x2.toInt ≤ 7) {Q : Int32 → DD → LL → Prop} (hQ : ∀ (r : Int32) (d2 : DD) (l2 : LL), Sq d dl d2 l2 ∧ (True) → Q r d2 l2) : F_X6_gainOf n x1 x2 d dl Q := by
  obtain ⟨e, he⟩ : ∃ e : DD, e = d := ⟨_, rfl⟩
  obtain ⟨el, hel⟩ : ∃ el : LL, el = dl := ⟨_, rfl⟩
  have hS : Sq e el d dl := by rw [he, hel]; exact Sq.rf hI
  rw [← he, ← hel] at hQ
  show vp_in x2 8 ∧ vp_in x1 8 ∧ ∀ v3 : Int32, v3 = ((d 12 x2.toNatClampNeg) * (d 16 x1.toNatClampNeg)) → (¬ (irem x1 2) = 1 → b_X6_gainOf_45 n Q v3 d dl) ∧ ((irem x1 2) = 1 → vp_in x2 8 ∧ vp_in (x1 - 1) 8 ∧ (((ushr (d 14 x2.toNatClampNeg) (d 17 (x1 - 1).toNatClampNeg)) &&& 1) = 0 → b_X6_gainOf_45 n Q v3 d dl) ∧ (¬ ((ushr (d 14 x2.toNatClampNeg) (d 17 (x1 - 1).toNatClampNeg)) &&& 1) = 0 → b_X6_gainOf_46 n Q v3 1 d dl))
  have ih1 : vp_in x2 8 := vin rfl (by omega) (by omega)
  refine ⟨ih1, ?_⟩
  have ih2 : vp_in x1 8 := vin rfl (by omega) (by omega)
  refine ⟨ih2, ?_⟩
  intro v3 e3
  have t_1 : v3.toInt = ((d 12 x2.toNatClampNeg) * (d 16 x1.toNatClampNeg)).toInt := (congrArg Int32.toInt e3).trans rfl
  have t_2 : (irem x1 2).toInt = x1.toInt % 2 := ti_rem rfl (rfl : (2 : Int32).toInt = 2) (by omega) (by omega)
  refine ⟨fun h4 => ?_, fun h4 => ?_⟩
  · have h4 : ¬ ((x1.toInt % 2) = 1) := fun q => h4 ((i_eq t_2 (rfl : (1 : Int32).toInt = 1)).mpr q)
    exact sb_X6_gainOf_45 hn hQ _ _ _ hS
  · have h4 : (x1.toInt % 2) = 1 := (i_eq t_2 (rfl : (1 : Int32).toInt = 1)).mp h4
    have ih6 : vp_in x2 8 := vin rfl (by omega) (by omega)
    refine ⟨ih6, ?_⟩
    have t_3 : (x1 - 1).toInt = x1.toInt - 1 := ti_sub rfl (rfl : (1 : Int32).toInt = 1) (by omega) (by omega)
    have ih7 : vp_in (x1 - 1) 8 := vin t_3 (by omega) (by omega)
    refine ⟨ih7, ?_⟩
    refine ⟨fun h8 => ?_, fun h8 => ?_⟩
    · have h8 : ((ushr (d 14 x2.toNatClampNeg) (d 17 (x1 - 1).toNatClampNeg)) &&& 1).toInt = 0 := (i_eq rfl (rfl : (0 : Int32).toInt = 0)).mp h8
      exact sb_X6_gainOf_45 hn hQ _ _ _ hS
    · have h8 : ¬ (((ushr (d 14 x2.toNatClampNeg) (d 17 (x1 - 1).toNatClampNeg)) &&& 1).toInt = 0) := fun q => h8 ((i_eq rfl (rfl : (0 : Int32).toInt = 0)).mpr q)
      exact sb_X6_gainOf_46 hn hQ _ _ _ _ hS (show 0 ≤ 1 ∧ 1 ≤ 1 from by omega)
set_option maxHeartbeats 4000000 in
set_option maxRecDepth 100000 in
theorem sp_X9_sits {n : Nat} (hn : 1000000000 ≤ n) {x1 : Int32} {x2 : Int32} {x3 : Int32} {d : DD} {dl : LL} (hI : Inv d) {Q : Int32 → DD → LL → Prop} (hQ : ∀ (r : Int32) (d2 : DD) (l2 : LL), Sq d dl d2 l2 ∧ ((-1) ≤ r.toInt ∧ r.toInt ≤ 39) → Q r d2 l2) : F_X9_sits n x1 x2 x3 d dl Q := by
  obtain ⟨e, he⟩ : ∃ e : DD, e = d := ⟨_, rfl⟩
  obtain ⟨el, hel⟩ : ∃ el : LL, el = dl := ⟨_, rfl⟩
  have hS : Sq e el d dl := by rw [he, hel]; exact Sq.rf hI
  rw [← he, ← hel] at hQ
  show F_X9_isCrew n x1 d dl (fun r1 d2 l3 => (r1 = 0 → Q (-1) d2 l3) ∧ (¬ r1 = 0 → vp_in x1 6 ∧ ∀ k6 : Nat, k6 = x1.toNatClampNeg → F_X9_within n x2 0 ((d2 (37 + 3 * k6) 0) - 1) d2 l3 (fun r7 d8 l9 => (r7 = 0 → Q (-1) d8 l9) ∧ (¬ r7 = 0 → F_X9_within n x3 0 1 d8 l9 (fun r11 d12 l13 => (r11 = 0 → Q (-1) d12 l13) ∧ (¬ r11 = 0 → vp_in x1 6 ∧ ∀ k16 : Nat, k16 = x1.toNatClampNeg → (¬ (d12 (37 + 3 * k16) 6) = 0 → vp_in x1 6 ∧ ∀ k19 : Nat, k19 = x1.toNatClampNeg → vp_in (((2 : Int32) * x2) + x3) 8 ∧ Q (d12 (39 + 3 * k19) (((2 : Int32) * x2) + x3).toNatClampNeg) d12 l13) ∧ ((d12 (37 + 3 * k16) 6) = 0 → Q (-1) d12 l13)))))))
  refine sp_X9_isCrew hn hS.1 (fun r1 d2 l3 ⟨p_1, u_2⟩ => ?_)
  have s_3 : Sq e el d2 l3 := hS.tr p_1
  have w_4 : d2 = d := p_1.2.1
  replace u_2 : (0 ≤ r1.toInt ∧ r1.toInt ≤ 1 ∧ ((r1.toInt = 1 ∧ 0 ≤ x1.toInt ∧ x1.toInt < (d 0 2).toInt) ∨ (r1.toInt = 0 ∧ ¬ (0 ≤ x1.toInt ∧ x1.toInt < (d 0 2).toInt)))) := u_2
  have m_5 := iv_0_2 hS.1
  refine ⟨fun h4 => ?_, fun h4 => ?_⟩
  · have h4 : r1.toInt = 0 := (i_eq rfl (rfl : (0 : Int32).toInt = 0)).mp h4
    exact hQ _ _ _ ⟨s_3, (show ((-1) ≤ (-1) ∧ (-1) ≤ 39) from by omega)⟩
  · have h4 : ¬ (r1.toInt = 0) := fun q => h4 ((i_eq rfl (rfl : (0 : Int32).toInt = 0)).mpr q)
    have ih5 : vp_in x1 6 := vin rfl (by omega) (by omega)
    refine ⟨ih5, ?_⟩
    intro k6 ek6
    have hk6 : k6 < 6 := by rw [ek6]; exact clamp_in ih5
    have q_6 : d2 (37 + 3 * k6) 0 = (d (37 + 3 * k6) 0) := by rw [w_4]
    have m_7 := iv_37_0 hS.1 hk6
    have t_8 : (d2 (37 + 3 * k6) 0).toInt = (d (37 + 3 * k6) 0).toInt := (congrArg Int32.toInt q_6).trans rfl
    have t_9 : ((d2 (37 + 3 * k6) 0) - 1).toInt = (d (37 + 3 * k6) 0).toInt - 1 := ti_sub t_8 (rfl : (1 : Int32).toInt = 1) (by omega) (by omega)
    refine sp_X9_within hn s_3.1 (fun r7 d8 l9 ⟨p_10, u_11⟩ => ?_)
    have s_12 : Sq e el d8 l9 := s_3.tr p_10
    have w_13 : d8 = d2 := p_10.2.1
    replace u_11 : (0 ≤ r7.toInt ∧ r7.toInt ≤ 1 ∧ ((r7.toInt = 1 ∧ 0 ≤ x2.toInt ∧ x2.toInt ≤ ((d2 (37 + 3 * k6) 0) - 1).toInt) ∨ (r7.toInt = 0 ∧ ¬ (0 ≤ x2.toInt ∧ x2.toInt ≤ ((d2 (37 + 3 * k6) 0) - 1).toInt)))) := u_11
    refine ⟨fun h10 => ?_, fun h10 => ?_⟩
    · have h10 : r7.toInt = 0 := (i_eq rfl (rfl : (0 : Int32).toInt = 0)).mp h10
      exact hQ _ _ _ ⟨s_12, (show ((-1) ≤ (-1) ∧ (-1) ≤ 39) from by omega)⟩
    · have h10 : ¬ (r7.toInt = 0) := fun q => h10 ((i_eq rfl (rfl : (0 : Int32).toInt = 0)).mpr q)
      refine sp_X9_within hn s_12.1 (fun r11 d12 l13 ⟨p_14, u_15⟩ => ?_)
      have s_16 : Sq e el d12 l13 := s_12.tr p_14
      have w_17 : d12 = d8 := p_14.2.1
      replace u_15 : (0 ≤ r11.toInt ∧ r11.toInt ≤ 1 ∧ ((r11.toInt = 1 ∧ 0 ≤ x3.toInt ∧ x3.toInt ≤ 1) ∨ (r11.toInt = 0 ∧ ¬ (0 ≤ x3.toInt ∧ x3.toInt ≤ 1)))) := u_15
      refine ⟨fun h14 => ?_, fun h14 => ?_⟩
      · have h14 : r11.toInt = 0 := (i_eq rfl (rfl : (0 : Int32).toInt = 0)).mp h14
        exact hQ _ _ _ ⟨s_16, (show ((-1) ≤ (-1) ∧ (-1) ≤ 39) from by omega)⟩
      · have h14 : ¬ (r11.toInt = 0) := fun q => h14 ((i_eq rfl (rfl : (0 : Int32).toInt = 0)).mpr q)
        have ih15 : vp_in x1 6 := vin rfl (by omega) (by omega)
        refine ⟨ih15, ?_⟩
        intro k16 ek16
        have hk16 : k16 < 6 := by rw [ek16]; exact clamp_in ih15
        have q_18 : d12 (37 + 3 * k16) 6 = (d (37 + 3 * k16) 6) := by rw [w_17]; rw [w_13]; rw [w_4]
        have m_19 := iv_37_6 hS.1 hk16
        have t_20 : (d12 (37 + 3 * k16) 6).toInt = (d (37 + 3 * k16) 6).toInt := (congrArg Int32.toInt q_18).trans rfl
        refine ⟨fun h17 => ?_, fun h17 => ?_⟩
        · have h17 : ¬ ((d (37 + 3 * k16) 6).toInt = 0) := fun q => h17 ((i_eq t_20 (rfl : (0 : Int32).toInt = 0)).mpr q)
          have ih18 : vp_in x1 6 := vin rfl (by omega) (by omega)
          refine ⟨ih18, ?_⟩
          intro k19 ek19
          have hk19 : k19 < 6 := by rw [ek19]; exact clamp_in ih18
          have t_21 : ((2 : Int32) * x2).toInt = 2 * x2.toInt := ti_mul (rfl : (2 : Int32).toInt = 2) rfl (by omega) (by omega)
          have t_22 : (((2 : Int32) * x2) + x3).toInt = (2 * x2.toInt) + x3.toInt := ti_add t_21 rfl (by omega) (by omega)
          have ih20 : vp_in (((2 : Int32) * x2) + x3) 8 := vin t_22 (by omega) (by omega)
          refine ⟨ih20, ?_⟩
          have q_23 : d12 (39 + 3 * k19) (((2 : Int32) * x2) + x3).toNatClampNeg = (d (39 + 3 * k19) (((2 : Int32) * x2) + x3).toNatClampNeg) := by rw [w_17]; rw [w_13]; rw [w_4]
          have m_24 := iv_39 hS.1 hk19 ((((2 : Int32) * x2) + x3).toNatClampNeg)
          have t_25 : (d12 (39 + 3 * k19) (((2 : Int32) * x2) + x3).toNatClampNeg).toInt = (d (39 + 3 * k19) (((2 : Int32) * x2) + x3).toNatClampNeg).toInt := (congrArg Int32.toInt q_23).trans rfl
          exact hQ _ _ _ ⟨s_16, by omega⟩
        · have h17 : (d (37 + 3 * k16) 6).toInt = 0 := (i_eq t_20 (rfl : (0 : Int32).toInt = 0)).mp h17
          exact hQ _ _ _ ⟨s_16, (show ((-1) ≤ (-1) ∧ (-1) ≤ 39) from by omega)⟩
set_option maxHeartbeats 4000000 in
set_option maxRecDepth 100000 in
theorem sb_X8_weigh_151 {n : Nat} (hn : 1000000000 ≤ n) {e : DD} {el : LL} {Q : DD → LL → Prop} (hQ : ∀ (d2 : DD) (l2 : LL), St e el d2 l2 ∧ True → Q d2 l2) {K21 : Nat → Int32 → Int32 → Int32 → DD → LL → Prop} {j21 : Nat} (hK21 : ∀ (k2 : Nat) (x3 : Int32) (x4 : Int32) (x5 : Int32) (hk2 : k2 < 6) (d : DD) (dl : LL), St e el d dl → (0 ≤ x5.toInt ∧ x5.toInt ≤ 4) → 5 - x5.toInt < (j21 : Int) → K21 k2 x3 x4 x5 d dl) : ∀ (k2 : Nat) (x3 : Int32) (x4 : Int32) (x5 : Int32) (xs0 : Int32) (xs1 : Int32) (hk2 : k2 < 6) (d : DD) (dl : LL), St e el d dl → (0 ≤ x5.toInt ∧ x5.toInt ≤ 3) → (0 ≤ xs0.toInt ∧ xs0.toInt ≤ 1) → 5 - x5.toInt ≤ (j21 : Int) → b_X8_weigh_151 n Q K21 k2 x3 x4 x5 xs0 xs1 d dl := by
  intro k2 x3 x4 x5 xs0 xs1 hk2 d dl hS bx5 bxs0 hm21
  show ∀ d32 : DD, d32 = u2 d 9 3 (xs1 + xs0) → K21 k2 x3 x4 (x5 + 1) d32 dl
  intro d32 ed32
  have s_1 : St e el d32 dl := by rw [ed32]; exact pv_9_3 hS
  have t_2 : (x5 + 1).toInt = x5.toInt + 1 := ti_add rfl (rfl : (1 : Int32).toInt = 1) (by omega) (by omega)
  exact hK21 _ _ _ _ hk2 _ _ s_1 (by omega) (by omega)
set_option maxHeartbeats 4000000 in
set_option maxRecDepth 100000 in
theorem sb_X8_weigh_21 {n : Nat} (hn : 1000000000 ≤ n) {e : DD} {el : LL} {Q : DD → LL → Prop} (hQ : ∀ (d2 : DD) (l2 : LL), St e el d2 l2 ∧ True → Q d2 l2) : ∀ (j21 : Nat) (k2 : Nat) (x3 : Int32) (x4 : Int32) (x5 : Int32) (hk2 : k2 < 6) (d : DD) (dl : LL), St e el d dl → (0 ≤ x5.toInt ∧ x5.toInt ≤ 4) → 5 - x5.toInt < (j21 : Int) → b_X8_weigh_21 n Q j21 k2 x3 x4 x5 d dl := by
  intro j21
  induction j21 with
  | zero =>
    intro k2 x3 x4 x5 hk2 d dl hS bx5 hm21
    exfalso
    omega
  | succ j21 hK21 =>
    intro k2 x3 x4 x5 hk2 d dl hS bx5 hm21
    show ((d (37 + 3 * k2) 0) ≤ x5 → ∀ d7 : DD, d7 = u2 d 9 0 (if 0 ≤ x3 then x3 else -x3) → ∀ d8 : DD, d8 = u2 d7 9 1 (if 0 ≤ x4 then x4 else -x4) → Q d8 dl) ∧ (¬ (d (37 + 3 * k2) 0) ≤ x5 → vp_in ((2 : Int32) * x5) 8 ∧ ∀ v10 : Int32, v10 = (d (39 + 3 * k2) ((2 : Int32) * x5).toNatClampNeg) → vp_in (((2 : Int32) * x5) + 1) 8 ∧ ∀ v12 : Int32, v12 = (d (39 + 3 * k2) (((2 : Int32) * x5) + 1).toNatClampNeg) → vp_in v10 40 ∧ vp_in v12 40 ∧ ∀ v15 : Int32, v15 = (x3 + ((d 2 v10.toNatClampNeg) - (d 2 v12.toNatClampNeg))) → vp_in v10 40 ∧ vp_in v12 40 ∧ F_X1_pitchFactor n k2 x5 d dl (fun r18 d19 l20 => ∀ v21 : Int32, v21 = (x4 + (((d 2 v10.toNatClampNeg) + (d 2 v12.toNatClampNeg)) * r18)) → vp_in v10 40 ∧ vp_in v12 40 ∧ F_X1_middleFactor n k2 x5 d19 l20 (fun r24 d25 l26 => ∀ d27 : DD, d27 = u2 d25 9 2 ((d19 9 2) + (((d19 3 v10.toNatClampNeg) + (d19 3 v12.toNatClampNeg)) * r24)) → F_X4_areFriends n v10 v12 d27 l26 (fun r28 d29 l30 => (r28 = 0 → b_X8_weigh_151 n Q (b_X8_weigh_21 n Q j21) k2 v15 v21 x5 0 (d27 9 3) d29 l30) ∧ (¬ r28 = 0 → b_X8_weigh_151 n Q (b_X8_weigh_21 n Q j21) k2 v15 v21 x5 1 (d27 9 3) d29 l30)))))
    have m_3 := iv_37_0 hS.1 hk2
    refine ⟨fun h6 => ?_, fun h6 => ?_⟩
    · have h6 : (d (37 + 3 * k2) 0).toInt ≤ x5.toInt := (i_le rfl rfl).mp h6
      intro d7 ed7
      have s_4 : St e el d7 dl := by rw [ed7]; exact pv_9_0 hS
      intro d8 ed8
      have s_5 : St e el d8 dl := by rw [ed8]; exact pv_9_1 s_4
      exact hQ _ _ ⟨s_5, trivial⟩
    · have h6 : ¬ ((d (37 + 3 * k2) 0).toInt ≤ x5.toInt) := fun q => h6 ((i_le rfl rfl).mpr q)
      have t_6 : ((2 : Int32) * x5).toInt = 2 * x5.toInt := ti_mul (rfl : (2 : Int32).toInt = 2) rfl (by omega) (by omega)
      have ih9 : vp_in ((2 : Int32) * x5) 8 := vin t_6 (by omega) (by omega)
      refine ⟨ih9, ?_⟩
      have m_7 := iv_39 hS.1 hk2 (((2 : Int32) * x5).toNatClampNeg)
      intro v10 e10
      have t_8 : v10.toInt = (d (39 + 3 * k2) ((2 : Int32) * x5).toNatClampNeg).toInt := (congrArg Int32.toInt e10).trans rfl
      have t_9 : (((2 : Int32) * x5) + 1).toInt = (2 * x5.toInt) + 1 := ti_add t_6 (rfl : (1 : Int32).toInt = 1) (by omega) (by omega)
      have ih11 : vp_in (((2 : Int32) * x5) + 1) 8 := vin t_9 (by omega) (by omega)
      refine ⟨ih11, ?_⟩
      have m_10 := iv_39 hS.1 hk2 ((((2 : Int32) * x5) + 1).toNatClampNeg)
      intro v12 e12
      have t_11 : v12.toInt = (d (39 + 3 * k2) (((2 : Int32) * x5) + 1).toNatClampNeg).toInt := (congrArg Int32.toInt e12).trans rfl
      have ih13 : vp_in v10 40 := vin t_8 (by omega) (by omega)
      refine ⟨ih13, ?_⟩
      have ih14 : vp_in v12 40 := vin t_11 (by omega) (by omega)
      refine ⟨ih14, ?_⟩
      intro v15 e15
      have t_12 : v15.toInt = (x3 + ((d 2 v10.toNatClampNeg) - (d 2 v12.toNatClampNeg))).toInt := (congrArg Int32.toInt e15).trans rfl
      have ih16 : vp_in v10 40 := vin t_8 (by omega) (by omega)
      refine ⟨ih16, ?_⟩
      have ih17 : vp_in v12 40 := vin t_11 (by omega) (by omega)
      refine ⟨ih17, ?_⟩
      refine sp_X1_pitchFactor hn hS.1 hk2 (fun r18 d19 l20 ⟨p_13, u_14⟩ => ?_)
      have s_15 : St e el d19 l20 := hS.sq p_13
      have w_16 : d19 = d := p_13.2.1
      intro v21 e21
      have t_17 : v21.toInt = (x4 + (((d 2 v10.toNatClampNeg) + (d 2 v12.toNatClampNeg)) * r18)).toInt := (congrArg Int32.toInt e21).trans rfl
      have ih22 : vp_in v10 40 := vin t_8 (by omega) (by omega)
      refine ⟨ih22, ?_⟩
      have ih23 : vp_in v12 40 := vin t_11 (by omega) (by omega)
      refine ⟨ih23, ?_⟩
      refine sp_X1_middleFactor hn s_15.1 hk2 (fun r24 d25 l26 ⟨p_18, u_19⟩ => ?_)
      have s_20 : St e el d25 l26 := s_15.sq p_18
      have w_21 : d25 = d19 := p_18.2.1
      intro d27 ed27
      have s_22 : St e el d27 l26 := by rw [ed27]; exact pv_9_2 s_20
      refine sp_X4_areFriends hn s_22.1 ⟨by rw [t_8]; omega, by rw [t_8]; omega⟩ (fun r28 d29 l30 ⟨p_23, u_24⟩ => ?_)
      have s_25 : St e el d29 l30 := s_22.sq p_23
      have w_26 : d29 = d27 := p_23.2.1
      replace u_24 : (0 ≤ r28.toInt ∧ r28.toInt ≤ 1) := u_24
      refine ⟨fun h31 => ?_, fun h31 => ?_⟩
      · have h31 : r28.toInt = 0 := (i_eq rfl (rfl : (0 : Int32).toInt = 0)).mp h31
        have q_27 : d27 9 3 = (d 9 3) := by rw [ed27, u2_ne (Or.inr (by omega))]; rw [w_21]; rw [w_16]
        have t_28 : (d27 9 3).toInt = (d 9 3).toInt := (congrArg Int32.toInt q_27).trans rfl
        exact sb_X8_weigh_151 hn hQ hK21 _ _ _ _ _ _ hk2 _ _ s_25 (by omega) (show 0 ≤ 0 ∧ 0 ≤ 1 from by omega) (by omega)
      · have h31 : ¬ (r28.toInt = 0) := fun q => h31 ((i_eq rfl (rfl : (0 : Int32).toInt = 0)).mpr q)
        have q_29 : d27 9 3 = (d 9 3) := by rw [ed27, u2_ne (Or.inr (by omega))]; rw [w_21]; rw [w_16]
        have t_30 : (d27 9 3).toInt = (d 9 3).toInt := (congrArg Int32.toInt q_29).trans rfl
        exact sb_X8_weigh_151 hn hQ hK21 _ _ _ _ _ _ hk2 _ _ s_25 (by omega) (show 0 ≤ 1 ∧ 1 ≤ 1 from by omega) (by omega)
