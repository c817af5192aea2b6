def hcs (d : DD) (i j t : Nat) : Prop := ¬ d 234 (4 * i + t / 4) = -1 ∧ ¬ d 234 (4 * j + t % 4) = -1 ∧ HC d (d 234 (4 * i + t / 4)) (d 234 (4 * j + t % 4))
theorem rm_hcs {d : DD} {i j : Nat} : RM10 d i j ↔ ∃ t : Nat, t < 16 ∧ hcs d i j t := by
  constructor
  · intro ⟨l, hl, k, hk, a, b, c⟩
    have e1 : (4 * l + k) / 4 = l := by omega
    have e2 : (4 * l + k) % 4 = k := by omega
    exact ⟨4 * l + k, by omega, by rw [e1]; exact a, by rw [e2]; exact b, by rw [e1, e2]; exact c⟩
  · intro ⟨t, ht, a, b, c⟩
    exact ⟨t / 4, by omega, t % 4, by omega, a, b, c⟩
theorem fn_X10_size {n : Nat} {x0 : Int32} {p : Int} (h : x0.toInt = p) (hp : -2147483648 < p) {d : DD} {dl : LL} {Q : Int32 → DD → LL → Prop} (hQ : ∀ r : Int32, r.toInt = (if 0 ≤ p then p else -p) → Q r d dl) : F_X10_size n x0 d dl Q := by
  have b := i_rg x0
  refine ⟨fun g => hQ _ ?_, fun g => hQ _ ?_⟩
  · have g : 0 ≤ p := (i_le (rfl : (0 : Int32).toInt = 0) h).mp g
    rw [if_pos g, h]
  · have g : ¬ 0 ≤ p := fun q => g ((i_le (rfl : (0 : Int32).toInt = 0) h).mpr q)
    rw [if_neg g, ti_neg h (by omega) (by omega)]
theorem fb_X10_slack_25 {n : Nat} (hn : 1000000000 ≤ n) {Q : Int32 → DD → LL → Prop} {K4 : Int32 → Int32 → DD → LL → Prop} {K14 : Int32 → Int32 → Int32 → DD → LL → Prop} {x1 x2 x3 : Int32} {d : DD} {dl : LL} (hI : Inv d) (b2 : 0 ≤ x2.toInt ∧ x2.toInt ≤ 23) (b3 : 0 ≤ x3.toInt ∧ x3.toInt ≤ 23) (hQ : ∀ y : Int32, y.toInt = g10 d x2.toNatClampNeg x3.toNatClampNeg x1.toInt → K14 y x2 (x3 + 1) d dl) : ∀ (j : Nat) (x4 x5 : Int32), 0 ≤ x5.toInt → x5.toInt ≤ 16 → ((x4 = 0 ∧ ∀ t : Nat, (t : Int) < x5.toInt → ¬ hcs d x2.toNatClampNeg x3.toNatClampNeg t) ∨ (x4 = 1 ∧ RM10 d x2.toNatClampNeg x3.toNatClampNeg)) → 17 ≤ x5.toInt + (j : Int) → b_X10_slack_25 n Q K4 K14 j x1 x2 x3 x4 x5 d dl := by
  intro j
  induction j with
  | zero =>
    intro x4 x5 h0 h1 hv hm
    exfalso
    omega
  | succ j hK =>
    intro x4 x5 h0 h1 hv hm
    show _ ∧ _
    have hx : x5.toNatClampNeg = x5.toInt.toNat := rfl
    have i2 : vp_in x2 24 := vin rfl (by omega) (by omega)
    have i3 : vp_in x3 24 := vin rfl (by omega) (by omega)
    refine ⟨fun h => ⟨i2, i3, ?_⟩, fun h => ?_⟩
    · have h : 16 ≤ x5.toInt := (i_le (rfl : (16 : Int32).toInt = 16) rfl).mp h
      have ma := iv_232 hI x2.toNatClampNeg
      have mb := iv_232 hI x3.toNatClampNeg
      have ts : ((d 232 x2.toNatClampNeg) - (d 232 x3.toNatClampNeg)).toInt = (d 232 x2.toNatClampNeg).toInt - (d 232 x3.toNatClampNeg).toInt := ti_sub rfl rfl (by omega) (by omega)
      refine fn_X10_size ts (by omega) (fun r6 hr6 => ?_)
      have hr6 : r6.toInt = gp (d 232 x2.toNatClampNeg).toInt (d 232 x3.toNatClampNeg).toInt := hr6
      rcases hv with ⟨e4, hno⟩ | ⟨e4, hy⟩
      · refine ⟨fun _ => hQ x1 ((ns_n (fun w => ?_)).symm), fun g => absurd e4 g⟩
        obtain ⟨t, ht, q⟩ := rm_hcs.mp w.2
        exact hno t (by omega) q
      · refine ⟨fun g => absurd (e4.symm.trans g) (by decide), fun _ => ⟨fun h2 => hQ r6 ?_, fun h2 => ⟨fun h3 => hQ x1 ?_, fun h3 => hQ r6 ?_⟩⟩⟩
        · rw [hr6]
          exact (ns_y (Or.inl ((i_eq rfl (rfl : (-1 : Int32).toInt = -1)).mp h2)) hy).symm
        · have h2 := m1 h2
          have h3 : x1.toInt ≤ r6.toInt := (i_le rfl rfl).mp h3
          exact (ns_n (fun w => w.1.elim h2 (fun w => by rw [← hr6] at w; omega))).symm
        · have h3 : ¬ x1.toInt ≤ r6.toInt := fun q => h3 ((i_le rfl rfl).mpr q)
          rw [hr6]
          exact (ns_y (Or.inr (by rw [← hr6]; omega)) hy).symm
    · have h : ¬ 16 ≤ x5.toInt := fun q => h ((i_le (rfl : (16 : Int32).toInt = 16) rfl).mpr q)
      have t : (x5 + 1).toInt = x5.toInt + 1 := ti_add rfl (rfl : (1 : Int32).toInt = 1) (by omega) (by omega)
      have td : (x5 / 4).toInt = x5.toInt / 4 := ti_div rfl (rfl : (4 : Int32).toInt = 4) h0 (by omega)
      have tr : (irem x5 4).toInt = x5.toInt % 4 := ti_rem rfl (rfl : (4 : Int32).toInt = 4) h0 (by omega)
      obtain ⟨ia, ca⟩ := ix4 (x1 := x2) (x3 := x5 / 4) b2.1 b2.2 (by omega) (by omega)
      obtain ⟨ib, cb⟩ := ix4 (x1 := x3) (x3 := irem x5 4) b3.1 b3.2 (by omega) (by omega)
      have na : (x5 / 4).toNatClampNeg = x5.toNatClampNeg / 4 := by rw [clampI td]; omega
      have nb : (irem x5 4).toNatClampNeg = x5.toNatClampNeg % 4 := by rw [clampI tr]; omega
      rw [na] at ca
      rw [nb] at cb
      have nx : ¬ hcs d x2.toNatClampNeg x3.toNatClampNeg x5.toNatClampNeg → b_X10_slack_25 n Q K4 K14 j x1 x2 x3 x4 (x5 + 1) d dl := by
        intro g
        refine hK _ _ (by omega) (by omega) ?_ (by omega)
        rcases hv with ⟨e4, hno⟩ | hy
        · refine Or.inl ⟨e4, fun l hl => ?_⟩
          by_cases hl2 : l = x5.toNatClampNeg
          · rw [hl2]; exact g
          · exact hno l (by omega)
        · exact Or.inr hy
      refine ⟨ia, fun v13 e13 => ⟨ib, fun v15 e15 => ?_⟩⟩
      rw [ca] at e13
      rw [cb] at e15
      refine ⟨fun h2 => nx (fun g => g.1 (by rw [← e13]; exact h2)), fun h2 => ⟨fun h3 => nx (fun g => g.2.1 (by rw [← e15]; exact h3)), fun h3 => ?_⟩⟩
      have h2i := m1 h2
      have h3i := m1 h3
      have m4 := iv_234 hI (4 * x2.toNatClampNeg + x5.toNatClampNeg / 4)
      have m5 := iv_234 hI (4 * x3.toNatClampNeg + x5.toNatClampNeg % 4)
      rw [← e13] at m4
      rw [← e15] at m5
      refine fn_X10_haveCommon hn hI ⟨by omega, by omega⟩ ⟨by omega, by omega⟩ (fun r hr => ⟨fun h6 => nx (fun g => ?_), fun h6 => ?_⟩)
      · rcases hr with ⟨e, _⟩ | ⟨_, q⟩
        · rw [e] at h6; exact absurd h6 (by decide)
        · exact q (by rw [e13, e15]; exact g.2.2)
      · rcases hr with ⟨_, q⟩ | ⟨e, _⟩
        · refine hK _ _ (by omega) (by omega) (Or.inr ⟨rfl, rm_hcs.mpr ⟨x5.toNatClampNeg, by omega, ?_, ?_, ?_⟩⟩) (by omega)
          · rw [← e13]; exact h2
          · rw [← e15]; exact h3
          · rw [← e13, ← e15]; exact q
        · exact absurd e h6
theorem fb_X10_slack_14 {n : Nat} (hn : 1000000000 ≤ n) {Q : Int32 → DD → LL → Prop} {K4 : Int32 → Int32 → DD → LL → Prop} {x2 : Int32} {d : DD} {dl : LL} (hI : Inv d) (b2 : 0 ≤ x2.toInt ∧ x2.toInt ≤ 23) {v : Int} (hQ : ∀ x1 : Int32, x1.toInt = v → K4 x1 (x2 + 1) d dl) : ∀ (j : Nat) (x1 x3 : Int32), 0 ≤ x3.toInt → x3.toInt ≤ x2.toInt → v = itr (g10 d x2.toNatClampNeg) x3.toNatClampNeg (x2.toNatClampNeg - x3.toNatClampNeg) x1.toInt → 25 ≤ x3.toInt + (j : Int) → b_X10_slack_14 n Q K4 j x1 x2 x3 d dl := by
  intro j
  induction j with
  | zero =>
    intro x1 x3 h0 h1 hv hm
    exfalso
    omega
  | succ j hK =>
    intro x1 x3 h0 h1 hv hm
    show _ ∧ _
    have hx : x3.toNatClampNeg = x3.toInt.toNat := rfl
    have hy : x2.toNatClampNeg = x2.toInt.toNat := rfl
    refine ⟨fun h => ?_, fun h => ?_⟩
    · have h : x2.toInt ≤ x3.toInt := (i_le rfl rfl).mp h
      have hz : x2.toNatClampNeg - x3.toNatClampNeg = 0 := by omega
      rw [hz] at hv
      exact hQ _ hv.symm
    · have h : ¬ x2.toInt ≤ x3.toInt := fun q => h ((i_le rfl rfl).mpr q)
      have t : (x3 + 1).toInt = x3.toInt + 1 := ti_add rfl (rfl : (1 : Int32).toInt = 1) (by omega) (by omega)
      have tn : (x3 + 1).toNatClampNeg = x3.toNatClampNeg + 1 := by rw [clampI t]; omega
      have hz : x2.toNatClampNeg - x3.toNatClampNeg = (x2.toNatClampNeg - (x3 + 1).toNatClampNeg) + 1 := by omega
      rw [hz] at hv
      have hv : v = itr (g10 d x2.toNatClampNeg) (x3 + 1).toNatClampNeg (x2.toNatClampNeg - (x3 + 1).toNatClampNeg) (g10 d x2.toNatClampNeg x3.toNatClampNeg x1.toInt) := by
        rw [tn] at hv ⊢
        exact hv
      exact fb_X10_slack_25 hn hI b2 ⟨h0, by omega⟩ (fun y hy2 => hK _ _ (by omega) (by omega) (by rw [hy2]; exact hv) (by omega)) n 0 0 (show (0 : Int) ≤ 0 by omega) (show (0 : Int) ≤ 16 by omega) (Or.inl ⟨rfl, fun l hl => absurd (show (l : Int) < 0 from hl) (by omega)⟩) (show (17 : Int) ≤ 0 + (n : Int) by omega)
theorem fb_X10_slack_4 {n : Nat} (hn : 1000000000 ≤ n) {Q : Int32 → DD → LL → Prop} {d : DD} {dl : LL} (hI : Inv d) {v : Int} (hQ : ∀ r : Int32, r.toInt = v → Q r d dl) : ∀ (j : Nat) (x1 x2 : Int32), 0 ≤ x2.toInt → x2.toInt ≤ (d 211 3).toInt → v = itr (S10 d) x2.toNatClampNeg ((d 211 3).toNatClampNeg - x2.toNatClampNeg) x1.toInt → 26 ≤ x2.toInt + (j : Int) → b_X10_slack_4 n Q j x1 x2 d dl := by
  have m := iv_211_3 hI
  intro j
  induction j with
  | zero =>
    intro x1 x2 h0 h1 hv hm
    exfalso
    omega
  | succ j hK =>
    intro x1 x2 h0 h1 hv hm
    show _ ∧ _
    have hx : x2.toNatClampNeg = x2.toInt.toNat := rfl
    have hy : (d 211 3).toNatClampNeg = (d 211 3).toInt.toNat := rfl
    refine ⟨fun h => ?_, fun h => ?_⟩
    · have h : (d 211 3).toInt ≤ x2.toInt := (i_le rfl rfl).mp h
      have hz : (d 211 3).toNatClampNeg - x2.toNatClampNeg = 0 := by omega
      rw [hz] at hv
      exact hQ _ hv.symm
    · have h : ¬ (d 211 3).toInt ≤ x2.toInt := fun q => h ((i_le rfl rfl).mpr q)
      have t : (x2 + 1).toInt = x2.toInt + 1 := ti_add rfl (rfl : (1 : Int32).toInt = 1) (by omega) (by omega)
      have tn : (x2 + 1).toNatClampNeg = x2.toNatClampNeg + 1 := by rw [clampI t]; omega
      have hz : (d 211 3).toNatClampNeg - x2.toNatClampNeg = ((d 211 3).toNatClampNeg - (x2 + 1).toNatClampNeg) + 1 := by omega
      rw [hz] at hv
      have hv : v = itr (S10 d) (x2 + 1).toNatClampNeg ((d 211 3).toNatClampNeg - (x2 + 1).toNatClampNeg) (S10 d x2.toNatClampNeg x1.toInt) := by
        rw [tn] at hv ⊢
        exact hv
      exact fb_X10_slack_14 hn hI ⟨h0, by omega⟩ (v := S10 d x2.toNatClampNeg x1.toInt) (fun y hy2 => hK _ _ (by omega) (by omega) (by rw [hy2]; exact hv) (by omega)) n x1 0 (show (0 : Int) ≤ 0 by omega) h0 rfl (show (25 : Int) ≤ 0 + (n : Int) by omega)
theorem sp_X10_slackF {n : Nat} (hn : 1000000000 ≤ n) {d : DD} {dl : LL} (hI : Inv d) {Q : Int32 → DD → LL → Prop} (hQ : ∀ (r : Int32) (d2 : DD) (l2 : LL), Sq d dl d2 l2 ∧ r.toInt = itr (S10 d) 0 (d 211 3).toNatClampNeg (-1) → Q r d2 l2) : F_X10_slack n d dl Q :=
  fb_X10_slack_4 hn hI (fun r hr => hQ _ _ _ ⟨⟨hI, rfl, rfl⟩, hr⟩) n (-1) 0 (show (0 : Int) ≤ 0 by omega) (iv_211_3 hI).1 rfl (show (26 : Int) ≤ 0 + (n : Int) by omega)
theorem rm_eq {d : DD} {dl : LL} (h : R0 d dl) {i j : Nat} (hi : (i : Int) < (d 0 13).toInt) (hj : (j : Int) < (d 0 13).toInt) : RMt d dl i j ↔ RM10 d i j := by
  have m3 := iv_0_13 h.i
  have hi24 : i < 24 := by omega
  have ci := (h.c12 i hi24 hi).2.2
  constructor
  · intro ⟨l, hl, a, k, hk, b⟩
    have ml := iv_92 h.i hi24 l
    have ai := m1 a
    have e := (rmt_eq h hj (c := d (92 + 5 * i) l) (by omega) (by omega) hk).mp b
    rw [ci l hl] at a e
    exact ⟨l, hl, k, hk, a, e.1, e.2⟩
  · intro ⟨l, hl, k, hk, a, b⟩
    have ml := iv_234 h.i (4 * i + l)
    have ai := m1 a
    have e := (rmt_eq h hj (c := d 234 (4 * i + l)) (by omega) (by omega) hk).mpr b
    rw [← ci l hl] at a e
    exact ⟨l, hl, a, k, hk, e⟩
theorem slack_step {d d1 d2 : DD} {dl l1 lw : LL} {r1 r2 : Int32} (h : R0 d dl) (p1 : Sq d dl d1 l1) (q1 : r1.toInt = itr (S9 d dl) 0 (d 0 13).toNatClampNeg (-1)) (p2 : Sq d1 l1 d2 lw) (q2 : r2.toInt = itr (S10 d1) 0 (d1 211 3).toNatClampNeg (-1)) : R0 d2 lw ∧ r1 = r2 := by
  obtain ⟨_, rfl, rfl⟩ := p1
  obtain ⟨_, rfl, rfl⟩ := p2
  refine ⟨h, Int32.toInt_inj.mp ?_⟩
  have c11 : d2 0 13 = d2 211 3 := h.c11
  have m3 := iv_0_13 h.i
  have hR : (d2 0 13).toNatClampNeg = (d2 0 13).toInt.toNat := rfl
  rw [q1, q2, ← c11]
  refine itr_k (N := (d2 0 13).toNatClampNeg) (fun i a hi => ?_) _ _ _ (by omega)
  refine itr_k (N := i) (fun j b hj => ?_) _ _ _ (by omega)
  have ei := (h.c12 i (by omega) (by omega)).1
  have ej := (h.c12 j (by omega) (by omega)).1
  unfold g9 g10
  rw [ei, ej]
  exact ns_k rfl (rm_eq h (by omega) (by omega)) b
