def RuleP10 (d dz : DD) (r : Int32) : Prop :=
  (¬ (d 211 2).toInt < 6 ∧ r = -4 ∧ dz = d) ∨ ((d 211 2).toInt < 6 ∧ (rul (gB d) (d 211 4).toInt).1 = true ∧ r.toInt = (d 211 2).toInt ∧ (dz 211 2).toInt = (d 211 2).toInt + 1 ∧ dz 211 4 = 0) ∨ ((d 211 2).toInt < 6 ∧ (rul (gB d) (d 211 4).toInt).1 = false ∧ r.toInt = -10 - ((rul (gB d) (d 211 4).toInt).2 : Int) ∧ (dz 211 2).toInt = (d 211 2).toInt ∧ dz 211 4 = 0)
theorem fn_X10_163 {n : Nat} {Q : Int32 → DD → LL → Prop} {x1 : Int32} (b1 : 0 ≤ x1.toInt ∧ x1.toInt ≤ 8) {e : DD} {dl : LL} {d : DD} {E : Bool × Nat} (hI : Inv e) (hS : St e dl d dl) (h6 : (e 211 2).toInt < 6) (hE : PR E d) (he : E = rul (gB e) (e 211 4).toInt) (hQ : ∀ (r : Int32) (dz : DD), StT e dl dz dl ∧ RuleP10 e dz r → Q r dz dl) : b_X10_rule_163 n Q x1 d dl := by
  have m := iv_211_2 hI
  intro d11 e11
  have t0 : StT e dl d dl := (StP.rf hI).tr le_StT_St hS
  have s11 : StT e dl d11 dl := by rw [e11]; exact pw_211_4 t0 (by decide) (by decide) rfl
  have k2 : d11 211 2 = e 211 2 := by rw [e11, u2_ne (Or.inr (by omega))]; exact hS.2.1 211 2 rfl
  have k47 : d11 211 47 = d 211 47 := by rw [e11, u2_ne (Or.inr (by omega))]
  have k4 : d11 211 4 = 0 := by rw [e11, u2_eq]
  have hi : vp_in (d11 211 2) 6 := by rw [k2]; exact vin rfl (by omega) (by omega)
  refine ⟨fun f => ⟨hi, fun d14 e14 d15 e15 => ?_⟩, fun f => ?_⟩
  · rw [k47] at f
    rcases hE with ⟨a, _, c⟩ | ⟨a, c⟩
    rotate_left
    · have : (d 211 47).toInt = -1 := (i_eq rfl (rfl : (-1 : Int32).toInt = -1)).mp f
      omega
    have s14 : StT e dl d14 dl := by rw [e14]; exact pw_226 s11 b1.1 b1.2 rfl
    have k14 : d14 211 2 = e 211 2 := by rw [e14, u2_row (by omega)]; exact k2
    have t : ((d14 211 2) + 1).toInt = (e 211 2).toInt + 1 := ti_add (by rw [k14]) (rfl : (1 : Int32).toInt = 1) (by omega) (by omega)
    have s15 : StT e dl d15 dl := by rw [e15]; exact pw_211_2 s14 (by rw [t]; omega) (by rw [t]; omega) rfl
    refine hQ _ _ ⟨s15, Or.inr (Or.inl ⟨h6, by rw [← he]; exact a, by rw [k14], by rw [e15, u2_eq, t], ?_⟩)⟩
    rw [e15, u2_ne (Or.inr (by omega)), e14, u2_row (by omega)]
    exact k4
  · rw [k47] at f
    rcases hE with ⟨a, b, c⟩ | ⟨a, c⟩
    · exact absurd b f
    have m7 := iv_211_47 hS.1
    refine hQ _ _ ⟨s11, Or.inr (Or.inr ⟨h6, by rw [← he]; exact a, ?_, by rw [k2], k4⟩)⟩
    rw [ti_sub (a := (-10 : Int32)) (b := d11 211 47) (p := -10) (q := (d 211 47).toInt) rfl (by rw [k47]) (by omega) (by omega), c, he]
theorem fb_X10_rule_47 {n : Nat} (hn : 1000000000 ≤ n) {Q : Int32 → DD → LL → Prop} {x2 : Int32} (b2 : 0 ≤ x2.toInt ∧ x2.toInt ≤ 40) {e : DD} {dl : LL} (hI : Inv e) (h6 : (e 211 2).toInt < 6) (hQ : ∀ (r : Int32) (dz : DD), StT e dl dz dl ∧ RuleP10 e dz r → Q r dz dl) : ∀ (j : Nat) (x1 : Int32) (d : DD), St e dl d dl → 1 ≤ x1.toInt → x1.toInt ≤ 8 → ((∃ p : Nat, d 211 47 = -1 ∧ (d 211 46).toInt = (p : Int) ∧ rul (gB e) (e 211 4).toInt = rlp (gB e) (e 211 4).toInt (10 - x1.toNatClampNeg) x1.toNatClampNeg p) ∨ (¬ d 211 47 = -1 ∧ (rul (gB e) (e 211 4).toInt).1 = false ∧ (d 211 47).toInt = ((rul (gB e) (e 211 4).toInt).2 : Int))) → 10 ≤ x1.toInt + (j : Int) → b_X10_rule_47 n Q j x1 x2 d dl := by
  intro j
  induction j with
  | zero =>
    intro x1 d hS h0 h1 hE hm
    exfalso
    omega
  | succ j hK =>
    intro x1 d hS h0 h1 hE hm
    show _ ∧ _
    have hx : x1.toNatClampNeg = x1.toInt.toNat := rfl
    have m2 := iv_211_2 hI
    refine ⟨fun f => ?_, fun f => ?_⟩
    · rcases hE with ⟨p, f2, _⟩ | ⟨_, hE⟩
      · exact absurd f2 f
      · exact fn_X10_163 ⟨by omega, h1⟩ hI hS h6 (Or.inr hE) rfl hQ
    rcases hE with ⟨p, _, hp, hE⟩ | ⟨f2, _⟩
    rotate_left
    · exact absurd f f2
    have k4 : d 211 4 = e 211 4 := hS.2.1 211 4 rfl
    have gS : gB d = gB e := gB_st hS
    have mh := iv_211_46 hS.1
    have hz : 10 - x1.toNatClampNeg = (9 - x1.toNatClampNeg) + 1 := by omega
    rw [hz] at hE
    generalize hEE : rul (gB e) (e 211 4).toInt = E at *
    have hE : E = if (e 211 4).toInt ≤ (p : Int) then (true, p) else if x1.toNatClampNeg = 8 then (false, p) else if (jnt (gB e) p).1 = true then (if (tst (gB e) (jnt (gB e) p).2).1 = true then rlp (gB e) (e 211 4).toInt (9 - x1.toNatClampNeg) (x1.toNatClampNeg + 1) (tst (gB e) (jnt (gB e) p).2).2 else tst (gB e) (jnt (gB e) p).2) else jnt (gB e) p := hE
    refine ⟨fun h => ?_, fun h => ?_⟩
    · have h : (d 211 4).toInt ≤ (d 211 46).toInt := (i_le rfl rfl).mp h
      rw [k4] at h
      rw [if_pos (by omega)] at hE
      exact fn_X10_163 ⟨by omega, h1⟩ hI hS h6 (Or.inl (by rw [hE]; exact ⟨rfl, f, hp⟩)) hEE.symm hQ
    · have h : ¬ (d 211 4).toInt ≤ (d 211 46).toInt := fun q => h ((i_le rfl rfl).mpr q)
      rw [k4] at h
      rw [if_neg (by omega)] at hE
      refine ⟨fun h8 => ?_, fun h8 d36 e36 => ?_⟩
      · have h8 : ¬ x1.toInt = 8 := fun q => h8 ((i_eq rfl (rfl : (8 : Int32).toInt = 8)).mpr q)
        rw [if_neg (by omega)] at hE
        have t : (x1 + 1).toInt = x1.toInt + 1 := ti_add rfl (rfl : (1 : Int32).toInt = 1) (by omega) (by omega)
        have tn : (x1 + 1).toNatClampNeg = x1.toNatClampNeg + 1 := by rw [clampI t]; omega
        have ti : (x2 + x1).toInt = x2.toInt + x1.toInt := ti_add rfl rfl (by omega) (by omega)
        refine fn_X10_expect hn (w := 16) (by decide) hS f hp (fun d19 s19 pz => ?_)
        rw [gS] at pz
        have e1 : ex (gB e) (sbs 16) p = if gB e p = 32 then (true, p + 1) else (false, p) := rfl
        by_cases hb : gB e p = 32
        · rw [e1, if_pos hb] at pz
          rcases pz with ⟨_, b, c⟩ | ⟨a, _⟩
          rotate_left
          · exact absurd (show true = false from a) (by decide)
          have c : (d19 211 46).toInt = ((p + 1 : Nat) : Int) := c
          refine ⟨fun _ => ?_, fun w => absurd b w⟩
          refine fn_X10_now s19.1 ?_
          rw [at_n c, gB_st s19]
          have go : ∀ (w : Nat) (x3 : Int32), w < 19 → jnt (gB e) p = ex (gB e) (sbs w) (p + 1) → b_X10_rule_127 n Q (b_X10_rule_47 n Q j) x1 x2 x3 w d19 dl := by
            intro w x3 hw hj
            refine fn_X10_expect hn hw s19 b c (fun d28 s28 pz => ?_)
            rw [gB_st s19, ← hj] at pz
            rcases pz with ⟨a, b2', c2⟩ | ⟨a, c2⟩
            · rw [if_pos a] at hE
              refine ⟨fun _ => ⟨vin ti (by omega) (by omega), fun d32 e32 => ?_⟩, fun w => absurd b2' w⟩
              have s32 : St e dl d32 dl := by rw [e32]; exact pv_231 s28 (vn_in _).1 (vn_in _).2
              refine fn_X10_test hn ⟨by rw [ti]; omega, by rw [ti]; omega⟩ s32 (by rw [e32, u2_row (by omega)]; exact b2') (by rw [e32, u2_row (by omega)]; exact c2) (fun d34 s34 pz => ?_)
              rw [gB_st s32] at pz
              refine hK _ _ s34 (by omega) (by omega) ?_ (by omega)
              rcases pz with ⟨a3, b3, c3⟩ | ⟨a3, c3⟩
              · rw [if_pos a3] at hE
                refine Or.inl ⟨_, b3, c3, ?_⟩
                rw [hE, tn, show 10 - (x1.toNatClampNeg + 1) = 9 - x1.toNatClampNeg by omega]
              · rw [if_neg (by rw [a3]; decide)] at hE
                exact Or.inr ⟨m1r (by omega), by rw [hE]; exact a3, by rw [hE]; exact c3⟩
            · rw [if_neg (by rw [a]; decide)] at hE
              refine ⟨fun w => ?_, fun _ => fn_X10_163 ⟨by omega, h1⟩ hI s28 h6 (Or.inr (by rw [hE]; exact ⟨a, c2⟩)) hEE.symm hQ⟩
              have : (d28 211 47).toInt = -1 := (i_eq rfl (rfl : (-1 : Int32).toInt = -1)).mp w
              omega
          refine ⟨fun ho => ⟨fun _ => go 18 0 (by decide) ?_, fun w => absurd rfl w⟩, fun ho => ⟨fun w => absurd w (by decide), fun _ => go 17 1 (by decide) ?_⟩⟩
          · unfold jnt
            rw [if_pos hb, if_neg ho]
          · unfold jnt
            rw [if_pos hb, if_pos ho]
        · have hj : jnt (gB e) p = (false, p) := by
            unfold jnt
            rw [if_neg hb]
          rw [e1, if_neg hb] at pz
          rw [hj, if_neg (fun w => absurd (show false = true from w) (by decide))] at hE
          rcases pz with ⟨a, _⟩ | ⟨_, c⟩
          · exact absurd (show false = true from a) (by decide)
          have c : (d19 211 47).toInt = (p : Int) := c
          refine ⟨fun w => ?_, fun _ => fn_X10_163 ⟨by omega, h1⟩ hI s19 h6 (Or.inr (by rw [hE]; exact ⟨rfl, c⟩)) hEE.symm hQ⟩
          have : (d19 211 47).toInt = -1 := (i_eq rfl (rfl : (-1 : Int32).toInt = -1)).mp w
          omega
      · have h8 : x1.toInt = 8 := (i_eq rfl (rfl : (8 : Int32).toInt = 8)).mp h8
        rw [if_pos (by omega)] at hE
        have s36 : St e dl d36 dl := by rw [e36]; exact pv_211_47 hS (by omega) (by omega)
        exact fn_X10_163 ⟨by omega, h1⟩ hI s36 h6 (Or.inr (by rw [hE]; exact ⟨rfl, by rw [e36, u2_eq]; exact hp⟩)) hEE.symm hQ
theorem sp_X10_rule {n : Nat} (hn : 1000000000 ≤ n) {d : DD} {dl : LL} (hI : Inv d) {Q : Int32 → DD → LL → Prop} (hQ : ∀ (r : Int32) (d2 : DD) (l2 : LL), StT d dl d2 l2 ∧ RuleP10 d d2 r → Q r d2 l2) : F_X10_rule n d dl Q := by
  have m := iv_211_2 hI
  refine ⟨fun h => ?_, fun h => ?_⟩
  · have h : ¬ (d 211 2).toInt = 6 := fun q => h ((i_eq rfl (rfl : (6 : Int32).toInt = 6)).mpr q)
    intro d2 e2 d3 e3 v4 e4
    have s2 : St d dl d2 dl := by rw [e2]; exact pv_211_46 (St.rf hI) (by decide) (by decide)
    have s3 : St d dl d3 dl := by rw [e3]; exact pv_211_47 s2 (by decide) (by decide)
    have k3 : d3 211 2 = d 211 2 := s3.2.1 211 2 rfl
    have t : v4.toInt = 8 * (d 211 2).toInt := by rw [e4]; exact ti_mul (rfl : (8 : Int32).toInt = 8) (by rw [k3]) (by omega) (by omega)
    refine ⟨vin t (by omega) (by omega), fun d6 e6 => ?_⟩
    have s6 : St d dl d6 dl := by rw [e6]; exact pv_231 s3 (vn_in _).1 (vn_in _).2
    have f6 : d6 211 47 = -1 := by rw [e6, u2_row (by omega), e3, u2_eq]
    have p6 : (d6 211 46).toInt = ((0 : Nat) : Int) := by rw [e6, u2_row (by omega), e3, u2_ne (Or.inr (by omega)), e2, u2_eq]; rfl
    refine fn_X10_test hn ⟨by omega, by omega⟩ s6 f6 p6 (fun d8 s8 pz => ?_)
    rw [gB_st s6] at pz
    refine fb_X10_rule_47 hn ⟨by omega, by omega⟩ hI (by omega) (fun r dz q => hQ r dz dl q) n ((0 : Int32) + 1) d8 s8 (show (1 : Int) ≤ 1 by omega) (show (1 : Int) ≤ 8 by omega) ?_ (show (10 : Int) ≤ 1 + (n : Int) by omega)
    rcases pz with ⟨a, b, c⟩ | ⟨a, c⟩
    · refine Or.inl ⟨_, b, c, ?_⟩
      unfold rul
      rw [if_pos a]
      rfl
    · refine Or.inr ⟨m1r (by omega), ?_, ?_⟩
      · unfold rul
        rw [if_neg (by rw [a]; decide)]
        exact a
      · unfold rul
        rw [if_neg (by rw [a]; decide)]
        exact c
  · have h : (d 211 2).toInt = 6 := (i_eq rfl (rfl : (6 : Int32).toInt = 6)).mp h
    exact hQ _ _ _ ⟨StP.rf hI, Or.inl ⟨by omega, rfl, rfl⟩⟩
theorem rule_step {d d1 d2 : DD} {dl l1 lw : LL} {r1 r2 : Int32} (h : R0 d dl) (p1 : StS d dl d1 l1) (q1 : RuleP9 d d1 r1) (p2 : StT d1 l1 d2 lw) (q2 : RuleP10 d1 d2 r2) : R0 d2 lw ∧ r1 = r2 := by
  have c13 : d 0 7 = d 211 2 := h.c13
  have c14 : d 24 0 = d 211 4 := h.c14.1
  have e2 : d1 211 2 = d 0 7 := by rw [p1.2.1 211 2 rfl, c13]
  have e4 : d1 211 4 = d 24 0 := by rw [p1.2.1 211 4 rfl, c14]
  have eg : gB d1 = gA d := by
    unfold gB gA
    rw [e4, show d1 225 = d 25 from funext (fun l => (p1.2.1 225 l rfl).trans (h.c14.2 l).symm)]
  have k7 : d2 0 7 = d1 0 7 := p2.2.1 0 7 rfl
  have k0 : d2 24 0 = d1 24 0 := p2.2.1 24 0 rfl
  have k25 : ∀ l, d2 25 l = d2 225 l := fun l => by rw [p2.2.1 25 l rfl, p1.2.1 25 l rfl, p2.2.1 225 l rfl, p1.2.1 225 l rfl]; exact h.c14.2 l
  unfold RuleP10 at q2
  rw [e2, e4, eg] at q2
  unfold RuleP9 at q1
  generalize rul (gA d) (d 24 0).toInt = E at *
  rcases q1 with ⟨o1, a1, a2⟩ | ⟨o1, g1, a1, a2, a3⟩ | ⟨o1, g1, a1, a2, a3⟩
  · rcases q2 with ⟨o2, b1, b2⟩ | ⟨o2, _⟩ | ⟨o2, _⟩
    · subst a2; subst b2
      exact ⟨h.u_rule p1 p2 h.c13 h.c14, by rw [a1, b1]⟩
    all_goals exact absurd o2 o1
  · rcases q2 with ⟨o2, _⟩ | ⟨o2, g2, b1, b2, b3⟩ | ⟨o2, g2, _⟩
    · exact absurd o1 o2
    · exact ⟨h.u_rule p1 p2 (Int32.toInt_inj.mp (by rw [k7]; omega)) ⟨by rw [k0, a3, b3], k25⟩, Int32.toInt_inj.mp (by omega)⟩
    · exact absurd (g1.symm.trans g2) (by decide)
  · rcases q2 with ⟨o2, _⟩ | ⟨o2, g2, _⟩ | ⟨o2, g2, b1, b2, b3⟩
    · exact absurd o1 o2
    · exact absurd (g1.symm.trans g2) (by decide)
    · exact ⟨h.u_rule p1 p2 (Int32.toInt_inj.mp (by rw [k7]; omega)) ⟨by rw [k0, a3, b3], k25⟩, Int32.toInt_inj.mp (by omega)⟩
