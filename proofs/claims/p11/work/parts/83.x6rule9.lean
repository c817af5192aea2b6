theorem gA_2 {e d d2 : DD} {el dl l2 : LL} (s : St e el d dl) (s2 : St e el d2 l2) : gA d2 = gA d := (gA_st s2).trans (gA_st s).symm
theorem at_n {x : Int32} {q : Nat} (h : x.toInt = (q : Int)) : x.toNatClampNeg = q := by
  rw [clampI h]
  omega
theorem fn_X7_24 {n : Nat} (hn : 1000000000 ≤ n) {Q : Int32 → DD → LL → Prop} {k1 : Nat} (hk : k1 < 6) {x2 x3 xs : Int32} (b2 : 0 ≤ x2.toInt ∧ x2.toInt ≤ 7) {e : DD} {el dl : LL} {d : DD} {q : Nat} {E : Bool × Nat} (hS : St e el d dl) (hq : (d 24 1).toInt = (q : Int)) (hE : (x3 = -1 ∧ E = (false, q)) ∨ ((0 ≤ x3.toInt ∧ x3.toInt ≤ 5) ∧ E = tsS (gA d) q) ∨ (x3 = 6 ∧ E = if gA d q = 32 then tsF (gA d) (q + 1) else (false, q))) (hQ : ∀ (r : Int32) (dz : DD), St e el dz dl → PA E r dz → Q r dz dl) : b_X7_readTest_24 n Q k1 x2 x3 xs x2 k1 d dl := by
  have i2 : vp_in x2 8 := vin rfl (by omega) (by omega)
  refine ⟨i2, fun d6 e6 => ?_⟩
  have s6 : St e el d6 dl := by rw [e6]; exact pv_56 hS hk (vn_in _).1 (vn_in _).2
  have g6 : gA d6 = gA d := gA_2 hS s6
  have k6 : (d6 24 1).toInt = (q : Int) := by rw [e6, u2_row (by omega)]; exact hq
  refine ⟨fun h => ?_, fun h => ?_⟩
  · refine fn_X7_49 hn hk b2 s6 k6 ?_ hQ
    rw [g6]
    rcases hE with hE | hE | hE
    · exact Or.inl hE
    · exact Or.inr hE
    · exact absurd hE.1 h
  · have hE : E = if gA d q = 32 then tsF (gA d) (q + 1) else (false, q) := by
      rcases hE with ⟨e3, _⟩ | ⟨b3, _⟩ | hE
      · exact absurd (e3.symm.trans h) (by decide)
      · rw [h] at b3
        exact absurd b3.2 (by decide)
      · exact hE.2
    refine fn_X7_readBlank s6 (fun hb dz sz gz kz => ⟨fun w => absurd w (by decide), fun _ => ?_⟩) (fun hb => ⟨fun _ => ?_, fun w => absurd rfl w⟩)
    · rw [at_n k6, g6] at hb
      rw [if_pos hb] at hE
      have kz : (dz 24 1).toInt = ((q + 1 : Nat) : Int) := by rw [kz, k6]; omega
      refine fn_X7_readWord hn (x1 := 0) (x2 := 5) (by decide) ⟨by decide, by decide⟩ sz (fun r23 d24 q2 s24 k24 w => ?_)
      have w : RWs (gA dz) 0 5 (dz 24 1).toNatClampNeg r23 q2 := w
      rw [at_n kz, gz, g6] at w
      refine fn_X7_49 hn hk b2 s24 k24 ?_ hQ
      rw [gA_2 hS s24]
      rcases w with ⟨v, _, hv, hr, he⟩ | ⟨hr, h1, v, _, hv, he⟩
      · exact Or.inr ⟨by omega, by rw [hE]; exact word05y hv he⟩
      · exact Or.inl ⟨hr, by rw [hE]; exact word05n (fun v hv => h1 v (Nat.zero_le _) hv) ⟨v, hv, he⟩⟩
    · rw [at_n k6, g6] at hb
      rw [if_neg hb] at hE
      exact fn_X7_49 hn hk b2 s6 k6 (Or.inl ⟨rfl, hE⟩) hQ
theorem fn_X7_readTest {n : Nat} (hn : 1000000000 ≤ n) {Q : Int32 → DD → LL → Prop} {k1 : Nat} (hk : k1 < 6) {x2 : Int32} (b2 : 0 ≤ x2.toInt ∧ x2.toInt ≤ 7) {e : DD} {el dl : LL} {d : DD} {p : Nat} (hS : St e el d dl) (hp : (d 24 1).toInt = (p : Int)) (hQ : ∀ (r : Int32) (dz : DD), St e el dz dl → PA (tst (gA d) p) r dz → Q r dz dl) : F_X7_readTest n k1 x2 d dl Q := by
  refine fn_X7_readWord hn (x1 := 0) (x2 := 6) (by decide) ⟨by decide, by decide⟩ hS (fun r1 d2 q s2 k2 w => ?_)
  have w : RWs (gA d) 0 6 (d 24 1).toNatClampNeg r1 q := w
  rw [at_n hp] at w
  have hE : (r1 = -1 ∧ tst (gA d) p = (false, q)) ∨ ((0 ≤ r1.toInt ∧ r1.toInt ≤ 5) ∧ tst (gA d) p = tsS (gA d2) q) ∨ (r1 = 6 ∧ tst (gA d) p = if gA d2 q = 32 then tsF (gA d2) (q + 1) else (false, q)) := by
    rw [gA_2 hS s2]
    rcases w with ⟨v, _, hv, hr, he⟩ | ⟨hr, h1, v, _, hv, he⟩
    · by_cases h6 : v = 6
      · rw [h6] at he hr
        exact Or.inr (Or.inr ⟨(i_eq hr (rfl : (6 : Int32).toInt = 6)).mpr rfl, tst_6 he⟩)
      · exact Or.inr (Or.inl ⟨by omega, word06y (by omega) he⟩)
    · exact Or.inl ⟨hr, word06n (fun v hv => h1 v (Nat.zero_le _) hv) ⟨v, hv, he⟩⟩
  exact ⟨fun _ => fn_X7_24 hn hk b2 s2 k2 hE hQ, fun _ => fn_X7_24 hn hk b2 s2 k2 hE hQ⟩
theorem fn_X7_readJoint {n : Nat} (hn : 1000000000 ≤ n) {Q : Int32 → DD → LL → Prop} {k1 : Nat} (hk : k1 < 6) {x2 : Int32} (b2 : 0 ≤ x2.toInt ∧ x2.toInt ≤ 7) {e : DD} {el dl : LL} {d : DD} {p : Nat} (hS : St e el d dl) (hp : (d 24 1).toInt = (p : Int)) (hQ : ∀ (r : Int32) (dz : DD), St e el dz dl → PA (jnt (gA d) p) r dz → Q r dz dl) : F_X7_readJoint n k1 x2 d dl Q := by
  have i2 : vp_in x2 8 := vin rfl (by omega) (by omega)
  refine fn_X7_readBlank hS (fun hb dz sz gz kz => ⟨fun _ => ?_, fun w => absurd w (by decide)⟩) (fun hb => ⟨fun w => absurd rfl w, fun _ => ?_⟩)
  · rw [at_n hp] at hb
    have kz : (dz 24 1).toInt = ((p + 1 : Nat) : Int) := by rw [kz, hp]; omega
    refine fn_X7_readWord hn (x1 := 7) (x2 := 8) (by decide) ⟨by decide, by decide⟩ sz (fun r5 d6 q s6 k6 w => ?_)
    have w : RWs (gA dz) 7 8 (dz 24 1).toNatClampNeg r5 q := w
    rw [at_n kz, gz] at w
    have hE : (r5 = -1 ∧ jnt (gA d) p = (false, q)) ∨ (¬ r5 = -1 ∧ jnt (gA d) p = if gA d q = 32 then (true, q + 1) else (false, q)) := by
      rcases w with ⟨v, ha, hv, hr, he⟩ | ⟨hr, h1, v, ha, hv, he⟩
      · exact Or.inr ⟨m1r (by omega), word78y hb ha hv he⟩
      · exact Or.inl ⟨hr, word78n hb h1 ⟨v, ha, hv, he⟩⟩
    have go : ∀ xs : Int32, b_X7_readJoint_34 n Q r5 xs x2 k1 d6 dl := by
      intro xs
      refine ⟨i2, fun d10 e10 => ?_⟩
      have s10 : St e el d10 dl := by rw [e10]; exact pv_60 s6 hk (vn_in _).1 (vn_in _).2
      have k10 : (d10 24 1).toInt = (q : Int) := by rw [e10, u2_row (by omega)]; exact k6
      refine ⟨fun h => ?_, fun h => ?_⟩
      · rcases hE with ⟨_, hE⟩ | ⟨h2, _⟩
        · exact hQ 0 d10 s10 (Or.inr (by rw [hE]; exact ⟨rfl, rfl, k10⟩))
        · exact absurd h h2
      · rcases hE with ⟨h2, _⟩ | ⟨_, hE⟩
        · exact absurd h2 h
        refine fn_X7_readBlank s10 (fun hb2 dw sw gw kw => ⟨fun w => absurd w (by decide), fun _ => ?_⟩) (fun hb2 => ⟨fun _ => ?_, fun w => absurd rfl w⟩)
        · rw [at_n k10, gA_2 hS s10] at hb2
          rw [if_pos hb2] at hE
          exact hQ 1 dw sw (Or.inl (by rw [hE]; exact ⟨rfl, rfl, by rw [kw, k10]; show (q : Int) + 1 = ((q + 1 : Nat) : Int); omega⟩))
        · rw [at_n k10, gA_2 hS s10] at hb2
          rw [if_neg hb2] at hE
          exact hQ 0 d10 s10 (Or.inr (by rw [hE]; exact ⟨rfl, rfl, k10⟩))
    exact ⟨fun _ => go 0, fun _ => go 1⟩
  · rw [at_n hp] at hb
    refine hQ 0 d hS (Or.inr ?_)
    unfold jnt
    rw [if_neg hb]
    exact ⟨rfl, rfl, hp⟩
theorem fb_X7_readInto_19 {n : Nat} (hn : 1000000000 ≤ n) {Q : Int32 → DD → LL → Prop} {k1 : Nat} (hk : k1 < 6) {g : Nat → Int32} {N : Int} {e : DD} {el dl : LL} {E : Bool × Nat} (hQ : ∀ (r : Int32) (dz : DD), St e el dz dl → PA E r dz → Q r dz dl) : ∀ (j : Nat) (x2 : Int32) (p : Nat) (d : DD), St e el d dl → gA d = g → (d 24 0).toInt = N → 0 ≤ x2.toInt → x2.toInt ≤ 7 → (d 24 1).toInt = (p : Int) → (E = if (tst g p).1 = true then rlp g N (9 - x2.toNatClampNeg) (x2.toNatClampNeg + 1) (tst g p).2 else tst g p) → 9 ≤ x2.toInt + (j : Int) → b_X7_readInto_19 n Q j k1 x2 d dl := by
  intro j
  induction j with
  | zero =>
    intro x2 p d hS hg hN h0 h1 hp hE hm
    exfalso
    omega
  | succ j hK =>
    intro x2 p d hS hg hN h0 h1 hp hE hm
    show _ ∧ _
    have hx : x2.toNatClampNeg = x2.toInt.toNat := rfl
    refine ⟨fun h => ?_, fun h => ?_⟩
    · have h : 8 ≤ x2.toInt := (i_le (rfl : (8 : Int32).toInt = 8) rfl).mp h
      omega
    have t : (x2 + 1).toInt = x2.toInt + 1 := ti_add rfl (rfl : (1 : Int32).toInt = 1) (by omega) (by omega)
    have tn : (x2 + 1).toNatClampNeg = x2.toNatClampNeg + 1 := by rw [clampI t]; omega
    refine fn_X7_readTest hn hk ⟨h0, h1⟩ hS hp (fun r6 d7 s7 pz => ?_)
    rw [hg] at pz
    rcases pz with ⟨a, b, c⟩ | ⟨a, b, c⟩
    · rw [if_pos a] at hE
      refine ⟨fun _ d10 e10 => ?_, fun w => absurd (b.symm.trans w) (by decide)⟩
      have s10 : St e el d10 dl := by rw [e10]; exact pv_55_0 s7 hk (by rw [t]; omega) (by rw [t]; omega)
      have k1' : (d10 24 1).toInt = ((tst g p).2 : Int) := by rw [e10, u2_row (by omega)]; exact c
      have k0 : (d10 24 0).toInt = N := by rw [s10.2.1 24 0 rfl, ← hS.2.1 24 0 rfl]; exact hN
      have g10' : gA d10 = g := by rw [gA_2 hS s10]; exact hg
      have hz : 9 - x2.toNatClampNeg = (9 - (x2 + 1).toNatClampNeg) + 1 := by omega
      rw [hz, ← tn] at hE
      generalize (tst g p).2 = p2 at *
      have hE : E = if N ≤ (p2 : Int) then (true, p2) else if (x2 + 1).toNatClampNeg = 8 then (false, p2) else if (jnt g p2).1 = true then (if (tst g (jnt g p2).2).1 = true then rlp g N (9 - (x2 + 1).toNatClampNeg) ((x2 + 1).toNatClampNeg + 1) (tst g (jnt g p2).2).2 else tst g (jnt g p2).2) else jnt g p2 := hE
      refine ⟨fun h2 => ?_, fun h2 => ?_⟩
      · have h2 : (d10 24 1).toInt < (d10 24 0).toInt := (i_lt rfl rfl).mp h2
        rw [if_neg (by omega)] at hE
        refine ⟨fun h3 => ?_, fun h3 => ?_⟩
        · have h3 : 8 ≤ x2.toInt + 1 := (i_le (rfl : (8 : Int32).toInt = 8) t).mp h3
          rw [if_pos (by omega)] at hE
          exact hQ 0 d10 s10 (Or.inr (by rw [hE]; exact ⟨rfl, rfl, k1'⟩))
        · have h3 : ¬ 8 ≤ x2.toInt + 1 := fun q => h3 ((i_le (rfl : (8 : Int32).toInt = 8) t).mpr q)
          rw [if_neg (by omega)] at hE
          refine fn_X7_readJoint hn hk ⟨by omega, by omega⟩ s10 k1' (fun r13 d14 s14 pz => ?_)
          rw [g10'] at pz
          rcases pz with ⟨a2, b2, c2⟩ | ⟨a2, b2, c2⟩
          · rw [if_pos a2] at hE
            refine ⟨fun _ => ?_, fun w => absurd (b2.symm.trans w) (by decide)⟩
            exact hK _ (jnt g p2).2 _ s14 (by rw [gA_2 hS s14]; exact hg) (by rw [s14.2.1 24 0 rfl, ← hS.2.1 24 0 rfl]; exact hN) (by omega) (by omega) c2 hE (by omega)
          · rw [if_neg (by rw [a2]; decide)] at hE
            refine ⟨fun w => absurd b2 w, fun _ => hQ 0 d14 s14 (Or.inr ?_)⟩
            rw [hE]
            exact ⟨a2, rfl, c2⟩
      · have h2 : ¬ (d10 24 1).toInt < (d10 24 0).toInt := fun q => h2 ((i_lt rfl rfl).mpr q)
        rw [if_pos (by omega)] at hE
        exact hQ 1 d10 s10 (Or.inl (by rw [hE]; exact ⟨rfl, rfl, k1'⟩))
    · rw [if_neg (by rw [a]; decide)] at hE
      refine ⟨fun w => absurd b w, fun _ => hQ 0 d7 s7 (Or.inr ?_)⟩
      rw [hE]
      exact ⟨a, rfl, c⟩
theorem fn_X7_readInto {n : Nat} (hn : 1000000000 ≤ n) {Q : Int32 → DD → LL → Prop} {k1 : Nat} (hk : k1 < 6) {d : DD} {dl : LL} (hI : Inv d) (hQ : ∀ (r : Int32) (dz : DD), St d dl dz dl → PA (rul (gA d) (d 24 0).toInt) r dz → Q r dz dl) : F_X7_readInto n k1 d dl Q := by
  intro d1 e1 d2 e2 d4 e4
  have s1 : St d dl d1 dl := by rw [e1]; exact pv_24_1 (St.rf hI) (by decide) (by decide)
  have s2 : St d dl d2 dl := by rw [e2]; exact pv_55_0 s1 hk (by decide) (by decide)
  have s4 : St d dl d4 dl := by rw [e4]; exact pv_60 s2 hk (vn_in _).1 (vn_in _).2
  refine fb_X7_readInto_19 hn hk hQ n 0 0 d4 s4 (gA_st s4) (by rw [s4.2.1 24 0 rfl]) (show (0 : Int) ≤ 0 by omega) (show (0 : Int) ≤ 7 by omega) ?_ rfl (show (9 : Int) ≤ 0 + (n : Int) by omega)
  rw [e4, u2_row (by omega), e2, u2_row (by omega), e1, u2_eq]
  rfl
def RuleP9 (d dz : DD) (r : Int32) : Prop :=
  (¬ (d 0 7).toInt < 6 ∧ r = -4 ∧ dz = d) ∨ ((d 0 7).toInt < 6 ∧ (rul (gA d) (d 24 0).toInt).1 = true ∧ r.toInt = (d 0 7).toInt ∧ (dz 0 7).toInt = (d 0 7).toInt + 1 ∧ dz 24 0 = 0) ∨ ((d 0 7).toInt < 6 ∧ (rul (gA d) (d 24 0).toInt).1 = false ∧ r.toInt = -10 - ((rul (gA d) (d 24 0).toInt).2 : Int) ∧ (dz 0 7).toInt = (d 0 7).toInt ∧ dz 24 0 = 0)
theorem sp_X9_rule {n : Nat} (hn : 1000000000 ≤ n) {d : DD} {dl : LL} (hI : Inv d) {Q : Int32 → DD → LL → Prop} (hQ : ∀ (r : Int32) (d2 : DD) (l2 : LL), StS d dl d2 l2 ∧ RuleP9 d d2 r → Q r d2 l2) : F_X9_rule n d dl Q := by
  have m := iv_0_7 hI
  refine ⟨fun h => ?_, fun h => ?_⟩
  · have h : (d 0 7).toInt < 6 := (i_lt rfl (rfl : (6 : Int32).toInt = 6)).mp h
    have hi : vp_in (d 0 7) 6 := vin rfl (by omega) (by omega)
    refine ⟨hi, fun k3 e3 => ?_⟩
    subst e3
    refine fn_X7_readInto hn (clamp_in hi) hI (fun r4 d5 s5 pz => ?_)
    intro d7 e7
    have t5 : StS d dl d5 dl := (StP.rf hI).tr le_StS_St s5
    have s7 : StS d dl d7 dl := by rw [e7]; exact pw_24_0 t5 (by decide) (by decide) rfl
    have k7 : d7 0 7 = d 0 7 := by rw [e7, u2_row (by omega)]; exact s5.2.1 0 7 rfl
    have a7 : d7 24 1 = d5 24 1 := by rw [e7, u2_ne (Or.inr (by omega))]
    have z7 : d7 24 0 = 0 := by rw [e7, u2_eq]
    rcases pz with ⟨a, b, c⟩ | ⟨a, b, c⟩
    · refine ⟨fun _ d9 e9 => ?_, fun w => absurd (b.symm.trans w) (by decide)⟩
      have t : ((d7 0 7) + 1).toInt = (d 0 7).toInt + 1 := ti_add (by rw [k7]) (rfl : (1 : Int32).toInt = 1) (by omega) (by omega)
      have s9 : StS d dl d9 dl := by rw [e9]; exact pw_0_7 s7 (by rw [t]; omega) (by rw [t]; omega) rfl
      have k9 : (d9 0 7).toInt = (d 0 7).toInt + 1 := by rw [e9, u2_eq, t]
      refine hQ _ _ _ ⟨s9, Or.inr (Or.inl ⟨h, a, ?_, k9, by rw [e9, u2_row (by omega)]; exact z7⟩)⟩
      have t2 : ((d9 0 7) - 1).toInt = ((d 0 7).toInt + 1) - 1 := ti_sub k9 (rfl : (1 : Int32).toInt = 1) (by omega) (by omega)
      rw [t2]
      omega
    · refine ⟨fun w => absurd b w, fun _ => ?_⟩
      have mat := iv_24_1 s5.1
      refine hQ _ _ _ ⟨s7, Or.inr (Or.inr ⟨h, a, ?_, by rw [k7], z7⟩)⟩
      rw [ti_sub (a := (-10 : Int32)) (b := d7 24 1) (p := -10) (q := (d5 24 1).toInt) rfl (by rw [a7]) (by omega) (by omega), c]
  · have h : ¬ (d 0 7).toInt < 6 := fun q => h ((i_lt rfl (rfl : (6 : Int32).toInt = 6)).mpr q)
    exact hQ _ _ _ ⟨StP.rf hI, Or.inl ⟨h, rfl, rfl⟩⟩
