theorem gA_2 {e d d2 : DD} {el dl l2 : LL} (s : St e el d dl) (s2 : St e el d2 l2) : gA d2 = gA d := (gA_st s2).trans (gA_st s).symm
theorem inc1' {x : Int32} {s : Nat} (h : x.toInt = (s : Int)) (h2 : s ≤ 100000) : (x + 1).toInt = ((s + 1 : Nat) : Int) := by
  have t : (x + 1).toInt = (s : Int) + 1 := ti_add h (rfl : (1 : Int32).toInt = 1) (by omega) (by omega)
  rw [t]
  omega
theorem at_n {x : Int32} {q : Nat} (h : x.toInt = (q : Int)) : x.toNatClampNeg = q := by
  rw [clampI h]
  omega
theorem TV9.k {g : Nat → Int32} {p k t : Nat} {d d2 : DD} (h : TV9 g p k t d) (h6 : d2 (56 + 6 * k) t = d (56 + 6 * k) t) (h7 : d2 (57 + 6 * k) t = d (57 + 6 * k) t) (h8 : d2 (58 + 6 * k) t = d (58 + 6 * k) t) (h9 : d2 (59 + 6 * k) t = d (59 + 6 * k) t) : TV9 g p k t d2 := by
  unfold TV9
  rw [h6, h7, h8, h9]
  exact h
theorem fn_X7_24 {n : Nat} (hn : 1000000000 ≤ n) {Q : Int32 → DD → LL → Prop} {k1 : Nat} (hk : k1 < 6) {x2 x3 xs : Int32} (b2 : 0 ≤ x2.toInt ∧ x2.toInt ≤ 7) {dl : LL} {d : DD} {p q : Nat} {E : Bool × Nat} (hI : Inv d) (hq : (d 24 1).toInt = (q : Int)) (hE : (x3 = -1 ∧ E = (false, q)) ∨ ((0 ≤ x3.toInt ∧ x3.toInt ≤ 5) ∧ E = tsS (gA d) q ∧ x3.toInt = (wd (gA d) (fp (gA d) p) : Int) ∧ pz (gA d) (fp (gA d) p) = q ∧ vp_nar .boolean xs = (if gA d p = 110 then 1 else 0)) ∨ (x3 = 6 ∧ E = (if gA d q = 32 then tsF (gA d) (q + 1) else (false, q)) ∧ fp (gA d) p = q + 1 ∧ vp_nar .boolean xs = (if gA d p = 110 then 1 else 0))) (hQ : ∀ (r : Int32) (dz : DD), SV (WT k1 x2.toNatClampNeg) d dl dz dl → PA E r dz → (E.1 = true → TV9 (gA d) p k1 x2.toNatClampNeg dz) → Q r dz dl) : b_X7_readTest_24 n Q k1 x2 x3 xs x2 k1 d dl := by
  have i2 : vp_in x2 8 := vin rfl (by omega) (by omega)
  refine ⟨i2, fun d6 e6 => ?_⟩
  have s6 : SV (WT k1 x2.toNatClampNeg) d dl d6 dl := by rw [e6]; exact (SV.rf hI).put (pw_56 (P := pN) (dl := dl) (StP.rf hI) hk (vn_in _).1 (vn_in _).2 rfl).1 (Or.inl ⟨by omega, by omega, rfl⟩)
  have g6 : gA d6 = gA d := gA_sv s6 WT_55
  have k6 : (d6 24 1).toInt = (q : Int) := by rw [e6, u2_row (by omega)]; exact hq
  have v6 : d6 (56 + 6 * k1) x2.toNatClampNeg = vp_nar .boolean xs := by rw [e6, u2_eq]
  refine ⟨fun h => ?_, fun h => ?_⟩
  · rcases hE with hE | hE | hE
    · refine fn_X7_49 hn hk b2 s6.1 k6 (Or.inl hE) (fun r dz sz pz tz => hQ r dz (s6.tr sz (fun _ _ w => w)) pz (fun w => ?_))
      rw [hE.2] at w
      exact absurd (show false = true from w) (by decide)
    · obtain ⟨b3, hE, hw, hz, hB⟩ := hE
      refine fn_X7_49 hn hk b2 s6.1 k6 (Or.inr ⟨b3, by rw [g6]; exact hE⟩) (fun r dz sz pz tz => hQ r dz (s6.tr sz (fun _ _ w => w)) pz (fun w => ?_))
      obtain ⟨a1, a2, a3, a4, a5⟩ := tz w
      rw [g6] at a3 a4 a5
      unfold TV9
      rw [hz]
      exact ⟨by rw [a1, v6, hB], by rw [a2]; exact hw, a3, a4, a5⟩
    · exact absurd hE.1 h
  · have hE : E = (if gA d q = 32 then tsF (gA d) (q + 1) else (false, q)) ∧ fp (gA d) p = q + 1 ∧ vp_nar .boolean xs = (if gA d p = 110 then 1 else 0) := by
      rcases hE with ⟨e3, _⟩ | ⟨b3, _⟩ | hE
      · exact absurd (e3.symm.trans h) (by decide)
      · rw [h] at b3
        exact absurd b3.2 (by decide)
      · exact hE.2
    obtain ⟨hE, hfp, hB⟩ := hE
    refine fn_X7_readBlank (St.rf s6.1) (fun hb dz sz gz kz => ⟨fun w => absurd w (by decide), fun _ => ?_⟩) (fun hb => ⟨fun _ => ?_, fun w => absurd rfl w⟩)
    · rw [at_n k6, g6] at hb
      rw [if_pos hb] at hE
      have kz : (dz 24 1).toInt = ((q + 1 : Nat) : Int) := by rw [kz, k6]; omega
      have sz' : SV (WT k1 x2.toNatClampNeg) d dl dz dl := s6.st sz
      refine fn_X7_readWord hn (x1 := 0) (x2 := 5) (by decide) ⟨by decide, by decide⟩ (St.rf sz.1) (fun r23 d24 q2 s24 k24 w => ?_)
      have w : RWs (gA dz) 0 5 (dz 24 1).toNatClampNeg r23 q2 := w
      rw [at_n kz, gz, g6] at w
      have s24' : SV (WT k1 x2.toNatClampNeg) d dl d24 dl := sz'.st s24
      have g24 : gA d24 = gA d := gA_sv s24' WT_55
      have v24 : d24 (56 + 6 * k1) x2.toNatClampNeg = vp_nar .boolean xs := by rw [s24.2.1 (56 + 6 * k1) _ (by rw [rg_56 hk]; rfl), sz.2.1 (56 + 6 * k1) _ (by rw [rg_56 hk]; rfl)]; exact v6
      rcases w with ⟨v, _, hv, hr, he⟩ | ⟨hr, h1, v, _, hv, he⟩
      · refine fn_X7_49 hn hk b2 s24.1 k24 (Or.inr ⟨by omega, by rw [g24, hE]; exact word05y hv he⟩) (fun r dw sw pw tw => hQ r dw (s24'.tr sw (fun _ _ w => w)) pw (fun w => ?_))
        obtain ⟨a1, a2, a3, a4, a5⟩ := tw w
        rw [g24] at a3 a4 a5
        unfold TV9
        rw [hfp, pz_y hv he, wd_y hv he]
        exact ⟨by rw [a1, v24, hB], by rw [a2]; exact hr, a3, a4, a5⟩
      · have hE2 : E = (false, q2) := by rw [hE]; exact word05n (fun v hv => h1 v (Nat.zero_le _) hv) ⟨v, hv, he⟩
        refine fn_X7_49 hn hk b2 s24.1 k24 (Or.inl ⟨hr, hE2⟩) (fun r dw sw pw tw => hQ r dw (s24'.tr sw (fun _ _ w => w)) pw (fun w => ?_))
        rw [hE2] at w
        exact absurd (show false = true from w) (by decide)
    · rw [at_n k6, g6] at hb
      rw [if_neg hb] at hE
      refine fn_X7_49 hn hk b2 s6.1 k6 (Or.inl ⟨rfl, hE⟩) (fun r dz sz pz tz => hQ r dz (s6.tr sz (fun _ _ w => w)) pz (fun w => ?_))
      rw [hE] at w
      exact absurd (show false = true from w) (by decide)
theorem fn_X7_readTest {n : Nat} (hn : 1000000000 ≤ n) {Q : Int32 → DD → LL → Prop} {k1 : Nat} (hk : k1 < 6) {x2 : Int32} (b2 : 0 ≤ x2.toInt ∧ x2.toInt ≤ 7) {dl : LL} {d : DD} {p : Nat} (hI : Inv d) (hp : (d 24 1).toInt = (p : Int)) (hQ : ∀ (r : Int32) (dz : DD), SV (WT k1 x2.toNatClampNeg) d dl dz dl → PA (tst (gA d) p) r dz → ((tst (gA d) p).1 = true → TV9 (gA d) p k1 x2.toNatClampNeg dz) → Q r dz dl) : F_X7_readTest n k1 x2 d dl Q := by
  refine fn_X7_readWord hn (x1 := 0) (x2 := 6) (by decide) ⟨by decide, by decide⟩ (St.rf hI) (fun r1 d2 q s2 k2 w => ?_)
  have w : RWs (gA d) 0 6 (d 24 1).toNatClampNeg r1 q := w
  rw [at_n hp] at w
  have g2 : gA d2 = gA d := gA_st s2
  have sv : SV (WT k1 x2.toNatClampNeg) d dl d2 dl := (SV.rf hI).st s2
  have go : ∀ xs : Int32, ((r1 = -1 ∧ tst (gA d) p = (false, q)) ∨ ((0 ≤ r1.toInt ∧ r1.toInt ≤ 5) ∧ tst (gA d) p = tsS (gA d2) q ∧ r1.toInt = (wd (gA d2) (fp (gA d2) p) : Int) ∧ pz (gA d2) (fp (gA d2) p) = q ∧ vp_nar .boolean xs = (if gA d2 p = 110 then 1 else 0)) ∨ (r1 = 6 ∧ tst (gA d) p = (if gA d2 q = 32 then tsF (gA d2) (q + 1) else (false, q)) ∧ fp (gA d2) p = q + 1 ∧ vp_nar .boolean xs = (if gA d2 p = 110 then 1 else 0))) → b_X7_readTest_24 n Q k1 x2 r1 xs x2 k1 d2 dl := fun xs hE =>
    fn_X7_24 hn hk b2 s2.1 k2 hE (fun r dz sz pz tz => hQ r dz (sv.tr sz (fun _ _ w => w)) pz (fun w => by have := tz w; rw [g2] at this; exact this))
  rw [g2] at go
  refine ⟨fun h6 => go 0 ?_, fun h6 => go 1 ?_⟩
  · rcases w with ⟨v, _, hv, hr, he⟩ | ⟨hr, h1, v, _, hv, he⟩
    · by_cases h : v = 6
      · rw [h] at hr
        exact absurd ((i_eq hr (rfl : (6 : Int32).toInt = 6)).mpr rfl) h6
      · have np := fp_v (show v ≤ 5 by omega) he
        have hfp : fp (gA d) p = p := if_neg np
        refine Or.inr (Or.inl ⟨by omega, word06y (by omega) he, ?_, ?_, ?_⟩)
        · rw [hfp, wd_y (show v ≤ 5 by omega) he]; exact hr
        · rw [hfp]; exact pz_y (show v ≤ 5 by omega) he
        · rw [if_neg np]; decide
    · exact Or.inl ⟨hr, word06n (fun v hv => h1 v (Nat.zero_le _) hv) ⟨v, hv, he⟩⟩
  · rcases w with ⟨v, _, hv, hr, he⟩ | ⟨hr, h1, v, _, hv, he⟩
    · have hv6 : v = 6 := by
        rw [h6] at hr
        have : (6 : Int) = (v : Int) := hr
        omega
      rw [hv6] at he
      have f6 := fp_6 he
      refine Or.inr (Or.inr ⟨h6, tst_6 he, ?_, ?_⟩)
      · unfold fp
        rw [if_pos f6.1, f6.2]
      · rw [if_pos f6.1]; decide
    · exact absurd (hr.symm.trans h6) (by decide)
def WJ (k t i j : Nat) : Prop := i = 60 + 6 * k ∧ j = t
def WR (k i _j : Nat) : Prop := 55 + 6 * k ≤ i ∧ i ≤ 60 + 6 * k
theorem fn_X7_readJoint {n : Nat} (hn : 1000000000 ≤ n) {Q : Int32 → DD → LL → Prop} {k1 : Nat} (hk : k1 < 6) {x2 : Int32} (b2 : 0 ≤ x2.toInt ∧ x2.toInt ≤ 7) {dl : LL} {d : DD} {p : Nat} (hI : Inv d) (hp : (d 24 1).toInt = (p : Int)) (hQ : ∀ (r : Int32) (dz : DD), SV (WJ k1 x2.toNatClampNeg) d dl dz dl → PA (jnt (gA d) p) r dz → ((jnt (gA d) p).1 = true → dz (60 + 6 * k1) x2.toNatClampNeg = (if gA d (p + 1) = 111 then 1 else 0)) → Q r dz dl) : F_X7_readJoint n k1 x2 d dl Q := by
  have i2 : vp_in x2 8 := vin rfl (by omega) (by omega)
  refine fn_X7_readBlank (St.rf hI) (fun hb dz sz gz kz => ⟨fun _ => ?_, fun w => absurd w (by decide)⟩) (fun hb => ⟨fun w => absurd rfl w, fun _ => ?_⟩)
  · rw [at_n hp] at hb
    have kz : (dz 24 1).toInt = ((p + 1 : Nat) : Int) := by rw [kz, hp]; omega
    refine fn_X7_readWord hn (x1 := 7) (x2 := 8) (by decide) ⟨by decide, by decide⟩ (St.rf sz.1) (fun r5 d6 q s6 k6 w => ?_)
    have w : RWs (gA dz) 7 8 (dz 24 1).toNatClampNeg r5 q := w
    rw [at_n kz, gz] at w
    have sv6 : SV (WJ k1 x2.toNatClampNeg) d dl d6 dl := ((SV.rf hI).st sz).st s6
    have go : ∀ xs : Int32, ((r5 = -1 ∧ jnt (gA d) p = (false, q)) ∨ (¬ r5 = -1 ∧ jnt (gA d) p = (if gA d q = 32 then (true, q + 1) else (false, q)) ∧ vp_nar .boolean xs = (if gA d (p + 1) = 111 then 1 else 0))) → b_X7_readJoint_34 n Q r5 xs x2 k1 d6 dl := by
      intro xs hE
      refine ⟨i2, fun d10 e10 => ?_⟩
      have s10 : SV (WJ k1 x2.toNatClampNeg) d dl d10 dl := by rw [e10]; exact sv6.put (pw_60 (P := pN) (dl := dl) (StP.rf sv6.1) hk (vn_in _).1 (vn_in _).2 rfl).1 (Or.inl ⟨rfl, rfl⟩)
      have g10' : gA d10 = gA d := gA_sv s10 (fun i j w => by have := w.1; omega)
      have k10 : (d10 24 1).toInt = (q : Int) := by rw [e10, u2_row (by omega)]; exact k6
      have v10 : d10 (60 + 6 * k1) x2.toNatClampNeg = vp_nar .boolean xs := by rw [e10, u2_eq]
      refine ⟨fun h => ?_, fun h => ?_⟩
      · rcases hE with ⟨_, hE⟩ | ⟨h2, _⟩
        · exact hQ 0 d10 s10 (Or.inr (by rw [hE]; exact ⟨rfl, rfl, k10⟩)) (fun w => by rw [hE] at w; exact absurd (show false = true from w) (by decide))
        · exact absurd h h2
      · rcases hE with ⟨h2, _⟩ | ⟨_, hE, hB⟩
        · exact absurd h2 h
        refine fn_X7_readBlank (St.rf s10.1) (fun hb2 dw sw gw kw => ⟨fun w => absurd w (by decide), fun _ => ?_⟩) (fun hb2 => ⟨fun _ => ?_, fun w => absurd rfl w⟩)
        · rw [at_n k10, g10'] at hb2
          rw [if_pos hb2] at hE
          exact hQ 1 dw (s10.st sw) (Or.inl (by rw [hE]; exact ⟨rfl, rfl, by rw [kw, k10]; show (q : Int) + 1 = ((q + 1 : Nat) : Int); omega⟩)) (fun _ => by rw [sw.2.1 (60 + 6 * k1) _ (by rw [rg_60 hk]; rfl), v10, hB])
        · rw [at_n k10, g10'] at hb2
          rw [if_neg hb2] at hE
          exact hQ 0 d10 s10 (Or.inr (by rw [hE]; exact ⟨rfl, rfl, k10⟩)) (fun w => by rw [hE] at w; exact absurd (show false = true from w) (by decide))
    refine ⟨fun h7 => go 0 ?_, fun h7 => go 1 ?_⟩
    · rcases w with ⟨v, ha, hv, hr, he⟩ | ⟨hr, h1, v, ha, hv, he⟩
      · have hv8 : v = 8 := by
          by_cases hv7 : v = 7
          · rw [hv7] at hr
            exact absurd ((i_eq hr (rfl : (7 : Int32).toInt = 7)).mpr rfl) h7
          · omega
        refine Or.inr ⟨m1r (by omega), word78y hb ha hv he, ?_⟩
        rw [hv8] at he
        have e97 : gA d (p + 1) = 97 := (ex_hd he).1
        rw [e97]
        decide
      · exact Or.inl ⟨hr, word78n hb h1 ⟨v, ha, hv, he⟩⟩
    · rcases w with ⟨v, ha, hv, hr, he⟩ | ⟨hr, h1, v, ha, hv, he⟩
      · have hv7 : v = 7 := by
          rw [h7] at hr
          have : (7 : Int) = (v : Int) := hr
          omega
        refine Or.inr ⟨m1r (by omega), word78y hb ha hv he, ?_⟩
        rw [hv7] at he
        rw [if_pos (show gA d (p + 1) = 111 from (ex_hd he).1)]
        decide
      · exact absurd (hr.symm.trans h7) (by decide)
  · rw [at_n hp] at hb
    have hj : jnt (gA d) p = (false, p) := by
      unfold jnt
      rw [if_neg hb]
    refine hQ 0 d (SV.rf hI) (Or.inr ?_) (fun w => ?_)
    · rw [hj]
      exact ⟨rfl, rfl, hp⟩
    · rw [hj] at w
      exact absurd (show false = true from w) (by decide)
def psn (g : Nat → Int32) : Nat → Nat
  | 0 => 0
  | s + 1 => (jnt g (tst g (psn g s)).2).2
def orb (g : Nat → Int32) : Nat → Int32
  | 0 => 0
  | s + 1 => if g ((tst g (psn g s)).2 + 1) = 111 then 1 else 0
def TR9 (g : Nat → Int32) (N : Int) (k : Nat) (dz : DD) : Prop := ∃ m : Nat, m < 8 ∧ (dz (55 + 6 * k) 0).toInt = (m : Int) + 1 ∧ (∀ s, s < m → ¬ N ≤ ((tst g (psn g s)).2 : Int)) ∧ N ≤ ((tst g (psn g m)).2 : Int) ∧ ∀ s, s ≤ m → TV9 g (psn g s) k s dz ∧ dz (60 + 6 * k) s = orb g s
theorem WT_WR {k t : Nat} : ∀ i j, WT k t i j → WR k i j := fun i j w => ⟨by have := w.1; omega, by have := w.2.1; omega⟩
theorem WJ_WR {k t : Nat} : ∀ i j, WJ k t i j → WR k i j := fun i j w => ⟨by have := w.1; omega, by have := w.1; omega⟩
theorem WR_55 {k : Nat} : ∀ i j, WR k i j → 55 ≤ i := fun i j w => by have := w.1; omega
theorem fb_X7_readInto_19 {n : Nat} (hn : 1000000000 ≤ n) {Q : Int32 → DD → LL → Prop} {k1 : Nat} (hk : k1 < 6) {g : Nat → Int32} {N : Int} {e : DD} {el dl : LL} {E : Bool × Nat} (hQ : ∀ (r : Int32) (dz : DD), SV (WR k1) e el dz dl → PA E r dz → (E.1 = true → TR9 g N k1 dz) → Q r dz dl) : ∀ (j : Nat) (x2 : Int32) (s : Nat) (d : DD), SV (WR k1) e el d dl → gA d = g → (d 24 0).toInt = N → x2.toInt = (s : Int) → s ≤ 7 → (d 24 1).toInt = (psn g s : Int) → (E = if (tst g (psn g s)).1 = true then rlp g N (9 - s) (s + 1) (tst g (psn g s)).2 else tst g (psn g s)) → (∀ u, u < s → ¬ N ≤ ((tst g (psn g u)).2 : Int)) → (∀ u, u < s → TV9 g (psn g u) k1 u d) → (∀ u, u ≤ s → d (60 + 6 * k1) u = orb g u) → 9 ≤ s + j → b_X7_readInto_19 n Q j k1 x2 d dl := by
  intro j
  induction j with
  | zero =>
    intro x2 s d hS hg hN h0 h1 hp hE hmin htx hor hm
    exfalso
    omega
  | succ j hK =>
    intro x2 s d hS hg hN h0 h1 hp hE hmin htx hor hm
    show _ ∧ _
    have hx : x2.toNatClampNeg = s := at_n h0
    refine ⟨fun h => ?_, fun h => ?_⟩
    · have h : 8 ≤ x2.toInt := (i_le (rfl : (8 : Int32).toInt = 8) rfl).mp h
      omega
    have t : (x2 + 1).toInt = ((s + 1 : Nat) : Int) := inc1' h0 (by omega)
    have tn : (x2 + 1).toNatClampNeg = s + 1 := at_n t
    refine fn_X7_readTest hn hk ⟨by omega, by omega⟩ hS.1 hp (fun r6 d7 s7 pz tz => ?_)
    rw [hg, hx] at tz
    rw [hg] at pz
    rw [hx] at s7
    have sv7 : SV (WR k1) e el d7 dl := hS.tr s7 WT_WR
    rcases pz with ⟨a, b, c⟩ | ⟨a, b, c⟩
    · rw [if_pos a] at hE
      have tz := tz a
      refine ⟨fun _ d10 e10 => ?_, fun w => absurd (b.symm.trans w) (by decide)⟩
      have s10 : SV (WR k1) e el d10 dl := by rw [e10]; exact sv7.put (pw_55_0 (P := pN) (dl := dl) (StP.rf sv7.1) hk (by rw [t]; omega) (by rw [t]; omega) rfl).1 (Or.inl ⟨by omega, by omega⟩)
      have k1' : (d10 24 1).toInt = ((tst g (psn g s)).2 : Int) := by rw [e10, u2_row (by omega)]; exact c
      have k0 : (d10 24 0).toInt = N := by rw [s10.2.1 24 0 rfl (fun w => by have := w.1; omega), ← hS.2.1 24 0 rfl (fun w => by have := w.1; omega)]; exact hN
      have g10' : gA d10 = g := by rw [gA_sv s10 WR_55, ← gA_sv hS WR_55]; exact hg
      have c10 : (d10 (55 + 6 * k1) 0).toInt = (s : Int) + 1 := by rw [e10, u2_eq, t]; omega
      have r10 : ∀ i u, 56 + 6 * k1 ≤ i → i ≤ 60 + 6 * k1 → d10 i u = d7 i u := fun i u a b => by rw [e10, u2_row (by omega)]
      have x10 : ∀ u, u ≤ s → TV9 g (psn g u) k1 u d10 := by
        intro u hu
        by_cases he : u = s
        · rw [he]
          exact tz.k (r10 _ _ (by omega) (by omega)) (r10 _ _ (by omega) (by omega)) (r10 _ _ (by omega) (by omega)) (r10 _ _ (by omega) (by omega))
        · exact (htx u (by omega)).k (by rw [r10 _ _ (by omega) (by omega)]; exact s7.2.1 _ _ (by rw [rg_56 hk]; rfl) (fun w => he w.2.2)) (by rw [r10 _ _ (by omega) (by omega)]; exact s7.2.1 _ _ (by rw [rg_57 hk]; rfl) (fun w => he w.2.2)) (by rw [r10 _ _ (by omega) (by omega)]; exact s7.2.1 _ _ (by rw [rg_58 hk]; rfl) (fun w => he w.2.2)) (by rw [r10 _ _ (by omega) (by omega)]; exact s7.2.1 _ _ (by rw [rg_59 hk]; rfl) (fun w => he w.2.2))
      have o10 : ∀ u, u ≤ s → d10 (60 + 6 * k1) u = orb g u := by
        intro u hu
        rw [r10 _ _ (by omega) (by omega), s7.2.1 (60 + 6 * k1) u (by rw [rg_60 hk]; rfl) (fun w => by have := w.2.1; omega)]
        exact hor u hu
      have hz : 9 - s = (8 - s) + 1 := by omega
      rw [hz] at hE
      have hE : E = if N ≤ ((tst g (psn g s)).2 : Int) then (true, (tst g (psn g s)).2) else if s + 1 = 8 then (false, (tst g (psn g s)).2) else if (jnt g (tst g (psn g s)).2).1 = true then (if (tst g (psn g (s + 1))).1 = true then rlp g N (8 - s) (s + 1 + 1) (tst g (psn g (s + 1))).2 else tst g (psn g (s + 1))) else jnt g (tst g (psn g s)).2 := hE
      refine ⟨fun h2 => ?_, fun h2 => ?_⟩
      · have h2 : (d10 24 1).toInt < (d10 24 0).toInt := (i_lt rfl rfl).mp h2
        rw [if_neg (by omega)] at hE
        refine ⟨fun h3 => ?_, fun h3 => ?_⟩
        · have h3 : 8 ≤ ((s + 1 : Nat) : Int) := (i_le (rfl : (8 : Int32).toInt = 8) t).mp h3
          rw [if_pos (by omega)] at hE
          exact hQ 0 d10 s10 (Or.inr (by rw [hE]; exact ⟨rfl, rfl, k1'⟩)) (fun w => by rw [hE] at w; exact absurd (show false = true from w) (by decide))
        · have h3 : ¬ 8 ≤ ((s + 1 : Nat) : Int) := fun q => h3 ((i_le (rfl : (8 : Int32).toInt = 8) t).mpr q)
          rw [if_neg (by omega)] at hE
          refine fn_X7_readJoint hn hk ⟨by omega, by omega⟩ s10.1 k1' (fun r13 d14 s14 pz jz => ?_)
          rw [g10'] at pz jz
          rw [tn] at s14 jz
          have sv14 : SV (WR k1) e el d14 dl := s10.tr s14 WJ_WR
          rcases pz with ⟨a2, b2, c2⟩ | ⟨a2, b2, c2⟩
          · rw [if_pos a2] at hE
            refine ⟨fun _ => ?_, fun w => absurd (b2.symm.trans w) (by decide)⟩
            refine hK _ (s + 1) d14 sv14 (by rw [gA_sv sv14 WR_55, ← gA_sv hS WR_55]; exact hg) (by rw [sv14.2.1 24 0 rfl (fun w => by have := w.1; omega), ← hS.2.1 24 0 rfl (fun w => by have := w.1; omega)]; exact hN) t (by omega) c2 (by rw [show 9 - (s + 1) = 8 - s by omega]; exact hE) (fun u hu => ?_) (fun u hu => ?_) (fun u hu => ?_) (by omega)
            · by_cases he : u = s
              · rw [he]; omega
              · exact hmin u (by omega)
            · exact (x10 u (by omega)).k (s14.2.1 _ _ (by rw [rg_56 hk]; rfl) (fun w => by have := w.1; omega)) (s14.2.1 _ _ (by rw [rg_57 hk]; rfl) (fun w => by have := w.1; omega)) (s14.2.1 _ _ (by rw [rg_58 hk]; rfl) (fun w => by have := w.1; omega)) (s14.2.1 _ _ (by rw [rg_59 hk]; rfl) (fun w => by have := w.1; omega))
            · by_cases he : u = s + 1
              · rw [he]; exact jz a2
              · rw [s14.2.1 (60 + 6 * k1) u (by rw [rg_60 hk]; rfl) (fun w => he w.2)]
                exact o10 u (by omega)
          · rw [if_neg (by rw [a2]; decide)] at hE
            refine ⟨fun w => absurd b2 w, fun _ => hQ 0 d14 sv14 (Or.inr ?_) (fun w => ?_)⟩
            · rw [hE]
              exact ⟨a2, rfl, c2⟩
            · rw [hE, a2] at w
              exact absurd w (by decide)
      · have h2 : ¬ (d10 24 1).toInt < (d10 24 0).toInt := fun q => h2 ((i_lt rfl rfl).mpr q)
        rw [if_pos (by omega)] at hE
        exact hQ 1 d10 s10 (Or.inl (by rw [hE]; exact ⟨rfl, rfl, k1'⟩)) (fun _ => ⟨s, by omega, c10, hmin, by omega, fun u hu => ⟨x10 u hu, o10 u hu⟩⟩)
    · rw [if_neg (by rw [a]; decide)] at hE
      refine ⟨fun w => absurd b w, fun _ => hQ 0 d7 sv7 (Or.inr ?_) (fun w => ?_)⟩
      · rw [hE]
        exact ⟨a, rfl, c⟩
      · rw [hE, a] at w
        exact absurd w (by decide)
theorem fn_X7_readInto {n : Nat} (hn : 1000000000 ≤ n) {Q : Int32 → DD → LL → Prop} {k1 : Nat} (hk : k1 < 6) {d : DD} {dl : LL} (hI : Inv d) (hQ : ∀ (r : Int32) (dz : DD), SV (WR k1) d dl dz dl → PA (rul (gA d) (d 24 0).toInt) r dz → ((rul (gA d) (d 24 0).toInt).1 = true → TR9 (gA d) (d 24 0).toInt k1 dz) → Q r dz dl) : F_X7_readInto n k1 d dl Q := by
  intro d1 e1 d2 e2 d4 e4
  have s1 : SV (WR k1) d dl d1 dl := by rw [e1]; exact (SV.rf hI).st (pv_24_1 (St.rf hI) (by decide) (by decide))
  have s2 : SV (WR k1) d dl d2 dl := by rw [e2]; exact s1.put (pw_55_0 (P := pN) (dl := dl) (StP.rf s1.1) hk (by decide) (by decide) rfl).1 (Or.inl ⟨by omega, by omega⟩)
  have s4 : SV (WR k1) d dl d4 dl := by rw [e4]; exact s2.put (pw_60 (P := pN) (dl := dl) (StP.rf s2.1) hk (vn_in _).1 (vn_in _).2 rfl).1 (Or.inl ⟨by omega, by omega⟩)
  refine fb_X7_readInto_19 hn hk hQ n 0 0 d4 s4 (gA_sv s4 WR_55) (by rw [s4.2.1 24 0 rfl (fun w => by have := w.1; omega)]) rfl (Nat.zero_le _) ?_ rfl (fun u hu => absurd hu (Nat.not_lt_zero _)) (fun u hu => absurd hu (Nat.not_lt_zero _)) (fun u hu => ?_) (by omega)
  · rw [e4, u2_row (by omega), e2, u2_row (by omega), e1, u2_eq]
    rfl
  · have hu0 : u = 0 := Nat.le_zero.mp hu
    subst hu0
    rw [e4, show (0 : Int32).toNatClampNeg = 0 from rfl, u2_eq]
    show vp_nar .boolean 0 = 0
    decide
def RF9 (d dz : DD) (k : Nat) : Prop := ∀ r, r < 6 → r ≠ k → dz (55 + 6 * r) 0 = d (55 + 6 * r) 0 ∧ ∀ j, dz (56 + 6 * r) j = d (56 + 6 * r) j ∧ dz (57 + 6 * r) j = d (57 + 6 * r) j ∧ dz (58 + 6 * r) j = d (58 + 6 * r) j ∧ dz (59 + 6 * r) j = d (59 + 6 * r) j ∧ dz (60 + 6 * r) j = d (60 + 6 * r) j
theorem RF9.rf {d : DD} {k : Nat} : RF9 d d k := fun _ _ _ => ⟨rfl, fun _ => ⟨rfl, rfl, rfl, rfl, rfl⟩⟩
theorem SV.rf9 {d dz : DD} {dl lz : LL} {k : Nat} (s : SV (WR k) d dl dz lz) : RF9 d dz k := fun r hr hne => ⟨s.2.1 _ _ (by rw [rg_55 hr]; rfl) (fun w => by have := w.1; have := w.2; omega), fun j => ⟨s.2.1 _ _ (by rw [rg_56 hr]; rfl) (fun w => by have := w.1; have := w.2; omega), s.2.1 _ _ (by rw [rg_57 hr]; rfl) (fun w => by have := w.1; have := w.2; omega), s.2.1 _ _ (by rw [rg_58 hr]; rfl) (fun w => by have := w.1; have := w.2; omega), s.2.1 _ _ (by rw [rg_59 hr]; rfl) (fun w => by have := w.1; have := w.2; omega), s.2.1 _ _ (by rw [rg_60 hr]; rfl) (fun w => by have := w.1; have := w.2; omega)⟩⟩
theorem SV.ss {d dz : DD} {dl lz : LL} {k : Nat} (hk : k < 6) (s : SV (WR k) d dl dz lz) : StS d dl dz lz := by
  refine ⟨s.1, fun i j q => s.2.1 i j (le_StS_St _ _ q) (fun w => ?_), s.2.2⟩
  have w1 := w.1
  have w2 := w.2
  have hc : i = 55 + 6 * k ∨ i = 56 + 6 * k ∨ i = 57 + 6 * k ∨ i = 58 + 6 * k ∨ i = 59 + 6 * k ∨ i = 60 + 6 * k := by omega
  rcases hc with rfl | rfl | rfl | rfl | rfl | rfl
  · rw [rg_55 hk] at q; exact absurd (show false = true from q) (by decide)
  · rw [rg_56 hk] at q; exact absurd (show false = true from q) (by decide)
  · rw [rg_57 hk] at q; exact absurd (show false = true from q) (by decide)
  · rw [rg_58 hk] at q; exact absurd (show false = true from q) (by decide)
  · rw [rg_59 hk] at q; exact absurd (show false = true from q) (by decide)
  · rw [rg_60 hk] at q; exact absurd (show false = true from q) (by decide)
theorem TR9.k {g : Nat → Int32} {N : Int} {k : Nat} {d d2 : DD} (h : TR9 g N k d) (h5 : d2 (55 + 6 * k) 0 = d (55 + 6 * k) 0) (hr : ∀ i j, 56 + 6 * k ≤ i → i ≤ 60 + 6 * k → d2 i j = d i j) : TR9 g N k d2 := by
  obtain ⟨m, a, b, c, e, f⟩ := h
  exact ⟨m, a, by rw [h5]; exact b, c, e, fun s hs => ⟨(f s hs).1.k (hr _ _ (by omega) (by omega)) (hr _ _ (by omega) (by omega)) (hr _ _ (by omega) (by omega)) (hr _ _ (by omega) (by omega)), by rw [hr _ _ (by omega) (by omega)]; exact (f s hs).2⟩⟩
def RuleP9 (d dz : DD) (r : Int32) : Prop :=
  (¬ (d 0 7).toInt < 6 ∧ r = -4 ∧ dz = d) ∨ ((d 0 7).toInt < 6 ∧ (rul (gA d) (d 24 0).toInt).1 = true ∧ r.toInt = (d 0 7).toInt ∧ (dz 0 7).toInt = (d 0 7).toInt + 1 ∧ dz 24 0 = 0) ∨ ((d 0 7).toInt < 6 ∧ (rul (gA d) (d 24 0).toInt).1 = false ∧ r.toInt = -10 - ((rul (gA d) (d 24 0).toInt).2 : Int) ∧ (dz 0 7).toInt = (d 0 7).toInt ∧ dz 24 0 = 0)
def RuleX9 (d dz : DD) : Prop := RF9 d dz (d 0 7).toNatClampNeg ∧ ((d 0 7).toInt < 6 → (rul (gA d) (d 24 0).toInt).1 = true → TR9 (gA d) (d 24 0).toInt (d 0 7).toNatClampNeg dz)
theorem sp_X9_rule {n : Nat} (hn : 1000000000 ≤ n) {d : DD} {dl : LL} (hI : Inv d) {Q : Int32 → DD → LL → Prop} (hQ : ∀ (r : Int32) (d2 : DD) (l2 : LL), StS d dl d2 l2 ∧ (RuleP9 d d2 r ∧ RuleX9 d d2) → Q r d2 l2) : F_X9_rule n d dl Q := by
  have m := iv_0_7 hI
  refine ⟨fun h => ?_, fun h => ?_⟩
  · have h : (d 0 7).toInt < 6 := (i_lt rfl (rfl : (6 : Int32).toInt = 6)).mp h
    have hi : vp_in (d 0 7) 6 := vin rfl (by omega) (by omega)
    have hk := clamp_in hi
    refine ⟨hi, fun k3 e3 => ?_⟩
    subst e3
    refine fn_X7_readInto hn hk hI (fun r4 d5 s5 pz tz => ?_)
    intro d7 e7
    have t5 : StS d dl d5 dl := s5.ss hk
    have s7 : StS d dl d7 dl := by rw [e7]; exact pw_24_0 t5 (by decide) (by decide) rfl
    have k7 : d7 0 7 = d 0 7 := by rw [e7, u2_row (by omega)]; exact s5.2.1 0 7 rfl (fun w => by have := w.1; omega)
    have a7 : d7 24 1 = d5 24 1 := by rw [e7, u2_ne (Or.inr (by omega))]
    have z7 : d7 24 0 = 0 := by rw [e7, u2_eq]
    have f5 := s5.rf9
    have r7 : ∀ i, 55 ≤ i → d7 i = d5 i := fun i hi => by rw [e7, u2_row (by omega)]
    have x7 : RuleX9 d d7 := ⟨fun r hr hne => ⟨by rw [r7 _ (by omega)]; exact (f5 r hr hne).1, fun j => by rw [r7 _ (by omega), r7 _ (by omega), r7 _ (by omega), r7 _ (by omega), r7 _ (by omega)]; exact (f5 r hr hne).2 j⟩, fun _ w => (tz w).k (by rw [r7 _ (by omega)]) (fun i j a b => by rw [r7 _ (by omega)])⟩
    rcases pz with ⟨a, b, c⟩ | ⟨a, b, c⟩
    · refine ⟨fun _ d9 e9 => ?_, fun w => absurd (b.symm.trans w) (by decide)⟩
      have t : ((d7 0 7) + 1).toInt = (d 0 7).toInt + 1 := ti_add (by rw [k7]) (rfl : (1 : Int32).toInt = 1) (by omega) (by omega)
      have s9 : StS d dl d9 dl := by rw [e9]; exact pw_0_7 s7 (by rw [t]; omega) (by rw [t]; omega) rfl
      have k9 : (d9 0 7).toInt = (d 0 7).toInt + 1 := by rw [e9, u2_eq, t]
      have r9 : ∀ i, 55 ≤ i → d9 i = d7 i := fun i hi => by rw [e9, u2_row (by omega)]
      have x9 : RuleX9 d d9 := ⟨fun r hr hne => ⟨by rw [r9 _ (by omega)]; exact (x7.1 r hr hne).1, fun j => by rw [r9 _ (by omega), r9 _ (by omega), r9 _ (by omega), r9 _ (by omega), r9 _ (by omega)]; exact (x7.1 r hr hne).2 j⟩, fun h6 w => (x7.2 h6 w).k (by rw [r9 _ (by omega)]) (fun i j a b => by rw [r9 _ (by omega)])⟩
      refine hQ _ _ _ ⟨s9, Or.inr (Or.inl ⟨h, a, ?_, k9, by rw [e9, u2_row (by omega)]; exact z7⟩), x9⟩
      have t2 : ((d9 0 7) - 1).toInt = ((d 0 7).toInt + 1) - 1 := ti_sub k9 (rfl : (1 : Int32).toInt = 1) (by omega) (by omega)
      rw [t2]
      omega
    · refine ⟨fun w => absurd b w, fun _ => ?_⟩
      have mat := iv_24_1 s5.1
      refine hQ _ _ _ ⟨s7, Or.inr (Or.inr ⟨h, a, ?_, by rw [k7], z7⟩), x7⟩
      rw [ti_sub (a := (-10 : Int32)) (b := d7 24 1) (p := -10) (q := (d5 24 1).toInt) rfl (by rw [a7]) (by omega) (by omega), c]
  · have h : ¬ (d 0 7).toInt < 6 := fun q => h ((i_lt rfl (rfl : (6 : Int32).toInt = 6)).mpr q)
    exact hQ _ _ _ ⟨StP.rf hI, Or.inl ⟨h, rfl, rfl⟩, RF9.rf, fun q => absurd q h⟩
