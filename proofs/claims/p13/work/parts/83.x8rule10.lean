def W10 (k i j : Nat) : Prop := (i = 226 ∧ j = k) ∨ (227 ≤ i ∧ i ≤ 231 ∧ 8 * k ≤ j ∧ j < 8 * k + 8)
theorem W10_226 {k : Nat} : ∀ i j, W10 k i j → 226 ≤ i := fun i j w => by
  rcases w with w | w
  · have := w.1; omega
  · have := w.1; omega
theorem W10_l {k i j : Nat} (h : i < 226) : ¬ W10 k i j := fun w => by have := W10_226 _ _ w; omega
theorem TV10.k {g : Nat → Int32} {p x : Nat} {d d2 : DD} (h : TV10 g p x d) (h0 : d2 230 x = d 230 x) (h7 : d2 227 x = d 227 x) (h8 : d2 228 x = d 228 x) (h9 : d2 229 x = d 229 x) : TV10 g p x d2 := by
  unfold TV10
  rw [h0, h7, h8, h9]
  exact h
def TB10 (g : Nat → Int32) (N : Int) (k m : Nat) (d : DD) : Prop := m < 8 ∧ (∀ s, s < m → ¬ N ≤ ((tst g (psn g s)).2 : Int)) ∧ N ≤ ((tst g (psn g m)).2 : Int) ∧ ∀ s, s ≤ m → TV10 g (psn g s) (8 * k + s) d ∧ d 231 (8 * k + s) = orb g s
def TR10 (g : Nat → Int32) (N : Int) (k : Nat) (dz : DD) : Prop := ∃ m : Nat, (dz 226 k).toInt = (m : Int) + 1 ∧ TB10 g N k m dz
theorem TB10.k {g : Nat → Int32} {N : Int} {k m : Nat} {d d2 : DD} (h : TB10 g N k m d) (hr : ∀ i, 227 ≤ i → i ≤ 231 → d2 i = d i) : TB10 g N k m d2 := by
  obtain ⟨a, c, e, f⟩ := h
  exact ⟨a, c, e, fun s hs => ⟨(f s hs).1.k (by rw [hr _ (by omega) (by omega)]) (by rw [hr _ (by omega) (by omega)]) (by rw [hr _ (by omega) (by omega)]) (by rw [hr _ (by omega) (by omega)]), by rw [hr _ (by omega) (by omega)]; exact (f s hs).2⟩⟩
def RF10 (d dz : DD) (k : Nat) : Prop := ∀ r, r < 6 → r ≠ k → dz 226 r = d 226 r ∧ ∀ j, j < 8 → dz 227 (8 * r + j) = d 227 (8 * r + j) ∧ dz 228 (8 * r + j) = d 228 (8 * r + j) ∧ dz 229 (8 * r + j) = d 229 (8 * r + j) ∧ dz 230 (8 * r + j) = d 230 (8 * r + j) ∧ dz 231 (8 * r + j) = d 231 (8 * r + j)
theorem RF10.rf {d : DD} {k : Nat} : RF10 d d k := fun _ _ _ => ⟨rfl, fun _ _ => ⟨rfl, rfl, rfl, rfl, rfl⟩⟩
theorem W10_o {k r i j : Nat} (hne : r ≠ k) (hj : j < 8) (hi : 227 ≤ i) : ¬ W10 k i (8 * r + j) := fun w => by
  rcases w with w | w
  · have := w.1; omega
  · have := w.2.2; omega
theorem SV.rf10 {d dz : DD} {dl lz : LL} {k : Nat} (s : SV (W10 k) d dl dz lz) : RF10 d dz k := fun r hr hne => ⟨s.2.1 226 r rfl (fun w => by
  rcases w with w | w
  · exact hne w.2
  · exact absurd w.1 (by decide)), fun j hj => ⟨s.2.1 227 _ rfl (W10_o hne hj (by omega)), s.2.1 228 _ rfl (W10_o hne hj (by omega)), s.2.1 229 _ rfl (W10_o hne hj (by omega)), s.2.1 230 _ rfl (W10_o hne hj (by omega)), s.2.1 231 _ rfl (W10_o hne hj (by omega))⟩⟩
theorem SV.tt {d dz : DD} {dl lz : LL} {k : Nat} (s : SV (W10 k) d dl dz lz) : StT d dl dz lz := by
  refine ⟨s.1, fun i j q => s.2.1 i j (le_StT_St _ _ q) (fun w => ?_), s.2.2⟩
  have hc : i = 226 ∨ i = 227 ∨ i = 228 ∨ i = 229 ∨ i = 230 ∨ i = 231 := by
    rcases w with w | w
    · exact Or.inl w.1
    · have := w.1; have := w.2.1; omega
  rcases hc with rfl | rfl | rfl | rfl | rfl | rfl <;> exact absurd (show false = true from q) (by decide)
def RuleP10 (d dz : DD) (r : Int32) : Prop :=
  (¬ (d 211 2).toInt < 6 ∧ r = -4 ∧ dz = d) ∨ ((d 211 2).toInt < 6 ∧ (rul (gB d) (d 211 4).toInt).1 = true ∧ r.toInt = (d 211 2).toInt ∧ (dz 211 2).toInt = (d 211 2).toInt + 1 ∧ dz 211 4 = 0) ∨ ((d 211 2).toInt < 6 ∧ (rul (gB d) (d 211 4).toInt).1 = false ∧ r.toInt = -10 - ((rul (gB d) (d 211 4).toInt).2 : Int) ∧ (dz 211 2).toInt = (d 211 2).toInt ∧ dz 211 4 = 0)
def RuleX10 (d dz : DD) : Prop := RF10 d dz (d 211 2).toNatClampNeg ∧ ((d 211 2).toInt < 6 → (rul (gB d) (d 211 4).toInt).1 = true → TR10 (gB d) (d 211 4).toInt (d 211 2).toNatClampNeg dz)
theorem fn_X10_163 {n : Nat} {Q : Int32 → DD → LL → Prop} {x1 : Int32} (b1 : 0 ≤ x1.toInt ∧ x1.toInt ≤ 8) {e : DD} {dl : LL} {d : DD} {k : Nat} (hk : (e 211 2).toInt = (k : Int)) {E : Bool × Nat} (hI : Inv e) (hS : SV (W10 k) e dl d dl) (h6 : (e 211 2).toInt < 6) (hE : PR E d) (he : E = rul (gB e) (e 211 4).toInt) (hT : E.1 = true → ∃ m : Nat, x1.toInt = (m : Int) + 1 ∧ TB10 (gB e) (e 211 4).toInt k m d) (hQ : ∀ (r : Int32) (dz : DD), StT e dl dz dl ∧ (RuleP10 e dz r ∧ RuleX10 e dz) → Q r dz dl) : b_X10_rule_163 n Q x1 d dl := by
  have m := iv_211_2 hI
  have ek := at_n hk
  intro d11 e11
  have t0 : StT e dl d dl := hS.tt
  have s11 : StT e dl d11 dl := by rw [e11]; exact pw_211_4 t0 (by decide) (by decide) rfl
  have k2 : d11 211 2 = e 211 2 := by rw [e11, u2_ne (Or.inr (by omega))]; exact hS.2.1 211 2 rfl (W10_l (by omega))
  have k47 : d11 211 47 = d 211 47 := by rw [e11, u2_ne (Or.inr (by omega))]
  have k4 : d11 211 4 = 0 := by rw [e11, u2_eq]
  have f0 := hS.rf10
  have r11 : ∀ i, 226 ≤ i → d11 i = d i := fun i hi => by rw [e11, u2_row (by omega)]
  have hi : vp_in (d11 211 2) 6 := by rw [k2]; exact vin rfl (by omega) (by omega)
  refine ⟨fun f => ⟨hi, fun d14 e14 d15 e15 => ?_⟩, fun f => ?_⟩
  · rw [k47] at f
    rcases hE with ⟨a, _, c⟩ | ⟨a, c⟩
    rotate_left
    · have : (d 211 47).toInt = -1 := (i_eq rfl (rfl : (-1 : Int32).toInt = -1)).mp f
      omega
    rw [k2, ek] at e14
    have s14 : StT e dl d14 dl := by rw [e14]; exact pw_226 s11 b1.1 b1.2 rfl
    have k14 : d14 211 2 = e 211 2 := by rw [e14, u2_row (by omega)]; exact k2
    have t : ((d14 211 2) + 1).toInt = (e 211 2).toInt + 1 := ti_add (by rw [k14]) (rfl : (1 : Int32).toInt = 1) (by omega) (by omega)
    have s15 : StT e dl d15 dl := by rw [e15]; exact pw_211_2 s14 (by rw [t]; omega) (by rw [t]; omega) rfl
    have r15 : ∀ i, 227 ≤ i → i ≤ 231 → d15 i = d i := fun i a b => by rw [e15, u2_row (by omega), e14, u2_row (by omega), r11 i (by omega)]
    have x15 : RuleX10 e d15 := by
      unfold RuleX10
      rw [ek]
      refine ⟨fun r hr hne => ⟨?_, fun j hj => ?_⟩, fun _ _ => ?_⟩
      · rw [e15, u2_row (by omega), e14, u2_ne (Or.inr hne), r11 _ (by omega)]
        exact (f0 r hr hne).1
      · rw [r15 _ (by omega) (by omega), r15 _ (by omega) (by omega), r15 _ (by omega) (by omega), r15 _ (by omega) (by omega), r15 _ (by omega) (by omega)]
        exact (f0 r hr hne).2 j hj
      · obtain ⟨mm, hm1, hm2⟩ := hT a
        exact ⟨mm, by rw [e15, u2_row (by omega), e14, u2_eq]; exact hm1, hm2.k r15⟩
    refine hQ _ _ ⟨s15, Or.inr (Or.inl ⟨h6, by rw [← he]; exact a, by rw [k14], by rw [e15, u2_eq, t], ?_⟩), x15⟩
    rw [e15, u2_ne (Or.inr (by omega)), e14, u2_row (by omega)]
    exact k4
  · rw [k47] at f
    rcases hE with ⟨a, b, c⟩ | ⟨a, c⟩
    · exact absurd b f
    have m7 := iv_211_47 hS.1
    have x11 : RuleX10 e d11 := by
      unfold RuleX10
      rw [ek, ← he]
      refine ⟨fun r hr hne => ⟨?_, fun j hj => ?_⟩, fun _ w => ?_⟩
      · rw [r11 _ (by omega)]
        exact (f0 r hr hne).1
      · rw [r11 _ (by omega), r11 _ (by omega), r11 _ (by omega), r11 _ (by omega), r11 _ (by omega)]
        exact (f0 r hr hne).2 j hj
      · rw [a] at w
        exact absurd w (by decide)
    refine hQ _ _ ⟨s11, Or.inr (Or.inr ⟨h6, by rw [← he]; exact a, ?_, by rw [k2], k4⟩), x11⟩
    rw [ti_sub (a := (-10 : Int32)) (b := d11 211 47) (p := -10) (q := (d 211 47).toInt) rfl (by rw [k47]) (by omega) (by omega), c, he]
theorem rl_r {i j : Nat} (a : 227 ≤ i) (b : i ≤ 231) : rl (rg i) j = true := by
  have hc : i = 227 ∨ i = 228 ∨ i = 229 ∨ i = 230 ∨ i = 231 := by omega
  rcases hc with rfl | rfl | rfl | rfl | rfl <;> rfl
theorem fb_X10_rule_47 {n : Nat} (hn : 1000000000 ≤ n) {Q : Int32 → DD → LL → Prop} {x2 : Int32} {e : DD} {dl : LL} {k : Nat} (hk6 : k < 6) (hk : (e 211 2).toInt = (k : Int)) (h2 : x2.toInt = ((8 * k : Nat) : Int)) (hI : Inv e) (h6 : (e 211 2).toInt < 6) {g : Nat → Int32} (hg : gB e = g) {N : Int} (hN : (e 211 4).toInt = N) (hQ : ∀ (r : Int32) (dz : DD), StT e dl dz dl ∧ (RuleP10 e dz r ∧ RuleX10 e dz) → Q r dz dl) : ∀ (j : Nat) (x1 : Int32) (s : Nat) (d : DD), SV (W10 k) e dl d dl → x1.toInt = ((s + 1 : Nat) : Int) → s ≤ 7 → ((d 211 47 = -1 ∧ (d 211 46).toInt = ((tst g (psn g s)).2 : Int) ∧ rul g N = rlp g N (9 - s) (s + 1) (tst g (psn g s)).2 ∧ (∀ u, u < s → ¬ N ≤ ((tst g (psn g u)).2 : Int)) ∧ ∀ u, u ≤ s → TV10 g (psn g u) (8 * k + u) d ∧ d 231 (8 * k + u) = orb g u) ∨ (¬ d 211 47 = -1 ∧ (rul g N).1 = false ∧ (d 211 47).toInt = ((rul g N).2 : Int))) → 9 ≤ s + j → b_X10_rule_47 n Q j x1 x2 d dl := by
  intro j
  induction j with
  | zero =>
    intro x1 s d hS h0 h1 hE hm
    exfalso
    omega
  | succ j hK =>
    intro x1 s d hS h0 h1 hE hm
    show _ ∧ _
    have m2 := iv_211_2 hI
    have he : ∀ E : Bool × Nat, rul g N = E → E = rul (gB e) (e 211 4).toInt := fun E h => by rw [hg, hN]; exact h.symm
    have no : ∀ {E : Bool × Nat} {d' : DD}, E.1 = false → E.1 = true → ∃ m : Nat, x1.toInt = (m : Int) + 1 ∧ TB10 (gB e) (e 211 4).toInt k m d' := fun h w => by rw [h] at w; exact absurd w (by decide)
    refine ⟨fun f => ?_, fun f => ?_⟩
    · rcases hE with ⟨f2, _⟩ | ⟨_, hE⟩
      · exact absurd f2 f
      · exact fn_X10_163 (E := rul g N) ⟨by omega, by omega⟩ hk hI hS h6 (Or.inr hE) (he _ rfl) (no hE.1) hQ
    rcases hE with ⟨_, hp, hE, hmin, htx⟩ | ⟨f2, _⟩
    rotate_left
    · exact absurd f f2
    have k4 : d 211 4 = e 211 4 := hS.2.1 211 4 rfl (W10_l (by omega))
    have gS : gB d = g := by rw [gB_sv hS W10_226]; exact hg
    have mh := iv_211_46 hS.1
    have hz : 9 - s = (8 - s) + 1 := by omega
    have h98 : 9 - (s + 1) = 8 - s := by omega
    rw [hz] at hE
    have hpsn : psn g (s + 1) = (jnt g (tst g (psn g s)).2).2 := rfl
    have horb : orb g (s + 1) = (if g ((tst g (psn g s)).2 + 1) = 111 then 1 else 0) := rfl
    have hE : rul g N = if N ≤ ((tst g (psn g s)).2 : Int) then (true, (tst g (psn g s)).2) else if s + 1 = 8 then (false, (tst g (psn g s)).2) else if (jnt g (tst g (psn g s)).2).1 = true then (if (tst g (psn g (s + 1))).1 = true then rlp g N (8 - s) (s + 1 + 1) (tst g (psn g (s + 1))).2 else tst g (psn g (s + 1))) else jnt g (tst g (psn g s)).2 := hE
    have hfin : N ≤ ((tst g (psn g s)).2 : Int) → ∃ m : Nat, x1.toInt = (m : Int) + 1 ∧ TB10 (gB e) (e 211 4).toInt k m d := fun w => ⟨s, by omega, by rw [hg, hN]; exact ⟨by omega, hmin, w, htx⟩⟩
    generalize hpe : (tst g (psn g s)).2 = p at *
    refine ⟨fun h => ?_, fun h => ?_⟩
    · have h : (d 211 4).toInt ≤ (d 211 46).toInt := (i_le rfl rfl).mp h
      rw [k4, hN] at h
      rw [if_pos (by omega)] at hE
      exact fn_X10_163 (E := (true, p)) ⟨by omega, by omega⟩ hk hI hS h6 (Or.inl ⟨rfl, f, hp⟩) (he _ hE) (fun _ => hfin (by omega)) hQ
    · have h : ¬ (d 211 4).toInt ≤ (d 211 46).toInt := fun q => h ((i_le rfl rfl).mpr q)
      rw [k4, hN] at h
      rw [if_neg (by omega)] at hE
      refine ⟨fun h8 => ?_, fun h8 d36 e36 => ?_⟩
      · have h8 : ¬ ((s + 1 : Nat) : Int) = 8 := fun q => h8 ((i_eq h0 (rfl : (8 : Int32).toInt = 8)).mpr q)
        rw [if_neg (by omega)] at hE
        have t : (x1 + 1).toInt = ((s + 1 + 1 : Nat) : Int) := inc1' h0 (by omega)
        have ti : (x2 + x1).toInt = ((8 * k + (s + 1) : Nat) : Int) := by
          have t : (x2 + x1).toInt = ((8 * k : Nat) : Int) + ((s + 1 : Nat) : Int) := ti_add h2 h0 (by omega) (by omega)
          rw [t]; omega
        refine fn_X10_expect hn (w := 16) (by decide) (St.rf hS.1) f hp (fun d19 s19 pz => ?_)
        rw [gS] at pz
        have sv19 : SV (W10 k) e dl d19 dl := hS.st s19
        have g19 : gB d19 = g := by rw [gB_sv sv19 W10_226]; exact hg
        have e1 : ex g (sbs 16) p = if g p = 32 then (true, p + 1) else (false, p) := rfl
        by_cases hb : g p = 32
        · rw [e1, if_pos hb] at pz
          rcases pz with ⟨_, b, c⟩ | ⟨a, _⟩
          rotate_left
          · exact absurd (show true = false from a) (by decide)
          have c : (d19 211 46).toInt = ((p + 1 : Nat) : Int) := c
          refine ⟨fun _ => ?_, fun w => absurd b w⟩
          refine fn_X10_now s19.1 ?_
          rw [at_n c, g19]
          have go : ∀ (w : Nat) (x3 : Int32), w < 19 → jnt g p = ex g (sbs w) (p + 1) → vp_nar .boolean x3 = orb g (s + 1) → b_X10_rule_127 n Q (b_X10_rule_47 n Q j) x1 x2 x3 w d19 dl := by
            intro w x3 hw hj hx3
            refine fn_X10_expect hn hw (St.rf s19.1) b c (fun d28 s28 pz => ?_)
            rw [g19, ← hj] at pz
            have sv28 : SV (W10 k) e dl d28 dl := sv19.st s28
            rcases pz with ⟨a, b2', c2⟩ | ⟨a, c2⟩
            · rw [if_pos a] at hE
              refine ⟨fun _ => ⟨vin ti (by omega) (by omega), fun d32 e32 => ?_⟩, fun w => absurd b2' w⟩
              rw [at_n ti] at e32
              have s32 : SV (W10 k) e dl d32 dl := by rw [e32]; exact sv28.put (pw_231 (P := pN) (dl := dl) (StP.rf s28.1) (vn_in _).1 (vn_in _).2 rfl).1 (Or.inl (Or.inr ⟨by omega, by omega, by omega, by omega⟩))
              have g32 : gB d32 = g := by rw [gB_sv s32 W10_226]; exact hg
              refine fn_X10_test hn ⟨by rw [ti]; omega, by rw [ti]; omega⟩ s32.1 (by rw [e32, u2_row (by omega)]; exact b2') (by rw [e32, u2_row (by omega)]; exact c2) (fun d34 s34 pz tz => ?_)
              rw [g32] at pz tz
              rw [at_n ti] at s34 tz
              rw [← hpsn] at pz tz
              have sv34 : SV (W10 k) e dl d34 dl := s32.tr s34 (fun i j w => Or.inr ⟨w.1, by have := w.2.1; omega, by have := w.2.2; omega, by have := w.2.2; omega⟩)
              refine hK _ (s + 1) d34 sv34 t (by omega) ?_ (by omega)
              rcases pz with ⟨a3, b3, c3⟩ | ⟨a3, c3⟩
              · rw [if_pos a3] at hE
                refine Or.inl ⟨b3, c3, by rw [h98]; exact hE, fun u hu => ?_, fun u hu => ?_⟩
                · by_cases hq : u = s
                  · rw [hq, hpe]; omega
                  · exact hmin u (by omega)
                · by_cases hq : u = s + 1
                  · rw [hq]
                    refine ⟨tz a3, ?_⟩
                    rw [s34.2.1 231 _ rfl (fun w => absurd w.2.1 (by decide)), e32, u2_eq]
                    exact hx3
                  · have r34 : ∀ i, 227 ≤ i → i ≤ 230 → d34 i (8 * k + u) = d i (8 * k + u) := fun i ia ib => by
                      rw [s34.2.1 i _ (rl_r ia (by omega)) (fun w => by have := w.2.2; omega), e32, u2_row (by omega), s28.2.1 i _ (rl_r ia (by omega)), s19.2.1 i _ (rl_r ia (by omega))]
                    have hu' := htx u (by omega)
                    refine ⟨hu'.1.k (r34 230 (by omega) (by omega)) (r34 227 (by omega) (by omega)) (r34 228 (by omega) (by omega)) (r34 229 (by omega) (by omega)), ?_⟩
                    rw [s34.2.1 231 _ rfl (fun w => absurd w.2.1 (by decide)), e32, u2_ne (Or.inr (by omega)), s28.2.1 231 _ rfl, s19.2.1 231 _ rfl]
                    exact hu'.2
              · rw [if_neg (by rw [a3]; decide)] at hE
                exact Or.inr ⟨m1r (by omega), by rw [hE]; exact a3, by rw [hE]; exact c3⟩
            · rw [if_neg (by rw [a]; decide)] at hE
              refine ⟨fun w => ?_, fun _ => fn_X10_163 (E := jnt g p) ⟨by omega, by omega⟩ hk hI sv28 h6 (Or.inr ⟨a, c2⟩) (he _ hE) (no a) hQ⟩
              have : (d28 211 47).toInt = -1 := (i_eq rfl (rfl : (-1 : Int32).toInt = -1)).mp w
              omega
          refine ⟨fun ho => ⟨fun _ => go 18 0 (by decide) ?_ ?_, fun w => absurd rfl w⟩, fun ho => ⟨fun w => absurd w (by decide), fun _ => go 17 1 (by decide) ?_ ?_⟩⟩
          · unfold jnt
            rw [if_pos hb, if_neg ho]
          · rw [horb, if_neg ho]; decide
          · unfold jnt
            rw [if_pos hb, if_pos ho]
          · rw [horb, if_pos ho]; decide
        · have hj : jnt g p = (false, p) := by
            unfold jnt
            rw [if_neg hb]
          rw [e1, if_neg hb] at pz
          rw [hj, if_neg (fun w => absurd (show false = true from w) (by decide))] at hE
          rcases pz with ⟨a, _⟩ | ⟨_, c⟩
          · exact absurd (show false = true from a) (by decide)
          have c : (d19 211 47).toInt = (p : Int) := c
          refine ⟨fun w => ?_, fun _ => fn_X10_163 (E := (false, p)) ⟨by omega, by omega⟩ hk hI sv19 h6 (Or.inr ⟨rfl, c⟩) (he _ hE) (no rfl) hQ⟩
          have : (d19 211 47).toInt = -1 := (i_eq rfl (rfl : (-1 : Int32).toInt = -1)).mp w
          omega
      · have h8 : ((s + 1 : Nat) : Int) = 8 := (i_eq h0 (rfl : (8 : Int32).toInt = 8)).mp h8
        rw [if_pos (by omega)] at hE
        have s36 : SV (W10 k) e dl d36 dl := by rw [e36]; exact hS.st (pv_211_47 (St.rf hS.1) (by omega) (by omega))
        exact fn_X10_163 (E := (false, p)) ⟨by omega, by omega⟩ hk hI s36 h6 (Or.inr ⟨rfl, by rw [e36, u2_eq]; exact hp⟩) (he _ hE) (no rfl) hQ
theorem sp_X10_rule {n : Nat} (hn : 1000000000 ≤ n) {d : DD} {dl : LL} (hI : Inv d) {Q : Int32 → DD → LL → Prop} (hQ : ∀ (r : Int32) (d2 : DD) (l2 : LL), StT d dl d2 l2 ∧ (RuleP10 d d2 r ∧ RuleX10 d d2) → Q r d2 l2) : F_X10_rule n d dl Q := by
  have m := iv_211_2 hI
  refine ⟨fun h => ?_, fun h => ?_⟩
  · have h : ¬ (d 211 2).toInt = 6 := fun q => h ((i_eq rfl (rfl : (6 : Int32).toInt = 6)).mpr q)
    obtain ⟨k, hk⟩ : ∃ k : Nat, (d 211 2).toInt = (k : Int) := ⟨(d 211 2).toInt.toNat, by omega⟩
    have hk6 : k < 6 := by omega
    intro d2 e2 d3 e3 v4 e4
    have s2 : SV (W10 k) d dl d2 dl := by rw [e2]; exact (SV.rf hI).st (pv_211_46 (St.rf hI) (by decide) (by decide))
    have s3 : SV (W10 k) d dl d3 dl := by rw [e3]; exact s2.st (pv_211_47 (St.rf s2.1) (by decide) (by decide))
    have k3 : d3 211 2 = d 211 2 := s3.2.1 211 2 rfl (W10_l (by omega))
    have t : v4.toInt = ((8 * k : Nat) : Int) := by
      have t : v4.toInt = 8 * (k : Int) := by rw [e4]; exact ti_mul (rfl : (8 : Int32).toInt = 8) (by rw [k3]; exact hk) (by omega) (by omega)
      rw [t]; omega
    refine ⟨vin t (by omega) (by omega), fun d6 e6 => ?_⟩
    rw [at_n t] at e6
    have s6 : SV (W10 k) d dl d6 dl := by rw [e6]; exact s3.put (pw_231 (P := pN) (dl := dl) (StP.rf s3.1) (vn_in _).1 (vn_in _).2 rfl).1 (Or.inl (Or.inr ⟨by omega, by omega, by omega, by omega⟩))
    have f6 : d6 211 47 = -1 := by rw [e6, u2_row (by omega), e3, u2_eq]
    have p6 : (d6 211 46).toInt = ((0 : Nat) : Int) := by rw [e6, u2_row (by omega), e3, u2_ne (Or.inr (by omega)), e2, u2_eq]; rfl
    have g6 : gB d6 = gB d := gB_sv s6 W10_226
    refine fn_X10_test hn ⟨by omega, by omega⟩ s6.1 f6 p6 (fun d8 s8 pz tz => ?_)
    rw [g6] at pz tz
    rw [at_n t] at s8 tz
    have sv8 : SV (W10 k) d dl d8 dl := s6.tr s8 (fun i j w => Or.inr ⟨w.1, by have := w.2.1; omega, by have := w.2.2; omega, by have := w.2.2; omega⟩)
    refine fb_X10_rule_47 hn hk6 hk t hI (by omega) rfl rfl (fun r dz q => hQ r dz dl q) n ((0 : Int32) + 1) 0 d8 sv8 (by decide) (by omega) ?_ (by omega)
    rcases pz with ⟨a, b, c⟩ | ⟨a, c⟩
    · refine Or.inl ⟨b, c, ?_, fun u hu => absurd hu (Nat.not_lt_zero _), fun u hu => ?_⟩
      · unfold rul
        rw [if_pos a]
        rfl
      · have hu0 : u = 0 := Nat.le_zero.mp hu
        subst hu0
        refine ⟨tz a, ?_⟩
        rw [s8.2.1 231 _ rfl (fun w => absurd w.2.1 (by decide)), e6, Nat.add_zero, u2_eq]
        show vp_nar .boolean 0 = 0
        decide
    · refine Or.inr ⟨m1r (by omega), ?_, ?_⟩
      · unfold rul
        rw [if_neg (by rw [a]; decide)]
        exact a
      · unfold rul
        rw [if_neg (by rw [a]; decide)]
        exact c
  · have h : (d 211 2).toInt = 6 := (i_eq rfl (rfl : (6 : Int32).toInt = 6)).mp h
    exact hQ _ _ _ ⟨StP.rf hI, Or.inl ⟨by omega, rfl, rfl⟩, RF10.rf, fun q => absurd q (by omega)⟩
theorem B21_new {g : Nat → Int32} {N : Int} {k : Nat} {d : DD} (h9 : TR9 g N k d) (h10 : TR10 g N k d) : B21 d k := by
  obtain ⟨m, a1, a2, a3, a4, a5⟩ := h9
  obtain ⟨m', b2, b1, b3, b4, b5⟩ := h10
  have hm : m' = m := by
    rcases Nat.lt_trichotomy m m' with q | q | q
    · exact absurd a4 (b3 m q)
    · exact q.symm
    · exact absurd b4 (a3 m' q)
  subst hm
  refine ⟨Int32.toInt_inj.mp (by rw [a2, b2]), fun t ht q => ?_⟩
  have htm : t ≤ m' := by rw [b2] at q; omega
  obtain ⟨⟨u1, u2', u3, u4, u5⟩, u6⟩ := a5 t htm
  obtain ⟨⟨v1, v2, v3, v4⟩, v6⟩ := b5 t htm
  exact ⟨by rw [u1, v1], Int32.toInt_inj.mp (by rw [u2', v2]), by rw [u3]; exact u4, by rw [u3, v3], by rw [u5, v4], by rw [u6, v6]⟩
theorem rule_step {d d1 d2 : DD} {dl l1 lw : LL} {r1 r2 : Int32} (h : R0 d dl) (p1 : StS d dl d1 l1) (q1 : RuleP9 d d1 r1 ∧ RuleX9 d d1) (p2 : StT d1 l1 d2 lw) (q2 : RuleP10 d1 d2 r2 ∧ RuleX10 d1 d2) : R0 d2 lw ∧ r1 = r2 := by
  have c13 : d 0 7 = d 211 2 := h.c13
  have c14 : d 24 0 = d 211 4 := h.c14.1
  have e2 : d1 211 2 = d 0 7 := by rw [p1.2.1 211 2 rfl, c13]
  have e4 : d1 211 4 = d 24 0 := by rw [p1.2.1 211 4 rfl, c14]
  have eg : gB d1 = gA d := by
    unfold gB gA
    rw [e4, show d1 225 = d 25 from funext (fun l => (p1.2.1 225 l rfl).trans (h.c14.2 l).symm)]
  have k7 : d2 0 7 = d1 0 7 := p2.2.1 0 7 rfl
  have k0 : d2 24 0 = d1 24 0 := p2.2.1 24 0 rfl
  have k25 : ∀ l, d2 25 l = d2 225 l := fun l => by rw [p2.2.1 25 l rfl, p1.2.1 25 l rfl, p2.2.1 225 l rfl, p1.2.1 225 l rfl]; exact h.c14.2 l
  obtain ⟨q1, x1⟩ := q1
  obtain ⟨q2, x2⟩ := q2
  have m := iv_0_7 h.i
  have hcl : (d 0 7).toNatClampNeg = (d 0 7).toInt.toNat := rfl
  unfold RuleX10 at x2
  unfold RuleX9 at x1
  unfold RuleP10 at q2
  rw [e2, e4, eg] at q2 x2
  unfold RuleP9 at q1
  have K5 : ∀ r, r < 6 → d2 (55 + 6 * r) 0 = d1 (55 + 6 * r) 0 := fun r hr => p2.2.1 _ _ (by rw [rg_55 hr]; rfl)
  have K9 : ∀ r j, r < 6 → d2 (56 + 6 * r) j = d1 (56 + 6 * r) j ∧ d2 (57 + 6 * r) j = d1 (57 + 6 * r) j ∧ d2 (58 + 6 * r) j = d1 (58 + 6 * r) j ∧ d2 (59 + 6 * r) j = d1 (59 + 6 * r) j ∧ d2 (60 + 6 * r) j = d1 (60 + 6 * r) j := fun r j hr => ⟨p2.2.1 _ _ (by rw [rg_56 hr]; rfl), p2.2.1 _ _ (by rw [rg_57 hr]; rfl), p2.2.1 _ _ (by rw [rg_58 hr]; rfl), p2.2.1 _ _ (by rw [rg_59 hr]; rfl), p2.2.1 _ _ (by rw [rg_60 hr]; rfl)⟩
  have K10 : ∀ j, d1 226 j = d 226 j ∧ d1 227 j = d 227 j ∧ d1 228 j = d 228 j ∧ d1 229 j = d 229 j ∧ d1 230 j = d 230 j ∧ d1 231 j = d 231 j := fun j => ⟨p1.2.1 226 j rfl, p1.2.1 227 j rfl, p1.2.1 228 j rfl, p1.2.1 229 j rfl, p1.2.1 230 j rfl, p1.2.1 231 j rfl⟩
  have old : ∀ r, r < 6 → r ≠ (d 0 7).toNatClampNeg → (r : Int) < (d 0 7).toInt → B21 d2 r := by
    intro r hr hne hq
    have f9 := x1.1 r hr hne
    have f10 := x2.1 r hr hne
    refine (h.c21 r hr hq).k ?_ (fun j hj => ?_) ?_ (fun j hj => ?_)
    · rw [K5 r hr]; exact f9.1
    · obtain ⟨a, b, c, e, f⟩ := K9 r j hr
      rw [a, b, c, e, f]
      exact f9.2 j
    · rw [f10.1]; exact (K10 r).1
    · obtain ⟨a, b, c, e, f⟩ := f10.2 j hj
      rw [a, b, c, e, f]
      exact (K10 _).2
  generalize hEE : rul (gA d) (d 24 0).toInt = E at *
  rcases q1 with ⟨o1, a1, a2⟩ | ⟨o1, g1, a1, a2, a3⟩ | ⟨o1, g1, a1, a2, a3⟩
  · rcases q2 with ⟨o2, b1, b2⟩ | ⟨o2, _⟩ | ⟨o2, _⟩
    · subst a2; subst b2
      exact ⟨h.u_rule p1 p2 h.c13 h.c14 h.c21, by rw [a1, b1]⟩
    all_goals exact absurd o2 o1
  · rcases q2 with ⟨o2, _⟩ | ⟨o2, g2, b1, b2, b3⟩ | ⟨o2, g2, _⟩
    · exact absurd o1 o2
    · refine ⟨h.u_rule p1 p2 (Int32.toInt_inj.mp (by rw [k7]; omega)) ⟨by rw [k0, a3, b3], k25⟩ (fun r hr hq => ?_), Int32.toInt_inj.mp (by omega)⟩
      rw [k7] at hq
      by_cases he : r = (d 0 7).toNatClampNeg
      · have t9 := x1.2 o1 g1
        have t10 := x2.2 o1 g1
        rw [← he] at t9 t10
        refine B21_new (t9.k (K5 r hr) (fun i j ia ib => ?_)) t10
        have hc : i = 56 + 6 * r ∨ i = 57 + 6 * r ∨ i = 58 + 6 * r ∨ i = 59 + 6 * r ∨ i = 60 + 6 * r := by omega
        obtain ⟨a, b, c, e, f⟩ := K9 r j hr
        rcases hc with rfl | rfl | rfl | rfl | rfl
        · exact a
        · exact b
        · exact c
        · exact e
        · exact f
      · exact old r hr he (by omega)
    · exact absurd (g1.symm.trans g2) (by decide)
  · rcases q2 with ⟨o2, _⟩ | ⟨o2, g2, _⟩ | ⟨o2, g2, b1, b2, b3⟩
    · exact absurd o1 o2
    · exact absurd (g1.symm.trans g2) (by decide)
    · refine ⟨h.u_rule p1 p2 (Int32.toInt_inj.mp (by rw [k7]; omega)) ⟨by rw [k0, a3, b3], k25⟩ (fun r hr hq => ?_), Int32.toInt_inj.mp (by omega)⟩
      rw [k7] at hq
      exact old r hr (by omega) (by omega)
