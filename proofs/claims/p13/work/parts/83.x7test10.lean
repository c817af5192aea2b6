def PR (E : Bool × Nat) (dz : DD) : Prop := (E.1 = true ∧ dz 211 47 = -1 ∧ (dz 211 46).toInt = (E.2 : Int)) ∨ (E.1 = false ∧ (dz 211 47).toInt = (E.2 : Int))
theorem gB_2 {e d d2 : DD} {el dl l2 : LL} (s : St e el d dl) (s2 : St e el d2 l2) : gB d2 = gB d := (gB_st s2).trans (gB_st s).symm
theorem drop_c {l : List Int32} {i : Nat} (h : i < l.length) : l.drop i = l.getD i 0 :: l.drop (i + 1) := by
  rw [List.drop_eq_getElem_cons h]
  congr 1
  simp [List.getD, h]
theorem fb_X10_expect_2 {n : Nat} (hn : 1000000000 ≤ n) {w : Nat} (hw : w < 19) {Q : DD → LL → Prop} {g : Nat → Int32} {e : DD} {el dl : LL} {E : Bool × Nat} (hQ : ∀ dz : DD, St e el dz dl → PR E dz → Q dz dl) : ∀ (j : Nat) (x2 : Int32) (d : DD), St e el d dl → gB d = g → 0 ≤ x2.toInt → x2.toInt ≤ 6 → ((d 211 47 = -1 ∧ E = ex g ((sbs w).drop x2.toNatClampNeg) (d 211 46).toNatClampNeg) ∨ (¬ d 211 47 = -1 ∧ E.1 = false ∧ (d 211 47).toInt = (E.2 : Int))) → 8 ≤ x2.toInt + (j : Int) → b_X10_expect_2 n Q j w x2 d dl := by
  have sw := sbs_in w hw
  intro j
  induction j with
  | zero =>
    intro x2 d hS hg h0 h1 hE hm
    exfalso
    omega
  | succ j hK =>
    intro x2 d hS hg h0 h1 hE hm
    have mh := iv_211_46 hS.1
    have ms := iv_211_4 hS.1
    have hx : x2.toNatClampNeg = x2.toInt.toNat := rfl
    have hh : (d 211 46).toNatClampNeg = (d 211 46).toInt.toNat := rfl
    show F_J0_length_8abf5 n w d dl (fun r1 d2 l3 => (r1 ≤ x2 → Q d2 l3) ∧ (¬ r1 ≤ x2 → (¬ (d2 211 47) = (-1) → Q d2 l3) ∧ ((d2 211 47) = (-1) → F_X10_now n d2 l3 (fun r6 d7 l8 => F_J0_charAt_5068e n w x2 d7 l8 (fun r9 d10 l11 => (¬ r6 = r9 → ∀ d13 : DD, d13 = u2 d10 211 47 (d10 211 46) → (b_X10_expect_2 n Q j) w (x2 + 1) d13 l11) ∧ (r6 = r9 → ∀ d14 : DD, d14 = u2 d10 211 46 ((d10 211 46) + 1) → (b_X10_expect_2 n Q j) w (x2 + 1) d14 l11))))))
    refine sp_J0_length_8abf5 hn hS.1 hw (fun r1 d2 l3 ⟨p1, q1⟩ => ?_)
    obtain ⟨h3, rfl, rfl⟩ := p1
    have q2 : r1.toInt = ((sbs w).length : Int) := q1.2.2
    refine ⟨fun h => ?_, fun h => ?_⟩
    · have h : r1.toInt ≤ x2.toInt := (i_le rfl rfl).mp h
      rcases hE with ⟨f, hE⟩ | ⟨f, hE⟩
      · rw [List.drop_eq_nil_of_le (by omega)] at hE
        exact hQ d2 hS (Or.inl (by rw [hE]; exact ⟨rfl, f, by show (d2 211 46).toInt = ((d2 211 46).toNatClampNeg : Int); omega⟩))
      · exact hQ d2 hS (Or.inr hE)
    · have h : ¬ r1.toInt ≤ x2.toInt := fun q => h ((i_le rfl rfl).mpr q)
      have t : (x2 + 1).toInt = x2.toInt + 1 := ti_add rfl (rfl : (1 : Int32).toInt = 1) (by omega) (by omega)
      have tn : (x2 + 1).toNatClampNeg = x2.toNatClampNeg + 1 := by rw [clampI t]; omega
      refine ⟨fun f => ?_, fun f => ?_⟩
      · rcases hE with ⟨f2, _⟩ | ⟨_, hE⟩
        · exact absurd f2 f
        · exact hQ d2 hS (Or.inr hE)
      · rcases hE with ⟨_, hE⟩ | ⟨f2, _⟩
        rotate_left
        · exact absurd f f2
        have hl : x2.toNatClampNeg < (sbs w).length := by omega
        rw [drop_c hl] at hE
        refine fn_X10_now hS.1 ?_
        refine sp_J0_charAt_5068e hn hS.1 hw ⟨h0, by omega⟩ (fun r9 d10 l11 ⟨p2, q3⟩ => ?_)
        obtain ⟨h4, rfl, rfl⟩ := p2
        have q4 : r9 = (sbs w).getD x2.toNatClampNeg 0 := q3.2.2
        rw [hg, q4]
        refine ⟨fun c d13 e13 => ?_, fun c d14 e14 => ?_⟩
        · rw [ex_n c] at hE
          have s13 : St e el d13 l11 := by rw [e13]; exact pv_211_47 hS (by omega) (by omega)
          have k13 : d13 211 47 = d10 211 46 := by rw [e13, u2_eq]
          refine hK _ _ s13 (by rw [gB_2 hS s13]; exact hg) (by omega) (by omega) (Or.inr ⟨by rw [k13]; exact m1r (by omega), by rw [hE], by rw [k13, hE]; show (d10 211 46).toInt = ((d10 211 46).toNatClampNeg : Int); omega⟩) (by omega)
        · rw [ex_y c] at hE
          have cc := sw.2.2 x2.toNatClampNeg hl
          rw [← c, ← hg] at cc
          have hlim := pkt_lt (N := d10 211 4) (T := d10 225) (p := (d10 211 46).toNatClampNeg) (by unfold gB at cc; omega)
          have th : ((d10 211 46) + 1).toInt = (d10 211 46).toInt + 1 := ti_add rfl (rfl : (1 : Int32).toInt = 1) (by omega) (by omega)
          have s14 : St e el d14 l11 := by rw [e14]; exact pv_211_46 hS (by rw [th]; omega) (by rw [th]; omega)
          have k14 : (d14 211 46).toNatClampNeg = (d10 211 46).toNatClampNeg + 1 := by rw [e14, u2_eq, clampI th]; omega
          refine hK _ _ s14 (by rw [gB_2 hS s14]; exact hg) (by omega) (by omega) (Or.inl ⟨by rw [e14, u2_ne (Or.inr (by omega))]; exact f, by rw [k14, tn]; exact hE⟩) (by omega)
theorem fn_X10_expect {n : Nat} (hn : 1000000000 ≤ n) {w : Nat} (hw : w < 19) {Q : DD → LL → Prop} {e : DD} {el dl : LL} {d : DD} {p : Nat} (hS : St e el d dl) (h47 : d 211 47 = -1) (hp : (d 211 46).toInt = (p : Int)) (hQ : ∀ dz : DD, St e el dz dl → PR (ex (gB d) (sbs w) p) dz → Q dz dl) : F_X10_expect n w d dl Q :=
  fb_X10_expect_2 hn hw hQ n 0 d hS rfl (show (0 : Int) ≤ 0 by omega) (show (0 : Int) ≤ 6 by omega) (Or.inl ⟨h47, by rw [at_n hp]; rfl⟩) (show (8 : Int) ≤ 0 + (n : Int) by omega)
theorem i32_as {a b c : Int32} : (a + b) - c = a + (b - c) := by rw [Int32.sub_eq_add_neg, Int32.sub_eq_add_neg, Int32.add_assoc]
theorem ex_len {g : Nat → Int32} : ∀ (l : List Int32) (p : Nat), (ex g l p).1 = true → (ex g l p).2 = p + l.length := by
  intro l
  induction l with
  | nil => intro p _; rfl
  | cons c cs ih =>
    intro p h
    by_cases hc : g p = c
    · rw [ex_y hc] at h ⊢
      rw [ih (p + 1) h, show p + 1 + cs.length = p + (c :: cs).length by simp; omega]
    · rw [ex_n hc] at h
      exact absurd (show false = true from h) (by decide)
theorem sbs10 {v : Nat} (hv : v ≤ 5) : sbs (10 + v) = sbs v := by
  have hc : v = 0 ∨ v = 1 ∨ v = 2 ∨ v = 3 ∨ v = 4 ∨ v = 5 := by omega
  rcases hc with rfl | rfl | rfl | rfl | rfl | rfl <;> rfl
def WM (x i j : Nat) : Prop := i = 229 ∧ j = x
def WX (x i j : Nat) : Prop := 227 ≤ i ∧ i ≤ 230 ∧ j = x
theorem WX_226 {x : Nat} : ∀ i j, WX x i j → 226 ≤ i := fun i j w => by have := w.1; omega
def TV10 (g : Nat → Int32) (p x : Nat) (dz : DD) : Prop := dz 230 x = (if g p = 110 then 1 else 0) ∧ (dz 227 x).toInt = (wd g (fp g p) : Int) ∧ dz 228 x = sg (g (pz g (fp g p))) ∧ dz 229 x = nv g 4 0 (pz g (fp g p) + 1)
theorem fn_X10_380 {n : Nat} {Q : DD → LL → Prop} {x5 : Int32} {W : Nat → Nat → Prop} {e : DD} {el dl : LL} {d : DD} {p : Nat} {E : Nat × Nat} (hS : SV W e el d dl) (h47 : d 211 47 = -1) (hp : (d 211 46).toInt = (p : Int)) (h0 : 0 ≤ x5.toInt) (hE : E = (x5.toNatClampNeg, p)) (hQ : ∀ dz : DD, SV W e el dz dl → PR (decide (0 < E.1), E.2) dz → dz 229 = d 229 → Q dz dl) : b_X10_test_380 n Q x5 d dl := by
  have mh := iv_211_46 hS.1
  have hx : x5.toNatClampNeg = x5.toInt.toNat := rfl
  refine ⟨fun h => ?_, fun h d44 e44 => ?_⟩
  · have h : ¬ x5.toInt = 0 := fun q => h ((i_eq rfl (rfl : (0 : Int32).toInt = 0)).mpr q)
    refine hQ d hS (Or.inl ⟨?_, h47, by rw [hE]; exact hp⟩) rfl
    rw [hE]; exact decide_eq_true (show 0 < x5.toNatClampNeg by omega)
  · have h : x5.toInt = 0 := (i_eq rfl (rfl : (0 : Int32).toInt = 0)).mp h
    have s44 : SV W e el d44 dl := by rw [e44]; exact hS.st (pv_211_47 (St.rf hS.1) (by omega) (by omega))
    refine hQ d44 s44 (Or.inr ⟨?_, by rw [e44, u2_eq, hE]; exact hp⟩) (by rw [e44, u2_row (by omega)])
    rw [hE]; exact decide_eq_false (show ¬ 0 < x5.toNatClampNeg by omega)
theorem fb_X10_test_317 {n : Nat} {Q : DD → LL → Prop} {x1 : Int32} (b1 : 0 ≤ x1.toInt ∧ x1.toInt ≤ 47) {g : Nat → Int32} {e : DD} {el dl : LL} {E : Nat × Nat} {V : Int32} (hQ : ∀ dz : DD, SV (WM x1.toNatClampNeg) e el dz dl → PR (decide (0 < E.1), E.2) dz → dz 229 x1.toNatClampNeg = V → Q dz dl) : ∀ (j : Nat) (x5 : Int32) (p : Nat) (d : DD), SV (WM x1.toNatClampNeg) e el d dl → gB d = g → d 211 47 = -1 → (d 211 46).toInt = (p : Int) → 0 ≤ x5.toInt → x5.toInt ≤ 4 → E = dg g (4 - x5.toNatClampNeg) x5.toNatClampNeg p → V = nv g (4 - x5.toNatClampNeg) (d 229 x1.toNatClampNeg) p → 5 ≤ x5.toInt + (j : Int) → b_X10_test_317 n Q j x1 x5 d dl := by
  intro j
  induction j with
  | zero =>
    intro x5 p d hS hg h47 hp h0 h1 hE hV hm
    exfalso
    omega
  | succ j hK =>
    intro x5 p d hS hg h47 hp h0 h1 hE hV hm
    show _ ∧ _
    have mh := iv_211_46 hS.1
    have ms := iv_211_4 hS.1
    have hx : x5.toNatClampNeg = x5.toInt.toNat := rfl
    have i1 : vp_in x1 48 := vin rfl (by omega) (by omega)
    refine ⟨fun h => ?_, fun h => ?_⟩
    · have h : 4 ≤ x5.toInt := (i_le (rfl : (4 : Int32).toInt = 4) rfl).mp h
      have hz : 4 - x5.toNatClampNeg = 0 := by omega
      rw [hz] at hE hV
      exact fn_X10_380 hS h47 hp h0 hE (fun dz sz pz vz => hQ dz sz pz (by rw [vz]; exact hV.symm))
    · have h : ¬ 4 ≤ x5.toInt := fun q => h ((i_le (rfl : (4 : Int32).toInt = 4) rfl).mpr q)
      have t4 : (x5 + 1).toInt = x5.toInt + 1 := ti_add rfl (rfl : (1 : Int32).toInt = 1) (by omega) (by omega)
      have n4 : (x5 + 1).toNatClampNeg = x5.toNatClampNeg + 1 := by rw [clampI t4]; omega
      have hz : 4 - x5.toNatClampNeg = (4 - (x5 + 1).toNatClampNeg) + 1 := by omega
      rw [hz] at hE hV
      have hE : E = if 48 ≤ (g p).toInt ∧ (g p).toInt ≤ 57 then dg g (4 - (x5 + 1).toNatClampNeg) (x5.toNatClampNeg + 1) (p + 1) else (x5.toNatClampNeg, p) := hE
      have hV : V = if 48 ≤ (g p).toInt ∧ (g p).toInt ≤ 57 then nv g (4 - (x5 + 1).toNatClampNeg) (((10 : Int32) * (d 229 x1.toNatClampNeg)) + (g p - 48)) (p + 1) else d 229 x1.toNatClampNeg := hV
      refine fn_X10_now hS.1 ?_
      rw [at_n hp, hg]
      refine ⟨fun h2 => ?_, fun h2 => ?_⟩
      · have h2 : (g p).toInt < 48 := (i_lt rfl (rfl : (48 : Int32).toInt = 48)).mp h2
        rw [if_neg (by omega)] at hE hV
        exact fn_X10_380 hS h47 hp h0 hE (fun dz sz pz vz => hQ dz sz pz (by rw [vz]; exact hV.symm))
      · have h2 : ¬ (g p).toInt < 48 := fun q => h2 ((i_lt rfl (rfl : (48 : Int32).toInt = 48)).mpr q)
        refine fn_X10_now hS.1 ?_
        rw [at_n hp, hg]
        refine ⟨fun h3 => ?_, fun h3 => ?_⟩
        · have h3 : 57 < (g p).toInt := (i_lt (rfl : (57 : Int32).toInt = 57) rfl).mp h3
          rw [if_neg (by omega)] at hE hV
          exact fn_X10_380 hS h47 hp h0 hE (fun dz sz pz vz => hQ dz sz pz (by rw [vz]; exact hV.symm))
        · have h3 : ¬ 57 < (g p).toInt := fun q => h3 ((i_lt (rfl : (57 : Int32).toInt = 57) rfl).mpr q)
          rw [if_pos (by omega)] at hE hV
          refine ⟨i1, fn_X10_now hS.1 ⟨i1, ?_⟩⟩
          intro d58 e58 d59 e59
          rw [at_n hp, hg] at e58
          have hz2 : pk (d 211 4) (d 225) p = g p := by rw [← hg]; rfl
          have hlim := pkt_lt (N := d 211 4) (T := d 225) (p := p) (by rw [hz2]; omega)
          have s58 : SV (WM x1.toNatClampNeg) e el d58 dl := by rw [e58]; exact hS.put (pw_229 (P := pN) (dl := dl) (StP.rf hS.1) rfl).1 (Or.inl ⟨rfl, rfl⟩)
          have k58 : d58 211 46 = d 211 46 := by rw [e58, u2_row (by omega)]
          have th : ((d58 211 46) + 1).toInt = (p : Int) + 1 := ti_add (by rw [k58]; exact hp) (rfl : (1 : Int32).toInt = 1) (by omega) (by omega)
          have s59 : SV (WM x1.toNatClampNeg) e el d59 dl := by rw [e59]; exact s58.st (pv_211_46 (St.rf s58.1) (by rw [th]; omega) (by rw [th]; omega))
          have v59 : d59 229 x1.toNatClampNeg = ((10 : Int32) * (d 229 x1.toNatClampNeg)) + (g p - 48) := by rw [e59, u2_row (by omega), e58, u2_eq, i32_as]
          refine hK _ (p + 1) _ s59 ?_ (by rw [e59, u2_ne (Or.inr (by omega)), e58, u2_row (by omega)]; exact h47) (by rw [e59, u2_eq, th]; omega) (by omega) (by omega) (by rw [n4]; rw [n4] at hE; exact hE) (by rw [n4, v59]; rw [n4] at hV; exact hV) (by omega)
          rw [← hg]
          unfold gB
          rw [e59, u2_ne (Or.inr (by omega)), u2_row (by omega), e58, u2_row (by omega), u2_row (by omega)]
def TY10 (g : Nat → Int32) (q x : Nat) (d dz : DD) : Prop := dz 230 x = d 230 x ∧ dz 227 x = d 227 x ∧ dz 228 x = sg (g q) ∧ dz 229 x = nv g 4 0 (q + 1)
theorem fn_X10_226 {n : Nat} (hn : 1000000000 ≤ n) {Q : DD → LL → Prop} {x1 : Int32} (b1 : 0 ≤ x1.toInt ∧ x1.toInt ≤ 47) {w : Nat} (hw : w < 19) {dl : LL} {d : DD} {p : Nat} {E : Bool × Nat} (hI : Inv d) (h47 : d 211 47 = -1) (hp : (d 211 46).toInt = (p : Int)) (hE : E = tsW (gB d) (sbs w) p) (hQ : ∀ dz : DD, SV (WX x1.toNatClampNeg) d dl dz dl → PR E dz → (E.1 = true → TY10 (gB d) (ex (gB d) (sbs w) p).2 x1.toNatClampNeg d dz) → Q dz dl) : b_X10_test_226 n Q x1 w d dl := by
  have i1 : vp_in x1 48 := vin rfl (by omega) (by omega)
  refine fn_X10_expect hn hw (St.rf hI) h47 hp (fun d28 s28 pz => ?_)
  have sv28 : SV (WX x1.toNatClampNeg) d dl d28 dl := (SV.rf hI).st s28
  unfold tsW at hE
  rcases pz with ⟨a, b, c⟩ | ⟨a, c⟩
  · rw [if_pos a] at hE
    generalize (ex (gB d) (sbs w) p).2 = q at *
    refine ⟨fun _ => ?_, fun f => absurd b f⟩
    refine fn_X10_now s28.1 ?_
    rw [at_n c, gB_st s28]
    have ms := iv_211_4 s28.1
    have mh := iv_211_46 s28.1
    have go : ∀ xs : Int32, xs = sg (gB d q) → b_X10_test_269 n Q x1 (gB d q) xs x1 d28 dl := by
      intro xs hxs
      refine ⟨i1, fun d37 e37 => ?_⟩
      have s37 : SV (WX x1.toNatClampNeg) d dl d37 dl := by rw [e37]; exact sv28.put (pw_228 (P := pN) (dl := dl) (StP.rf s28.1) rfl).1 (Or.inl ⟨by omega, by omega, rfl⟩)
      have k37 : (d37 211 46).toInt = (q : Int) := by rw [e37, u2_row (by omega)]; exact c
      have f37 : d37 211 47 = -1 := by rw [e37, u2_row (by omega)]; exact b
      have g37 : gB d37 = gB d := gB_sv s37 WX_226
      have good : (gB d q = 60 ∨ gB d q = 61 ∨ gB d q = 62) → b_X10_test_297 n Q x1 d37 dl := by
        intro hs
        have hE : E = tsD (gB d) (q + 1) := by
          rw [hE]
          unfold tsS
          rw [if_pos hs]
        have hlim := pkt_lt (N := d37 211 4) (T := d37 225) (p := q) (by
          have h2 : pk (d37 211 4) (d37 225) q = gB d q := by rw [← g37]; rfl
          rw [h2]
          rcases hs with h2 | h2 | h2 <;> rw [h2] <;> decide)
        have ms := iv_211_4 s37.1
        intro d39 e39
        have th : ((d37 211 46) + 1).toInt = (q : Int) + 1 := ti_add k37 (rfl : (1 : Int32).toInt = 1) (by omega) (by omega)
        have s39 : SV (WX x1.toNatClampNeg) d dl d39 dl := by rw [e39]; exact s37.st (pv_211_46 (St.rf s37.1) (by rw [th]; omega) (by rw [th]; omega))
        refine ⟨i1, fun d41 e41 => ?_⟩
        have s41 : SV (WX x1.toNatClampNeg) d dl d41 dl := by rw [e41]; exact s39.put (pw_229 (P := pN) (dl := dl) (StP.rf s39.1) rfl).1 (Or.inl ⟨by omega, by omega, rfl⟩)
        have z41 : d41 229 x1.toNatClampNeg = 0 := by rw [e41, u2_eq]
        have y8 : d41 228 x1.toNatClampNeg = sg (gB d q) := by rw [e41, u2_row (by omega), e39, u2_row (by omega), e37, u2_eq, hxs]
        have y0 : d41 230 x1.toNatClampNeg = d 230 x1.toNatClampNeg := by rw [e41, u2_row (by omega), e39, u2_row (by omega), e37, u2_row (by omega)]; exact s28.2.1 230 _ rfl
        have y7 : d41 227 x1.toNatClampNeg = d 227 x1.toNatClampNeg := by rw [e41, u2_row (by omega), e39, u2_row (by omega), e37, u2_row (by omega)]; exact s28.2.1 227 _ rfl
        refine fb_X10_test_317 b1 (g := gB d) (e := d41) (el := dl) (E := dg (gB d) 4 0 (q + 1)) (V := nv (gB d) 4 0 (q + 1)) (fun dz sz pz vz => hQ dz (s41.tr sz (fun i j w => ⟨by have := w.1; omega, by have := w.1; omega, w.2⟩)) (by rw [hE]; exact pz) (fun _ => ⟨?_, ?_, ?_, vz⟩)) n 0 (q + 1) d41 (SV.rf s41.1) (gB_sv s41 WX_226) (by rw [e41, u2_row (by omega), e39, u2_ne (Or.inr (by omega))]; exact f37) (by rw [e41, u2_row (by omega), e39, u2_eq, th]; omega) (show (0 : Int) ≤ 0 by omega) (show (0 : Int) ≤ 4 by omega) rfl (by rw [z41]; rfl) (show (5 : Int) ≤ 0 + (n : Int) by omega)
        · rw [sz.2.1 230 _ rfl (fun w => absurd w.1 (by decide))]; exact y0
        · rw [sz.2.1 227 _ rfl (fun w => absurd w.1 (by decide))]; exact y7
        · rw [sz.2.1 228 _ rfl (fun w => absurd w.1 (by decide))]; exact y8
      refine ⟨fun h1 => good (Or.inl h1), fun h1 => ⟨fun h2 => good (Or.inr (Or.inl h2)), fun h2 => ⟨fun h3 => good (Or.inr (Or.inr h3)), fun h3 d62 e62 => ?_⟩⟩⟩
      have hE : E = (false, q) := by
        rw [hE]
        unfold tsS
        rw [if_neg (fun w => w.elim h1 (fun w => w.elim h2 h3))]
      have s62 : SV (WX x1.toNatClampNeg) d dl d62 dl := by rw [e62]; exact s37.st (pv_211_47 (St.rf s37.1) (by omega) (by omega))
      exact hQ d62 s62 (Or.inr (by rw [hE]; exact ⟨rfl, by rw [e62, u2_eq]; exact k37⟩)) (fun w => by rw [hE] at w; exact absurd (show false = true from w) (by decide))
    exact ⟨fun h60 => ⟨fun h61 => go 1 (by unfold sg; rw [if_neg h60, if_neg h61]), fun h61 => go 0 (by unfold sg; rw [if_neg h60, if_pos h61])⟩, fun h60 => go (-1) (by unfold sg; rw [if_pos h60])⟩
  · rw [if_neg (by rw [a]; decide)] at hE
    refine ⟨fun f => ?_, fun f => hQ d28 sv28 (Or.inr (by rw [hE]; exact ⟨a, c⟩)) (fun w => by rw [hE, a] at w; exact absurd w (by decide))⟩
    have : (d28 211 47).toInt = -1 := (i_eq rfl (rfl : (-1 : Int32).toInt = -1)).mp f
    omega
theorem fn_X10_161 {n : Nat} (hn : 1000000000 ≤ n) {Q : DD → LL → Prop} {x1 : Int32} (b1 : 0 ≤ x1.toInt ∧ x1.toInt ≤ 47) {v : Nat} (hv : v ≤ 5) {dl : LL} {d : DD} {p : Nat} {E : Bool × Nat} (hI : Inv d) (h47 : d 211 47 = -1) (hp : (d 211 46).toInt = (p : Int)) (hf : (d 227 x1.toNatClampNeg).toInt = (v : Int)) (hE : E = tsW (gB d) (sbs (10 + v)) p) (hQ : ∀ dz : DD, SV (WX x1.toNatClampNeg) d dl dz dl → PR E dz → (E.1 = true → TY10 (gB d) (ex (gB d) (sbs (10 + v)) p).2 x1.toNatClampNeg d dz) → Q dz dl) : b_X10_test_161 n Q x1 d dl := by
  have i1 : vp_in x1 48 := vin rfl (by omega) (by omega)
  have w : ∀ (y : Int32) (k : Int), y.toInt = k → ((d 227 x1.toNatClampNeg) = y ↔ (v : Int) = k) := fun y k hy => i_eq hf hy
  refine ⟨i1, fun v21 e21 => ?_⟩
  rw [e21]
  have c0 := w 0 0 rfl
  have c1 := w 1 1 rfl
  have c2 := w 2 2 rfl
  have c3 := w 3 3 rfl
  have c4 := w 4 4 rfl
  clear w
  refine ⟨fun g0 => ⟨fun g1 => ⟨fun g2 => ⟨fun g3 => ⟨fun g4 => ?_, fun g4 => ?_⟩, fun g3 => ?_⟩, fun g2 => ?_⟩, fun g1 => ?_⟩, fun g0 => ?_⟩
  · have g0 : ¬ (v : Int) = 0 := fun q => g0 (c0.mpr q)
    have g1 : ¬ (v : Int) = 1 := fun q => g1 (c1.mpr q)
    have g2 : ¬ (v : Int) = 2 := fun q => g2 (c2.mpr q)
    have g3 : ¬ (v : Int) = 3 := fun q => g3 (c3.mpr q)
    have g4 : ¬ (v : Int) = 4 := fun q => g4 (c4.mpr q)
    have h5 : v = 5 := by omega
    subst h5
    exact fn_X10_226 hn b1 (by decide) hI h47 hp hE hQ
  · have h5 : v = 4 := by have := c4.mp g4; omega
    subst h5
    exact fn_X10_226 hn b1 (by decide) hI h47 hp hE hQ
  · have h5 : v = 3 := by have := c3.mp g3; omega
    subst h5
    exact fn_X10_226 hn b1 (by decide) hI h47 hp hE hQ
  · have h5 : v = 2 := by have := c2.mp g2; omega
    subst h5
    exact fn_X10_226 hn b1 (by decide) hI h47 hp hE hQ
  · have h5 : v = 1 := by have := c1.mp g1; omega
    subst h5
    exact fn_X10_226 hn b1 (by decide) hI h47 hp hE hQ
  · have h5 : v = 0 := by have := c0.mp g0; omega
    subst h5
    exact fn_X10_226 hn b1 (by decide) hI h47 hp hE hQ
def TZ10 (g : Nat → Int32) (p x : Nat) (d dz : DD) : Prop := dz 230 x = d 230 x ∧ (dz 227 x).toInt = (wd g p : Int) ∧ dz 228 x = sg (g (pz g p)) ∧ dz 229 x = nv g 4 0 (pz g p + 1)
theorem fn_X10_35 {n : Nat} (hn : 1000000000 ≤ n) {Q : DD → LL → Prop} {x1 : Int32} (b1 : 0 ≤ x1.toInt ∧ x1.toInt ≤ 47) {dl : LL} {d : DD} {E : Bool × Nat} {P0 : Nat} (hI : Inv d) (hE : (d 211 47 = -1 ∧ (d 211 46).toInt = (P0 : Int) ∧ E = tsF (gB d) P0) ∨ (¬ d 211 47 = -1 ∧ E.1 = false ∧ (d 211 47).toInt = (E.2 : Int))) (hQ : ∀ dz : DD, SV (WX x1.toNatClampNeg) d dl dz dl → PR E dz → (E.1 = true → TZ10 (gB d) P0 x1.toNatClampNeg d dz) → Q dz dl) : b_X10_test_35 n Q x1 d dl := by
  have i1 : vp_in x1 48 := vin rfl (by omega) (by omega)
  refine ⟨fun f => ?_, fun f => ?_⟩
  · rcases hE with ⟨_, hp, hE⟩ | ⟨f2, _⟩
    rotate_left
    · exact absurd f f2
    have mh := iv_211_46 hI
    have ms := iv_211_4 hI
    refine fn_X10_now hI ?_
    rw [at_n hp]
    have th : ((d 211 46) + 1).toInt = (P0 : Int) + 1 := ti_add hp (rfl : (1 : Int32).toInt = 1) (by omega) (by omega)
    have fin : ∀ (v : Nat) (xs : Int32) (d19 : DD), v ≤ 5 → xs.toInt = (v : Int) → wd (gB d) P0 = v → d19 = u2 d 227 x1.toNatClampNeg xs → E = tsW (gB d) (sbs (10 + v)) P0 → b_X10_test_161 n Q x1 d19 dl := by
      intro v xs d19 hv hxs hwd e19 hE
      have s19 : SV (WX x1.toNatClampNeg) d dl d19 dl := by rw [e19]; exact (SV.rf hI).put (pw_227 (P := pN) (dl := dl) (StP.rf hI) (by omega) (by omega) rfl).1 (Or.inl ⟨by omega, by omega, rfl⟩)
      have g19 : gB d19 = gB d := gB_sv s19 WX_226
      refine fn_X10_161 hn b1 hv s19.1 (by rw [e19, u2_row (by omega)]; exact f) (by rw [e19, u2_row (by omega)]; exact hp) (by rw [e19, u2_eq]; exact hxs) (by rw [g19]; exact hE) (fun dz sz pz' tz => hQ dz (s19.tr sz (fun _ _ w => w)) pz' (fun w => ?_))
      obtain ⟨a, b, c, e⟩ := tz w
      rw [g19, sbs10 hv] at c e
      have hpz : pz (gB d) P0 = (ex (gB d) (sbs v) P0).2 := by unfold pz; rw [hwd]
      unfold TZ10
      rw [hpz, hwd]
      exact ⟨by rw [a, e19, u2_row (by omega)], by rw [b, e19, u2_eq]; exact hxs, c, e⟩
    have go : ∀ y : Int32, y = gB d (P0 + 1) → b_X10_test_77 n Q x1 (gB d P0) y d dl := by
      intro y hy
      have put : ∀ (v : Nat) (xs : Int32), v ≤ 5 → xs.toInt = (v : Int) → wd (gB d) P0 = v → E = tsW (gB d) (sbs (10 + v)) P0 → b_X10_test_160 n Q x1 xs x1 d dl := by
        intro v xs hv hxs hwd hE
        exact ⟨i1, fun d19 e19 => fin v xs d19 hv hxs hwd e19 hE⟩
      refine ⟨fun w => ⟨fun m => ⟨fun o => ⟨fun yy => ?_, fun yy => ?_⟩, fun o => ?_⟩, fun m => ?_⟩, fun w => ?_⟩
      · exact put 5 5 (by omega) rfl (by unfold wd; rw [if_neg w, if_neg m, if_neg o, if_neg yy]) (by rw [hE, tsF_c w m o yy]; rfl)
      · exact put 3 3 (by omega) rfl (by unfold wd; rw [if_neg w, if_neg m, if_neg o, if_pos yy]) (by rw [hE, tsF_y yy]; rfl)
      · exact put 2 2 (by omega) rfl (by unfold wd; rw [if_neg w, if_neg m, if_pos o]) (by rw [hE, tsF_o o]; rfl)
      · exact put 0 0 (by omega) rfl (by unfold wd; rw [if_neg w, if_pos m]) (by rw [hE, tsF_m m]; rfl)
      · rw [hy]
        have wput : ∀ (v : Nat) (xs : Int32), v ≤ 5 → xs.toInt = (v : Int) → wd (gB d) P0 = v → (gB d (P0 + 1) = 101 → E = tsW (gB d) (sbs (10 + v)) P0) → (gB d (P0 + 1) = 111 → E = tsW (gB d) (sbs (10 + v)) P0) → b_X10_test_100 n Q x1 (gB d (P0 + 1)) xs x1 d dl := by
          intro v xs hv hxs hwd h1 h2
          refine ⟨i1, fun d65 e65 => ?_⟩
          have s65 : SV (WX x1.toNatClampNeg) d dl d65 dl := by rw [e65]; exact (SV.rf hI).put (pw_227 (P := pN) (dl := dl) (StP.rf hI) (by omega) (by omega) rfl).1 (Or.inl ⟨by omega, by omega, rfl⟩)
          have k65 : d65 211 46 = d 211 46 := by rw [e65, u2_row (by omega)]
          refine ⟨fun g1 => fin v xs d65 hv hxs hwd e65 (h1 g1), fun g1 => ⟨fun g2 => fin v xs d65 hv hxs hwd e65 (h2 g2), fun g2 d68 e68 => ?_⟩⟩
          have th2 : ((d65 211 46) + 1).toInt = (P0 : Int) + 1 := by rw [k65]; exact th
          have s68 : SV (WX x1.toNatClampNeg) d dl d68 dl := by rw [e68]; exact s65.st (pv_211_47 (St.rf s65.1) (by rw [th2]; omega) (by rw [th2]; omega))
          have hE2 : E = (false, P0 + 1) := by
            rw [hE]
            unfold tsF
            rw [if_pos w, if_neg g1, if_neg g2]
          refine hQ d68 s68 (Or.inr ?_) (fun w => ?_)
          · rw [hE2]
            exact ⟨rfl, by rw [e68, u2_eq, th2]; show (P0 : Int) + 1 = ((P0 + 1 : Nat) : Int); omega⟩
          · rw [hE2] at w
            exact absurd (show false = true from w) (by decide)
        refine ⟨fun g1 => wput 1 1 (by omega) rfl (by unfold wd; rw [if_pos w, if_neg g1]) (fun q => absurd q g1) (fun q => by rw [hE, tsF_v w q]; rfl), fun g1 => wput 4 4 (by omega) rfl (by unfold wd; rw [if_pos w, if_pos g1]) (fun q => by rw [hE, tsF_w w q]; rfl) (fun q => absurd (g1.symm.trans q) (by decide))⟩
    refine ⟨fun h => ?_, fun h => ?_⟩
    · have h : (d 211 4).toInt ≤ (P0 : Int) + 1 := (i_le rfl th).mp h
      refine go (-1) ?_
      unfold gB pk
      rw [if_neg (by omega)]
    · have h : ¬ (d 211 4).toInt ≤ (P0 : Int) + 1 := fun q => h ((i_le rfl th).mpr q)
      have hc : ((d 211 46) + 1).toNatClampNeg = P0 + 1 := by rw [clampI th]; omega
      rw [hc]
      refine ⟨vin th (by omega) (by omega), go _ ?_⟩
      unfold gB pk
      rw [if_pos (by omega)]
  · rcases hE with ⟨f2, _⟩ | ⟨_, hE⟩
    · exact absurd f2 f
    · exact hQ d (SV.rf hI) (Or.inr hE) (fun w => by rw [hE.1] at w; exact absurd w (by decide))
theorem fn_X10_test {n : Nat} (hn : 1000000000 ≤ n) {Q : DD → LL → Prop} {x1 : Int32} (b1 : 0 ≤ x1.toInt ∧ x1.toInt ≤ 47) {dl : LL} {d : DD} {p : Nat} (hI : Inv d) (h47 : d 211 47 = -1) (hp : (d 211 46).toInt = (p : Int)) (hQ : ∀ dz : DD, SV (WX x1.toNatClampNeg) d dl dz dl → PR (tst (gB d) p) dz → ((tst (gB d) p).1 = true → TV10 (gB d) p x1.toNatClampNeg dz) → Q dz dl) : F_X10_test n x1 d dl Q := by
  have i1 : vp_in x1 48 := vin rfl (by omega) (by omega)
  refine fn_X10_now hI ?_
  rw [at_n hp]
  have go : ∀ xs : Int32, (vp_nar .boolean xs = 0 ∧ ¬ gB d p = 110) ∨ (vp_nar .boolean xs = 1 ∧ gB d p = 110) → b_X10_test_19 n Q x1 xs x1 d dl := by
    intro xs hxs
    refine ⟨i1, fun d6 e6 => ?_⟩
    have s6 : SV (WX x1.toNatClampNeg) d dl d6 dl := by rw [e6]; exact (SV.rf hI).put (pw_230 (P := pN) (dl := dl) (StP.rf hI) (vn_in _).1 (vn_in _).2 rfl).1 (Or.inl ⟨by omega, by omega, rfl⟩)
    have g6 : gB d6 = gB d := gB_sv s6 WX_226
    have v6 : d6 230 x1.toNatClampNeg = vp_nar .boolean xs := by rw [e6, u2_eq]
    refine ⟨i1, fun h => ?_, fun h => ?_⟩
    · rw [v6] at h
      rcases hxs with ⟨h0, hn0⟩ | ⟨h1, _⟩
      · refine fn_X10_35 hn b1 (P0 := p) s6.1 (Or.inl ⟨by rw [e6, u2_row (by omega)]; exact h47, by rw [e6, u2_row (by omega)]; exact hp, ?_⟩) (fun dz sz pz' tz => hQ dz (s6.tr sz (fun _ _ w => w)) pz' (fun w => ?_))
        · rw [tst_f hn0, g6]
        · obtain ⟨a, b, c, e⟩ := tz w
          rw [g6] at b c e
          have hfp : fp (gB d) p = p := if_neg hn0
          unfold TV10
          rw [hfp, if_neg hn0]
          exact ⟨by rw [a, v6, h0], b, c, e⟩
      · exact absurd (h1.symm.trans h) (by decide)
    · have f6 : d6 211 47 = -1 := by rw [e6, u2_row (by omega)]; exact h47
      have p6 : (d6 211 46).toInt = (p : Int) := by rw [e6, u2_row (by omega)]; exact hp
      rw [v6] at h
      rcases hxs with ⟨h1, _⟩ | ⟨h1, hn1⟩
      · exact absurd h1 h
      refine fn_X10_expect hn (by decide) (St.rf s6.1) f6 p6 (fun d71 s71 pz' => ?_)
      rw [g6] at pz'
      have sv71 : SV (WX x1.toNatClampNeg) d dl d71 dl := s6.st s71
      have g71 : gB d71 = gB d := gB_sv sv71 WX_226
      have ht : tst (gB d) p = if (ex (gB d) (sbs 9) p).1 = true then tsF (gB d) (ex (gB d) (sbs 9) p).2 else ex (gB d) (sbs 9) p := by
        unfold tst
        rw [if_pos hn1]
      rcases pz' with ⟨a, b, c⟩ | ⟨a, c⟩
      · rw [if_pos a] at ht
        refine fn_X10_35 hn b1 (P0 := (ex (gB d) (sbs 9) p).2) s71.1 (Or.inl ⟨b, c, by rw [g71]; exact ht⟩) (fun dz sz pw tz => hQ dz (sv71.tr sz (fun _ _ w => w)) pw (fun w => ?_))
        obtain ⟨a1, a2, a3, a4⟩ := tz w
        rw [g71] at a2 a3 a4
        have hl : (ex (gB d) (sbs 9) p).2 = p + 4 := ex_len (sbs 9) p a
        have hfp : fp (gB d) p = (ex (gB d) (sbs 9) p).2 := by rw [hl]; exact if_pos hn1
        unfold TV10
        rw [hfp, if_pos hn1]
        exact ⟨by rw [a1, s71.2.1 230 _ rfl, v6, h1], a2, a3, a4⟩
      · rw [if_neg (by rw [a]; decide)] at ht
        refine fn_X10_35 hn b1 (P0 := 0) s71.1 (Or.inr ⟨m1r (by omega), by rw [ht]; exact a, by rw [ht]; exact c⟩) (fun dz sz pw tz => hQ dz (sv71.tr sz (fun _ _ w => w)) pw (fun w => ?_))
        rw [ht, a] at w
        exact absurd w (by decide)
  exact ⟨fun h => go 0 (Or.inl ⟨by decide, h⟩), fun h => go 1 (Or.inr ⟨by decide, h⟩)⟩
