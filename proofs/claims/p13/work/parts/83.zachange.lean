def ChgQ10 (d : DD) (x1 x2 x3 r : Int32) : Prop :=
  (¬ okG (d 211 1) (d 218 x1.toNatClampNeg) x1 x2 x3 ∧ r = -100000) ∨ (okG (d 211 1) (d 218 x1.toNatClampNeg) x1 x2 x3 ∧ noG (d 224 x1.toNatClampNeg) (fun p => (d 214 p).toInt) (whB d 223 (8 * x1.toNatClampNeg)) x2.toNatClampNeg x3.toNatClampNeg ∧ r = -100001) ∨ (okG (d 211 1) (d 218 x1.toNatClampNeg) x1 x2 x3 ∧ ¬ noG (d 224 x1.toNatClampNeg) (fun p => (d 214 p).toInt) (whB d 223 (8 * x1.toNatClampNeg)) x2.toNatClampNeg x3.toNatClampNeg ∧ ∀ S : Nat, (S : Int) = 2 * (d 218 x1.toNatClampNeg).toInt → ∃ who : Nat → Nat, (∀ i, i < S → who i = swp (whB d 223 (8 * x1.toNatClampNeg)) x2.toNatClampNeg x3.toNatClampNeg i) ∧ r.toInt = tltB (d 218 x1.toNatClampNeg).toInt (d 219 x1.toNatClampNeg).toInt (wB d) (sB d) (lB d) who S)
theorem st247 {d dz : DD} {dl : LL} (hz : Inv dz) (h : ∀ i, i ≠ 247 → dz i = d i) : St d dl dz dl := by
  refine ⟨hz, fun i j q => ?_, fun _ _ _ => rfl⟩
  by_cases e : i = 247
  · subst e
    exact absurd (show false = true from q) (by decide)
  · rw [h i e]
theorem fb_X10_change_58 {n : Nat} (hn : 1000000000 ≤ n) {Q : Int32 → DD → LL → Prop} {x1 x2 x3 : Int32} {d0 : DD} {dl : LL} {k S : Nat} (hk : k < 6) (h1 : x1.toInt = (k : Int)) (b2 : 0 ≤ x2.toInt ∧ x2.toInt < (S : Int)) (b3 : 0 ≤ x3.toInt ∧ x3.toInt < (S : Int)) (hR : 2 ≤ (d0 218 k).toInt) (hS : (S : Int) = 2 * (d0 218 k).toInt) (hno : ∀ dz : DD, Inv dz → (∀ i, i ≠ 247 → dz i = d0 i) → ((d0 214 (whB d0 223 (8 * k) x2.toNatClampNeg)).toInt = 1 - ((x3.toNatClampNeg % 2 : Nat) : Int) ∨ (d0 214 (whB d0 223 (8 * k) x3.toNatClampNeg)).toInt = 1 - ((x2.toNatClampNeg % 2 : Nat) : Int)) → Q (-100001) dz dl) (hyes : ∀ (r : Int32) (dz : DD), Inv dz → (∀ i, i ≠ 247 → dz i = d0 i) → ¬ (d0 214 (whB d0 223 (8 * k) x2.toNatClampNeg)).toInt = 1 - ((x3.toNatClampNeg % 2 : Nat) : Int) → ¬ (d0 214 (whB d0 223 (8 * k) x3.toNatClampNeg)).toInt = 1 - ((x2.toNatClampNeg % 2 : Nat) : Int) → (∃ who : Nat → Nat, (∀ i, i < S → who i = swp (whB d0 223 (8 * k)) x2.toNatClampNeg x3.toNatClampNeg i) ∧ r.toInt = tltB (d0 218 k).toInt (d0 219 k).toInt (wB d0) (sB d0) (lB d0) who S) → Q r dz dl) : ∀ (j s : Nat) (x4 : Int32) (d : DD), Inv d → (∀ i, i ≠ 247 → d i = d0 i) → x4.toInt = (s : Int) → s ≤ S → (∀ i, i < s → d 247 i = d0 223 (8 * k + i)) → 9 ≤ s + j → b_X10_change_58 n Q j x1 x2 x3 x4 d dl := by
  have e1 := at_n h1
  intro j
  induction j with
  | zero =>
    intro s x4 d hI hF h4 hs hc hj
    exfalso
    have := iv_218 hI k
    rw [hF 218 (by omega)] at this
    omega
  | succ j ih =>
    intro s x4 d hI hF h4 hs hc hj
    show _ ∧ _
    have mR := iv_218 hI k
    rw [hF 218 (by omega)] at mR
    have hS8 : S ≤ 8 := by omega
    have e4 := at_n h4
    have i6 : vp_in x1 6 := vin h1 (by omega) (by omega)
    have t2 : ((2 : Int32) * (d 218 k)).toInt = (S : Int) := by
      have t : ((2 : Int32) * (d 218 k)).toInt = 2 * (d 218 k).toInt := ti_mul (rfl : (2 : Int32).toInt = 2) rfl (by rw [hF 218 (by omega)]; omega) (by rw [hF 218 (by omega)]; omega)
      rw [t, hF 218 (by omega)]; omega
    have hx2 : x2.toNatClampNeg = x2.toInt.toNat := rfl
    have hx3 : x3.toNatClampNeg = x3.toInt.toNat := rfl
    have i2 : vp_in x2 8 := vin rfl b2.1 (by omega)
    have i3 : vp_in x3 8 := vin rfl b3.1 (by omega)
    rw [e1, e4]
    refine ⟨i6, fun w => ?_, fun w => ?_⟩
    · have w : (S : Int) ≤ (s : Int) := (i_le t2 h4).mp w
      have hsS : s = S := by omega
      subst hsS
      have m2 := iv_247 hI x2.toNatClampNeg
      have m3 := iv_247 hI x3.toNatClampNeg
      refine ⟨i2, fun v16 e16 => ⟨i3, i2, fun d19 e19 => ⟨i3, fun d21 e21 => ⟨i2, ?_⟩⟩⟩⟩
      have s19 : StP pN d dl d19 dl := by rw [e19]; exact pw_247 (StP.rf hI) m3.1 m3.2 rfl
      have s21 : StP pN d dl d21 dl := by rw [e21]; exact pw_247 s19 (by rw [e16]; exact m2.1) (by rw [e16]; exact m2.2) rfl
      have I21 : Inv d21 := s21.1
      have f21 : ∀ i, i ≠ 247 → d21 i = d0 i := fun i hi => by rw [e21, u2_row hi, e19, u2_row hi]; exact hF i hi
      have r21 : d21 247 = swp (d 247) x2.toNatClampNeg x3.toNatClampNeg := by
        rw [e21, u2_own, e19, u2_own, e16]
        funext i
        unfold swp upd
        by_cases h1 : i = x3.toNatClampNeg
        · simp [h1]
        · by_cases h2 : i = x2.toNatClampNeg
          · simp [h1, h2]
          · simp [h1, h2]
      have q2 : d21 247 x2.toNatClampNeg = d0 223 (8 * k + x3.toNatClampNeg) := by
        rw [r21, ← hc x3.toNatClampNeg (by omega)]
        unfold swp
        by_cases h2 : x2.toNatClampNeg = x3.toNatClampNeg
        · rw [if_pos h2, h2]
        · rw [if_neg h2, if_pos rfl]
      have q3 : d21 247 x3.toNatClampNeg = d0 223 (8 * k + x2.toNatClampNeg) := by
        rw [r21, ← hc x2.toNatClampNeg (by omega)]
        unfold swp
        rw [if_pos rfl]
      have mm2 := iv_247 I21 x2.toNatClampNeg
      have mm3 := iv_247 I21 x3.toNatClampNeg
      have n2 : (d21 247 x2.toNatClampNeg).toInt = ((whB d0 223 (8 * k) x3.toNatClampNeg : Nat) : Int) := by
        have : whB d0 223 (8 * k) x3.toNatClampNeg = (d0 223 (8 * k + x3.toNatClampNeg)).toInt.toNat := rfl
        rw [q2] at mm2 ⊢
        omega
      have n3 : (d21 247 x3.toNatClampNeg).toInt = ((whB d0 223 (8 * k) x2.toNatClampNeg : Nat) : Int) := by
        have : whB d0 223 (8 * k) x2.toNatClampNeg = (d0 223 (8 * k + x2.toNatClampNeg)).toInt.toNat := rfl
        rw [q3] at mm3 ⊢
        omega
      have p2 : x2.toInt = (x2.toNatClampNeg : Int) := by omega
      have p3 : x3.toInt = (x3.toNatClampNeg : Int) := by omega
      have e214 : d21 214 = d0 214 := f21 214 (by omega)
      refine fn_X10_fits n2 (by omega) p2 I21 (fun r hr => ?_)
      rw [e214] at hr
      refine ⟨fun w => ?_, fun w => ⟨i3, ?_⟩⟩
      · rcases hr with ⟨e, _⟩ | ⟨_, q⟩
        · rw [e] at w
          exact absurd w (by decide)
        · exact hno d21 I21 f21 (Or.inr q)
      · have q1 : ¬ (d0 214 (whB d0 223 (8 * k) x3.toNatClampNeg)).toInt = 1 - ((x2.toNatClampNeg % 2 : Nat) : Int) := by
          rcases hr with ⟨_, q⟩ | ⟨e, _⟩
          · exact q
          · exact absurd e w
        refine fn_X10_fits n3 (by omega) p3 I21 (fun r2 hr2 => ?_)
        rw [e214] at hr2
        refine ⟨fun w2 => ?_, fun w2 => ?_⟩
        · have q4 : ¬ (d0 214 (whB d0 223 (8 * k) x2.toNatClampNeg)).toInt = 1 - ((x3.toNatClampNeg % 2 : Nat) : Int) := by
            rcases hr2 with ⟨_, q⟩ | ⟨e, _⟩
            · exact q
            · exact absurd e w2
          have g218 : d21 218 = d0 218 := f21 218 (by omega)
          have g219 : d21 219 = d0 219 := f21 219 (by omega)
          refine fn_X10_tilt hn (c := 247) (x := 0) (k := k) (S := s) I21 (Or.inl rfl) h1 hk rfl (by rw [show ln 247 = 8 from rfl]; omega) (by omega) (by rw [g218]; exact hR) (by rw [g218]; exact hS) (fun r3 hr3 => hyes r3 d21 I21 f21 q4 q1 ⟨whB d21 247 0, fun i hi => ?_, ?_⟩)
          · show (d21 247 (0 + i)).toNatClampNeg = _
            rw [Nat.zero_add, r21]
            unfold swp whB
            by_cases h1 : i = x3.toNatClampNeg
            · rw [if_pos h1, if_pos h1, hc _ (by omega)]
            · rw [if_neg h1, if_neg h1]
              by_cases h2 : i = x2.toNatClampNeg
              · rw [if_pos h2, if_pos h2, hc _ (by omega)]
              · rw [if_neg h2, if_neg h2, hc _ hi]
          · have w0 : wB d21 = wB d0 := by unfold wB; rw [f21 212 (by omega)]
            have s0 : sB d21 = sB d0 := by unfold sB; rw [f21 213 (by omega)]
            have l0 : lB d21 = lB d0 := by unfold lB; rw [f21 217 (by omega)]
            rw [g218, g219, w0, s0, l0] at hr3
            exact hr3
        · rcases hr2 with ⟨e, _⟩ | ⟨_, q⟩
          · rw [e] at w2
            exact absurd w2 (by decide)
          · exact hno d21 I21 f21 (Or.inl q)
    · have w : ¬ (S : Int) ≤ (s : Int) := fun q => w ((i_le t2 h4).mpr q)
      have t8 : (((8 : Int32) * x1) + x4).toInt = ((8 * k + s : Nat) : Int) := by
        have t : (((8 : Int32) * x1) + x4).toInt = 8 * (k : Int) + (s : Int) := ti_add (ti_mul (rfl : (8 : Int32).toInt = 8) h1 (by omega) (by omega)) h4 (by omega) (by omega)
        rw [t]; omega
      have i48 : vp_in (((8 : Int32) * x1) + x4) 48 := vin t8 (by omega) (by omega)
      refine ⟨i48, vin h4 (by omega) (by omega), fun d37 e37 => ?_⟩
      rw [at_n t8] at e37
      have m := iv_223 hI (8 * k + s)
      have s37 : StP pN d dl d37 dl := by rw [e37]; exact pw_247 (StP.rf hI) m.1 m.2 rfl
      refine ih (s + 1) _ d37 s37.1 (fun i hi => by rw [e37, u2_row hi]; exact hF i hi) (inc1 h4 (by omega)) (by omega) (fun i hi => ?_) (by omega)
      by_cases he : i = s
      · rw [he, e37, u2_eq, hF 223 (by omega)]
      · rw [e37, u2_ne (Or.inr he)]
        exact hc i (by omega)
theorem sp_X10_changeF {n : Nat} (hn : 1000000000 ≤ n) {x1 x2 x3 : Int32} {d : DD} {dl : LL} (hI : Inv d) {Q : Int32 → DD → LL → Prop} (hQ : ∀ (r : Int32) (d2 : DD) (l2 : LL), St d dl d2 l2 ∧ (Rok d → ChgQ10 d x1 x2 x3 r) → Q r d2 l2) : F_X10_change n x1 x2 x3 d dl Q := by
  by_cases hR : Rok d
  rotate_left
  · exact sp_X10_change hn hI (fun r d2 l2 ⟨p, _⟩ => hQ r d2 l2 ⟨p, fun q => absurd q hR⟩)
  have mk := iv_211_1 hI
  have bad : ¬ okG (d 211 1) (d 218 x1.toNatClampNeg) x1 x2 x3 → Q (-100000) d dl := fun h => hQ _ _ _ ⟨St.rf hI, fun _ => Or.inl ⟨h, rfl⟩⟩
  refine fn_isCrew10 hn hI (fun g1 => ⟨fun w => absurd w (by decide), fun _ => ?_⟩) (fun g1 => ⟨fun _ => bad (fun h => g1 h.1), fun w => absurd rfl w⟩)
  have i6 : vp_in x1 6 := vin rfl (by omega) (by omega)
  have hk := clamp_in i6
  have hx : x1.toNatClampNeg = x1.toInt.toNat := rfl
  have h1 : x1.toInt = (x1.toNatClampNeg : Int) := by omega
  have mR := iv_218 hI x1.toNatClampNeg
  have t2 : ((2 : Int32) * (d 218 x1.toNatClampNeg)).toInt = 2 * (d 218 x1.toNatClampNeg).toInt := ti_mul (rfl : (2 : Int32).toInt = 2) rfl (by omega) (by omega)
  refine ⟨fun w => bad (fun o => ?_), fun a1 => ⟨fun w => bad (fun o => ?_), fun a2 => ⟨i6, fun w => bad (fun o => ?_), fun a3 => ⟨i6, fun a4 => ⟨i6, fun sd => ?_, fun sd => ?_⟩, fun w => bad (fun o => ?_)⟩⟩⟩⟩
  · have w : x2.toInt < 0 := (i_lt rfl (rfl : (0 : Int32).toInt = 0)).mp w
    have := o.2.1; omega
  · have w : x3.toInt < 0 := (i_lt rfl (rfl : (0 : Int32).toInt = 0)).mp w
    have := o.2.2; omega
  · have w : 2 * (d 218 x1.toNatClampNeg).toInt ≤ x2.toInt := (i_le t2 rfl).mp w
    have := o.2.1; omega
  · have a1 : ¬ x2.toInt < 0 := fun q => a1 ((i_lt rfl (rfl : (0 : Int32).toInt = 0)).mpr q)
    have a2 : ¬ x3.toInt < 0 := fun q => a2 ((i_lt rfl (rfl : (0 : Int32).toInt = 0)).mpr q)
    have a3 : ¬ 2 * (d 218 x1.toNatClampNeg).toInt ≤ x2.toInt := fun q => a3 ((i_le t2 rfl).mpr q)
    have a4 : x3.toInt < 2 * (d 218 x1.toNatClampNeg).toInt := (i_lt rfl t2).mp a4
    have ok : okG (d 211 1) (d 218 x1.toNatClampNeg) x1 x2 x3 := ⟨g1, by omega, by omega⟩
    obtain ⟨S, hS⟩ : ∃ S : Nat, (S : Int) = 2 * (d 218 x1.toNatClampNeg).toInt := ⟨(2 * (d 218 x1.toNatClampNeg).toInt).toNat, by omega⟩
    refine fb_X10_change_58 hn (k := x1.toNatClampNeg) (S := S) (d0 := d) hk h1 ⟨by omega, by omega⟩ ⟨by omega, by omega⟩ (hR _ (by omega)) hS (fun dz iz fz q => hQ _ _ _ ⟨st247 iz fz, fun _ => Or.inr (Or.inl ⟨ok, Or.inr q, rfl⟩)⟩) (fun r dz iz fz q1 q2 q3 => hQ _ _ _ ⟨st247 iz fz, fun _ => Or.inr (Or.inr ⟨ok, ?_, fun S2 hS2 => ?_⟩)⟩) n 0 0 d hI (fun _ _ => rfl) rfl (Nat.zero_le _) (fun i hi => absurd hi (Nat.not_lt_zero _)) (by omega)
    · intro h
      rcases h with h | h | h
      · exact sd h
      · exact q1 h
      · exact q2 h
    · rw [show S2 = S by omega]; exact q3
  · have a1 : ¬ x2.toInt < 0 := fun q => a1 ((i_lt rfl (rfl : (0 : Int32).toInt = 0)).mpr q)
    have a2 : ¬ x3.toInt < 0 := fun q => a2 ((i_lt rfl (rfl : (0 : Int32).toInt = 0)).mpr q)
    have a3 : ¬ 2 * (d 218 x1.toNatClampNeg).toInt ≤ x2.toInt := fun q => a3 ((i_le t2 rfl).mpr q)
    have a4 : x3.toInt < 2 * (d 218 x1.toNatClampNeg).toInt := (i_lt rfl t2).mp a4
    exact hQ _ _ _ ⟨St.rf hI, fun _ => Or.inr (Or.inl ⟨⟨g1, by omega, by omega⟩, Or.inl sd, rfl⟩)⟩
  · have w : ¬ x3.toInt < 2 * (d 218 x1.toNatClampNeg).toInt := fun q => w ((i_lt rfl t2).mpr q)
    have := o.2.2; omega
theorem change_step {d d1 d2 : DD} {dl l1 lw : LL} {r1 r2 x1 x2 x3 : Int32} (h : R0 d dl) (p1 : St d dl d1 l1) (q1 : ChgQ9 d dl x1 x2 x3 r1) (p2 : St d1 l1 d2 lw) (q2 : Rok d1 → ChgQ10 d1 x1 x2 x3 r2) : R0 d2 lw ∧ r1 = r2 := by
  have hR1 := h.st p1
  refine ⟨hR1.st p2, ?_⟩
  have q2 := q2 hR1.rok
  have c4 : d 0 2 = d 211 1 := h.c4
  have m := iv_0_2 h.i
  have hx : x1.toNatClampNeg = x1.toInt.toNat := rfl
  have k : ∀ i j, rl (rg i) j = true → d1 i j = d i j := p1.2.1
  have e1 : d1 211 1 = d 0 2 := by rw [k 211 1 rfl, c4]
  have e218 : d1 218 = d 218 := funext (fun l => k 218 l rfl)
  have e219 : d1 219 = d 219 := funext (fun l => k 219 l rfl)
  have e224 : d1 224 = d 224 := funext (fun l => k 224 l rfl)
  have e214 : d1 214 = d 4 := funext (fun l => (k 214 l rfl).trans (h.c15 l).2.2.1.symm)
  unfold ChgQ10 at q2
  rw [e1, e218, e219, e224, e214] at q2
  by_cases hc : 0 ≤ x1.toInt ∧ x1.toInt < (d 0 2).toInt
  rotate_left
  · rcases q1 with ⟨_, a⟩ | ⟨o, _⟩ | ⟨o, _⟩
    · rcases q2 with ⟨_, b⟩ | ⟨o, _⟩ | ⟨o, _⟩
      · rw [a, b]
      all_goals exact absurd o.1 hc
    all_goals exact absurd o.1 hc
  have hk : x1.toNatClampNeg < 6 := by omega
  have c18 := h.c18 _ hk
  have c16 := h.c16 _ hk (by omega)
  rw [← c18, ← c16.1, ← c16.2] at q2
  have mR := iv_37_0 h.i hk
  obtain ⟨S, hS⟩ : ∃ S : Nat, (S : Int) = 2 * (d (37 + 3 * x1.toNatClampNeg) 0).toInt := ⟨(2 * (d (37 + 3 * x1.toNatClampNeg) 0).toInt).toNat, by omega⟩
  have w40 : ∀ i, whA d x1.toNatClampNeg i < 40 := by
    intro i
    have a := iv_39 h.i hk i
    have : (d (39 + 3 * x1.toNatClampNeg) i).toNatClampNeg = (d (39 + 3 * x1.toNatClampNeg) i).toInt.toNat := rfl
    unfold whA
    omega
  have hx2 : x2.toNatClampNeg = x2.toInt.toNat := rfl
  have hx3 : x3.toNatClampNeg = x3.toInt.toNat := rfl
  have wh : ¬ d (37 + 3 * x1.toNatClampNeg) 6 = 0 → ∀ i, i < S → whA d x1.toNatClampNeg i = whB d1 223 (8 * x1.toNatClampNeg) i := by
    intro s i hi
    have s' : ¬ d 224 x1.toNatClampNeg = 0 := by rw [← c18]; exact s
    have c19 := (h.c19 _ hk s').2
    unfold whA whB
    rw [k 223 _ rfl, c19 i (by rw [← c16.1]; omega)]
  have nn : okG (d 0 2) (d (37 + 3 * x1.toNatClampNeg) 0) x1 x2 x3 → (noG (d (37 + 3 * x1.toNatClampNeg) 6) (fun p => (d 4 p).toInt) (whA d x1.toNatClampNeg) x2.toNatClampNeg x3.toNatClampNeg ↔ noG (d (37 + 3 * x1.toNatClampNeg) 6) (fun p => (d 4 p).toInt) (whB d1 223 (8 * x1.toNatClampNeg)) x2.toNatClampNeg x3.toNatClampNeg) := by
    intro o
    unfold noG
    by_cases s : d (37 + 3 * x1.toNatClampNeg) 6 = 0
    · exact ⟨fun _ => Or.inl s, fun _ => Or.inl s⟩
    · have o2 := o.2.1
      have o3 := o.2.2
      rw [wh s _ (show x2.toNatClampNeg < S by omega), wh s _ (show x3.toNatClampNeg < S by omega)]
  rcases q1 with ⟨o, a⟩ | ⟨o, s, a⟩ | ⟨o, s, a⟩
  · rcases q2 with ⟨_, b⟩ | ⟨o2, _⟩ | ⟨o2, _⟩
    · rw [a, b]
    all_goals exact absurd o2 o
  · rcases q2 with ⟨o2, _⟩ | ⟨_, _, b⟩ | ⟨_, s2, _⟩
    · exact absurd o o2
    · rw [a, b]
    · exact absurd ((nn o).mp s) s2
  · rcases q2 with ⟨o2, _⟩ | ⟨_, s2, _⟩ | ⟨_, _, b⟩
    · exact absurd o o2
    · exact absurd ((nn o).mpr s2) s
    have sd : ¬ d (37 + 3 * x1.toNatClampNeg) 6 = 0 := fun q => s (Or.inl q)
    have wh := wh sd
    have o2 := o.2.1
    have o3 := o.2.2
    have a := a S hS
    obtain ⟨who, hw, b⟩ := b S hS
    refine Int32.toInt_inj.mp ?_
    rw [a, b]
    have sw : ∀ i, i < S → swp (whA d x1.toNatClampNeg) x2.toNatClampNeg x3.toNatClampNeg i = who i := by
      intro i hi
      rw [hw i hi]
      unfold swp
      by_cases h1 : i = x3.toNatClampNeg
      · rw [if_pos h1, if_pos h1, wh _ (by omega)]
      · rw [if_neg h1, if_neg h1]
        by_cases h2 : i = x2.toNatClampNeg
        · rw [if_pos h2, if_pos h2, wh _ (by omega)]
        · rw [if_neg h2, if_neg h2, wh _ hi]
    have s40 : ∀ i, swp (whA d x1.toNatClampNeg) x2.toNatClampNeg x3.toNatClampNeg i < 40 := by
      intro i
      unfold swp
      by_cases h1 : i = x3.toNatClampNeg
      · rw [if_pos h1]; exact w40 _
      · rw [if_neg h1]
        by_cases h2 : i = x2.toNatClampNeg
        · rw [if_pos h2]; exact w40 _
        · rw [if_neg h2]; exact w40 _
    have tk : ∀ what : Nat, trm (d (37 + 3 * x1.toNatClampNeg) 0).toInt (d (37 + 3 * x1.toNatClampNeg) 1).toInt (wA d) (sA d) (lA dl) (swp (whA d x1.toNatClampNeg) x2.toNatClampNeg x3.toNatClampNeg) what S = trm (d (37 + 3 * x1.toNatClampNeg) 0).toInt (d (37 + 3 * x1.toNatClampNeg) 1).toInt (wB d1) (sB d1) (lB d1) who what S := by
      intro what
      refine trm_k (r := (d (37 + 3 * x1.toNatClampNeg) 0).toInt.toNat) (by omega) rfl rfl (fun i hi => ?_) (fun i hi => ?_) (fun i hi => ?_)
      · rw [← sw i hi]
        show (d 2 _).toInt = (d1 212 _).toInt
        rw [k 212 _ rfl, (h.c15 _).1]
      · rw [← sw i hi]
        show (d 3 _).toInt = (d1 213 _).toInt
        rw [k 213 _ rfl, (h.c15 _).2.1]
      · rw [← sw i (by omega), ← sw (i + 1) hi, lk_eq h (s40 _) (s40 _)]
        unfold lB
        rw [k 217 _ rfl]
    unfold tltB
    rw [tk 0, tk 1, tk 2, tk 3]
