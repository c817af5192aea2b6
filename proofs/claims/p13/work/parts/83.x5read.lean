theorem ex_lt {g : Nat → Int32} : ∀ (l : List Int32) (p m : Nat), ¬ MkL g l p m → m ≤ l.length → (ex g l p).1 = false ∧ (ex g l p).2 < p + m := by
  intro l
  induction l with
  | nil =>
    intro p m h1 h2
    have : m = 0 := Nat.le_zero.mp h2
    subst this
    exact absurd ⟨Nat.zero_le _, fun i hi => absurd hi (Nat.not_lt_zero _)⟩ h1
  | cons c cs ih =>
    intro p m h1 h2
    cases m with
    | zero => exact absurd ⟨Nat.zero_le _, fun i hi => absurd hi (Nat.not_lt_zero _)⟩ h1
    | succ m =>
      by_cases h : g p = c
      · rw [ex_y h]
        have := ih (p + 1) m (fun q => h1 (MkL_c.mpr ⟨h, q⟩)) (Nat.le_of_succ_le_succ h2)
        exact ⟨this.1, by omega⟩
      · rw [ex_n h]
        exact ⟨rfl, by show p < p + (m + 1); omega⟩
theorem fb_X7_readWord_18 {n : Nat} (hn : 1000000000 ≤ n) {Q : Int32 → DD → LL → Prop} {K5 : Int32 → Int32 → Int32 → Int32 → DD → LL → Prop} {x1 x2 x3 x4 : Int32} {g : Nat → Int32} {p : Nat} {d : DD} {dl : LL} (hI : Inv d) (hg : gA d = g) (b1 : 0 ≤ x1.toInt) (b2 : x1.toInt ≤ x2.toInt ∧ x2.toInt ≤ 8) (b4 : 0 ≤ x4.toInt ∧ x4.toInt ≤ 5) (hat : (d 24 1).toInt = (p : Int) + x4.toInt) (hf : ∀ v : Nat, (v : Int) ≤ x2.toInt → x1.toInt ≤ (v : Int) → (b32 x3 v = true ↔ MkL g (sbs v) p x4.toNatClampNeg))
    (fail : (∀ v : Nat, (v : Int) ≤ x2.toInt → x1.toInt ≤ (v : Int) → ¬ MkL g (sbs v) p (x4.toNatClampNeg + 1)) → Q (-1) d dl)
    (next : ∀ y : Int32, (∀ v : Nat, (v : Int) ≤ x2.toInt → x1.toInt ≤ (v : Int) → (b32 y v = true ↔ MkL g (sbs v) p (x4.toNatClampNeg + 1))) → (∃ v : Nat, (v : Int) ≤ x2.toInt ∧ x1.toInt ≤ (v : Int) ∧ MkL g (sbs v) p (x4.toNatClampNeg + 1)) → ∀ d4 : DD, d4 = u2 d 24 1 ((d 24 1) + 1) → b_X7_readWord_88 n Q K5 n x1 x2 y x4 x1 d4 dl) : ∀ (j : Nat) (x5 x6 : Int32), x1.toInt ≤ x6.toInt → x6.toInt ≤ x2.toInt + 1 → (∀ v : Nat, v < 32 → (b32 x5 v = true ↔ (x1.toInt ≤ (v : Int) ∧ (v : Int) < x6.toInt ∧ MkL g (sbs v) p (x4.toNatClampNeg + 1)))) → 10 ≤ x6.toInt + (j : Int) → b_X7_readWord_18 n Q K5 j x1 x2 x3 x4 x5 x6 d dl := by
  have h4 : x4.toNatClampNeg = x4.toInt.toNat := rfl
  have mat := iv_24_1 hI
  have hp : (d 24 1).toNatClampNeg = p + x4.toNatClampNeg := by
    have : (d 24 1).toNatClampNeg = (d 24 1).toInt.toNat := rfl
    omega
  intro j
  induction j with
  | zero =>
    intro x5 x6 h0 h1 hno hm
    exfalso
    omega
  | succ j hK =>
    intro x5 x6 h0 h1 hno hm
    show _ ∧ _
    have hx : x6.toNatClampNeg = x6.toInt.toNat := rfl
    refine ⟨fun h => ?_, fun h => ?_⟩
    · have h : x2.toInt < x6.toInt := (i_lt rfl rfl).mp h
      refine ⟨fun h5 d4 e4 => ?_, fun h5 => fail (fun v a b c => ?_)⟩
      · refine next x5 (fun v a b => ?_) (Classical.byContradiction (fun q => h5 (b32_z.mpr (fun v hv => ?_)))) d4 e4
        · have := hno v (by omega)
          exact ⟨fun q => (this.mp q).2.2, fun q => this.mpr ⟨b, by omega, q⟩⟩
        · cases hb : b32 x5 v
          · rfl
          · have := (hno v hv).mp hb
            exact absurd ⟨v, by have := this.2.1; omega, this.1, this.2.2⟩ q
      · have := (hno v (by omega)).mpr ⟨b, by omega, c⟩
        rw [h5, b32_zero] at this
        exact absurd this (by decide)
    · have h : ¬ x2.toInt < x6.toInt := fun q => h ((i_lt rfl rfl).mpr q)
      have t : (x6 + 1).toInt = x6.toInt + 1 := ti_add rfl (rfl : (1 : Int32).toInt = 1) (by omega) (by omega)
      have nx : ¬ MkL g (sbs x6.toNatClampNeg) p (x4.toNatClampNeg + 1) → b_X7_readWord_18 n Q K5 j x1 x2 x3 x4 x5 (x6 + 1) d dl := by
        intro w
        refine hK _ _ (by omega) (by omega) (fun v hv => ?_) (by omega)
        refine (hno v hv).trans ⟨fun q => ⟨q.1, by have := q.2.1; omega, q.2.2⟩, fun q => ⟨q.1, ?_, q.2.2⟩⟩
        have q1 := q.2.1
        by_cases hv2 : v = x6.toNatClampNeg
        · have q2 := q.2.2
          rw [hv2] at q2
          exact absurd q2 w
        · omega
      have fr := b32_read (m := x3) (x := x6) (by omega) (by omega)
      have ff := hf x6.toNatClampNeg (by omega) (by omega)
      refine ⟨fun h2 => nx (fun w => ?_), fun h2 => ?_⟩
      · have := ff.mpr (MkL_s.mp w).1
        rw [fr.mp h2] at this
        exact absurd this (by decide)
      · have fm : MkL g (sbs x6.toNatClampNeg) p x4.toNatClampNeg := by
          apply ff.mp
          cases hb : b32 x3 x6.toNatClampNeg
          · exact absurd (fr.mpr hb) h2
          · rfl
        refine fn_X7_wordOf ⟨by omega, by omega⟩ ⟨by omega, ?_⟩
        refine fn_X7_peek hI ?_
        rw [hg, hp]
        refine fn_X7_hasSign hn (by omega) hI b4 (fun r hr => ⟨fun h5 => nx (fun w => ?_), fun h5 v25 e25 => ?_⟩)
        · have w := (MkL_s.mp w).2
          rcases hr with ⟨e, _⟩ | ⟨_, q⟩
          · rw [e] at h5; exact absurd h5 (by decide)
          · exact q ⟨by omega, w.2⟩
        · rcases hr with ⟨_, q1, q2⟩ | ⟨e, _⟩
          · have w : MkL g (sbs x6.toNatClampNeg) p (x4.toNatClampNeg + 1) := MkL_s.mpr ⟨fm, by omega, q2⟩
            refine hK _ _ (by omega) (by omega) (fun v hv => ?_) (by omega)
            rw [e25, b32_or, b32_one (by omega) (by omega), Bool.or_eq_true]
            constructor
            · intro q
              rcases q with q | q
              · have := (hno v hv).mp q
                exact ⟨this.1, by have := this.2.1; omega, this.2.2⟩
              · have q := of_decide_eq_true q
                rw [q]
                exact ⟨by omega, by omega, w⟩
            · intro ⟨a, b, c⟩
              by_cases hv2 : v = x6.toNatClampNeg
              · exact Or.inr (decide_eq_true hv2)
              · exact Or.inl ((hno v hv).mpr ⟨a, by omega, c⟩)
          · exact absurd e h5
theorem fb_X7_readWord_5 {n : Nat} (hn : 1000000000 ≤ n) {Q : Int32 → DD → LL → Prop} {x1 x2 : Int32} {g : Nat → Int32} {p : Nat} {e : DD} {el dl : LL} (b1 : 0 ≤ x1.toInt) (b2 : x1.toInt ≤ x2.toInt ∧ x2.toInt ≤ 8) (hQ : ∀ (r : Int32) (dz : DD) (q : Nat), St e el dz dl → (dz 24 1).toInt = (q : Int) → RWs g x1.toNatClampNeg x2.toNatClampNeg p r q → Q r dz dl) : ∀ (j : Nat) (x3 x4 : Int32) (d : DD), St e el d dl → gA d = g → 0 ≤ x4.toInt → x4.toInt ≤ 6 → (d 24 1).toInt = (p : Int) + x4.toInt → (∀ v : Nat, (v : Int) ≤ x2.toInt → x1.toInt ≤ (v : Int) → (b32 x3 v = true ↔ MkL g (sbs v) p x4.toNatClampNeg)) → (∀ v : Nat, (v : Int) ≤ x2.toInt → x1.toInt ≤ (v : Int) → (sbs v).length ≤ x4.toNatClampNeg → ¬ MkL g (sbs v) p (sbs v).length) → (∃ v : Nat, (v : Int) ≤ x2.toInt ∧ x1.toInt ≤ (v : Int) ∧ MkL g (sbs v) p x4.toNatClampNeg) → 8 ≤ x4.toInt + (j : Int) → b_X7_readWord_5 n Q j x1 x2 x3 x4 d dl := by
  intro j
  induction j with
  | zero =>
    intro x3 x4 d hS hg h0 h1 hat hf hnc hex hm
    exfalso
    omega
  | succ j hK =>
    intro x3 x4 d hS hg h0 h1 hat hf hnc hex hm
    show _ ∧ _
    have h4 : x4.toNatClampNeg = x4.toInt.toNat := rfl
    have hx1 : x1.toNatClampNeg = x1.toInt.toNat := rfl
    have hx2 : x2.toNatClampNeg = x2.toInt.toNat := rfl
    have hlt : ∀ v : Nat, (v : Int) ≤ x2.toInt → x1.toInt ≤ (v : Int) → MkL g (sbs v) p x4.toNatClampNeg → x4.toNatClampNeg < (sbs v).length := by
      intro v a b c
      have := c.1
      by_cases hl : (sbs v).length ≤ x4.toNatClampNeg
      · have he : x4.toNatClampNeg = (sbs v).length := by omega
        have hz := hnc v a b hl
        rw [← he] at hz
        exact absurd c hz
      · omega
    refine ⟨fun h => ?_, fun h => ?_⟩
    · have h : 6 ≤ x4.toInt := (i_le (rfl : (6 : Int32).toInt = 6) rfl).mp h
      exfalso
      obtain ⟨v, a, b, c⟩ := hex
      have l1 := hlt v a b c
      have l2 := (sbs_in v (by omega)).2.1
      omega
    · have h : ¬ 6 ≤ x4.toInt := fun q => h ((i_le (rfl : (6 : Int32).toInt = 6) rfl).mpr q)
      have t4 : (x4 + 1).toInt = x4.toInt + 1 := ti_add rfl (rfl : (1 : Int32).toInt = 1) (by omega) (by omega)
      have n4 : (x4 + 1).toNatClampNeg = x4.toNatClampNeg + 1 := by rw [clampI t4]; omega
      refine fb_X7_readWord_18 hn hS.1 hg b1 b2 ⟨h0, by omega⟩ hat hf (fun hno => ?_) (fun y hy hyx d4 e4 => ?_) n 0 x1 (Int.le_refl _) (by omega) (fun v hv => ?_) (by omega)
      · refine hQ (-1) d (p + x4.toNatClampNeg) hS (by omega) (Or.inr ⟨rfl, fun v a b => ?_, ?_⟩)
        · have a' : x1.toInt ≤ (v : Int) := by omega
          have b' : (v : Int) ≤ x2.toInt := by omega
          by_cases hl : (sbs v).length ≤ x4.toNatClampNeg
          · have := ex_lt (sbs v) p (sbs v).length (hnc v b' a' hl) (Nat.le_refl _)
            exact ⟨this.1, by omega⟩
          · have := ex_lt (sbs v) p (x4.toNatClampNeg + 1) (hno v b' a') (by omega)
            exact ⟨this.1, by omega⟩
        · obtain ⟨v, a, b, c⟩ := hex
          refine ⟨v, by omega, by omega, ?_⟩
          rw [ex_stop (sbs v) p x4.toNatClampNeg c (hlt v a b c) (hno v a b)]
      · have mat := iv_24_1 hS.1
        have msz := iv_24_0 hS.1
        have hlim : (p : Int) + x4.toInt < (d 24 0).toInt := by
          obtain ⟨v, a, b, c⟩ := hyx
          have c1 := MkL_s.mp c
          have c2 := (sbs_in v (by omega)).2.2 x4.toNatClampNeg c1.2.1
          rw [c1.2.2, ← hg] at c2
          have := pkt_lt (N := d 24 0) (T := d 25) (p := p + x4.toNatClampNeg) (by unfold gA at c2; omega)
          omega
        have t : ((d 24 1) + 1).toInt = (d 24 1).toInt + 1 := ti_add rfl (rfl : (1 : Int32).toInt = 1) (by omega) (by omega)
        have s4 : St e el d4 dl := by rw [e4]; exact pv_24_1 hS (by rw [t]; omega) (by rw [t]; omega)
        have k4 : (d4 24 1).toInt = (p : Int) + x4.toInt + 1 := by rw [e4, u2_eq, t]; omega
        have g4 : gA d4 = g := by
          rw [← hg]
          unfold gA
          rw [e4, u2_ne (Or.inr (by omega)), u2_row (by omega)]
        refine fb_X7_readWord_88 hn s4.1 b1 b2 ⟨h0, by omega⟩ hy (fun y2 a b c l => ?_) (fun hno => ?_) n x1 (Int.le_refl _) (by omega) (fun v a b => absurd b (by omega)) (by omega)
        · have hy2 : y2.toNatClampNeg = y2.toInt.toNat := rfl
          refine hQ y2 d4 (p + (sbs y2.toNatClampNeg).length) s4 (by omega) (Or.inl ⟨y2.toNatClampNeg, by omega, by omega, by omega, ex_full _ _ c⟩)
        · refine hK _ _ _ s4 g4 (by omega) (by omega) (by rw [k4, t4]; omega) (fun v a b => by rw [n4]; exact hy v a b) (fun v a b hl => ?_) (by rw [n4]; exact hyx) (by omega)
          rw [n4] at hl
          by_cases hl2 : (sbs v).length ≤ x4.toNatClampNeg
          · exact hnc v a b hl2
          · have he : (sbs v).length = x4.toNatClampNeg + 1 := by omega
            intro c
            rw [he] at c
            exact hno v a b c he
      · rw [b32_zero]
        exact ⟨fun q => absurd q (by decide), fun q => by have := q.1; have := q.2.1; omega⟩
theorem fn_X7_readWord {n : Nat} (hn : 1000000000 ≤ n) {Q : Int32 → DD → LL → Prop} {x1 x2 : Int32} {e : DD} {el dl : LL} {d : DD} (b1 : 0 ≤ x1.toInt) (b2 : x1.toInt ≤ x2.toInt ∧ x2.toInt ≤ 8) (hS : St e el d dl) (hQ : ∀ (r : Int32) (dz : DD) (q : Nat), St e el dz dl → (dz 24 1).toInt = (q : Int) → RWs (gA d) x1.toNatClampNeg x2.toNatClampNeg (d 24 1).toNatClampNeg r q → Q r dz dl) : F_X7_readWord n x1 x2 d dl Q := by
  have mat := iv_24_1 hS.1
  have hp : (d 24 1).toNatClampNeg = (d 24 1).toInt.toNat := rfl
  have hx1 : x1.toNatClampNeg = x1.toInt.toNat := rfl
  refine fb_X7_readWord_5 hn b1 b2 hQ n (-1) 0 d hS rfl (show (0 : Int) ≤ 0 by omega) (show (0 : Int) ≤ 6 by omega) (show (d 24 1).toInt = ((d 24 1).toNatClampNeg : Int) + 0 by omega) (fun v a b => ?_) (fun v a b hl => ?_) ⟨x1.toNatClampNeg, by omega, by omega, Nat.zero_le _, fun i hi => absurd hi (Nat.not_lt_zero _)⟩ (show (8 : Int) ≤ 0 + (n : Int) by omega)
  · rw [b32_m1 (by omega)]
    exact ⟨fun _ => ⟨Nat.zero_le _, fun i hi => absurd hi (Nat.not_lt_zero _)⟩, fun _ => rfl⟩
  · have l1 := (sbs_in v (by omega)).1
    have hl : (sbs v).length ≤ 0 := hl
    omega
def PA (E : Bool × Nat) (r : Int32) (dz : DD) : Prop := (E.1 = true ∧ r = 1 ∧ (dz 24 1).toInt = (E.2 : Int)) ∨ (E.1 = false ∧ r = 0 ∧ (dz 24 1).toInt = (E.2 : Int))
theorem fn_X7_readBlank {n : Nat} {Q : Int32 → DD → LL → Prop} {e : DD} {el dl : LL} {d : DD} (hS : St e el d dl) (yes : gA d (d 24 1).toNatClampNeg = 32 → ∀ dz : DD, St e el dz dl → gA dz = gA d → (dz 24 1).toInt = (d 24 1).toInt + 1 → Q 1 dz dl) (no : ¬ gA d (d 24 1).toNatClampNeg = 32 → Q 0 d dl) : F_X7_readBlank n d dl Q := by
  have mat := iv_24_1 hS.1
  have msz := iv_24_0 hS.1
  have hp : (d 24 1).toNatClampNeg = (d 24 1).toInt.toNat := rfl
  refine fn_X7_peek hS.1 ⟨fun h d5 e5 => ?_, fun h => no h⟩
  have hlim := pkt_lt (N := d 24 0) (T := d 25) (p := (d 24 1).toNatClampNeg) (by have h2 : pk (d 24 0) (d 25) (d 24 1).toNatClampNeg = 32 := h; rw [h2]; decide)
  have t : ((d 24 1) + 1).toInt = (d 24 1).toInt + 1 := ti_add rfl (rfl : (1 : Int32).toInt = 1) (by omega) (by omega)
  have s5 : St e el d5 dl := by rw [e5]; exact pv_24_1 hS (by rw [t]; omega) (by rw [t]; omega)
  refine yes h d5 s5 ?_ (by rw [e5, u2_eq, t])
  unfold gA
  rw [e5, u2_ne (Or.inr (by omega)), u2_row (by omega)]
def SV (W : Nat → Nat → Prop) (e : DD) (el : LL) (d : DD) (dl : LL) : Prop := Inv d ∧ (∀ i j, rl (rg i) j = true → ¬ W i j → d i j = e i j) ∧ LKeep el dl
theorem SV.rf {W : Nat → Nat → Prop} {d : DD} {dl : LL} (h : Inv d) : SV W d dl d dl := ⟨h, fun _ _ _ _ => rfl, fun _ _ _ => rfl⟩
theorem SV.st {W : Nat → Nat → Prop} {e d d2 : DD} {el dl l2 : LL} (h : SV W e el d dl) (h2 : St d dl d2 l2) : SV W e el d2 l2 := ⟨h2.1, fun i j q w => (h2.2.1 i j q).trans (h.2.1 i j q w), fun i j q => (h2.2.2 i j q).trans (h.2.2 i j q)⟩
theorem SV.tr {W W2 : Nat → Nat → Prop} {e d d2 : DD} {el dl l2 : LL} (h : SV W e el d dl) (h2 : SV W2 d dl d2 l2) (hw : ∀ i j, W2 i j → W i j) : SV W e el d2 l2 := ⟨h2.1, fun i j q w => (h2.2.1 i j q (fun x => w (hw i j x))).trans (h.2.1 i j q w), fun i j q => (h2.2.2 i j q).trans (h.2.2 i j q)⟩
theorem SV.put {W : Nat → Nat → Prop} {e d : DD} {el dl : LL} {i j : Nat} {v : Int32} (h : SV W e el d dl) (hi : Inv (u2 d i j v)) (hw : W i j ∨ rl (rg i) j = false) : SV W e el (u2 d i j v) dl := by
  refine ⟨hi, fun a b q nw => ?_, h.2.2⟩
  rw [u2_ne (by
    by_cases ha : a = i
    · refine Or.inr (fun hb => ?_)
      subst ha; subst hb
      rcases hw with hw | hw
      · exact nw hw
      · rw [hw] at q
        exact absurd q (by decide)
    · exact Or.inl ha)]
  exact h.2.1 a b q nw
theorem gA_sv {W : Nat → Nat → Prop} {e d : DD} {el dl : LL} (s : SV W e el d dl) (hW : ∀ i j, W i j → 55 ≤ i) : gA d = gA e := by
  unfold gA
  rw [s.2.1 24 0 rfl (fun w => by have := hW _ _ w; omega), show d 25 = e 25 from funext (fun l => s.2.1 25 l rfl (fun w => by have := hW _ _ w; omega))]
theorem gB_sv {W : Nat → Nat → Prop} {e d : DD} {el dl : LL} (s : SV W e el d dl) (hW : ∀ i j, W i j → 226 ≤ i) : gB d = gB e := by
  unfold gB
  rw [s.2.1 211 4 rfl (fun w => by have := hW _ _ w; omega), show d 225 = e 225 from funext (fun l => s.2.1 225 l rfl (fun w => by have := hW _ _ w; omega))]
def nv (g : Nat → Int32) : Nat → Int32 → Nat → Int32
  | 0, a, _ => a
  | k + 1, a, p => if 48 ≤ (g p).toInt ∧ (g p).toInt ≤ 57 then nv g k (((10 : Int32) * a) + (g p - 48)) (p + 1) else a
def wd (g : Nat → Int32) (p : Nat) : Nat := if g p = 119 then (if g (p + 1) = 101 then 4 else 1) else if g p = 109 then 0 else if g p = 111 then 2 else if g p = 121 then 3 else 5
theorem wd_y {g : Nat → Int32} {p q v : Nat} (hv : v ≤ 5) (h : ex g (sbs v) p = (true, q)) : wd g p = v := by
  have hc : v = 0 ∨ v = 1 ∨ v = 2 ∨ v = 3 ∨ v = 4 ∨ v = 5 := by omega
  unfold wd
  rcases hc with rfl | rfl | rfl | rfl | rfl | rfl
  · have e : g p = 109 := (ex_hd h).1
    rw [if_neg (by rw [e]; decide), if_pos e]
  · have e : g p = 119 := (ex_hd h).1
    have e2 : g (p + 1) = 111 := (ex_hd (ex_hd h).2).1
    rw [if_pos e, if_neg (by rw [e2]; decide)]
  · have e : g p = 111 := (ex_hd h).1
    rw [if_neg (by rw [e]; decide), if_neg (by rw [e]; decide), if_pos e]
  · have e : g p = 121 := (ex_hd h).1
    rw [if_neg (by rw [e]; decide), if_neg (by rw [e]; decide), if_neg (by rw [e]; decide), if_pos e]
  · have e : g p = 119 := (ex_hd h).1
    have e2 : g (p + 1) = 101 := (ex_hd (ex_hd h).2).1
    rw [if_pos e, if_pos e2]
  · have e : g p = 99 := (ex_hd h).1
    rw [if_neg (by rw [e]; decide), if_neg (by rw [e]; decide), if_neg (by rw [e]; decide), if_neg (by rw [e]; decide)]
def fp (g : Nat → Int32) (p : Nat) : Nat := if g p = 110 then p + 4 else p
def pz (g : Nat → Int32) (p : Nat) : Nat := (ex g (sbs (wd g p)) p).2
theorem pz_y {g : Nat → Int32} {p q v : Nat} (hv : v ≤ 5) (h : ex g (sbs v) p = (true, q)) : pz g p = q := by
  unfold pz
  rw [wd_y hv h, h]
theorem fp_v {g : Nat → Int32} {p q v : Nat} (hv : v ≤ 5) (h : ex g (sbs v) p = (true, q)) : ¬ g p = 110 := by
  have hc : v = 0 ∨ v = 1 ∨ v = 2 ∨ v = 3 ∨ v = 4 ∨ v = 5 := by omega
  rcases hc with rfl | rfl | rfl | rfl | rfl | rfl <;> rw [(ex_hd h).1] <;> decide
theorem fp_6 {g : Nat → Int32} {p q : Nat} (h : ex g (sbs 6) p = (true, q)) : g p = 110 ∧ q = p + 3 := by
  refine ⟨(ex_hd h).1, ?_⟩
  have h3 := (ex_hd (ex_hd (ex_hd h).2).2).2
  have : p + 1 + 1 + 1 = q := congrArg Prod.snd (show (true, p + 1 + 1 + 1) = (true, q) from h3)
  omega
def WT (k t i j : Nat) : Prop := 56 + 6 * k ≤ i ∧ i ≤ 59 + 6 * k ∧ j = t
def WN (k t i j : Nat) : Prop := i = 59 + 6 * k ∧ j = t
def TV9 (g : Nat → Int32) (p k t : Nat) (dz : DD) : Prop := dz (56 + 6 * k) t = (if g p = 110 then 1 else 0) ∧ (dz (57 + 6 * k) t).toInt = (wd g (fp g p) : Int) ∧ dz (58 + 6 * k) t = g (pz g (fp g p)) ∧ (g (pz g (fp g p)) = 60 ∨ g (pz g (fp g p)) = 61 ∨ g (pz g (fp g p)) = 62) ∧ dz (59 + 6 * k) t = nv g 4 0 (pz g (fp g p) + 1)
theorem fb_X7_readNumber_5 {n : Nat} (hn : 1000000000 ≤ n) {Q : Int32 → DD → LL → Prop} {k1 : Nat} (hk : k1 < 6) {x2 : Int32} (b2 : 0 ≤ x2.toInt ∧ x2.toInt ≤ 7) {g : Nat → Int32} {e : DD} {el dl : LL} {E : Nat × Nat} {V : Int32} (hQ : ∀ (r : Int32) (dz : DD), SV (WN k1 x2.toNatClampNeg) e el dz dl → PA (decide (0 < E.1), E.2) r dz → dz (59 + 6 * k1) x2.toNatClampNeg = V → Q r dz dl) : ∀ (j : Nat) (x3 x4 : Int32) (d : DD), SV (WN k1 x2.toNatClampNeg) e el d dl → gA d = g → 0 ≤ x4.toInt → x4.toInt ≤ 4 → E = dg g (4 - x4.toNatClampNeg) x4.toNatClampNeg (d 24 1).toNatClampNeg → V = nv g (4 - x4.toNatClampNeg) x3 (d 24 1).toNatClampNeg → 5 ≤ x4.toInt + (j : Int) → b_X7_readNumber_5 n Q j k1 x2 x3 x4 d dl := by
  have fin : ∀ (x3 x4 : Int32) (d : DD), SV (WN k1 x2.toNatClampNeg) e el d dl → 0 ≤ x4.toInt → E = (x4.toNatClampNeg, (d 24 1).toNatClampNeg) → V = x3 → b_X7_readNumber_54 n Q k1 x2 x3 x4 d dl := by
    intro x3 x4 d hS h0 hE hV
    have mat := iv_24_1 hS.1
    have hp : (d 24 1).toNatClampNeg = (d 24 1).toInt.toNat := rfl
    have h4 : x4.toNatClampNeg = x4.toInt.toNat := rfl
    refine ⟨vin rfl (by omega) (by omega), fun d3 e3 => ?_⟩
    have s3 : SV (WN k1 x2.toNatClampNeg) e el d3 dl := by rw [e3]; exact hS.put (pw_59 (P := pN) (dl := dl) (StP.rf hS.1) hk rfl).1 (Or.inl ⟨rfl, rfl⟩)
    have k3 : d3 24 1 = d 24 1 := by rw [e3, u2_row (by omega)]
    have v3 : d3 (59 + 6 * k1) x2.toNatClampNeg = V := by rw [e3, u2_eq, hV]
    refine ⟨fun h => ?_, fun h => ?_⟩
    · have h : x4.toInt ≤ 0 := (i_le rfl (rfl : (0 : Int32).toInt = 0)).mp h
      refine hQ 0 d3 s3 (Or.inr ⟨?_, rfl, ?_⟩) v3
      · rw [hE]; exact decide_eq_false (show ¬ 0 < x4.toNatClampNeg by omega)
      · rw [hE, k3]; show (d 24 1).toInt = ((d 24 1).toNatClampNeg : Int); omega
    · have h : ¬ x4.toInt ≤ 0 := fun q => h ((i_le rfl (rfl : (0 : Int32).toInt = 0)).mpr q)
      refine hQ 1 d3 s3 (Or.inl ⟨?_, rfl, ?_⟩) v3
      · rw [hE]; exact decide_eq_true (show 0 < x4.toNatClampNeg by omega)
      · rw [hE, k3]; show (d 24 1).toInt = ((d 24 1).toNatClampNeg : Int); omega
  intro j
  induction j with
  | zero =>
    intro x3 x4 d hS hg h0 h1 hE hV hm
    exfalso
    omega
  | succ j hK =>
    intro x3 x4 d hS hg h0 h1 hE hV hm
    show _ ∧ _
    have mat := iv_24_1 hS.1
    have msz := iv_24_0 hS.1
    have hp : (d 24 1).toNatClampNeg = (d 24 1).toInt.toNat := rfl
    have h4 : x4.toNatClampNeg = x4.toInt.toNat := rfl
    refine ⟨fun h => ?_, fun h => ?_⟩
    · have h : 4 ≤ x4.toInt := (i_le (rfl : (4 : Int32).toInt = 4) rfl).mp h
      have hz : 4 - x4.toNatClampNeg = 0 := by omega
      rw [hz] at hE hV
      exact fin _ _ _ hS h0 hE hV
    · have h : ¬ 4 ≤ x4.toInt := fun q => h ((i_le (rfl : (4 : Int32).toInt = 4) rfl).mpr q)
      have t4 : (x4 + 1).toInt = x4.toInt + 1 := ti_add rfl (rfl : (1 : Int32).toInt = 1) (by omega) (by omega)
      have n4 : (x4 + 1).toNatClampNeg = x4.toNatClampNeg + 1 := by rw [clampI t4]; omega
      have hz : 4 - x4.toNatClampNeg = (4 - (x4 + 1).toNatClampNeg) + 1 := by omega
      rw [hz] at hE hV
      have hE : E = if 48 ≤ (g (d 24 1).toNatClampNeg).toInt ∧ (g (d 24 1).toNatClampNeg).toInt ≤ 57 then dg g (4 - (x4 + 1).toNatClampNeg) (x4.toNatClampNeg + 1) ((d 24 1).toNatClampNeg + 1) else (x4.toNatClampNeg, (d 24 1).toNatClampNeg) := hE
      have hV : V = if 48 ≤ (g (d 24 1).toNatClampNeg).toInt ∧ (g (d 24 1).toNatClampNeg).toInt ≤ 57 then nv g (4 - (x4 + 1).toNatClampNeg) (((10 : Int32) * x3) + (g (d 24 1).toNatClampNeg - 48)) ((d 24 1).toNatClampNeg + 1) else x3 := hV
      refine fn_X7_peek hS.1 ?_
      refine sp_X9_within hn hS.1 (fun r8 d9 l10 ⟨p1, q1⟩ => ?_)
      obtain ⟨h3, rfl, rfl⟩ := p1
      replace q1 : 0 ≤ r8.toInt ∧ r8.toInt ≤ 1 ∧ ((r8.toInt = 1 ∧ 48 ≤ (gA d9 (d9 24 1).toNatClampNeg).toInt ∧ (gA d9 (d9 24 1).toNatClampNeg).toInt ≤ 57) ∨ (r8.toInt = 0 ∧ ¬ (48 ≤ (gA d9 (d9 24 1).toNatClampNeg).toInt ∧ (gA d9 (d9 24 1).toNatClampNeg).toInt ≤ 57))) := q1
      refine ⟨fun h5 => ?_, fun h5 => ?_⟩
      · have h5 : r8.toInt = 0 := (i_eq rfl (rfl : (0 : Int32).toInt = 0)).mp h5
        rw [if_neg (by rw [← hg]; omega)] at hE hV
        exact fin _ _ _ hS h0 hE hV
      · have h5 : ¬ r8.toInt = 0 := fun q => h5 ((i_eq rfl (rfl : (0 : Int32).toInt = 0)).mpr q)
        have hd : 48 ≤ (gA d9 (d9 24 1).toNatClampNeg).toInt ∧ (gA d9 (d9 24 1).toNatClampNeg).toInt ≤ 57 := by omega
        rw [if_pos (by rw [← hg]; exact hd)] at hE hV
        refine fn_X7_peek hS.1 ?_
        intro v15 e15 d16 e16
        have hlim := pkt_lt (N := d9 24 0) (T := d9 25) (p := (d9 24 1).toNatClampNeg) (by have h2 := hd.1; unfold gA at h2; omega)
        have t : ((d9 24 1) + 1).toInt = (d9 24 1).toInt + 1 := ti_add rfl (rfl : (1 : Int32).toInt = 1) (by omega) (by omega)
        have s16 : SV (WN k1 x2.toNatClampNeg) e el d16 l10 := by rw [e16]; exact hS.st (pv_24_1 (St.rf hS.1) (by rw [t]; omega) (by rw [t]; omega))
        have k16 : (d16 24 1).toNatClampNeg = (d9 24 1).toNatClampNeg + 1 := by rw [e16, u2_eq, clampI t]; omega
        refine hK _ _ _ s16 ?_ (by omega) (by omega) (by rw [n4, k16]; rw [n4] at hE; exact hE) (by rw [n4, k16, e15, hg]; rw [n4] at hV; exact hV) (by omega)
        rw [← hg]
        unfold gA
        rw [e16, u2_ne (Or.inr (by omega)), u2_row (by omega)]
theorem WT_55 {k t : Nat} : ∀ i j, WT k t i j → 55 ≤ i := fun i j w => by have := w.1; omega
theorem fn_X7_49 {n : Nat} (hn : 1000000000 ≤ n) {Q : Int32 → DD → LL → Prop} {k1 : Nat} (hk : k1 < 6) {x2 x3 : Int32} (b2 : 0 ≤ x2.toInt ∧ x2.toInt ≤ 7) {dl : LL} {d : DD} {q : Nat} {E : Bool × Nat} (hI : Inv d) (hq : (d 24 1).toInt = (q : Int)) (hE : (x3 = -1 ∧ E = (false, q)) ∨ ((0 ≤ x3.toInt ∧ x3.toInt ≤ 5) ∧ E = tsS (gA d) q)) (hQ : ∀ (r : Int32) (dz : DD), SV (WT k1 x2.toNatClampNeg) d dl dz dl → PA E r dz → (E.1 = true → dz (56 + 6 * k1) x2.toNatClampNeg = d (56 + 6 * k1) x2.toNatClampNeg ∧ dz (57 + 6 * k1) x2.toNatClampNeg = x3 ∧ dz (58 + 6 * k1) x2.toNatClampNeg = gA d q ∧ (gA d q = 60 ∨ gA d q = 61 ∨ gA d q = 62) ∧ dz (59 + 6 * k1) x2.toNatClampNeg = nv (gA d) 4 0 (q + 1)) → Q r dz dl) : b_X7_readTest_49 n Q k1 x2 x3 d dl := by
  have i2 : vp_in x2 8 := vin rfl (by omega) (by omega)
  refine ⟨fun h => ?_, fun h => ?_⟩
  · rcases hE with ⟨e3, _⟩ | ⟨b3, hE⟩
    · exact absurd e3 h
    refine ⟨i2, fun d10 e10 => ?_⟩
    have s10 : SV (WT k1 x2.toNatClampNeg) d dl d10 dl := by rw [e10]; exact (SV.rf hI).put (pw_57 (P := pN) (dl := dl) (StP.rf hI) hk b3.1 b3.2 rfl).1 (Or.inl ⟨by omega, by omega, rfl⟩)
    have g10' : gA d10 = gA d := gA_sv s10 WT_55
    have k10 : d10 24 1 = d 24 1 := by rw [e10, u2_row (by omega)]
    have kq : (d10 24 1).toNatClampNeg = q := by
      have : (d10 24 1).toNatClampNeg = (d10 24 1).toInt.toNat := rfl
      rw [k10] at this ⊢
      omega
    have mat := iv_24_1 s10.1
    have msz := iv_24_0 s10.1
    have good : (gA d10 q = 60 ∨ gA d10 q = 61 ∨ gA d10 q = 62) → ∀ Q2 : Int32 → DD → LL → Prop, Q2 = (fun r11 d12 l13 => (r11 = 0 → Q 0 d12 l13) ∧ (¬ r11 = 0 → F_X7_readNumber n k1 x2 d12 l13 (fun r15 d16 l17 => (r15 = 0 → Q 0 d16 l17) ∧ (¬ r15 = 0 → Q 1 d16 l17)))) → b_X7_readSign_25 n Q2 k1 x2 (gA d10 q) d10 dl := by
      intro hs Q2 hQ2
      refine ⟨i2, fun d6 e6 d7 e7 => ?_⟩
      have hlim := pkt_lt (N := d10 24 0) (T := d10 25) (p := q) (by
        have h2 : pk (d10 24 0) (d10 25) q = 60 ∨ pk (d10 24 0) (d10 25) q = 61 ∨ pk (d10 24 0) (d10 25) q = 62 := hs
        rcases h2 with h2 | h2 | h2 <;> rw [h2] <;> decide)
      have s6 : SV (WT k1 x2.toNatClampNeg) d dl d6 dl := by rw [e6]; exact s10.put (pw_58 (P := pN) (dl := dl) (StP.rf s10.1) hk rfl).1 (Or.inl ⟨by omega, by omega, rfl⟩)
      have k6 : d6 24 1 = d10 24 1 := by rw [e6, u2_row (by omega)]
      have t : ((d6 24 1) + 1).toInt = (q : Int) + 1 := ti_add (by rw [k6, k10]; exact hq) (rfl : (1 : Int32).toInt = 1) (by omega) (by omega)
      have s7 : SV (WT k1 x2.toNatClampNeg) d dl d7 dl := by rw [e7]; exact s6.st (pv_24_1 (St.rf s6.1) (by rw [t]; omega) (by rw [t]; omega))
      have k7 : (d7 24 1).toNatClampNeg = q + 1 := by rw [e7, u2_eq, clampI t]; omega
      have g7 : gA d7 = gA d := gA_sv s7 WT_55
      have w6 : d7 (56 + 6 * k1) x2.toNatClampNeg = d (56 + 6 * k1) x2.toNatClampNeg := by rw [e7, u2_row (by omega), e6, u2_row (by omega), e10, u2_row (by omega)]
      have w7 : d7 (57 + 6 * k1) x2.toNatClampNeg = x3 := by rw [e7, u2_row (by omega), e6, u2_row (by omega), e10, u2_eq]
      have w8 : d7 (58 + 6 * k1) x2.toNatClampNeg = gA d q := by rw [e7, u2_row (by omega), e6, u2_eq, g10']
      rw [hQ2]
      refine ⟨fun q => absurd q (by decide), fun _ => ?_⟩
      have hE2 : E = tsD (gA d) (q + 1) := by
        rw [hE]
        unfold tsS
        rw [if_pos (by rw [← g10']; exact hs)]
      refine fb_X7_readNumber_5 hn hk b2 (g := gA d) (e := d7) (el := dl) (E := dg (gA d) 4 0 (q + 1)) (V := nv (gA d) 4 0 (q + 1)) (fun r dz sz pz vz => ?_) n 0 0 d7 (SV.rf s7.1) g7 (show (0 : Int) ≤ 0 by omega) (show (0 : Int) ≤ 4 by omega) (by rw [k7]; rfl) (by rw [k7]; rfl) (show (5 : Int) ≤ 0 + (n : Int) by omega)
      have pz : PA E r dz := by rw [hE2]; exact pz
      have sz2 : SV (WT k1 x2.toNatClampNeg) d dl dz dl := s7.tr sz (fun i j w => ⟨by have := w.1; omega, by have := w.1; omega, w.2⟩)
      have tz : E.1 = true → dz (56 + 6 * k1) x2.toNatClampNeg = d (56 + 6 * k1) x2.toNatClampNeg ∧ dz (57 + 6 * k1) x2.toNatClampNeg = x3 ∧ dz (58 + 6 * k1) x2.toNatClampNeg = gA d q ∧ (gA d q = 60 ∨ gA d q = 61 ∨ gA d q = 62) ∧ dz (59 + 6 * k1) x2.toNatClampNeg = nv (gA d) 4 0 (q + 1) := fun _ => ⟨by rw [sz.2.1 (56 + 6 * k1) _ (by rw [rg_56 hk]; rfl) (fun w => by have := w.1; omega)]; exact w6, by rw [sz.2.1 (57 + 6 * k1) _ (by rw [rg_57 hk]; rfl) (fun w => by have := w.1; omega)]; exact w7, by rw [sz.2.1 (58 + 6 * k1) _ (by rw [rg_58 hk]; rfl) (fun w => by have := w.1; omega)]; exact w8, by rw [← g10']; exact hs, vz⟩
      refine ⟨fun h0 => hQ 0 dz sz2 ?_ tz, fun h0 => hQ 1 dz sz2 ?_ tz⟩
      · rw [h0] at pz; exact pz
      · rcases pz with ⟨a, b, c⟩ | ⟨a, b, c⟩
        · exact Or.inl ⟨a, rfl, c⟩
        · exact absurd b h0
    refine fn_X7_peek s10.1 ?_
    rw [kq]
    have hf : ¬ gA d10 q = 60 → ¬ gA d10 q = 61 → ¬ gA d10 q = 62 → E = (false, q) := by
      intro h1 h2 h3
      rw [hE]
      unfold tsS
      rw [if_neg (fun w => by rw [← g10'] at w; exact w.elim h1 (fun w => w.elim h2 h3))]
    refine ⟨fun h1 => good (Or.inl h1) _ rfl, fun h1 => ⟨fun h2 => good (Or.inr (Or.inl h2)) _ rfl, fun h2 => ⟨fun h3 => good (Or.inr (Or.inr h3)) _ rfl, fun h3 => ⟨fun _ => hQ 0 d10 s10 (Or.inr ?_) (fun w => ?_), fun q => absurd rfl q⟩⟩⟩⟩
    · rw [hf h1 h2 h3]
      exact ⟨rfl, rfl, by rw [k10]; exact hq⟩
    · rw [hf h1 h2 h3] at w
      exact absurd (show false = true from w) (by decide)
  · rcases hE with ⟨_, hE⟩ | ⟨b3, _⟩
    · exact hQ 0 d (SV.rf hI) (Or.inr (by rw [hE]; exact ⟨rfl, rfl, hq⟩)) (fun w => by rw [hE] at w; exact absurd (show false = true from w) (by decide))
    · have : x3.toInt = -1 := (i_eq rfl (rfl : (-1 : Int32).toInt = -1)).mp h
      omega
