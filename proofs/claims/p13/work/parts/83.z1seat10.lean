theorem sr_s32 : ∀ k : Fin 32, (((Int32.ofNat k.1) &&& 31).toBitVec.smod 32#32) = BitVec.ofNat 32 k.1 := by decide +kernel
theorem b32_sar {m : Int32} {x : Int32} {j : Nat} (h0 : 0 ≤ x.toInt) (hj : x.toNatClampNeg + j < 32) : b32 (m >>> (x &&& 31)) j = b32 m (x.toNatClampNeg + j) := by
  have hk : x.toNatClampNeg < 32 := by omega
  have e := sr_s32 ⟨x.toNatClampNeg, hk⟩
  rw [show (Int32.ofNat (⟨x.toNatClampNeg, hk⟩ : Fin 32).1) = x from (i32_of h0).symm] at e
  unfold b32
  rw [Int32.toBitVec_shiftRight]
  show (m.toBitVec.sshiftRight' ((x &&& 31).toBitVec.smod 32#32)).getLsbD j = _
  rw [e]
  show (m.toBitVec.sshiftRight (BitVec.ofNat 32 x.toNatClampNeg).toNat).getLsbD j = _
  have hn : (BitVec.ofNat 32 x.toNatClampNeg).toNat = x.toNatClampNeg := by
    rw [BitVec.toNat_ofNat]
    omega
  rw [hn, BitVec.getLsbD_sshiftRight, if_pos hj]
  have : decide (32 ≤ j) = false := decide_eq_false (by omega)
  rw [this]
  rfl
theorem b32_r1 {m : Int32} {x : Int32} (h0 : 0 ≤ x.toInt) (h1 : x.toInt < 32) : ((m >>> (x &&& 31)) &&& 1) = 1 ↔ b32 m x.toNatClampNeg = true := by
  have hx : x.toNatClampNeg = x.toInt.toNat := rfl
  have b1 : ∀ j, b32 1 j = decide (j = 0) := by
    intro j
    show (1#32).getLsbD j = _
    simp
  constructor
  · intro h
    have e : b32 ((m >>> (x &&& 31)) &&& 1) 0 = b32 1 0 := by rw [h]
    rw [b32_and, b32_sar h0 (by omega), b1] at e
    simpa using e
  · intro h
    apply b32_ext
    intro j hj
    rw [b32_and, b1]
    by_cases hz : j = 0
    · subst hz
      rw [b32_sar h0 (by omega), Nat.add_zero, h]
      rfl
    · simp [hz]
theorem b32_not {y : Int32} {x : Nat} (h0 : 0 ≤ y.toInt) (h1 : y.toInt < 32) (hx : x < 32) : b32 (((1 : Int32) <<< (y &&& 31)) ^^^ (-1)) x = !decide (x = y.toNatClampNeg) := by
  have e : b32 (((1 : Int32) <<< (y &&& 31)) ^^^ (-1)) x = (b32 ((1 : Int32) <<< (y &&& 31)) x ^^ b32 (-1) x) := by
    unfold b32
    rw [Int32.toBitVec_xor, BitVec.getLsbD_xor]
  rw [e, b32_m1 hx, b32_one h0 h1]
  simp
def cutN (c : Nat → Nat) (s : Nat) : Nat → Nat := fun i => if i < s then c i else 0
theorem cut_u {c : Nat → Nat} {s v : Nat} : cutN (upN c s v) s = cutN c s := by
  funext i
  unfold cutN
  by_cases h : i < s
  · rw [if_pos h, if_pos h, upN_n (by omega)]
  · rw [if_neg h, if_neg h]
theorem cut_s {c : Nat → Nat} {s v : Nat} : cutN (upN c s v) (s + 1) = upN (cutN c s) s v := by
  funext i
  unfold cutN
  by_cases h : i = s
  · subst h
    rw [if_pos (by omega), upN_e, upN_e]
  · rw [upN_n h, upN_n h]
    by_cases h2 : i < s
    · rw [if_pos (by omega), if_pos h2]
    · rw [if_neg (by omega), if_neg h2]
theorem cut_t {c : Nat → Nat} {s t v : Nat} (h : t ≤ s) : cutN (upN c s v) t = cutN c t := by
  funext i
  unfold cutN
  by_cases h2 : i < t
  · rw [if_pos h2, if_pos h2, upN_n (by omega)]
  · rw [if_neg h2, if_neg h2]
noncomputable def RMu (P : Nat → Nat → Int) (S n : Nat) : Nat → (Nat → Nat) → Bool × Int × (Nat → Nat) → Bool × Int × (Nat → Nat)
  | 0, _, B => B
  | s + 1, c, B => RMu P S n s c (lpm (fsm P S n (S - s - 1) s (cutN c s)) (n - (c s + 1)) (c s + 1) B)
theorem RMu_u {P : Nat → Nat → Int} {S n : Nat} {c : Nat → Nat} {s v : Nat} : ∀ (t : Nat) (B : Bool × Int × (Nat → Nat)), t ≤ s → RMu P S n t (upN c s v) B = RMu P S n t c B := by
  intro t
  induction t with
  | zero => intro B _; rfl
  | succ t ih =>
    intro B h
    show RMu P S n t (upN c s v) (lpm (fsm P S n (S - t - 1) t (cutN (upN c s v) t)) (n - (upN c s v t + 1)) (upN c s v t + 1) B) = RMu P S n t c (lpm (fsm P S n (S - t - 1) t (cutN c t)) (n - (c t + 1)) (c t + 1) B)
    rw [upN_n (by omega), cut_t (by omega)]
    exact ih _ (by omega)
def memB (d : DD) (k : Nat) : Nat → Nat := fun j => if j < 8 then (d 222 (8 * k + j)).toNatClampNeg else 0
def PB (d : DD) (k : Nat) : Nat → Nat → Int := PX (d 218 k).toInt (d 219 k).toInt (memB d k) (wB d) (sB d) (fun p => (d 214 p).toInt) (lB d)
def FrS (d0 d : DD) : Prop := Inv d ∧ ∀ i, i ≠ 244 → i ≠ 245 → i ≠ 247 → d i = d0 i
def BSB (d0 d : DD) (k S : Nat) (x4 x5 : Int32) (B : Bool × Int × (Nat → Nat)) : Prop := (B.1 = false ∧ x5 = 0) ∨ (B.1 = true ∧ x5 = 1 ∧ x4.toInt = B.2.1 ∧ ∀ i, i < S → (d 245 i).toInt = ((memB d0 k (B.2.2 i) : Nat) : Int))
def SL (d0 : DD) (k S nn : Nat) (T : Bool × Int × (Nat → Nat)) (x4 x5 x7 : Int32) (s : Nat) (d : DD) : Prop :=
  ∃ (c : Nat → Nat) (cur : Int) (B : Bool × Int × (Nat → Nat)), FrS d0 d ∧ BSB d0 d k S x4 x5 B ∧ s < S ∧ (∀ i, i < s → (d 244 i).toInt = (c i : Int) ∧ c i < nn ∧ (d 247 i).toInt = ((memB d0 k (c i) : Nat) : Int)) ∧ (d 244 s).toInt = cur ∧ (∀ i, s < i → i < 8 → (d 244 i).toInt = -1) ∧ (-1 ≤ cur ∧ cur < (nn : Int)) ∧ (∀ i j, i < j → j < s → ¬ c i = c j) ∧ (∀ i, i < s → ¬ (c i : Int) = cur) ∧ (∀ m : Nat, m < nn → (b32 x7 m = true ↔ ((∃ i, i < s ∧ c i = m) ∨ cur = (m : Int)))) ∧ T = RMu (PB d0 k) S nn s c (lpm (fsm (PB d0 k) S nn (S - s - 1) s (cutN c s)) (nn - (cur + 1).toNat) (cur + 1).toNat B)
theorem fn_X10_fits {n : Nat} {x1 x2 : Int32} {d : DD} {dl : LL} {p s : Nat} (h1 : x1.toInt = (p : Int)) (hp : p < 40) (h2 : x2.toInt = (s : Int)) {Q : Int32 → DD → LL → Prop} (hI : Inv d) (hQ : ∀ r : Int32, ((r = 1 ∧ ¬ (d 214 p).toInt = 1 - ((s % 2 : Nat) : Int)) ∨ (r = 0 ∧ (d 214 p).toInt = 1 - ((s % 2 : Nat) : Int))) → Q r d dl) : F_X10_fits n x1 x2 d dl Q := by
  have i1 : vp_in x1 40 := vin h1 (by omega) (by omega)
  have e1 := at_n h1
  have m := iv_214 hI p
  have tr : (irem x2 2).toInt = (s : Int) % 2 := ti_rem h2 (rfl : (2 : Int32).toInt = 2) (by omega) (by omega)
  rw [show F_X10_fits n x1 x2 d dl Q = (vp_in x1 40 ∧ ((d 214 x1.toNatClampNeg) = 2 → Q 1 d dl) ∧ (¬ (d 214 x1.toNatClampNeg) = 2 → vp_in x1 40 ∧ (¬ (d 214 x1.toNatClampNeg) = (irem x2 2) → Q 0 d dl) ∧ ((d 214 x1.toNatClampNeg) = (irem x2 2) → Q 1 d dl))) from rfl, e1]
  refine ⟨i1, fun w => hQ 1 (Or.inl ⟨rfl, ?_⟩), fun w => ⟨i1, fun w2 => hQ 0 (Or.inr ⟨rfl, ?_⟩), fun w2 => hQ 1 (Or.inl ⟨rfl, ?_⟩)⟩⟩
  · have w : (d 214 p).toInt = 2 := (i_eq rfl (rfl : (2 : Int32).toInt = 2)).mp w
    omega
  · have w : ¬ (d 214 p).toInt = 2 := fun q => w ((i_eq rfl (rfl : (2 : Int32).toInt = 2)).mpr q)
    have w2 : ¬ (d 214 p).toInt = (s : Int) % 2 := fun q => w2 ((i_eq rfl tr).mpr q)
    omega
  · have w2 : (d 214 p).toInt = (s : Int) % 2 := (i_eq rfl tr).mp w2
    omega
