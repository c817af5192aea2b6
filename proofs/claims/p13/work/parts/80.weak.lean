def xoA (c _j : Nat) : Bool := match c with
  | 1 => true
  | 2 => true
  | 3 => true
  | 4 => true
  | 5 => true
  | 6 => true
  | _ => false
def pA (c j : Nat) : Bool := !(xoA c j) && rl c j
def xoB (c j : Nat) : Bool := match c with
  | 211 => j == 0
  | 212 => true
  | 213 => true
  | 214 => true
  | 215 => true
  | 216 => true
  | _ => false
def pB (c j : Nat) : Bool := !(xoB c j) && rl c j
def xoC (c j : Nat) : Bool := match c with
  | 0 => j == 9
  | _ => false
def pC (c j : Nat) : Bool := !(xoC c j) && rl c j
def xoD (c j : Nat) : Bool := match c with
  | 211 => j == 5
  | _ => false
def pD (c j : Nat) : Bool := !(xoD c j) && rl c j
def xoE (c _j : Nat) : Bool := match c with
  | 29 => true
  | _ => false
def pE (c j : Nat) : Bool := !(xoE c j) && rl c j
def xoF (c _j : Nat) : Bool := match c with
  | 240 => true
  | _ => false
def pF (c j : Nat) : Bool := !(xoF c j) && rl c j
def xoG (c j : Nat) : Bool := match c with
  | 0 => j == 2
  | 37 => j == 0 || j == 1
  | _ => false
def pG (c j : Nat) : Bool := !(xoG c j) && rl c j
def xoH (c j : Nat) : Bool := match c with
  | 211 => j == 1
  | 218 => true
  | 219 => true
  | 221 => true
  | _ => false
def pH (c j : Nat) : Bool := !(xoH c j) && rl c j
def xoI (c j : Nat) : Bool := match c with
  | 37 => j == 2
  | _ => false
def pI (c j : Nat) : Bool := !(xoI c j) && rl c j
def xoJ (c _j : Nat) : Bool := match c with
  | 221 => true
  | _ => false
def pJ (c j : Nat) : Bool := !(xoJ c j) && rl c j
def xoK (c _j : Nat) : Bool := match c with
  | 217 => true
  | _ => false
def pK (c j : Nat) : Bool := !(xoK c j) && rl c j
def xoL (c j : Nat) : Bool := match c with
  | 37 => j == 3 || j == 6
  | 38 => true
  | _ => false
def pL (c j : Nat) : Bool := !(xoL c j) && rl c j
def xoM (c _j : Nat) : Bool := match c with
  | 220 => true
  | 222 => true
  | 224 => true
  | _ => false
def pM (c j : Nat) : Bool := !(xoM c j) && rl c j
def xoW (c j : Nat) : Bool := match c with
  | 37 => j == 6
  | 39 => true
  | _ => false
def pW (c j : Nat) : Bool := !(xoW c j) && rl c j
def xoZ (c _j : Nat) : Bool := match c with
  | 223 => true
  | 224 => true
  | _ => false
def pZ (c j : Nat) : Bool := !(xoZ c j) && rl c j
def xoO (c _j : Nat) : Bool := match c with
  | 28 => true
  | _ => false
def pO (c j : Nat) : Bool := !(xoO c j) && rl c j
def xoY (c j : Nat) : Bool := match c with
  | 211 => j == 6
  | 239 => true
  | _ => false
def pY (c j : Nat) : Bool := !(xoY c j) && rl c j
def xoQ (c j : Nat) : Bool := match c with
  | 0 => j == 13
  | 28 => true
  | 91 => true
  | 92 => true
  | _ => false
def pQ (c j : Nat) : Bool := !(xoQ c j) && rl c j
def xoR (c j : Nat) : Bool := match c with
  | 211 => j == 3 || j == 6
  | 232 => true
  | 233 => true
  | 234 => true
  | 239 => true
  | _ => false
def pR (c j : Nat) : Bool := !(xoR c j) && rl c j
def xoS (c j : Nat) : Bool := match c with
  | 0 => j == 7
  | 24 => true
  | 55 => true
  | 56 => true
  | 57 => true
  | 58 => true
  | 59 => true
  | 60 => true
  | _ => false
def pS (c j : Nat) : Bool := !(xoS c j) && rl c j
def xoT (c j : Nat) : Bool := match c with
  | 211 => j == 2 || j == 4
  | 226 => true
  | 227 => true
  | 228 => true
  | 229 => true
  | 230 => true
  | 231 => true
  | _ => false
def pT (c j : Nat) : Bool := !(xoT c j) && rl c j
def xoU (c _j : Nat) : Bool := match c with
  | 24 => true
  | 25 => true
  | _ => false
def pU (c j : Nat) : Bool := !(xoU c j) && rl c j
def xoX (c j : Nat) : Bool := match c with
  | 211 => j == 4
  | 225 => true
  | _ => false
def pX (c j : Nat) : Bool := !(xoX c j) && rl c j
def StP (P : Nat → Nat → Bool) (e : DD) (el : LL) (d : DD) (dl : LL) : Prop := Inv d ∧ (∀ i j, P (rg i) j = true → d i j = e i j) ∧ LKeep el dl
abbrev StA := StP pA
abbrev StB := StP pB
abbrev StC := StP pC
abbrev StD := StP pD
abbrev StE := StP pE
abbrev StF := StP pF
abbrev StG := StP pG
abbrev StH := StP pH
abbrev StI := StP pI
abbrev StJ := StP pJ
abbrev StK := StP pK
abbrev StL := StP pL
abbrev StM := StP pM
abbrev StW := StP pW
abbrev StZ := StP pZ
abbrev StO := StP pO
abbrev StY := StP pY
abbrev StQ := StP pQ
abbrev StR := StP pR
abbrev StS := StP pS
abbrev StT := StP pT
abbrev StU := StP pU
abbrev StX := StP pX
theorem StP.rf {P : Nat → Nat → Bool} {d : DD} {dl : LL} (h : Inv d) : StP P d dl d dl := ⟨h, fun _ _ _ => rfl, fun _ _ _ => rfl⟩
theorem StA.rf {d : DD} {dl : LL} (h : Inv d) : StA d dl d dl := StP.rf h
theorem StB.rf {d : DD} {dl : LL} (h : Inv d) : StB d dl d dl := StP.rf h
theorem StC.rf {d : DD} {dl : LL} (h : Inv d) : StC d dl d dl := StP.rf h
theorem StD.rf {d : DD} {dl : LL} (h : Inv d) : StD d dl d dl := StP.rf h
theorem StE.rf {d : DD} {dl : LL} (h : Inv d) : StE d dl d dl := StP.rf h
theorem StF.rf {d : DD} {dl : LL} (h : Inv d) : StF d dl d dl := StP.rf h
theorem StG.rf {d : DD} {dl : LL} (h : Inv d) : StG d dl d dl := StP.rf h
theorem StH.rf {d : DD} {dl : LL} (h : Inv d) : StH d dl d dl := StP.rf h
theorem StI.rf {d : DD} {dl : LL} (h : Inv d) : StI d dl d dl := StP.rf h
theorem StJ.rf {d : DD} {dl : LL} (h : Inv d) : StJ d dl d dl := StP.rf h
theorem StK.rf {d : DD} {dl : LL} (h : Inv d) : StK d dl d dl := StP.rf h
theorem StL.rf {d : DD} {dl : LL} (h : Inv d) : StL d dl d dl := StP.rf h
theorem StM.rf {d : DD} {dl : LL} (h : Inv d) : StM d dl d dl := StP.rf h
theorem StW.rf {d : DD} {dl : LL} (h : Inv d) : StW d dl d dl := StP.rf h
theorem StZ.rf {d : DD} {dl : LL} (h : Inv d) : StZ d dl d dl := StP.rf h
theorem StO.rf {d : DD} {dl : LL} (h : Inv d) : StO d dl d dl := StP.rf h
theorem StY.rf {d : DD} {dl : LL} (h : Inv d) : StY d dl d dl := StP.rf h
theorem StQ.rf {d : DD} {dl : LL} (h : Inv d) : StQ d dl d dl := StP.rf h
theorem StR.rf {d : DD} {dl : LL} (h : Inv d) : StR d dl d dl := StP.rf h
theorem StS.rf {d : DD} {dl : LL} (h : Inv d) : StS d dl d dl := StP.rf h
theorem StT.rf {d : DD} {dl : LL} (h : Inv d) : StT d dl d dl := StP.rf h
theorem StU.rf {d : DD} {dl : LL} (h : Inv d) : StU d dl d dl := StP.rf h
theorem StX.rf {d : DD} {dl : LL} (h : Inv d) : StX d dl d dl := StP.rf h
theorem StP.sq {P : Nat → Nat → Bool} {e d d2 : DD} {el dl l2 : LL} (h : StP P e el d dl) (h2 : Sq d dl d2 l2) : StP P e el d2 l2 := by
  obtain ⟨h3, rfl, rfl⟩ := h2
  exact h
theorem StP.tr {P : Nat → Nat → Bool} {e d d2 : DD} {el dl l2 : LL} (h : StP P e el d dl) (hl : ∀ c j, P c j = true → rl c j = true) (h2 : St d dl d2 l2) : StP P e el d2 l2 := ⟨h2.1, fun i j q => (h2.2.1 i j (hl _ _ q)).trans (h.2.1 i j q), fun i j q => (h2.2.2 i j q).trans (h.2.2 i j q)⟩
theorem StP.trP {P R : Nat → Nat → Bool} {e d d2 : DD} {el dl l2 : LL} (h : StP P e el d dl) (hl : ∀ c j, P c j = true → R c j = true) (h2 : StP R d dl d2 l2) : StP P e el d2 l2 := ⟨h2.1, fun i j q => (h2.2.1 i j (hl _ _ q)).trans (h.2.1 i j q), fun i j q => (h2.2.2 i j q).trans (h.2.2 i j q)⟩
theorem StP.trA {P : Nat → Nat → Bool} {e d d2 : DD} {el dl l2 : LL} (h : StP P e el d dl) (hl : ∀ c j, P c j = true → pA c j = true) (h2 : StA d dl d2 l2) : StP P e el d2 l2 := h.trP hl h2
theorem StP.trB {P : Nat → Nat → Bool} {e d d2 : DD} {el dl l2 : LL} (h : StP P e el d dl) (hl : ∀ c j, P c j = true → pB c j = true) (h2 : StB d dl d2 l2) : StP P e el d2 l2 := h.trP hl h2
theorem StP.trC {P : Nat → Nat → Bool} {e d d2 : DD} {el dl l2 : LL} (h : StP P e el d dl) (hl : ∀ c j, P c j = true → pC c j = true) (h2 : StC d dl d2 l2) : StP P e el d2 l2 := h.trP hl h2
theorem StP.trD {P : Nat → Nat → Bool} {e d d2 : DD} {el dl l2 : LL} (h : StP P e el d dl) (hl : ∀ c j, P c j = true → pD c j = true) (h2 : StD d dl d2 l2) : StP P e el d2 l2 := h.trP hl h2
theorem StP.trE {P : Nat → Nat → Bool} {e d d2 : DD} {el dl l2 : LL} (h : StP P e el d dl) (hl : ∀ c j, P c j = true → pE c j = true) (h2 : StE d dl d2 l2) : StP P e el d2 l2 := h.trP hl h2
theorem StP.trF {P : Nat → Nat → Bool} {e d d2 : DD} {el dl l2 : LL} (h : StP P e el d dl) (hl : ∀ c j, P c j = true → pF c j = true) (h2 : StF d dl d2 l2) : StP P e el d2 l2 := h.trP hl h2
theorem StP.trG {P : Nat → Nat → Bool} {e d d2 : DD} {el dl l2 : LL} (h : StP P e el d dl) (hl : ∀ c j, P c j = true → pG c j = true) (h2 : StG d dl d2 l2) : StP P e el d2 l2 := h.trP hl h2
theorem StP.trH {P : Nat → Nat → Bool} {e d d2 : DD} {el dl l2 : LL} (h : StP P e el d dl) (hl : ∀ c j, P c j = true → pH c j = true) (h2 : StH d dl d2 l2) : StP P e el d2 l2 := h.trP hl h2
theorem StP.trI {P : Nat → Nat → Bool} {e d d2 : DD} {el dl l2 : LL} (h : StP P e el d dl) (hl : ∀ c j, P c j = true → pI c j = true) (h2 : StI d dl d2 l2) : StP P e el d2 l2 := h.trP hl h2
theorem StP.trJ {P : Nat → Nat → Bool} {e d d2 : DD} {el dl l2 : LL} (h : StP P e el d dl) (hl : ∀ c j, P c j = true → pJ c j = true) (h2 : StJ d dl d2 l2) : StP P e el d2 l2 := h.trP hl h2
theorem StP.trK {P : Nat → Nat → Bool} {e d d2 : DD} {el dl l2 : LL} (h : StP P e el d dl) (hl : ∀ c j, P c j = true → pK c j = true) (h2 : StK d dl d2 l2) : StP P e el d2 l2 := h.trP hl h2
theorem StP.trL {P : Nat → Nat → Bool} {e d d2 : DD} {el dl l2 : LL} (h : StP P e el d dl) (hl : ∀ c j, P c j = true → pL c j = true) (h2 : StL d dl d2 l2) : StP P e el d2 l2 := h.trP hl h2
theorem StP.trM {P : Nat → Nat → Bool} {e d d2 : DD} {el dl l2 : LL} (h : StP P e el d dl) (hl : ∀ c j, P c j = true → pM c j = true) (h2 : StM d dl d2 l2) : StP P e el d2 l2 := h.trP hl h2
theorem StP.trW {P : Nat → Nat → Bool} {e d d2 : DD} {el dl l2 : LL} (h : StP P e el d dl) (hl : ∀ c j, P c j = true → pW c j = true) (h2 : StW d dl d2 l2) : StP P e el d2 l2 := h.trP hl h2
theorem StP.trZ {P : Nat → Nat → Bool} {e d d2 : DD} {el dl l2 : LL} (h : StP P e el d dl) (hl : ∀ c j, P c j = true → pZ c j = true) (h2 : StZ d dl d2 l2) : StP P e el d2 l2 := h.trP hl h2
theorem StP.trO {P : Nat → Nat → Bool} {e d d2 : DD} {el dl l2 : LL} (h : StP P e el d dl) (hl : ∀ c j, P c j = true → pO c j = true) (h2 : StO d dl d2 l2) : StP P e el d2 l2 := h.trP hl h2
theorem StP.trY {P : Nat → Nat → Bool} {e d d2 : DD} {el dl l2 : LL} (h : StP P e el d dl) (hl : ∀ c j, P c j = true → pY c j = true) (h2 : StY d dl d2 l2) : StP P e el d2 l2 := h.trP hl h2
theorem StP.trQ {P : Nat → Nat → Bool} {e d d2 : DD} {el dl l2 : LL} (h : StP P e el d dl) (hl : ∀ c j, P c j = true → pQ c j = true) (h2 : StQ d dl d2 l2) : StP P e el d2 l2 := h.trP hl h2
theorem StP.trR {P : Nat → Nat → Bool} {e d d2 : DD} {el dl l2 : LL} (h : StP P e el d dl) (hl : ∀ c j, P c j = true → pR c j = true) (h2 : StR d dl d2 l2) : StP P e el d2 l2 := h.trP hl h2
theorem StP.trS {P : Nat → Nat → Bool} {e d d2 : DD} {el dl l2 : LL} (h : StP P e el d dl) (hl : ∀ c j, P c j = true → pS c j = true) (h2 : StS d dl d2 l2) : StP P e el d2 l2 := h.trP hl h2
theorem StP.trT {P : Nat → Nat → Bool} {e d d2 : DD} {el dl l2 : LL} (h : StP P e el d dl) (hl : ∀ c j, P c j = true → pT c j = true) (h2 : StT d dl d2 l2) : StP P e el d2 l2 := h.trP hl h2
theorem StP.trU {P : Nat → Nat → Bool} {e d d2 : DD} {el dl l2 : LL} (h : StP P e el d dl) (hl : ∀ c j, P c j = true → pU c j = true) (h2 : StU d dl d2 l2) : StP P e el d2 l2 := h.trP hl h2
theorem StP.trX {P : Nat → Nat → Bool} {e d d2 : DD} {el dl l2 : LL} (h : StP P e el d dl) (hl : ∀ c j, P c j = true → pX c j = true) (h2 : StX d dl d2 l2) : StP P e el d2 l2 := h.trP hl h2
theorem le_StA_St : ∀ c j, pA c j = true → rl c j = true := by
  intro c j h
  unfold pA at h
  rw [Bool.and_eq_true] at h
  exact h.2
theorem le_StA_StA : ∀ c j, pA c j = true → pA c j = true := fun _ _ h => h
theorem le_StB_St : ∀ c j, pB c j = true → rl c j = true := by
  intro c j h
  unfold pB at h
  rw [Bool.and_eq_true] at h
  exact h.2
theorem le_StB_StB : ∀ c j, pB c j = true → pB c j = true := fun _ _ h => h
theorem le_StC_St : ∀ c j, pC c j = true → rl c j = true := by
  intro c j h
  unfold pC at h
  rw [Bool.and_eq_true] at h
  exact h.2
theorem le_StC_StC : ∀ c j, pC c j = true → pC c j = true := fun _ _ h => h
theorem le_StD_St : ∀ c j, pD c j = true → rl c j = true := by
  intro c j h
  unfold pD at h
  rw [Bool.and_eq_true] at h
  exact h.2
theorem le_StD_StD : ∀ c j, pD c j = true → pD c j = true := fun _ _ h => h
theorem le_StE_St : ∀ c j, pE c j = true → rl c j = true := by
  intro c j h
  unfold pE at h
  rw [Bool.and_eq_true] at h
  exact h.2
theorem le_StE_StE : ∀ c j, pE c j = true → pE c j = true := fun _ _ h => h
theorem le_StF_St : ∀ c j, pF c j = true → rl c j = true := by
  intro c j h
  unfold pF at h
  rw [Bool.and_eq_true] at h
  exact h.2
theorem le_StF_StF : ∀ c j, pF c j = true → pF c j = true := fun _ _ h => h
theorem le_StG_St : ∀ c j, pG c j = true → rl c j = true := by
  intro c j h
  unfold pG at h
  rw [Bool.and_eq_true] at h
  exact h.2
theorem le_StG_StG : ∀ c j, pG c j = true → pG c j = true := fun _ _ h => h
theorem le_StH_St : ∀ c j, pH c j = true → rl c j = true := by
  intro c j h
  unfold pH at h
  rw [Bool.and_eq_true] at h
  exact h.2
theorem le_StH_StH : ∀ c j, pH c j = true → pH c j = true := fun _ _ h => h
theorem le_StI_St : ∀ c j, pI c j = true → rl c j = true := by
  intro c j h
  unfold pI at h
  rw [Bool.and_eq_true] at h
  exact h.2
theorem le_StI_StI : ∀ c j, pI c j = true → pI c j = true := fun _ _ h => h
theorem le_StJ_St : ∀ c j, pJ c j = true → rl c j = true := by
  intro c j h
  unfold pJ at h
  rw [Bool.and_eq_true] at h
  exact h.2
theorem le_StJ_StJ : ∀ c j, pJ c j = true → pJ c j = true := fun _ _ h => h
theorem le_StK_St : ∀ c j, pK c j = true → rl c j = true := by
  intro c j h
  unfold pK at h
  rw [Bool.and_eq_true] at h
  exact h.2
theorem le_StK_StK : ∀ c j, pK c j = true → pK c j = true := fun _ _ h => h
theorem le_StL_St : ∀ c j, pL c j = true → rl c j = true := by
  intro c j h
  unfold pL at h
  rw [Bool.and_eq_true] at h
  exact h.2
theorem le_StL_StL : ∀ c j, pL c j = true → pL c j = true := fun _ _ h => h
theorem le_StM_St : ∀ c j, pM c j = true → rl c j = true := by
  intro c j h
  unfold pM at h
  rw [Bool.and_eq_true] at h
  exact h.2
theorem le_StM_StM : ∀ c j, pM c j = true → pM c j = true := fun _ _ h => h
theorem le_StW_St : ∀ c j, pW c j = true → rl c j = true := by
  intro c j h
  unfold pW at h
  rw [Bool.and_eq_true] at h
  exact h.2
theorem le_StW_StW : ∀ c j, pW c j = true → pW c j = true := fun _ _ h => h
theorem le_StZ_St : ∀ c j, pZ c j = true → rl c j = true := by
  intro c j h
  unfold pZ at h
  rw [Bool.and_eq_true] at h
  exact h.2
theorem le_StZ_StZ : ∀ c j, pZ c j = true → pZ c j = true := fun _ _ h => h
theorem le_StO_St : ∀ c j, pO c j = true → rl c j = true := by
  intro c j h
  unfold pO at h
  rw [Bool.and_eq_true] at h
  exact h.2
theorem le_StO_StO : ∀ c j, pO c j = true → pO c j = true := fun _ _ h => h
theorem le_StY_St : ∀ c j, pY c j = true → rl c j = true := by
  intro c j h
  unfold pY at h
  rw [Bool.and_eq_true] at h
  exact h.2
theorem le_StY_StY : ∀ c j, pY c j = true → pY c j = true := fun _ _ h => h
theorem le_StQ_St : ∀ c j, pQ c j = true → rl c j = true := by
  intro c j h
  unfold pQ at h
  rw [Bool.and_eq_true] at h
  exact h.2
theorem le_StQ_StQ : ∀ c j, pQ c j = true → pQ c j = true := fun _ _ h => h
theorem le_StR_St : ∀ c j, pR c j = true → rl c j = true := by
  intro c j h
  unfold pR at h
  rw [Bool.and_eq_true] at h
  exact h.2
theorem le_StR_StR : ∀ c j, pR c j = true → pR c j = true := fun _ _ h => h
theorem le_StS_St : ∀ c j, pS c j = true → rl c j = true := by
  intro c j h
  unfold pS at h
  rw [Bool.and_eq_true] at h
  exact h.2
theorem le_StS_StS : ∀ c j, pS c j = true → pS c j = true := fun _ _ h => h
theorem le_StT_St : ∀ c j, pT c j = true → rl c j = true := by
  intro c j h
  unfold pT at h
  rw [Bool.and_eq_true] at h
  exact h.2
theorem le_StT_StT : ∀ c j, pT c j = true → pT c j = true := fun _ _ h => h
theorem le_StU_St : ∀ c j, pU c j = true → rl c j = true := by
  intro c j h
  unfold pU at h
  rw [Bool.and_eq_true] at h
  exact h.2
theorem le_StU_StU : ∀ c j, pU c j = true → pU c j = true := fun _ _ h => h
theorem le_StX_St : ∀ c j, pX c j = true → rl c j = true := by
  intro c j h
  unfold pX at h
  rw [Bool.and_eq_true] at h
  exact h.2
theorem le_StX_StX : ∀ c j, pX c j = true → pX c j = true := fun _ _ h => h
theorem StP.put {P : Nat → Nat → Bool} {e d : DD} {el dl : LL} {i j : Nat} {v : Int32} (h : StP P e el d dl) (h1 : lo (rg i) j ≤ v.toInt) (h2 : v.toInt ≤ hi (rg i) j) (h3 : P (rg i) j = false) (h4 : i ≠ 235) (h5 : i ≠ 234) : StP P e el (u2 d i j v) dl := ⟨⟨InI2_put h.1.1 h1 h2, J1_put h.1.2 h4 h5⟩, by
  intro a b hr
  rw [u2_ne (by
    by_cases ha : a = i
    · refine Or.inr (fun hb => ?_)
      subst ha; subst hb
      rw [h3] at hr
      exact absurd hr (by decide)
    · exact Or.inl ha)]
  exact h.2.1 a b hr, h.2.2⟩
theorem pw_0_2 {P : Nat → Nat → Bool} {e d : DD} {el dl : LL} {v : Int32} (h : StP P e el d dl) (h1 : 0 ≤ v.toInt) (h2 : v.toInt ≤ 6) (h3 : P 0 2 = false) : StP P e el (u2 d 0 2 v) dl := h.put h1 h2 h3 (by omega) (by omega)
theorem pw_0_7 {P : Nat → Nat → Bool} {e d : DD} {el dl : LL} {v : Int32} (h : StP P e el d dl) (h1 : 0 ≤ v.toInt) (h2 : v.toInt ≤ 6) (h3 : P 0 7 = false) : StP P e el (u2 d 0 7 v) dl := h.put h1 h2 h3 (by omega) (by omega)
theorem pw_0_9 {P : Nat → Nat → Bool} {e d : DD} {el dl : LL} {v : Int32} (h : StP P e el d dl) (h1 : 0 ≤ v.toInt) (h2 : v.toInt ≤ 99) (h3 : P 0 9 = false) : StP P e el (u2 d 0 9 v) dl := h.put h1 h2 h3 (by omega) (by omega)
theorem pw_0_13 {P : Nat → Nat → Bool} {e d : DD} {el dl : LL} {v : Int32} (h : StP P e el d dl) (h1 : 0 ≤ v.toInt) (h2 : v.toInt ≤ 24) (h3 : P 0 13 = false) : StP P e el (u2 d 0 13 v) dl := h.put h1 h2 h3 (by omega) (by omega)
theorem pw_1_0 {P : Nat → Nat → Bool} {e d : DD} {el dl : LL} {v : Int32} (h : StP P e el d dl) (h1 : 0 ≤ v.toInt) (h2 : v.toInt ≤ 40) (h3 : P 1 0 = false) : StP P e el (u2 d 1 0 v) dl := h.put h1 h2 h3 (by omega) (by omega)
theorem pw_2 {P : Nat → Nat → Bool} {e d : DD} {el dl : LL} {j : Nat} {v : Int32} (h : StP P e el d dl) (h1 : 0 ≤ v.toInt) (h2 : v.toInt ≤ 150) (h3 : P 2 j = false) : StP P e el (u2 d 2 j v) dl := h.put h1 h2 h3 (by omega) (by omega)
theorem pw_3 {P : Nat → Nat → Bool} {e d : DD} {el dl : LL} {j : Nat} {v : Int32} (h : StP P e el d dl) (h1 : 0 ≤ v.toInt) (h2 : v.toInt ≤ 99) (h3 : P 3 j = false) : StP P e el (u2 d 3 j v) dl := h.put h1 h2 h3 (by omega) (by omega)
theorem pw_4 {P : Nat → Nat → Bool} {e d : DD} {el dl : LL} {j : Nat} {v : Int32} (h : StP P e el d dl) (h1 : 0 ≤ v.toInt) (h2 : v.toInt ≤ 2) (h3 : P 4 j = false) : StP P e el (u2 d 4 j v) dl := h.put h1 h2 h3 (by omega) (by omega)
theorem pw_5 {P : Nat → Nat → Bool} {e d : DD} {el dl : LL} {j : Nat} {v : Int32} (h : StP P e el d dl) (h1 : 0 ≤ v.toInt) (h2 : v.toInt ≤ 1) (h3 : P 5 j = false) : StP P e el (u2 d 5 j v) dl := h.put h1 h2 h3 (by omega) (by omega)
theorem pw_6 {P : Nat → Nat → Bool} {e d : DD} {el dl : LL} {j : Nat} {v : Int32} (h : StP P e el d dl) (h1 : 0 ≤ v.toInt) (h2 : v.toInt ≤ 90) (h3 : P 6 j = false) : StP P e el (u2 d 6 j v) dl := h.put h1 h2 h3 (by omega) (by omega)
theorem pw_8 {P : Nat → Nat → Bool} {e d : DD} {el dl : LL} {j : Nat} {v : Int32} (h : StP P e el d dl) (h3 : P 8 j = false) : StP P e el (u2 d 8 j v) dl := h.put (i_rg v).1 (i_rg v).2 h3 (by omega) (by omega)
theorem pw_9_0 {P : Nat → Nat → Bool} {e d : DD} {el dl : LL} {v : Int32} (h : StP P e el d dl) (h3 : P 9 0 = false) : StP P e el (u2 d 9 0 v) dl := h.put (i_rg v).1 (i_rg v).2 h3 (by omega) (by omega)
theorem pw_9_1 {P : Nat → Nat → Bool} {e d : DD} {el dl : LL} {v : Int32} (h : StP P e el d dl) (h3 : P 9 1 = false) : StP P e el (u2 d 9 1 v) dl := h.put (i_rg v).1 (i_rg v).2 h3 (by omega) (by omega)
theorem pw_9_2 {P : Nat → Nat → Bool} {e d : DD} {el dl : LL} {v : Int32} (h : StP P e el d dl) (h3 : P 9 2 = false) : StP P e el (u2 d 9 2 v) dl := h.put (i_rg v).1 (i_rg v).2 h3 (by omega) (by omega)
theorem pw_9_3 {P : Nat → Nat → Bool} {e d : DD} {el dl : LL} {v : Int32} (h : StP P e el d dl) (h3 : P 9 3 = false) : StP P e el (u2 d 9 3 v) dl := h.put (i_rg v).1 (i_rg v).2 h3 (by omega) (by omega)
theorem pw_10_0 {P : Nat → Nat → Bool} {e d : DD} {el dl : LL} {v : Int32} (h : StP P e el d dl) (h3 : P 10 0 = false) : StP P e el (u2 d 10 0 v) dl := h.put (i_rg v).1 (i_rg v).2 h3 (by omega) (by omega)
theorem pw_10_1 {P : Nat → Nat → Bool} {e d : DD} {el dl : LL} {v : Int32} (h : StP P e el d dl) (h1 : 0 ≤ v.toInt) (h2 : v.toInt ≤ 1) (h3 : P 10 1 = false) : StP P e el (u2 d 10 1 v) dl := h.put h1 h2 h3 (by omega) (by omega)
theorem pw_10_2 {P : Nat → Nat → Bool} {e d : DD} {el dl : LL} {v : Int32} (h : StP P e el d dl) (h1 : 0 ≤ v.toInt) (h2 : v.toInt ≤ 8) (h3 : P 10 2 = false) : StP P e el (u2 d 10 2 v) dl := h.put h1 h2 h3 (by omega) (by omega)
theorem pw_10_3 {P : Nat → Nat → Bool} {e d : DD} {el dl : LL} {v : Int32} (h : StP P e el d dl) (h1 : 0 ≤ v.toInt) (h2 : v.toInt ≤ 8) (h3 : P 10 3 = false) : StP P e el (u2 d 10 3 v) dl := h.put h1 h2 h3 (by omega) (by omega)
theorem pw_11 {P : Nat → Nat → Bool} {e d : DD} {el dl : LL} {j : Nat} {v : Int32} (h : StP P e el d dl) (h3 : P 11 j = false) : StP P e el (u2 d 11 j v) dl := h.put (i_rg v).1 (i_rg v).2 h3 (by omega) (by omega)
theorem pw_12 {P : Nat → Nat → Bool} {e d : DD} {el dl : LL} {j : Nat} {v : Int32} (h : StP P e el d dl) (h3 : P 12 j = false) : StP P e el (u2 d 12 j v) dl := h.put (i_rg v).1 (i_rg v).2 h3 (by omega) (by omega)
theorem pw_13 {P : Nat → Nat → Bool} {e d : DD} {el dl : LL} {j : Nat} {v : Int32} (h : StP P e el d dl) (h3 : P 13 j = false) : StP P e el (u2 d 13 j v) dl := h.put (i_rg v).1 (i_rg v).2 h3 (by omega) (by omega)
theorem pw_14 {P : Nat → Nat → Bool} {e d : DD} {el dl : LL} {j : Nat} {v : Int32} (h : StP P e el d dl) (h3 : P 14 j = false) : StP P e el (u2 d 14 j v) dl := h.put (i_rg v).1 (i_rg v).2 h3 (by omega) (by omega)
theorem pw_15 {P : Nat → Nat → Bool} {e d : DD} {el dl : LL} {j : Nat} {v : Int32} (h : StP P e el d dl) (h3 : P 15 j = false) : StP P e el (u2 d 15 j v) dl := h.put (i_rg v).1 (i_rg v).2 h3 (by omega) (by omega)
theorem pw_16 {P : Nat → Nat → Bool} {e d : DD} {el dl : LL} {j : Nat} {v : Int32} (h : StP P e el d dl) (h3 : P 16 j = false) : StP P e el (u2 d 16 j v) dl := h.put (i_rg v).1 (i_rg v).2 h3 (by omega) (by omega)
theorem pw_17 {P : Nat → Nat → Bool} {e d : DD} {el dl : LL} {j : Nat} {v : Int32} (h : StP P e el d dl) (h1 : 0 ≤ v.toInt) (h2 : v.toInt ≤ 7) (h3 : P 17 j = false) : StP P e el (u2 d 17 j v) dl := h.put h1 h2 h3 (by omega) (by omega)
theorem pw_18 {P : Nat → Nat → Bool} {e d : DD} {el dl : LL} {j : Nat} {v : Int32} (h : StP P e el d dl) (h1 : 0 ≤ v.toInt) (h2 : v.toInt ≤ 7) (h3 : P 18 j = false) : StP P e el (u2 d 18 j v) dl := h.put h1 h2 h3 (by omega) (by omega)
theorem pw_19 {P : Nat → Nat → Bool} {e d : DD} {el dl : LL} {j : Nat} {v : Int32} (h : StP P e el d dl) (h3 : P 19 j = false) : StP P e el (u2 d 19 j v) dl := h.put (i_rg v).1 (i_rg v).2 h3 (by omega) (by omega)
theorem pw_20 {P : Nat → Nat → Bool} {e d : DD} {el dl : LL} {j : Nat} {v : Int32} (h : StP P e el d dl) (h3 : P 20 j = false) : StP P e el (u2 d 20 j v) dl := h.put (i_rg v).1 (i_rg v).2 h3 (by omega) (by omega)
theorem pw_21 {P : Nat → Nat → Bool} {e d : DD} {el dl : LL} {j : Nat} {v : Int32} (h : StP P e el d dl) (h3 : P 21 j = false) : StP P e el (u2 d 21 j v) dl := h.put (i_rg v).1 (i_rg v).2 h3 (by omega) (by omega)
theorem pw_22 {P : Nat → Nat → Bool} {e d : DD} {el dl : LL} {j : Nat} {v : Int32} (h : StP P e el d dl) (h3 : P 22 j = false) : StP P e el (u2 d 22 j v) dl := h.put (i_rg v).1 (i_rg v).2 h3 (by omega) (by omega)
theorem pw_23 {P : Nat → Nat → Bool} {e d : DD} {el dl : LL} {j : Nat} {v : Int32} (h : StP P e el d dl) (h3 : P 23 j = false) : StP P e el (u2 d 23 j v) dl := h.put (i_rg v).1 (i_rg v).2 h3 (by omega) (by omega)
theorem pw_24_0 {P : Nat → Nat → Bool} {e d : DD} {el dl : LL} {v : Int32} (h : StP P e el d dl) (h1 : 0 ≤ v.toInt) (h2 : v.toInt ≤ 120) (h3 : P 24 0 = false) : StP P e el (u2 d 24 0 v) dl := h.put h1 h2 h3 (by omega) (by omega)
theorem pw_24_1 {P : Nat → Nat → Bool} {e d : DD} {el dl : LL} {v : Int32} (h : StP P e el d dl) (h1 : 0 ≤ v.toInt) (h2 : v.toInt ≤ 120) (h3 : P 24 1 = false) : StP P e el (u2 d 24 1 v) dl := h.put h1 h2 h3 (by omega) (by omega)
theorem pw_25 {P : Nat → Nat → Bool} {e d : DD} {el dl : LL} {j : Nat} {v : Int32} (h : StP P e el d dl) (h3 : P 25 j = false) : StP P e el (u2 d 25 j v) dl := h.put (i_rg v).1 (i_rg v).2 h3 (by omega) (by omega)
theorem pw_26 {P : Nat → Nat → Bool} {e d : DD} {el dl : LL} {j : Nat} {v : Int32} (h : StP P e el d dl) (h3 : P 26 j = false) : StP P e el (u2 d 26 j v) dl := h.put (i_rg v).1 (i_rg v).2 h3 (by omega) (by omega)
theorem pw_27 {P : Nat → Nat → Bool} {e d : DD} {el dl : LL} {j : Nat} {v : Int32} (h : StP P e el d dl) (h3 : P 27 j = false) : StP P e el (u2 d 27 j v) dl := h.put (i_rg v).1 (i_rg v).2 h3 (by omega) (by omega)
theorem pw_28 {P : Nat → Nat → Bool} {e d : DD} {el dl : LL} {j : Nat} {v : Int32} (h : StP P e el d dl) (h1 : (-1) ≤ v.toInt) (h2 : v.toInt ≤ 5) (h3 : P 28 j = false) : StP P e el (u2 d 28 j v) dl := h.put h1 h2 h3 (by omega) (by omega)
theorem pw_29 {P : Nat → Nat → Bool} {e d : DD} {el dl : LL} {j : Nat} {v : Int32} (h : StP P e el d dl) (h3 : P 29 j = false) : StP P e el (u2 d 29 j v) dl := h.put (i_rg v).1 (i_rg v).2 h3 (by omega) (by omega)
theorem pw_30 {P : Nat → Nat → Bool} {e d : DD} {el dl : LL} {j : Nat} {v : Int32} (h : StP P e el d dl) (h3 : P 30 j = false) : StP P e el (u2 d 30 j v) dl := h.put (i_rg v).1 (i_rg v).2 h3 (by omega) (by omega)
theorem pw_31_0 {P : Nat → Nat → Bool} {e d : DD} {el dl : LL} {v : Int32} (h : StP P e el d dl) (h3 : P 31 0 = false) : StP P e el (u2 d 31 0 v) dl := h.put (i_rg v).1 (i_rg v).2 h3 (by omega) (by omega)
theorem pw_31_1 {P : Nat → Nat → Bool} {e d : DD} {el dl : LL} {v : Int32} (h : StP P e el d dl) (h3 : P 31 1 = false) : StP P e el (u2 d 31 1 v) dl := h.put (i_rg v).1 (i_rg v).2 h3 (by omega) (by omega)
theorem pw_32_0 {P : Nat → Nat → Bool} {e d : DD} {el dl : LL} {v : Int32} (h : StP P e el d dl) (h1 : 0 ≤ v.toInt) (h2 : v.toInt ≤ 6) (h3 : P 32 0 = false) : StP P e el (u2 d 32 0 v) dl := h.put h1 h2 h3 (by omega) (by omega)
theorem pw_33 {P : Nat → Nat → Bool} {e d : DD} {el dl : LL} {j : Nat} {v : Int32} (h : StP P e el d dl) (h3 : P 33 j = false) : StP P e el (u2 d 33 j v) dl := h.put (i_rg v).1 (i_rg v).2 h3 (by omega) (by omega)
theorem pw_34 {P : Nat → Nat → Bool} {e d : DD} {el dl : LL} {j : Nat} {v : Int32} (h : StP P e el d dl) (h3 : P 34 j = false) : StP P e el (u2 d 34 j v) dl := h.put (i_rg v).1 (i_rg v).2 h3 (by omega) (by omega)
theorem pw_35 {P : Nat → Nat → Bool} {e d : DD} {el dl : LL} {j : Nat} {v : Int32} (h : StP P e el d dl) (h1 : 0 ≤ v.toInt) (h2 : v.toInt ≤ 1) (h3 : P 35 j = false) : StP P e el (u2 d 35 j v) dl := h.put h1 h2 h3 (by omega) (by omega)
theorem pw_36 {P : Nat → Nat → Bool} {e d : DD} {el dl : LL} {j : Nat} {v : Int32} (h : StP P e el d dl) (h1 : 0 ≤ v.toInt) (h2 : v.toInt ≤ 1) (h3 : P 36 j = false) : StP P e el (u2 d 36 j v) dl := h.put h1 h2 h3 (by omega) (by omega)
theorem pw_211_0 {P : Nat → Nat → Bool} {e d : DD} {el dl : LL} {v : Int32} (h : StP P e el d dl) (h1 : 0 ≤ v.toInt) (h2 : v.toInt ≤ 40) (h3 : P 211 0 = false) : StP P e el (u2 d 211 0 v) dl := h.put h1 h2 h3 (by omega) (by omega)
theorem pw_211_1 {P : Nat → Nat → Bool} {e d : DD} {el dl : LL} {v : Int32} (h : StP P e el d dl) (h1 : 0 ≤ v.toInt) (h2 : v.toInt ≤ 6) (h3 : P 211 1 = false) : StP P e el (u2 d 211 1 v) dl := h.put h1 h2 h3 (by omega) (by omega)
theorem pw_211_2 {P : Nat → Nat → Bool} {e d : DD} {el dl : LL} {v : Int32} (h : StP P e el d dl) (h1 : 0 ≤ v.toInt) (h2 : v.toInt ≤ 6) (h3 : P 211 2 = false) : StP P e el (u2 d 211 2 v) dl := h.put h1 h2 h3 (by omega) (by omega)
theorem pw_211_3 {P : Nat → Nat → Bool} {e d : DD} {el dl : LL} {v : Int32} (h : StP P e el d dl) (h1 : 0 ≤ v.toInt) (h2 : v.toInt ≤ 24) (h3 : P 211 3 = false) : StP P e el (u2 d 211 3 v) dl := h.put h1 h2 h3 (by omega) (by omega)
theorem pw_211_4 {P : Nat → Nat → Bool} {e d : DD} {el dl : LL} {v : Int32} (h : StP P e el d dl) (h1 : 0 ≤ v.toInt) (h2 : v.toInt ≤ 120) (h3 : P 211 4 = false) : StP P e el (u2 d 211 4 v) dl := h.put h1 h2 h3 (by omega) (by omega)
theorem pw_211_5 {P : Nat → Nat → Bool} {e d : DD} {el dl : LL} {v : Int32} (h : StP P e el d dl) (h1 : 0 ≤ v.toInt) (h2 : v.toInt ≤ 99) (h3 : P 211 5 = false) : StP P e el (u2 d 211 5 v) dl := h.put h1 h2 h3 (by omega) (by omega)
theorem pw_211_6 {P : Nat → Nat → Bool} {e d : DD} {el dl : LL} {v : Int32} (h : StP P e el d dl) (h3 : P 211 6 = false) : StP P e el (u2 d 211 6 v) dl := h.put (i_rg v).1 (i_rg v).2 h3 (by omega) (by omega)
theorem pw_211_7 {P : Nat → Nat → Bool} {e d : DD} {el dl : LL} {v : Int32} (h : StP P e el d dl) (h1 : 0 ≤ v.toInt) (h2 : v.toInt ≤ 6) (h3 : P 211 7 = false) : StP P e el (u2 d 211 7 v) dl := h.put h1 h2 h3 (by omega) (by omega)
theorem pw_211_46 {P : Nat → Nat → Bool} {e d : DD} {el dl : LL} {v : Int32} (h : StP P e el d dl) (h1 : 0 ≤ v.toInt) (h2 : v.toInt ≤ 120) (h3 : P 211 46 = false) : StP P e el (u2 d 211 46 v) dl := h.put h1 h2 h3 (by omega) (by omega)
theorem pw_211_47 {P : Nat → Nat → Bool} {e d : DD} {el dl : LL} {v : Int32} (h : StP P e el d dl) (h1 : (-1) ≤ v.toInt) (h2 : v.toInt ≤ 121) (h3 : P 211 47 = false) : StP P e el (u2 d 211 47 v) dl := h.put h1 h2 h3 (by omega) (by omega)
theorem pw_212 {P : Nat → Nat → Bool} {e d : DD} {el dl : LL} {j : Nat} {v : Int32} (h : StP P e el d dl) (h1 : 0 ≤ v.toInt) (h2 : v.toInt ≤ 150) (h3 : P 212 j = false) : StP P e el (u2 d 212 j v) dl := h.put h1 h2 h3 (by omega) (by omega)
theorem pw_213 {P : Nat → Nat → Bool} {e d : DD} {el dl : LL} {j : Nat} {v : Int32} (h : StP P e el d dl) (h1 : 0 ≤ v.toInt) (h2 : v.toInt ≤ 99) (h3 : P 213 j = false) : StP P e el (u2 d 213 j v) dl := h.put h1 h2 h3 (by omega) (by omega)
theorem pw_214 {P : Nat → Nat → Bool} {e d : DD} {el dl : LL} {j : Nat} {v : Int32} (h : StP P e el d dl) (h1 : 0 ≤ v.toInt) (h2 : v.toInt ≤ 2) (h3 : P 214 j = false) : StP P e el (u2 d 214 j v) dl := h.put h1 h2 h3 (by omega) (by omega)
theorem pw_215 {P : Nat → Nat → Bool} {e d : DD} {el dl : LL} {j : Nat} {v : Int32} (h : StP P e el d dl) (h1 : 0 ≤ v.toInt) (h2 : v.toInt ≤ 1) (h3 : P 215 j = false) : StP P e el (u2 d 215 j v) dl := h.put h1 h2 h3 (by omega) (by omega)
theorem pw_216 {P : Nat → Nat → Bool} {e d : DD} {el dl : LL} {j : Nat} {v : Int32} (h : StP P e el d dl) (h1 : 0 ≤ v.toInt) (h2 : v.toInt ≤ 90) (h3 : P 216 j = false) : StP P e el (u2 d 216 j v) dl := h.put h1 h2 h3 (by omega) (by omega)
theorem pw_217 {P : Nat → Nat → Bool} {e d : DD} {el dl : LL} {j : Nat} {v : Int32} (h : StP P e el d dl) (h1 : 0 ≤ v.toInt) (h2 : v.toInt ≤ 1) (h3 : P 217 j = false) : StP P e el (u2 d 217 j v) dl := h.put h1 h2 h3 (by omega) (by omega)
theorem pw_218 {P : Nat → Nat → Bool} {e d : DD} {el dl : LL} {j : Nat} {v : Int32} (h : StP P e el d dl) (h1 : 0 ≤ v.toInt) (h2 : v.toInt ≤ 4) (h3 : P 218 j = false) : StP P e el (u2 d 218 j v) dl := h.put h1 h2 h3 (by omega) (by omega)
theorem pw_219 {P : Nat → Nat → Bool} {e d : DD} {el dl : LL} {j : Nat} {v : Int32} (h : StP P e el d dl) (h1 : 0 ≤ v.toInt) (h2 : v.toInt ≤ 150) (h3 : P 219 j = false) : StP P e el (u2 d 219 j v) dl := h.put h1 h2 h3 (by omega) (by omega)
theorem pw_220 {P : Nat → Nat → Bool} {e d : DD} {el dl : LL} {j : Nat} {v : Int32} (h : StP P e el d dl) (h1 : 0 ≤ v.toInt) (h2 : v.toInt ≤ 8) (h3 : P 220 j = false) : StP P e el (u2 d 220 j v) dl := h.put h1 h2 h3 (by omega) (by omega)
theorem pw_221 {P : Nat → Nat → Bool} {e d : DD} {el dl : LL} {j : Nat} {v : Int32} (h : StP P e el d dl) (h1 : 0 ≤ v.toInt) (h2 : v.toInt ≤ 9) (h3 : P 221 j = false) : StP P e el (u2 d 221 j v) dl := h.put h1 h2 h3 (by omega) (by omega)
theorem pw_222 {P : Nat → Nat → Bool} {e d : DD} {el dl : LL} {j : Nat} {v : Int32} (h : StP P e el d dl) (h1 : 0 ≤ v.toInt) (h2 : v.toInt ≤ 39) (h3 : P 222 j = false) : StP P e el (u2 d 222 j v) dl := h.put h1 h2 h3 (by omega) (by omega)
theorem pw_223 {P : Nat → Nat → Bool} {e d : DD} {el dl : LL} {j : Nat} {v : Int32} (h : StP P e el d dl) (h1 : 0 ≤ v.toInt) (h2 : v.toInt ≤ 39) (h3 : P 223 j = false) : StP P e el (u2 d 223 j v) dl := h.put h1 h2 h3 (by omega) (by omega)
theorem pw_224 {P : Nat → Nat → Bool} {e d : DD} {el dl : LL} {j : Nat} {v : Int32} (h : StP P e el d dl) (h1 : 0 ≤ v.toInt) (h2 : v.toInt ≤ 1) (h3 : P 224 j = false) : StP P e el (u2 d 224 j v) dl := h.put h1 h2 h3 (by omega) (by omega)
theorem pw_225 {P : Nat → Nat → Bool} {e d : DD} {el dl : LL} {j : Nat} {v : Int32} (h : StP P e el d dl) (h3 : P 225 j = false) : StP P e el (u2 d 225 j v) dl := h.put (i_rg v).1 (i_rg v).2 h3 (by omega) (by omega)
theorem pw_226 {P : Nat → Nat → Bool} {e d : DD} {el dl : LL} {j : Nat} {v : Int32} (h : StP P e el d dl) (h1 : 0 ≤ v.toInt) (h2 : v.toInt ≤ 8) (h3 : P 226 j = false) : StP P e el (u2 d 226 j v) dl := h.put h1 h2 h3 (by omega) (by omega)
theorem pw_227 {P : Nat → Nat → Bool} {e d : DD} {el dl : LL} {j : Nat} {v : Int32} (h : StP P e el d dl) (h1 : 0 ≤ v.toInt) (h2 : v.toInt ≤ 5) (h3 : P 227 j = false) : StP P e el (u2 d 227 j v) dl := h.put h1 h2 h3 (by omega) (by omega)
theorem pw_228 {P : Nat → Nat → Bool} {e d : DD} {el dl : LL} {j : Nat} {v : Int32} (h : StP P e el d dl) (h3 : P 228 j = false) : StP P e el (u2 d 228 j v) dl := h.put (i_rg v).1 (i_rg v).2 h3 (by omega) (by omega)
theorem pw_229 {P : Nat → Nat → Bool} {e d : DD} {el dl : LL} {j : Nat} {v : Int32} (h : StP P e el d dl) (h3 : P 229 j = false) : StP P e el (u2 d 229 j v) dl := h.put (i_rg v).1 (i_rg v).2 h3 (by omega) (by omega)
theorem pw_230 {P : Nat → Nat → Bool} {e d : DD} {el dl : LL} {j : Nat} {v : Int32} (h : StP P e el d dl) (h1 : 0 ≤ v.toInt) (h2 : v.toInt ≤ 1) (h3 : P 230 j = false) : StP P e el (u2 d 230 j v) dl := h.put h1 h2 h3 (by omega) (by omega)
theorem pw_231 {P : Nat → Nat → Bool} {e d : DD} {el dl : LL} {j : Nat} {v : Int32} (h : StP P e el d dl) (h1 : 0 ≤ v.toInt) (h2 : v.toInt ≤ 1) (h3 : P 231 j = false) : StP P e el (u2 d 231 j v) dl := h.put h1 h2 h3 (by omega) (by omega)
theorem pw_232 {P : Nat → Nat → Bool} {e d : DD} {el dl : LL} {j : Nat} {v : Int32} (h : StP P e el d dl) (h1 : 0 ≤ v.toInt) (h2 : v.toInt ≤ 999) (h3 : P 232 j = false) : StP P e el (u2 d 232 j v) dl := h.put h1 h2 h3 (by omega) (by omega)
theorem pw_233 {P : Nat → Nat → Bool} {e d : DD} {el dl : LL} {j : Nat} {v : Int32} (h : StP P e el d dl) (h1 : 0 ≤ v.toInt) (h2 : v.toInt ≤ 1) (h3 : P 233 j = false) : StP P e el (u2 d 233 j v) dl := h.put h1 h2 h3 (by omega) (by omega)
theorem pw_236 {P : Nat → Nat → Bool} {e d : DD} {el dl : LL} {j : Nat} {v : Int32} (h : StP P e el d dl) (h3 : P 236 j = false) : StP P e el (u2 d 236 j v) dl := h.put (i_rg v).1 (i_rg v).2 h3 (by omega) (by omega)
theorem pw_237 {P : Nat → Nat → Bool} {e d : DD} {el dl : LL} {j : Nat} {v : Int32} (h : StP P e el d dl) (h1 : 0 ≤ v.toInt) (h2 : v.toInt ≤ 1) (h3 : P 237 j = false) : StP P e el (u2 d 237 j v) dl := h.put h1 h2 h3 (by omega) (by omega)
theorem pw_238 {P : Nat → Nat → Bool} {e d : DD} {el dl : LL} {j : Nat} {v : Int32} (h : StP P e el d dl) (h1 : 0 ≤ v.toInt) (h2 : v.toInt ≤ 1) (h3 : P 238 j = false) : StP P e el (u2 d 238 j v) dl := h.put h1 h2 h3 (by omega) (by omega)
theorem pw_239 {P : Nat → Nat → Bool} {e d : DD} {el dl : LL} {j : Nat} {v : Int32} (h : StP P e el d dl) (h1 : (-1) ≤ v.toInt) (h2 : v.toInt ≤ 5) (h3 : P 239 j = false) : StP P e el (u2 d 239 j v) dl := h.put h1 h2 h3 (by omega) (by omega)
theorem pw_240 {P : Nat → Nat → Bool} {e d : DD} {el dl : LL} {j : Nat} {v : Int32} (h : StP P e el d dl) (h3 : P 240 j = false) : StP P e el (u2 d 240 j v) dl := h.put (i_rg v).1 (i_rg v).2 h3 (by omega) (by omega)
theorem pw_241 {P : Nat → Nat → Bool} {e d : DD} {el dl : LL} {j : Nat} {v : Int32} (h : StP P e el d dl) (h1 : 0 ≤ v.toInt) (h2 : v.toInt ≤ 5) (h3 : P 241 j = false) : StP P e el (u2 d 241 j v) dl := h.put h1 h2 h3 (by omega) (by omega)
theorem pw_242 {P : Nat → Nat → Bool} {e d : DD} {el dl : LL} {j : Nat} {v : Int32} (h : StP P e el d dl) (h3 : P 242 j = false) : StP P e el (u2 d 242 j v) dl := h.put (i_rg v).1 (i_rg v).2 h3 (by omega) (by omega)
theorem pw_243 {P : Nat → Nat → Bool} {e d : DD} {el dl : LL} {j : Nat} {v : Int32} (h : StP P e el d dl) (h1 : 0 ≤ v.toInt) (h2 : v.toInt ≤ 1) (h3 : P 243 j = false) : StP P e el (u2 d 243 j v) dl := h.put h1 h2 h3 (by omega) (by omega)
theorem pw_244 {P : Nat → Nat → Bool} {e d : DD} {el dl : LL} {j : Nat} {v : Int32} (h : StP P e el d dl) (h1 : (-1) ≤ v.toInt) (h2 : v.toInt ≤ 7) (h3 : P 244 j = false) : StP P e el (u2 d 244 j v) dl := h.put h1 h2 h3 (by omega) (by omega)
theorem pw_245 {P : Nat → Nat → Bool} {e d : DD} {el dl : LL} {j : Nat} {v : Int32} (h : StP P e el d dl) (h1 : 0 ≤ v.toInt) (h2 : v.toInt ≤ 39) (h3 : P 245 j = false) : StP P e el (u2 d 245 j v) dl := h.put h1 h2 h3 (by omega) (by omega)
theorem pw_246 {P : Nat → Nat → Bool} {e d : DD} {el dl : LL} {j : Nat} {v : Int32} (h : StP P e el d dl) (h3 : P 246 j = false) : StP P e el (u2 d 246 j v) dl := h.put (i_rg v).1 (i_rg v).2 h3 (by omega) (by omega)
theorem pw_247 {P : Nat → Nat → Bool} {e d : DD} {el dl : LL} {j : Nat} {v : Int32} (h : StP P e el d dl) (h1 : 0 ≤ v.toInt) (h2 : v.toInt ≤ 39) (h3 : P 247 j = false) : StP P e el (u2 d 247 j v) dl := h.put h1 h2 h3 (by omega) (by omega)
theorem pw_37_0 {P : Nat → Nat → Bool} {e d : DD} {el dl : LL} {v : Int32} (h : StP P e el d dl) {k : Nat} (hk : k < 6) (h1 : 2 ≤ v.toInt) (h2 : v.toInt ≤ 4) (h3 : P 37 0 = false) : StP P e el (u2 d (37 + 3 * k) 0 v) dl := h.put (by rw [rg_37 hk]; exact h1) (by rw [rg_37 hk]; exact h2) (by rw [rg_37 hk]; exact h3) (by omega) (by omega)
theorem pw_37_1 {P : Nat → Nat → Bool} {e d : DD} {el dl : LL} {v : Int32} (h : StP P e el d dl) {k : Nat} (hk : k < 6) (h1 : 0 ≤ v.toInt) (h2 : v.toInt ≤ 150) (h3 : P 37 1 = false) : StP P e el (u2 d (37 + 3 * k) 1 v) dl := h.put (by rw [rg_37 hk]; exact h1) (by rw [rg_37 hk]; exact h2) (by rw [rg_37 hk]; exact h3) (by omega) (by omega)
theorem pw_37_2 {P : Nat → Nat → Bool} {e d : DD} {el dl : LL} {v : Int32} (h : StP P e el d dl) {k : Nat} (hk : k < 6) (h1 : 1 ≤ v.toInt) (h2 : v.toInt ≤ 9) (h3 : P 37 2 = false) : StP P e el (u2 d (37 + 3 * k) 2 v) dl := h.put (by rw [rg_37 hk]; exact h1) (by rw [rg_37 hk]; exact h2) (by rw [rg_37 hk]; exact h3) (by omega) (by omega)
theorem pw_37_3 {P : Nat → Nat → Bool} {e d : DD} {el dl : LL} {v : Int32} (h : StP P e el d dl) {k : Nat} (hk : k < 6) (h1 : 0 ≤ v.toInt) (h2 : v.toInt ≤ 8) (h3 : P 37 3 = false) : StP P e el (u2 d (37 + 3 * k) 3 v) dl := h.put (by rw [rg_37 hk]; exact h1) (by rw [rg_37 hk]; exact h2) (by rw [rg_37 hk]; exact h3) (by omega) (by omega)
theorem pw_37_6 {P : Nat → Nat → Bool} {e d : DD} {el dl : LL} {v : Int32} (h : StP P e el d dl) {k : Nat} (hk : k < 6) (h1 : 0 ≤ v.toInt) (h2 : v.toInt ≤ 1) (h3 : P 37 6 = false) : StP P e el (u2 d (37 + 3 * k) 6 v) dl := h.put (by rw [rg_37 hk]; exact h1) (by rw [rg_37 hk]; exact h2) (by rw [rg_37 hk]; exact h3) (by omega) (by omega)
theorem pw_38 {P : Nat → Nat → Bool} {e d : DD} {el dl : LL} {j : Nat} {v : Int32} (h : StP P e el d dl) {k : Nat} (hk : k < 6) (h1 : 0 ≤ v.toInt) (h2 : v.toInt ≤ 39) (h3 : P 38 j = false) : StP P e el (u2 d (38 + 3 * k) j v) dl := h.put (by rw [rg_38 hk]; exact h1) (by rw [rg_38 hk]; exact h2) (by rw [rg_38 hk]; exact h3) (by omega) (by omega)
theorem pw_39 {P : Nat → Nat → Bool} {e d : DD} {el dl : LL} {j : Nat} {v : Int32} (h : StP P e el d dl) {k : Nat} (hk : k < 6) (h1 : 0 ≤ v.toInt) (h2 : v.toInt ≤ 39) (h3 : P 39 j = false) : StP P e el (u2 d (39 + 3 * k) j v) dl := h.put (by rw [rg_39 hk]; exact h1) (by rw [rg_39 hk]; exact h2) (by rw [rg_39 hk]; exact h3) (by omega) (by omega)
theorem pw_55_0 {P : Nat → Nat → Bool} {e d : DD} {el dl : LL} {v : Int32} (h : StP P e el d dl) {k : Nat} (hk : k < 6) (h1 : 0 ≤ v.toInt) (h2 : v.toInt ≤ 8) (h3 : P 55 0 = false) : StP P e el (u2 d (55 + 6 * k) 0 v) dl := h.put (by rw [rg_55 hk]; exact h1) (by rw [rg_55 hk]; exact h2) (by rw [rg_55 hk]; exact h3) (by omega) (by omega)
theorem pw_56 {P : Nat → Nat → Bool} {e d : DD} {el dl : LL} {j : Nat} {v : Int32} (h : StP P e el d dl) {k : Nat} (hk : k < 6) (h1 : 0 ≤ v.toInt) (h2 : v.toInt ≤ 1) (h3 : P 56 j = false) : StP P e el (u2 d (56 + 6 * k) j v) dl := h.put (by rw [rg_56 hk]; exact h1) (by rw [rg_56 hk]; exact h2) (by rw [rg_56 hk]; exact h3) (by omega) (by omega)
theorem pw_57 {P : Nat → Nat → Bool} {e d : DD} {el dl : LL} {j : Nat} {v : Int32} (h : StP P e el d dl) {k : Nat} (hk : k < 6) (h1 : 0 ≤ v.toInt) (h2 : v.toInt ≤ 5) (h3 : P 57 j = false) : StP P e el (u2 d (57 + 6 * k) j v) dl := h.put (by rw [rg_57 hk]; exact h1) (by rw [rg_57 hk]; exact h2) (by rw [rg_57 hk]; exact h3) (by omega) (by omega)
theorem pw_58 {P : Nat → Nat → Bool} {e d : DD} {el dl : LL} {j : Nat} {v : Int32} (h : StP P e el d dl) {k : Nat} (hk : k < 6) (h3 : P 58 j = false) : StP P e el (u2 d (58 + 6 * k) j v) dl := h.put (by rw [rg_58 hk]; exact (i_rg v).1) (by rw [rg_58 hk]; exact (i_rg v).2) (by rw [rg_58 hk]; exact h3) (by omega) (by omega)
theorem pw_59 {P : Nat → Nat → Bool} {e d : DD} {el dl : LL} {j : Nat} {v : Int32} (h : StP P e el d dl) {k : Nat} (hk : k < 6) (h3 : P 59 j = false) : StP P e el (u2 d (59 + 6 * k) j v) dl := h.put (by rw [rg_59 hk]; exact (i_rg v).1) (by rw [rg_59 hk]; exact (i_rg v).2) (by rw [rg_59 hk]; exact h3) (by omega) (by omega)
theorem pw_60 {P : Nat → Nat → Bool} {e d : DD} {el dl : LL} {j : Nat} {v : Int32} (h : StP P e el d dl) {k : Nat} (hk : k < 6) (h1 : 0 ≤ v.toInt) (h2 : v.toInt ≤ 1) (h3 : P 60 j = false) : StP P e el (u2 d (60 + 6 * k) j v) dl := h.put (by rw [rg_60 hk]; exact h1) (by rw [rg_60 hk]; exact h2) (by rw [rg_60 hk]; exact h3) (by omega) (by omega)
theorem pw_91_0 {P : Nat → Nat → Bool} {e d : DD} {el dl : LL} {v : Int32} (h : StP P e el d dl) {k : Nat} (hk : k < 24) (h1 : 0 ≤ v.toInt) (h2 : v.toInt ≤ 999) (h3 : P 91 0 = false) : StP P e el (u2 d (91 + 5 * k) 0 v) dl := h.put (by rw [rg_91 hk]; exact h1) (by rw [rg_91 hk]; exact h2) (by rw [rg_91 hk]; exact h3) (by omega) (by omega)
theorem pw_91_1 {P : Nat → Nat → Bool} {e d : DD} {el dl : LL} {v : Int32} (h : StP P e el d dl) {k : Nat} (hk : k < 24) (h1 : 0 ≤ v.toInt) (h2 : v.toInt ≤ 1) (h3 : P 91 1 = false) : StP P e el (u2 d (91 + 5 * k) 1 v) dl := h.put (by rw [rg_91 hk]; exact h1) (by rw [rg_91 hk]; exact h2) (by rw [rg_91 hk]; exact h3) (by omega) (by omega)
theorem pw_91_2 {P : Nat → Nat → Bool} {e d : DD} {el dl : LL} {v : Int32} (h : StP P e el d dl) {k : Nat} (hk : k < 24) (h1 : 0 ≤ v.toInt) (h2 : v.toInt ≤ 1) (h3 : P 91 2 = false) : StP P e el (u2 d (91 + 5 * k) 2 v) dl := h.put (by rw [rg_91 hk]; exact h1) (by rw [rg_91 hk]; exact h2) (by rw [rg_91 hk]; exact h3) (by omega) (by omega)
theorem pw_92 {P : Nat → Nat → Bool} {e d : DD} {el dl : LL} {j : Nat} {v : Int32} (h : StP P e el d dl) {k : Nat} (hk : k < 24) (h1 : (-1) ≤ v.toInt) (h2 : v.toInt ≤ 5) (h3 : P 92 j = false) : StP P e el (u2 d (92 + 5 * k) j v) dl := h.put (by rw [rg_92 hk]; exact h1) (by rw [rg_92 hk]; exact h2) (by rw [rg_92 hk]; exact h3) (by omega) (by omega)
theorem pw_93 {P : Nat → Nat → Bool} {e d : DD} {el dl : LL} {j : Nat} {v : Int32} (h : StP P e el d dl) {k : Nat} (hk : k < 24) (h3 : P 93 j = false) : StP P e el (u2 d (93 + 5 * k) j v) dl := h.put (by rw [rg_93 hk]; exact (i_rg v).1) (by rw [rg_93 hk]; exact (i_rg v).2) (by rw [rg_93 hk]; exact h3) (by omega) (by omega)
theorem pw_94 {P : Nat → Nat → Bool} {e d : DD} {el dl : LL} {j : Nat} {v : Int32} (h : StP P e el d dl) {k : Nat} (hk : k < 24) (h3 : P 94 j = false) : StP P e el (u2 d (94 + 5 * k) j v) dl := h.put (by rw [rg_94 hk]; exact (i_rg v).1) (by rw [rg_94 hk]; exact (i_rg v).2) (by rw [rg_94 hk]; exact h3) (by omega) (by omega)
theorem pw_95 {P : Nat → Nat → Bool} {e d : DD} {el dl : LL} {j : Nat} {v : Int32} (h : StP P e el d dl) {k : Nat} (hk : k < 24) (h1 : 0 ≤ v.toInt) (h2 : v.toInt ≤ 1) (h3 : P 95 j = false) : StP P e el (u2 d (95 + 5 * k) j v) dl := h.put (by rw [rg_95 hk]; exact h1) (by rw [rg_95 hk]; exact h2) (by rw [rg_95 hk]; exact h3) (by omega) (by omega)
