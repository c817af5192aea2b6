def b_X9_pointsOf_63 (n : Nat) (Q : Int32 → DD → LL → Prop) (K4 : Int32 → Int32 → Int32 → DD → LL → Prop) (x1 : Int32) (x3 : Int32) (xs0 : Int32) (xs1 : Int32) (d : DD) (dl : LL) : Prop := ∀ v6 : Int32, v6 = (xs1 + xs0) → K4 x1 v6 (x3 + 1) d dl
def b_X9_pointsOf_39 (n : Nat) (Q : Int32 → DD → LL → Prop) (K4 : Int32 → Int32 → Int32 → DD → LL → Prop) (x1 : Int32) (x2 : Int32) (x3 : Int32) (xs0 : Int32) (d : DD) (dl : LL) : Prop := (xs0 = (-1) → b_X9_pointsOf_63 n Q K4 x1 x3 0 x2 d dl) ∧ (¬ xs0 = (-1) → vp_in x3 24 ∧ ∀ k8 : Nat, k8 = x3.toNatClampNeg → F_X3_pointsIn n k8 xs0 d dl (fun r9 d10 l11 => b_X9_pointsOf_63 n Q K4 x1 x3 r9 x2 d10 l11))
def b_X9_pointsOf_4 (n : Nat) (Q : Int32 → DD → LL → Prop) : Nat → Int32 → Int32 → Int32 → DD → LL → Prop
  | 0 => fun _ _ _ _ _ => False
  | k + 1 => fun x1 x2 x3 d dl => ((d 0 13) ≤ x3 → Q x2 d dl) ∧ (¬ (d 0 13) ≤ x3 → vp_in x3 24 ∧ ∀ k3 : Nat, k3 = x3.toNatClampNeg → (¬ (d (91 + 5 * k3) 1) = 1 → b_X9_pointsOf_39 n Q (b_X9_pointsOf_4 n Q k) x1 x2 x3 (-1) d dl) ∧ ((d (91 + 5 * k3) 1) = 1 → vp_in x3 24 ∧ ∀ k13 : Nat, k13 = x3.toNatClampNeg → F_X3_laneOf n k13 x1 d dl (fun r14 d15 l16 => b_X9_pointsOf_39 n Q (b_X9_pointsOf_4 n Q k) x1 x2 x3 r14 d15 l16)))
def F_X9_pointsOf (n : Nat) (x1 : Int32) (d : DD) (dl : LL) (Q : Int32 → DD → LL → Prop) : Prop := b_X9_pointsOf_4 n Q n x1 0 0 d dl
set_option maxHeartbeats 4000000 in
set_option maxRecDepth 100000 in
theorem t_X9_pointsOf_63 {g : Ex} {x : Fx} {n : Nat} {Q : Int32 → DD → LL → Prop} (C0 : Cx g x cX9_pointsOf 5 (some .int) RX9 2 49) (hZ : Zi g x Q) {K4 : Int32 → Int32 → Int32 → DD → LL → Prop} (hK4 : ∀ (x1 : Int32) (x2 : Int32) (x3 : Int32) (d : DD) (dl : LL), K4 x1 x2 x3 d dl → FW g x 5 d dl 4 [(0, rf g 0), (1, .int x1), (2, .int x2), (3, .int x3)] []) : ∀ (x1 : Int32) (x3 : Int32) (xs0 : Int32) (xs1 : Int32) (d : DD) (dl : LL), b_X9_pointsOf_63 n Q K4 x1 x3 xs0 xs1 d dl → FW g x 5 d dl 63 [(0, rf g 0), (1, .int x1), (3, .int x3)] [.int xs0, .int xs1] := by
  intro x1 x3 xs0 xs1 d dl hw
  refine f_iadd C0 dX9_pointsOf_63 ?_
  refine f_topi (fun v6 e6 => ?_)
  have hw := hw v6 e6
  refine f_istore_n (lo' := [(2, .int v6), (0, rf g 0), (1, .int x1), (3, .int x3)]) C0 dX9_pointsOf_64 rfl (by decide) rfl ?_
  refine f_iinc (lo' := [(3, .int (x3 + 1)), (2, .int v6), (0, rf g 0), (1, .int x1)]) C0 dX9_pointsOf_65 3 rfl rfl (by decide) rfl ?_
  refine f_goto (tgt := 4) C0 dX9_pointsOf_68 (by decide) ?_
  refine f_sub [2, 3, 1, 0] rfl ?_
  exact hK4 _ _ _ _ _ hw
set_option maxHeartbeats 4000000 in
set_option maxRecDepth 100000 in
theorem t_X9_pointsOf_39 {g : Ex} {x : Fx} {n : Nat} {Q : Int32 → DD → LL → Prop} (C0 : Cx g x cX9_pointsOf 5 (some .int) RX9 2 49) (hZ : Zi g x Q) {K4 : Int32 → Int32 → Int32 → DD → LL → Prop} (hK4 : ∀ (x1 : Int32) (x2 : Int32) (x3 : Int32) (d : DD) (dl : LL), K4 x1 x2 x3 d dl → FW g x 5 d dl 4 [(0, rf g 0), (1, .int x1), (2, .int x2), (3, .int x3)] []) : ∀ (x1 : Int32) (x2 : Int32) (x3 : Int32) (xs0 : Int32) (d : DD) (dl : LL), b_X9_pointsOf_39 n Q K4 x1 x2 x3 xs0 d dl → FW g x 5 d dl 39 [(0, rf g 0), (1, .int x1), (2, .int x2), (3, .int x3)] [.int xs0] := by
  intro x1 x2 x3 xs0 d dl hw
  refine f_istore (lo' := [(4, .int xs0), (0, rf g 0), (1, .int x1), (2, .int x2), (3, .int x3)]) C0 dX9_pointsOf_39 (by decide) rfl ?_
  refine f_iload_n C0 dX9_pointsOf_41 rfl 3 rfl ?_
  refine f_iload C0 dX9_pointsOf_42 0 rfl ?_
  refine f_iconst (v := (-1)) C0 dX9_pointsOf_44 rfl ?_
  refine f_icmp_eq (tgt := 62) C0 dX9_pointsOf_45 (by decide) (fun h5 => ?_) (fun h5 => ?_)
  · have hw := hw.1 h5
    refine f_iconst (v := 0) C0 dX9_pointsOf_62 rfl ?_
    refine f_sub [1, 2, 4] rfl ?_
    exact t_X9_pointsOf_63 C0 hZ hK4 _ _ _ _ _ _ hw
  · have hw := hw.2 h5
    refine f_aload_n C0 dX9_pointsOf_48 rfl 1 rfl ⟨_, rfl⟩ ?_
    refine gf_9_12 (r := 30) C0 rfl kn_0 mw_380 dX9_pointsOf_49 ?_
    refine f_iload_n C0 dX9_pointsOf_52 rfl 4 rfl ?_
    obtain ⟨h7, hw⟩ := hw
    refine f_aald16 C0 kn_30 h7 dX9_pointsOf_53 (fun k8 ek8 hk8 => ?_)
    have hw := hw k8 ek8
    refine f_iload C0 dX9_pointsOf_54 0 rfl ?_
    refine f_callVi (As := [.int xs0]) (rest := [.int x2]) C0 (m_X3_pointsIn hk8 hw) cw_X9_336 (kn_race_0 hk8) (by decide) rfl rfl ⟨(Nat.le_of_ble_eq_true rfl), (Nat.le_of_ble_eq_true rfl)⟩ rfl rfl (Nat.le_of_ble_eq_true rfl) dX9_pointsOf_56 ?_
    intro r9 d10 l11 hw
    refine f_goto (tgt := 63) C0 dX9_pointsOf_59 (by decide) ?_
    refine f_sub [1, 2, 4] rfl ?_
    exact t_X9_pointsOf_63 C0 hZ hK4 _ _ _ _ _ _ hw
set_option maxHeartbeats 4000000 in
set_option maxRecDepth 100000 in
theorem t_X9_pointsOf_4 {g : Ex} {x : Fx} {n : Nat} {Q : Int32 → DD → LL → Prop} (C0 : Cx g x cX9_pointsOf 5 (some .int) RX9 2 49) (hZ : Zi g x Q) : ∀ (j : Nat) (x1 : Int32) (x2 : Int32) (x3 : Int32) (d : DD) (dl : LL), b_X9_pointsOf_4 n Q j x1 x2 x3 d dl → FW g x 5 d dl 4 [(0, rf g 0), (1, .int x1), (2, .int x2), (3, .int x3)] [] := by
  intro j
  induction j with
  | zero =>
    intro x1 x2 x3 d dl hw
    exact hw.elim
  | succ j hK4 =>
    intro x1 x2 x3 d dl hw
    refine f_iload_n C0 dX9_pointsOf_4 rfl 3 rfl ?_
    refine f_aload_n C0 dX9_pointsOf_5 rfl 0 rfl ⟨_, rfl⟩ ?_
    refine gf_9_13 C0 kn_0 mw_381 dX9_pointsOf_6 ?_
    refine f_icmp_ge (tgt := 71) C0 dX9_pointsOf_9 (by decide) (fun h1 => ?_) (fun h1 => ?_)
    · have hw := hw.1 h1
      refine f_iload_n C0 dX9_pointsOf_71 rfl 2 rfl ?_
      exact f_iret C0 hZ hw dX9_pointsOf_72
    · have hw := hw.2 h1
      refine f_aload_n C0 dX9_pointsOf_12 rfl 0 rfl ⟨_, rfl⟩ ?_
      refine gf_9_12 (r := 30) C0 rfl kn_0 mw_380 dX9_pointsOf_13 ?_
      refine f_iload_n C0 dX9_pointsOf_16 rfl 3 rfl ?_
      obtain ⟨h2, hw⟩ := hw
      refine f_aald16 C0 kn_30 h2 dX9_pointsOf_17 (fun k3 ek3 hk3 => ?_)
      have hw := hw k3 ek3
      refine gf_3_1 C0 (kn_race_0 hk3) mw_340 dX9_pointsOf_18 ?_
      refine f_iconst (v := 1) C0 dX9_pointsOf_21 rfl ?_
      refine f_icmp_ne (tgt := 38) C0 dX9_pointsOf_22 (by decide) (fun h4 => ?_) (fun h4 => ?_)
      · have hw := hw.1 h4
        refine f_iconst (v := (-1)) C0 dX9_pointsOf_38 rfl ?_
        exact t_X9_pointsOf_39 C0 hZ hK4 _ _ _ _ _ _ hw
      · have hw := hw.2 h4
        refine f_aload_n C0 dX9_pointsOf_25 rfl 0 rfl ⟨_, rfl⟩ ?_
        refine gf_9_12 (r := 30) C0 rfl kn_0 mw_380 dX9_pointsOf_26 ?_
        refine f_iload_n C0 dX9_pointsOf_29 rfl 3 rfl ?_
        obtain ⟨h12, hw⟩ := hw
        refine f_aald16 C0 kn_30 h12 dX9_pointsOf_30 (fun k13 ek13 hk13 => ?_)
        have hw := hw k13 ek13
        refine f_iload_n C0 dX9_pointsOf_31 rfl 1 rfl ?_
        refine f_callVi (As := [.int x1]) (rest := []) C0 (m_X3_laneOf hk13 hw) cw_X9_261 (kn_race_0 hk13) (by decide) rfl rfl ⟨(Nat.le_of_ble_eq_true rfl), (Nat.le_of_ble_eq_true rfl)⟩ rfl rfl (Nat.le_of_ble_eq_true rfl) dX9_pointsOf_32 ?_
        intro r14 d15 l16 hw
        refine f_goto (tgt := 39) C0 dX9_pointsOf_35 (by decide) ?_
        exact t_X9_pointsOf_39 C0 hZ hK4 _ _ _ _ _ _ hw
set_option maxHeartbeats 4000000 in
set_option maxRecDepth 100000 in
theorem m_X9_pointsOf {g : Ex} {n : Nat} {x1 : Int32} {d : DD} {dl : LL} {Q : Int32 → DD → LL → Prop} (hw : F_X9_pointsOf n x1 d dl Q) : Mi g yX9_pointsOf cX9_pointsOf 5 (some .int) 2 49 [rf g 0, .int x1] d dl Q := by
  refine Mi.of (by decide) (Nat.le_of_ble_eq_true rfl) (fun x C0 hZ => ?_)
  have C0 : Cx g x cX9_pointsOf 5 (some .int) RX9 2 49 := C0
  refine f_iconst (v := 0) C0 dX9_pointsOf_0 rfl ?_
  refine f_istore_n (lo' := [(2, .int 0), (0, rf g 0), (1, .int x1)]) C0 dX9_pointsOf_1 rfl (by decide) rfl ?_
  refine f_iconst (v := 0) C0 dX9_pointsOf_2 rfl ?_
  refine f_istore_n (lo' := [(3, .int 0), (2, .int 0), (0, rf g 0), (1, .int x1)]) C0 dX9_pointsOf_3 rfl (by decide) rfl ?_
  refine f_sub [2, 3, 1, 0] rfl ?_
  exact t_X9_pointsOf_4 C0 hZ n _ _ _ _ _ hw
def F_X9_points (n : Nat) (x1 : Int32) (d : DD) (dl : LL) (Q : Int32 → DD → LL → Prop) : Prop := F_X9_isCrew n x1 d dl (fun r1 d2 l3 => (r1 = 0 → Q (-1) d2 l3) ∧ (¬ r1 = 0 → F_X9_pointsOf n x1 d2 l3 (fun r5 d6 l7 => Q r5 d6 l7)))
set_option maxHeartbeats 4000000 in
set_option maxRecDepth 100000 in
theorem m_X9_points {g : Ex} {n : Nat} {x1 : Int32} {d : DD} {dl : LL} {Q : Int32 → DD → LL → Prop} (hw : F_X9_points n x1 d dl Q) : Mi g yX9_points cX9_points 2 (some .int) 3 73 [rf g 0, .int x1] d dl Q := by
  refine Mi.of (by decide) (Nat.le_of_ble_eq_true rfl) (fun x C0 hZ => ?_)
  have C0 : Cx g x cX9_points 2 (some .int) RX9 3 73 := C0
  refine f_aload_n C0 dX9_points_0 rfl 0 rfl ⟨_, rfl⟩ ?_
  refine f_iload_n C0 dX9_points_1 rfl 1 rfl ?_
  refine f_callVi (As := [.int x1]) (rest := []) C0 (m_X9_isCrew hw) cw_X9_126 kn_0 (by decide) rfl rfl ⟨(Nat.le_of_ble_eq_true rfl), (Nat.le_of_ble_eq_true rfl)⟩ rfl rfl (Nat.le_of_ble_eq_true rfl) dX9_points_2 ?_
  intro r1 d2 l3 hw
  refine f_if_eq (tgt := 16) C0 dX9_points_5 (by decide) (fun h4 => ?_) (fun h4 => ?_)
  · have hw := hw.1 h4
    refine f_iconst (v := (-1)) C0 dX9_points_16 rfl ?_
    exact f_iret C0 hZ hw dX9_points_17
  · have hw := hw.2 h4
    refine f_aload_n C0 dX9_points_8 rfl 0 rfl ⟨_, rfl⟩ ?_
    refine f_iload_n C0 dX9_points_9 rfl 1 rfl ?_
    refine f_callVi (As := [.int x1]) (rest := []) C0 (m_X9_pointsOf hw) cw_X9_296 kn_0 (by decide) rfl rfl ⟨(Nat.le_of_ble_eq_true rfl), (Nat.le_of_ble_eq_true rfl)⟩ rfl rfl (Nat.le_of_ble_eq_true rfl) dX9_points_10 ?_
    intro r5 d6 l7 hw
    refine f_goto (tgt := 17) C0 dX9_points_13 (by decide) ?_
    exact f_iret C0 hZ hw dX9_points_17
def b_X9_crewsAheadOf_52 (n : Nat) (Q : Int32 → DD → LL → Prop) (K11 : Int32 → Int32 → Int32 → Int32 → DD → LL → Prop) (x1 : Int32) (x2 : Int32) (x4 : Int32) (xs0 : Int32) (xs1 : Int32) (d : DD) (dl : LL) : Prop := ∀ v9 : Int32, v9 = (xs1 + xs0) → K11 x1 x2 v9 (x4 + 1) d dl
def b_X9_crewsAheadOf_51 (n : Nat) (Q : Int32 → DD → LL → Prop) (K11 : Int32 → Int32 → Int32 → Int32 → DD → LL → Prop) (x1 : Int32) (x2 : Int32) (x4 : Int32) (xs0 : Int32) (d : DD) (dl : LL) : Prop := b_X9_crewsAheadOf_52 n Q K11 x1 x2 x4 0 xs0 d dl
def b_X9_crewsAheadOf_47 (n : Nat) (Q : Int32 → DD → LL → Prop) (K11 : Int32 → Int32 → Int32 → Int32 → DD → LL → Prop) (x1 : Int32) (x2 : Int32) (x4 : Int32) (xs0 : Int32) (d : DD) (dl : LL) : Prop := b_X9_crewsAheadOf_52 n Q K11 x1 x2 x4 1 xs0 d dl
def b_X9_crewsAheadOf_11 (n : Nat) (Q : Int32 → DD → LL → Prop) : Nat → Int32 → Int32 → Int32 → Int32 → DD → LL → Prop
  | 0 => fun _ _ _ _ _ _ => False
  | k + 1 => fun x1 x2 x3 x4 d dl => ((d 0 2) ≤ x4 → Q x3 d dl) ∧ (¬ (d 0 2) ≤ x4 → F_X9_pointsOf n x4 d dl (fun r5 d6 l7 => (x2 < r5 → b_X9_crewsAheadOf_47 n Q (b_X9_crewsAheadOf_11 n Q k) x1 x2 x4 x3 d6 l7) ∧ (¬ x2 < r5 → (¬ r5 = x2 → b_X9_crewsAheadOf_51 n Q (b_X9_crewsAheadOf_11 n Q k) x1 x2 x4 x3 d6 l7) ∧ (r5 = x2 → (x1 ≤ x4 → b_X9_crewsAheadOf_51 n Q (b_X9_crewsAheadOf_11 n Q k) x1 x2 x4 x3 d6 l7) ∧ (¬ x1 ≤ x4 → b_X9_crewsAheadOf_47 n Q (b_X9_crewsAheadOf_11 n Q k) x1 x2 x4 x3 d6 l7)))))
def F_X9_crewsAheadOf (n : Nat) (x1 : Int32) (d : DD) (dl : LL) (Q : Int32 → DD → LL → Prop) : Prop := F_X9_pointsOf n x1 d dl (fun r1 d2 l3 => b_X9_crewsAheadOf_11 n Q n x1 r1 0 0 d2 l3)
set_option maxHeartbeats 4000000 in
set_option maxRecDepth 100000 in
theorem t_X9_crewsAheadOf_52 {g : Ex} {x : Fx} {n : Nat} {Q : Int32 → DD → LL → Prop} (C0 : Cx g x cX9_crewsAheadOf 6 (some .int) RX9 3 73) (hZ : Zi g x Q) {K11 : Int32 → Int32 → Int32 → Int32 → DD → LL → Prop} (hK11 : ∀ (x1 : Int32) (x2 : Int32) (x3 : Int32) (x4 : Int32) (d : DD) (dl : LL), K11 x1 x2 x3 x4 d dl → FW g x 6 d dl 11 [(0, rf g 0), (1, .int x1), (2, .int x2), (3, .int x3), (4, .int x4)] []) : ∀ (x1 : Int32) (x2 : Int32) (x4 : Int32) (xs0 : Int32) (xs1 : Int32) (d : DD) (dl : LL), b_X9_crewsAheadOf_52 n Q K11 x1 x2 x4 xs0 xs1 d dl → FW g x 6 d dl 52 [(0, rf g 0), (1, .int x1), (2, .int x2), (4, .int x4)] [.int xs0, .int xs1] := by
  intro x1 x2 x4 xs0 xs1 d dl hw
  refine f_iadd C0 dX9_crewsAheadOf_52 ?_
  refine f_topi (fun v9 e9 => ?_)
  have hw := hw v9 e9
  refine f_istore_n (lo' := [(3, .int v9), (0, rf g 0), (1, .int x1), (2, .int x2), (4, .int x4)]) C0 dX9_crewsAheadOf_53 rfl (by decide) rfl ?_
  refine f_iinc (lo' := [(4, .int (x4 + 1)), (3, .int v9), (0, rf g 0), (1, .int x1), (2, .int x2)]) C0 dX9_crewsAheadOf_54 4 rfl rfl (by decide) rfl ?_
  refine f_goto (tgt := 11) C0 dX9_crewsAheadOf_57 (by decide) ?_
  refine f_sub [2, 3, 4, 1, 0] rfl ?_
  exact hK11 _ _ _ _ _ _ hw
set_option maxHeartbeats 4000000 in
set_option maxRecDepth 100000 in
theorem t_X9_crewsAheadOf_51 {g : Ex} {x : Fx} {n : Nat} {Q : Int32 → DD → LL → Prop} (C0 : Cx g x cX9_crewsAheadOf 6 (some .int) RX9 3 73) (hZ : Zi g x Q) {K11 : Int32 → Int32 → Int32 → Int32 → DD → LL → Prop} (hK11 : ∀ (x1 : Int32) (x2 : Int32) (x3 : Int32) (x4 : Int32) (d : DD) (dl : LL), K11 x1 x2 x3 x4 d dl → FW g x 6 d dl 11 [(0, rf g 0), (1, .int x1), (2, .int x2), (3, .int x3), (4, .int x4)] []) : ∀ (x1 : Int32) (x2 : Int32) (x4 : Int32) (xs0 : Int32) (d : DD) (dl : LL), b_X9_crewsAheadOf_51 n Q K11 x1 x2 x4 xs0 d dl → FW g x 6 d dl 51 [(0, rf g 0), (1, .int x1), (2, .int x2), (4, .int x4)] [.int xs0] := by
  intro x1 x2 x4 xs0 d dl hw
  refine f_iconst (v := 0) C0 dX9_crewsAheadOf_51 rfl ?_
  exact t_X9_crewsAheadOf_52 C0 hZ hK11 _ _ _ _ _ _ _ hw
set_option maxHeartbeats 4000000 in
set_option maxRecDepth 100000 in
theorem t_X9_crewsAheadOf_47 {g : Ex} {x : Fx} {n : Nat} {Q : Int32 → DD → LL → Prop} (C0 : Cx g x cX9_crewsAheadOf 6 (some .int) RX9 3 73) (hZ : Zi g x Q) {K11 : Int32 → Int32 → Int32 → Int32 → DD → LL → Prop} (hK11 : ∀ (x1 : Int32) (x2 : Int32) (x3 : Int32) (x4 : Int32) (d : DD) (dl : LL), K11 x1 x2 x3 x4 d dl → FW g x 6 d dl 11 [(0, rf g 0), (1, .int x1), (2, .int x2), (3, .int x3), (4, .int x4)] []) : ∀ (x1 : Int32) (x2 : Int32) (x4 : Int32) (xs0 : Int32) (d : DD) (dl : LL), b_X9_crewsAheadOf_47 n Q K11 x1 x2 x4 xs0 d dl → FW g x 6 d dl 47 [(0, rf g 0), (1, .int x1), (2, .int x2), (4, .int x4)] [.int xs0] := by
  intro x1 x2 x4 xs0 d dl hw
  refine f_iconst (v := 1) C0 dX9_crewsAheadOf_47 rfl ?_
  refine f_goto (tgt := 52) C0 dX9_crewsAheadOf_48 (by decide) ?_
  exact t_X9_crewsAheadOf_52 C0 hZ hK11 _ _ _ _ _ _ _ hw
set_option maxHeartbeats 4000000 in
set_option maxRecDepth 100000 in
theorem t_X9_crewsAheadOf_11 {g : Ex} {x : Fx} {n : Nat} {Q : Int32 → DD → LL → Prop} (C0 : Cx g x cX9_crewsAheadOf 6 (some .int) RX9 3 73) (hZ : Zi g x Q) : ∀ (j : Nat) (x1 : Int32) (x2 : Int32) (x3 : Int32) (x4 : Int32) (d : DD) (dl : LL), b_X9_crewsAheadOf_11 n Q j x1 x2 x3 x4 d dl → FW g x 6 d dl 11 [(0, rf g 0), (1, .int x1), (2, .int x2), (3, .int x3), (4, .int x4)] [] := by
  intro j
  induction j with
  | zero =>
    intro x1 x2 x3 x4 d dl hw
    exact hw.elim
  | succ j hK11 =>
    intro x1 x2 x3 x4 d dl hw
    refine f_iload C0 dX9_crewsAheadOf_11 4 rfl ?_
    refine f_aload_n C0 dX9_crewsAheadOf_13 rfl 0 rfl ⟨_, rfl⟩ ?_
    refine gf_9_2 C0 kn_0 mw_370 dX9_crewsAheadOf_14 ?_
    refine f_icmp_ge (tgt := 60) C0 dX9_crewsAheadOf_17 (by decide) (fun h4 => ?_) (fun h4 => ?_)
    · have hw := hw.1 h4
      refine f_iload_n C0 dX9_crewsAheadOf_60 rfl 3 rfl ?_
      exact f_iret C0 hZ hw dX9_crewsAheadOf_61
    · have hw := hw.2 h4
      refine f_aload_n C0 dX9_crewsAheadOf_20 rfl 0 rfl ⟨_, rfl⟩ ?_
      refine f_iload C0 dX9_crewsAheadOf_21 4 rfl ?_
      refine f_callVi (As := [.int x4]) (rest := []) C0 (m_X9_pointsOf hw) cw_X9_296 kn_0 (by decide) rfl rfl ⟨(Nat.le_of_ble_eq_true rfl), (Nat.le_of_ble_eq_true rfl)⟩ rfl rfl (Nat.le_of_ble_eq_true rfl) dX9_crewsAheadOf_23 ?_
      intro r5 d6 l7 hw
      refine f_istore (lo' := [(5, .int r5), (0, rf g 0), (1, .int x1), (2, .int x2), (3, .int x3), (4, .int x4)]) C0 dX9_crewsAheadOf_26 (by decide) rfl ?_
      refine f_iload_n C0 dX9_crewsAheadOf_28 rfl 4 rfl ?_
      refine f_iload C0 dX9_crewsAheadOf_29 0 rfl ?_
      refine f_iload_n C0 dX9_crewsAheadOf_31 rfl 3 rfl ?_
      refine f_icmp_gt (tgt := 47) C0 dX9_crewsAheadOf_32 (by decide) (fun h8 => ?_) (fun h8 => ?_)
      · have hw := hw.1 h8
        refine f_sub [1, 2, 3, 5] rfl ?_
        exact t_X9_crewsAheadOf_47 C0 hZ hK11 _ _ _ _ _ _ hw
      · have hw := hw.2 h8
        refine f_iload C0 dX9_crewsAheadOf_35 0 rfl ?_
        refine f_iload_n C0 dX9_crewsAheadOf_37 rfl 3 rfl ?_
        refine f_icmp_ne (tgt := 51) C0 dX9_crewsAheadOf_38 (by decide) (fun h10 => ?_) (fun h10 => ?_)
        · have hw := hw.1 h10
          refine f_sub [1, 2, 3, 5] rfl ?_
          exact t_X9_crewsAheadOf_51 C0 hZ hK11 _ _ _ _ _ _ hw
        · have hw := hw.2 h10
          refine f_iload C0 dX9_crewsAheadOf_41 5 rfl ?_
          refine f_iload_n C0 dX9_crewsAheadOf_43 rfl 2 rfl ?_
          refine f_icmp_ge (tgt := 51) C0 dX9_crewsAheadOf_44 (by decide) (fun h11 => ?_) (fun h11 => ?_)
          · have hw := hw.1 h11
            refine f_sub [1, 2, 3, 5] rfl ?_
            exact t_X9_crewsAheadOf_51 C0 hZ hK11 _ _ _ _ _ _ hw
          · have hw := hw.2 h11
            refine f_sub [1, 2, 3, 5] rfl ?_
            exact t_X9_crewsAheadOf_47 C0 hZ hK11 _ _ _ _ _ _ hw
set_option maxHeartbeats 4000000 in
set_option maxRecDepth 100000 in
theorem m_X9_crewsAheadOf {g : Ex} {n : Nat} {x1 : Int32} {d : DD} {dl : LL} {Q : Int32 → DD → LL → Prop} (hw : F_X9_crewsAheadOf n x1 d dl Q) : Mi g yX9_crewsAheadOf cX9_crewsAheadOf 6 (some .int) 3 73 [rf g 0, .int x1] d dl Q := by
  refine Mi.of (by decide) (Nat.le_of_ble_eq_true rfl) (fun x C0 hZ => ?_)
  have C0 : Cx g x cX9_crewsAheadOf 6 (some .int) RX9 3 73 := C0
  refine f_aload_n C0 dX9_crewsAheadOf_0 rfl 0 rfl ⟨_, rfl⟩ ?_
  refine f_iload_n C0 dX9_crewsAheadOf_1 rfl 1 rfl ?_
  refine f_callVi (As := [.int x1]) (rest := []) C0 (m_X9_pointsOf hw) cw_X9_296 kn_0 (by decide) rfl rfl ⟨(Nat.le_of_ble_eq_true rfl), (Nat.le_of_ble_eq_true rfl)⟩ rfl rfl (Nat.le_of_ble_eq_true rfl) dX9_crewsAheadOf_2 ?_
  intro r1 d2 l3 hw
  refine f_istore_n (lo' := [(2, .int r1), (0, rf g 0), (1, .int x1)]) C0 dX9_crewsAheadOf_5 rfl (by decide) rfl ?_
  refine f_iconst (v := 0) C0 dX9_crewsAheadOf_6 rfl ?_
  refine f_istore_n (lo' := [(3, .int 0), (2, .int r1), (0, rf g 0), (1, .int x1)]) C0 dX9_crewsAheadOf_7 rfl (by decide) rfl ?_
  refine f_iconst (v := 0) C0 dX9_crewsAheadOf_8 rfl ?_
  refine f_istore (lo' := [(4, .int 0), (3, .int 0), (2, .int r1), (0, rf g 0), (1, .int x1)]) C0 dX9_crewsAheadOf_9 (by decide) rfl ?_
  refine f_sub [3, 4, 2, 1, 0] rfl ?_
  exact t_X9_crewsAheadOf_11 C0 hZ n _ _ _ _ _ _ hw
def b_X9_table_2 (n : Nat) (Q : Int32 → DD → LL → Prop) : Nat → Int32 → Int32 → DD → LL → Prop
  | 0 => fun _ _ _ _ => False
  | k + 1 => fun x1 x2 d dl => ((d 0 2) ≤ x2 → Q (-1) d dl) ∧ (¬ (d 0 2) ≤ x2 → F_X9_crewsAheadOf n x2 d dl (fun r2 d3 l4 => (¬ r2 = x1 → (b_X9_table_2 n Q k) x1 (x2 + 1) d3 l4) ∧ (r2 = x1 → Q x2 d3 l4)))
def F_X9_table (n : Nat) (x1 : Int32) (d : DD) (dl : LL) (Q : Int32 → DD → LL → Prop) : Prop := b_X9_table_2 n Q n x1 0 d dl
set_option maxHeartbeats 4000000 in
set_option maxRecDepth 100000 in
theorem t_X9_table_2 {g : Ex} {x : Fx} {n : Nat} {Q : Int32 → DD → LL → Prop} (C0 : Cx g x cX9_table 3 (some .int) RX9 4 98) (hZ : Zi g x Q) : ∀ (j : Nat) (x1 : Int32) (x2 : Int32) (d : DD) (dl : LL), b_X9_table_2 n Q j x1 x2 d dl → FW g x 3 d dl 2 [(0, rf g 0), (1, .int x1), (2, .int x2)] [] := by
  intro j
  induction j with
  | zero =>
    intro x1 x2 d dl hw
    exact hw.elim
  | succ j hK2 =>
    intro x1 x2 d dl hw
    refine f_iload_n C0 dX9_table_2 rfl 2 rfl ?_
    refine f_aload_n C0 dX9_table_3 rfl 0 rfl ⟨_, rfl⟩ ?_
    refine gf_9_2 C0 kn_0 mw_370 dX9_table_4 ?_
    refine f_icmp_ge (tgt := 27) C0 dX9_table_7 (by decide) (fun h1 => ?_) (fun h1 => ?_)
    · have hw := hw.1 h1
      refine f_iconst (v := (-1)) C0 dX9_table_27 rfl ?_
      exact f_iret C0 hZ hw dX9_table_28
    · have hw := hw.2 h1
      refine f_aload_n C0 dX9_table_10 rfl 0 rfl ⟨_, rfl⟩ ?_
      refine f_iload_n C0 dX9_table_11 rfl 2 rfl ?_
      refine f_callVi (As := [.int x2]) (rest := []) C0 (m_X9_crewsAheadOf hw) cw_X9_299 kn_0 (by decide) rfl rfl ⟨(Nat.le_of_ble_eq_true rfl), (Nat.le_of_ble_eq_true rfl)⟩ rfl rfl (Nat.le_of_ble_eq_true rfl) dX9_table_12 ?_
      intro r2 d3 l4 hw
      refine f_iload_n C0 dX9_table_15 rfl 1 rfl ?_
      refine f_icmp_ne (tgt := 21) C0 dX9_table_16 (by decide) (fun h5 => ?_) (fun h5 => ?_)
      · have hw := hw.1 h5
        refine f_iinc (lo' := [(2, .int (x2 + 1)), (0, rf g 0), (1, .int x1)]) C0 dX9_table_21 2 rfl rfl (by decide) rfl ?_
        refine f_goto (tgt := 2) C0 dX9_table_24 (by decide) ?_
        refine f_sub [1, 2, 0] rfl ?_
        exact hK2 _ _ _ _ hw
      · have hw := hw.2 h5
        refine f_iload_n C0 dX9_table_19 rfl 2 rfl ?_
        exact f_iret C0 hZ hw dX9_table_20
set_option maxHeartbeats 4000000 in
set_option maxRecDepth 100000 in
theorem m_X9_table {g : Ex} {n : Nat} {x1 : Int32} {d : DD} {dl : LL} {Q : Int32 → DD → LL → Prop} (hw : F_X9_table n x1 d dl Q) : Mi g yX9_table cX9_table 3 (some .int) 4 98 [rf g 0, .int x1] d dl Q := by
  refine Mi.of (by decide) (Nat.le_of_ble_eq_true rfl) (fun x C0 hZ => ?_)
  have C0 : Cx g x cX9_table 3 (some .int) RX9 4 98 := C0
  refine f_iconst (v := 0) C0 dX9_table_0 rfl ?_
  refine f_istore_n (lo' := [(2, .int 0), (0, rf g 0), (1, .int x1)]) C0 dX9_table_1 rfl (by decide) rfl ?_
  refine f_sub [1, 2, 0] rfl ?_
  exact t_X9_table_2 C0 hZ n _ _ _ _ hw
def b_X9_howManyAreSeated_30 (n : Nat) (Q : Int32 → DD → LL → Prop) (K4 : Int32 → Int32 → DD → LL → Prop) (x2 : Int32) (xs0 : Int32) (xs1 : Int32) (d : DD) (dl : LL) : Prop := ∀ v5 : Int32, v5 = (xs1 + xs0) → K4 v5 (x2 + 1) d dl
def b_X9_howManyAreSeated_4 (n : Nat) (Q : Int32 → DD → LL → Prop) : Nat → Int32 → Int32 → DD → LL → Prop
  | 0 => fun _ _ _ _ => False
  | k + 1 => fun x1 x2 d dl => ((d 0 2) ≤ x2 → Q x1 d dl) ∧ (¬ (d 0 2) ≤ x2 → vp_in x2 6 ∧ ∀ k3 : Nat, k3 = x2.toNatClampNeg → ((d (37 + 3 * k3) 6) = 0 → b_X9_howManyAreSeated_30 n Q (b_X9_howManyAreSeated_4 n Q k) x2 0 x1 d dl) ∧ (¬ (d (37 + 3 * k3) 6) = 0 → b_X9_howManyAreSeated_30 n Q (b_X9_howManyAreSeated_4 n Q k) x2 1 x1 d dl))
def F_X9_howManyAreSeated (n : Nat) (d : DD) (dl : LL) (Q : Int32 → DD → LL → Prop) : Prop := b_X9_howManyAreSeated_4 n Q n 0 0 d dl
set_option maxHeartbeats 4000000 in
set_option maxRecDepth 100000 in
theorem t_X9_howManyAreSeated_30 {g : Ex} {x : Fx} {n : Nat} {Q : Int32 → DD → LL → Prop} (C0 : Cx g x cX9_howManyAreSeated 3 (some .int) RX9 0 0) (hZ : Zi g x Q) {K4 : Int32 → Int32 → DD → LL → Prop} (hK4 : ∀ (x1 : Int32) (x2 : Int32) (d : DD) (dl : LL), K4 x1 x2 d dl → FW g x 3 d dl 4 [(0, rf g 0), (1, .int x1), (2, .int x2)] []) : ∀ (x2 : Int32) (xs0 : Int32) (xs1 : Int32) (d : DD) (dl : LL), b_X9_howManyAreSeated_30 n Q K4 x2 xs0 xs1 d dl → FW g x 3 d dl 30 [(0, rf g 0), (2, .int x2)] [.int xs0, .int xs1] := by
  intro x2 xs0 xs1 d dl hw
  refine f_iadd C0 dX9_howManyAreSeated_30 ?_
  refine f_topi (fun v5 e5 => ?_)
  have hw := hw v5 e5
  refine f_istore_n (lo' := [(1, .int v5), (0, rf g 0), (2, .int x2)]) C0 dX9_howManyAreSeated_31 rfl (by decide) rfl ?_
  refine f_iinc (lo' := [(2, .int (x2 + 1)), (1, .int v5), (0, rf g 0)]) C0 dX9_howManyAreSeated_32 2 rfl rfl (by decide) rfl ?_
  refine f_goto (tgt := 4) C0 dX9_howManyAreSeated_35 (by decide) ?_
  refine f_sub [2, 1, 0] rfl ?_
  exact hK4 _ _ _ _ hw
set_option maxHeartbeats 4000000 in
set_option maxRecDepth 100000 in
theorem t_X9_howManyAreSeated_4 {g : Ex} {x : Fx} {n : Nat} {Q : Int32 → DD → LL → Prop} (C0 : Cx g x cX9_howManyAreSeated 3 (some .int) RX9 0 0) (hZ : Zi g x Q) : ∀ (j : Nat) (x1 : Int32) (x2 : Int32) (d : DD) (dl : LL), b_X9_howManyAreSeated_4 n Q j x1 x2 d dl → FW g x 3 d dl 4 [(0, rf g 0), (1, .int x1), (2, .int x2)] [] := by
  intro j
  induction j with
  | zero =>
    intro x1 x2 d dl hw
    exact hw.elim
  | succ j hK4 =>
    intro x1 x2 d dl hw
    refine f_iload_n C0 dX9_howManyAreSeated_4 rfl 2 rfl ?_
    refine f_aload_n C0 dX9_howManyAreSeated_5 rfl 0 rfl ⟨_, rfl⟩ ?_
    refine gf_9_2 C0 kn_0 mw_370 dX9_howManyAreSeated_6 ?_
    refine f_icmp_ge (tgt := 38) C0 dX9_howManyAreSeated_9 (by decide) (fun h1 => ?_) (fun h1 => ?_)
    · have hw := hw.1 h1
      refine f_iload_n C0 dX9_howManyAreSeated_38 rfl 1 rfl ?_
      exact f_iret C0 hZ hw dX9_howManyAreSeated_39
    · have hw := hw.2 h1
      refine f_iload_n C0 dX9_howManyAreSeated_12 rfl 1 rfl ?_
      refine f_aload_n C0 dX9_howManyAreSeated_13 rfl 0 rfl ⟨_, rfl⟩ ?_
      refine gf_9_1 (r := 8) C0 rfl kn_0 mw_369 dX9_howManyAreSeated_14 ?_
      refine f_iload_n C0 dX9_howManyAreSeated_17 rfl 2 rfl ?_
      obtain ⟨h2, hw⟩ := hw
      refine f_aald14 C0 kn_8 h2 dX9_howManyAreSeated_18 (fun k3 ek3 hk3 => ?_)
      have hw := hw k3 ek3
      refine gf_1_6 C0 (kn_crew_0 hk3) mw_279 dX9_howManyAreSeated_19 ?_
      refine f_if_eq (tgt := 29) C0 dX9_howManyAreSeated_22 (by decide) (fun h4 => ?_) (fun h4 => ?_)
      · have hw := hw.1 h4
        refine f_iconst (v := 0) C0 dX9_howManyAreSeated_29 rfl ?_
        refine f_sub [0, 2] rfl ?_
        exact t_X9_howManyAreSeated_30 C0 hZ hK4 _ _ _ _ _ hw
      · have hw := hw.2 h4
        refine f_iconst (v := 1) C0 dX9_howManyAreSeated_25 rfl ?_
        refine f_goto (tgt := 30) C0 dX9_howManyAreSeated_26 (by decide) ?_
        refine f_sub [0, 2] rfl ?_
        exact t_X9_howManyAreSeated_30 C0 hZ hK4 _ _ _ _ _ hw
set_option maxHeartbeats 4000000 in
set_option maxRecDepth 100000 in
theorem m_X9_howManyAreSeated {g : Ex} {n : Nat} {d : DD} {dl : LL} {Q : Int32 → DD → LL → Prop} (hw : F_X9_howManyAreSeated n d dl Q) : Mi g yX9_howManyAreSeated cX9_howManyAreSeated 3 (some .int) 0 0 [rf g 0] d dl Q := by
  refine Mi.of (by decide) (Nat.le_of_ble_eq_true rfl) (fun x C0 hZ => ?_)
  have C0 : Cx g x cX9_howManyAreSeated 3 (some .int) RX9 0 0 := C0
  refine f_iconst (v := 0) C0 dX9_howManyAreSeated_0 rfl ?_
  refine f_istore_n (lo' := [(1, .int 0), (0, rf g 0)]) C0 dX9_howManyAreSeated_1 rfl (by decide) rfl ?_
  refine f_iconst (v := 0) C0 dX9_howManyAreSeated_2 rfl ?_
  refine f_istore_n (lo' := [(2, .int 0), (1, .int 0), (0, rf g 0)]) C0 dX9_howManyAreSeated_3 rfl (by decide) rfl ?_
  refine f_sub [2, 1, 0] rfl ?_
  exact t_X9_howManyAreSeated_4 C0 hZ n _ _ _ _ hw
def b_X9_howManyTimes_4 (n : Nat) (Q : Int32 → DD → LL → Prop) : Nat → Int32 → Int32 → DD → LL → Prop
  | 0 => fun _ _ _ _ => False
  | k + 1 => fun x1 x2 d dl => ((d 0 13) ≤ x2 → Q x1 d dl) ∧ (¬ (d 0 13) ≤ x2 → vp_in x2 24 ∧ ∀ k3 : Nat, k3 = x2.toNatClampNeg → F_X3_timeCount n k3 d dl (fun r4 d5 l6 => ∀ v7 : Int32, v7 = (x1 + r4) → (b_X9_howManyTimes_4 n Q k) v7 (x2 + 1) d5 l6))
def F_X9_howManyTimes (n : Nat) (d : DD) (dl : LL) (Q : Int32 → DD → LL → Prop) : Prop := b_X9_howManyTimes_4 n Q n 0 0 d dl
set_option maxHeartbeats 4000000 in
set_option maxRecDepth 100000 in
theorem t_X9_howManyTimes_4 {g : Ex} {x : Fx} {n : Nat} {Q : Int32 → DD → LL → Prop} (C0 : Cx g x cX9_howManyTimes 3 (some .int) RX9 1 22) (hZ : Zi g x Q) : ∀ (j : Nat) (x1 : Int32) (x2 : Int32) (d : DD) (dl : LL), b_X9_howManyTimes_4 n Q j x1 x2 d dl → FW g x 3 d dl 4 [(0, rf g 0), (1, .int x1), (2, .int x2)] [] := by
  intro j
  induction j with
  | zero =>
    intro x1 x2 d dl hw
    exact hw.elim
  | succ j hK4 =>
    intro x1 x2 d dl hw
    refine f_iload_n C0 dX9_howManyTimes_4 rfl 2 rfl ?_
    refine f_aload_n C0 dX9_howManyTimes_5 rfl 0 rfl ⟨_, rfl⟩ ?_
    refine gf_9_13 C0 kn_0 mw_381 dX9_howManyTimes_6 ?_
    refine f_icmp_ge (tgt := 30) C0 dX9_howManyTimes_9 (by decide) (fun h1 => ?_) (fun h1 => ?_)
    · have hw := hw.1 h1
      refine f_iload_n C0 dX9_howManyTimes_30 rfl 1 rfl ?_
      exact f_iret C0 hZ hw dX9_howManyTimes_31
    · have hw := hw.2 h1
      refine f_iload_n C0 dX9_howManyTimes_12 rfl 1 rfl ?_
      refine f_aload_n C0 dX9_howManyTimes_13 rfl 0 rfl ⟨_, rfl⟩ ?_
      refine gf_9_12 (r := 30) C0 rfl kn_0 mw_380 dX9_howManyTimes_14 ?_
      refine f_iload_n C0 dX9_howManyTimes_17 rfl 2 rfl ?_
      obtain ⟨h2, hw⟩ := hw
      refine f_aald16 C0 kn_30 h2 dX9_howManyTimes_18 (fun k3 ek3 hk3 => ?_)
      have hw := hw k3 ek3
      refine f_callVi (As := []) (rest := [.int x1]) C0 (m_X3_timeCount hk3 hw) cw_X9_245 (kn_race_0 hk3) (by decide) rfl rfl ⟨(Nat.le_of_ble_eq_true rfl), (Nat.le_of_ble_eq_true rfl)⟩ rfl rfl (Nat.le_of_ble_eq_true rfl) dX9_howManyTimes_19 ?_
      intro r4 d5 l6 hw
      refine f_iadd C0 dX9_howManyTimes_22 ?_
      refine f_topi (fun v7 e7 => ?_)
      have hw := hw v7 e7
      refine f_istore_n (lo' := [(1, .int v7), (0, rf g 0), (2, .int x2)]) C0 dX9_howManyTimes_23 rfl (by decide) rfl ?_
      refine f_iinc (lo' := [(2, .int (x2 + 1)), (1, .int v7), (0, rf g 0)]) C0 dX9_howManyTimes_24 2 rfl rfl (by decide) rfl ?_
      refine f_goto (tgt := 4) C0 dX9_howManyTimes_27 (by decide) ?_
      refine f_sub [2, 1, 0] rfl ?_
      exact hK4 _ _ _ _ hw
set_option maxHeartbeats 4000000 in
set_option maxRecDepth 100000 in
theorem m_X9_howManyTimes {g : Ex} {n : Nat} {d : DD} {dl : LL} {Q : Int32 → DD → LL → Prop} (hw : F_X9_howManyTimes n d dl Q) : Mi g yX9_howManyTimes cX9_howManyTimes 3 (some .int) 1 22 [rf g 0] d dl Q := by
  refine Mi.of (by decide) (Nat.le_of_ble_eq_true rfl) (fun x C0 hZ => ?_)
  have C0 : Cx g x cX9_howManyTimes 3 (some .int) RX9 1 22 := C0
  refine f_iconst (v := 0) C0 dX9_howManyTimes_0 rfl ?_
  refine f_istore_n (lo' := [(1, .int 0), (0, rf g 0)]) C0 dX9_howManyTimes_1 rfl (by decide) rfl ?_
  refine f_iconst (v := 0) C0 dX9_howManyTimes_2 rfl ?_
  refine f_istore_n (lo' := [(2, .int 0), (1, .int 0), (0, rf g 0)]) C0 dX9_howManyTimes_3 rfl (by decide) rfl ?_
  refine f_sub [2, 1, 0] rfl ?_
  exact t_X9_howManyTimes_4 C0 hZ n _ _ _ _ hw
def F_X9_count (n : Nat) (x1 : Int32) (d : DD) (dl : LL) (Q : Int32 → DD → LL → Prop) : Prop := (x1 = 0 → Q (d 1 0) d dl) ∧ (x1 = 1 → Q (d 0 2) d dl) ∧ (x1 = 2 → Q (d 0 7) d dl) ∧ (x1 = 3 → Q (d 0 13) d dl) ∧ (x1 = 4 → F_X9_howManyWait n d dl (fun r1 d2 l3 => Q r1 d2 l3)) ∧ (x1 = 5 → Q (d 24 0) d dl) ∧ (x1 = 6 → Q (d 0 9) d dl) ∧ (x1 = 7 → F_X9_howManyAreSeated n d dl (fun r4 d5 l6 => Q r4 d5 l6)) ∧ (x1 = 8 → F_X9_howManyTimes n d dl (fun r7 d8 l9 => Q r7 d8 l9)) ∧ (x1.toInt < 0 ∨ 8 < x1.toInt → Q (-1) d dl)
set_option maxHeartbeats 4000000 in
set_option maxRecDepth 100000 in
theorem m_X9_count {g : Ex} {n : Nat} {x1 : Int32} {d : DD} {dl : LL} {Q : Int32 → DD → LL → Prop} (hw : F_X9_count n x1 d dl Q) : Mi g yX9_count cX9_count 2 (some .int) 2 44 [rf g 0, .int x1] d dl Q := by
  refine Mi.of (by decide) (Nat.le_of_ble_eq_true rfl) (fun x C0 hZ => ?_)
  have C0 : Cx g x cX9_count 2 (some .int) RX9 2 44 := C0
  refine f_iload_n C0 dX9_count_0 rfl 1 rfl ?_
  rcases sw_8 x1 with h10 | h10 | h10 | h10 | h10 | h10 | h10 | h10 | h10 | h10
  · have hw := hw.2.2.2.2.2.2.2.2.2 h10
    refine f_tableOut (tgt := 103) C0 dX9_count_1 h10 (by decide) ?_
    refine f_iconst (v := (-1)) C0 dX9_count_103 rfl ?_
    exact f_iret C0 hZ hw dX9_count_104
  · have hw := hw.1 h10
    refine f_tableAt (w := 0) (tgt := 52) C0 dX9_count_1 h10 (by decide) (by decide) rfl (by decide) ?_
    refine f_aload_n C0 dX9_count_52 rfl 0 rfl ⟨_, rfl⟩ ?_
    refine gf_9_0 (r := 1) C0 rfl kn_0 mw_368 dX9_count_53 ?_
    refine gf_4_0 C0 kn_1 mw_79 dX9_count_56 ?_
    exact f_iret C0 hZ hw dX9_count_59
  · have hw := hw.2.1 h10
    refine f_tableAt (w := 1) (tgt := 60) C0 dX9_count_1 h10 (by decide) (by decide) rfl (by decide) ?_
    refine f_aload_n C0 dX9_count_60 rfl 0 rfl ⟨_, rfl⟩ ?_
    refine gf_9_2 C0 kn_0 mw_370 dX9_count_61 ?_
    exact f_iret C0 hZ hw dX9_count_64
  · have hw := hw.2.2.1 h10
    refine f_tableAt (w := 2) (tgt := 65) C0 dX9_count_1 h10 (by decide) (by decide) rfl (by decide) ?_
    refine f_aload_n C0 dX9_count_65 rfl 0 rfl ⟨_, rfl⟩ ?_
    refine gf_9_7 C0 kn_0 mw_375 dX9_count_66 ?_
    exact f_iret C0 hZ hw dX9_count_69
  · have hw := hw.2.2.2.1 h10
    refine f_tableAt (w := 3) (tgt := 70) C0 dX9_count_1 h10 (by decide) (by decide) rfl (by decide) ?_
    refine f_aload_n C0 dX9_count_70 rfl 0 rfl ⟨_, rfl⟩ ?_
    refine gf_9_13 C0 kn_0 mw_381 dX9_count_71 ?_
    exact f_iret C0 hZ hw dX9_count_74
  · have hw := hw.2.2.2.2.1 h10
    refine f_tableAt (w := 4) (tgt := 75) C0 dX9_count_1 h10 (by decide) (by decide) rfl (by decide) ?_
    refine f_aload_n C0 dX9_count_75 rfl 0 rfl ⟨_, rfl⟩ ?_
    refine f_callVi (As := []) (rest := []) C0 (m_X9_howManyWait hw) cw_X9_218 kn_0 (by decide) rfl rfl ⟨(Nat.le_of_ble_eq_true rfl), (Nat.le_of_ble_eq_true rfl)⟩ rfl rfl (Nat.le_of_ble_eq_true rfl) dX9_count_76 ?_
    intro r1 d2 l3 hw
    exact f_iret C0 hZ hw dX9_count_79
  · have hw := hw.2.2.2.2.2.1 h10
    refine f_tableAt (w := 5) (tgt := 80) C0 dX9_count_1 h10 (by decide) (by decide) rfl (by decide) ?_
    refine f_aload_n C0 dX9_count_80 rfl 0 rfl ⟨_, rfl⟩ ?_
    refine gf_9_5 (r := 24) C0 rfl kn_0 mw_373 dX9_count_81 ?_
    refine gf_7_0 C0 kn_24 mw_203 dX9_count_84 ?_
    exact f_iret C0 hZ hw dX9_count_87
  · have hw := hw.2.2.2.2.2.2.1 h10
    refine f_tableAt (w := 6) (tgt := 88) C0 dX9_count_1 h10 (by decide) (by decide) rfl (by decide) ?_
    refine f_aload_n C0 dX9_count_88 rfl 0 rfl ⟨_, rfl⟩ ?_
    refine gf_9_9 C0 kn_0 mw_377 dX9_count_89 ?_
    exact f_iret C0 hZ hw dX9_count_92
  · have hw := hw.2.2.2.2.2.2.2.1 h10
    refine f_tableAt (w := 7) (tgt := 93) C0 dX9_count_1 h10 (by decide) (by decide) rfl (by decide) ?_
    refine f_aload_n C0 dX9_count_93 rfl 0 rfl ⟨_, rfl⟩ ?_
    refine f_callVi (As := []) (rest := []) C0 (m_X9_howManyAreSeated hw) cw_X9_302 kn_0 (by decide) rfl rfl ⟨(Nat.le_of_ble_eq_true rfl), (Nat.le_of_ble_eq_true rfl)⟩ rfl rfl (Nat.le_of_ble_eq_true rfl) dX9_count_94 ?_
    intro r4 d5 l6 hw
    exact f_iret C0 hZ hw dX9_count_97
  · have hw := hw.2.2.2.2.2.2.2.2.1 h10
    refine f_tableAt (w := 8) (tgt := 98) C0 dX9_count_1 h10 (by decide) (by decide) rfl (by decide) ?_
    refine f_aload_n C0 dX9_count_98 rfl 0 rfl ⟨_, rfl⟩ ?_
    refine f_callVi (As := []) (rest := []) C0 (m_X9_howManyTimes hw) cw_X9_305 kn_0 (by decide) rfl rfl ⟨(Nat.le_of_ble_eq_true rfl), (Nat.le_of_ble_eq_true rfl)⟩ rfl rfl (Nat.le_of_ble_eq_true rfl) dX9_count_99 ?_
    intro r7 d8 l9 hw
    exact f_iret C0 hZ hw dX9_count_102
def F_X10_isPaddler (n : Nat) (x1 : Int32) (d : DD) (dl : LL) (Q : Int32 → DD → LL → Prop) : Prop := (x1 < 0 → Q 0 d dl) ∧ (¬ x1 < 0 → ((d 211 0) ≤ x1 → Q 0 d dl) ∧ (¬ (d 211 0) ≤ x1 → Q 1 d dl))
set_option maxHeartbeats 4000000 in
set_option maxRecDepth 100000 in
theorem m_X10_isPaddler {g : Ex} {n : Nat} {x1 : Int32} {d : DD} {dl : LL} {Q : Int32 → DD → LL → Prop} (hw : F_X10_isPaddler n x1 d dl Q) : Mi g yX10_isPaddler cX10_isPaddler 2 (some .boolean) 0 0 [rf g 211, .int x1] d dl Q := by
  refine Mi.of (by decide) (Nat.le_of_ble_eq_true rfl) (fun x C0 hZ => ?_)
  have C0 : Cx g x cX10_isPaddler 2 (some .boolean) RX10 0 0 := C0
  refine f_iload_n C0 dX10_isPaddler_0 rfl 1 rfl ?_
  refine f_if_lt (tgt := 16) C0 dX10_isPaddler_1 (by decide) (fun h1 => ?_) (fun h1 => ?_)
  · have hw := hw.1 h1
    refine f_iconst (v := 0) C0 dX10_isPaddler_16 rfl ?_
    exact f_zret C0 hZ (by decide) hw dX10_isPaddler_17
  · have hw := hw.2 h1
    refine f_iload_n C0 dX10_isPaddler_4 rfl 1 rfl ?_
    refine f_aload_n C0 dX10_isPaddler_5 rfl 0 rfl ⟨_, rfl⟩ ?_
    refine gf_10_0 C0 kn_211 mw_886 dX10_isPaddler_6 ?_
    refine f_icmp_ge (tgt := 16) C0 dX10_isPaddler_9 (by decide) (fun h2 => ?_) (fun h2 => ?_)
    · have hw := hw.1 h2
      refine f_iconst (v := 0) C0 dX10_isPaddler_16 rfl ?_
      exact f_zret C0 hZ (by decide) hw dX10_isPaddler_17
    · have hw := hw.2 h2
      refine f_iconst (v := 1) C0 dX10_isPaddler_12 rfl ?_
      refine f_goto (tgt := 17) C0 dX10_isPaddler_13 (by decide) ?_
      exact f_zret C0 hZ (by decide) hw dX10_isPaddler_17
def F_X10_isCrew (n : Nat) (x1 : Int32) (d : DD) (dl : LL) (Q : Int32 → DD → LL → Prop) : Prop := (x1 < 0 → Q 0 d dl) ∧ (¬ x1 < 0 → ((d 211 1) ≤ x1 → Q 0 d dl) ∧ (¬ (d 211 1) ≤ x1 → Q 1 d dl))
set_option maxHeartbeats 4000000 in
set_option maxRecDepth 100000 in
theorem m_X10_isCrew {g : Ex} {n : Nat} {x1 : Int32} {d : DD} {dl : LL} {Q : Int32 → DD → LL → Prop} (hw : F_X10_isCrew n x1 d dl Q) : Mi g yX10_isCrew cX10_isCrew 2 (some .boolean) 0 0 [rf g 211, .int x1] d dl Q := by
  refine Mi.of (by decide) (Nat.le_of_ble_eq_true rfl) (fun x C0 hZ => ?_)
  have C0 : Cx g x cX10_isCrew 2 (some .boolean) RX10 0 0 := C0
  refine f_iload_n C0 dX10_isCrew_0 rfl 1 rfl ?_
  refine f_if_lt (tgt := 16) C0 dX10_isCrew_1 (by decide) (fun h1 => ?_) (fun h1 => ?_)
  · have hw := hw.1 h1
    refine f_iconst (v := 0) C0 dX10_isCrew_16 rfl ?_
    exact f_zret C0 hZ (by decide) hw dX10_isCrew_17
  · have hw := hw.2 h1
    refine f_iload_n C0 dX10_isCrew_4 rfl 1 rfl ?_
    refine f_aload_n C0 dX10_isCrew_5 rfl 0 rfl ⟨_, rfl⟩ ?_
    refine gf_10_1 C0 kn_211 mw_887 dX10_isCrew_6 ?_
    refine f_icmp_ge (tgt := 16) C0 dX10_isCrew_9 (by decide) (fun h2 => ?_) (fun h2 => ?_)
    · have hw := hw.1 h2
      refine f_iconst (v := 0) C0 dX10_isCrew_16 rfl ?_
      exact f_zret C0 hZ (by decide) hw dX10_isCrew_17
    · have hw := hw.2 h2
      refine f_iconst (v := 1) C0 dX10_isCrew_12 rfl ?_
      refine f_goto (tgt := 17) C0 dX10_isCrew_13 (by decide) ?_
      exact f_zret C0 hZ (by decide) hw dX10_isCrew_17
def F_X10_size (n : Nat) (x0 : Int32) (d : DD) (dl : LL) (Q : Int32 → DD → LL → Prop) : Prop := (0 ≤ x0 → Q x0 d dl) ∧ (¬ 0 ≤ x0 → Q (-x0) d dl)
set_option maxHeartbeats 4000000 in
set_option maxRecDepth 100000 in
theorem m_X10_size {g : Ex} {n : Nat} {x0 : Int32} {d : DD} {dl : LL} {Q : Int32 → DD → LL → Prop} (hw : F_X10_size n x0 d dl Q) : Mi g yX10_size cX10_size 1 (some .int) 0 0 [.int x0] d dl Q := by
  refine Mi.of (by decide) (Nat.le_of_ble_eq_true rfl) (fun x C0 hZ => ?_)
  have C0 : Cx g x cX10_size 1 (some .int) RX10 0 0 := C0
  refine f_iload_n C0 dX10_size_0 rfl 0 rfl ?_
  refine f_if_ge (tgt := 9) C0 dX10_size_1 (by decide) (fun h1 => ?_) (fun h1 => ?_)
  · have hw := hw.1 h1
    refine f_iload_n C0 dX10_size_9 rfl 0 rfl ?_
    exact f_iret C0 hZ hw dX10_size_10
  · have hw := hw.2 h1
    refine f_iload_n C0 dX10_size_4 rfl 0 rfl ?_
    refine f_ineg C0 dX10_size_5 ?_
    refine f_goto (tgt := 10) C0 dX10_size_6 (by decide) ?_
    exact f_iret C0 hZ hw dX10_size_10
def F_X10_paddler (n : Nat) (x1 : Int32) (x2 : Int32) (x3 : Int32) (x4 : Int32) (x5 : Int32) (d : DD) (dl : LL) (Q : Int32 → DD → LL → Prop) : Prop := (x1 < 30 → Q (-2) d dl) ∧ (¬ x1 < 30 → (150 < x1 → Q (-2) d dl) ∧ (¬ 150 < x1 → (x2 < 1 → Q (-2) d dl) ∧ (¬ x2 < 1 → (99 < x2 → Q (-2) d dl) ∧ (¬ 99 < x2 → (x3 < 0 → Q (-2) d dl) ∧ (¬ x3 < 0 → (2 < x3 → Q (-2) d dl) ∧ (¬ 2 < x3 → (x4 < 0 → Q (-2) d dl) ∧ (¬ x4 < 0 → (1 < x4 → Q (-2) d dl) ∧ (¬ 1 < x4 → (x5 < 10 → Q (-2) d dl) ∧ (¬ x5 < 10 → (x5 ≤ 90 → (¬ (d 211 0) = 40 → vp_in (d 211 0) 40 ∧ ∀ d13 : DD, d13 = u2 d 212 (d 211 0).toNatClampNeg x1 → vp_in (d13 211 0) 40 ∧ ∀ d15 : DD, d15 = u2 d13 213 (d13 211 0).toNatClampNeg x2 → vp_in (d15 211 0) 40 ∧ ∀ d17 : DD, d17 = u2 d15 214 (d15 211 0).toNatClampNeg x3 → vp_in (d17 211 0) 40 ∧ ∀ d19 : DD, d19 = u2 d17 215 (d17 211 0).toNatClampNeg x4 → vp_in (d19 211 0) 40 ∧ ∀ d21 : DD, d21 = u2 d19 216 (d19 211 0).toNatClampNeg x5 → ∀ d22 : DD, d22 = u2 d21 211 0 ((d21 211 0) + 1) → Q (d21 211 0) d22 dl) ∧ ((d 211 0) = 40 → Q (-4) d dl)) ∧ (¬ x5 ≤ 90 → Q (-2) d dl))))))))))
set_option maxHeartbeats 4000000 in
set_option maxRecDepth 100000 in
theorem m_X10_paddler {g : Ex} {n : Nat} {x1 : Int32} {x2 : Int32} {x3 : Int32} {x4 : Int32} {x5 : Int32} {d : DD} {dl : LL} {Q : Int32 → DD → LL → Prop} (hw : F_X10_paddler n x1 x2 x3 x4 x5 d dl Q) : Mi g yX10_paddler cX10_paddler 6 (some .int) 0 0 [rf g 211, .int x1, .int x2, .int x3, .int x4, .int x5] d dl Q := by
  refine Mi.of (by decide) (Nat.le_of_ble_eq_true rfl) (fun x C0 hZ => ?_)
  have C0 : Cx g x cX10_paddler 6 (some .int) RX10 0 0 := C0
  refine f_iload_n C0 dX10_paddler_0 rfl 1 rfl ?_
  refine f_bipush (v := 30) C0 dX10_paddler_1 rfl ?_
  refine f_icmp_lt (tgt := 58) C0 dX10_paddler_3 (by decide) (fun h1 => ?_) (fun h1 => ?_)
  · have hw := hw.1 h1
    refine f_bipush (v := (-2)) C0 dX10_paddler_58 rfl ?_
    exact f_iret C0 hZ hw dX10_paddler_60
  · have hw := hw.2 h1
    refine f_iload_n C0 dX10_paddler_6 rfl 1 rfl ?_
    refine f_sipush (v := 150) C0 dX10_paddler_7 rfl ?_
    refine f_icmp_gt (tgt := 58) C0 dX10_paddler_10 (by decide) (fun h2 => ?_) (fun h2 => ?_)
    · have hw := hw.1 h2
      refine f_bipush (v := (-2)) C0 dX10_paddler_58 rfl ?_
      exact f_iret C0 hZ hw dX10_paddler_60
    · have hw := hw.2 h2
      refine f_iload_n C0 dX10_paddler_13 rfl 2 rfl ?_
      refine f_iconst (v := 1) C0 dX10_paddler_14 rfl ?_
      refine f_icmp_lt (tgt := 58) C0 dX10_paddler_15 (by decide) (fun h3 => ?_) (fun h3 => ?_)
      · have hw := hw.1 h3
        refine f_bipush (v := (-2)) C0 dX10_paddler_58 rfl ?_
        exact f_iret C0 hZ hw dX10_paddler_60
      · have hw := hw.2 h3
        refine f_iload_n C0 dX10_paddler_18 rfl 2 rfl ?_
        refine f_bipush (v := 99) C0 dX10_paddler_19 rfl ?_
        refine f_icmp_gt (tgt := 58) C0 dX10_paddler_21 (by decide) (fun h4 => ?_) (fun h4 => ?_)
        · have hw := hw.1 h4
          refine f_bipush (v := (-2)) C0 dX10_paddler_58 rfl ?_
          exact f_iret C0 hZ hw dX10_paddler_60
        · have hw := hw.2 h4
          refine f_iload_n C0 dX10_paddler_24 rfl 3 rfl ?_
          refine f_if_lt (tgt := 58) C0 dX10_paddler_25 (by decide) (fun h5 => ?_) (fun h5 => ?_)
          · have hw := hw.1 h5
            refine f_bipush (v := (-2)) C0 dX10_paddler_58 rfl ?_
            exact f_iret C0 hZ hw dX10_paddler_60
          · have hw := hw.2 h5
            refine f_iload_n C0 dX10_paddler_28 rfl 3 rfl ?_
            refine f_iconst (v := 2) C0 dX10_paddler_29 rfl ?_
            refine f_icmp_gt (tgt := 58) C0 dX10_paddler_30 (by decide) (fun h6 => ?_) (fun h6 => ?_)
            · have hw := hw.1 h6
              refine f_bipush (v := (-2)) C0 dX10_paddler_58 rfl ?_
              exact f_iret C0 hZ hw dX10_paddler_60
            · have hw := hw.2 h6
              refine f_iload C0 dX10_paddler_33 4 rfl ?_
              refine f_if_lt (tgt := 58) C0 dX10_paddler_35 (by decide) (fun h7 => ?_) (fun h7 => ?_)
              · have hw := hw.1 h7
                refine f_bipush (v := (-2)) C0 dX10_paddler_58 rfl ?_
                exact f_iret C0 hZ hw dX10_paddler_60
              · have hw := hw.2 h7
                refine f_iload C0 dX10_paddler_38 4 rfl ?_
                refine f_iconst (v := 1) C0 dX10_paddler_40 rfl ?_
                refine f_icmp_gt (tgt := 58) C0 dX10_paddler_41 (by decide) (fun h8 => ?_) (fun h8 => ?_)
                · have hw := hw.1 h8
                  refine f_bipush (v := (-2)) C0 dX10_paddler_58 rfl ?_
                  exact f_iret C0 hZ hw dX10_paddler_60
                · have hw := hw.2 h8
                  refine f_iload C0 dX10_paddler_44 5 rfl ?_
                  refine f_bipush (v := 10) C0 dX10_paddler_46 rfl ?_
                  refine f_icmp_lt (tgt := 58) C0 dX10_paddler_48 (by decide) (fun h9 => ?_) (fun h9 => ?_)
                  · have hw := hw.1 h9
                    refine f_bipush (v := (-2)) C0 dX10_paddler_58 rfl ?_
                    exact f_iret C0 hZ hw dX10_paddler_60
                  · have hw := hw.2 h9
                    refine f_iload C0 dX10_paddler_51 5 rfl ?_
                    refine f_bipush (v := 90) C0 dX10_paddler_53 rfl ?_
                    refine f_icmp_le (tgt := 61) C0 dX10_paddler_55 (by decide) (fun h10 => ?_) (fun h10 => ?_)
                    · have hw := hw.1 h10
                      refine f_aload_n C0 dX10_paddler_61 rfl 0 rfl ⟨_, rfl⟩ ?_
                      refine gf_10_0 C0 kn_211 mw_886 dX10_paddler_62 ?_
                      refine f_bipush (v := 40) C0 dX10_paddler_65 rfl ?_
                      refine f_icmp_ne (tgt := 73) C0 dX10_paddler_67 (by decide) (fun h11 => ?_) (fun h11 => ?_)
                      · have hw := hw.1 h11
                        refine f_aload_n C0 dX10_paddler_73 rfl 0 rfl ⟨_, rfl⟩ ?_
                        refine gf_10_8 (r := 212) C0 rfl kn_211 mw_894 dX10_paddler_74 ?_
                        refine f_aload_n C0 dX10_paddler_77 rfl 0 rfl ⟨_, rfl⟩ ?_
                        refine gf_10_0 C0 kn_211 mw_886 dX10_paddler_78 ?_
                        refine f_iload_n C0 dX10_paddler_81 rfl 1 rfl ?_
                        obtain ⟨h12, hw⟩ := hw
                        refine f_iast C0 kn_212 h12 dX10_paddler_82 (fun d13 ed13 => ?_)
                        have hw := hw d13 ed13
                        refine f_aload_n C0 dX10_paddler_83 rfl 0 rfl ⟨_, rfl⟩ ?_
                        refine gf_10_9 (r := 213) C0 rfl kn_211 mw_895 dX10_paddler_84 ?_
                        refine f_aload_n C0 dX10_paddler_87 rfl 0 rfl ⟨_, rfl⟩ ?_
                        refine gf_10_0 C0 kn_211 mw_886 dX10_paddler_88 ?_
                        refine f_iload_n C0 dX10_paddler_91 rfl 2 rfl ?_
                        obtain ⟨h14, hw⟩ := hw
                        refine f_iast C0 kn_213 h14 dX10_paddler_92 (fun d15 ed15 => ?_)
                        have hw := hw d15 ed15
                        refine f_aload_n C0 dX10_paddler_93 rfl 0 rfl ⟨_, rfl⟩ ?_
                        refine gf_10_10 (r := 214) C0 rfl kn_211 mw_896 dX10_paddler_94 ?_
                        refine f_aload_n C0 dX10_paddler_97 rfl 0 rfl ⟨_, rfl⟩ ?_
                        refine gf_10_0 C0 kn_211 mw_886 dX10_paddler_98 ?_
                        refine f_iload_n C0 dX10_paddler_101 rfl 3 rfl ?_
                        obtain ⟨h16, hw⟩ := hw
                        refine f_iast C0 kn_214 h16 dX10_paddler_102 (fun d17 ed17 => ?_)
                        have hw := hw d17 ed17
                        refine f_aload_n C0 dX10_paddler_103 rfl 0 rfl ⟨_, rfl⟩ ?_
                        refine gf_10_11 (r := 215) C0 rfl kn_211 mw_897 dX10_paddler_104 ?_
                        refine f_aload_n C0 dX10_paddler_107 rfl 0 rfl ⟨_, rfl⟩ ?_
                        refine gf_10_0 C0 kn_211 mw_886 dX10_paddler_108 ?_
                        refine f_iload C0 dX10_paddler_111 4 rfl ?_
                        obtain ⟨h18, hw⟩ := hw
                        refine f_iast C0 kn_215 h18 dX10_paddler_113 (fun d19 ed19 => ?_)
                        have hw := hw d19 ed19
                        refine f_aload_n C0 dX10_paddler_114 rfl 0 rfl ⟨_, rfl⟩ ?_
                        refine gf_10_12 (r := 216) C0 rfl kn_211 mw_898 dX10_paddler_115 ?_
                        refine f_aload_n C0 dX10_paddler_118 rfl 0 rfl ⟨_, rfl⟩ ?_
                        refine gf_10_0 C0 kn_211 mw_886 dX10_paddler_119 ?_
                        refine f_iload C0 dX10_paddler_122 5 rfl ?_
                        obtain ⟨h20, hw⟩ := hw
                        refine f_iast C0 kn_216 h20 dX10_paddler_124 (fun d21 ed21 => ?_)
                        have hw := hw d21 ed21
                        refine f_aload_n C0 dX10_paddler_125 rfl 0 rfl ⟨_, rfl⟩ ?_
                        refine f_dup C0 dX10_paddler_126 rfl ?_
                        refine gf_10_0 C0 kn_211 mw_886 dX10_paddler_127 ?_
                        refine f_dup_x1 C0 dX10_paddler_130 rfl rfl ?_
                        refine f_iconst (v := 1) C0 dX10_paddler_131 rfl ?_
                        refine f_iadd C0 dX10_paddler_132 ?_
                        refine pf_10_0 C0 kn_211 mw_886 dX10_paddler_133 (fun d22 ed22 => ?_)
                        have hw := hw d22 ed22
                        exact f_iret C0 hZ hw dX10_paddler_136
                      · have hw := hw.2 h11
                        refine f_bipush (v := (-4)) C0 dX10_paddler_70 rfl ?_
                        exact f_iret C0 hZ hw dX10_paddler_72
                    · have hw := hw.2 h10
                      refine f_bipush (v := (-2)) C0 dX10_paddler_58 rfl ?_
                      exact f_iret C0 hZ hw dX10_paddler_60
def b_X10_like_89 (n : Nat) (Q : Int32 → DD → LL → Prop) (x4 : Int32) (xs0 : Int32) (xs1 : Int32) (d : DD) (dl : LL) : Prop := vp_in xs1 1600 ∧ ∀ d19 : DD, d19 = u2 d 217 xs1.toNatClampNeg (vp_nar .boolean xs0) → (x4 = 0 → Q 0 d19 dl) ∧ (¬ x4 = 0 → Q 1 d19 dl)
def b_X10_like_68 (n : Nat) (Q : Int32 → DD → LL → Prop) (x1 : Int32) (x2 : Int32) (x3 : Int32) (x4 : Int32) (xs0 : Int32) (xs1 : Int32) (d : DD) (dl : LL) : Prop := vp_in xs1 1600 ∧ ∀ d16 : DD, d16 = u2 d 217 xs1.toNatClampNeg (vp_nar .boolean xs0) → (¬ x3 = 1 → b_X10_like_89 n Q x4 0 (((40 : Int32) * x2) + x1) d16 dl) ∧ (x3 = 1 → b_X10_like_89 n Q x4 1 (((40 : Int32) * x2) + x1) d16 dl)
def F_X10_like (n : Nat) (x1 : Int32) (x2 : Int32) (x3 : Int32) (d : DD) (dl : LL) (Q : Int32 → DD → LL → Prop) : Prop := F_X10_isPaddler n x1 d dl (fun r1 d2 l3 => (r1 = 0 → Q (-1) d2 l3) ∧ (¬ r1 = 0 → F_X10_isPaddler n x2 d2 l3 (fun r5 d6 l7 => (¬ r5 = 0 → (x3 < 0 → Q (-2) d6 l7) ∧ (¬ x3 < 0 → (1 < x3 → Q (-2) d6 l7) ∧ (¬ 1 < x3 → (¬ x1 = x2 → vp_in (((40 : Int32) * x1) + x2) 1600 ∧ ∀ v13 : Int32, v13 = (d6 217 (((40 : Int32) * x1) + x2).toNatClampNeg) → (¬ x3 = 1 → b_X10_like_68 n Q x1 x2 x3 v13 0 (((40 : Int32) * x1) + x2) d6 l7) ∧ (x3 = 1 → b_X10_like_68 n Q x1 x2 x3 v13 1 (((40 : Int32) * x1) + x2) d6 l7)) ∧ (x1 = x2 → Q (-2) d6 l7)))) ∧ (r5 = 0 → Q (-1) d6 l7))))
set_option maxHeartbeats 4000000 in
set_option maxRecDepth 100000 in
theorem t_X10_like_89 {g : Ex} {x : Fx} {n : Nat} {Q : Int32 → DD → LL → Prop} (C0 : Cx g x cX10_like 5 (some .int) RX10 1 21) (hZ : Zi g x Q) : ∀ (x4 : Int32) (xs0 : Int32) (xs1 : Int32) (d : DD) (dl : LL), b_X10_like_89 n Q x4 xs0 xs1 d dl → FW g x 5 d dl 89 [(4, .int x4)] [.int xs0, .int xs1, rf g 217] := by
  intro x4 xs0 xs1 d dl hw
  obtain ⟨h18, hw⟩ := hw
  refine f_zast C0 kn_217 h18 dX10_like_89 (fun d19 ed19 => ?_)
  have hw := hw d19 ed19
  refine f_iload C0 dX10_like_90 0 rfl ?_
  refine f_if_eq (tgt := 99) C0 dX10_like_92 (by decide) (fun h20 => ?_) (fun h20 => ?_)
  · have hw := hw.1 h20
    refine f_iconst (v := 0) C0 dX10_like_99 rfl ?_
    exact f_iret C0 hZ hw dX10_like_100
  · have hw := hw.2 h20
    refine f_iconst (v := 1) C0 dX10_like_95 rfl ?_
    refine f_goto (tgt := 100) C0 dX10_like_96 (by decide) ?_
    exact f_iret C0 hZ hw dX10_like_100
set_option maxHeartbeats 4000000 in
set_option maxRecDepth 100000 in
theorem t_X10_like_68 {g : Ex} {x : Fx} {n : Nat} {Q : Int32 → DD → LL → Prop} (C0 : Cx g x cX10_like 5 (some .int) RX10 1 21) (hZ : Zi g x Q) : ∀ (x1 : Int32) (x2 : Int32) (x3 : Int32) (x4 : Int32) (xs0 : Int32) (xs1 : Int32) (d : DD) (dl : LL), b_X10_like_68 n Q x1 x2 x3 x4 xs0 xs1 d dl → FW g x 5 d dl 68 [(0, rf g 211), (1, .int x1), (2, .int x2), (3, .int x3), (4, .int x4)] [.int xs0, .int xs1, rf g 217] := by
  intro x1 x2 x3 x4 xs0 xs1 d dl hw
  obtain ⟨h15, hw⟩ := hw
  refine f_zast C0 kn_217 h15 dX10_like_68 (fun d16 ed16 => ?_)
  have hw := hw d16 ed16
  refine f_aload_n C0 dX10_like_69 rfl 0 rfl ⟨_, rfl⟩ ?_
  refine gf_10_13 (r := 217) C0 rfl kn_211 mw_899 dX10_like_70 ?_
  refine f_bipush (v := 40) C0 dX10_like_73 rfl ?_
  refine f_iload_n C0 dX10_like_75 rfl 2 rfl ?_
  refine f_imul C0 dX10_like_76 ?_
  refine f_iload_n C0 dX10_like_77 rfl 1 rfl ?_
  refine f_iadd C0 dX10_like_78 ?_
  refine f_iload_n C0 dX10_like_79 rfl 3 rfl ?_
  refine f_iconst (v := 1) C0 dX10_like_80 rfl ?_
  refine f_icmp_ne (tgt := 88) C0 dX10_like_81 (by decide) (fun h17 => ?_) (fun h17 => ?_)
  · have hw := hw.1 h17
    refine f_iconst (v := 0) C0 dX10_like_88 rfl ?_
    refine f_sub [4] rfl ?_
    exact t_X10_like_89 C0 hZ _ _ _ _ _ hw
  · have hw := hw.2 h17
    refine f_iconst (v := 1) C0 dX10_like_84 rfl ?_
    refine f_goto (tgt := 89) C0 dX10_like_85 (by decide) ?_
    refine f_sub [4] rfl ?_
    exact t_X10_like_89 C0 hZ _ _ _ _ _ hw
set_option maxHeartbeats 4000000 in
set_option maxRecDepth 100000 in
theorem m_X10_like {g : Ex} {n : Nat} {x1 : Int32} {x2 : Int32} {x3 : Int32} {d : DD} {dl : LL} {Q : Int32 → DD → LL → Prop} (hw : F_X10_like n x1 x2 x3 d dl Q) : Mi g yX10_like cX10_like 5 (some .int) 1 21 [rf g 211, .int x1, .int x2, .int x3] d dl Q := by
  refine Mi.of (by decide) (Nat.le_of_ble_eq_true rfl) (fun x C0 hZ => ?_)
  have C0 : Cx g x cX10_like 5 (some .int) RX10 1 21 := C0
  refine f_aload_n C0 dX10_like_0 rfl 0 rfl ⟨_, rfl⟩ ?_
  refine f_iload_n C0 dX10_like_1 rfl 1 rfl ?_
  refine f_callVi (As := [.int x1]) (rest := []) C0 (m_X10_isPaddler hw) cw_X10_131 kn_211 (by decide) rfl rfl ⟨(Nat.le_of_ble_eq_true rfl), (Nat.le_of_ble_eq_true rfl)⟩ rfl rfl (Nat.le_of_ble_eq_true rfl) dX10_like_2 ?_
  intro r1 d2 l3 hw
  refine f_if_eq (tgt := 16) C0 dX10_like_5 (by decide) (fun h4 => ?_) (fun h4 => ?_)
  · have hw := hw.1 h4
    refine f_iconst (v := (-1)) C0 dX10_like_16 rfl ?_
    exact f_iret C0 hZ hw dX10_like_17
  · have hw := hw.2 h4
    refine f_aload_n C0 dX10_like_8 rfl 0 rfl ⟨_, rfl⟩ ?_
    refine f_iload_n C0 dX10_like_9 rfl 2 rfl ?_
    refine f_callVi (As := [.int x2]) (rest := []) C0 (m_X10_isPaddler hw) cw_X10_131 kn_211 (by decide) rfl rfl ⟨(Nat.le_of_ble_eq_true rfl), (Nat.le_of_ble_eq_true rfl)⟩ rfl rfl (Nat.le_of_ble_eq_true rfl) dX10_like_10 ?_
    intro r5 d6 l7 hw
    refine f_if_ne (tgt := 18) C0 dX10_like_13 (by decide) (fun h8 => ?_) (fun h8 => ?_)
    · have hw := hw.1 h8
      refine f_iload_n C0 dX10_like_18 rfl 3 rfl ?_
      refine f_if_lt (tgt := 32) C0 dX10_like_19 (by decide) (fun h9 => ?_) (fun h9 => ?_)
      · have hw := hw.1 h9
        refine f_bipush (v := (-2)) C0 dX10_like_32 rfl ?_
        exact f_iret C0 hZ hw dX10_like_34
      · have hw := hw.2 h9
        refine f_iload_n C0 dX10_like_22 rfl 3 rfl ?_
        refine f_iconst (v := 1) C0 dX10_like_23 rfl ?_
        refine f_icmp_gt (tgt := 32) C0 dX10_like_24 (by decide) (fun h10 => ?_) (fun h10 => ?_)
        · have hw := hw.1 h10
          refine f_bipush (v := (-2)) C0 dX10_like_32 rfl ?_
          exact f_iret C0 hZ hw dX10_like_34
        · have hw := hw.2 h10
          refine f_iload_n C0 dX10_like_27 rfl 1 rfl ?_
          refine f_iload_n C0 dX10_like_28 rfl 2 rfl ?_
          refine f_icmp_ne (tgt := 35) C0 dX10_like_29 (by decide) (fun h11 => ?_) (fun h11 => ?_)
          · have hw := hw.1 h11
            refine f_aload_n C0 dX10_like_35 rfl 0 rfl ⟨_, rfl⟩ ?_
            refine gf_10_13 (r := 217) C0 rfl kn_211 mw_899 dX10_like_36 ?_
            refine f_bipush (v := 40) C0 dX10_like_39 rfl ?_
            refine f_iload_n C0 dX10_like_41 rfl 1 rfl ?_
            refine f_imul C0 dX10_like_42 ?_
            refine f_iload_n C0 dX10_like_43 rfl 2 rfl ?_
            refine f_iadd C0 dX10_like_44 ?_
            obtain ⟨h12, hw⟩ := hw
            refine f_zald C0 kn_217 h12 dX10_like_45 ?_
            refine f_topi (fun v13 e13 => ?_)
            have hw := hw v13 e13
            refine f_istore (lo' := [(4, .int v13), (0, rf g 211), (1, .int x1), (2, .int x2), (3, .int x3)]) C0 dX10_like_46 (by decide) rfl ?_
            refine f_aload_n C0 dX10_like_48 rfl 1 rfl ⟨_, rfl⟩ ?_
            refine gf_10_13 (r := 217) C0 rfl kn_211 mw_899 dX10_like_49 ?_
            refine f_bipush (v := 40) C0 dX10_like_52 rfl ?_
            refine f_iload_n C0 dX10_like_54 rfl 2 rfl ?_
            refine f_imul C0 dX10_like_55 ?_
            refine f_iload_n C0 dX10_like_56 rfl 3 rfl ?_
            refine f_iadd C0 dX10_like_57 ?_
            refine f_iload_n C0 dX10_like_58 rfl 4 rfl ?_
            refine f_iconst (v := 1) C0 dX10_like_59 rfl ?_
            refine f_icmp_ne (tgt := 67) C0 dX10_like_60 (by decide) (fun h14 => ?_) (fun h14 => ?_)
            · have hw := hw.1 h14
              refine f_iconst (v := 0) C0 dX10_like_67 rfl ?_
              refine f_sub [1, 2, 3, 4, 0] rfl ?_
              exact t_X10_like_68 C0 hZ _ _ _ _ _ _ _ _ hw
            · have hw := hw.2 h14
              refine f_iconst (v := 1) C0 dX10_like_63 rfl ?_
              refine f_goto (tgt := 68) C0 dX10_like_64 (by decide) ?_
              refine f_sub [1, 2, 3, 4, 0] rfl ?_
              exact t_X10_like_68 C0 hZ _ _ _ _ _ _ _ _ hw
          · have hw := hw.2 h11
            refine f_bipush (v := (-2)) C0 dX10_like_32 rfl ?_
            exact f_iret C0 hZ hw dX10_like_34
    · have hw := hw.2 h8
      refine f_iconst (v := (-1)) C0 dX10_like_16 rfl ?_
      exact f_iret C0 hZ hw dX10_like_17
def F_X10_crew (n : Nat) (x1 : Int32) (x2 : Int32) (d : DD) (dl : LL) (Q : Int32 → DD → LL → Prop) : Prop := (x1 < 2 → Q (-2) d dl) ∧ (¬ x1 < 2 → (4 < x1 → Q (-2) d dl) ∧ (¬ 4 < x1 → (x2 < 0 → Q (-2) d dl) ∧ (¬ x2 < 0 → (x2 ≤ 150 → (¬ (d 211 1) = 6 → vp_in (d 211 1) 6 ∧ ∀ d7 : DD, d7 = u2 d 218 (d 211 1).toNatClampNeg x1 → vp_in (d7 211 1) 6 ∧ ∀ d9 : DD, d9 = u2 d7 219 (d7 211 1).toNatClampNeg x2 → vp_in (d9 211 1) 6 ∧ ∀ d11 : DD, d11 = u2 d9 221 (d9 211 1).toNatClampNeg 4 → ∀ d12 : DD, d12 = u2 d11 211 1 ((d11 211 1) + 1) → Q (d11 211 1) d12 dl) ∧ ((d 211 1) = 6 → Q (-4) d dl)) ∧ (¬ x2 ≤ 150 → Q (-2) d dl))))
set_option maxHeartbeats 4000000 in
set_option maxRecDepth 100000 in
theorem m_X10_crew {g : Ex} {n : Nat} {x1 : Int32} {x2 : Int32} {d : DD} {dl : LL} {Q : Int32 → DD → LL → Prop} (hw : F_X10_crew n x1 x2 d dl Q) : Mi g yX10_crew cX10_crew 3 (some .int) 0 0 [rf g 211, .int x1, .int x2] d dl Q := by
  refine Mi.of (by decide) (Nat.le_of_ble_eq_true rfl) (fun x C0 hZ => ?_)
  have C0 : Cx g x cX10_crew 3 (some .int) RX10 0 0 := C0
  refine f_iload_n C0 dX10_crew_0 rfl 1 rfl ?_
  refine f_iconst (v := 2) C0 dX10_crew_1 rfl ?_
  refine f_icmp_lt (tgt := 21) C0 dX10_crew_2 (by decide) (fun h1 => ?_) (fun h1 => ?_)
  · have hw := hw.1 h1
    refine f_bipush (v := (-2)) C0 dX10_crew_21 rfl ?_
    exact f_iret C0 hZ hw dX10_crew_23
  · have hw := hw.2 h1
    refine f_iload_n C0 dX10_crew_5 rfl 1 rfl ?_
    refine f_iconst (v := 4) C0 dX10_crew_6 rfl ?_
    refine f_icmp_gt (tgt := 21) C0 dX10_crew_7 (by decide) (fun h2 => ?_) (fun h2 => ?_)
    · have hw := hw.1 h2
      refine f_bipush (v := (-2)) C0 dX10_crew_21 rfl ?_
      exact f_iret C0 hZ hw dX10_crew_23
    · have hw := hw.2 h2
      refine f_iload_n C0 dX10_crew_10 rfl 2 rfl ?_
      refine f_if_lt (tgt := 21) C0 dX10_crew_11 (by decide) (fun h3 => ?_) (fun h3 => ?_)
      · have hw := hw.1 h3
        refine f_bipush (v := (-2)) C0 dX10_crew_21 rfl ?_
        exact f_iret C0 hZ hw dX10_crew_23
      · have hw := hw.2 h3
        refine f_iload_n C0 dX10_crew_14 rfl 2 rfl ?_
        refine f_sipush (v := 150) C0 dX10_crew_15 rfl ?_
        refine f_icmp_le (tgt := 24) C0 dX10_crew_18 (by decide) (fun h4 => ?_) (fun h4 => ?_)
        · have hw := hw.1 h4
          refine f_aload_n C0 dX10_crew_24 rfl 0 rfl ⟨_, rfl⟩ ?_
          refine gf_10_1 C0 kn_211 mw_887 dX10_crew_25 ?_
          refine f_bipush (v := 6) C0 dX10_crew_28 rfl ?_
          refine f_icmp_ne (tgt := 36) C0 dX10_crew_30 (by decide) (fun h5 => ?_) (fun h5 => ?_)
          · have hw := hw.1 h5
            refine f_aload_n C0 dX10_crew_36 rfl 0 rfl ⟨_, rfl⟩ ?_
            refine gf_10_14 (r := 218) C0 rfl kn_211 mw_900 dX10_crew_37 ?_
            refine f_aload_n C0 dX10_crew_40 rfl 0 rfl ⟨_, rfl⟩ ?_
            refine gf_10_1 C0 kn_211 mw_887 dX10_crew_41 ?_
            refine f_iload_n C0 dX10_crew_44 rfl 1 rfl ?_
            obtain ⟨h6, hw⟩ := hw
            refine f_iast C0 kn_218 h6 dX10_crew_45 (fun d7 ed7 => ?_)
            have hw := hw d7 ed7
            refine f_aload_n C0 dX10_crew_46 rfl 0 rfl ⟨_, rfl⟩ ?_
            refine gf_10_15 (r := 219) C0 rfl kn_211 mw_901 dX10_crew_47 ?_
            refine f_aload_n C0 dX10_crew_50 rfl 0 rfl ⟨_, rfl⟩ ?_
            refine gf_10_1 C0 kn_211 mw_887 dX10_crew_51 ?_
            refine f_iload_n C0 dX10_crew_54 rfl 2 rfl ?_
            obtain ⟨h8, hw⟩ := hw
            refine f_iast C0 kn_219 h8 dX10_crew_55 (fun d9 ed9 => ?_)
            have hw := hw d9 ed9
            refine f_aload_n C0 dX10_crew_56 rfl 0 rfl ⟨_, rfl⟩ ?_
            refine gf_10_17 (r := 221) C0 rfl kn_211 mw_903 dX10_crew_57 ?_
            refine f_aload_n C0 dX10_crew_60 rfl 0 rfl ⟨_, rfl⟩ ?_
            refine gf_10_1 C0 kn_211 mw_887 dX10_crew_61 ?_
            refine f_iconst (v := 4) C0 dX10_crew_64 rfl ?_
            obtain ⟨h10, hw⟩ := hw
            refine f_iast C0 kn_221 h10 dX10_crew_65 (fun d11 ed11 => ?_)
            have hw := hw d11 ed11
            refine f_aload_n C0 dX10_crew_66 rfl 0 rfl ⟨_, rfl⟩ ?_
            refine f_dup C0 dX10_crew_67 rfl ?_
            refine gf_10_1 C0 kn_211 mw_887 dX10_crew_68 ?_
            refine f_dup_x1 C0 dX10_crew_71 rfl rfl ?_
            refine f_iconst (v := 1) C0 dX10_crew_72 rfl ?_
            refine f_iadd C0 dX10_crew_73 ?_
            refine pf_10_1 C0 kn_211 mw_887 dX10_crew_74 (fun d12 ed12 => ?_)
            have hw := hw d12 ed12
            exact f_iret C0 hZ hw dX10_crew_77
          · have hw := hw.2 h5
            refine f_bipush (v := (-4)) C0 dX10_crew_33 rfl ?_
            exact f_iret C0 hZ hw dX10_crew_35
        · have hw := hw.2 h4
          refine f_bipush (v := (-2)) C0 dX10_crew_21 rfl ?_
          exact f_iret C0 hZ hw dX10_crew_23
def b_X10_isMember_2 (n : Nat) (Q : Int32 → DD → LL → Prop) : Nat → Int32 → Int32 → Int32 → DD → LL → Prop
  | 0 => fun _ _ _ _ _ => False
  | k + 1 => fun x1 x2 x3 d dl => vp_in x1 6 ∧ ((d 220 x1.toNatClampNeg) ≤ x3 → Q 0 d dl) ∧ (¬ (d 220 x1.toNatClampNeg) ≤ x3 → vp_in (((8 : Int32) * x1) + x3) 48 ∧ (¬ (d 222 (((8 : Int32) * x1) + x3).toNatClampNeg) = x2 → (b_X10_isMember_2 n Q k) x1 x2 (x3 + 1) d dl) ∧ ((d 222 (((8 : Int32) * x1) + x3).toNatClampNeg) = x2 → Q 1 d dl))
def F_X10_isMember (n : Nat) (x1 : Int32) (x2 : Int32) (d : DD) (dl : LL) (Q : Int32 → DD → LL → Prop) : Prop := b_X10_isMember_2 n Q n x1 x2 0 d dl
set_option maxHeartbeats 4000000 in
set_option maxRecDepth 100000 in
theorem t_X10_isMember_2 {g : Ex} {x : Fx} {n : Nat} {Q : Int32 → DD → LL → Prop} (C0 : Cx g x cX10_isMember 4 (some .boolean) RX10 0 0) (hZ : Zi g x Q) : ∀ (j : Nat) (x1 : Int32) (x2 : Int32) (x3 : Int32) (d : DD) (dl : LL), b_X10_isMember_2 n Q j x1 x2 x3 d dl → FW g x 4 d dl 2 [(0, rf g 211), (1, .int x1), (2, .int x2), (3, .int x3)] [] := by
  intro j
  induction j with
  | zero =>
    intro x1 x2 x3 d dl hw
    exact hw.elim
  | succ j hK2 =>
    intro x1 x2 x3 d dl hw
    refine f_iload_n C0 dX10_isMember_2 rfl 3 rfl ?_
    refine f_aload_n C0 dX10_isMember_3 rfl 0 rfl ⟨_, rfl⟩ ?_
    refine gf_10_16 (r := 220) C0 rfl kn_211 mw_902 dX10_isMember_4 ?_
    refine f_iload_n C0 dX10_isMember_7 rfl 1 rfl ?_
    obtain ⟨h1, hw⟩ := hw
    refine f_iald C0 kn_220 h1 dX10_isMember_8 ?_
    refine f_icmp_ge (tgt := 35) C0 dX10_isMember_9 (by decide) (fun h2 => ?_) (fun h2 => ?_)
    · have hw := hw.1 h2
      refine f_iconst (v := 0) C0 dX10_isMember_35 rfl ?_
      exact f_zret C0 hZ (by decide) hw dX10_isMember_36
    · have hw := hw.2 h2
      refine f_aload_n C0 dX10_isMember_12 rfl 0 rfl ⟨_, rfl⟩ ?_
      refine gf_10_18 (r := 222) C0 rfl kn_211 mw_904 dX10_isMember_13 ?_
      refine f_bipush (v := 8) C0 dX10_isMember_16 rfl ?_
      refine f_iload_n C0 dX10_isMember_18 rfl 1 rfl ?_
      refine f_imul C0 dX10_isMember_19 ?_
      refine f_iload_n C0 dX10_isMember_20 rfl 3 rfl ?_
      refine f_iadd C0 dX10_isMember_21 ?_
      obtain ⟨h3, hw⟩ := hw
      refine f_iald C0 kn_222 h3 dX10_isMember_22 ?_
      refine f_iload_n C0 dX10_isMember_23 rfl 2 rfl ?_
      refine f_icmp_ne (tgt := 29) C0 dX10_isMember_24 (by decide) (fun h4 => ?_) (fun h4 => ?_)
      · have hw := hw.1 h4
        refine f_iinc (lo' := [(3, .int (x3 + 1)), (0, rf g 211), (1, .int x1), (2, .int x2)]) C0 dX10_isMember_29 3 rfl rfl (by decide) rfl ?_
        refine f_goto (tgt := 2) C0 dX10_isMember_32 (by decide) ?_
        refine f_sub [1, 2, 3, 0] rfl ?_
        exact hK2 _ _ _ _ _ hw
      · have hw := hw.2 h4
        refine f_iconst (v := 1) C0 dX10_isMember_27 rfl ?_
        exact f_zret C0 hZ (by decide) hw dX10_isMember_28
set_option maxHeartbeats 4000000 in
set_option maxRecDepth 100000 in
theorem m_X10_isMember {g : Ex} {n : Nat} {x1 : Int32} {x2 : Int32} {d : DD} {dl : LL} {Q : Int32 → DD → LL → Prop} (hw : F_X10_isMember n x1 x2 d dl Q) : Mi g yX10_isMember cX10_isMember 4 (some .boolean) 0 0 [rf g 211, .int x1, .int x2] d dl Q := by
  refine Mi.of (by decide) (Nat.le_of_ble_eq_true rfl) (fun x C0 hZ => ?_)
  have C0 : Cx g x cX10_isMember 4 (some .boolean) RX10 0 0 := C0
  refine f_iconst (v := 0) C0 dX10_isMember_0 rfl ?_
  refine f_istore_n (lo' := [(3, .int 0), (0, rf g 211), (1, .int x1), (2, .int x2)]) C0 dX10_isMember_1 rfl (by decide) rfl ?_
  refine f_sub [1, 2, 3, 0] rfl ?_
  exact t_X10_isMember_2 C0 hZ n _ _ _ _ _ hw
def F_X10_join (n : Nat) (x1 : Int32) (x2 : Int32) (d : DD) (dl : LL) (Q : Int32 → DD → LL → Prop) : Prop := F_X10_isCrew n x1 d dl (fun r1 d2 l3 => (r1 = 0 → Q (-1) d2 l3) ∧ (¬ r1 = 0 → F_X10_isPaddler n x2 d2 l3 (fun r5 d6 l7 => (¬ r5 = 0 → F_X10_isMember n x1 x2 d6 l7 (fun r9 d10 l11 => (r9 = 0 → vp_in x1 6 ∧ (¬ (d10 220 x1.toNatClampNeg) = 8 → vp_in x1 6 ∧ vp_in (((8 : Int32) * x1) + (d10 220 x1.toNatClampNeg)) 48 ∧ ∀ d17 : DD, d17 = u2 d10 222 (((8 : Int32) * x1) + (d10 220 x1.toNatClampNeg)).toNatClampNeg x2 → vp_in x1 6 ∧ ∀ d19 : DD, d19 = u2 d17 224 x1.toNatClampNeg (vp_nar .boolean 0) → vp_in x1 6 ∧ vp_in x1 6 ∧ ∀ d22 : DD, d22 = u2 d19 220 x1.toNatClampNeg ((d19 220 x1.toNatClampNeg) + 1) → Q ((d19 220 x1.toNatClampNeg) + 1) d22 l11) ∧ ((d10 220 x1.toNatClampNeg) = 8 → Q (-4) d10 l11)) ∧ (¬ r9 = 0 → Q (-3) d10 l11))) ∧ (r5 = 0 → Q (-1) d6 l7))))
set_option maxHeartbeats 4000000 in
set_option maxRecDepth 100000 in
theorem m_X10_join {g : Ex} {n : Nat} {x1 : Int32} {x2 : Int32} {d : DD} {dl : LL} {Q : Int32 → DD → LL → Prop} (hw : F_X10_join n x1 x2 d dl Q) : Mi g yX10_join cX10_join 3 (some .int) 1 23 [rf g 211, .int x1, .int x2] d dl Q := by
  refine Mi.of (by decide) (Nat.le_of_ble_eq_true rfl) (fun x C0 hZ => ?_)
  have C0 : Cx g x cX10_join 3 (some .int) RX10 1 23 := C0
  refine f_aload_n C0 dX10_join_0 rfl 0 rfl ⟨_, rfl⟩ ?_
  refine f_iload_n C0 dX10_join_1 rfl 1 rfl ?_
  refine f_callVi (As := [.int x1]) (rest := []) C0 (m_X10_isCrew hw) cw_X10_135 kn_211 (by decide) rfl rfl ⟨(Nat.le_of_ble_eq_true rfl), (Nat.le_of_ble_eq_true rfl)⟩ rfl rfl (Nat.le_of_ble_eq_true rfl) dX10_join_2 ?_
  intro r1 d2 l3 hw
  refine f_if_eq (tgt := 16) C0 dX10_join_5 (by decide) (fun h4 => ?_) (fun h4 => ?_)
  · have hw := hw.1 h4
    refine f_iconst (v := (-1)) C0 dX10_join_16 rfl ?_
    exact f_iret C0 hZ hw dX10_join_17
  · have hw := hw.2 h4
    refine f_aload_n C0 dX10_join_8 rfl 0 rfl ⟨_, rfl⟩ ?_
    refine f_iload_n C0 dX10_join_9 rfl 2 rfl ?_
    refine f_callVi (As := [.int x2]) (rest := []) C0 (m_X10_isPaddler hw) cw_X10_131 kn_211 (by decide) rfl rfl ⟨(Nat.le_of_ble_eq_true rfl), (Nat.le_of_ble_eq_true rfl)⟩ rfl rfl (Nat.le_of_ble_eq_true rfl) dX10_join_10 ?_
    intro r5 d6 l7 hw
    refine f_if_ne (tgt := 18) C0 dX10_join_13 (by decide) (fun h8 => ?_) (fun h8 => ?_)
    · have hw := hw.1 h8
      refine f_aload_n C0 dX10_join_18 rfl 0 rfl ⟨_, rfl⟩ ?_
      refine f_iload_n C0 dX10_join_19 rfl 1 rfl ?_
      refine f_iload_n C0 dX10_join_20 rfl 2 rfl ?_
      refine f_callVi (As := [.int x1, .int x2]) (rest := []) C0 (m_X10_isMember hw) cw_X10_138 kn_211 (by decide) rfl rfl ⟨(Nat.le_of_ble_eq_true rfl), (Nat.le_of_ble_eq_true rfl)⟩ rfl rfl (Nat.le_of_ble_eq_true rfl) dX10_join_21 ?_
      intro r9 d10 l11 hw
      refine f_if_eq (tgt := 30) C0 dX10_join_24 (by decide) (fun h12 => ?_) (fun h12 => ?_)
      · have hw := hw.1 h12
        refine f_aload_n C0 dX10_join_30 rfl 0 rfl ⟨_, rfl⟩ ?_
        refine gf_10_16 (r := 220) C0 rfl kn_211 mw_902 dX10_join_31 ?_
        refine f_iload_n C0 dX10_join_34 rfl 1 rfl ?_
        obtain ⟨h13, hw⟩ := hw
        refine f_iald C0 kn_220 h13 dX10_join_35 ?_
        refine f_bipush (v := 8) C0 dX10_join_36 rfl ?_
        refine f_icmp_ne (tgt := 44) C0 dX10_join_38 (by decide) (fun h14 => ?_) (fun h14 => ?_)
        · have hw := hw.1 h14
          refine f_aload_n C0 dX10_join_44 rfl 0 rfl ⟨_, rfl⟩ ?_
          refine gf_10_18 (r := 222) C0 rfl kn_211 mw_904 dX10_join_45 ?_
          refine f_bipush (v := 8) C0 dX10_join_48 rfl ?_
          refine f_iload_n C0 dX10_join_50 rfl 1 rfl ?_
          refine f_imul C0 dX10_join_51 ?_
          refine f_aload_n C0 dX10_join_52 rfl 0 rfl ⟨_, rfl⟩ ?_
          refine gf_10_16 (r := 220) C0 rfl kn_211 mw_902 dX10_join_53 ?_
          refine f_iload_n C0 dX10_join_56 rfl 1 rfl ?_
          obtain ⟨h15, hw⟩ := hw
          refine f_iald C0 kn_220 h15 dX10_join_57 ?_
          refine f_iadd C0 dX10_join_58 ?_
          refine f_iload_n C0 dX10_join_59 rfl 2 rfl ?_
          obtain ⟨h16, hw⟩ := hw
          refine f_iast C0 kn_222 h16 dX10_join_60 (fun d17 ed17 => ?_)
          have hw := hw d17 ed17
          refine f_aload_n C0 dX10_join_61 rfl 0 rfl ⟨_, rfl⟩ ?_
          refine gf_10_20 (r := 224) C0 rfl kn_211 mw_906 dX10_join_62 ?_
          refine f_iload_n C0 dX10_join_65 rfl 1 rfl ?_
          refine f_iconst (v := 0) C0 dX10_join_66 rfl ?_
          obtain ⟨h18, hw⟩ := hw
          refine f_zast C0 kn_224 h18 dX10_join_67 (fun d19 ed19 => ?_)
          have hw := hw d19 ed19
          refine f_aload_n C0 dX10_join_68 rfl 0 rfl ⟨_, rfl⟩ ?_
          refine gf_10_16 (r := 220) C0 rfl kn_211 mw_902 dX10_join_69 ?_
          refine f_iload_n C0 dX10_join_72 rfl 1 rfl ?_
          refine f_dup2 C0 dX10_join_73 rfl rfl ?_
          obtain ⟨h20, hw⟩ := hw
          refine f_iald C0 kn_220 h20 dX10_join_74 ?_
          refine f_iconst (v := 1) C0 dX10_join_75 rfl ?_
          refine f_iadd C0 dX10_join_76 ?_
          refine f_dup_x2 C0 dX10_join_77 rfl rfl rfl ?_
          obtain ⟨h21, hw⟩ := hw
          refine f_iast C0 kn_220 h21 dX10_join_78 (fun d22 ed22 => ?_)
          have hw := hw d22 ed22
          exact f_iret C0 hZ hw dX10_join_79
        · have hw := hw.2 h14
          refine f_bipush (v := (-4)) C0 dX10_join_41 rfl ?_
          exact f_iret C0 hZ hw dX10_join_43
      · have hw := hw.2 h12
        refine f_bipush (v := (-3)) C0 dX10_join_27 rfl ?_
        exact f_iret C0 hZ hw dX10_join_29
    · have hw := hw.2 h8
      refine f_iconst (v := (-1)) C0 dX10_join_16 rfl ?_
      exact f_iret C0 hZ hw dX10_join_17
def F_X10_beat (n : Nat) (x1 : Int32) (x2 : Int32) (d : DD) (dl : LL) (Q : Int32 → DD → LL → Prop) : Prop := F_X10_isCrew n x1 d dl (fun r1 d2 l3 => (¬ r1 = 0 → (x2 < 1 → Q (-2) d2 l3) ∧ (¬ x2 < 1 → (x2 ≤ 9 → vp_in x1 6 ∧ ∀ v8 : Int32, v8 = (d2 221 x1.toNatClampNeg) → vp_in x1 6 ∧ ∀ d10 : DD, d10 = u2 d2 221 x1.toNatClampNeg x2 → Q v8 d10 l3) ∧ (¬ x2 ≤ 9 → Q (-2) d2 l3))) ∧ (r1 = 0 → Q (-1) d2 l3))
set_option maxHeartbeats 4000000 in
set_option maxRecDepth 100000 in
theorem m_X10_beat {g : Ex} {n : Nat} {x1 : Int32} {x2 : Int32} {d : DD} {dl : LL} {Q : Int32 → DD → LL → Prop} (hw : F_X10_beat n x1 x2 d dl Q) : Mi g yX10_beat cX10_beat 4 (some .int) 1 21 [rf g 211, .int x1, .int x2] d dl Q := by
  refine Mi.of (by decide) (Nat.le_of_ble_eq_true rfl) (fun x C0 hZ => ?_)
  have C0 : Cx g x cX10_beat 4 (some .int) RX10 1 21 := C0
  refine f_aload_n C0 dX10_beat_0 rfl 0 rfl ⟨_, rfl⟩ ?_
  refine f_iload_n C0 dX10_beat_1 rfl 1 rfl ?_
  refine f_callVi (As := [.int x1]) (rest := []) C0 (m_X10_isCrew hw) cw_X10_135 kn_211 (by decide) rfl rfl ⟨(Nat.le_of_ble_eq_true rfl), (Nat.le_of_ble_eq_true rfl)⟩ rfl rfl (Nat.le_of_ble_eq_true rfl) dX10_beat_2 ?_
  intro r1 d2 l3 hw
  refine f_if_ne (tgt := 10) C0 dX10_beat_5 (by decide) (fun h4 => ?_) (fun h4 => ?_)
  · have hw := hw.1 h4
    refine f_iload_n C0 dX10_beat_10 rfl 2 rfl ?_
    refine f_iconst (v := 1) C0 dX10_beat_11 rfl ?_
    refine f_icmp_lt (tgt := 21) C0 dX10_beat_12 (by decide) (fun h5 => ?_) (fun h5 => ?_)
    · have hw := hw.1 h5
      refine f_bipush (v := (-2)) C0 dX10_beat_21 rfl ?_
      exact f_iret C0 hZ hw dX10_beat_23
    · have hw := hw.2 h5
      refine f_iload_n C0 dX10_beat_15 rfl 2 rfl ?_
      refine f_bipush (v := 9) C0 dX10_beat_16 rfl ?_
      refine f_icmp_le (tgt := 24) C0 dX10_beat_18 (by decide) (fun h6 => ?_) (fun h6 => ?_)
      · have hw := hw.1 h6
        refine f_aload_n C0 dX10_beat_24 rfl 0 rfl ⟨_, rfl⟩ ?_
        refine gf_10_17 (r := 221) C0 rfl kn_211 mw_903 dX10_beat_25 ?_
        refine f_iload_n C0 dX10_beat_28 rfl 1 rfl ?_
        obtain ⟨h7, hw⟩ := hw
        refine f_iald C0 kn_221 h7 dX10_beat_29 ?_
        refine f_topi (fun v8 e8 => ?_)
        have hw := hw v8 e8
        refine f_istore_n (lo' := [(3, .int v8), (0, rf g 211), (1, .int x1), (2, .int x2)]) C0 dX10_beat_30 rfl (by decide) rfl ?_
        refine f_aload_n C0 dX10_beat_31 rfl 1 rfl ⟨_, rfl⟩ ?_
        refine gf_10_17 (r := 221) C0 rfl kn_211 mw_903 dX10_beat_32 ?_
        refine f_iload_n C0 dX10_beat_35 rfl 2 rfl ?_
        refine f_iload_n C0 dX10_beat_36 rfl 3 rfl ?_
        obtain ⟨h9, hw⟩ := hw
        refine f_iast C0 kn_221 h9 dX10_beat_37 (fun d10 ed10 => ?_)
        have hw := hw d10 ed10
        refine f_iload_n C0 dX10_beat_38 rfl 0 rfl ?_
        exact f_iret C0 hZ hw dX10_beat_39
      · have hw := hw.2 h6
        refine f_bipush (v := (-2)) C0 dX10_beat_21 rfl ?_
        exact f_iret C0 hZ hw dX10_beat_23
  · have hw := hw.2 h4
    refine f_iconst (v := (-1)) C0 dX10_beat_8 rfl ?_
    exact f_iret C0 hZ hw dX10_beat_9
def F_X10_fits (n : Nat) (x1 : Int32) (x2 : Int32) (d : DD) (dl : LL) (Q : Int32 → DD → LL → Prop) : Prop := vp_in x1 40 ∧ ((d 214 x1.toNatClampNeg) = 2 → Q 1 d dl) ∧ (¬ (d 214 x1.toNatClampNeg) = 2 → vp_in x1 40 ∧ (¬ (d 214 x1.toNatClampNeg) = (irem x2 2) → Q 0 d dl) ∧ ((d 214 x1.toNatClampNeg) = (irem x2 2) → Q 1 d dl))
set_option maxHeartbeats 4000000 in
set_option maxRecDepth 100000 in
theorem m_X10_fits {g : Ex} {n : Nat} {x1 : Int32} {x2 : Int32} {d : DD} {dl : LL} {Q : Int32 → DD → LL → Prop} (hw : F_X10_fits n x1 x2 d dl Q) : Mi g yX10_fits cX10_fits 3 (some .boolean) 0 0 [rf g 211, .int x1, .int x2] d dl Q := by
  refine Mi.of (by decide) (Nat.le_of_ble_eq_true rfl) (fun x C0 hZ => ?_)
  have C0 : Cx g x cX10_fits 3 (some .boolean) RX10 0 0 := C0
  refine f_aload_n C0 dX10_fits_0 rfl 0 rfl ⟨_, rfl⟩ ?_
  refine gf_10_10 (r := 214) C0 rfl kn_211 mw_896 dX10_fits_1 ?_
  refine f_iload_n C0 dX10_fits_4 rfl 1 rfl ?_
  obtain ⟨h1, hw⟩ := hw
  refine f_iald C0 kn_214 h1 dX10_fits_5 ?_
  refine f_iconst (v := 2) C0 dX10_fits_6 rfl ?_
  refine f_icmp_eq (tgt := 22) C0 dX10_fits_7 (by decide) (fun h2 => ?_) (fun h2 => ?_)
  · have hw := hw.1 h2
    refine f_iconst (v := 1) C0 dX10_fits_22 rfl ?_
    refine f_goto (tgt := 27) C0 dX10_fits_23 (by decide) ?_
    exact f_zret C0 hZ (by decide) hw dX10_fits_27
  · have hw := hw.2 h2
    refine f_aload_n C0 dX10_fits_10 rfl 0 rfl ⟨_, rfl⟩ ?_
    refine gf_10_10 (r := 214) C0 rfl kn_211 mw_896 dX10_fits_11 ?_
    refine f_iload_n C0 dX10_fits_14 rfl 1 rfl ?_
    obtain ⟨h3, hw⟩ := hw
    refine f_iald C0 kn_214 h3 dX10_fits_15 ?_
    refine f_iload_n C0 dX10_fits_16 rfl 2 rfl ?_
    refine f_iconst (v := 2) C0 dX10_fits_17 rfl ?_
    refine f_irem C0 dX10_fits_18 (by decide) ?_
    refine f_icmp_ne (tgt := 26) C0 dX10_fits_19 (by decide) (fun h4 => ?_) (fun h4 => ?_)
    · have hw := hw.1 h4
      refine f_iconst (v := 0) C0 dX10_fits_26 rfl ?_
      exact f_zret C0 hZ (by decide) hw dX10_fits_27
    · have hw := hw.2 h4
      refine f_iconst (v := 1) C0 dX10_fits_22 rfl ?_
      refine f_goto (tgt := 27) C0 dX10_fits_23 (by decide) ?_
      exact f_zret C0 hZ (by decide) hw dX10_fits_27
def b_X10_trims_163 (n : Nat) (Q : Int32 → DD → LL → Prop) (K33 : Nat → Int32 → Int32 → Int32 → Int32 → Int32 → DD → LL → Prop) (c2 : Nat) (x3 : Int32) (x4 : Int32) (x5 : Int32) (x7 : Int32) (xs0 : Int32) (xs1 : Int32) (xs2 : Int32) (d : DD) (dl : LL) : Prop := ∀ v22 : Int32, v22 = (xs2 + (xs1 * xs0)) → K33 c2 x3 x4 x5 v22 (x7 + 1) d dl
def b_X10_trims_97 (n : Nat) (Q : Int32 → DD → LL → Prop) (K33 : Nat → Int32 → Int32 → Int32 → Int32 → Int32 → DD → LL → Prop) (c2 : Nat) (x3 : Int32) (x4 : Int32) (x5 : Int32) (x7 : Int32) (xs0 : Int32) (xs1 : Int32) (d : DD) (dl : LL) : Prop := ∀ v27 : Int32, v27 = (xs1 + xs0) → K33 c2 x3 x4 x5 v27 (x7 + 1) d dl
def b_X10_trims_33 (n : Nat) (Q : Int32 → DD → LL → Prop) : Nat → Nat → Int32 → Int32 → Int32 → Int32 → Int32 → DD → LL → Prop
  | 0 => fun _ _ _ _ _ _ _ _ => False
  | k + 1 => fun c2 x3 x4 x5 x6 x7 d dl => (((2 : Int32) * x5) ≤ x7 → (2 ≤ x4 → Q x6 d dl) ∧ (¬ 2 ≤ x4 → F_X10_size n x6 d dl (fun r6 d7 l8 => Q r6 d7 l8))) ∧ (¬ ((2 : Int32) * x5) ≤ x7 → vp_in (x3 + x7) (ln c2) ∧ ∀ v10 : Int32, v10 = (d c2 (x3 + x7).toNatClampNeg) → ∀ v11 : Int32, v11 = (x7 / 2) → ∀ v12 : Int32, v12 = ((x5 - 1) - v11) → (¬ x4 = 0 → (¬ x4 = 1 → (¬ x4 = 2 → (¬ (irem x7 2) = 0 → (b_X10_trims_33 n Q k) c2 x3 x4 x5 x6 (x7 + 1) d dl) ∧ ((irem x7 2) = 0 → vp_in ((x3 + x7) + 1) (ln c2) ∧ vp_in (((40 : Int32) * v10) + (d c2 ((x3 + x7) + 1).toNatClampNeg)) 1600 ∧ ((d 217 (((40 : Int32) * v10) + (d c2 ((x3 + x7) + 1).toNatClampNeg)).toNatClampNeg) = 0 → (b_X10_trims_33 n Q k) c2 x3 x4 x5 x6 (x7 + 1) d dl) ∧ (¬ (d 217 (((40 : Int32) * v10) + (d c2 ((x3 + x7) + 1).toNatClampNeg)).toNatClampNeg) = 0 → (b_X10_trims_33 n Q k) c2 x3 x4 x5 (x6 + 1) (x7 + 1) d dl))) ∧ (x4 = 2 → vp_in v10 40 ∧ (v12 ≤ v11 → b_X10_trims_163 n Q (b_X10_trims_33 n Q k) c2 x3 x4 x5 x7 v12 (d 213 v10.toNatClampNeg) x6 d dl) ∧ (¬ v12 ≤ v11 → b_X10_trims_163 n Q (b_X10_trims_33 n Q k) c2 x3 x4 x5 x7 v11 (d 213 v10.toNatClampNeg) x6 d dl))) ∧ (x4 = 1 → vp_in v10 40 ∧ ∀ v24 : Int32, v24 = (x6 + ((d 212 v10.toNatClampNeg) * (((2 : Int32) * v11) - (x5 - 1)))) → (b_X10_trims_33 n Q k) c2 x3 x4 x5 v24 (x7 + 1) d dl)) ∧ (x4 = 0 → (¬ (irem x7 2) = 0 → vp_in v10 40 ∧ b_X10_trims_97 n Q (b_X10_trims_33 n Q k) c2 x3 x4 x5 x7 (-(d 212 v10.toNatClampNeg)) x6 d dl) ∧ ((irem x7 2) = 0 → vp_in v10 40 ∧ b_X10_trims_97 n Q (b_X10_trims_33 n Q k) c2 x3 x4 x5 x7 (d 212 v10.toNatClampNeg) x6 d dl)))
def b_X10_trims_28 (n : Nat) (Q : Int32 → DD → LL → Prop) (c2 : Nat) (x3 : Int32) (x4 : Int32) (x5 : Int32) (xs0 : Int32) (d : DD) (dl : LL) : Prop := b_X10_trims_33 n Q n c2 x3 x4 x5 xs0 0 d dl
def F_X10_trims (n : Nat) (x1 : Int32) (c2 : Nat) (x3 : Int32) (x4 : Int32) (d : DD) (dl : LL) (Q : Int32 → DD → LL → Prop) : Prop := vp_in x1 6 ∧ ∀ v2 : Int32, v2 = (d 218 x1.toNatClampNeg) → (¬ x4 = 1 → b_X10_trims_28 n Q c2 x3 x4 v2 0 d dl) ∧ (x4 = 1 → vp_in x1 6 ∧ b_X10_trims_28 n Q c2 x3 x4 v2 ((-v2) * (d 219 x1.toNatClampNeg)) d dl)
set_option maxHeartbeats 4000000 in
set_option maxRecDepth 100000 in
theorem t_X10_trims_163 {g : Ex} {x : Fx} {n : Nat} {Q : Int32 → DD → LL → Prop} (C0 : Cx g x cX10_trims 11 (some .int) RX10 1 20) (hZ : Zi g x Q) {K33 : Nat → Int32 → Int32 → Int32 → Int32 → Int32 → DD → LL → Prop} (hK33 : ∀ (c2 : Nat) (x3 : Int32) (x4 : Int32) (x5 : Int32) (x6 : Int32) (x7 : Int32) (hc2 : KL c2 11 (ln c2)) (d : DD) (dl : LL), K33 c2 x3 x4 x5 x6 x7 d dl → FW g x 11 d dl 33 [(0, rf g 211), (2, rf g c2), (3, .int x3), (4, .int x4), (5, .int x5), (6, .int x6), (7, .int x7)] []) : ∀ (c2 : Nat) (x3 : Int32) (x4 : Int32) (x5 : Int32) (x7 : Int32) (xs0 : Int32) (xs1 : Int32) (xs2 : Int32) (hc2 : KL c2 11 (ln c2)) (d : DD) (dl : LL), b_X10_trims_163 n Q K33 c2 x3 x4 x5 x7 xs0 xs1 xs2 d dl → FW g x 11 d dl 163 [(0, rf g 211), (2, rf g c2), (3, .int x3), (4, .int x4), (5, .int x5), (7, .int x7)] [.int xs0, .int xs1, .int xs2] := by
  intro c2 x3 x4 x5 x7 xs0 xs1 xs2 hc2 d dl hw
  refine f_imul C0 dX10_trims_163 ?_
  refine f_iadd C0 dX10_trims_164 ?_
  refine f_topi (fun v22 e22 => ?_)
  have hw := hw v22 e22
  refine f_istore (lo' := [(6, .int v22), (0, rf g 211), (2, rf g c2), (3, .int x3), (4, .int x4), (5, .int x5), (7, .int x7)]) C0 dX10_trims_165 (by decide) rfl ?_
  refine f_goto (tgt := 202) C0 dX10_trims_167 (by decide) ?_
  refine f_iinc (lo' := [(7, .int (x7 + 1)), (6, .int v22), (0, rf g 211), (2, rf g c2), (3, .int x3), (4, .int x4), (5, .int x5)]) C0 dX10_trims_202 6 rfl rfl (by decide) rfl ?_
  refine f_goto (tgt := 33) C0 dX10_trims_205 (by decide) ?_
  refine f_sub [2, 3, 4, 5, 6, 1, 0] rfl ?_
  exact hK33 _ _ _ _ _ _ hc2 _ _ hw
set_option maxHeartbeats 4000000 in
set_option maxRecDepth 100000 in
theorem t_X10_trims_97 {g : Ex} {x : Fx} {n : Nat} {Q : Int32 → DD → LL → Prop} (C0 : Cx g x cX10_trims 11 (some .int) RX10 1 20) (hZ : Zi g x Q) {K33 : Nat → Int32 → Int32 → Int32 → Int32 → Int32 → DD → LL → Prop} (hK33 : ∀ (c2 : Nat) (x3 : Int32) (x4 : Int32) (x5 : Int32) (x6 : Int32) (x7 : Int32) (hc2 : KL c2 11 (ln c2)) (d : DD) (dl : LL), K33 c2 x3 x4 x5 x6 x7 d dl → FW g x 11 d dl 33 [(0, rf g 211), (2, rf g c2), (3, .int x3), (4, .int x4), (5, .int x5), (6, .int x6), (7, .int x7)] []) : ∀ (c2 : Nat) (x3 : Int32) (x4 : Int32) (x5 : Int32) (x7 : Int32) (xs0 : Int32) (xs1 : Int32) (hc2 : KL c2 11 (ln c2)) (d : DD) (dl : LL), b_X10_trims_97 n Q K33 c2 x3 x4 x5 x7 xs0 xs1 d dl → FW g x 11 d dl 97 [(0, rf g 211), (2, rf g c2), (3, .int x3), (4, .int x4), (5, .int x5), (7, .int x7)] [.int xs0, .int xs1] := by
  intro c2 x3 x4 x5 x7 xs0 xs1 hc2 d dl hw
  refine f_iadd C0 dX10_trims_97 ?_
  refine f_topi (fun v27 e27 => ?_)
  have hw := hw v27 e27
  refine f_istore (lo' := [(6, .int v27), (0, rf g 211), (2, rf g c2), (3, .int x3), (4, .int x4), (5, .int x5), (7, .int x7)]) C0 dX10_trims_98 (by decide) rfl ?_
  refine f_goto (tgt := 202) C0 dX10_trims_100 (by decide) ?_
  refine f_iinc (lo' := [(7, .int (x7 + 1)), (6, .int v27), (0, rf g 211), (2, rf g c2), (3, .int x3), (4, .int x4), (5, .int x5)]) C0 dX10_trims_202 6 rfl rfl (by decide) rfl ?_
  refine f_goto (tgt := 33) C0 dX10_trims_205 (by decide) ?_
  refine f_sub [2, 3, 4, 5, 6, 1, 0] rfl ?_
  exact hK33 _ _ _ _ _ _ hc2 _ _ hw
set_option maxHeartbeats 4000000 in
set_option maxRecDepth 100000 in
theorem t_X10_trims_33 {g : Ex} {x : Fx} {n : Nat} {Q : Int32 → DD → LL → Prop} (C0 : Cx g x cX10_trims 11 (some .int) RX10 1 20) (hZ : Zi g x Q) : ∀ (j : Nat) (c2 : Nat) (x3 : Int32) (x4 : Int32) (x5 : Int32) (x6 : Int32) (x7 : Int32) (hc2 : KL c2 11 (ln c2)) (d : DD) (dl : LL), b_X10_trims_33 n Q j c2 x3 x4 x5 x6 x7 d dl → FW g x 11 d dl 33 [(0, rf g 211), (2, rf g c2), (3, .int x3), (4, .int x4), (5, .int x5), (6, .int x6), (7, .int x7)] [] := by
  intro j
  induction j with
  | zero =>
    intro c2 x3 x4 x5 x6 x7 hc2 d dl hw
    exact hw.elim
  | succ j hK33 =>
    intro c2 x3 x4 x5 x6 x7 hc2 d dl hw
    refine f_iload C0 dX10_trims_33 6 rfl ?_
    refine f_iconst (v := 2) C0 dX10_trims_35 rfl ?_
    refine f_iload C0 dX10_trims_36 4 rfl ?_
    refine f_imul C0 dX10_trims_38 ?_
    refine f_icmp_ge (tgt := 208) C0 dX10_trims_39 (by decide) (fun h4 => ?_) (fun h4 => ?_)
    · have hw := hw.1 h4
      refine f_iload C0 dX10_trims_208 3 rfl ?_
      refine f_iconst (v := 2) C0 dX10_trims_210 rfl ?_
      refine f_icmp_ge (tgt := 222) C0 dX10_trims_211 (by decide) (fun h5 => ?_) (fun h5 => ?_)
      · have hw := hw.1 h5
        refine f_iload C0 dX10_trims_222 5 rfl ?_
        exact f_iret C0 hZ hw dX10_trims_224
      · have hw := hw.2 h5
        refine f_iload C0 dX10_trims_214 5 rfl ?_
        refine f_callSi (As := [.int x6]) (rest := []) C0 (m_X10_size hw) cw_X10_142  ⟨(Nat.le_of_ble_eq_true rfl), (Nat.le_of_ble_eq_true rfl)⟩ rfl rfl (Nat.le_of_ble_eq_true rfl) dX10_trims_216 ?_
        intro r6 d7 l8 hw
        refine f_goto (tgt := 224) C0 dX10_trims_219 (by decide) ?_
        exact f_iret C0 hZ hw dX10_trims_224
    · have hw := hw.2 h4
      refine f_aload_n C0 dX10_trims_42 rfl 1 rfl ⟨_, rfl⟩ ?_
      refine f_iload_n C0 dX10_trims_43 rfl 2 rfl ?_
      refine f_iload C0 dX10_trims_44 6 rfl ?_
      refine f_iadd C0 dX10_trims_46 ?_
      obtain ⟨h9, hw⟩ := hw
      refine f_iald C0 hc2 h9 dX10_trims_47 ?_
      refine f_topi (fun v10 e10 => ?_)
      have hw := hw v10 e10
      refine f_istore (lo' := [(8, .int v10), (0, rf g 211), (2, rf g c2), (3, .int x3), (4, .int x4), (5, .int x5), (6, .int x6), (7, .int x7)]) C0 dX10_trims_48 (by decide) rfl ?_
      refine f_iload C0 dX10_trims_50 7 rfl ?_
      refine f_iconst (v := 2) C0 dX10_trims_52 rfl ?_
      refine f_idiv C0 dX10_trims_53 (by decide) ?_
      refine f_topi (fun v11 e11 => ?_)
      have hw := hw v11 e11
      refine f_istore (lo' := [(9, .int v11), (8, .int v10), (0, rf g 211), (2, rf g c2), (3, .int x3), (4, .int x4), (5, .int x5), (6, .int x6), (7, .int x7)]) C0 dX10_trims_54 (by decide) rfl ?_
      refine f_iload C0 dX10_trims_56 6 rfl ?_
      refine f_iconst (v := 1) C0 dX10_trims_58 rfl ?_
      refine f_isub C0 dX10_trims_59 ?_
      refine f_iload C0 dX10_trims_60 0 rfl ?_
      refine f_isub C0 dX10_trims_62 ?_
      refine f_topi (fun v12 e12 => ?_)
      have hw := hw v12 e12
      refine f_istore (lo' := [(10, .int v12), (9, .int v11), (8, .int v10), (0, rf g 211), (2, rf g c2), (3, .int x3), (4, .int x4), (5, .int x5), (6, .int x6), (7, .int x7)]) C0 dX10_trims_63 (by decide) rfl ?_
      refine f_iload C0 dX10_trims_65 6 rfl ?_
      refine f_if_ne (tgt := 103) C0 dX10_trims_67 (by decide) (fun h13 => ?_) (fun h13 => ?_)
      · have hw := hw.1 h13
        refine f_iload C0 dX10_trims_103 6 rfl ?_
        refine f_iconst (v := 1) C0 dX10_trims_105 rfl ?_
        refine f_icmp_ne (tgt := 134) C0 dX10_trims_106 (by decide) (fun h14 => ?_) (fun h14 => ?_)
        · have hw := hw.1 h14
          refine f_iload C0 dX10_trims_134 6 rfl ?_
          refine f_iconst (v := 2) C0 dX10_trims_136 rfl ?_
          refine f_icmp_ne (tgt := 170) C0 dX10_trims_137 (by decide) (fun h15 => ?_) (fun h15 => ?_)
          · have hw := hw.1 h15
            refine f_iload C0 dX10_trims_170 9 rfl ?_
            refine f_iconst (v := 2) C0 dX10_trims_172 rfl ?_
            refine f_irem C0 dX10_trims_173 (by decide) ?_
            refine f_if_ne (tgt := 202) C0 dX10_trims_174 (by decide) (fun h16 => ?_) (fun h16 => ?_)
            · have hw := hw.1 h16
              refine f_iinc (lo' := [(7, .int (x7 + 1)), (10, .int v12), (9, .int v11), (8, .int v10), (0, rf g 211), (2, rf g c2), (3, .int x3), (4, .int x4), (5, .int x5), (6, .int x6)]) C0 dX10_trims_202 9 rfl rfl (by decide) rfl ?_
              refine f_goto (tgt := 33) C0 dX10_trims_205 (by decide) ?_
              refine f_sub [4, 5, 6, 7, 8, 9, 0] rfl ?_
              exact hK33 _ _ _ _ _ _ hc2 _ _ hw
            · have hw := hw.2 h16
              refine f_aload_n C0 dX10_trims_177 rfl 3 rfl ⟨_, rfl⟩ ?_
              refine gf_10_13 (r := 217) C0 rfl kn_211 mw_899 dX10_trims_178 ?_
              refine f_bipush (v := 40) C0 dX10_trims_181 rfl ?_
              refine f_iload C0 dX10_trims_183 2 rfl ?_
              refine f_imul C0 dX10_trims_185 ?_
              refine f_aload_n C0 dX10_trims_186 rfl 4 rfl ⟨_, rfl⟩ ?_
              refine f_iload_n C0 dX10_trims_187 rfl 5 rfl ?_
              refine f_iload C0 dX10_trims_188 9 rfl ?_
              refine f_iadd C0 dX10_trims_190 ?_
              refine f_iconst (v := 1) C0 dX10_trims_191 rfl ?_
              refine f_iadd C0 dX10_trims_192 ?_
              obtain ⟨h17, hw⟩ := hw
              refine f_iald C0 hc2 h17 dX10_trims_193 ?_
              refine f_iadd C0 dX10_trims_194 ?_
              obtain ⟨h18, hw⟩ := hw
              refine f_zald C0 kn_217 h18 dX10_trims_195 ?_
              refine f_if_eq (tgt := 202) C0 dX10_trims_196 (by decide) (fun h19 => ?_) (fun h19 => ?_)
              · have hw := hw.1 h19
                refine f_iinc (lo' := [(7, .int (x7 + 1)), (10, .int v12), (9, .int v11), (8, .int v10), (0, rf g 211), (2, rf g c2), (3, .int x3), (4, .int x4), (5, .int x5), (6, .int x6)]) C0 dX10_trims_202 9 rfl rfl (by decide) rfl ?_
                refine f_goto (tgt := 33) C0 dX10_trims_205 (by decide) ?_
                refine f_sub [4, 5, 6, 7, 8, 9, 0] rfl ?_
                exact hK33 _ _ _ _ _ _ hc2 _ _ hw
              · have hw := hw.2 h19
                refine f_iinc (lo' := [(6, .int (x6 + 1)), (10, .int v12), (9, .int v11), (8, .int v10), (0, rf g 211), (2, rf g c2), (3, .int x3), (4, .int x4), (5, .int x5), (7, .int x7)]) C0 dX10_trims_199 8 rfl rfl (by decide) rfl ?_
                refine f_iinc (lo' := [(7, .int (x7 + 1)), (6, .int (x6 + 1)), (10, .int v12), (9, .int v11), (8, .int v10), (0, rf g 211), (2, rf g c2), (3, .int x3), (4, .int x4), (5, .int x5)]) C0 dX10_trims_202 9 rfl rfl (by decide) rfl ?_
                refine f_goto (tgt := 33) C0 dX10_trims_205 (by decide) ?_
                refine f_sub [5, 6, 7, 8, 9, 1, 0] rfl ?_
                exact hK33 _ _ _ _ _ _ hc2 _ _ hw
          · have hw := hw.2 h15
            refine f_iload C0 dX10_trims_140 8 rfl ?_
            refine f_aload_n C0 dX10_trims_142 rfl 3 rfl ⟨_, rfl⟩ ?_
            refine gf_10_9 (r := 213) C0 rfl kn_211 mw_895 dX10_trims_143 ?_
            refine f_iload C0 dX10_trims_146 2 rfl ?_
            obtain ⟨h20, hw⟩ := hw
            refine f_iald C0 kn_213 h20 dX10_trims_148 ?_
            refine f_iload C0 dX10_trims_149 1 rfl ?_
            refine f_iload C0 dX10_trims_151 0 rfl ?_
            refine f_icmp_ge (tgt := 161) C0 dX10_trims_153 (by decide) (fun h21 => ?_) (fun h21 => ?_)
            · have hw := hw.1 h21
              refine f_iload C0 dX10_trims_161 0 rfl ?_
              refine f_sub [3, 4, 5, 6, 7, 9] rfl ?_
              exact t_X10_trims_163 C0 hZ hK33 _ _ _ _ _ _ _ _ hc2 _ _ hw
            · have hw := hw.2 h21
              refine f_iload C0 dX10_trims_156 1 rfl ?_
              refine f_goto (tgt := 163) C0 dX10_trims_158 (by decide) ?_
              refine f_sub [3, 4, 5, 6, 7, 9] rfl ?_
              exact t_X10_trims_163 C0 hZ hK33 _ _ _ _ _ _ _ _ hc2 _ _ hw
        · have hw := hw.2 h14
          refine f_iload C0 dX10_trims_109 8 rfl ?_
          refine f_aload_n C0 dX10_trims_111 rfl 3 rfl ⟨_, rfl⟩ ?_
          refine gf_10_8 (r := 212) C0 rfl kn_211 mw_894 dX10_trims_112 ?_
          refine f_iload C0 dX10_trims_115 2 rfl ?_
          obtain ⟨h23, hw⟩ := hw
          refine f_iald C0 kn_212 h23 dX10_trims_117 ?_
          refine f_iconst (v := 2) C0 dX10_trims_118 rfl ?_
          refine f_iload C0 dX10_trims_119 1 rfl ?_
          refine f_imul C0 dX10_trims_121 ?_
          refine f_iload C0 dX10_trims_122 7 rfl ?_
          refine f_iconst (v := 1) C0 dX10_trims_124 rfl ?_
          refine f_isub C0 dX10_trims_125 ?_
          refine f_isub C0 dX10_trims_126 ?_
          refine f_imul C0 dX10_trims_127 ?_
          refine f_iadd C0 dX10_trims_128 ?_
          refine f_topi (fun v24 e24 => ?_)
          have hw := hw v24 e24
          refine f_istore (lo' := [(6, .int v24), (10, .int v12), (9, .int v11), (8, .int v10), (0, rf g 211), (2, rf g c2), (3, .int x3), (4, .int x4), (5, .int x5), (7, .int x7)]) C0 dX10_trims_129 (by decide) rfl ?_
          refine f_goto (tgt := 202) C0 dX10_trims_131 (by decide) ?_
          refine f_iinc (lo' := [(7, .int (x7 + 1)), (6, .int v24), (10, .int v12), (9, .int v11), (8, .int v10), (0, rf g 211), (2, rf g c2), (3, .int x3), (4, .int x4), (5, .int x5)]) C0 dX10_trims_202 9 rfl rfl (by decide) rfl ?_
          refine f_goto (tgt := 33) C0 dX10_trims_205 (by decide) ?_
          refine f_sub [5, 6, 7, 8, 9, 1, 0] rfl ?_
          exact hK33 _ _ _ _ _ _ hc2 _ _ hw
      · have hw := hw.2 h13
        refine f_iload C0 dX10_trims_70 8 rfl ?_
        refine f_iload C0 dX10_trims_72 9 rfl ?_
        refine f_iconst (v := 2) C0 dX10_trims_74 rfl ?_
        refine f_irem C0 dX10_trims_75 (by decide) ?_
        refine f_if_ne (tgt := 89) C0 dX10_trims_76 (by decide) (fun h25 => ?_) (fun h25 => ?_)
        · have hw := hw.1 h25
          refine f_aload_n C0 dX10_trims_89 rfl 3 rfl ⟨_, rfl⟩ ?_
          refine gf_10_8 (r := 212) C0 rfl kn_211 mw_894 dX10_trims_90 ?_
          refine f_iload C0 dX10_trims_93 2 rfl ?_
          obtain ⟨h26, hw⟩ := hw
          refine f_iald C0 kn_212 h26 dX10_trims_95 ?_
          refine f_ineg C0 dX10_trims_96 ?_
          refine f_sub [3, 4, 5, 6, 7, 9] rfl ?_
          exact t_X10_trims_97 C0 hZ hK33 _ _ _ _ _ _ _ hc2 _ _ hw
        · have hw := hw.2 h25
          refine f_aload_n C0 dX10_trims_79 rfl 3 rfl ⟨_, rfl⟩ ?_
          refine gf_10_8 (r := 212) C0 rfl kn_211 mw_894 dX10_trims_80 ?_
          refine f_iload C0 dX10_trims_83 2 rfl ?_
          obtain ⟨h28, hw⟩ := hw
          refine f_iald C0 kn_212 h28 dX10_trims_85 ?_
          refine f_goto (tgt := 97) C0 dX10_trims_86 (by decide) ?_
          refine f_sub [3, 4, 5, 6, 7, 9] rfl ?_
          exact t_X10_trims_97 C0 hZ hK33 _ _ _ _ _ _ _ hc2 _ _ hw
set_option maxHeartbeats 4000000 in
set_option maxRecDepth 100000 in
theorem t_X10_trims_28 {g : Ex} {x : Fx} {n : Nat} {Q : Int32 → DD → LL → Prop} (C0 : Cx g x cX10_trims 11 (some .int) RX10 1 20) (hZ : Zi g x Q) : ∀ (c2 : Nat) (x3 : Int32) (x4 : Int32) (x5 : Int32) (xs0 : Int32) (hc2 : KL c2 11 (ln c2)) (d : DD) (dl : LL), b_X10_trims_28 n Q c2 x3 x4 x5 xs0 d dl → FW g x 11 d dl 28 [(0, rf g 211), (2, rf g c2), (3, .int x3), (4, .int x4), (5, .int x5)] [.int xs0] := by
  intro c2 x3 x4 x5 xs0 hc2 d dl hw
  refine f_istore (lo' := [(6, .int xs0), (0, rf g 211), (2, rf g c2), (3, .int x3), (4, .int x4), (5, .int x5)]) C0 dX10_trims_28 (by decide) rfl ?_
  refine f_iconst (v := 0) C0 dX10_trims_30 rfl ?_
  refine f_istore (lo' := [(7, .int 0), (6, .int xs0), (0, rf g 211), (2, rf g c2), (3, .int x3), (4, .int x4), (5, .int x5)]) C0 dX10_trims_31 (by decide) rfl ?_
  refine f_sub [2, 3, 4, 5, 6, 1, 0] rfl ?_
  exact t_X10_trims_33 C0 hZ n _ _ _ _ _ _ hc2 _ _ hw
set_option maxHeartbeats 4000000 in
set_option maxRecDepth 100000 in
theorem m_X10_trims {g : Ex} {n : Nat} {x1 : Int32} {c2 : Nat} {x3 : Int32} {x4 : Int32} {d : DD} {dl : LL} {Q : Int32 → DD → LL → Prop} (hc2 : KL c2 11 (ln c2)) (hw : F_X10_trims n x1 c2 x3 x4 d dl Q) : Mi g yX10_trims cX10_trims 11 (some .int) 1 20 [rf g 211, .int x1, rf g c2, .int x3, .int x4] d dl Q := by
  refine Mi.of (by decide) (Nat.le_of_ble_eq_true rfl) (fun x C0 hZ => ?_)
  have C0 : Cx g x cX10_trims 11 (some .int) RX10 1 20 := C0
  refine f_aload_n C0 dX10_trims_0 rfl 0 rfl ⟨_, rfl⟩ ?_
  refine gf_10_14 (r := 218) C0 rfl kn_211 mw_900 dX10_trims_1 ?_
  refine f_iload_n C0 dX10_trims_4 rfl 1 rfl ?_
  obtain ⟨h1, hw⟩ := hw
  refine f_iald C0 kn_218 h1 dX10_trims_5 ?_
  refine f_topi (fun v2 e2 => ?_)
  have hw := hw v2 e2
  refine f_istore (lo' := [(5, .int v2), (0, rf g 211), (1, .int x1), (2, rf g c2), (3, .int x3), (4, .int x4)]) C0 dX10_trims_6 (by decide) rfl ?_
  refine f_iload C0 dX10_trims_8 5 rfl ?_
  refine f_iconst (v := 1) C0 dX10_trims_10 rfl ?_
  refine f_icmp_ne (tgt := 27) C0 dX10_trims_11 (by decide) (fun h3 => ?_) (fun h3 => ?_)
  · have hw := hw.1 h3
    refine f_iconst (v := 0) C0 dX10_trims_27 rfl ?_
    refine f_sub [1, 3, 4, 5, 0] rfl ?_
    exact t_X10_trims_28 C0 hZ _ _ _ _ _ hc2 _ _ hw
  · have hw := hw.2 h3
    refine f_iload C0 dX10_trims_14 0 rfl ?_
    refine f_ineg C0 dX10_trims_16 ?_
    refine f_aload_n C0 dX10_trims_17 rfl 1 rfl ⟨_, rfl⟩ ?_
    refine gf_10_15 (r := 219) C0 rfl kn_211 mw_901 dX10_trims_18 ?_
    refine f_iload_n C0 dX10_trims_21 rfl 2 rfl ?_
    obtain ⟨h29, hw⟩ := hw
    refine f_iald C0 kn_219 h29 dX10_trims_22 ?_
    refine f_imul C0 dX10_trims_23 ?_
    refine f_goto (tgt := 28) C0 dX10_trims_24 (by decide) ?_
    refine f_sub [1, 3, 4, 5, 0] rfl ?_
    exact t_X10_trims_28 C0 hZ _ _ _ _ _ hc2 _ _ hw
def F_X10_tilt (n : Nat) (x1 : Int32) (c2 : Nat) (x3 : Int32) (d : DD) (dl : LL) (Q : Int32 → DD → LL → Prop) : Prop := F_X10_trims n x1 c2 x3 0 d dl (fun r1 d2 l3 => F_X10_trims n x1 c2 x3 1 d2 l3 (fun r4 d5 l6 => F_X10_trims n x1 c2 x3 2 d5 l6 (fun r7 d8 l9 => F_X10_trims n x1 c2 x3 3 d8 l9 (fun r10 d11 l12 => Q (((((4 : Int32) * r1) + r4) - r7) - ((20 : Int32) * r10)) d11 l12))))
set_option maxHeartbeats 4000000 in
set_option maxRecDepth 100000 in
theorem m_X10_tilt {g : Ex} {n : Nat} {x1 : Int32} {c2 : Nat} {x3 : Int32} {d : DD} {dl : LL} {Q : Int32 → DD → LL → Prop} (hc2 : KL c2 11 (ln c2)) (hw : F_X10_tilt n x1 c2 x3 d dl Q) : Mi g yX10_tilt cX10_tilt 4 (some .int) 2 50 [rf g 211, .int x1, rf g c2, .int x3] d dl Q := by
  refine Mi.of (by decide) (Nat.le_of_ble_eq_true rfl) (fun x C0 hZ => ?_)
  have C0 : Cx g x cX10_tilt 4 (some .int) RX10 2 50 := C0
  refine f_iconst (v := 4) C0 dX10_tilt_0 rfl ?_
  refine f_aload_n C0 dX10_tilt_1 rfl 0 rfl ⟨_, rfl⟩ ?_
  refine f_iload_n C0 dX10_tilt_2 rfl 1 rfl ?_
  refine f_aload_n C0 dX10_tilt_3 rfl 2 rfl ⟨_, rfl⟩ ?_
  refine f_iload_n C0 dX10_tilt_4 rfl 3 rfl ?_
  refine f_iconst (v := 0) C0 dX10_tilt_5 rfl ?_
  refine f_callVi (As := [.int x1, rf g c2, .int x3, .int 0]) (rest := [.int 4]) C0 (m_X10_trims hc2 hw) cw_X10_146 kn_211 (by decide) rfl rfl ⟨(Nat.le_of_ble_eq_true rfl), (Nat.le_of_ble_eq_true rfl)⟩ rfl rfl (Nat.le_of_ble_eq_true rfl) dX10_tilt_6 ?_
  intro r1 d2 l3 hw
  refine f_imul C0 dX10_tilt_9 ?_
  refine f_aload_n C0 dX10_tilt_10 rfl 0 rfl ⟨_, rfl⟩ ?_
  refine f_iload_n C0 dX10_tilt_11 rfl 1 rfl ?_
  refine f_aload_n C0 dX10_tilt_12 rfl 2 rfl ⟨_, rfl⟩ ?_
  refine f_iload_n C0 dX10_tilt_13 rfl 3 rfl ?_
  refine f_iconst (v := 1) C0 dX10_tilt_14 rfl ?_
  refine f_callVi (As := [.int x1, rf g c2, .int x3, .int 1]) (rest := [.int ((4 : Int32) * r1)]) C0 (m_X10_trims hc2 hw) cw_X10_146 kn_211 (by decide) rfl rfl ⟨(Nat.le_of_ble_eq_true rfl), (Nat.le_of_ble_eq_true rfl)⟩ rfl rfl (Nat.le_of_ble_eq_true rfl) dX10_tilt_15 ?_
  intro r4 d5 l6 hw
  refine f_iadd C0 dX10_tilt_18 ?_
  refine f_aload_n C0 dX10_tilt_19 rfl 0 rfl ⟨_, rfl⟩ ?_
  refine f_iload_n C0 dX10_tilt_20 rfl 1 rfl ?_
  refine f_aload_n C0 dX10_tilt_21 rfl 2 rfl ⟨_, rfl⟩ ?_
  refine f_iload_n C0 dX10_tilt_22 rfl 3 rfl ?_
  refine f_iconst (v := 2) C0 dX10_tilt_23 rfl ?_
  refine f_callVi (As := [.int x1, rf g c2, .int x3, .int 2]) (rest := [.int (((4 : Int32) * r1) + r4)]) C0 (m_X10_trims hc2 hw) cw_X10_146 kn_211 (by decide) rfl rfl ⟨(Nat.le_of_ble_eq_true rfl), (Nat.le_of_ble_eq_true rfl)⟩ rfl rfl (Nat.le_of_ble_eq_true rfl) dX10_tilt_24 ?_
  intro r7 d8 l9 hw
  refine f_isub C0 dX10_tilt_27 ?_
  refine f_bipush (v := 20) C0 dX10_tilt_28 rfl ?_
  refine f_aload_n C0 dX10_tilt_30 rfl 0 rfl ⟨_, rfl⟩ ?_
  refine f_iload_n C0 dX10_tilt_31 rfl 1 rfl ?_
  refine f_aload_n C0 dX10_tilt_32 rfl 2 rfl ⟨_, rfl⟩ ?_
  refine f_iload_n C0 dX10_tilt_33 rfl 3 rfl ?_
  refine f_iconst (v := 3) C0 dX10_tilt_34 rfl ?_
  refine f_callVi (As := [.int x1, rf g c2, .int x3, .int 3]) (rest := [.int 20, .int ((((4 : Int32) * r1) + r4) - r7)]) C0 (m_X10_trims hc2 hw) cw_X10_146 kn_211 (by decide) rfl rfl ⟨(Nat.le_of_ble_eq_true rfl), (Nat.le_of_ble_eq_true rfl)⟩ rfl rfl (Nat.le_of_ble_eq_true rfl) dX10_tilt_35 ?_
  intro r10 d11 l12 hw
  refine f_imul C0 dX10_tilt_38 ?_
  refine f_isub C0 dX10_tilt_39 ?_
  exact f_iret C0 hZ hw dX10_tilt_40
def b_X10_seat_302 (n : Nat) (Q : Int32 → DD → LL → Prop) : Nat → Int32 → Int32 → Int32 → Int32 → DD → LL → Prop
  | 0 => fun _ _ _ _ _ _ => False
  | k + 1 => fun x1 x2 x4 x8 d dl => (x2 ≤ x8 → Q x4 d dl) ∧ (¬ x2 ≤ x8 → vp_in x8 8 ∧ vp_in (((8 : Int32) * x1) + x8) 48 ∧ ∀ d17 : DD, d17 = u2 d 223 (((8 : Int32) * x1) + x8).toNatClampNeg (d 245 x8.toNatClampNeg) → (b_X10_seat_302 n Q k) x1 x2 x4 (x8 + 1) d17 dl)
def b_X10_seat_254 (n : Nat) (Q : Int32 → DD → LL → Prop) (K63 : Int32 → Int32 → Int32 → Int32 → Int32 → Int32 → Int32 → DD → LL → Prop) : Nat → Int32 → Int32 → Int32 → Int32 → Int32 → Int32 → Int32 → Int32 → DD → LL → Prop
  | 0 => fun _ _ _ _ _ _ _ _ _ _ => False
  | k + 1 => fun x1 x2 x3 x4 x5 x6 x7 x10 d dl => (x2 ≤ x10 → K63 x1 x2 x3 x4 x5 x6 x7 d dl) ∧ (¬ x2 ≤ x10 → vp_in x10 8 ∧ vp_in x10 8 ∧ ∀ d38 : DD, d38 = u2 d 245 x10.toNatClampNeg (d 247 x10.toNatClampNeg) → (b_X10_seat_254 n Q K63 k) x1 x2 x3 x4 x5 x6 x7 (x10 + 1) d38 dl)
def b_X10_seat_244 (n : Nat) (Q : Int32 → DD → LL → Prop) (K63 : Int32 → Int32 → Int32 → Int32 → Int32 → Int32 → Int32 → DD → LL → Prop) (x1 : Int32) (x2 : Int32) (x3 : Int32) (x6 : Int32) (x7 : Int32) (x9 : Int32) (d : DD) (dl : LL) : Prop := b_X10_seat_254 n Q K63 n x1 x2 x3 x9 1 x6 x7 0 d dl
def b_X10_seat_149 (n : Nat) (Q : Int32 → DD → LL → Prop) (K63 : Int32 → Int32 → Int32 → Int32 → Int32 → Int32 → Int32 → DD → LL → Prop) (x1 : Int32) (x2 : Int32) (x3 : Int32) (x4 : Int32) (x5 : Int32) (x6 : Int32) (x7 : Int32) (x8 : Int32) (d : DD) (dl : LL) : Prop := (¬ x8 = x3 → vp_in x6 8 ∧ ∀ d25 : DD, d25 = u2 d 244 x6.toNatClampNeg x8 → ∀ v26 : Int32, v26 = (x7 ||| ((1 : Int32) <<< (x8 &&& 31))) → vp_in (((8 : Int32) * x1) + x8) 48 ∧ vp_in x6 8 ∧ ∀ d29 : DD, d29 = u2 d25 247 x6.toNatClampNeg (d25 222 (((8 : Int32) * x1) + x8).toNatClampNeg) → (x2 ≤ (x6 + 1) → F_X10_tilt n x1 247 0 d29 dl (fun r31 d32 l33 => (x5 = 0 → b_X10_seat_244 n Q K63 x1 x2 x3 x6 v26 r31 d32 l33) ∧ (¬ x5 = 0 → (x4 ≤ r31 → K63 x1 x2 x3 x4 x5 x6 v26 d32 l33) ∧ (¬ x4 ≤ r31 → b_X10_seat_244 n Q K63 x1 x2 x3 x6 v26 r31 d32 l33)))) ∧ (¬ x2 ≤ (x6 + 1) → K63 x1 x2 x3 x4 x5 (x6 + 1) v26 d29 dl)) ∧ (x8 = x3 → vp_in x6 8 ∧ ∀ d41 : DD, d41 = u2 d 244 x6.toNatClampNeg (-1) → K63 x1 x2 x3 x4 x5 (x6 + (-1)) x7 d41 dl)
def b_X10_seat_105 (n : Nat) (Q : Int32 → DD → LL → Prop) (K63 : Int32 → Int32 → Int32 → Int32 → Int32 → Int32 → Int32 → DD → LL → Prop) : Nat → Int32 → Int32 → Int32 → Int32 → Int32 → Int32 → Int32 → Int32 → DD → LL → Prop
  | 0 => fun _ _ _ _ _ _ _ _ _ _ => False
  | k + 1 => fun x1 x2 x3 x4 x5 x6 x7 x8 d dl => (x3 ≤ x8 → b_X10_seat_149 n Q K63 x1 x2 x3 x4 x5 x6 x7 x8 d dl) ∧ (¬ x3 ≤ x8 → (((x7 >>> (x8 &&& 31)) &&& 1) = 1 → (b_X10_seat_105 n Q K63 k) x1 x2 x3 x4 x5 x6 x7 (x8 + 1) d dl) ∧ (¬ ((x7 >>> (x8 &&& 31)) &&& 1) = 1 → vp_in (((8 : Int32) * x1) + x8) 48 ∧ F_X10_fits n (d 222 (((8 : Int32) * x1) + x8).toNatClampNeg) x6 d dl (fun r44 d45 l46 => (¬ r44 = 0 → b_X10_seat_149 n Q K63 x1 x2 x3 x4 x5 x6 x7 x8 d45 l46) ∧ (r44 = 0 → (b_X10_seat_105 n Q K63 k) x1 x2 x3 x4 x5 x6 x7 (x8 + 1) d45 l46))))
def b_X10_seat_94 (n : Nat) (Q : Int32 → DD → LL → Prop) (K63 : Int32 → Int32 → Int32 → Int32 → Int32 → Int32 → Int32 → DD → LL → Prop) (x1 : Int32) (x2 : Int32) (x3 : Int32) (x4 : Int32) (x5 : Int32) (x6 : Int32) (x7 : Int32) (d : DD) (dl : LL) : Prop := vp_in x6 8 ∧ ∀ v21 : Int32, v21 = ((d 244 x6.toNatClampNeg) + 1) → b_X10_seat_105 n Q K63 n x1 x2 x3 x4 x5 x6 x7 v21 d dl
def b_X10_seat_63 (n : Nat) (Q : Int32 → DD → LL → Prop) : Nat → Int32 → Int32 → Int32 → Int32 → Int32 → Int32 → Int32 → DD → LL → Prop
  | 0 => fun _ _ _ _ _ _ _ _ _ => False
  | k + 1 => fun x1 x2 x3 x4 x5 x6 x7 d dl => (x6 < 0 → vp_in x1 6 ∧ ∀ d12 : DD, d12 = u2 d 224 x1.toNatClampNeg (vp_nar .boolean x5) → (¬ x5 = 0 → b_X10_seat_302 n Q n x1 x2 x4 0 d12 dl) ∧ (x5 = 0 → Q (-100001) d12 dl)) ∧ (¬ x6 < 0 → vp_in x6 8 ∧ ((d 244 x6.toNatClampNeg) < 0 → b_X10_seat_94 n Q (b_X10_seat_63 n Q k) x1 x2 x3 x4 x5 x6 x7 d dl) ∧ (¬ (d 244 x6.toNatClampNeg) < 0 → vp_in x6 8 ∧ ∀ v49 : Int32, v49 = (x7 &&& (((1 : Int32) <<< ((d 244 x6.toNatClampNeg) &&& 31)) ^^^ (-1))) → b_X10_seat_94 n Q (b_X10_seat_63 n Q k) x1 x2 x3 x4 x5 x6 v49 d dl))
def b_X10_seat_42 (n : Nat) (Q : Int32 → DD → LL → Prop) : Nat → Int32 → Int32 → Int32 → Int32 → Int32 → Int32 → Int32 → Int32 → DD → LL → Prop
  | 0 => fun _ _ _ _ _ _ _ _ _ _ => False
  | k + 1 => fun x1 x2 x3 x4 x5 x6 x7 x8 d dl => (8 ≤ x8 → b_X10_seat_63 n Q n x1 x2 x3 x4 x5 x6 x7 d dl) ∧ (¬ 8 ≤ x8 → vp_in x8 8 ∧ ∀ d51 : DD, d51 = u2 d 244 x8.toNatClampNeg (-1) → (b_X10_seat_42 n Q k) x1 x2 x3 x4 x5 x6 x7 (x8 + 1) d51 dl)
def F_X10_seat (n : Nat) (x1 : Int32) (d : DD) (dl : LL) (Q : Int32 → DD → LL → Prop) : Prop := F_X10_isCrew n x1 d dl (fun r1 d2 l3 => (¬ r1 = 0 → vp_in x1 6 ∧ ∀ v6 : Int32, v6 = ((2 : Int32) * (d2 218 x1.toNatClampNeg)) → vp_in x1 6 ∧ ∀ v8 : Int32, v8 = (d2 220 x1.toNatClampNeg) → b_X10_seat_42 n Q n x1 v6 v8 0 0 0 0 0 d2 l3) ∧ (r1 = 0 → Q (-100000) d2 l3))
set_option maxHeartbeats 4000000 in
set_option maxRecDepth 100000 in
theorem t_X10_seat_302 {g : Ex} {x : Fx} {n : Nat} {Q : Int32 → DD → LL → Prop} (C0 : Cx g x cX10_seat 11 (some .int) RX10 3 73) (hZ : Zi g x Q) : ∀ (j : Nat) (x1 : Int32) (x2 : Int32) (x4 : Int32) (x8 : Int32) (d : DD) (dl : LL), b_X10_seat_302 n Q j x1 x2 x4 x8 d dl → FW g x 11 d dl 302 [(0, rf g 211), (1, .int x1), (2, .int x2), (4, .int x4), (8, .int x8)] [] := by
  intro j
  induction j with
  | zero =>
    intro x1 x2 x4 x8 d dl hw
    exact hw.elim
  | succ j hK302 =>
    intro x1 x2 x4 x8 d dl hw
    refine f_iload C0 dX10_seat_302 4 rfl ?_
    refine f_iload_n C0 dX10_seat_304 rfl 2 rfl ?_
    refine f_icmp_ge (tgt := 333) C0 dX10_seat_305 (by decide) (fun h14 => ?_) (fun h14 => ?_)
    · have hw := hw.1 h14
      refine f_iload C0 dX10_seat_333 3 rfl ?_
      exact f_iret C0 hZ hw dX10_seat_335
    · have hw := hw.2 h14
      refine f_aload_n C0 dX10_seat_308 rfl 0 rfl ⟨_, rfl⟩ ?_
      refine gf_10_19 (r := 223) C0 rfl kn_211 mw_905 dX10_seat_309 ?_
      refine f_bipush (v := 8) C0 dX10_seat_312 rfl ?_
      refine f_iload_n C0 dX10_seat_314 rfl 1 rfl ?_
      refine f_imul C0 dX10_seat_315 ?_
      refine f_iload C0 dX10_seat_316 4 rfl ?_
      refine f_iadd C0 dX10_seat_318 ?_
      refine f_aload_n C0 dX10_seat_319 rfl 0 rfl ⟨_, rfl⟩ ?_
      refine gf_10_41 (r := 245) C0 rfl kn_211 mw_927 dX10_seat_320 ?_
      refine f_iload C0 dX10_seat_323 4 rfl ?_
      obtain ⟨h15, hw⟩ := hw
      refine f_iald C0 kn_245 h15 dX10_seat_325 ?_
      obtain ⟨h16, hw⟩ := hw
      refine f_iast C0 kn_223 h16 dX10_seat_326 (fun d17 ed17 => ?_)
      have hw := hw d17 ed17
      refine f_iinc (lo' := [(8, .int (x8 + 1)), (0, rf g 211), (1, .int x1), (2, .int x2), (4, .int x4)]) C0 dX10_seat_327 4 rfl rfl (by decide) rfl ?_
      refine f_goto (tgt := 302) C0 dX10_seat_330 (by decide) ?_
      refine f_sub [1, 2, 3, 4, 0] rfl ?_
      exact hK302 _ _ _ _ _ _ hw
set_option maxHeartbeats 4000000 in
set_option maxRecDepth 100000 in
theorem t_X10_seat_254 {g : Ex} {x : Fx} {n : Nat} {Q : Int32 → DD → LL → Prop} (C0 : Cx g x cX10_seat 11 (some .int) RX10 3 73) (hZ : Zi g x Q) {K63 : Int32 → Int32 → Int32 → Int32 → Int32 → Int32 → Int32 → DD → LL → Prop} (hK63 : ∀ (x1 : Int32) (x2 : Int32) (x3 : Int32) (x4 : Int32) (x5 : Int32) (x6 : Int32) (x7 : Int32) (d : DD) (dl : LL), K63 x1 x2 x3 x4 x5 x6 x7 d dl → FW g x 11 d dl 63 [(0, rf g 211), (1, .int x1), (2, .int x2), (3, .int x3), (4, .int x4), (5, .int x5), (6, .int x6), (7, .int x7)] []) : ∀ (j : Nat) (x1 : Int32) (x2 : Int32) (x3 : Int32) (x4 : Int32) (x5 : Int32) (x6 : Int32) (x7 : Int32) (x10 : Int32) (d : DD) (dl : LL), b_X10_seat_254 n Q K63 j x1 x2 x3 x4 x5 x6 x7 x10 d dl → FW g x 11 d dl 254 [(0, rf g 211), (1, .int x1), (2, .int x2), (3, .int x3), (4, .int x4), (5, .int x5), (6, .int x6), (7, .int x7), (10, .int x10)] [] := by
  intro j
  induction j with
  | zero =>
    intro x1 x2 x3 x4 x5 x6 x7 x10 d dl hw
    exact hw.elim
  | succ j hK254 =>
    intro x1 x2 x3 x4 x5 x6 x7 x10 d dl hw
    refine f_iload C0 dX10_seat_254 8 rfl ?_
    refine f_iload_n C0 dX10_seat_256 rfl 2 rfl ?_
    refine f_icmp_ge (tgt := 280) C0 dX10_seat_257 (by decide) (fun h35 => ?_) (fun h35 => ?_)
    · have hw := hw.1 h35
      refine f_goto (tgt := 63) C0 dX10_seat_280 (by decide) ?_
      refine f_sub [0, 1, 2, 3, 4, 5, 6, 7] rfl ?_
      exact hK63 _ _ _ _ _ _ _ _ _ hw
    · have hw := hw.2 h35
      refine f_aload_n C0 dX10_seat_260 rfl 0 rfl ⟨_, rfl⟩ ?_
      refine gf_10_41 (r := 245) C0 rfl kn_211 mw_927 dX10_seat_261 ?_
      refine f_iload C0 dX10_seat_264 8 rfl ?_
      refine f_aload_n C0 dX10_seat_266 rfl 0 rfl ⟨_, rfl⟩ ?_
      refine gf_10_43 (r := 247) C0 rfl kn_211 mw_929 dX10_seat_267 ?_
      refine f_iload C0 dX10_seat_270 8 rfl ?_
      obtain ⟨h36, hw⟩ := hw
      refine f_iald C0 kn_247 h36 dX10_seat_272 ?_
      obtain ⟨h37, hw⟩ := hw
      refine f_iast C0 kn_245 h37 dX10_seat_273 (fun d38 ed38 => ?_)
      have hw := hw d38 ed38
      refine f_iinc (lo' := [(10, .int (x10 + 1)), (0, rf g 211), (1, .int x1), (2, .int x2), (3, .int x3), (4, .int x4), (5, .int x5), (6, .int x6), (7, .int x7)]) C0 dX10_seat_274 8 rfl rfl (by decide) rfl ?_
      refine f_goto (tgt := 254) C0 dX10_seat_277 (by decide) ?_
      refine f_sub [1, 2, 3, 4, 5, 6, 7, 8, 0] rfl ?_
      exact hK254 _ _ _ _ _ _ _ _ _ _ hw
set_option maxHeartbeats 4000000 in
set_option maxRecDepth 100000 in
theorem t_X10_seat_244 {g : Ex} {x : Fx} {n : Nat} {Q : Int32 → DD → LL → Prop} (C0 : Cx g x cX10_seat 11 (some .int) RX10 3 73) (hZ : Zi g x Q) {K63 : Int32 → Int32 → Int32 → Int32 → Int32 → Int32 → Int32 → DD → LL → Prop} (hK63 : ∀ (x1 : Int32) (x2 : Int32) (x3 : Int32) (x4 : Int32) (x5 : Int32) (x6 : Int32) (x7 : Int32) (d : DD) (dl : LL), K63 x1 x2 x3 x4 x5 x6 x7 d dl → FW g x 11 d dl 63 [(0, rf g 211), (1, .int x1), (2, .int x2), (3, .int x3), (4, .int x4), (5, .int x5), (6, .int x6), (7, .int x7)] []) : ∀ (x1 : Int32) (x2 : Int32) (x3 : Int32) (x6 : Int32) (x7 : Int32) (x9 : Int32) (d : DD) (dl : LL), b_X10_seat_244 n Q K63 x1 x2 x3 x6 x7 x9 d dl → FW g x 11 d dl 244 [(0, rf g 211), (1, .int x1), (2, .int x2), (3, .int x3), (6, .int x6), (7, .int x7), (9, .int x9)] [] := by
  intro x1 x2 x3 x6 x7 x9 d dl hw
  refine f_iconst (v := 1) C0 dX10_seat_244 rfl ?_
  refine f_istore (lo' := [(5, .int 1), (0, rf g 211), (1, .int x1), (2, .int x2), (3, .int x3), (6, .int x6), (7, .int x7), (9, .int x9)]) C0 dX10_seat_245 (by decide) rfl ?_
  refine f_iload C0 dX10_seat_247 7 rfl ?_
  refine f_istore (lo' := [(4, .int x9), (5, .int 1), (0, rf g 211), (1, .int x1), (2, .int x2), (3, .int x3), (6, .int x6), (7, .int x7), (9, .int x9)]) C0 dX10_seat_249 (by decide) rfl ?_
  refine f_iconst (v := 0) C0 dX10_seat_251 rfl ?_
  refine f_istore (lo' := [(10, .int 0), (4, .int x9), (5, .int 1), (0, rf g 211), (1, .int x1), (2, .int x2), (3, .int x3), (6, .int x6), (7, .int x7), (9, .int x9)]) C0 dX10_seat_252 (by decide) rfl ?_
  refine f_sub [3, 4, 5, 6, 1, 2, 7, 8, 0] rfl ?_
  exact t_X10_seat_254 C0 hZ hK63 n _ _ _ _ _ _ _ _ _ _ hw
set_option maxHeartbeats 4000000 in
set_option maxRecDepth 100000 in
theorem t_X10_seat_149 {g : Ex} {x : Fx} {n : Nat} {Q : Int32 → DD → LL → Prop} (C0 : Cx g x cX10_seat 11 (some .int) RX10 3 73) (hZ : Zi g x Q) {K63 : Int32 → Int32 → Int32 → Int32 → Int32 → Int32 → Int32 → DD → LL → Prop} (hK63 : ∀ (x1 : Int32) (x2 : Int32) (x3 : Int32) (x4 : Int32) (x5 : Int32) (x6 : Int32) (x7 : Int32) (d : DD) (dl : LL), K63 x1 x2 x3 x4 x5 x6 x7 d dl → FW g x 11 d dl 63 [(0, rf g 211), (1, .int x1), (2, .int x2), (3, .int x3), (4, .int x4), (5, .int x5), (6, .int x6), (7, .int x7)] []) : ∀ (x1 : Int32) (x2 : Int32) (x3 : Int32) (x4 : Int32) (x5 : Int32) (x6 : Int32) (x7 : Int32) (x8 : Int32) (d : DD) (dl : LL), b_X10_seat_149 n Q K63 x1 x2 x3 x4 x5 x6 x7 x8 d dl → FW g x 11 d dl 149 [(0, rf g 211), (1, .int x1), (2, .int x2), (3, .int x3), (4, .int x4), (5, .int x5), (6, .int x6), (7, .int x7), (8, .int x8)] [] := by
  intro x1 x2 x3 x4 x5 x6 x7 x8 d dl hw
  refine f_iload C0 dX10_seat_149 8 rfl ?_
  refine f_iload_n C0 dX10_seat_151 rfl 3 rfl ?_
  refine f_icmp_ne (tgt := 169) C0 dX10_seat_152 (by decide) (fun h23 => ?_) (fun h23 => ?_)
  · have hw := hw.1 h23
    refine f_aload_n C0 dX10_seat_169 rfl 0 rfl ⟨_, rfl⟩ ?_
    refine gf_10_40 (r := 244) C0 rfl kn_211 mw_926 dX10_seat_170 ?_
    refine f_iload C0 dX10_seat_173 6 rfl ?_
    refine f_iload C0 dX10_seat_175 8 rfl ?_
    obtain ⟨h24, hw⟩ := hw
    refine f_iast C0 kn_244 h24 dX10_seat_177 (fun d25 ed25 => ?_)
    have hw := hw d25 ed25
    refine f_iload C0 dX10_seat_178 7 rfl ?_
    refine f_iconst (v := 1) C0 dX10_seat_180 rfl ?_
    refine f_iload C0 dX10_seat_181 8 rfl ?_
    refine f_ishl C0 dX10_seat_183 ?_
    refine f_ior C0 dX10_seat_184 ?_
    refine f_topi (fun v26 e26 => ?_)
    have hw := hw v26 e26
    refine f_istore (lo' := [(7, .int v26), (0, rf g 211), (1, .int x1), (2, .int x2), (3, .int x3), (4, .int x4), (5, .int x5), (6, .int x6), (8, .int x8)]) C0 dX10_seat_185 (by decide) rfl ?_
    refine f_aload_n C0 dX10_seat_187 rfl 1 rfl ⟨_, rfl⟩ ?_
    refine gf_10_43 (r := 247) C0 rfl kn_211 mw_929 dX10_seat_188 ?_
    refine f_iload C0 dX10_seat_191 7 rfl ?_
    refine f_aload_n C0 dX10_seat_193 rfl 1 rfl ⟨_, rfl⟩ ?_
    refine gf_10_18 (r := 222) C0 rfl kn_211 mw_904 dX10_seat_194 ?_
    refine f_bipush (v := 8) C0 dX10_seat_197 rfl ?_
    refine f_iload_n C0 dX10_seat_199 rfl 2 rfl ?_
    refine f_imul C0 dX10_seat_200 ?_
    refine f_iload C0 dX10_seat_201 8 rfl ?_
    refine f_iadd C0 dX10_seat_203 ?_
    obtain ⟨h27, hw⟩ := hw
    refine f_iald C0 kn_222 h27 dX10_seat_204 ?_
    obtain ⟨h28, hw⟩ := hw
    refine f_iast C0 kn_247 h28 dX10_seat_205 (fun d29 ed29 => ?_)
    have hw := hw d29 ed29
    refine f_iload C0 dX10_seat_206 7 rfl ?_
    refine f_iconst (v := 1) C0 dX10_seat_208 rfl ?_
    refine f_iadd C0 dX10_seat_209 ?_
    refine f_iload_n C0 dX10_seat_210 rfl 3 rfl ?_
    refine f_icmp_ge (tgt := 220) C0 dX10_seat_211 (by decide) (fun h30 => ?_) (fun h30 => ?_)
    · have hw := hw.1 h30
      refine f_aload_n C0 dX10_seat_220 rfl 1 rfl ⟨_, rfl⟩ ?_
      refine f_iload_n C0 dX10_seat_221 rfl 2 rfl ?_
      refine f_aload_n C0 dX10_seat_222 rfl 1 rfl ⟨_, rfl⟩ ?_
      refine gf_10_43 (r := 247) C0 rfl kn_211 mw_929 dX10_seat_223 ?_
      refine f_iconst (v := 0) C0 dX10_seat_226 rfl ?_
      refine f_callVi (As := [.int x1, rf g 247, .int 0]) (rest := []) C0 (m_X10_tilt ⟨kn_247.1, kn_247.2.1, rfl⟩ hw) cw_X10_154 kn_211 (by decide) rfl rfl ⟨(Nat.le_of_ble_eq_true rfl), (Nat.le_of_ble_eq_true rfl)⟩ rfl rfl (Nat.le_of_ble_eq_true rfl) dX10_seat_227 ?_
      intro r31 d32 l33 hw
      refine f_istore (lo' := [(9, .int r31), (7, .int v26), (0, rf g 211), (1, .int x1), (2, .int x2), (3, .int x3), (4, .int x4), (5, .int x5), (6, .int x6), (8, .int x8)]) C0 dX10_seat_230 (by decide) rfl ?_
      refine f_iload C0 dX10_seat_232 7 rfl ?_
      refine f_if_eq (tgt := 244) C0 dX10_seat_234 (by decide) (fun h34 => ?_) (fun h34 => ?_)
      · have hw := hw.1 h34
        refine f_sub [2, 3, 4, 5, 8, 1, 0] rfl ?_
        exact t_X10_seat_244 C0 hZ hK63 _ _ _ _ _ _ _ _ hw
      · have hw := hw.2 h34
        refine f_iload C0 dX10_seat_237 0 rfl ?_
        refine f_iload C0 dX10_seat_239 6 rfl ?_
        refine f_icmp_ge (tgt := 280) C0 dX10_seat_241 (by decide) (fun h39 => ?_) (fun h39 => ?_)
        · have hw := hw.1 h39
          refine f_goto (tgt := 63) C0 dX10_seat_280 (by decide) ?_
          refine f_sub [2, 3, 4, 5, 6, 7, 8, 1] rfl ?_
          exact hK63 _ _ _ _ _ _ _ _ _ hw
        · have hw := hw.2 h39
          refine f_sub [2, 3, 4, 5, 8, 1, 0] rfl ?_
          exact t_X10_seat_244 C0 hZ hK63 _ _ _ _ _ _ _ _ hw
    · have hw := hw.2 h30
      refine f_iinc (lo' := [(6, .int (x6 + 1)), (7, .int v26), (0, rf g 211), (1, .int x1), (2, .int x2), (3, .int x3), (4, .int x4), (5, .int x5), (8, .int x8)]) C0 dX10_seat_214 7 rfl rfl (by decide) rfl ?_
      refine f_goto (tgt := 63) C0 dX10_seat_217 (by decide) ?_
      refine f_sub [2, 3, 4, 5, 6, 7, 0, 1] rfl ?_
      exact hK63 _ _ _ _ _ _ _ _ _ hw
  · have hw := hw.2 h23
    refine f_aload_n C0 dX10_seat_155 rfl 0 rfl ⟨_, rfl⟩ ?_
    refine gf_10_40 (r := 244) C0 rfl kn_211 mw_926 dX10_seat_156 ?_
    refine f_iload C0 dX10_seat_159 6 rfl ?_
    refine f_iconst (v := (-1)) C0 dX10_seat_161 rfl ?_
    obtain ⟨h40, hw⟩ := hw
    refine f_iast C0 kn_244 h40 dX10_seat_162 (fun d41 ed41 => ?_)
    have hw := hw d41 ed41
    refine f_iinc (lo' := [(6, .int (x6 + (-1))), (0, rf g 211), (1, .int x1), (2, .int x2), (3, .int x3), (4, .int x4), (5, .int x5), (7, .int x7), (8, .int x8)]) C0 dX10_seat_163 6 rfl rfl (by decide) rfl ?_
    refine f_goto (tgt := 63) C0 dX10_seat_166 (by decide) ?_
    refine f_sub [1, 2, 3, 4, 5, 6, 0, 7] rfl ?_
    exact hK63 _ _ _ _ _ _ _ _ _ hw
set_option maxHeartbeats 4000000 in
set_option maxRecDepth 100000 in
theorem t_X10_seat_105 {g : Ex} {x : Fx} {n : Nat} {Q : Int32 → DD → LL → Prop} (C0 : Cx g x cX10_seat 11 (some .int) RX10 3 73) (hZ : Zi g x Q) {K63 : Int32 → Int32 → Int32 → Int32 → Int32 → Int32 → Int32 → DD → LL → Prop} (hK63 : ∀ (x1 : Int32) (x2 : Int32) (x3 : Int32) (x4 : Int32) (x5 : Int32) (x6 : Int32) (x7 : Int32) (d : DD) (dl : LL), K63 x1 x2 x3 x4 x5 x6 x7 d dl → FW g x 11 d dl 63 [(0, rf g 211), (1, .int x1), (2, .int x2), (3, .int x3), (4, .int x4), (5, .int x5), (6, .int x6), (7, .int x7)] []) : ∀ (j : Nat) (x1 : Int32) (x2 : Int32) (x3 : Int32) (x4 : Int32) (x5 : Int32) (x6 : Int32) (x7 : Int32) (x8 : Int32) (d : DD) (dl : LL), b_X10_seat_105 n Q K63 j x1 x2 x3 x4 x5 x6 x7 x8 d dl → FW g x 11 d dl 105 [(0, rf g 211), (1, .int x1), (2, .int x2), (3, .int x3), (4, .int x4), (5, .int x5), (6, .int x6), (7, .int x7), (8, .int x8)] [] := by
  intro j
  induction j with
  | zero =>
    intro x1 x2 x3 x4 x5 x6 x7 x8 d dl hw
    exact hw.elim
  | succ j hK105 =>
    intro x1 x2 x3 x4 x5 x6 x7 x8 d dl hw
    refine f_iload C0 dX10_seat_105 8 rfl ?_
    refine f_iload_n C0 dX10_seat_107 rfl 3 rfl ?_
    refine f_icmp_ge (tgt := 149) C0 dX10_seat_108 (by decide) (fun h22 => ?_) (fun h22 => ?_)
    · have hw := hw.1 h22
      exact t_X10_seat_149 C0 hZ hK63 _ _ _ _ _ _ _ _ _ _ hw
    · have hw := hw.2 h22
      refine f_iload C0 dX10_seat_111 7 rfl ?_
      refine f_iload C0 dX10_seat_113 8 rfl ?_
      refine f_ishr C0 dX10_seat_115 ?_
      refine f_iconst (v := 1) C0 dX10_seat_116 rfl ?_
      refine f_iand C0 dX10_seat_117 ?_
      refine f_iconst (v := 1) C0 dX10_seat_118 rfl ?_
      refine f_icmp_eq (tgt := 143) C0 dX10_seat_119 (by decide) (fun h42 => ?_) (fun h42 => ?_)
      · have hw := hw.1 h42
        refine f_iinc (lo' := [(8, .int (x8 + 1)), (0, rf g 211), (1, .int x1), (2, .int x2), (3, .int x3), (4, .int x4), (5, .int x5), (6, .int x6), (7, .int x7)]) C0 dX10_seat_143 8 rfl rfl (by decide) rfl ?_
        refine f_goto (tgt := 105) C0 dX10_seat_146 (by decide) ?_
        refine f_sub [1, 2, 3, 4, 5, 6, 7, 8, 0] rfl ?_
        exact hK105 _ _ _ _ _ _ _ _ _ _ hw
      · have hw := hw.2 h42
        refine f_aload_n C0 dX10_seat_122 rfl 0 rfl ⟨_, rfl⟩ ?_
        refine f_aload_n C0 dX10_seat_123 rfl 0 rfl ⟨_, rfl⟩ ?_
        refine gf_10_18 (r := 222) C0 rfl kn_211 mw_904 dX10_seat_124 ?_
        refine f_bipush (v := 8) C0 dX10_seat_127 rfl ?_
        refine f_iload_n C0 dX10_seat_129 rfl 1 rfl ?_
        refine f_imul C0 dX10_seat_130 ?_
        refine f_iload C0 dX10_seat_131 8 rfl ?_
        refine f_iadd C0 dX10_seat_133 ?_
        obtain ⟨h43, hw⟩ := hw
        refine f_iald C0 kn_222 h43 dX10_seat_134 ?_
        refine f_iload C0 dX10_seat_135 6 rfl ?_
        refine f_callVi (As := [.int (d 222 (((8 : Int32) * x1) + x8).toNatClampNeg), .int x6]) (rest := []) C0 (m_X10_fits hw) cw_X10_151 kn_211 (by decide) rfl rfl ⟨(Nat.le_of_ble_eq_true rfl), (Nat.le_of_ble_eq_true rfl)⟩ rfl rfl (Nat.le_of_ble_eq_true rfl) dX10_seat_137 ?_
        intro r44 d45 l46 hw
        refine f_if_ne (tgt := 149) C0 dX10_seat_140 (by decide) (fun h47 => ?_) (fun h47 => ?_)
        · have hw := hw.1 h47
          exact t_X10_seat_149 C0 hZ hK63 _ _ _ _ _ _ _ _ _ _ hw
        · have hw := hw.2 h47
          refine f_iinc (lo' := [(8, .int (x8 + 1)), (0, rf g 211), (1, .int x1), (2, .int x2), (3, .int x3), (4, .int x4), (5, .int x5), (6, .int x6), (7, .int x7)]) C0 dX10_seat_143 8 rfl rfl (by decide) rfl ?_
          refine f_goto (tgt := 105) C0 dX10_seat_146 (by decide) ?_
          refine f_sub [1, 2, 3, 4, 5, 6, 7, 8, 0] rfl ?_
          exact hK105 _ _ _ _ _ _ _ _ _ _ hw
set_option maxHeartbeats 4000000 in
set_option maxRecDepth 100000 in
theorem t_X10_seat_94 {g : Ex} {x : Fx} {n : Nat} {Q : Int32 → DD → LL → Prop} (C0 : Cx g x cX10_seat 11 (some .int) RX10 3 73) (hZ : Zi g x Q) {K63 : Int32 → Int32 → Int32 → Int32 → Int32 → Int32 → Int32 → DD → LL → Prop} (hK63 : ∀ (x1 : Int32) (x2 : Int32) (x3 : Int32) (x4 : Int32) (x5 : Int32) (x6 : Int32) (x7 : Int32) (d : DD) (dl : LL), K63 x1 x2 x3 x4 x5 x6 x7 d dl → FW g x 11 d dl 63 [(0, rf g 211), (1, .int x1), (2, .int x2), (3, .int x3), (4, .int x4), (5, .int x5), (6, .int x6), (7, .int x7)] []) : ∀ (x1 : Int32) (x2 : Int32) (x3 : Int32) (x4 : Int32) (x5 : Int32) (x6 : Int32) (x7 : Int32) (d : DD) (dl : LL), b_X10_seat_94 n Q K63 x1 x2 x3 x4 x5 x6 x7 d dl → FW g x 11 d dl 94 [(0, rf g 211), (1, .int x1), (2, .int x2), (3, .int x3), (4, .int x4), (5, .int x5), (6, .int x6), (7, .int x7)] [] := by
  intro x1 x2 x3 x4 x5 x6 x7 d dl hw
  refine f_aload_n C0 dX10_seat_94 rfl 0 rfl ⟨_, rfl⟩ ?_
  refine gf_10_40 (r := 244) C0 rfl kn_211 mw_926 dX10_seat_95 ?_
  refine f_iload C0 dX10_seat_98 6 rfl ?_
  obtain ⟨h20, hw⟩ := hw
  refine f_iald C0 kn_244 h20 dX10_seat_100 ?_
  refine f_iconst (v := 1) C0 dX10_seat_101 rfl ?_
  refine f_iadd C0 dX10_seat_102 ?_
  refine f_topi (fun v21 e21 => ?_)
  have hw := hw v21 e21
  refine f_istore (lo' := [(8, .int v21), (0, rf g 211), (1, .int x1), (2, .int x2), (3, .int x3), (4, .int x4), (5, .int x5), (6, .int x6), (7, .int x7)]) C0 dX10_seat_103 (by decide) rfl ?_
  refine f_sub [1, 2, 3, 4, 5, 6, 7, 8, 0] rfl ?_
  exact t_X10_seat_105 C0 hZ hK63 n _ _ _ _ _ _ _ _ _ _ hw
set_option maxHeartbeats 4000000 in
set_option maxRecDepth 100000 in
theorem t_X10_seat_63 {g : Ex} {x : Fx} {n : Nat} {Q : Int32 → DD → LL → Prop} (C0 : Cx g x cX10_seat 11 (some .int) RX10 3 73) (hZ : Zi g x Q) : ∀ (j : Nat) (x1 : Int32) (x2 : Int32) (x3 : Int32) (x4 : Int32) (x5 : Int32) (x6 : Int32) (x7 : Int32) (d : DD) (dl : LL), b_X10_seat_63 n Q j x1 x2 x3 x4 x5 x6 x7 d dl → FW g x 11 d dl 63 [(0, rf g 211), (1, .int x1), (2, .int x2), (3, .int x3), (4, .int x4), (5, .int x5), (6, .int x6), (7, .int x7)] [] := by
  intro j
  induction j with
  | zero =>
    intro x1 x2 x3 x4 x5 x6 x7 d dl hw
    exact hw.elim
  | succ j hK63 =>
    intro x1 x2 x3 x4 x5 x6 x7 d dl hw
    refine f_iload C0 dX10_seat_63 6 rfl ?_
    refine f_if_lt (tgt := 283) C0 dX10_seat_65 (by decide) (fun h10 => ?_) (fun h10 => ?_)
    · have hw := hw.1 h10
      refine f_aload_n C0 dX10_seat_283 rfl 0 rfl ⟨_, rfl⟩ ?_
      refine gf_10_20 (r := 224) C0 rfl kn_211 mw_906 dX10_seat_284 ?_
      refine f_iload_n C0 dX10_seat_287 rfl 1 rfl ?_
      refine f_iload C0 dX10_seat_288 5 rfl ?_
      obtain ⟨h11, hw⟩ := hw
      refine f_zast C0 kn_224 h11 dX10_seat_290 (fun d12 ed12 => ?_)
      have hw := hw d12 ed12
      refine f_iload C0 dX10_seat_291 5 rfl ?_
      refine f_if_ne (tgt := 299) C0 dX10_seat_293 (by decide) (fun h13 => ?_) (fun h13 => ?_)
      · have hw := hw.1 h13
        refine f_iconst (v := 0) C0 dX10_seat_299 rfl ?_
        refine f_istore (lo' := [(8, .int 0), (0, rf g 211), (1, .int x1), (2, .int x2), (3, .int x3), (4, .int x4), (5, .int x5), (6, .int x6), (7, .int x7)]) C0 dX10_seat_300 (by decide) rfl ?_
        refine f_sub [1, 2, 3, 5, 0] rfl ?_
        exact t_X10_seat_302 C0 hZ n _ _ _ _ _ _ hw
      · have hw := hw.2 h13
        refine f_ldc (v := (-100001)) C0 mw_1083 dX10_seat_296 ?_
        exact f_iret C0 hZ hw dX10_seat_298
    · have hw := hw.2 h10
      refine f_aload_n C0 dX10_seat_68 rfl 0 rfl ⟨_, rfl⟩ ?_
      refine gf_10_40 (r := 244) C0 rfl kn_211 mw_926 dX10_seat_69 ?_
      refine f_iload C0 dX10_seat_72 6 rfl ?_
      obtain ⟨h18, hw⟩ := hw
      refine f_iald C0 kn_244 h18 dX10_seat_74 ?_
      refine f_if_lt (tgt := 94) C0 dX10_seat_75 (by decide) (fun h19 => ?_) (fun h19 => ?_)
      · have hw := hw.1 h19
        exact t_X10_seat_94 C0 hZ hK63 _ _ _ _ _ _ _ _ _ hw
      · have hw := hw.2 h19
        refine f_iload C0 dX10_seat_78 7 rfl ?_
        refine f_iconst (v := 1) C0 dX10_seat_80 rfl ?_
        refine f_aload_n C0 dX10_seat_81 rfl 0 rfl ⟨_, rfl⟩ ?_
        refine gf_10_40 (r := 244) C0 rfl kn_211 mw_926 dX10_seat_82 ?_
        refine f_iload C0 dX10_seat_85 6 rfl ?_
        obtain ⟨h48, hw⟩ := hw
        refine f_iald C0 kn_244 h48 dX10_seat_87 ?_
        refine f_ishl C0 dX10_seat_88 ?_
        refine f_iconst (v := (-1)) C0 dX10_seat_89 rfl ?_
        refine f_ixor C0 dX10_seat_90 ?_
        refine f_iand C0 dX10_seat_91 ?_
        refine f_topi (fun v49 e49 => ?_)
        have hw := hw v49 e49
        refine f_istore (lo' := [(7, .int v49), (0, rf g 211), (1, .int x1), (2, .int x2), (3, .int x3), (4, .int x4), (5, .int x5), (6, .int x6)]) C0 dX10_seat_92 (by decide) rfl ?_
        refine f_sub [1, 2, 3, 4, 5, 6, 7, 0] rfl ?_
        exact t_X10_seat_94 C0 hZ hK63 _ _ _ _ _ _ _ _ _ hw
set_option maxHeartbeats 4000000 in
set_option maxRecDepth 100000 in
theorem t_X10_seat_42 {g : Ex} {x : Fx} {n : Nat} {Q : Int32 → DD → LL → Prop} (C0 : Cx g x cX10_seat 11 (some .int) RX10 3 73) (hZ : Zi g x Q) : ∀ (j : Nat) (x1 : Int32) (x2 : Int32) (x3 : Int32) (x4 : Int32) (x5 : Int32) (x6 : Int32) (x7 : Int32) (x8 : Int32) (d : DD) (dl : LL), b_X10_seat_42 n Q j x1 x2 x3 x4 x5 x6 x7 x8 d dl → FW g x 11 d dl 42 [(0, rf g 211), (1, .int x1), (2, .int x2), (3, .int x3), (4, .int x4), (5, .int x5), (6, .int x6), (7, .int x7), (8, .int x8)] [] := by
  intro j
  induction j with
  | zero =>
    intro x1 x2 x3 x4 x5 x6 x7 x8 d dl hw
    exact hw.elim
  | succ j hK42 =>
    intro x1 x2 x3 x4 x5 x6 x7 x8 d dl hw
    refine f_iload C0 dX10_seat_42 8 rfl ?_
    refine f_bipush (v := 8) C0 dX10_seat_44 rfl ?_
    refine f_icmp_ge (tgt := 63) C0 dX10_seat_46 (by decide) (fun h9 => ?_) (fun h9 => ?_)
    · have hw := hw.1 h9
      refine f_sub [0, 1, 2, 3, 4, 5, 6, 7] rfl ?_
      exact t_X10_seat_63 C0 hZ n _ _ _ _ _ _ _ _ _ hw
    · have hw := hw.2 h9
      refine f_aload_n C0 dX10_seat_49 rfl 0 rfl ⟨_, rfl⟩ ?_
      refine gf_10_40 (r := 244) C0 rfl kn_211 mw_926 dX10_seat_50 ?_
      refine f_iload C0 dX10_seat_53 8 rfl ?_
      refine f_iconst (v := (-1)) C0 dX10_seat_55 rfl ?_
      obtain ⟨h50, hw⟩ := hw
      refine f_iast C0 kn_244 h50 dX10_seat_56 (fun d51 ed51 => ?_)
      have hw := hw d51 ed51
      refine f_iinc (lo' := [(8, .int (x8 + 1)), (0, rf g 211), (1, .int x1), (2, .int x2), (3, .int x3), (4, .int x4), (5, .int x5), (6, .int x6), (7, .int x7)]) C0 dX10_seat_57 8 rfl rfl (by decide) rfl ?_
      refine f_goto (tgt := 42) C0 dX10_seat_60 (by decide) ?_
      refine f_sub [1, 2, 3, 4, 5, 6, 7, 8, 0] rfl ?_
      exact hK42 _ _ _ _ _ _ _ _ _ _ hw
set_option maxHeartbeats 4000000 in
set_option maxRecDepth 100000 in
theorem m_X10_seat {g : Ex} {n : Nat} {x1 : Int32} {d : DD} {dl : LL} {Q : Int32 → DD → LL → Prop} (hw : F_X10_seat n x1 d dl Q) : Mi g yX10_seat cX10_seat 11 (some .int) 3 73 [rf g 211, .int x1] d dl Q := by
  refine Mi.of (by decide) (Nat.le_of_ble_eq_true rfl) (fun x C0 hZ => ?_)
  have C0 : Cx g x cX10_seat 11 (some .int) RX10 3 73 := C0
  refine f_aload_n C0 dX10_seat_0 rfl 0 rfl ⟨_, rfl⟩ ?_
  refine f_iload_n C0 dX10_seat_1 rfl 1 rfl ?_
  refine f_callVi (As := [.int x1]) (rest := []) C0 (m_X10_isCrew hw) cw_X10_135 kn_211 (by decide) rfl rfl ⟨(Nat.le_of_ble_eq_true rfl), (Nat.le_of_ble_eq_true rfl)⟩ rfl rfl (Nat.le_of_ble_eq_true rfl) dX10_seat_2 ?_
  intro r1 d2 l3 hw
  refine f_if_ne (tgt := 11) C0 dX10_seat_5 (by decide) (fun h4 => ?_) (fun h4 => ?_)
  · have hw := hw.1 h4
    refine f_iconst (v := 2) C0 dX10_seat_11 rfl ?_
    refine f_aload_n C0 dX10_seat_12 rfl 0 rfl ⟨_, rfl⟩ ?_
    refine gf_10_14 (r := 218) C0 rfl kn_211 mw_900 dX10_seat_13 ?_
    refine f_iload_n C0 dX10_seat_16 rfl 1 rfl ?_
    obtain ⟨h5, hw⟩ := hw
    refine f_iald C0 kn_218 h5 dX10_seat_17 ?_
    refine f_imul C0 dX10_seat_18 ?_
    refine f_topi (fun v6 e6 => ?_)
    have hw := hw v6 e6
    refine f_istore_n (lo' := [(2, .int v6), (0, rf g 211), (1, .int x1)]) C0 dX10_seat_19 rfl (by decide) rfl ?_
    refine f_aload_n C0 dX10_seat_20 rfl 1 rfl ⟨_, rfl⟩ ?_
    refine gf_10_16 (r := 220) C0 rfl kn_211 mw_902 dX10_seat_21 ?_
    refine f_iload_n C0 dX10_seat_24 rfl 2 rfl ?_
    obtain ⟨h7, hw⟩ := hw
    refine f_iald C0 kn_220 h7 dX10_seat_25 ?_
    refine f_topi (fun v8 e8 => ?_)
    have hw := hw v8 e8
    refine f_istore_n (lo' := [(3, .int v8), (2, .int v6), (0, rf g 211), (1, .int x1)]) C0 dX10_seat_26 rfl (by decide) rfl ?_
    refine f_iconst (v := 0) C0 dX10_seat_27 rfl ?_
    refine f_istore (lo' := [(4, .int 0), (3, .int v8), (2, .int v6), (0, rf g 211), (1, .int x1)]) C0 dX10_seat_28 (by decide) rfl ?_
    refine f_iconst (v := 0) C0 dX10_seat_30 rfl ?_
    refine f_istore (lo' := [(5, .int 0), (4, .int 0), (3, .int v8), (2, .int v6), (0, rf g 211), (1, .int x1)]) C0 dX10_seat_31 (by decide) rfl ?_
    refine f_iconst (v := 0) C0 dX10_seat_33 rfl ?_
    refine f_istore (lo' := [(6, .int 0), (5, .int 0), (4, .int 0), (3, .int v8), (2, .int v6), (0, rf g 211), (1, .int x1)]) C0 dX10_seat_34 (by decide) rfl ?_
    refine f_iconst (v := 0) C0 dX10_seat_36 rfl ?_
    refine f_istore (lo' := [(7, .int 0), (6, .int 0), (5, .int 0), (4, .int 0), (3, .int v8), (2, .int v6), (0, rf g 211), (1, .int x1)]) C0 dX10_seat_37 (by decide) rfl ?_
    refine f_iconst (v := 0) C0 dX10_seat_39 rfl ?_
    refine f_istore (lo' := [(8, .int 0), (7, .int 0), (6, .int 0), (5, .int 0), (4, .int 0), (3, .int v8), (2, .int v6), (0, rf g 211), (1, .int x1)]) C0 dX10_seat_40 (by decide) rfl ?_
    refine f_sub [7, 8, 6, 5, 4, 3, 2, 1, 0] rfl ?_
    exact t_X10_seat_42 C0 hZ n _ _ _ _ _ _ _ _ _ _ hw
  · have hw := hw.2 h4
    refine f_ldc (v := (-100000)) C0 mw_1067 dX10_seat_8 ?_
    exact f_iret C0 hZ hw dX10_seat_10
