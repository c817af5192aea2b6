def b_X3_placeOf_50 (n : Nat) (Q : Int32 → DD → LL → Prop) (K15 : Nat → Int32 → Int32 → Int32 → DD → LL → Prop) (k0 : Nat) (x1 : Int32) (x3 : Int32) (xs0 : Int32) (xs1 : Int32) (d : DD) (dl : LL) : Prop := ∀ v6 : Int32, v6 = (xs1 + xs0) → K15 k0 x1 v6 (x3 + 1) d dl
def b_X3_placeOf_49 (n : Nat) (Q : Int32 → DD → LL → Prop) (K15 : Nat → Int32 → Int32 → Int32 → DD → LL → Prop) (k0 : Nat) (x1 : Int32) (x3 : Int32) (xs0 : Int32) (d : DD) (dl : LL) : Prop := b_X3_placeOf_50 n Q K15 k0 x1 x3 0 xs0 d dl
def b_X3_placeOf_15 (n : Nat) (Q : Int32 → DD → LL → Prop) : Nat → Nat → Int32 → Int32 → Int32 → DD → LL → Prop
  | 0 => fun _ _ _ _ _ _ => False
  | k + 1 => fun k0 x1 x2 x3 d dl => (4 ≤ x3 → Q x2 d dl) ∧ (¬ 4 ≤ x3 → vp_in x3 4 ∧ ((d (93 + 5 * k0) x3.toNatClampNeg) ≤ 0 → b_X3_placeOf_49 n Q (b_X3_placeOf_15 n Q k) k0 x1 x3 x2 d dl) ∧ (¬ (d (93 + 5 * k0) x3.toNatClampNeg) ≤ 0 → vp_in x3 4 ∧ vp_in x1 4 ∧ ((d (93 + 5 * k0) x1.toNatClampNeg) ≤ (d (93 + 5 * k0) x3.toNatClampNeg) → b_X3_placeOf_49 n Q (b_X3_placeOf_15 n Q k) k0 x1 x3 x2 d dl) ∧ (¬ (d (93 + 5 * k0) x1.toNatClampNeg) ≤ (d (93 + 5 * k0) x3.toNatClampNeg) → b_X3_placeOf_50 n Q (b_X3_placeOf_15 n Q k) k0 x1 x3 1 x2 d dl)))
def F_X3_placeOf (n : Nat) (k0 : Nat) (x1 : Int32) (d : DD) (dl : LL) (Q : Int32 → DD → LL → Prop) : Prop := vp_in x1 4 ∧ (¬ (d (93 + 5 * k0) x1.toNatClampNeg) = 0 → b_X3_placeOf_15 n Q n k0 x1 1 0 d dl) ∧ ((d (93 + 5 * k0) x1.toNatClampNeg) = 0 → Q 0 d dl)
set_option maxHeartbeats 4000000 in
set_option maxRecDepth 100000 in
theorem t_X3_placeOf_50 {g : Ex} {x : Fx} {n : Nat} {Q : Int32 → DD → LL → Prop} (C0 : Cx g x cX3_placeOf 4 (some .int) RX3 0 0) (hZ : Zi g x Q) {K15 : Nat → Int32 → Int32 → Int32 → DD → LL → Prop} (hK15 : ∀ (k0 : Nat) (x1 : Int32) (x2 : Int32) (x3 : Int32) (hk0 : k0 < 24) (d : DD) (dl : LL), K15 k0 x1 x2 x3 d dl → FW g x 4 d dl 15 [(0, rf g (91 + 5 * k0)), (1, .int x1), (2, .int x2), (3, .int x3)] []) : ∀ (k0 : Nat) (x1 : Int32) (x3 : Int32) (xs0 : Int32) (xs1 : Int32) (hk0 : k0 < 24) (d : DD) (dl : LL), b_X3_placeOf_50 n Q K15 k0 x1 x3 xs0 xs1 d dl → FW g x 4 d dl 50 [(0, rf g (91 + 5 * k0)), (1, .int x1), (3, .int x3)] [.int xs0, .int xs1] := by
  intro k0 x1 x3 xs0 xs1 hk0 d dl hw
  refine f_iadd C0 dX3_placeOf_50 ?_
  refine f_topi (fun v6 e6 => ?_)
  have hw := hw v6 e6
  refine f_istore_n (lo' := [(2, .int v6), (0, rf g (91 + 5 * k0)), (1, .int x1), (3, .int x3)]) C0 dX3_placeOf_51 rfl (by decide) rfl ?_
  refine f_iinc (lo' := [(3, .int (x3 + 1)), (2, .int v6), (0, rf g (91 + 5 * k0)), (1, .int x1)]) C0 dX3_placeOf_52 3 rfl rfl (by decide) rfl ?_
  refine f_goto (tgt := 15) C0 dX3_placeOf_55 (by decide) ?_
  refine f_sub [2, 3, 1, 0] rfl ?_
  exact hK15 _ _ _ _ hk0 _ _ hw
set_option maxHeartbeats 4000000 in
set_option maxRecDepth 100000 in
theorem t_X3_placeOf_49 {g : Ex} {x : Fx} {n : Nat} {Q : Int32 → DD → LL → Prop} (C0 : Cx g x cX3_placeOf 4 (some .int) RX3 0 0) (hZ : Zi g x Q) {K15 : Nat → Int32 → Int32 → Int32 → DD → LL → Prop} (hK15 : ∀ (k0 : Nat) (x1 : Int32) (x2 : Int32) (x3 : Int32) (hk0 : k0 < 24) (d : DD) (dl : LL), K15 k0 x1 x2 x3 d dl → FW g x 4 d dl 15 [(0, rf g (91 + 5 * k0)), (1, .int x1), (2, .int x2), (3, .int x3)] []) : ∀ (k0 : Nat) (x1 : Int32) (x3 : Int32) (xs0 : Int32) (hk0 : k0 < 24) (d : DD) (dl : LL), b_X3_placeOf_49 n Q K15 k0 x1 x3 xs0 d dl → FW g x 4 d dl 49 [(0, rf g (91 + 5 * k0)), (1, .int x1), (3, .int x3)] [.int xs0] := by
  intro k0 x1 x3 xs0 hk0 d dl hw
  refine f_iconst (v := 0) C0 dX3_placeOf_49 rfl ?_
  exact t_X3_placeOf_50 C0 hZ hK15 _ _ _ _ _ hk0 _ _ hw
set_option maxHeartbeats 4000000 in
set_option maxRecDepth 100000 in
theorem t_X3_placeOf_15 {g : Ex} {x : Fx} {n : Nat} {Q : Int32 → DD → LL → Prop} (C0 : Cx g x cX3_placeOf 4 (some .int) RX3 0 0) (hZ : Zi g x Q) : ∀ (j : Nat) (k0 : Nat) (x1 : Int32) (x2 : Int32) (x3 : Int32) (hk0 : k0 < 24) (d : DD) (dl : LL), b_X3_placeOf_15 n Q j k0 x1 x2 x3 d dl → FW g x 4 d dl 15 [(0, rf g (91 + 5 * k0)), (1, .int x1), (2, .int x2), (3, .int x3)] [] := by
  intro j
  induction j with
  | zero =>
    intro k0 x1 x2 x3 hk0 d dl hw
    exact hw.elim
  | succ j hK15 =>
    intro k0 x1 x2 x3 hk0 d dl hw
    refine f_iload_n C0 dX3_placeOf_15 rfl 3 rfl ?_
    refine f_iconst (v := 4) C0 dX3_placeOf_16 rfl ?_
    refine f_icmp_ge (tgt := 58) C0 dX3_placeOf_17 (by decide) (fun h3 => ?_) (fun h3 => ?_)
    · have hw := hw.1 h3
      refine f_iload_n C0 dX3_placeOf_58 rfl 2 rfl ?_
      exact f_iret C0 hZ hw dX3_placeOf_59
    · have hw := hw.2 h3
      refine f_iload_n C0 dX3_placeOf_20 rfl 2 rfl ?_
      refine f_aload_n C0 dX3_placeOf_21 rfl 0 rfl ⟨_, rfl⟩ ?_
      refine gf_3_4 (r := (93 + 5 * k0)) C0 (by omega) (kn_race_0 hk0) mw_346 dX3_placeOf_22 ?_
      refine f_iload_n C0 dX3_placeOf_25 rfl 3 rfl ?_
      obtain ⟨h4, hw⟩ := hw
      refine f_iald C0 (kn_race_2 hk0) h4 dX3_placeOf_26 ?_
      refine f_if_le (tgt := 49) C0 dX3_placeOf_27 (by decide) (fun h5 => ?_) (fun h5 => ?_)
      · have hw := hw.1 h5
        refine f_sub [0, 1, 3] rfl ?_
        exact t_X3_placeOf_49 C0 hZ hK15 _ _ _ _ hk0 _ _ hw
      · have hw := hw.2 h5
        refine f_aload_n C0 dX3_placeOf_30 rfl 0 rfl ⟨_, rfl⟩ ?_
        refine gf_3_4 (r := (93 + 5 * k0)) C0 (by omega) (kn_race_0 hk0) mw_346 dX3_placeOf_31 ?_
        refine f_iload_n C0 dX3_placeOf_34 rfl 3 rfl ?_
        obtain ⟨h7, hw⟩ := hw
        refine f_iald C0 (kn_race_2 hk0) h7 dX3_placeOf_35 ?_
        refine f_aload_n C0 dX3_placeOf_36 rfl 0 rfl ⟨_, rfl⟩ ?_
        refine gf_3_4 (r := (93 + 5 * k0)) C0 (by omega) (kn_race_0 hk0) mw_346 dX3_placeOf_37 ?_
        refine f_iload_n C0 dX3_placeOf_40 rfl 1 rfl ?_
        obtain ⟨h8, hw⟩ := hw
        refine f_iald C0 (kn_race_2 hk0) h8 dX3_placeOf_41 ?_
        refine f_icmp_ge (tgt := 49) C0 dX3_placeOf_42 (by decide) (fun h9 => ?_) (fun h9 => ?_)
        · have hw := hw.1 h9
          refine f_sub [0, 1, 3] rfl ?_
          exact t_X3_placeOf_49 C0 hZ hK15 _ _ _ _ hk0 _ _ hw
        · have hw := hw.2 h9
          refine f_iconst (v := 1) C0 dX3_placeOf_45 rfl ?_
          refine f_goto (tgt := 50) C0 dX3_placeOf_46 (by decide) ?_
          refine f_sub [0, 1, 3] rfl ?_
          exact t_X3_placeOf_50 C0 hZ hK15 _ _ _ _ _ hk0 _ _ hw
set_option maxHeartbeats 4000000 in
set_option maxRecDepth 100000 in
theorem m_X3_placeOf {g : Ex} {n : Nat} {k0 : Nat} {x1 : Int32} {d : DD} {dl : LL} {Q : Int32 → DD → LL → Prop} (hk0 : k0 < 24) (hw : F_X3_placeOf n k0 x1 d dl Q) : Mi g yX3_placeOf cX3_placeOf 4 (some .int) 0 0 [rf g (91 + 5 * k0), .int x1] d dl Q := by
  refine Mi.of (by decide) (Nat.le_of_ble_eq_true rfl) (fun x C0 hZ => ?_)
  have C0 : Cx g x cX3_placeOf 4 (some .int) RX3 0 0 := C0
  refine f_aload_n C0 dX3_placeOf_0 rfl 0 rfl ⟨_, rfl⟩ ?_
  refine gf_3_4 (r := (93 + 5 * k0)) C0 (by omega) (kn_race_0 hk0) mw_346 dX3_placeOf_1 ?_
  refine f_iload_n C0 dX3_placeOf_4 rfl 1 rfl ?_
  obtain ⟨h1, hw⟩ := hw
  refine f_iald C0 (kn_race_2 hk0) h1 dX3_placeOf_5 ?_
  refine f_if_ne (tgt := 11) C0 dX3_placeOf_6 (by decide) (fun h2 => ?_) (fun h2 => ?_)
  · have hw := hw.1 h2
    refine f_iconst (v := 1) C0 dX3_placeOf_11 rfl ?_
    refine f_istore_n (lo' := [(2, .int 1), (0, rf g (91 + 5 * k0)), (1, .int x1)]) C0 dX3_placeOf_12 rfl (by decide) rfl ?_
    refine f_iconst (v := 0) C0 dX3_placeOf_13 rfl ?_
    refine f_istore_n (lo' := [(3, .int 0), (2, .int 1), (0, rf g (91 + 5 * k0)), (1, .int x1)]) C0 dX3_placeOf_14 rfl (by decide) rfl ?_
    refine f_sub [2, 3, 1, 0] rfl ?_
    exact t_X3_placeOf_15 C0 hZ n _ _ _ _ hk0 _ _ hw
  · have hw := hw.2 h2
    refine f_iconst (v := 0) C0 dX3_placeOf_9 rfl ?_
    exact f_iret C0 hZ hw dX3_placeOf_10
def F_X9_told (n : Nat) (x1 : Int32) (x2 : Int32) (x3 : Int32) (d : DD) (dl : LL) (Q : Int32 → DD → LL → Prop) : Prop := F_X9_isRace n x1 d dl (fun r1 d2 l3 => (r1 = 0 → Q (-1) d2 l3) ∧ (¬ r1 = 0 → F_X9_isLane n x2 d2 l3 (fun r5 d6 l7 => (r5 = 0 → Q (-1) d6 l7) ∧ (¬ r5 = 0 → vp_in x1 24 ∧ ∀ k10 : Nat, k10 = x1.toNatClampNeg → vp_in x2 4 ∧ (¬ (d6 (92 + 5 * k10) x2.toNatClampNeg) = (-1) → (x3 = 0 → vp_in x1 24 ∧ ∀ k14 : Nat, k14 = x1.toNatClampNeg → vp_in x2 4 ∧ Q (d6 (92 + 5 * k14) x2.toNatClampNeg) d6 l7) ∧ (x3 = 1 → vp_in x1 24 ∧ ∀ k17 : Nat, k17 = x1.toNatClampNeg → vp_in x2 4 ∧ Q (d6 (93 + 5 * k17) x2.toNatClampNeg) d6 l7) ∧ (x3 = 2 → vp_in x1 24 ∧ ∀ k20 : Nat, k20 = x1.toNatClampNeg → F_X3_placeOf n k20 x2 d6 l7 (fun r21 d22 l23 => Q r21 d22 l23)) ∧ (x3 = 3 → vp_in x1 24 ∧ ∀ k25 : Nat, k25 = x1.toNatClampNeg → vp_in x2 4 ∧ Q (d6 (94 + 5 * k25) x2.toNatClampNeg) d6 l7) ∧ (x3.toInt < 0 ∨ 3 < x3.toInt → Q (-1) d6 l7)) ∧ ((d6 (92 + 5 * k10) x2.toNatClampNeg) = (-1) → Q (-1) d6 l7)))))
set_option maxHeartbeats 4000000 in
set_option maxRecDepth 100000 in
theorem m_X9_told {g : Ex} {n : Nat} {x1 : Int32} {x2 : Int32} {x3 : Int32} {d : DD} {dl : LL} {Q : Int32 → DD → LL → Prop} (hw : F_X9_told n x1 x2 x3 d dl Q) : Mi g yX9_told cX9_told 4 (some .int) 2 43 [rf g 0, .int x1, .int x2, .int x3] d dl Q := by
  refine Mi.of (by decide) (Nat.le_of_ble_eq_true rfl) (fun x C0 hZ => ?_)
  have C0 : Cx g x cX9_told 4 (some .int) RX9 2 43 := C0
  refine f_aload_n C0 dX9_told_0 rfl 0 rfl ⟨_, rfl⟩ ?_
  refine f_iload_n C0 dX9_told_1 rfl 1 rfl ?_
  refine f_callVi (As := [.int x1]) (rest := []) C0 (m_X9_isRace hw) cw_X9_229 kn_0 (by decide) rfl rfl ⟨(Nat.le_of_ble_eq_true rfl), (Nat.le_of_ble_eq_true rfl)⟩ rfl rfl (Nat.le_of_ble_eq_true rfl) dX9_told_2 ?_
  intro r1 d2 l3 hw
  refine f_if_eq (tgt := 30) C0 dX9_told_5 (by decide) (fun h4 => ?_) (fun h4 => ?_)
  · have hw := hw.1 h4
    refine f_iconst (v := (-1)) C0 dX9_told_30 rfl ?_
    exact f_iret C0 hZ hw dX9_told_31
  · have hw := hw.2 h4
    refine f_iload_n C0 dX9_told_8 rfl 2 rfl ?_
    refine f_callSi (As := [.int x2]) (rest := []) C0 (m_X9_isLane hw) cw_X9_211  ⟨(Nat.le_of_ble_eq_true rfl), (Nat.le_of_ble_eq_true rfl)⟩ rfl rfl (Nat.le_of_ble_eq_true rfl) dX9_told_9 ?_
    intro r5 d6 l7 hw
    refine f_if_eq (tgt := 30) C0 dX9_told_12 (by decide) (fun h8 => ?_) (fun h8 => ?_)
    · have hw := hw.1 h8
      refine f_iconst (v := (-1)) C0 dX9_told_30 rfl ?_
      exact f_iret C0 hZ hw dX9_told_31
    · have hw := hw.2 h8
      refine f_aload_n C0 dX9_told_15 rfl 0 rfl ⟨_, rfl⟩ ?_
      refine gf_9_12 (r := 30) C0 rfl kn_0 mw_380 dX9_told_16 ?_
      refine f_iload_n C0 dX9_told_19 rfl 1 rfl ?_
      obtain ⟨h9, hw⟩ := hw
      refine f_aald16 C0 kn_30 h9 dX9_told_20 (fun k10 ek10 hk10 => ?_)
      have hw := hw k10 ek10
      refine gf_3_3 (r := (92 + 5 * k10)) C0 (by omega) (kn_race_0 hk10) mw_345 dX9_told_21 ?_
      refine f_iload_n C0 dX9_told_24 rfl 2 rfl ?_
      obtain ⟨h11, hw⟩ := hw
      refine f_iald C0 (kn_race_1 hk10) h11 dX9_told_25 ?_
      refine f_iconst (v := (-1)) C0 dX9_told_26 rfl ?_
      refine f_icmp_ne (tgt := 32) C0 dX9_told_27 (by decide) (fun h12 => ?_) (fun h12 => ?_)
      · have hw := hw.1 h12
        refine f_iload_n C0 dX9_told_32 rfl 3 rfl ?_
        rcases sw_3 x3 with h27 | h27 | h27 | h27 | h27
        · have hw := hw.2.2.2.2 h27
          refine f_tableOut (tgt := 111) C0 dX9_told_33 h27 (by decide) ?_
          refine f_iconst (v := (-1)) C0 dX9_told_111 rfl ?_
          exact f_iret C0 hZ hw dX9_told_112
        · have hw := hw.1 h27
          refine f_tableAt (w := 0) (tgt := 64) C0 dX9_told_33 h27 (by decide) (by decide) rfl (by decide) ?_
          refine f_aload_n C0 dX9_told_64 rfl 0 rfl ⟨_, rfl⟩ ?_
          refine gf_9_12 (r := 30) C0 rfl kn_0 mw_380 dX9_told_65 ?_
          refine f_iload_n C0 dX9_told_68 rfl 1 rfl ?_
          obtain ⟨h13, hw⟩ := hw
          refine f_aald16 C0 kn_30 h13 dX9_told_69 (fun k14 ek14 hk14 => ?_)
          have hw := hw k14 ek14
          refine gf_3_3 (r := (92 + 5 * k14)) C0 (by omega) (kn_race_0 hk14) mw_345 dX9_told_70 ?_
          refine f_iload_n C0 dX9_told_73 rfl 2 rfl ?_
          obtain ⟨h15, hw⟩ := hw
          refine f_iald C0 (kn_race_1 hk14) h15 dX9_told_74 ?_
          exact f_iret C0 hZ hw dX9_told_75
        · have hw := hw.2.1 h27
          refine f_tableAt (w := 1) (tgt := 76) C0 dX9_told_33 h27 (by decide) (by decide) rfl (by decide) ?_
          refine f_aload_n C0 dX9_told_76 rfl 0 rfl ⟨_, rfl⟩ ?_
          refine gf_9_12 (r := 30) C0 rfl kn_0 mw_380 dX9_told_77 ?_
          refine f_iload_n C0 dX9_told_80 rfl 1 rfl ?_
          obtain ⟨h16, hw⟩ := hw
          refine f_aald16 C0 kn_30 h16 dX9_told_81 (fun k17 ek17 hk17 => ?_)
          have hw := hw k17 ek17
          refine gf_3_4 (r := (93 + 5 * k17)) C0 (by omega) (kn_race_0 hk17) mw_348 dX9_told_82 ?_
          refine f_iload_n C0 dX9_told_85 rfl 2 rfl ?_
          obtain ⟨h18, hw⟩ := hw
          refine f_iald C0 (kn_race_2 hk17) h18 dX9_told_86 ?_
          exact f_iret C0 hZ hw dX9_told_87
        · have hw := hw.2.2.1 h27
          refine f_tableAt (w := 2) (tgt := 88) C0 dX9_told_33 h27 (by decide) (by decide) rfl (by decide) ?_
          refine f_aload_n C0 dX9_told_88 rfl 0 rfl ⟨_, rfl⟩ ?_
          refine gf_9_12 (r := 30) C0 rfl kn_0 mw_380 dX9_told_89 ?_
          refine f_iload_n C0 dX9_told_92 rfl 1 rfl ?_
          obtain ⟨h19, hw⟩ := hw
          refine f_aald16 C0 kn_30 h19 dX9_told_93 (fun k20 ek20 hk20 => ?_)
          have hw := hw k20 ek20
          refine f_iload_n C0 dX9_told_94 rfl 2 rfl ?_
          refine f_callVi (As := [.int x2]) (rest := []) C0 (m_X3_placeOf hk20 hw) cw_X9_252 (kn_race_0 hk20) (by decide) rfl rfl ⟨(Nat.le_of_ble_eq_true rfl), (Nat.le_of_ble_eq_true rfl)⟩ rfl rfl (Nat.le_of_ble_eq_true rfl) dX9_told_95 ?_
          intro r21 d22 l23 hw
          exact f_iret C0 hZ hw dX9_told_98
        · have hw := hw.2.2.2.1 h27
          refine f_tableAt (w := 3) (tgt := 99) C0 dX9_told_33 h27 (by decide) (by decide) rfl (by decide) ?_
          refine f_aload_n C0 dX9_told_99 rfl 0 rfl ⟨_, rfl⟩ ?_
          refine gf_9_12 (r := 30) C0 rfl kn_0 mw_380 dX9_told_100 ?_
          refine f_iload_n C0 dX9_told_103 rfl 1 rfl ?_
          obtain ⟨h24, hw⟩ := hw
          refine f_aald16 C0 kn_30 h24 dX9_told_104 (fun k25 ek25 hk25 => ?_)
          have hw := hw k25 ek25
          refine gf_3_5 (r := (94 + 5 * k25)) C0 (by omega) (kn_race_0 hk25) mw_350 dX9_told_105 ?_
          refine f_iload_n C0 dX9_told_108 rfl 2 rfl ?_
          obtain ⟨h26, hw⟩ := hw
          refine f_iald C0 (kn_race_3 hk25) h26 dX9_told_109 ?_
          exact f_iret C0 hZ hw dX9_told_110
      · have hw := hw.2 h12
        refine f_iconst (v := (-1)) C0 dX9_told_30 rfl ?_
        exact f_iret C0 hZ hw dX9_told_31
def b_X3_forgetTimes_7 (n : Nat) (Q : DD → LL → Prop) : Nat → Nat → Int32 → DD → LL → Prop
  | 0 => fun _ _ _ _ => False
  | k + 1 => fun k0 x1 d dl => (4 ≤ x1 → Q d dl) ∧ (¬ 4 ≤ x1 → vp_in x1 4 ∧ ∀ d4 : DD, d4 = u2 d (93 + 5 * k0) x1.toNatClampNeg 0 → vp_in x1 4 ∧ ∀ d6 : DD, d6 = u2 d4 (94 + 5 * k0) x1.toNatClampNeg 0 → (b_X3_forgetTimes_7 n Q k) k0 (x1 + 1) d6 dl)
def F_X3_forgetTimes (n : Nat) (k0 : Nat) (d : DD) (dl : LL) (Q : DD → LL → Prop) : Prop := ∀ d1 : DD, d1 = u2 d (91 + 5 * k0) 2 0 → b_X3_forgetTimes_7 n Q n k0 0 d1 dl
set_option maxHeartbeats 4000000 in
set_option maxRecDepth 100000 in
theorem t_X3_forgetTimes_7 {g : Ex} {x : Fx} {n : Nat} {Q : DD → LL → Prop} (C0 : Cx g x cX3_forgetTimes 2 none RX3 0 0) (hZ : Zv g x Q) : ∀ (j : Nat) (k0 : Nat) (x1 : Int32) (hk0 : k0 < 24) (d : DD) (dl : LL), b_X3_forgetTimes_7 n Q j k0 x1 d dl → FW g x 2 d dl 7 [(0, rf g (91 + 5 * k0)), (1, .int x1)] [] := by
  intro j
  induction j with
  | zero =>
    intro k0 x1 hk0 d dl hw
    exact hw.elim
  | succ j hK7 =>
    intro k0 x1 hk0 d dl hw
    refine f_iload_n C0 dX3_forgetTimes_7 rfl 1 rfl ?_
    refine f_iconst (v := 4) C0 dX3_forgetTimes_8 rfl ?_
    refine f_icmp_ge (tgt := 32) C0 dX3_forgetTimes_9 (by decide) (fun h2 => ?_) (fun h2 => ?_)
    · have hw := hw.1 h2
      exact f_vret C0 hZ hw dX3_forgetTimes_32
    · have hw := hw.2 h2
      refine f_aload_n C0 dX3_forgetTimes_12 rfl 0 rfl ⟨_, rfl⟩ ?_
      refine gf_3_4 (r := (93 + 5 * k0)) C0 (by omega) (kn_race_0 hk0) mw_346 dX3_forgetTimes_13 ?_
      refine f_iload_n C0 dX3_forgetTimes_16 rfl 1 rfl ?_
      refine f_iconst (v := 0) C0 dX3_forgetTimes_17 rfl ?_
      obtain ⟨h3, hw⟩ := hw
      refine f_iast C0 (kn_race_2 hk0) h3 dX3_forgetTimes_18 (fun d4 ed4 => ?_)
      have hw := hw d4 ed4
      refine f_aload_n C0 dX3_forgetTimes_19 rfl 0 rfl ⟨_, rfl⟩ ?_
      refine gf_3_5 (r := (94 + 5 * k0)) C0 (by omega) (kn_race_0 hk0) mw_349 dX3_forgetTimes_20 ?_
      refine f_iload_n C0 dX3_forgetTimes_23 rfl 1 rfl ?_
      refine f_iconst (v := 0) C0 dX3_forgetTimes_24 rfl ?_
      obtain ⟨h5, hw⟩ := hw
      refine f_iast C0 (kn_race_3 hk0) h5 dX3_forgetTimes_25 (fun d6 ed6 => ?_)
      have hw := hw d6 ed6
      refine f_iinc (lo' := [(1, .int (x1 + 1)), (0, rf g (91 + 5 * k0))]) C0 dX3_forgetTimes_26 1 rfl rfl (by decide) rfl ?_
      refine f_goto (tgt := 7) C0 dX3_forgetTimes_29 (by decide) ?_
      refine f_sub [1, 0] rfl ?_
      exact hK7 _ _ hk0 _ _ hw
set_option maxHeartbeats 4000000 in
set_option maxRecDepth 100000 in
theorem m_X3_forgetTimes {g : Ex} {n : Nat} {k0 : Nat} {d : DD} {dl : LL} {Q : DD → LL → Prop} (hk0 : k0 < 24) (hw : F_X3_forgetTimes n k0 d dl Q) : Mv g yX3_forgetTimes cX3_forgetTimes 2 none 0 0 [rf g (91 + 5 * k0)] d dl Q := by
  refine Mv.of (by decide) (Nat.le_of_ble_eq_true rfl) (fun x C0 hZ => ?_)
  have C0 : Cx g x cX3_forgetTimes 2 none RX3 0 0 := C0
  refine f_aload_n C0 dX3_forgetTimes_0 rfl 0 rfl ⟨_, rfl⟩ ?_
  refine f_iconst (v := 0) C0 dX3_forgetTimes_1 rfl ?_
  refine pf_3_2 C0 (kn_race_0 hk0) (by decide) mw_341 dX3_forgetTimes_2 (fun d1 ed1 => ?_)
  have hw := hw d1 ed1
  refine f_iconst (v := 0) C0 dX3_forgetTimes_5 rfl ?_
  refine f_istore_n (lo' := [(1, .int 0), (0, rf g (91 + 5 * k0))]) C0 dX3_forgetTimes_6 rfl (by decide) rfl ?_
  refine f_sub [1, 0] rfl ?_
  exact t_X3_forgetTimes_7 C0 hZ n _ _ hk0 _ _ hw
def F_X9_again (n : Nat) (x1 : Int32) (d : DD) (dl : LL) (Q : Int32 → DD → LL → Prop) : Prop := F_X9_isRace n x1 d dl (fun r1 d2 l3 => (¬ r1 = 0 → vp_in x1 24 ∧ ∀ k6 : Nat, k6 = x1.toNatClampNeg → F_X3_timeCount n k6 d2 l3 (fun r7 d8 l9 => vp_in x1 24 ∧ ∀ k11 : Nat, k11 = x1.toNatClampNeg → F_X3_forgetTimes n k11 d8 l9 (fun d13 l14 => Q r7 d13 l14))) ∧ (r1 = 0 → Q (-1) d2 l3))
set_option maxHeartbeats 4000000 in
set_option maxRecDepth 100000 in
theorem m_X9_again {g : Ex} {n : Nat} {x1 : Int32} {d : DD} {dl : LL} {Q : Int32 → DD → LL → Prop} (hw : F_X9_again n x1 d dl Q) : Mi g yX9_again cX9_again 3 (some .int) 2 43 [rf g 0, .int x1] d dl Q := by
  refine Mi.of (by decide) (Nat.le_of_ble_eq_true rfl) (fun x C0 hZ => ?_)
  have C0 : Cx g x cX9_again 3 (some .int) RX9 2 43 := C0
  refine f_aload_n C0 dX9_again_0 rfl 0 rfl ⟨_, rfl⟩ ?_
  refine f_iload_n C0 dX9_again_1 rfl 1 rfl ?_
  refine f_callVi (As := [.int x1]) (rest := []) C0 (m_X9_isRace hw) cw_X9_229 kn_0 (by decide) rfl rfl ⟨(Nat.le_of_ble_eq_true rfl), (Nat.le_of_ble_eq_true rfl)⟩ rfl rfl (Nat.le_of_ble_eq_true rfl) dX9_again_2 ?_
  intro r1 d2 l3 hw
  refine f_if_ne (tgt := 10) C0 dX9_again_5 (by decide) (fun h4 => ?_) (fun h4 => ?_)
  · have hw := hw.1 h4
    refine f_aload_n C0 dX9_again_10 rfl 0 rfl ⟨_, rfl⟩ ?_
    refine gf_9_12 (r := 30) C0 rfl kn_0 mw_380 dX9_again_11 ?_
    refine f_iload_n C0 dX9_again_14 rfl 1 rfl ?_
    obtain ⟨h5, hw⟩ := hw
    refine f_aald16 C0 kn_30 h5 dX9_again_15 (fun k6 ek6 hk6 => ?_)
    have hw := hw k6 ek6
    refine f_callVi (As := []) (rest := []) C0 (m_X3_timeCount hk6 hw) cw_X9_245 (kn_race_0 hk6) (by decide) rfl rfl ⟨(Nat.le_of_ble_eq_true rfl), (Nat.le_of_ble_eq_true rfl)⟩ rfl rfl (Nat.le_of_ble_eq_true rfl) dX9_again_16 ?_
    intro r7 d8 l9 hw
    refine f_istore_n (lo' := [(2, .int r7), (0, rf g 0), (1, .int x1)]) C0 dX9_again_19 rfl (by decide) rfl ?_
    refine f_aload_n C0 dX9_again_20 rfl 1 rfl ⟨_, rfl⟩ ?_
    refine gf_9_12 (r := 30) C0 rfl kn_0 mw_380 dX9_again_21 ?_
    refine f_iload_n C0 dX9_again_24 rfl 2 rfl ?_
    obtain ⟨h10, hw⟩ := hw
    refine f_aald16 C0 kn_30 h10 dX9_again_25 (fun k11 ek11 hk11 => ?_)
    have hw := hw k11 ek11
    refine f_callVv (As := []) (rest := []) C0 (m_X3_forgetTimes hk11 hw) cw_X9_258 (kn_race_0 hk11) (by decide) rfl rfl ⟨(Nat.le_of_ble_eq_true rfl), (Nat.le_of_ble_eq_true rfl)⟩ rfl rfl (Nat.le_of_ble_eq_true rfl) dX9_again_26 ?_
    intro d13 l14 hw
    refine f_iload_n C0 dX9_again_29 rfl 0 rfl ?_
    exact f_iret C0 hZ hw dX9_again_30
  · have hw := hw.2 h4
    refine f_iconst (v := (-1)) C0 dX9_again_8 rfl ?_
    exact f_iret C0 hZ hw dX9_again_9
def b_X3_laneOf_2 (n : Nat) (Q : Int32 → DD → LL → Prop) : Nat → Nat → Int32 → Int32 → DD → LL → Prop
  | 0 => fun _ _ _ _ _ => False
  | k + 1 => fun k0 x1 x2 d dl => (4 ≤ x2 → Q (-1) d dl) ∧ (¬ 4 ≤ x2 → vp_in x2 4 ∧ (¬ (d (92 + 5 * k0) x2.toNatClampNeg) = x1 → (b_X3_laneOf_2 n Q k) k0 x1 (x2 + 1) d dl) ∧ ((d (92 + 5 * k0) x2.toNatClampNeg) = x1 → Q x2 d dl))
def F_X3_laneOf (n : Nat) (k0 : Nat) (x1 : Int32) (d : DD) (dl : LL) (Q : Int32 → DD → LL → Prop) : Prop := b_X3_laneOf_2 n Q n k0 x1 0 d dl
set_option maxHeartbeats 4000000 in
set_option maxRecDepth 100000 in
theorem t_X3_laneOf_2 {g : Ex} {x : Fx} {n : Nat} {Q : Int32 → DD → LL → Prop} (C0 : Cx g x cX3_laneOf 3 (some .int) RX3 0 0) (hZ : Zi g x Q) : ∀ (j : Nat) (k0 : Nat) (x1 : Int32) (x2 : Int32) (hk0 : k0 < 24) (d : DD) (dl : LL), b_X3_laneOf_2 n Q j k0 x1 x2 d dl → FW g x 3 d dl 2 [(0, rf g (91 + 5 * k0)), (1, .int x1), (2, .int x2)] [] := by
  intro j
  induction j with
  | zero =>
    intro k0 x1 x2 hk0 d dl hw
    exact hw.elim
  | succ j hK2 =>
    intro k0 x1 x2 hk0 d dl hw
    refine f_iload_n C0 dX3_laneOf_2 rfl 2 rfl ?_
    refine f_iconst (v := 4) C0 dX3_laneOf_3 rfl ?_
    refine f_icmp_ge (tgt := 25) C0 dX3_laneOf_4 (by decide) (fun h1 => ?_) (fun h1 => ?_)
    · have hw := hw.1 h1
      refine f_iconst (v := (-1)) C0 dX3_laneOf_25 rfl ?_
      exact f_iret C0 hZ hw dX3_laneOf_26
    · have hw := hw.2 h1
      refine f_aload_n C0 dX3_laneOf_7 rfl 0 rfl ⟨_, rfl⟩ ?_
      refine gf_3_3 (r := (92 + 5 * k0)) C0 (by omega) (kn_race_0 hk0) mw_343 dX3_laneOf_8 ?_
      refine f_iload_n C0 dX3_laneOf_11 rfl 2 rfl ?_
      obtain ⟨h2, hw⟩ := hw
      refine f_iald C0 (kn_race_1 hk0) h2 dX3_laneOf_12 ?_
      refine f_iload_n C0 dX3_laneOf_13 rfl 1 rfl ?_
      refine f_icmp_ne (tgt := 19) C0 dX3_laneOf_14 (by decide) (fun h3 => ?_) (fun h3 => ?_)
      · have hw := hw.1 h3
        refine f_iinc (lo' := [(2, .int (x2 + 1)), (0, rf g (91 + 5 * k0)), (1, .int x1)]) C0 dX3_laneOf_19 2 rfl rfl (by decide) rfl ?_
        refine f_goto (tgt := 2) C0 dX3_laneOf_22 (by decide) ?_
        refine f_sub [1, 2, 0] rfl ?_
        exact hK2 _ _ _ hk0 _ _ hw
      · have hw := hw.2 h3
        refine f_iload_n C0 dX3_laneOf_17 rfl 2 rfl ?_
        exact f_iret C0 hZ hw dX3_laneOf_18
set_option maxHeartbeats 4000000 in
set_option maxRecDepth 100000 in
theorem m_X3_laneOf {g : Ex} {n : Nat} {k0 : Nat} {x1 : Int32} {d : DD} {dl : LL} {Q : Int32 → DD → LL → Prop} (hk0 : k0 < 24) (hw : F_X3_laneOf n k0 x1 d dl Q) : Mi g yX3_laneOf cX3_laneOf 3 (some .int) 0 0 [rf g (91 + 5 * k0), .int x1] d dl Q := by
  refine Mi.of (by decide) (Nat.le_of_ble_eq_true rfl) (fun x C0 hZ => ?_)
  have C0 : Cx g x cX3_laneOf 3 (some .int) RX3 0 0 := C0
  refine f_iconst (v := 0) C0 dX3_laneOf_0 rfl ?_
  refine f_istore_n (lo' := [(2, .int 0), (0, rf g (91 + 5 * k0)), (1, .int x1)]) C0 dX3_laneOf_1 rfl (by decide) rfl ?_
  refine f_sub [1, 2, 0] rfl ?_
  exact t_X3_laneOf_2 C0 hZ n _ _ _ hk0 _ _ hw
def F_X9_strike (n : Nat) (x1 : Int32) (x2 : Int32) (d : DD) (dl : LL) (Q : Int32 → DD → LL → Prop) : Prop := F_X9_isRace n x1 d dl (fun r1 d2 l3 => (r1 = 0 → Q (-1) d2 l3) ∧ (¬ r1 = 0 → F_X9_isCrew n x2 d2 l3 (fun r5 d6 l7 => (¬ r5 = 0 → vp_in x1 24 ∧ ∀ k10 : Nat, k10 = x1.toNatClampNeg → F_X3_laneOf n k10 x2 d6 l7 (fun r11 d12 l13 => (¬ r11 = (-1) → vp_in r11 4 ∧ ((d12 (95 + 5 * k10) r11.toNatClampNeg) = 0 → F_X3_placeOf n k10 r11 d12 l13 (fun r17 d18 l19 => vp_in r11 4 ∧ ∀ d21 : DD, d21 = u2 d18 (95 + 5 * k10) r11.toNatClampNeg (vp_nar .boolean 1) → vp_in r11 4 ∧ ∀ d23 : DD, d23 = u2 d21 (93 + 5 * k10) r11.toNatClampNeg 0 → Q r17 d23 l19)) ∧ (¬ (d12 (95 + 5 * k10) r11.toNatClampNeg) = 0 → Q (-3) d12 l13)) ∧ (r11 = (-1) → Q (-1) d12 l13))) ∧ (r5 = 0 → Q (-1) d6 l7))))
set_option maxHeartbeats 4000000 in
set_option maxRecDepth 100000 in
theorem m_X9_strike {g : Ex} {n : Nat} {x1 : Int32} {x2 : Int32} {d : DD} {dl : LL} {Q : Int32 → DD → LL → Prop} (hw : F_X9_strike n x1 x2 d dl Q) : Mi g yX9_strike cX9_strike 6 (some .int) 2 43 [rf g 0, .int x1, .int x2] d dl Q := by
  refine Mi.of (by decide) (Nat.le_of_ble_eq_true rfl) (fun x C0 hZ => ?_)
  have C0 : Cx g x cX9_strike 6 (some .int) RX9 2 43 := C0
  refine f_aload_n C0 dX9_strike_0 rfl 0 rfl ⟨_, rfl⟩ ?_
  refine f_iload_n C0 dX9_strike_1 rfl 1 rfl ?_
  refine f_callVi (As := [.int x1]) (rest := []) C0 (m_X9_isRace hw) cw_X9_229 kn_0 (by decide) rfl rfl ⟨(Nat.le_of_ble_eq_true rfl), (Nat.le_of_ble_eq_true rfl)⟩ rfl rfl (Nat.le_of_ble_eq_true rfl) dX9_strike_2 ?_
  intro r1 d2 l3 hw
  refine f_if_eq (tgt := 16) C0 dX9_strike_5 (by decide) (fun h4 => ?_) (fun h4 => ?_)
  · have hw := hw.1 h4
    refine f_iconst (v := (-1)) C0 dX9_strike_16 rfl ?_
    exact f_iret C0 hZ hw dX9_strike_17
  · have hw := hw.2 h4
    refine f_aload_n C0 dX9_strike_8 rfl 0 rfl ⟨_, rfl⟩ ?_
    refine f_iload_n C0 dX9_strike_9 rfl 2 rfl ?_
    refine f_callVi (As := [.int x2]) (rest := []) C0 (m_X9_isCrew hw) cw_X9_126 kn_0 (by decide) rfl rfl ⟨(Nat.le_of_ble_eq_true rfl), (Nat.le_of_ble_eq_true rfl)⟩ rfl rfl (Nat.le_of_ble_eq_true rfl) dX9_strike_10 ?_
    intro r5 d6 l7 hw
    refine f_if_ne (tgt := 18) C0 dX9_strike_13 (by decide) (fun h8 => ?_) (fun h8 => ?_)
    · have hw := hw.1 h8
      refine f_aload_n C0 dX9_strike_18 rfl 0 rfl ⟨_, rfl⟩ ?_
      refine gf_9_12 (r := 30) C0 rfl kn_0 mw_380 dX9_strike_19 ?_
      refine f_iload_n C0 dX9_strike_22 rfl 1 rfl ?_
      obtain ⟨h9, hw⟩ := hw
      refine f_aald16 C0 kn_30 h9 dX9_strike_23 (fun k10 ek10 hk10 => ?_)
      have hw := hw k10 ek10
      refine f_astore_n (lo' := [(3, rf g (91 + 5 * k10)), (0, rf g 0), (1, .int x1), (2, .int x2)]) C0 dX9_strike_24 rfl (by decide) rfl ⟨_, rfl⟩ ?_
      refine f_aload_n C0 dX9_strike_25 rfl 0 rfl ⟨_, rfl⟩ ?_
      refine f_iload_n C0 dX9_strike_26 rfl 3 rfl ?_
      refine f_callVi (As := [.int x2]) (rest := []) C0 (m_X3_laneOf hk10 hw) cw_X9_261 (kn_race_0 hk10) (by decide) rfl rfl ⟨(Nat.le_of_ble_eq_true rfl), (Nat.le_of_ble_eq_true rfl)⟩ rfl rfl (Nat.le_of_ble_eq_true rfl) dX9_strike_27 ?_
      intro r11 d12 l13 hw
      refine f_istore (lo' := [(4, .int r11), (3, rf g (91 + 5 * k10)), (0, rf g 0), (1, .int x1), (2, .int x2)]) C0 dX9_strike_30 (by decide) rfl ?_
      refine f_iload C0 dX9_strike_32 0 rfl ?_
      refine f_iconst (v := (-1)) C0 dX9_strike_34 rfl ?_
      refine f_icmp_ne (tgt := 40) C0 dX9_strike_35 (by decide) (fun h14 => ?_) (fun h14 => ?_)
      · have hw := hw.1 h14
        refine f_aload_n C0 dX9_strike_40 rfl 1 rfl ⟨_, rfl⟩ ?_
        refine gf_3_6 (r := (95 + 5 * k10)) C0 (by omega) (kn_race_0 hk10) mw_352 dX9_strike_41 ?_
        refine f_iload C0 dX9_strike_44 0 rfl ?_
        obtain ⟨h15, hw⟩ := hw
        refine f_zald C0 (kn_race_4 hk10) h15 dX9_strike_46 ?_
        refine f_if_eq (tgt := 53) C0 dX9_strike_47 (by decide) (fun h16 => ?_) (fun h16 => ?_)
        · have hw := hw.1 h16
          refine f_aload_n C0 dX9_strike_53 rfl 1 rfl ⟨_, rfl⟩ ?_
          refine f_iload C0 dX9_strike_54 0 rfl ?_
          refine f_callVi (As := [.int r11]) (rest := []) C0 (m_X3_placeOf hk10 hw) cw_X9_252 (kn_race_0 hk10) (by decide) rfl rfl ⟨(Nat.le_of_ble_eq_true rfl), (Nat.le_of_ble_eq_true rfl)⟩ rfl rfl (Nat.le_of_ble_eq_true rfl) dX9_strike_56 ?_
          intro r17 d18 l19 hw
          refine f_istore (lo' := [(5, .int r17), (4, .int r11), (3, rf g (91 + 5 * k10)), (0, rf g 0), (1, .int x1), (2, .int x2)]) C0 dX9_strike_59 (by decide) rfl ?_
          refine f_aload_n C0 dX9_strike_61 rfl 2 rfl ⟨_, rfl⟩ ?_
          refine gf_3_6 (r := (95 + 5 * k10)) C0 (by omega) (kn_race_0 hk10) mw_352 dX9_strike_62 ?_
          refine f_iload C0 dX9_strike_65 1 rfl ?_
          refine f_iconst (v := 1) C0 dX9_strike_67 rfl ?_
          obtain ⟨h20, hw⟩ := hw
          refine f_zast C0 (kn_race_4 hk10) h20 dX9_strike_68 (fun d21 ed21 => ?_)
          have hw := hw d21 ed21
          refine f_aload_n C0 dX9_strike_69 rfl 2 rfl ⟨_, rfl⟩ ?_
          refine gf_3_4 (r := (93 + 5 * k10)) C0 (by omega) (kn_race_0 hk10) mw_348 dX9_strike_70 ?_
          refine f_iload C0 dX9_strike_73 1 rfl ?_
          refine f_iconst (v := 0) C0 dX9_strike_75 rfl ?_
          obtain ⟨h22, hw⟩ := hw
          refine f_iast C0 (kn_race_2 hk10) h22 dX9_strike_76 (fun d23 ed23 => ?_)
          have hw := hw d23 ed23
          refine f_iload C0 dX9_strike_77 0 rfl ?_
          exact f_iret C0 hZ hw dX9_strike_79
        · have hw := hw.2 h16
          refine f_bipush (v := (-3)) C0 dX9_strike_50 rfl ?_
          exact f_iret C0 hZ hw dX9_strike_52
      · have hw := hw.2 h14
        refine f_iconst (v := (-1)) C0 dX9_strike_38 rfl ?_
        exact f_iret C0 hZ hw dX9_strike_39
    · have hw := hw.2 h8
      refine f_iconst (v := (-1)) C0 dX9_strike_16 rfl ?_
      exact f_iret C0 hZ hw dX9_strike_17
def b_X2_addHeat_116 (n : Nat) (Q : DD → LL → Prop) (K2 : Nat → Int32 → Int32 → DD → LL → Prop) (k1 : Nat) (x2 : Int32) (x3 : Int32) (xs0 : Int32) (d : DD) (dl : LL) : Prop := vp_in xs0 6 ∧ ∀ d20 : DD, d20 = u2 d 35 xs0.toNatClampNeg (vp_nar .boolean 1) → K2 k1 x2 (x3 + 1) d20 dl
def b_X2_addHeat_90 (n : Nat) (Q : DD → LL → Prop) (K2 : Nat → Int32 → Int32 → DD → LL → Prop) (k1 : Nat) (x2 : Int32) (x3 : Int32) (x5 : Int32) (xs0 : Int32) (xs1 : Int32) (d : DD) (dl : LL) : Prop := vp_in xs1 6 ∧ ∀ d16 : DD, d16 = u2 d 34 xs1.toNatClampNeg xs0 → vp_in x5 6 ∧ (¬ (d16 35 x5.toNatClampNeg) = 0 → b_X2_addHeat_116 n Q K2 k1 x2 x3 x5 d16 dl) ∧ ((d16 35 x5.toNatClampNeg) = 0 → F_X3_placeOf n k1 x3 d16 dl (fun r21 d22 l23 => (x2 < r21 → vp_in x5 6 ∧ ∀ d26 : DD, d26 = u2 d22 35 x5.toNatClampNeg (vp_nar .boolean 0) → K2 k1 x2 (x3 + 1) d26 l23) ∧ (¬ x2 < r21 → b_X2_addHeat_116 n Q K2 k1 x2 x3 x5 d22 l23)))
def b_X2_addHeat_65 (n : Nat) (Q : DD → LL → Prop) (K2 : Nat → Int32 → Int32 → DD → LL → Prop) (k1 : Nat) (x2 : Int32) (x3 : Int32) (x4 : Int32) (x5 : Int32) (xs0 : Int32) (d : DD) (dl : LL) : Prop := (xs0 = 0 → vp_in x5 6 ∧ b_X2_addHeat_90 n Q K2 k1 x2 x3 x5 (d 34 x5.toNatClampNeg) x5 d dl) ∧ (¬ xs0 = 0 → b_X2_addHeat_90 n Q K2 k1 x2 x3 x5 x4 x5 d dl)
def b_X2_addHeat_60 (n : Nat) (Q : DD → LL → Prop) (K2 : Nat → Int32 → Int32 → DD → LL → Prop) (k1 : Nat) (x2 : Int32) (x3 : Int32) (x4 : Int32) (x5 : Int32) (d : DD) (dl : LL) : Prop := b_X2_addHeat_65 n Q K2 k1 x2 x3 x4 x5 1 d dl
def b_X2_addHeat_2 (n : Nat) (Q : DD → LL → Prop) : Nat → Nat → Int32 → Int32 → DD → LL → Prop
  | 0 => fun _ _ _ _ _ => False
  | k + 1 => fun k1 x2 x3 d dl => (4 ≤ x3 → Q d dl) ∧ (¬ 4 ≤ x3 → vp_in x3 4 ∧ ∀ v3 : Int32, v3 = (d (93 + 5 * k1) x3.toNatClampNeg) → vp_in x3 4 ∧ ∀ v5 : Int32, v5 = (d (92 + 5 * k1) x3.toNatClampNeg) → (v3 ≤ 0 → (b_X2_addHeat_2 n Q k) k1 x2 (x3 + 1) d dl) ∧ (¬ v3 ≤ 0 → F_X9_within n v5 0 5 d dl (fun r7 d8 l9 => (r7 = 0 → (b_X2_addHeat_2 n Q k) k1 x2 (x3 + 1) d8 l9) ∧ (¬ r7 = 0 → vp_in v5 6 ∧ ((d8 34 v5.toNatClampNeg) = 0 → b_X2_addHeat_60 n Q (b_X2_addHeat_2 n Q k) k1 x2 x3 v3 v5 d8 l9) ∧ (¬ (d8 34 v5.toNatClampNeg) = 0 → vp_in v5 6 ∧ ((d8 34 v5.toNatClampNeg) ≤ v3 → b_X2_addHeat_65 n Q (b_X2_addHeat_2 n Q k) k1 x2 x3 v3 v5 0 d8 l9) ∧ (¬ (d8 34 v5.toNatClampNeg) ≤ v3 → b_X2_addHeat_60 n Q (b_X2_addHeat_2 n Q k) k1 x2 x3 v3 v5 d8 l9))))))
def F_X2_addHeat (n : Nat) (k1 : Nat) (x2 : Int32) (d : DD) (dl : LL) (Q : DD → LL → Prop) : Prop := b_X2_addHeat_2 n Q n k1 x2 0 d dl
set_option maxHeartbeats 4000000 in
set_option maxRecDepth 100000 in
theorem t_X2_addHeat_116 {g : Ex} {x : Fx} {n : Nat} {Q : DD → LL → Prop} (C0 : Cx g x cX2_addHeat 7 none RX2 1 23) (hZ : Zv g x Q) {K2 : Nat → Int32 → Int32 → DD → LL → Prop} (hK2 : ∀ (k1 : Nat) (x2 : Int32) (x3 : Int32) (hk1 : k1 < 24) (d : DD) (dl : LL), K2 k1 x2 x3 d dl → FW g x 7 d dl 2 [(0, rf g 32), (1, rf g (91 + 5 * k1)), (2, .int x2), (3, .int x3)] []) : ∀ (k1 : Nat) (x2 : Int32) (x3 : Int32) (xs0 : Int32) (hk1 : k1 < 24) (d : DD) (dl : LL), b_X2_addHeat_116 n Q K2 k1 x2 x3 xs0 d dl → FW g x 7 d dl 116 [(0, rf g 32), (1, rf g (91 + 5 * k1)), (2, .int x2), (3, .int x3)] [.int xs0, rf g 35] := by
  intro k1 x2 x3 xs0 hk1 d dl hw
  refine f_iconst (v := 1) C0 dX2_addHeat_116 rfl ?_
  refine f_goto (tgt := 121) C0 dX2_addHeat_117 (by decide) ?_
  obtain ⟨h19, hw⟩ := hw
  refine f_zast C0 kn_35 h19 dX2_addHeat_121 (fun d20 ed20 => ?_)
  have hw := hw d20 ed20
  refine f_iinc (lo' := [(3, .int (x3 + 1)), (0, rf g 32), (1, rf g (91 + 5 * k1)), (2, .int x2)]) C0 dX2_addHeat_122 3 rfl rfl (by decide) rfl ?_
  refine f_goto (tgt := 2) C0 dX2_addHeat_125 (by decide) ?_
  refine f_sub [1, 2, 3, 0] rfl ?_
  exact hK2 _ _ _ hk1 _ _ hw
set_option maxHeartbeats 4000000 in
set_option maxRecDepth 100000 in
theorem t_X2_addHeat_90 {g : Ex} {x : Fx} {n : Nat} {Q : DD → LL → Prop} (C0 : Cx g x cX2_addHeat 7 none RX2 1 23) (hZ : Zv g x Q) {K2 : Nat → Int32 → Int32 → DD → LL → Prop} (hK2 : ∀ (k1 : Nat) (x2 : Int32) (x3 : Int32) (hk1 : k1 < 24) (d : DD) (dl : LL), K2 k1 x2 x3 d dl → FW g x 7 d dl 2 [(0, rf g 32), (1, rf g (91 + 5 * k1)), (2, .int x2), (3, .int x3)] []) : ∀ (k1 : Nat) (x2 : Int32) (x3 : Int32) (x5 : Int32) (xs0 : Int32) (xs1 : Int32) (hk1 : k1 < 24) (d : DD) (dl : LL), b_X2_addHeat_90 n Q K2 k1 x2 x3 x5 xs0 xs1 d dl → FW g x 7 d dl 90 [(0, rf g 32), (1, rf g (91 + 5 * k1)), (2, .int x2), (3, .int x3), (5, .int x5)] [.int xs0, .int xs1, rf g 34] := by
  intro k1 x2 x3 x5 xs0 xs1 hk1 d dl hw
  obtain ⟨h15, hw⟩ := hw
  refine f_iast C0 kn_34 h15 dX2_addHeat_90 (fun d16 ed16 => ?_)
  have hw := hw d16 ed16
  refine f_aload_n C0 dX2_addHeat_91 rfl 0 rfl ⟨_, rfl⟩ ?_
  refine gf_2_3 (r := 35) C0 rfl kn_32 mw_244 dX2_addHeat_92 ?_
  refine f_iload C0 dX2_addHeat_95 4 rfl ?_
  refine f_aload_n C0 dX2_addHeat_97 rfl 0 rfl ⟨_, rfl⟩ ?_
  refine gf_2_3 (r := 35) C0 rfl kn_32 mw_244 dX2_addHeat_98 ?_
  refine f_iload C0 dX2_addHeat_101 4 rfl ?_
  obtain ⟨h17, hw⟩ := hw
  refine f_zald C0 kn_35 h17 dX2_addHeat_103 ?_
  refine f_if_ne (tgt := 116) C0 dX2_addHeat_104 (by decide) (fun h18 => ?_) (fun h18 => ?_)
  · have hw := hw.1 h18
    refine f_sub [0, 1, 2, 3] rfl ?_
    exact t_X2_addHeat_116 C0 hZ hK2 _ _ _ _ hk1 _ _ hw
  · have hw := hw.2 h18
    refine f_aload_n C0 dX2_addHeat_107 rfl 1 rfl ⟨_, rfl⟩ ?_
    refine f_iload_n C0 dX2_addHeat_108 rfl 3 rfl ?_
    refine f_callVi (As := [.int x3]) (rest := [.int x5, rf g 35]) C0 (m_X3_placeOf hk1 hw) cw_X2_55 (kn_race_0 hk1) (by decide) rfl rfl ⟨(Nat.le_of_ble_eq_true rfl), (Nat.le_of_ble_eq_true rfl)⟩ rfl rfl (Nat.le_of_ble_eq_true rfl) dX2_addHeat_109 ?_
    intro r21 d22 l23 hw
    refine f_iload_n C0 dX2_addHeat_112 rfl 2 rfl ?_
    refine f_icmp_gt (tgt := 120) C0 dX2_addHeat_113 (by decide) (fun h24 => ?_) (fun h24 => ?_)
    · have hw := hw.1 h24
      refine f_iconst (v := 0) C0 dX2_addHeat_120 rfl ?_
      obtain ⟨h25, hw⟩ := hw
      refine f_zast C0 kn_35 h25 dX2_addHeat_121 (fun d26 ed26 => ?_)
      have hw := hw d26 ed26
      refine f_iinc (lo' := [(3, .int (x3 + 1)), (0, rf g 32), (1, rf g (91 + 5 * k1)), (2, .int x2), (5, .int x5)]) C0 dX2_addHeat_122 3 rfl rfl (by decide) rfl ?_
      refine f_goto (tgt := 2) C0 dX2_addHeat_125 (by decide) ?_
      refine f_sub [1, 2, 3, 0] rfl ?_
      exact hK2 _ _ _ hk1 _ _ hw
    · have hw := hw.2 h24
      refine f_sub [0, 1, 2, 3] rfl ?_
      exact t_X2_addHeat_116 C0 hZ hK2 _ _ _ _ hk1 _ _ hw
set_option maxHeartbeats 4000000 in
set_option maxRecDepth 100000 in
theorem t_X2_addHeat_65 {g : Ex} {x : Fx} {n : Nat} {Q : DD → LL → Prop} (C0 : Cx g x cX2_addHeat 7 none RX2 1 23) (hZ : Zv g x Q) {K2 : Nat → Int32 → Int32 → DD → LL → Prop} (hK2 : ∀ (k1 : Nat) (x2 : Int32) (x3 : Int32) (hk1 : k1 < 24) (d : DD) (dl : LL), K2 k1 x2 x3 d dl → FW g x 7 d dl 2 [(0, rf g 32), (1, rf g (91 + 5 * k1)), (2, .int x2), (3, .int x3)] []) : ∀ (k1 : Nat) (x2 : Int32) (x3 : Int32) (x4 : Int32) (x5 : Int32) (xs0 : Int32) (hk1 : k1 < 24) (d : DD) (dl : LL), b_X2_addHeat_65 n Q K2 k1 x2 x3 x4 x5 xs0 d dl → FW g x 7 d dl 65 [(0, rf g 32), (1, rf g (91 + 5 * k1)), (2, .int x2), (3, .int x3), (4, .int x4), (5, .int x5)] [.int xs0] := by
  intro k1 x2 x3 x4 x5 xs0 hk1 d dl hw
  refine f_istore (lo' := [(6, .int xs0), (0, rf g 32), (1, rf g (91 + 5 * k1)), (2, .int x2), (3, .int x3), (4, .int x4), (5, .int x5)]) C0 dX2_addHeat_65 (by decide) rfl ?_
  refine f_aload_n C0 dX2_addHeat_67 rfl 1 rfl ⟨_, rfl⟩ ?_
  refine gf_2_2 (r := 34) C0 rfl kn_32 mw_243 dX2_addHeat_68 ?_
  refine f_iload C0 dX2_addHeat_71 6 rfl ?_
  refine f_iload C0 dX2_addHeat_73 0 rfl ?_
  refine f_if_eq (tgt := 83) C0 dX2_addHeat_75 (by decide) (fun h13 => ?_) (fun h13 => ?_)
  · have hw := hw.1 h13
    refine f_aload_n C0 dX2_addHeat_83 rfl 1 rfl ⟨_, rfl⟩ ?_
    refine gf_2_2 (r := 34) C0 rfl kn_32 mw_243 dX2_addHeat_84 ?_
    refine f_iload C0 dX2_addHeat_87 6 rfl ?_
    obtain ⟨h14, hw⟩ := hw
    refine f_iald C0 kn_34 h14 dX2_addHeat_89 ?_
    refine f_sub [1, 2, 3, 4, 6] rfl ?_
    exact t_X2_addHeat_90 C0 hZ hK2 _ _ _ _ _ _ hk1 _ _ hw
  · have hw := hw.2 h13
    refine f_iload C0 dX2_addHeat_78 5 rfl ?_
    refine f_goto (tgt := 90) C0 dX2_addHeat_80 (by decide) ?_
    refine f_sub [1, 2, 3, 4, 6] rfl ?_
    exact t_X2_addHeat_90 C0 hZ hK2 _ _ _ _ _ _ hk1 _ _ hw
set_option maxHeartbeats 4000000 in
set_option maxRecDepth 100000 in
theorem t_X2_addHeat_60 {g : Ex} {x : Fx} {n : Nat} {Q : DD → LL → Prop} (C0 : Cx g x cX2_addHeat 7 none RX2 1 23) (hZ : Zv g x Q) {K2 : Nat → Int32 → Int32 → DD → LL → Prop} (hK2 : ∀ (k1 : Nat) (x2 : Int32) (x3 : Int32) (hk1 : k1 < 24) (d : DD) (dl : LL), K2 k1 x2 x3 d dl → FW g x 7 d dl 2 [(0, rf g 32), (1, rf g (91 + 5 * k1)), (2, .int x2), (3, .int x3)] []) : ∀ (k1 : Nat) (x2 : Int32) (x3 : Int32) (x4 : Int32) (x5 : Int32) (hk1 : k1 < 24) (d : DD) (dl : LL), b_X2_addHeat_60 n Q K2 k1 x2 x3 x4 x5 d dl → FW g x 7 d dl 60 [(0, rf g 32), (1, rf g (91 + 5 * k1)), (2, .int x2), (3, .int x3), (4, .int x4), (5, .int x5)] [] := by
  intro k1 x2 x3 x4 x5 hk1 d dl hw
  refine f_iconst (v := 1) C0 dX2_addHeat_60 rfl ?_
  refine f_goto (tgt := 65) C0 dX2_addHeat_61 (by decide) ?_
  exact t_X2_addHeat_65 C0 hZ hK2 _ _ _ _ _ _ hk1 _ _ hw
set_option maxHeartbeats 4000000 in
set_option maxRecDepth 100000 in
theorem t_X2_addHeat_2 {g : Ex} {x : Fx} {n : Nat} {Q : DD → LL → Prop} (C0 : Cx g x cX2_addHeat 7 none RX2 1 23) (hZ : Zv g x Q) : ∀ (j : Nat) (k1 : Nat) (x2 : Int32) (x3 : Int32) (hk1 : k1 < 24) (d : DD) (dl : LL), b_X2_addHeat_2 n Q j k1 x2 x3 d dl → FW g x 7 d dl 2 [(0, rf g 32), (1, rf g (91 + 5 * k1)), (2, .int x2), (3, .int x3)] [] := by
  intro j
  induction j with
  | zero =>
    intro k1 x2 x3 hk1 d dl hw
    exact hw.elim
  | succ j hK2 =>
    intro k1 x2 x3 hk1 d dl hw
    refine f_iload_n C0 dX2_addHeat_2 rfl 3 rfl ?_
    refine f_iconst (v := 4) C0 dX2_addHeat_3 rfl ?_
    refine f_icmp_ge (tgt := 128) C0 dX2_addHeat_4 (by decide) (fun h1 => ?_) (fun h1 => ?_)
    · have hw := hw.1 h1
      exact f_vret C0 hZ hw dX2_addHeat_128
    · have hw := hw.2 h1
      refine f_aload_n C0 dX2_addHeat_7 rfl 1 rfl ⟨_, rfl⟩ ?_
      refine gf_3_4 (r := (93 + 5 * k1)) C0 (by omega) (kn_race_0 hk1) mw_347 dX2_addHeat_8 ?_
      refine f_iload_n C0 dX2_addHeat_11 rfl 3 rfl ?_
      obtain ⟨h2, hw⟩ := hw
      refine f_iald C0 (kn_race_2 hk1) h2 dX2_addHeat_12 ?_
      refine f_topi (fun v3 e3 => ?_)
      have hw := hw v3 e3
      refine f_istore (lo' := [(4, .int v3), (0, rf g 32), (1, rf g (91 + 5 * k1)), (2, .int x2), (3, .int x3)]) C0 dX2_addHeat_13 (by decide) rfl ?_
      refine f_aload_n C0 dX2_addHeat_15 rfl 2 rfl ⟨_, rfl⟩ ?_
      refine gf_3_3 (r := (92 + 5 * k1)) C0 (by omega) (kn_race_0 hk1) mw_344 dX2_addHeat_16 ?_
      refine f_iload_n C0 dX2_addHeat_19 rfl 4 rfl ?_
      obtain ⟨h4, hw⟩ := hw
      refine f_iald C0 (kn_race_1 hk1) h4 dX2_addHeat_20 ?_
      refine f_topi (fun v5 e5 => ?_)
      have hw := hw v5 e5
      refine f_istore (lo' := [(5, .int v5), (4, .int v3), (0, rf g 32), (1, rf g (91 + 5 * k1)), (2, .int x2), (3, .int x3)]) C0 dX2_addHeat_21 (by decide) rfl ?_
      refine f_iload C0 dX2_addHeat_23 1 rfl ?_
      refine f_if_le (tgt := 122) C0 dX2_addHeat_25 (by decide) (fun h6 => ?_) (fun h6 => ?_)
      · have hw := hw.1 h6
        refine f_iinc (lo' := [(3, .int (x3 + 1)), (5, .int v5), (4, .int v3), (0, rf g 32), (1, rf g (91 + 5 * k1)), (2, .int x2)]) C0 dX2_addHeat_122 5 rfl rfl (by decide) rfl ?_
        refine f_goto (tgt := 2) C0 dX2_addHeat_125 (by decide) ?_
        refine f_sub [3, 4, 5, 0] rfl ?_
        exact hK2 _ _ _ hk1 _ _ hw
      · have hw := hw.2 h6
        refine f_iload C0 dX2_addHeat_28 0 rfl ?_
        refine f_iconst (v := 0) C0 dX2_addHeat_30 rfl ?_
        refine f_iconst (v := 5) C0 dX2_addHeat_31 rfl ?_
        refine f_callNi (As := [.int v5, .int 0, .int 5]) (rest := []) C0 (m_X9_within hw) cw_X2_51 (fun U h => h.2.2.1) ⟨(Nat.le_of_ble_eq_true rfl), (Nat.le_of_ble_eq_true rfl)⟩ rfl rfl (Nat.le_of_ble_eq_true rfl) dX2_addHeat_32 ?_
        intro r7 d8 l9 hw
        refine f_if_eq (tgt := 122) C0 dX2_addHeat_35 (by decide) (fun h10 => ?_) (fun h10 => ?_)
        · have hw := hw.1 h10
          refine f_iinc (lo' := [(3, .int (x3 + 1)), (5, .int v5), (4, .int v3), (0, rf g 32), (1, rf g (91 + 5 * k1)), (2, .int x2)]) C0 dX2_addHeat_122 5 rfl rfl (by decide) rfl ?_
          refine f_goto (tgt := 2) C0 dX2_addHeat_125 (by decide) ?_
          refine f_sub [3, 4, 5, 0] rfl ?_
          exact hK2 _ _ _ hk1 _ _ hw
        · have hw := hw.2 h10
          refine f_aload_n C0 dX2_addHeat_38 rfl 2 rfl ⟨_, rfl⟩ ?_
          refine gf_2_2 (r := 34) C0 rfl kn_32 mw_243 dX2_addHeat_39 ?_
          refine f_iload C0 dX2_addHeat_42 0 rfl ?_
          obtain ⟨h11, hw⟩ := hw
          refine f_iald C0 kn_34 h11 dX2_addHeat_44 ?_
          refine f_if_eq (tgt := 60) C0 dX2_addHeat_45 (by decide) (fun h12 => ?_) (fun h12 => ?_)
          · have hw := hw.1 h12
            refine f_sub [2, 3, 4, 5, 1, 0] rfl ?_
            exact t_X2_addHeat_60 C0 hZ hK2 _ _ _ _ _ hk1 _ _ hw
          · have hw := hw.2 h12
            refine f_iload C0 dX2_addHeat_48 1 rfl ?_
            refine f_aload_n C0 dX2_addHeat_50 rfl 2 rfl ⟨_, rfl⟩ ?_
            refine gf_2_2 (r := 34) C0 rfl kn_32 mw_243 dX2_addHeat_51 ?_
            refine f_iload C0 dX2_addHeat_54 0 rfl ?_
            obtain ⟨h27, hw⟩ := hw
            refine f_iald C0 kn_34 h27 dX2_addHeat_56 ?_
            refine f_icmp_ge (tgt := 64) C0 dX2_addHeat_57 (by decide) (fun h28 => ?_) (fun h28 => ?_)
            · have hw := hw.1 h28
              refine f_iconst (v := 0) C0 dX2_addHeat_64 rfl ?_
              refine f_sub [2, 3, 4, 5, 1, 0] rfl ?_
              exact t_X2_addHeat_65 C0 hZ hK2 _ _ _ _ _ _ hk1 _ _ hw
            · have hw := hw.2 h28
              refine f_sub [2, 3, 4, 5, 1, 0] rfl ?_
              exact t_X2_addHeat_60 C0 hZ hK2 _ _ _ _ _ hk1 _ _ hw
set_option maxHeartbeats 4000000 in
set_option maxRecDepth 100000 in
theorem m_X2_addHeat {g : Ex} {n : Nat} {k1 : Nat} {x2 : Int32} {d : DD} {dl : LL} {Q : DD → LL → Prop} (hk1 : k1 < 24) (hw : F_X2_addHeat n k1 x2 d dl Q) : Mv g yX2_addHeat cX2_addHeat 7 none 1 23 [rf g 32, rf g (91 + 5 * k1), .int x2] d dl Q := by
  refine Mv.of (by decide) (Nat.le_of_ble_eq_true rfl) (fun x C0 hZ => ?_)
  have C0 : Cx g x cX2_addHeat 7 none RX2 1 23 := C0
  refine f_iconst (v := 0) C0 dX2_addHeat_0 rfl ?_
  refine f_istore_n (lo' := [(3, .int 0), (0, rf g 32), (1, rf g (91 + 5 * k1)), (2, .int x2)]) C0 dX2_addHeat_1 rfl (by decide) rfl ?_
  refine f_sub [1, 2, 3, 0] rfl ?_
  exact t_X2_addHeat_2 C0 hZ n _ _ _ hk1 _ _ hw
def b_X2_fasterOthers_49 (n : Nat) (Q : Int32 → DD → LL → Prop) (K4 : Int32 → Int32 → Int32 → DD → LL → Prop) (x1 : Int32) (x3 : Int32) (xs0 : Int32) (xs1 : Int32) (d : DD) (dl : LL) : Prop := ∀ v4 : Int32, v4 = (xs1 + xs0) → K4 x1 v4 (x3 + 1) d dl
def b_X2_fasterOthers_48 (n : Nat) (Q : Int32 → DD → LL → Prop) (K4 : Int32 → Int32 → Int32 → DD → LL → Prop) (x1 : Int32) (x3 : Int32) (xs0 : Int32) (d : DD) (dl : LL) : Prop := b_X2_fasterOthers_49 n Q K4 x1 x3 0 xs0 d dl
def b_X2_fasterOthers_4 (n : Nat) (Q : Int32 → DD → LL → Prop) : Nat → Int32 → Int32 → Int32 → DD → LL → Prop
  | 0 => fun _ _ _ _ _ => False
  | k + 1 => fun x1 x2 x3 d dl => (6 ≤ x3 → Q x2 d dl) ∧ (¬ 6 ≤ x3 → vp_in x3 6 ∧ (¬ (d 35 x3.toNatClampNeg) = 0 → b_X2_fasterOthers_48 n Q (b_X2_fasterOthers_4 n Q k) x1 x3 x2 d dl) ∧ ((d 35 x3.toNatClampNeg) = 0 → vp_in x3 6 ∧ ((d 34 x3.toNatClampNeg) ≤ 0 → b_X2_fasterOthers_48 n Q (b_X2_fasterOthers_4 n Q k) x1 x3 x2 d dl) ∧ (¬ (d 34 x3.toNatClampNeg) ≤ 0 → vp_in x3 6 ∧ vp_in x1 6 ∧ ((d 34 x1.toNatClampNeg) ≤ (d 34 x3.toNatClampNeg) → b_X2_fasterOthers_48 n Q (b_X2_fasterOthers_4 n Q k) x1 x3 x2 d dl) ∧ (¬ (d 34 x1.toNatClampNeg) ≤ (d 34 x3.toNatClampNeg) → b_X2_fasterOthers_49 n Q (b_X2_fasterOthers_4 n Q k) x1 x3 1 x2 d dl))))
def F_X2_fasterOthers (n : Nat) (x1 : Int32) (d : DD) (dl : LL) (Q : Int32 → DD → LL → Prop) : Prop := b_X2_fasterOthers_4 n Q n x1 0 0 d dl
set_option maxHeartbeats 4000000 in
set_option maxRecDepth 100000 in
theorem t_X2_fasterOthers_49 {g : Ex} {x : Fx} {n : Nat} {Q : Int32 → DD → LL → Prop} (C0 : Cx g x cX2_fasterOthers 4 (some .int) RX2 0 0) (hZ : Zi g x Q) {K4 : Int32 → Int32 → Int32 → DD → LL → Prop} (hK4 : ∀ (x1 : Int32) (x2 : Int32) (x3 : Int32) (d : DD) (dl : LL), K4 x1 x2 x3 d dl → FW g x 4 d dl 4 [(0, rf g 32), (1, .int x1), (2, .int x2), (3, .int x3)] []) : ∀ (x1 : Int32) (x3 : Int32) (xs0 : Int32) (xs1 : Int32) (d : DD) (dl : LL), b_X2_fasterOthers_49 n Q K4 x1 x3 xs0 xs1 d dl → FW g x 4 d dl 49 [(0, rf g 32), (1, .int x1), (3, .int x3)] [.int xs0, .int xs1] := by
  intro x1 x3 xs0 xs1 d dl hw
  refine f_iadd C0 dX2_fasterOthers_49 ?_
  refine f_topi (fun v4 e4 => ?_)
  have hw := hw v4 e4
  refine f_istore_n (lo' := [(2, .int v4), (0, rf g 32), (1, .int x1), (3, .int x3)]) C0 dX2_fasterOthers_50 rfl (by decide) rfl ?_
  refine f_iinc (lo' := [(3, .int (x3 + 1)), (2, .int v4), (0, rf g 32), (1, .int x1)]) C0 dX2_fasterOthers_51 3 rfl rfl (by decide) rfl ?_
  refine f_goto (tgt := 4) C0 dX2_fasterOthers_54 (by decide) ?_
  refine f_sub [2, 3, 1, 0] rfl ?_
  exact hK4 _ _ _ _ _ hw
set_option maxHeartbeats 4000000 in
set_option maxRecDepth 100000 in
theorem t_X2_fasterOthers_48 {g : Ex} {x : Fx} {n : Nat} {Q : Int32 → DD → LL → Prop} (C0 : Cx g x cX2_fasterOthers 4 (some .int) RX2 0 0) (hZ : Zi g x Q) {K4 : Int32 → Int32 → Int32 → DD → LL → Prop} (hK4 : ∀ (x1 : Int32) (x2 : Int32) (x3 : Int32) (d : DD) (dl : LL), K4 x1 x2 x3 d dl → FW g x 4 d dl 4 [(0, rf g 32), (1, .int x1), (2, .int x2), (3, .int x3)] []) : ∀ (x1 : Int32) (x3 : Int32) (xs0 : Int32) (d : DD) (dl : LL), b_X2_fasterOthers_48 n Q K4 x1 x3 xs0 d dl → FW g x 4 d dl 48 [(0, rf g 32), (1, .int x1), (3, .int x3)] [.int xs0] := by
  intro x1 x3 xs0 d dl hw
  refine f_iconst (v := 0) C0 dX2_fasterOthers_48 rfl ?_
  exact t_X2_fasterOthers_49 C0 hZ hK4 _ _ _ _ _ _ hw
set_option maxHeartbeats 4000000 in
set_option maxRecDepth 100000 in
theorem t_X2_fasterOthers_4 {g : Ex} {x : Fx} {n : Nat} {Q : Int32 → DD → LL → Prop} (C0 : Cx g x cX2_fasterOthers 4 (some .int) RX2 0 0) (hZ : Zi g x Q) : ∀ (j : Nat) (x1 : Int32) (x2 : Int32) (x3 : Int32) (d : DD) (dl : LL), b_X2_fasterOthers_4 n Q j x1 x2 x3 d dl → FW g x 4 d dl 4 [(0, rf g 32), (1, .int x1), (2, .int x2), (3, .int x3)] [] := by
  intro j
  induction j with
  | zero =>
    intro x1 x2 x3 d dl hw
    exact hw.elim
  | succ j hK4 =>
    intro x1 x2 x3 d dl hw
    refine f_iload_n C0 dX2_fasterOthers_4 rfl 3 rfl ?_
    refine f_bipush (v := 6) C0 dX2_fasterOthers_5 rfl ?_
    refine f_icmp_ge (tgt := 57) C0 dX2_fasterOthers_7 (by decide) (fun h1 => ?_) (fun h1 => ?_)
    · have hw := hw.1 h1
      refine f_iload_n C0 dX2_fasterOthers_57 rfl 2 rfl ?_
      exact f_iret C0 hZ hw dX2_fasterOthers_58
    · have hw := hw.2 h1
      refine f_iload_n C0 dX2_fasterOthers_10 rfl 2 rfl ?_
      refine f_aload_n C0 dX2_fasterOthers_11 rfl 0 rfl ⟨_, rfl⟩ ?_
      refine gf_2_3 (r := 35) C0 rfl kn_32 mw_244 dX2_fasterOthers_12 ?_
      refine f_iload_n C0 dX2_fasterOthers_15 rfl 3 rfl ?_
      obtain ⟨h2, hw⟩ := hw
      refine f_zald C0 kn_35 h2 dX2_fasterOthers_16 ?_
      refine f_if_ne (tgt := 48) C0 dX2_fasterOthers_17 (by decide) (fun h3 => ?_) (fun h3 => ?_)
      · have hw := hw.1 h3
        refine f_sub [0, 1, 3] rfl ?_
        exact t_X2_fasterOthers_48 C0 hZ hK4 _ _ _ _ _ hw
      · have hw := hw.2 h3
        refine f_aload_n C0 dX2_fasterOthers_20 rfl 0 rfl ⟨_, rfl⟩ ?_
        refine gf_2_2 (r := 34) C0 rfl kn_32 mw_243 dX2_fasterOthers_21 ?_
        refine f_iload_n C0 dX2_fasterOthers_24 rfl 3 rfl ?_
        obtain ⟨h5, hw⟩ := hw
        refine f_iald C0 kn_34 h5 dX2_fasterOthers_25 ?_
        refine f_if_le (tgt := 48) C0 dX2_fasterOthers_26 (by decide) (fun h6 => ?_) (fun h6 => ?_)
        · have hw := hw.1 h6
          refine f_sub [0, 1, 3] rfl ?_
          exact t_X2_fasterOthers_48 C0 hZ hK4 _ _ _ _ _ hw
        · have hw := hw.2 h6
          refine f_aload_n C0 dX2_fasterOthers_29 rfl 0 rfl ⟨_, rfl⟩ ?_
          refine gf_2_2 (r := 34) C0 rfl kn_32 mw_243 dX2_fasterOthers_30 ?_
          refine f_iload_n C0 dX2_fasterOthers_33 rfl 3 rfl ?_
          obtain ⟨h7, hw⟩ := hw
          refine f_iald C0 kn_34 h7 dX2_fasterOthers_34 ?_
          refine f_aload_n C0 dX2_fasterOthers_35 rfl 0 rfl ⟨_, rfl⟩ ?_
          refine gf_2_2 (r := 34) C0 rfl kn_32 mw_243 dX2_fasterOthers_36 ?_
          refine f_iload_n C0 dX2_fasterOthers_39 rfl 1 rfl ?_
          obtain ⟨h8, hw⟩ := hw
          refine f_iald C0 kn_34 h8 dX2_fasterOthers_40 ?_
          refine f_icmp_ge (tgt := 48) C0 dX2_fasterOthers_41 (by decide) (fun h9 => ?_) (fun h9 => ?_)
          · have hw := hw.1 h9
            refine f_sub [0, 1, 3] rfl ?_
            exact t_X2_fasterOthers_48 C0 hZ hK4 _ _ _ _ _ hw
          · have hw := hw.2 h9
            refine f_iconst (v := 1) C0 dX2_fasterOthers_44 rfl ?_
            refine f_goto (tgt := 49) C0 dX2_fasterOthers_45 (by decide) ?_
            refine f_sub [0, 1, 3] rfl ?_
            exact t_X2_fasterOthers_49 C0 hZ hK4 _ _ _ _ _ _ hw
set_option maxHeartbeats 4000000 in
set_option maxRecDepth 100000 in
theorem m_X2_fasterOthers {g : Ex} {n : Nat} {x1 : Int32} {d : DD} {dl : LL} {Q : Int32 → DD → LL → Prop} (hw : F_X2_fasterOthers n x1 d dl Q) : Mi g yX2_fasterOthers cX2_fasterOthers 4 (some .int) 0 0 [rf g 32, .int x1] d dl Q := by
  refine Mi.of (by decide) (Nat.le_of_ble_eq_true rfl) (fun x C0 hZ => ?_)
  have C0 : Cx g x cX2_fasterOthers 4 (some .int) RX2 0 0 := C0
  refine f_iconst (v := 0) C0 dX2_fasterOthers_0 rfl ?_
  refine f_istore_n (lo' := [(2, .int 0), (0, rf g 32), (1, .int x1)]) C0 dX2_fasterOthers_1 rfl (by decide) rfl ?_
  refine f_iconst (v := 0) C0 dX2_fasterOthers_2 rfl ?_
  refine f_istore_n (lo' := [(3, .int 0), (2, .int 0), (0, rf g 32), (1, .int x1)]) C0 dX2_fasterOthers_3 rfl (by decide) rfl ?_
  refine f_sub [2, 3, 1, 0] rfl ?_
  exact t_X2_fasterOthers_4 C0 hZ n _ _ _ _ _ hw
def b_X2_chosenAheadOf_72 (n : Nat) (Q : Int32 → DD → LL → Prop) (K4 : Int32 → Int32 → Int32 → DD → LL → Prop) (x1 : Int32) (x3 : Int32) (xs0 : Int32) (xs1 : Int32) (d : DD) (dl : LL) : Prop := ∀ v7 : Int32, v7 = (xs1 + xs0) → K4 x1 v7 (x3 + 1) d dl
def b_X2_chosenAheadOf_71 (n : Nat) (Q : Int32 → DD → LL → Prop) (K4 : Int32 → Int32 → Int32 → DD → LL → Prop) (x1 : Int32) (x3 : Int32) (xs0 : Int32) (d : DD) (dl : LL) : Prop := b_X2_chosenAheadOf_72 n Q K4 x1 x3 0 xs0 d dl
def b_X2_chosenAheadOf_50 (n : Nat) (Q : Int32 → DD → LL → Prop) (K4 : Int32 → Int32 → Int32 → DD → LL → Prop) (x1 : Int32) (x2 : Int32) (x3 : Int32) (xs0 : Int32) (d : DD) (dl : LL) : Prop := vp_in x3 6 ∧ ((d 36 x3.toNatClampNeg) = 0 → b_X2_chosenAheadOf_71 n Q K4 x1 x3 x2 d dl) ∧ (¬ (d 36 x3.toNatClampNeg) = 0 → (xs0 = 0 → b_X2_chosenAheadOf_71 n Q K4 x1 x3 x2 d dl) ∧ (¬ xs0 = 0 → b_X2_chosenAheadOf_72 n Q K4 x1 x3 1 x2 d dl))
def b_X2_chosenAheadOf_49 (n : Nat) (Q : Int32 → DD → LL → Prop) (K4 : Int32 → Int32 → Int32 → DD → LL → Prop) (x1 : Int32) (x2 : Int32) (x3 : Int32) (d : DD) (dl : LL) : Prop := b_X2_chosenAheadOf_50 n Q K4 x1 x2 x3 0 d dl
def b_X2_chosenAheadOf_45 (n : Nat) (Q : Int32 → DD → LL → Prop) (K4 : Int32 → Int32 → Int32 → DD → LL → Prop) (x1 : Int32) (x2 : Int32) (x3 : Int32) (d : DD) (dl : LL) : Prop := b_X2_chosenAheadOf_50 n Q K4 x1 x2 x3 1 d dl
def b_X2_chosenAheadOf_4 (n : Nat) (Q : Int32 → DD → LL → Prop) : Nat → Int32 → Int32 → Int32 → DD → LL → Prop
  | 0 => fun _ _ _ _ _ => False
  | k + 1 => fun x1 x2 x3 d dl => (6 ≤ x3 → Q x2 d dl) ∧ (¬ 6 ≤ x3 → vp_in x3 6 ∧ vp_in x1 6 ∧ ((d 34 x3.toNatClampNeg) < (d 34 x1.toNatClampNeg) → b_X2_chosenAheadOf_45 n Q (b_X2_chosenAheadOf_4 n Q k) x1 x2 x3 d dl) ∧ (¬ (d 34 x3.toNatClampNeg) < (d 34 x1.toNatClampNeg) → vp_in x3 6 ∧ vp_in x1 6 ∧ (¬ (d 34 x3.toNatClampNeg) = (d 34 x1.toNatClampNeg) → b_X2_chosenAheadOf_49 n Q (b_X2_chosenAheadOf_4 n Q k) x1 x2 x3 d dl) ∧ ((d 34 x3.toNatClampNeg) = (d 34 x1.toNatClampNeg) → (x1 ≤ x3 → b_X2_chosenAheadOf_49 n Q (b_X2_chosenAheadOf_4 n Q k) x1 x2 x3 d dl) ∧ (¬ x1 ≤ x3 → b_X2_chosenAheadOf_45 n Q (b_X2_chosenAheadOf_4 n Q k) x1 x2 x3 d dl))))
def F_X2_chosenAheadOf (n : Nat) (x1 : Int32) (d : DD) (dl : LL) (Q : Int32 → DD → LL → Prop) : Prop := b_X2_chosenAheadOf_4 n Q n x1 0 0 d dl
set_option maxHeartbeats 4000000 in
set_option maxRecDepth 100000 in
theorem t_X2_chosenAheadOf_72 {g : Ex} {x : Fx} {n : Nat} {Q : Int32 → DD → LL → Prop} (C0 : Cx g x cX2_chosenAheadOf 5 (some .int) RX2 0 0) (hZ : Zi g x Q) {K4 : Int32 → Int32 → Int32 → DD → LL → Prop} (hK4 : ∀ (x1 : Int32) (x2 : Int32) (x3 : Int32) (d : DD) (dl : LL), K4 x1 x2 x3 d dl → FW g x 5 d dl 4 [(0, rf g 32), (1, .int x1), (2, .int x2), (3, .int x3)] []) : ∀ (x1 : Int32) (x3 : Int32) (xs0 : Int32) (xs1 : Int32) (d : DD) (dl : LL), b_X2_chosenAheadOf_72 n Q K4 x1 x3 xs0 xs1 d dl → FW g x 5 d dl 72 [(0, rf g 32), (1, .int x1), (3, .int x3)] [.int xs0, .int xs1] := by
  intro x1 x3 xs0 xs1 d dl hw
  refine f_iadd C0 dX2_chosenAheadOf_72 ?_
  refine f_topi (fun v7 e7 => ?_)
  have hw := hw v7 e7
  refine f_istore_n (lo' := [(2, .int v7), (0, rf g 32), (1, .int x1), (3, .int x3)]) C0 dX2_chosenAheadOf_73 rfl (by decide) rfl ?_
  refine f_iinc (lo' := [(3, .int (x3 + 1)), (2, .int v7), (0, rf g 32), (1, .int x1)]) C0 dX2_chosenAheadOf_74 3 rfl rfl (by decide) rfl ?_
  refine f_goto (tgt := 4) C0 dX2_chosenAheadOf_77 (by decide) ?_
  refine f_sub [2, 3, 1, 0] rfl ?_
  exact hK4 _ _ _ _ _ hw
set_option maxHeartbeats 4000000 in
set_option maxRecDepth 100000 in
theorem t_X2_chosenAheadOf_71 {g : Ex} {x : Fx} {n : Nat} {Q : Int32 → DD → LL → Prop} (C0 : Cx g x cX2_chosenAheadOf 5 (some .int) RX2 0 0) (hZ : Zi g x Q) {K4 : Int32 → Int32 → Int32 → DD → LL → Prop} (hK4 : ∀ (x1 : Int32) (x2 : Int32) (x3 : Int32) (d : DD) (dl : LL), K4 x1 x2 x3 d dl → FW g x 5 d dl 4 [(0, rf g 32), (1, .int x1), (2, .int x2), (3, .int x3)] []) : ∀ (x1 : Int32) (x3 : Int32) (xs0 : Int32) (d : DD) (dl : LL), b_X2_chosenAheadOf_71 n Q K4 x1 x3 xs0 d dl → FW g x 5 d dl 71 [(0, rf g 32), (1, .int x1), (3, .int x3)] [.int xs0] := by
  intro x1 x3 xs0 d dl hw
  refine f_iconst (v := 0) C0 dX2_chosenAheadOf_71 rfl ?_
  exact t_X2_chosenAheadOf_72 C0 hZ hK4 _ _ _ _ _ _ hw
set_option maxHeartbeats 4000000 in
set_option maxRecDepth 100000 in
theorem t_X2_chosenAheadOf_50 {g : Ex} {x : Fx} {n : Nat} {Q : Int32 → DD → LL → Prop} (C0 : Cx g x cX2_chosenAheadOf 5 (some .int) RX2 0 0) (hZ : Zi g x Q) {K4 : Int32 → Int32 → Int32 → DD → LL → Prop} (hK4 : ∀ (x1 : Int32) (x2 : Int32) (x3 : Int32) (d : DD) (dl : LL), K4 x1 x2 x3 d dl → FW g x 5 d dl 4 [(0, rf g 32), (1, .int x1), (2, .int x2), (3, .int x3)] []) : ∀ (x1 : Int32) (x2 : Int32) (x3 : Int32) (xs0 : Int32) (d : DD) (dl : LL), b_X2_chosenAheadOf_50 n Q K4 x1 x2 x3 xs0 d dl → FW g x 5 d dl 50 [(0, rf g 32), (1, .int x1), (2, .int x2), (3, .int x3)] [.int xs0] := by
  intro x1 x2 x3 xs0 d dl hw
  refine f_istore (lo' := [(4, .int xs0), (0, rf g 32), (1, .int x1), (2, .int x2), (3, .int x3)]) C0 dX2_chosenAheadOf_50 (by decide) rfl ?_
  refine f_iload_n C0 dX2_chosenAheadOf_52 rfl 3 rfl ?_
  refine f_aload_n C0 dX2_chosenAheadOf_53 rfl 1 rfl ⟨_, rfl⟩ ?_
  refine gf_2_4 (r := 36) C0 rfl kn_32 mw_245 dX2_chosenAheadOf_54 ?_
  refine f_iload_n C0 dX2_chosenAheadOf_57 rfl 4 rfl ?_
  obtain ⟨h5, hw⟩ := hw
  refine f_zald C0 kn_36 h5 dX2_chosenAheadOf_58 ?_
  refine f_if_eq (tgt := 71) C0 dX2_chosenAheadOf_59 (by decide) (fun h6 => ?_) (fun h6 => ?_)
  · have hw := hw.1 h6
    refine f_sub [1, 2, 4] rfl ?_
    exact t_X2_chosenAheadOf_71 C0 hZ hK4 _ _ _ _ _ hw
  · have hw := hw.2 h6
    refine f_iload C0 dX2_chosenAheadOf_62 0 rfl ?_
    refine f_if_eq (tgt := 71) C0 dX2_chosenAheadOf_64 (by decide) (fun h8 => ?_) (fun h8 => ?_)
    · have hw := hw.1 h8
      refine f_sub [1, 2, 4] rfl ?_
      exact t_X2_chosenAheadOf_71 C0 hZ hK4 _ _ _ _ _ hw
    · have hw := hw.2 h8
      refine f_iconst (v := 1) C0 dX2_chosenAheadOf_67 rfl ?_
      refine f_goto (tgt := 72) C0 dX2_chosenAheadOf_68 (by decide) ?_
      refine f_sub [1, 2, 4] rfl ?_
      exact t_X2_chosenAheadOf_72 C0 hZ hK4 _ _ _ _ _ _ hw
set_option maxHeartbeats 4000000 in
set_option maxRecDepth 100000 in
theorem t_X2_chosenAheadOf_49 {g : Ex} {x : Fx} {n : Nat} {Q : Int32 → DD → LL → Prop} (C0 : Cx g x cX2_chosenAheadOf 5 (some .int) RX2 0 0) (hZ : Zi g x Q) {K4 : Int32 → Int32 → Int32 → DD → LL → Prop} (hK4 : ∀ (x1 : Int32) (x2 : Int32) (x3 : Int32) (d : DD) (dl : LL), K4 x1 x2 x3 d dl → FW g x 5 d dl 4 [(0, rf g 32), (1, .int x1), (2, .int x2), (3, .int x3)] []) : ∀ (x1 : Int32) (x2 : Int32) (x3 : Int32) (d : DD) (dl : LL), b_X2_chosenAheadOf_49 n Q K4 x1 x2 x3 d dl → FW g x 5 d dl 49 [(0, rf g 32), (1, .int x1), (2, .int x2), (3, .int x3)] [] := by
  intro x1 x2 x3 d dl hw
  refine f_iconst (v := 0) C0 dX2_chosenAheadOf_49 rfl ?_
  exact t_X2_chosenAheadOf_50 C0 hZ hK4 _ _ _ _ _ _ hw
set_option maxHeartbeats 4000000 in
set_option maxRecDepth 100000 in
theorem t_X2_chosenAheadOf_45 {g : Ex} {x : Fx} {n : Nat} {Q : Int32 → DD → LL → Prop} (C0 : Cx g x cX2_chosenAheadOf 5 (some .int) RX2 0 0) (hZ : Zi g x Q) {K4 : Int32 → Int32 → Int32 → DD → LL → Prop} (hK4 : ∀ (x1 : Int32) (x2 : Int32) (x3 : Int32) (d : DD) (dl : LL), K4 x1 x2 x3 d dl → FW g x 5 d dl 4 [(0, rf g 32), (1, .int x1), (2, .int x2), (3, .int x3)] []) : ∀ (x1 : Int32) (x2 : Int32) (x3 : Int32) (d : DD) (dl : LL), b_X2_chosenAheadOf_45 n Q K4 x1 x2 x3 d dl → FW g x 5 d dl 45 [(0, rf g 32), (1, .int x1), (2, .int x2), (3, .int x3)] [] := by
  intro x1 x2 x3 d dl hw
  refine f_iconst (v := 1) C0 dX2_chosenAheadOf_45 rfl ?_
  refine f_goto (tgt := 50) C0 dX2_chosenAheadOf_46 (by decide) ?_
  exact t_X2_chosenAheadOf_50 C0 hZ hK4 _ _ _ _ _ _ hw
set_option maxHeartbeats 4000000 in
set_option maxRecDepth 100000 in
theorem t_X2_chosenAheadOf_4 {g : Ex} {x : Fx} {n : Nat} {Q : Int32 → DD → LL → Prop} (C0 : Cx g x cX2_chosenAheadOf 5 (some .int) RX2 0 0) (hZ : Zi g x Q) : ∀ (j : Nat) (x1 : Int32) (x2 : Int32) (x3 : Int32) (d : DD) (dl : LL), b_X2_chosenAheadOf_4 n Q j x1 x2 x3 d dl → FW g x 5 d dl 4 [(0, rf g 32), (1, .int x1), (2, .int x2), (3, .int x3)] [] := by
  intro j
  induction j with
  | zero =>
    intro x1 x2 x3 d dl hw
    exact hw.elim
  | succ j hK4 =>
    intro x1 x2 x3 d dl hw
    refine f_iload_n C0 dX2_chosenAheadOf_4 rfl 3 rfl ?_
    refine f_bipush (v := 6) C0 dX2_chosenAheadOf_5 rfl ?_
    refine f_icmp_ge (tgt := 80) C0 dX2_chosenAheadOf_7 (by decide) (fun h1 => ?_) (fun h1 => ?_)
    · have hw := hw.1 h1
      refine f_iload_n C0 dX2_chosenAheadOf_80 rfl 2 rfl ?_
      exact f_iret C0 hZ hw dX2_chosenAheadOf_81
    · have hw := hw.2 h1
      refine f_aload_n C0 dX2_chosenAheadOf_10 rfl 0 rfl ⟨_, rfl⟩ ?_
      refine gf_2_2 (r := 34) C0 rfl kn_32 mw_243 dX2_chosenAheadOf_11 ?_
      refine f_iload_n C0 dX2_chosenAheadOf_14 rfl 3 rfl ?_
      obtain ⟨h2, hw⟩ := hw
      refine f_iald C0 kn_34 h2 dX2_chosenAheadOf_15 ?_
      refine f_aload_n C0 dX2_chosenAheadOf_16 rfl 0 rfl ⟨_, rfl⟩ ?_
      refine gf_2_2 (r := 34) C0 rfl kn_32 mw_243 dX2_chosenAheadOf_17 ?_
      refine f_iload_n C0 dX2_chosenAheadOf_20 rfl 1 rfl ?_
      obtain ⟨h3, hw⟩ := hw
      refine f_iald C0 kn_34 h3 dX2_chosenAheadOf_21 ?_
      refine f_icmp_lt (tgt := 45) C0 dX2_chosenAheadOf_22 (by decide) (fun h4 => ?_) (fun h4 => ?_)
      · have hw := hw.1 h4
        exact t_X2_chosenAheadOf_45 C0 hZ hK4 _ _ _ _ _ hw
      · have hw := hw.2 h4
        refine f_aload_n C0 dX2_chosenAheadOf_25 rfl 0 rfl ⟨_, rfl⟩ ?_
        refine gf_2_2 (r := 34) C0 rfl kn_32 mw_243 dX2_chosenAheadOf_26 ?_
        refine f_iload_n C0 dX2_chosenAheadOf_29 rfl 3 rfl ?_
        obtain ⟨h9, hw⟩ := hw
        refine f_iald C0 kn_34 h9 dX2_chosenAheadOf_30 ?_
        refine f_aload_n C0 dX2_chosenAheadOf_31 rfl 0 rfl ⟨_, rfl⟩ ?_
        refine gf_2_2 (r := 34) C0 rfl kn_32 mw_243 dX2_chosenAheadOf_32 ?_
        refine f_iload_n C0 dX2_chosenAheadOf_35 rfl 1 rfl ?_
        obtain ⟨h10, hw⟩ := hw
        refine f_iald C0 kn_34 h10 dX2_chosenAheadOf_36 ?_
        refine f_icmp_ne (tgt := 49) C0 dX2_chosenAheadOf_37 (by decide) (fun h11 => ?_) (fun h11 => ?_)
        · have hw := hw.1 h11
          exact t_X2_chosenAheadOf_49 C0 hZ hK4 _ _ _ _ _ hw
        · have hw := hw.2 h11
          refine f_iload_n C0 dX2_chosenAheadOf_40 rfl 3 rfl ?_
          refine f_iload_n C0 dX2_chosenAheadOf_41 rfl 1 rfl ?_
          refine f_icmp_ge (tgt := 49) C0 dX2_chosenAheadOf_42 (by decide) (fun h12 => ?_) (fun h12 => ?_)
          · have hw := hw.1 h12
            exact t_X2_chosenAheadOf_49 C0 hZ hK4 _ _ _ _ _ hw
          · have hw := hw.2 h12
            exact t_X2_chosenAheadOf_45 C0 hZ hK4 _ _ _ _ _ hw
set_option maxHeartbeats 4000000 in
set_option maxRecDepth 100000 in
theorem m_X2_chosenAheadOf {g : Ex} {n : Nat} {x1 : Int32} {d : DD} {dl : LL} {Q : Int32 → DD → LL → Prop} (hw : F_X2_chosenAheadOf n x1 d dl Q) : Mi g yX2_chosenAheadOf cX2_chosenAheadOf 5 (some .int) 0 0 [rf g 32, .int x1] d dl Q := by
  refine Mi.of (by decide) (Nat.le_of_ble_eq_true rfl) (fun x C0 hZ => ?_)
  have C0 : Cx g x cX2_chosenAheadOf 5 (some .int) RX2 0 0 := C0
  refine f_iconst (v := 0) C0 dX2_chosenAheadOf_0 rfl ?_
  refine f_istore_n (lo' := [(2, .int 0), (0, rf g 32), (1, .int x1)]) C0 dX2_chosenAheadOf_1 rfl (by decide) rfl ?_
  refine f_iconst (v := 0) C0 dX2_chosenAheadOf_2 rfl ?_
  refine f_istore_n (lo' := [(3, .int 0), (2, .int 0), (0, rf g 32), (1, .int x1)]) C0 dX2_chosenAheadOf_3 rfl (by decide) rfl ?_
  refine f_sub [2, 3, 1, 0] rfl ?_
  exact t_X2_chosenAheadOf_4 C0 hZ n _ _ _ _ _ hw
def b_X2_putInOrder_7 (n : Nat) (Q : DD → LL → Prop) : Nat → Int32 → DD → LL → Prop
  | 0 => fun _ _ _ => False
  | k + 1 => fun x1 d dl => (6 ≤ x1 → Q d dl) ∧ (¬ 6 ≤ x1 → vp_in x1 6 ∧ ((d 36 x1.toNatClampNeg) = 0 → (b_X2_putInOrder_7 n Q k) (x1 + 1) d dl) ∧ (¬ (d 36 x1.toNatClampNeg) = 0 → F_X2_chosenAheadOf n x1 d dl (fun r5 d6 l7 => vp_in r5 6 ∧ ∀ d9 : DD, d9 = u2 d6 33 r5.toNatClampNeg x1 → ∀ d10 : DD, d10 = u2 d9 32 0 ((d9 32 0) + 1) → (b_X2_putInOrder_7 n Q k) (x1 + 1) d10 l7)))
def F_X2_putInOrder (n : Nat) (d : DD) (dl : LL) (Q : DD → LL → Prop) : Prop := ∀ d1 : DD, d1 = u2 d 32 0 0 → b_X2_putInOrder_7 n Q n 0 d1 dl
set_option maxHeartbeats 4000000 in
set_option maxRecDepth 100000 in
theorem t_X2_putInOrder_7 {g : Ex} {x : Fx} {n : Nat} {Q : DD → LL → Prop} (C0 : Cx g x cX2_putInOrder 2 none RX2 1 24) (hZ : Zv g x Q) : ∀ (j : Nat) (x1 : Int32) (d : DD) (dl : LL), b_X2_putInOrder_7 n Q j x1 d dl → FW g x 2 d dl 7 [(0, rf g 32), (1, .int x1)] [] := by
  intro j
  induction j with
  | zero =>
    intro x1 d dl hw
    exact hw.elim
  | succ j hK7 =>
    intro x1 d dl hw
    refine f_iload_n C0 dX2_putInOrder_7 rfl 1 rfl ?_
    refine f_bipush (v := 6) C0 dX2_putInOrder_8 rfl ?_
    refine f_icmp_ge (tgt := 49) C0 dX2_putInOrder_10 (by decide) (fun h2 => ?_) (fun h2 => ?_)
    · have hw := hw.1 h2
      exact f_vret C0 hZ hw dX2_putInOrder_49
    · have hw := hw.2 h2
      refine f_aload_n C0 dX2_putInOrder_13 rfl 0 rfl ⟨_, rfl⟩ ?_
      refine gf_2_4 (r := 36) C0 rfl kn_32 mw_245 dX2_putInOrder_14 ?_
      refine f_iload_n C0 dX2_putInOrder_17 rfl 1 rfl ?_
      obtain ⟨h3, hw⟩ := hw
      refine f_zald C0 kn_36 h3 dX2_putInOrder_18 ?_
      refine f_if_eq (tgt := 43) C0 dX2_putInOrder_19 (by decide) (fun h4 => ?_) (fun h4 => ?_)
      · have hw := hw.1 h4
        refine f_iinc (lo' := [(1, .int (x1 + 1)), (0, rf g 32)]) C0 dX2_putInOrder_43 1 rfl rfl (by decide) rfl ?_
        refine f_goto (tgt := 7) C0 dX2_putInOrder_46 (by decide) ?_
        refine f_sub [1, 0] rfl ?_
        exact hK7 _ _ _ hw
      · have hw := hw.2 h4
        refine f_aload_n C0 dX2_putInOrder_22 rfl 0 rfl ⟨_, rfl⟩ ?_
        refine gf_2_1 (r := 33) C0 rfl kn_32 mw_241 dX2_putInOrder_23 ?_
        refine f_aload_n C0 dX2_putInOrder_26 rfl 0 rfl ⟨_, rfl⟩ ?_
        refine f_iload_n C0 dX2_putInOrder_27 rfl 1 rfl ?_
        refine f_callVi (As := [.int x1]) (rest := [rf g 33]) C0 (m_X2_chosenAheadOf hw) cw_X2_58 kn_32 (by decide) rfl rfl ⟨(Nat.le_of_ble_eq_true rfl), (Nat.le_of_ble_eq_true rfl)⟩ rfl rfl (Nat.le_of_ble_eq_true rfl) dX2_putInOrder_28 ?_
        intro r5 d6 l7 hw
        refine f_iload_n C0 dX2_putInOrder_31 rfl 1 rfl ?_
        obtain ⟨h8, hw⟩ := hw
        refine f_iast C0 kn_33 h8 dX2_putInOrder_32 (fun d9 ed9 => ?_)
        have hw := hw d9 ed9
        refine f_aload_n C0 dX2_putInOrder_33 rfl 0 rfl ⟨_, rfl⟩ ?_
        refine f_dup C0 dX2_putInOrder_34 rfl ?_
        refine gf_2_0 C0 kn_32 mw_239 dX2_putInOrder_35 ?_
        refine f_iconst (v := 1) C0 dX2_putInOrder_38 rfl ?_
        refine f_iadd C0 dX2_putInOrder_39 ?_
        refine pf_2_0 C0 kn_32 mw_239 dX2_putInOrder_40 (fun d10 ed10 => ?_)
        have hw := hw d10 ed10
        refine f_iinc (lo' := [(1, .int (x1 + 1)), (0, rf g 32)]) C0 dX2_putInOrder_43 1 rfl rfl (by decide) rfl ?_
        refine f_goto (tgt := 7) C0 dX2_putInOrder_46 (by decide) ?_
        refine f_sub [1, 0] rfl ?_
        exact hK7 _ _ _ hw
set_option maxHeartbeats 4000000 in
set_option maxRecDepth 100000 in
theorem m_X2_putInOrder {g : Ex} {n : Nat} {d : DD} {dl : LL} {Q : DD → LL → Prop} (hw : F_X2_putInOrder n d dl Q) : Mv g yX2_putInOrder cX2_putInOrder 2 none 1 24 [rf g 32] d dl Q := by
  refine Mv.of (by decide) (Nat.le_of_ble_eq_true rfl) (fun x C0 hZ => ?_)
  have C0 : Cx g x cX2_putInOrder 2 none RX2 1 24 := C0
  refine f_aload_n C0 dX2_putInOrder_0 rfl 0 rfl ⟨_, rfl⟩ ?_
  refine f_iconst (v := 0) C0 dX2_putInOrder_1 rfl ?_
  refine pf_2_0 C0 kn_32 mw_239 dX2_putInOrder_2 (fun d1 ed1 => ?_)
  have hw := hw d1 ed1
  refine f_iconst (v := 0) C0 dX2_putInOrder_5 rfl ?_
  refine f_istore_n (lo' := [(1, .int 0), (0, rf g 32)]) C0 dX2_putInOrder_6 rfl (by decide) rfl ?_
  refine f_sub [1, 0] rfl ?_
  exact t_X2_putInOrder_7 C0 hZ n _ _ _ hw
def b_X2_choose_118 (n : Nat) (Q : DD → LL → Prop) (K70 : Int32 → Int32 → DD → LL → Prop) (x4 : Int32) (x5 : Int32) (xs0 : Int32) (d : DD) (dl : LL) : Prop := vp_in xs0 6 ∧ ∀ d14 : DD, d14 = u2 d 36 xs0.toNatClampNeg (vp_nar .boolean 0) → K70 x4 (x5 + 1) d14 dl
def b_X2_choose_114 (n : Nat) (Q : DD → LL → Prop) (K70 : Int32 → Int32 → DD → LL → Prop) (x4 : Int32) (x5 : Int32) (xs0 : Int32) (d : DD) (dl : LL) : Prop := vp_in xs0 6 ∧ ∀ d10 : DD, d10 = u2 d 36 xs0.toNatClampNeg (vp_nar .boolean 1) → K70 x4 (x5 + 1) d10 dl
def b_X2_choose_70 (n : Nat) (Q : DD → LL → Prop) : Nat → Int32 → Int32 → DD → LL → Prop
  | 0 => fun _ _ _ _ => False
  | k + 1 => fun x4 x5 d dl => (6 ≤ x5 → F_X2_putInOrder n d dl (fun d5 l6 => Q d5 l6)) ∧ (¬ 6 ≤ x5 → vp_in x5 6 ∧ (¬ (d 35 x5.toNatClampNeg) = 0 → b_X2_choose_114 n Q (b_X2_choose_70 n Q k) x4 x5 x5 d dl) ∧ ((d 35 x5.toNatClampNeg) = 0 → vp_in x5 6 ∧ ((d 34 x5.toNatClampNeg) ≤ 0 → b_X2_choose_118 n Q (b_X2_choose_70 n Q k) x4 x5 x5 d dl) ∧ (¬ (d 34 x5.toNatClampNeg) ≤ 0 → F_X2_fasterOthers n x5 d dl (fun r15 d16 l17 => (x4 ≤ r15 → b_X2_choose_118 n Q (b_X2_choose_70 n Q k) x4 x5 x5 d16 l17) ∧ (¬ x4 ≤ r15 → b_X2_choose_114 n Q (b_X2_choose_70 n Q k) x4 x5 x5 d16 l17)))))
def b_X2_choose_35 (n : Nat) (Q : DD → LL → Prop) : Nat → Int32 → Int32 → Int32 → Int32 → DD → LL → Prop
  | 0 => fun _ _ _ _ _ _ => False
  | k + 1 => fun x2 x3 x4 x5 d dl => (x2 ≤ x5 → b_X2_choose_70 n Q n x4 0 d dl) ∧ (¬ x2 ≤ x5 → vp_in x5 24 ∧ ∀ k20 : Nat, k20 = x5.toNatClampNeg → ((d (91 + 5 * k20) 1) = 1 → (b_X2_choose_35 n Q k) x2 x3 x4 (x5 + 1) d dl) ∧ (¬ (d (91 + 5 * k20) 1) = 1 → vp_in x5 24 ∧ ∀ k23 : Nat, k23 = x5.toNatClampNeg → F_X2_addHeat n k23 x3 d dl (fun d25 l26 => (b_X2_choose_35 n Q k) x2 x3 x4 (x5 + 1) d25 l26)))
def b_X2_choose_3 (n : Nat) (Q : DD → LL → Prop) : Nat → Int32 → Int32 → Int32 → Int32 → DD → LL → Prop
  | 0 => fun _ _ _ _ _ _ => False
  | k + 1 => fun x2 x3 x4 x5 d dl => (6 ≤ x5 → b_X2_choose_35 n Q n x2 x3 x4 0 d dl) ∧ (¬ 6 ≤ x5 → vp_in x5 6 ∧ ∀ d28 : DD, d28 = u2 d 34 x5.toNatClampNeg 0 → vp_in x5 6 ∧ ∀ d30 : DD, d30 = u2 d28 35 x5.toNatClampNeg (vp_nar .boolean 0) → (b_X2_choose_3 n Q k) x2 x3 x4 (x5 + 1) d30 dl)
def F_X2_choose (n : Nat) (x2 : Int32) (x3 : Int32) (x4 : Int32) (d : DD) (dl : LL) (Q : DD → LL → Prop) : Prop := b_X2_choose_3 n Q n x2 x3 x4 0 d dl
set_option maxHeartbeats 4000000 in
set_option maxRecDepth 100000 in
theorem t_X2_choose_118 {g : Ex} {x : Fx} {n : Nat} {Q : DD → LL → Prop} (C0 : Cx g x cX2_choose 6 none RX2 2 49) (hZ : Zv g x Q) {K70 : Int32 → Int32 → DD → LL → Prop} (hK70 : ∀ (x4 : Int32) (x5 : Int32) (d : DD) (dl : LL), K70 x4 x5 d dl → FW g x 6 d dl 70 [(0, rf g 32), (4, .int x4), (5, .int x5)] []) : ∀ (x4 : Int32) (x5 : Int32) (xs0 : Int32) (d : DD) (dl : LL), b_X2_choose_118 n Q K70 x4 x5 xs0 d dl → FW g x 6 d dl 118 [(0, rf g 32), (4, .int x4), (5, .int x5)] [.int xs0, rf g 36] := by
  intro x4 x5 xs0 d dl hw
  refine f_iconst (v := 0) C0 dX2_choose_118 rfl ?_
  obtain ⟨h13, hw⟩ := hw
  refine f_zast C0 kn_36 h13 dX2_choose_119 (fun d14 ed14 => ?_)
  have hw := hw d14 ed14
  refine f_iinc (lo' := [(5, .int (x5 + 1)), (0, rf g 32), (4, .int x4)]) C0 dX2_choose_120 2 rfl rfl (by decide) rfl ?_
  refine f_goto (tgt := 70) C0 dX2_choose_123 (by decide) ?_
  refine f_sub [1, 2, 0] rfl ?_
  exact hK70 _ _ _ _ hw
set_option maxHeartbeats 4000000 in
set_option maxRecDepth 100000 in
theorem t_X2_choose_114 {g : Ex} {x : Fx} {n : Nat} {Q : DD → LL → Prop} (C0 : Cx g x cX2_choose 6 none RX2 2 49) (hZ : Zv g x Q) {K70 : Int32 → Int32 → DD → LL → Prop} (hK70 : ∀ (x4 : Int32) (x5 : Int32) (d : DD) (dl : LL), K70 x4 x5 d dl → FW g x 6 d dl 70 [(0, rf g 32), (4, .int x4), (5, .int x5)] []) : ∀ (x4 : Int32) (x5 : Int32) (xs0 : Int32) (d : DD) (dl : LL), b_X2_choose_114 n Q K70 x4 x5 xs0 d dl → FW g x 6 d dl 114 [(0, rf g 32), (4, .int x4), (5, .int x5)] [.int xs0, rf g 36] := by
  intro x4 x5 xs0 d dl hw
  refine f_iconst (v := 1) C0 dX2_choose_114 rfl ?_
  refine f_goto (tgt := 119) C0 dX2_choose_115 (by decide) ?_
  obtain ⟨h9, hw⟩ := hw
  refine f_zast C0 kn_36 h9 dX2_choose_119 (fun d10 ed10 => ?_)
  have hw := hw d10 ed10
  refine f_iinc (lo' := [(5, .int (x5 + 1)), (0, rf g 32), (4, .int x4)]) C0 dX2_choose_120 2 rfl rfl (by decide) rfl ?_
  refine f_goto (tgt := 70) C0 dX2_choose_123 (by decide) ?_
  refine f_sub [1, 2, 0] rfl ?_
  exact hK70 _ _ _ _ hw
set_option maxHeartbeats 4000000 in
set_option maxRecDepth 100000 in
theorem t_X2_choose_70 {g : Ex} {x : Fx} {n : Nat} {Q : DD → LL → Prop} (C0 : Cx g x cX2_choose 6 none RX2 2 49) (hZ : Zv g x Q) : ∀ (j : Nat) (x4 : Int32) (x5 : Int32) (d : DD) (dl : LL), b_X2_choose_70 n Q j x4 x5 d dl → FW g x 6 d dl 70 [(0, rf g 32), (4, .int x4), (5, .int x5)] [] := by
  intro j
  induction j with
  | zero =>
    intro x4 x5 d dl hw
    exact hw.elim
  | succ j hK70 =>
    intro x4 x5 d dl hw
    refine f_iload C0 dX2_choose_70 2 rfl ?_
    refine f_bipush (v := 6) C0 dX2_choose_72 rfl ?_
    refine f_icmp_ge (tgt := 126) C0 dX2_choose_74 (by decide) (fun h3 => ?_) (fun h3 => ?_)
    · have hw := hw.1 h3
      refine f_aload_n C0 dX2_choose_126 rfl 0 rfl ⟨_, rfl⟩ ?_
      refine f_callVv (As := []) (rest := []) C0 (m_X2_putInOrder hw) cw_X2_42 kn_32 (by decide) rfl rfl ⟨(Nat.le_of_ble_eq_true rfl), (Nat.le_of_ble_eq_true rfl)⟩ rfl rfl (Nat.le_of_ble_eq_true rfl) dX2_choose_127 ?_
      intro d5 l6 hw
      exact f_vret C0 hZ hw dX2_choose_130
    · have hw := hw.2 h3
      refine f_aload_n C0 dX2_choose_77 rfl 0 rfl ⟨_, rfl⟩ ?_
      refine gf_2_4 (r := 36) C0 rfl kn_32 mw_245 dX2_choose_78 ?_
      refine f_iload C0 dX2_choose_81 2 rfl ?_
      refine f_aload_n C0 dX2_choose_83 rfl 0 rfl ⟨_, rfl⟩ ?_
      refine gf_2_3 (r := 35) C0 rfl kn_32 mw_244 dX2_choose_84 ?_
      refine f_iload C0 dX2_choose_87 2 rfl ?_
      obtain ⟨h7, hw⟩ := hw
      refine f_zald C0 kn_35 h7 dX2_choose_89 ?_
      refine f_if_ne (tgt := 114) C0 dX2_choose_90 (by decide) (fun h8 => ?_) (fun h8 => ?_)
      · have hw := hw.1 h8
        exact t_X2_choose_114 C0 hZ hK70 _ _ _ _ _ hw
      · have hw := hw.2 h8
        refine f_aload_n C0 dX2_choose_93 rfl 0 rfl ⟨_, rfl⟩ ?_
        refine gf_2_2 (r := 34) C0 rfl kn_32 mw_243 dX2_choose_94 ?_
        refine f_iload C0 dX2_choose_97 2 rfl ?_
        obtain ⟨h11, hw⟩ := hw
        refine f_iald C0 kn_34 h11 dX2_choose_99 ?_
        refine f_if_le (tgt := 118) C0 dX2_choose_100 (by decide) (fun h12 => ?_) (fun h12 => ?_)
        · have hw := hw.1 h12
          exact t_X2_choose_118 C0 hZ hK70 _ _ _ _ _ hw
        · have hw := hw.2 h12
          refine f_aload_n C0 dX2_choose_103 rfl 0 rfl ⟨_, rfl⟩ ?_
          refine f_iload C0 dX2_choose_104 2 rfl ?_
          refine f_callVi (As := [.int x5]) (rest := [.int x5, rf g 36]) C0 (m_X2_fasterOthers hw) cw_X2_38 kn_32 (by decide) rfl rfl ⟨(Nat.le_of_ble_eq_true rfl), (Nat.le_of_ble_eq_true rfl)⟩ rfl rfl (Nat.le_of_ble_eq_true rfl) dX2_choose_106 ?_
          intro r15 d16 l17 hw
          refine f_iload C0 dX2_choose_109 1 rfl ?_
          refine f_icmp_ge (tgt := 118) C0 dX2_choose_111 (by decide) (fun h18 => ?_) (fun h18 => ?_)
          · have hw := hw.1 h18
            exact t_X2_choose_118 C0 hZ hK70 _ _ _ _ _ hw
          · have hw := hw.2 h18
            exact t_X2_choose_114 C0 hZ hK70 _ _ _ _ _ hw
set_option maxHeartbeats 4000000 in
set_option maxRecDepth 100000 in
theorem t_X2_choose_35 {g : Ex} {x : Fx} {n : Nat} {Q : DD → LL → Prop} (C0 : Cx g x cX2_choose 6 none RX2 2 49) (hZ : Zv g x Q) : ∀ (j : Nat) (x2 : Int32) (x3 : Int32) (x4 : Int32) (x5 : Int32) (d : DD) (dl : LL), b_X2_choose_35 n Q j x2 x3 x4 x5 d dl → FW g x 6 d dl 35 [(0, rf g 32), (1, rf g 30), (2, .int x2), (3, .int x3), (4, .int x4), (5, .int x5)] [] := by
  intro j
  induction j with
  | zero =>
    intro x2 x3 x4 x5 d dl hw
    exact hw.elim
  | succ j hK35 =>
    intro x2 x3 x4 x5 d dl hw
    refine f_iload C0 dX2_choose_35 5 rfl ?_
    refine f_iload_n C0 dX2_choose_37 rfl 2 rfl ?_
    refine f_icmp_ge (tgt := 67) C0 dX2_choose_38 (by decide) (fun h2 => ?_) (fun h2 => ?_)
    · have hw := hw.1 h2
      refine f_iconst (v := 0) C0 dX2_choose_67 rfl ?_
      refine f_istore (lo' := [(5, .int 0), (0, rf g 32), (1, rf g 30), (2, .int x2), (3, .int x3), (4, .int x4)]) C0 dX2_choose_68 (by decide) rfl ?_
      refine f_sub [1, 5, 0] rfl ?_
      exact t_X2_choose_70 C0 hZ n _ _ _ _ hw
    · have hw := hw.2 h2
      refine f_aload_n C0 dX2_choose_41 rfl 1 rfl ⟨_, rfl⟩ ?_
      refine f_iload C0 dX2_choose_42 5 rfl ?_
      obtain ⟨h19, hw⟩ := hw
      refine f_aald16 C0 kn_30 h19 dX2_choose_44 (fun k20 ek20 hk20 => ?_)
      have hw := hw k20 ek20
      refine gf_3_1 C0 (kn_race_0 hk20) mw_339 dX2_choose_45 ?_
      refine f_iconst (v := 1) C0 dX2_choose_48 rfl ?_
      refine f_icmp_eq (tgt := 61) C0 dX2_choose_49 (by decide) (fun h21 => ?_) (fun h21 => ?_)
      · have hw := hw.1 h21
        refine f_iinc (lo' := [(5, .int (x5 + 1)), (0, rf g 32), (1, rf g 30), (2, .int x2), (3, .int x3), (4, .int x4)]) C0 dX2_choose_61 5 rfl rfl (by decide) rfl ?_
        refine f_goto (tgt := 35) C0 dX2_choose_64 (by decide) ?_
        refine f_sub [1, 2, 3, 4, 5, 0] rfl ?_
        exact hK35 _ _ _ _ _ _ hw
      · have hw := hw.2 h21
        refine f_aload_n C0 dX2_choose_52 rfl 0 rfl ⟨_, rfl⟩ ?_
        refine f_aload_n C0 dX2_choose_53 rfl 1 rfl ⟨_, rfl⟩ ?_
        refine f_iload C0 dX2_choose_54 5 rfl ?_
        obtain ⟨h22, hw⟩ := hw
        refine f_aald16 C0 kn_30 h22 dX2_choose_56 (fun k23 ek23 hk23 => ?_)
        have hw := hw k23 ek23
        refine f_iload_n C0 dX2_choose_57 rfl 3 rfl ?_
        refine f_callVv (As := [rf g (91 + 5 * k23), .int x3]) (rest := []) C0 (m_X2_addHeat hk23 hw) cw_X2_34 kn_32 (by decide) rfl rfl ⟨(Nat.le_of_ble_eq_true rfl), (Nat.le_of_ble_eq_true rfl)⟩ rfl rfl (Nat.le_of_ble_eq_true rfl) dX2_choose_58 ?_
        intro d25 l26 hw
        refine f_iinc (lo' := [(5, .int (x5 + 1)), (0, rf g 32), (1, rf g 30), (2, .int x2), (3, .int x3), (4, .int x4)]) C0 dX2_choose_61 5 rfl rfl (by decide) rfl ?_
        refine f_goto (tgt := 35) C0 dX2_choose_64 (by decide) ?_
        refine f_sub [1, 2, 3, 4, 5, 0] rfl ?_
        exact hK35 _ _ _ _ _ _ hw
set_option maxHeartbeats 4000000 in
set_option maxRecDepth 100000 in
theorem t_X2_choose_3 {g : Ex} {x : Fx} {n : Nat} {Q : DD → LL → Prop} (C0 : Cx g x cX2_choose 6 none RX2 2 49) (hZ : Zv g x Q) : ∀ (j : Nat) (x2 : Int32) (x3 : Int32) (x4 : Int32) (x5 : Int32) (d : DD) (dl : LL), b_X2_choose_3 n Q j x2 x3 x4 x5 d dl → FW g x 6 d dl 3 [(0, rf g 32), (1, rf g 30), (2, .int x2), (3, .int x3), (4, .int x4), (5, .int x5)] [] := by
  intro j
  induction j with
  | zero =>
    intro x2 x3 x4 x5 d dl hw
    exact hw.elim
  | succ j hK3 =>
    intro x2 x3 x4 x5 d dl hw
    refine f_iload C0 dX2_choose_3 5 rfl ?_
    refine f_bipush (v := 6) C0 dX2_choose_5 rfl ?_
    refine f_icmp_ge (tgt := 32) C0 dX2_choose_7 (by decide) (fun h1 => ?_) (fun h1 => ?_)
    · have hw := hw.1 h1
      refine f_iconst (v := 0) C0 dX2_choose_32 rfl ?_
      refine f_istore (lo' := [(5, .int 0), (0, rf g 32), (1, rf g 30), (2, .int x2), (3, .int x3), (4, .int x4)]) C0 dX2_choose_33 (by decide) rfl ?_
      refine f_sub [1, 2, 3, 4, 5, 0] rfl ?_
      exact t_X2_choose_35 C0 hZ n _ _ _ _ _ _ hw
    · have hw := hw.2 h1
      refine f_aload_n C0 dX2_choose_10 rfl 0 rfl ⟨_, rfl⟩ ?_
      refine gf_2_2 (r := 34) C0 rfl kn_32 mw_243 dX2_choose_11 ?_
      refine f_iload C0 dX2_choose_14 5 rfl ?_
      refine f_iconst (v := 0) C0 dX2_choose_16 rfl ?_
      obtain ⟨h27, hw⟩ := hw
      refine f_iast C0 kn_34 h27 dX2_choose_17 (fun d28 ed28 => ?_)
      have hw := hw d28 ed28
      refine f_aload_n C0 dX2_choose_18 rfl 0 rfl ⟨_, rfl⟩ ?_
      refine gf_2_3 (r := 35) C0 rfl kn_32 mw_244 dX2_choose_19 ?_
      refine f_iload C0 dX2_choose_22 5 rfl ?_
      refine f_iconst (v := 0) C0 dX2_choose_24 rfl ?_
      obtain ⟨h29, hw⟩ := hw
      refine f_zast C0 kn_35 h29 dX2_choose_25 (fun d30 ed30 => ?_)
      have hw := hw d30 ed30
      refine f_iinc (lo' := [(5, .int (x5 + 1)), (0, rf g 32), (1, rf g 30), (2, .int x2), (3, .int x3), (4, .int x4)]) C0 dX2_choose_26 5 rfl rfl (by decide) rfl ?_
      refine f_goto (tgt := 3) C0 dX2_choose_29 (by decide) ?_
      refine f_sub [1, 2, 3, 4, 5, 0] rfl ?_
      exact hK3 _ _ _ _ _ _ hw
set_option maxHeartbeats 4000000 in
set_option maxRecDepth 100000 in
theorem m_X2_choose {g : Ex} {n : Nat} {x2 : Int32} {x3 : Int32} {x4 : Int32} {d : DD} {dl : LL} {Q : DD → LL → Prop} (hw : F_X2_choose n x2 x3 x4 d dl Q) : Mv g yX2_choose cX2_choose 6 none 2 49 [rf g 32, rf g 30, .int x2, .int x3, .int x4] d dl Q := by
  refine Mv.of (by decide) (Nat.le_of_ble_eq_true rfl) (fun x C0 hZ => ?_)
  have C0 : Cx g x cX2_choose 6 none RX2 2 49 := C0
  refine f_iconst (v := 0) C0 dX2_choose_0 rfl ?_
  refine f_istore (lo' := [(5, .int 0), (0, rf g 32), (1, rf g 30), (2, .int x2), (3, .int x3), (4, .int x4)]) C0 dX2_choose_1 (by decide) rfl ?_
  refine f_sub [1, 2, 3, 4, 5, 0] rfl ?_
  exact t_X2_choose_3 C0 hZ n _ _ _ _ _ _ hw
def F_X9_finalists (n : Nat) (x1 : Int32) (x2 : Int32) (d : DD) (dl : LL) (Q : Int32 → DD → LL → Prop) : Prop := F_X9_within n x1 0 9 d dl (fun r1 d2 l3 => (r1 = 0 → Q (-2) d2 l3) ∧ (¬ r1 = 0 → F_X9_within n x2 0 9 d2 l3 (fun r5 d6 l7 => (¬ r5 = 0 → F_X2_choose n (d6 0 13) x1 x2 d6 l7 (fun d10 l11 => Q (d10 32 0) d10 l11)) ∧ (r5 = 0 → Q (-2) d6 l7))))
set_option maxHeartbeats 4000000 in
set_option maxRecDepth 100000 in
theorem m_X9_finalists {g : Ex} {n : Nat} {x1 : Int32} {x2 : Int32} {d : DD} {dl : LL} {Q : Int32 → DD → LL → Prop} (hw : F_X9_finalists n x1 x2 d dl Q) : Mi g yX9_finalists cX9_finalists 3 (some .int) 3 74 [rf g 0, .int x1, .int x2] d dl Q := by
  refine Mi.of (by decide) (Nat.le_of_ble_eq_true rfl) (fun x C0 hZ => ?_)
  have C0 : Cx g x cX9_finalists 3 (some .int) RX9 3 74 := C0
  refine f_iload_n C0 dX9_finalists_0 rfl 1 rfl ?_
  refine f_iconst (v := 0) C0 dX9_finalists_1 rfl ?_
  refine f_bipush (v := 9) C0 dX9_finalists_2 rfl ?_
  refine f_callSi (As := [.int x1, .int 0, .int 9]) (rest := []) C0 (m_X9_within hw) cw_X9_97  ⟨(Nat.le_of_ble_eq_true rfl), (Nat.le_of_ble_eq_true rfl)⟩ rfl rfl (Nat.le_of_ble_eq_true rfl) dX9_finalists_4 ?_
  intro r1 d2 l3 hw
  refine f_if_eq (tgt := 20) C0 dX9_finalists_7 (by decide) (fun h4 => ?_) (fun h4 => ?_)
  · have hw := hw.1 h4
    refine f_bipush (v := (-2)) C0 dX9_finalists_20 rfl ?_
    exact f_iret C0 hZ hw dX9_finalists_22
  · have hw := hw.2 h4
    refine f_iload_n C0 dX9_finalists_10 rfl 2 rfl ?_
    refine f_iconst (v := 0) C0 dX9_finalists_11 rfl ?_
    refine f_bipush (v := 9) C0 dX9_finalists_12 rfl ?_
    refine f_callSi (As := [.int x2, .int 0, .int 9]) (rest := []) C0 (m_X9_within hw) cw_X9_97  ⟨(Nat.le_of_ble_eq_true rfl), (Nat.le_of_ble_eq_true rfl)⟩ rfl rfl (Nat.le_of_ble_eq_true rfl) dX9_finalists_14 ?_
    intro r5 d6 l7 hw
    refine f_if_ne (tgt := 23) C0 dX9_finalists_17 (by decide) (fun h8 => ?_) (fun h8 => ?_)
    · have hw := hw.1 h8
      refine f_aload_n C0 dX9_finalists_23 rfl 0 rfl ⟨_, rfl⟩ ?_
      refine gf_9_15 (r := 32) C0 rfl kn_0 mw_383 dX9_finalists_24 ?_
      refine f_aload_n C0 dX9_finalists_27 rfl 0 rfl ⟨_, rfl⟩ ?_
      refine gf_9_12 (r := 30) C0 rfl kn_0 mw_380 dX9_finalists_28 ?_
      refine f_aload_n C0 dX9_finalists_31 rfl 0 rfl ⟨_, rfl⟩ ?_
      refine gf_9_13 C0 kn_0 mw_381 dX9_finalists_32 ?_
      refine f_iload_n C0 dX9_finalists_35 rfl 1 rfl ?_
      refine f_iload_n C0 dX9_finalists_36 rfl 2 rfl ?_
      refine f_callVv (As := [rf g 30, .int (d6 0 13), .int x1, .int x2]) (rest := []) C0 (m_X2_choose hw) cw_X9_264 kn_32 (by decide) rfl rfl ⟨(Nat.le_of_ble_eq_true rfl), (Nat.le_of_ble_eq_true rfl)⟩ rfl rfl (Nat.le_of_ble_eq_true rfl) dX9_finalists_37 ?_
      intro d10 l11 hw
      refine f_aload_n C0 dX9_finalists_40 rfl 0 rfl ⟨_, rfl⟩ ?_
      refine gf_9_15 (r := 32) C0 rfl kn_0 mw_383 dX9_finalists_41 ?_
      refine gf_2_0 C0 kn_32 mw_240 dX9_finalists_44 ?_
      exact f_iret C0 hZ hw dX9_finalists_47
    · have hw := hw.2 h8
      refine f_bipush (v := (-2)) C0 dX9_finalists_20 rfl ?_
      exact f_iret C0 hZ hw dX9_finalists_22
def F_X9_finalist (n : Nat) (x1 : Int32) (d : DD) (dl : LL) (Q : Int32 → DD → LL → Prop) : Prop := F_X9_within n x1 0 ((d 32 0) - 1) d dl (fun r1 d2 l3 => (r1 = 0 → Q (-1) d2 l3) ∧ (¬ r1 = 0 → vp_in x1 6 ∧ Q (d2 33 x1.toNatClampNeg) d2 l3))
set_option maxHeartbeats 4000000 in
set_option maxRecDepth 100000 in
theorem m_X9_finalist {g : Ex} {n : Nat} {x1 : Int32} {d : DD} {dl : LL} {Q : Int32 → DD → LL → Prop} (hw : F_X9_finalist n x1 d dl Q) : Mi g yX9_finalist cX9_finalist 2 (some .int) 1 22 [rf g 0, .int x1] d dl Q := by
  refine Mi.of (by decide) (Nat.le_of_ble_eq_true rfl) (fun x C0 hZ => ?_)
  have C0 : Cx g x cX9_finalist 2 (some .int) RX9 1 22 := C0
  refine f_iload_n C0 dX9_finalist_0 rfl 1 rfl ?_
  refine f_iconst (v := 0) C0 dX9_finalist_1 rfl ?_
  refine f_aload_n C0 dX9_finalist_2 rfl 0 rfl ⟨_, rfl⟩ ?_
  refine gf_9_15 (r := 32) C0 rfl kn_0 mw_383 dX9_finalist_3 ?_
  refine gf_2_0 C0 kn_32 mw_240 dX9_finalist_6 ?_
  refine f_iconst (v := 1) C0 dX9_finalist_9 rfl ?_
  refine f_isub C0 dX9_finalist_10 ?_
  refine f_callSi (As := [.int x1, .int 0, .int ((d 32 0) - 1)]) (rest := []) C0 (m_X9_within hw) cw_X9_97  ⟨(Nat.le_of_ble_eq_true rfl), (Nat.le_of_ble_eq_true rfl)⟩ rfl rfl (Nat.le_of_ble_eq_true rfl) dX9_finalist_11 ?_
  intro r1 d2 l3 hw
  refine f_if_eq (tgt := 29) C0 dX9_finalist_14 (by decide) (fun h4 => ?_) (fun h4 => ?_)
  · have hw := hw.1 h4
    refine f_iconst (v := (-1)) C0 dX9_finalist_29 rfl ?_
    exact f_iret C0 hZ hw dX9_finalist_30
  · have hw := hw.2 h4
    refine f_aload_n C0 dX9_finalist_17 rfl 0 rfl ⟨_, rfl⟩ ?_
    refine gf_9_15 (r := 32) C0 rfl kn_0 mw_383 dX9_finalist_18 ?_
    refine gf_2_1 (r := 33) C0 rfl kn_32 mw_242 dX9_finalist_21 ?_
    refine f_iload_n C0 dX9_finalist_24 rfl 1 rfl ?_
    obtain ⟨h5, hw⟩ := hw
    refine f_iald C0 kn_33 h5 dX9_finalist_25 ?_
    refine f_goto (tgt := 30) C0 dX9_finalist_26 (by decide) ?_
    exact f_iret C0 hZ hw dX9_finalist_30
def b_X9_slack_47 (n : Nat) (Q : Int32 → DD → LL → Prop) (K4 : Int32 → Int32 → DD → LL → Prop) (K14 : Int32 → Int32 → Int32 → DD → LL → Prop) (x1 : Int32) (x2 : Int32) (x3 : Int32) (x4 : Int32) (d : DD) (dl : LL) : Prop := vp_in x2 24 ∧ ∀ k12 : Nat, k12 = x2.toNatClampNeg → vp_in x3 24 ∧ ∀ k14 : Nat, k14 = x3.toNatClampNeg → F_X9_racesMeet n k12 k14 d dl (fun r15 d16 l17 => (r15 = 0 → K14 x1 x2 (x3 + 1) d16 l17) ∧ (¬ r15 = 0 → K14 x4 x2 (x3 + 1) d16 l17))
def b_X9_slack_14 (n : Nat) (Q : Int32 → DD → LL → Prop) (K4 : Int32 → Int32 → DD → LL → Prop) : Nat → Int32 → Int32 → Int32 → DD → LL → Prop
  | 0 => fun _ _ _ _ _ => False
  | k + 1 => fun x1 x2 x3 d dl => (x2 ≤ x3 → K4 x1 (x2 + 1) d dl) ∧ (¬ x2 ≤ x3 → vp_in x2 24 ∧ ∀ k4 : Nat, k4 = x2.toNatClampNeg → vp_in x3 24 ∧ ∀ k6 : Nat, k6 = x3.toNatClampNeg → F_X3_minutesTo n k4 k6 d dl (fun r7 d8 l9 => (x1 = (-1) → b_X9_slack_47 n Q K4 (b_X9_slack_14 n Q K4 k) x1 x2 x3 r7 d8 l9) ∧ (¬ x1 = (-1) → (x1 ≤ r7 → (b_X9_slack_14 n Q K4 k) x1 x2 (x3 + 1) d8 l9) ∧ (¬ x1 ≤ r7 → b_X9_slack_47 n Q K4 (b_X9_slack_14 n Q K4 k) x1 x2 x3 r7 d8 l9))))
def b_X9_slack_4 (n : Nat) (Q : Int32 → DD → LL → Prop) : Nat → Int32 → Int32 → DD → LL → Prop
  | 0 => fun _ _ _ _ => False
  | k + 1 => fun x1 x2 d dl => ((d 0 13) ≤ x2 → Q x1 d dl) ∧ (¬ (d 0 13) ≤ x2 → b_X9_slack_14 n Q (b_X9_slack_4 n Q k) n x1 x2 0 d dl)
def F_X9_slack (n : Nat) (d : DD) (dl : LL) (Q : Int32 → DD → LL → Prop) : Prop := b_X9_slack_4 n Q n (-1) 0 d dl
set_option maxHeartbeats 4000000 in
set_option maxRecDepth 100000 in
theorem t_X9_slack_47 {g : Ex} {x : Fx} {n : Nat} {Q : Int32 → DD → LL → Prop} (C0 : Cx g x cX9_slack 5 (some .int) RX9 2 47) (hZ : Zi g x Q) {K4 : Int32 → Int32 → DD → LL → Prop} (hK4 : ∀ (x1 : Int32) (x2 : Int32) (d : DD) (dl : LL), K4 x1 x2 d dl → FW g x 5 d dl 4 [(0, rf g 0), (1, .int x1), (2, .int x2)] []) {K14 : Int32 → Int32 → Int32 → DD → LL → Prop} (hK14 : ∀ (x1 : Int32) (x2 : Int32) (x3 : Int32) (d : DD) (dl : LL), K14 x1 x2 x3 d dl → FW g x 5 d dl 14 [(0, rf g 0), (1, .int x1), (2, .int x2), (3, .int x3)] []) : ∀ (x1 : Int32) (x2 : Int32) (x3 : Int32) (x4 : Int32) (d : DD) (dl : LL), b_X9_slack_47 n Q K4 K14 x1 x2 x3 x4 d dl → FW g x 5 d dl 47 [(0, rf g 0), (1, .int x1), (2, .int x2), (3, .int x3), (4, .int x4)] [] := by
  intro x1 x2 x3 x4 d dl hw
  refine f_aload_n C0 dX9_slack_47 rfl 0 rfl ⟨_, rfl⟩ ?_
  refine f_aload_n C0 dX9_slack_48 rfl 0 rfl ⟨_, rfl⟩ ?_
  refine gf_9_12 (r := 30) C0 rfl kn_0 mw_380 dX9_slack_49 ?_
  refine f_iload_n C0 dX9_slack_52 rfl 2 rfl ?_
  obtain ⟨h11, hw⟩ := hw
  refine f_aald16 C0 kn_30 h11 dX9_slack_53 (fun k12 ek12 hk12 => ?_)
  have hw := hw k12 ek12
  refine f_aload_n C0 dX9_slack_54 rfl 0 rfl ⟨_, rfl⟩ ?_
  refine gf_9_12 (r := 30) C0 rfl kn_0 mw_380 dX9_slack_55 ?_
  refine f_iload_n C0 dX9_slack_58 rfl 3 rfl ?_
  obtain ⟨h13, hw⟩ := hw
  refine f_aald16 C0 kn_30 h13 dX9_slack_59 (fun k14 ek14 hk14 => ?_)
  have hw := hw k14 ek14
  refine f_callVi (As := [rf g (91 + 5 * k12), rf g (91 + 5 * k14)]) (rest := []) C0 (m_X9_racesMeet hk12 hk14 hw) cw_X9_276 kn_0 (by decide) rfl rfl ⟨(Nat.le_of_ble_eq_true rfl), (Nat.le_of_ble_eq_true rfl)⟩ rfl rfl (Nat.le_of_ble_eq_true rfl) dX9_slack_60 ?_
  intro r15 d16 l17 hw
  refine f_if_eq (tgt := 69) C0 dX9_slack_63 (by decide) (fun h18 => ?_) (fun h18 => ?_)
  · have hw := hw.1 h18
    refine f_iinc (lo' := [(3, .int (x3 + 1)), (0, rf g 0), (1, .int x1), (2, .int x2), (4, .int x4)]) C0 dX9_slack_69 3 rfl rfl (by decide) rfl ?_
    refine f_goto (tgt := 14) C0 dX9_slack_72 (by decide) ?_
    refine f_sub [1, 2, 3, 0] rfl ?_
    exact hK14 _ _ _ _ _ hw
  · have hw := hw.2 h18
    refine f_iload C0 dX9_slack_66 4 rfl ?_
    refine f_istore_n (lo' := [(1, .int x4), (0, rf g 0), (2, .int x2), (3, .int x3), (4, .int x4)]) C0 dX9_slack_68 rfl (by decide) rfl ?_
    refine f_iinc (lo' := [(3, .int (x3 + 1)), (1, .int x4), (0, rf g 0), (2, .int x2), (4, .int x4)]) C0 dX9_slack_69 3 rfl rfl (by decide) rfl ?_
    refine f_goto (tgt := 14) C0 dX9_slack_72 (by decide) ?_
    refine f_sub [2, 1, 3, 0] rfl ?_
    exact hK14 _ _ _ _ _ hw
set_option maxHeartbeats 4000000 in
set_option maxRecDepth 100000 in
theorem t_X9_slack_14 {g : Ex} {x : Fx} {n : Nat} {Q : Int32 → DD → LL → Prop} (C0 : Cx g x cX9_slack 5 (some .int) RX9 2 47) (hZ : Zi g x Q) {K4 : Int32 → Int32 → DD → LL → Prop} (hK4 : ∀ (x1 : Int32) (x2 : Int32) (d : DD) (dl : LL), K4 x1 x2 d dl → FW g x 5 d dl 4 [(0, rf g 0), (1, .int x1), (2, .int x2)] []) : ∀ (j : Nat) (x1 : Int32) (x2 : Int32) (x3 : Int32) (d : DD) (dl : LL), b_X9_slack_14 n Q K4 j x1 x2 x3 d dl → FW g x 5 d dl 14 [(0, rf g 0), (1, .int x1), (2, .int x2), (3, .int x3)] [] := by
  intro j
  induction j with
  | zero =>
    intro x1 x2 x3 d dl hw
    exact hw.elim
  | succ j hK14 =>
    intro x1 x2 x3 d dl hw
    refine f_iload_n C0 dX9_slack_14 rfl 3 rfl ?_
    refine f_iload_n C0 dX9_slack_15 rfl 2 rfl ?_
    refine f_icmp_ge (tgt := 75) C0 dX9_slack_16 (by decide) (fun h2 => ?_) (fun h2 => ?_)
    · have hw := hw.1 h2
      refine f_iinc (lo' := [(2, .int (x2 + 1)), (0, rf g 0), (1, .int x1), (3, .int x3)]) C0 dX9_slack_75 2 rfl rfl (by decide) rfl ?_
      refine f_goto (tgt := 4) C0 dX9_slack_78 (by decide) ?_
      refine f_sub [1, 2, 0] rfl ?_
      exact hK4 _ _ _ _ hw
    · have hw := hw.2 h2
      refine f_aload_n C0 dX9_slack_19 rfl 0 rfl ⟨_, rfl⟩ ?_
      refine gf_9_12 (r := 30) C0 rfl kn_0 mw_380 dX9_slack_20 ?_
      refine f_iload_n C0 dX9_slack_23 rfl 2 rfl ?_
      obtain ⟨h3, hw⟩ := hw
      refine f_aald16 C0 kn_30 h3 dX9_slack_24 (fun k4 ek4 hk4 => ?_)
      have hw := hw k4 ek4
      refine f_aload_n C0 dX9_slack_25 rfl 0 rfl ⟨_, rfl⟩ ?_
      refine gf_9_12 (r := 30) C0 rfl kn_0 mw_380 dX9_slack_26 ?_
      refine f_iload_n C0 dX9_slack_29 rfl 3 rfl ?_
      obtain ⟨h5, hw⟩ := hw
      refine f_aald16 C0 kn_30 h5 dX9_slack_30 (fun k6 ek6 hk6 => ?_)
      have hw := hw k6 ek6
      refine f_callVi (As := [rf g (91 + 5 * k6)]) (rest := []) C0 (m_X3_minutesTo hk4 hk6 hw) cw_X9_272 (kn_race_0 hk4) (by decide) rfl rfl ⟨(Nat.le_of_ble_eq_true rfl), (Nat.le_of_ble_eq_true rfl)⟩ rfl rfl (Nat.le_of_ble_eq_true rfl) dX9_slack_31 ?_
      intro r7 d8 l9 hw
      refine f_istore (lo' := [(4, .int r7), (0, rf g 0), (1, .int x1), (2, .int x2), (3, .int x3)]) C0 dX9_slack_34 (by decide) rfl ?_
      refine f_iload_n C0 dX9_slack_36 rfl 2 rfl ?_
      refine f_iconst (v := (-1)) C0 dX9_slack_37 rfl ?_
      refine f_icmp_eq (tgt := 47) C0 dX9_slack_38 (by decide) (fun h10 => ?_) (fun h10 => ?_)
      · have hw := hw.1 h10
        refine f_sub [1, 2, 3, 4, 0] rfl ?_
        exact t_X9_slack_47 C0 hZ hK4 hK14 _ _ _ _ _ _ hw
      · have hw := hw.2 h10
        refine f_iload C0 dX9_slack_41 0 rfl ?_
        refine f_iload_n C0 dX9_slack_43 rfl 2 rfl ?_
        refine f_icmp_ge (tgt := 69) C0 dX9_slack_44 (by decide) (fun h19 => ?_) (fun h19 => ?_)
        · have hw := hw.1 h19
          refine f_iinc (lo' := [(3, .int (x3 + 1)), (4, .int r7), (0, rf g 0), (1, .int x1), (2, .int x2)]) C0 dX9_slack_69 4 rfl rfl (by decide) rfl ?_
          refine f_goto (tgt := 14) C0 dX9_slack_72 (by decide) ?_
          refine f_sub [2, 3, 4, 0] rfl ?_
          exact hK14 _ _ _ _ _ hw
        · have hw := hw.2 h19
          refine f_sub [1, 2, 3, 4, 0] rfl ?_
          exact t_X9_slack_47 C0 hZ hK4 hK14 _ _ _ _ _ _ hw
set_option maxHeartbeats 4000000 in
set_option maxRecDepth 100000 in
theorem t_X9_slack_4 {g : Ex} {x : Fx} {n : Nat} {Q : Int32 → DD → LL → Prop} (C0 : Cx g x cX9_slack 5 (some .int) RX9 2 47) (hZ : Zi g x Q) : ∀ (j : Nat) (x1 : Int32) (x2 : Int32) (d : DD) (dl : LL), b_X9_slack_4 n Q j x1 x2 d dl → FW g x 5 d dl 4 [(0, rf g 0), (1, .int x1), (2, .int x2)] [] := by
  intro j
  induction j with
  | zero =>
    intro x1 x2 d dl hw
    exact hw.elim
  | succ j hK4 =>
    intro x1 x2 d dl hw
    refine f_iload_n C0 dX9_slack_4 rfl 2 rfl ?_
    refine f_aload_n C0 dX9_slack_5 rfl 0 rfl ⟨_, rfl⟩ ?_
    refine gf_9_13 C0 kn_0 mw_381 dX9_slack_6 ?_
    refine f_icmp_ge (tgt := 81) C0 dX9_slack_9 (by decide) (fun h1 => ?_) (fun h1 => ?_)
    · have hw := hw.1 h1
      refine f_iload_n C0 dX9_slack_81 rfl 1 rfl ?_
      exact f_iret C0 hZ hw dX9_slack_82
    · have hw := hw.2 h1
      refine f_iconst (v := 0) C0 dX9_slack_12 rfl ?_
      refine f_istore_n (lo' := [(3, .int 0), (0, rf g 0), (1, .int x1), (2, .int x2)]) C0 dX9_slack_13 rfl (by decide) rfl ?_
      refine f_sub [1, 2, 3, 0] rfl ?_
      exact t_X9_slack_14 C0 hZ hK4 n _ _ _ _ _ hw
set_option maxHeartbeats 4000000 in
set_option maxRecDepth 100000 in
theorem m_X9_slack {g : Ex} {n : Nat} {d : DD} {dl : LL} {Q : Int32 → DD → LL → Prop} (hw : F_X9_slack n d dl Q) : Mi g yX9_slack cX9_slack 5 (some .int) 2 47 [rf g 0] d dl Q := by
  refine Mi.of (by decide) (Nat.le_of_ble_eq_true rfl) (fun x C0 hZ => ?_)
  have C0 : Cx g x cX9_slack 5 (some .int) RX9 2 47 := C0
  refine f_iconst (v := (-1)) C0 dX9_slack_0 rfl ?_
  refine f_istore_n (lo' := [(1, .int (-1)), (0, rf g 0)]) C0 dX9_slack_1 rfl (by decide) rfl ?_
  refine f_iconst (v := 0) C0 dX9_slack_2 rfl ?_
  refine f_istore_n (lo' := [(2, .int 0), (1, .int (-1)), (0, rf g 0)]) C0 dX9_slack_3 rfl (by decide) rfl ?_
  refine f_sub [2, 1, 0] rfl ?_
  exact t_X9_slack_4 C0 hZ n _ _ _ _ hw
def b_X9_leastTimeIn_63 (n : Nat) (Q : Int32 → DD → LL → Prop) (K5 : Int32 → Int32 → Int32 → Int32 → DD → LL → Prop) (x1 : Int32) (x2 : Int32) (x4 : Int32) (x5 : Int32) (d : DD) (dl : LL) : Prop := K5 x1 x2 x5 (x4 + 1) d dl
def b_X9_leastTimeIn_46 (n : Nat) (Q : Int32 → DD → LL → Prop) (K5 : Int32 → Int32 → Int32 → Int32 → DD → LL → Prop) (x1 : Int32) (x2 : Int32) (x3 : Int32) (x4 : Int32) (xs0 : Int32) (d : DD) (dl : LL) : Prop := (xs0 ≤ 0 → K5 x1 x2 x3 (x4 + 1) d dl) ∧ (¬ xs0 ≤ 0 → (x3 = 0 → b_X9_leastTimeIn_63 n Q K5 x1 x2 x4 xs0 d dl) ∧ (¬ x3 = 0 → (x3 ≤ xs0 → K5 x1 x2 x3 (x4 + 1) d dl) ∧ (¬ x3 ≤ xs0 → b_X9_leastTimeIn_63 n Q K5 x1 x2 x4 xs0 d dl)))
def b_X9_leastTimeIn_5 (n : Nat) (Q : Int32 → DD → LL → Prop) : Nat → Int32 → Int32 → Int32 → Int32 → DD → LL → Prop
  | 0 => fun _ _ _ _ _ _ => False
  | k + 1 => fun x1 x2 x3 x4 d dl => ((d 0 13) ≤ x4 → Q x3 d dl) ∧ (¬ (d 0 13) ≤ x4 → vp_in x4 24 ∧ ∀ k3 : Nat, k3 = x4.toNatClampNeg → vp_in x1 4 ∧ (¬ (d (92 + 5 * k3) x1.toNatClampNeg) = x2 → b_X9_leastTimeIn_46 n Q (b_X9_leastTimeIn_5 n Q k) x1 x2 x3 x4 0 d dl) ∧ ((d (92 + 5 * k3) x1.toNatClampNeg) = x2 → vp_in x4 24 ∧ ∀ k10 : Nat, k10 = x4.toNatClampNeg → vp_in x1 4 ∧ b_X9_leastTimeIn_46 n Q (b_X9_leastTimeIn_5 n Q k) x1 x2 x3 x4 (d (93 + 5 * k10) x1.toNatClampNeg) d dl))
def F_X9_leastTimeIn (n : Nat) (x1 : Int32) (x2 : Int32) (d : DD) (dl : LL) (Q : Int32 → DD → LL → Prop) : Prop := b_X9_leastTimeIn_5 n Q n x1 x2 0 0 d dl
set_option maxHeartbeats 4000000 in
set_option maxRecDepth 100000 in
theorem t_X9_leastTimeIn_63 {g : Ex} {x : Fx} {n : Nat} {Q : Int32 → DD → LL → Prop} (C0 : Cx g x cX9_leastTimeIn 6 (some .int) RX9 0 0) (hZ : Zi g x Q) {K5 : Int32 → Int32 → Int32 → Int32 → DD → LL → Prop} (hK5 : ∀ (x1 : Int32) (x2 : Int32) (x3 : Int32) (x4 : Int32) (d : DD) (dl : LL), K5 x1 x2 x3 x4 d dl → FW g x 6 d dl 5 [(0, rf g 0), (1, .int x1), (2, .int x2), (3, .int x3), (4, .int x4)] []) : ∀ (x1 : Int32) (x2 : Int32) (x4 : Int32) (x5 : Int32) (d : DD) (dl : LL), b_X9_leastTimeIn_63 n Q K5 x1 x2 x4 x5 d dl → FW g x 6 d dl 63 [(0, rf g 0), (1, .int x1), (2, .int x2), (4, .int x4), (5, .int x5)] [] := by
  intro x1 x2 x4 x5 d dl hw
  refine f_iload C0 dX9_leastTimeIn_63 4 rfl ?_
  refine f_istore_n (lo' := [(3, .int x5), (0, rf g 0), (1, .int x1), (2, .int x2), (4, .int x4), (5, .int x5)]) C0 dX9_leastTimeIn_65 rfl (by decide) rfl ?_
  refine f_iinc (lo' := [(4, .int (x4 + 1)), (3, .int x5), (0, rf g 0), (1, .int x1), (2, .int x2), (5, .int x5)]) C0 dX9_leastTimeIn_66 4 rfl rfl (by decide) rfl ?_
  refine f_goto (tgt := 5) C0 dX9_leastTimeIn_69 (by decide) ?_
  refine f_sub [2, 3, 4, 1, 0] rfl ?_
  exact hK5 _ _ _ _ _ _ hw
set_option maxHeartbeats 4000000 in
set_option maxRecDepth 100000 in
theorem t_X9_leastTimeIn_46 {g : Ex} {x : Fx} {n : Nat} {Q : Int32 → DD → LL → Prop} (C0 : Cx g x cX9_leastTimeIn 6 (some .int) RX9 0 0) (hZ : Zi g x Q) {K5 : Int32 → Int32 → Int32 → Int32 → DD → LL → Prop} (hK5 : ∀ (x1 : Int32) (x2 : Int32) (x3 : Int32) (x4 : Int32) (d : DD) (dl : LL), K5 x1 x2 x3 x4 d dl → FW g x 6 d dl 5 [(0, rf g 0), (1, .int x1), (2, .int x2), (3, .int x3), (4, .int x4)] []) : ∀ (x1 : Int32) (x2 : Int32) (x3 : Int32) (x4 : Int32) (xs0 : Int32) (d : DD) (dl : LL), b_X9_leastTimeIn_46 n Q K5 x1 x2 x3 x4 xs0 d dl → FW g x 6 d dl 46 [(0, rf g 0), (1, .int x1), (2, .int x2), (3, .int x3), (4, .int x4)] [.int xs0] := by
  intro x1 x2 x3 x4 xs0 d dl hw
  refine f_istore (lo' := [(5, .int xs0), (0, rf g 0), (1, .int x1), (2, .int x2), (3, .int x3), (4, .int x4)]) C0 dX9_leastTimeIn_46 (by decide) rfl ?_
  refine f_iload C0 dX9_leastTimeIn_48 0 rfl ?_
  refine f_if_le (tgt := 66) C0 dX9_leastTimeIn_50 (by decide) (fun h6 => ?_) (fun h6 => ?_)
  · have hw := hw.1 h6
    refine f_iinc (lo' := [(4, .int (x4 + 1)), (5, .int xs0), (0, rf g 0), (1, .int x1), (2, .int x2), (3, .int x3)]) C0 dX9_leastTimeIn_66 5 rfl rfl (by decide) rfl ?_
    refine f_goto (tgt := 5) C0 dX9_leastTimeIn_69 (by decide) ?_
    refine f_sub [2, 3, 4, 5, 0] rfl ?_
    exact hK5 _ _ _ _ _ _ hw
  · have hw := hw.2 h6
    refine f_iload_n C0 dX9_leastTimeIn_53 rfl 4 rfl ?_
    refine f_if_eq (tgt := 63) C0 dX9_leastTimeIn_54 (by decide) (fun h7 => ?_) (fun h7 => ?_)
    · have hw := hw.1 h7
      refine f_sub [1, 2, 3, 5, 0] rfl ?_
      exact t_X9_leastTimeIn_63 C0 hZ hK5 _ _ _ _ _ _ hw
    · have hw := hw.2 h7
      refine f_iload C0 dX9_leastTimeIn_57 0 rfl ?_
      refine f_iload_n C0 dX9_leastTimeIn_59 rfl 4 rfl ?_
      refine f_icmp_ge (tgt := 66) C0 dX9_leastTimeIn_60 (by decide) (fun h8 => ?_) (fun h8 => ?_)
      · have hw := hw.1 h8
        refine f_iinc (lo' := [(4, .int (x4 + 1)), (5, .int xs0), (0, rf g 0), (1, .int x1), (2, .int x2), (3, .int x3)]) C0 dX9_leastTimeIn_66 5 rfl rfl (by decide) rfl ?_
        refine f_goto (tgt := 5) C0 dX9_leastTimeIn_69 (by decide) ?_
        refine f_sub [2, 3, 4, 5, 0] rfl ?_
        exact hK5 _ _ _ _ _ _ hw
      · have hw := hw.2 h8
        refine f_sub [1, 2, 3, 5, 0] rfl ?_
        exact t_X9_leastTimeIn_63 C0 hZ hK5 _ _ _ _ _ _ hw
set_option maxHeartbeats 4000000 in
set_option maxRecDepth 100000 in
theorem t_X9_leastTimeIn_5 {g : Ex} {x : Fx} {n : Nat} {Q : Int32 → DD → LL → Prop} (C0 : Cx g x cX9_leastTimeIn 6 (some .int) RX9 0 0) (hZ : Zi g x Q) : ∀ (j : Nat) (x1 : Int32) (x2 : Int32) (x3 : Int32) (x4 : Int32) (d : DD) (dl : LL), b_X9_leastTimeIn_5 n Q j x1 x2 x3 x4 d dl → FW g x 6 d dl 5 [(0, rf g 0), (1, .int x1), (2, .int x2), (3, .int x3), (4, .int x4)] [] := by
  intro j
  induction j with
  | zero =>
    intro x1 x2 x3 x4 d dl hw
    exact hw.elim
  | succ j hK5 =>
    intro x1 x2 x3 x4 d dl hw
    refine f_iload C0 dX9_leastTimeIn_5 4 rfl ?_
    refine f_aload_n C0 dX9_leastTimeIn_7 rfl 0 rfl ⟨_, rfl⟩ ?_
    refine gf_9_13 C0 kn_0 mw_381 dX9_leastTimeIn_8 ?_
    refine f_icmp_ge (tgt := 72) C0 dX9_leastTimeIn_11 (by decide) (fun h1 => ?_) (fun h1 => ?_)
    · have hw := hw.1 h1
      refine f_iload_n C0 dX9_leastTimeIn_72 rfl 3 rfl ?_
      exact f_iret C0 hZ hw dX9_leastTimeIn_73
    · have hw := hw.2 h1
      refine f_aload_n C0 dX9_leastTimeIn_14 rfl 0 rfl ⟨_, rfl⟩ ?_
      refine gf_9_12 (r := 30) C0 rfl kn_0 mw_380 dX9_leastTimeIn_15 ?_
      refine f_iload C0 dX9_leastTimeIn_18 4 rfl ?_
      obtain ⟨h2, hw⟩ := hw
      refine f_aald16 C0 kn_30 h2 dX9_leastTimeIn_20 (fun k3 ek3 hk3 => ?_)
      have hw := hw k3 ek3
      refine gf_3_3 (r := (92 + 5 * k3)) C0 (by omega) (kn_race_0 hk3) mw_345 dX9_leastTimeIn_21 ?_
      refine f_iload_n C0 dX9_leastTimeIn_24 rfl 1 rfl ?_
      obtain ⟨h4, hw⟩ := hw
      refine f_iald C0 (kn_race_1 hk3) h4 dX9_leastTimeIn_25 ?_
      refine f_iload_n C0 dX9_leastTimeIn_26 rfl 2 rfl ?_
      refine f_icmp_ne (tgt := 45) C0 dX9_leastTimeIn_27 (by decide) (fun h5 => ?_) (fun h5 => ?_)
      · have hw := hw.1 h5
        refine f_iconst (v := 0) C0 dX9_leastTimeIn_45 rfl ?_
        exact t_X9_leastTimeIn_46 C0 hZ hK5 _ _ _ _ _ _ _ hw
      · have hw := hw.2 h5
        refine f_aload_n C0 dX9_leastTimeIn_30 rfl 0 rfl ⟨_, rfl⟩ ?_
        refine gf_9_12 (r := 30) C0 rfl kn_0 mw_380 dX9_leastTimeIn_31 ?_
        refine f_iload C0 dX9_leastTimeIn_34 4 rfl ?_
        obtain ⟨h9, hw⟩ := hw
        refine f_aald16 C0 kn_30 h9 dX9_leastTimeIn_36 (fun k10 ek10 hk10 => ?_)
        have hw := hw k10 ek10
        refine gf_3_4 (r := (93 + 5 * k10)) C0 (by omega) (kn_race_0 hk10) mw_348 dX9_leastTimeIn_37 ?_
        refine f_iload_n C0 dX9_leastTimeIn_40 rfl 1 rfl ?_
        obtain ⟨h11, hw⟩ := hw
        refine f_iald C0 (kn_race_2 hk10) h11 dX9_leastTimeIn_41 ?_
        refine f_goto (tgt := 46) C0 dX9_leastTimeIn_42 (by decide) ?_
        exact t_X9_leastTimeIn_46 C0 hZ hK5 _ _ _ _ _ _ _ hw
set_option maxHeartbeats 4000000 in
set_option maxRecDepth 100000 in
theorem m_X9_leastTimeIn {g : Ex} {n : Nat} {x1 : Int32} {x2 : Int32} {d : DD} {dl : LL} {Q : Int32 → DD → LL → Prop} (hw : F_X9_leastTimeIn n x1 x2 d dl Q) : Mi g yX9_leastTimeIn cX9_leastTimeIn 6 (some .int) 0 0 [rf g 0, .int x1, .int x2] d dl Q := by
  refine Mi.of (by decide) (Nat.le_of_ble_eq_true rfl) (fun x C0 hZ => ?_)
  have C0 : Cx g x cX9_leastTimeIn 6 (some .int) RX9 0 0 := C0
  refine f_iconst (v := 0) C0 dX9_leastTimeIn_0 rfl ?_
  refine f_istore_n (lo' := [(3, .int 0), (0, rf g 0), (1, .int x1), (2, .int x2)]) C0 dX9_leastTimeIn_1 rfl (by decide) rfl ?_
  refine f_iconst (v := 0) C0 dX9_leastTimeIn_2 rfl ?_
  refine f_istore (lo' := [(4, .int 0), (3, .int 0), (0, rf g 0), (1, .int x1), (2, .int x2)]) C0 dX9_leastTimeIn_3 (by decide) rfl ?_
  refine f_sub [2, 3, 4, 1, 0] rfl ?_
  exact t_X9_leastTimeIn_5 C0 hZ n _ _ _ _ _ _ hw
def b_X9_commonDivisor_9 (n : Nat) (Q : Int64 → DD → LL → Prop) : Nat → Int64 → Int64 → Int32 → DD → LL → Prop
  | 0 => fun _ _ _ _ _ => False
  | k + 1 => fun y4 y6 x8 d dl => (200 ≤ x8 → Q y4 d dl) ∧ (¬ 200 ≤ x8 → ((lg_cmp y6 0) = 0 → Q y4 d dl) ∧ (¬ (lg_cmp y6 0) = 0 → ¬ y6 = 0 ∧ ∀ v4 : Int64, v4 = (lrem y4 y6) → (b_X9_commonDivisor_9 n Q k) y6 v4 (x8 + 1) d dl))
def F_X9_commonDivisor (n : Nat) (y0 : Int64) (y2 : Int64) (d : DD) (dl : LL) (Q : Int64 → DD → LL → Prop) : Prop := b_X9_commonDivisor_9 n Q n y0 y2 0 d dl
set_option maxHeartbeats 4000000 in
set_option maxRecDepth 100000 in
theorem t_X9_commonDivisor_9 {g : Ex} {x : Fx} {n : Nat} {Q : Int64 → DD → LL → Prop} (C0 : Cx g x cX9_commonDivisor 11 (some .long) RX9 0 0) (hZ : Zl g x Q) : ∀ (j : Nat) (y4 : Int64) (y6 : Int64) (x8 : Int32) (d : DD) (dl : LL), b_X9_commonDivisor_9 n Q j y4 y6 x8 d dl → FW g x 11 d dl 9 [(4, .long y4), (6, .long y6), (8, .int x8)] [] := by
  intro j
  induction j with
  | zero =>
    intro y4 y6 x8 d dl hw
    exact hw.elim
  | succ j hK9 =>
    intro y4 y6 x8 d dl hw
    refine f_iload C0 dX9_commonDivisor_9 2 rfl ?_
    refine f_sipush (v := 200) C0 dX9_commonDivisor_11 rfl ?_
    refine f_icmp_ge (tgt := 45) C0 dX9_commonDivisor_14 (by decide) (fun h1 => ?_) (fun h1 => ?_)
    · have hw := hw.1 h1
      refine f_lload C0 dX9_commonDivisor_45 0 rfl ?_
      exact f_lret C0 hZ hw dX9_commonDivisor_47
    · have hw := hw.2 h1
      refine f_lload C0 dX9_commonDivisor_17 1 rfl ?_
      refine f_lconst (v := 0) C0 dX9_commonDivisor_19 rfl ?_
      refine f_lcmp C0 dX9_commonDivisor_20 ?_
      refine f_if_eq (tgt := 45) C0 dX9_commonDivisor_21 (by decide) (fun h2 => ?_) (fun h2 => ?_)
      · have hw := hw.1 h2
        refine f_lload C0 dX9_commonDivisor_45 0 rfl ?_
        exact f_lret C0 hZ hw dX9_commonDivisor_47
      · have hw := hw.2 h2
        refine f_lload C0 dX9_commonDivisor_24 0 rfl ?_
        refine f_lload C0 dX9_commonDivisor_26 1 rfl ?_
        obtain ⟨h3, hw⟩ := hw
        refine f_lrem C0 dX9_commonDivisor_28 h3 ?_
        refine f_topl (fun v4 e4 => ?_)
        have hw := hw v4 e4
        refine f_lstore (lo' := [(9, .long v4), (4, .long y4), (6, .long y6), (8, .int x8)]) C0 dX9_commonDivisor_29 (by decide) rfl ?_
        refine f_lload C0 dX9_commonDivisor_31 2 rfl ?_
        refine f_lstore (lo' := [(4, .long y6), (9, .long v4), (6, .long y6), (8, .int x8)]) C0 dX9_commonDivisor_33 (by decide) rfl ?_
        refine f_lload C0 dX9_commonDivisor_35 1 rfl ?_
        refine f_lstore (lo' := [(6, .long v4), (4, .long y6), (9, .long v4), (8, .int x8)]) C0 dX9_commonDivisor_37 (by decide) rfl ?_
        refine f_iinc (lo' := [(8, .int (x8 + 1)), (6, .long v4), (4, .long y6), (9, .long v4)]) C0 dX9_commonDivisor_39 3 rfl rfl (by decide) rfl ?_
        refine f_goto (tgt := 9) C0 dX9_commonDivisor_42 (by decide) ?_
        refine f_sub [2, 1, 0] rfl ?_
        exact hK9 _ _ _ _ _ hw
set_option maxHeartbeats 4000000 in
set_option maxRecDepth 100000 in
theorem m_X9_commonDivisor {g : Ex} {n : Nat} {y0 : Int64} {y2 : Int64} {d : DD} {dl : LL} {Q : Int64 → DD → LL → Prop} (hw : F_X9_commonDivisor n y0 y2 d dl Q) : Ml g yX9_commonDivisor cX9_commonDivisor 11 (some .long) 0 0 [.long y0, .long y2] d dl Q := by
  refine Ml.of (by decide) (Nat.le_of_ble_eq_true rfl) (fun x C0 hZ => ?_)
  have C0 : Cx g x cX9_commonDivisor 11 (some .long) RX9 0 0 := C0
  refine f_lload_n C0 dX9_commonDivisor_0 rfl 0 rfl ?_
  refine f_lstore (lo' := [(4, .long y0), (0, .long y0), (2, .long y2)]) C0 dX9_commonDivisor_1 (by decide) rfl ?_
  refine f_lload_n C0 dX9_commonDivisor_3 rfl 2 rfl ?_
  refine f_lstore (lo' := [(6, .long y2), (4, .long y0), (0, .long y0), (2, .long y2)]) C0 dX9_commonDivisor_4 (by decide) rfl ?_
  refine f_iconst (v := 0) C0 dX9_commonDivisor_6 rfl ?_
  refine f_istore (lo' := [(8, .int 0), (6, .long y2), (4, .long y0), (0, .long y0), (2, .long y2)]) C0 dX9_commonDivisor_7 (by decide) rfl ?_
  refine f_sub [2, 1, 0] rfl ?_
  exact t_X9_commonDivisor_9 C0 hZ n _ _ _ _ _ hw
def b_X9_level_41 (n : Nat) (Q : Int64 → DD → LL → Prop) : Nat → Int32 → Int32 → Int32 → Int64 → Int64 → Int32 → DD → LL → Prop
  | 0 => fun _ _ _ _ _ _ _ _ => False
  | k + 1 => fun x1 x2 x3 y4 y6 x8 d dl => ((d 0 2) ≤ x8 → F_X9_commonDivisor n (if 0 < y4 then y4 else -y4) y6 d dl (fun r15 d16 l17 => ((lg_cmp y6 0) = 0 → Q (-9223372036854775808) d16 l17) ∧ (¬ (lg_cmp y6 0) = 0 → (¬ (lg_cmp r15 0) = 0 → (¬ x3 = 0 → ¬ r15 = 0 ∧ Q (y6 / r15) d16 l17) ∧ (x3 = 0 → ¬ r15 = 0 ∧ Q (y4 / r15) d16 l17)) ∧ ((lg_cmp r15 0) = 0 → Q (-9223372036854775808) d16 l17)))) ∧ (¬ (d 0 2) ≤ x8 → F_X9_leastTimeIn n x1 x8 d dl (fun r23 d24 l25 => F_X9_leastTimeIn n x2 x8 d24 l25 (fun r26 d27 l28 => (r23 ≤ 0 → (b_X9_level_41 n Q k) x1 x2 x3 y4 y6 (x8 + 1) d27 l28) ∧ (¬ r23 ≤ 0 → (r26 ≤ 0 → (b_X9_level_41 n Q k) x1 x2 x3 y4 y6 (x8 + 1) d27 l28) ∧ (¬ r26 ≤ 0 → ∀ v31 : Int64, v31 = (y4 + ((r23 - r26).toInt64)) → ∀ v32 : Int64, v32 = (y6 + 1) → (b_X9_level_41 n Q k) x1 x2 x3 v31 v32 (x8 + 1) d27 l28)))))
def F_X9_level (n : Nat) (x1 : Int32) (x2 : Int32) (x3 : Int32) (d : DD) (dl : LL) (Q : Int64 → DD → LL → Prop) : Prop := F_X9_isLane n x1 d dl (fun r1 d2 l3 => (r1 = 0 → Q (-9223372036854775808) d2 l3) ∧ (¬ r1 = 0 → F_X9_isLane n x2 d2 l3 (fun r5 d6 l7 => (r5 = 0 → Q (-9223372036854775808) d6 l7) ∧ (¬ r5 = 0 → (x1 = x2 → Q (-9223372036854775808) d6 l7) ∧ (¬ x1 = x2 → F_X9_within n x3 0 1 d6 l7 (fun r10 d11 l12 => (¬ r10 = 0 → b_X9_level_41 n Q n x1 x2 x3 0 0 0 d11 l12) ∧ (r10 = 0 → Q (-9223372036854775808) d11 l12)))))))
set_option maxHeartbeats 4000000 in
set_option maxRecDepth 100000 in
theorem t_X9_level_41 {g : Ex} {x : Fx} {n : Nat} {Q : Int64 → DD → LL → Prop} (C0 : Cx g x cX9_level 11 (some .long) RX9 2 42) (hZ : Zl g x Q) : ∀ (j : Nat) (x1 : Int32) (x2 : Int32) (x3 : Int32) (y4 : Int64) (y6 : Int64) (x8 : Int32) (d : DD) (dl : LL), b_X9_level_41 n Q j x1 x2 x3 y4 y6 x8 d dl → FW g x 11 d dl 41 [(0, rf g 0), (1, .int x1), (2, .int x2), (3, .int x3), (4, .long y4), (6, .long y6), (8, .int x8)] [] := by
  intro j
  induction j with
  | zero =>
    intro x1 x2 x3 y4 y6 x8 d dl hw
    exact hw.elim
  | succ j hK41 =>
    intro x1 x2 x3 y4 y6 x8 d dl hw
    refine f_iload C0 dX9_level_41 6 rfl ?_
    refine f_aload_n C0 dX9_level_43 rfl 0 rfl ⟨_, rfl⟩ ?_
    refine gf_9_2 C0 kn_0 mw_370 dX9_level_44 ?_
    refine f_icmp_ge (tgt := 101) C0 dX9_level_47 (by decide) (fun h14 => ?_) (fun h14 => ?_)
    · have hw := hw.1 h14
      refine f_lload C0 dX9_level_101 4 rfl ?_
      refine f_mabsl C0 mw_839 mw_840 mw_59 mw_841 ⟨(Nat.le_of_ble_eq_true rfl), (Nat.le_of_ble_eq_true rfl)⟩ dX9_level_103 ?_
      refine f_lload C0 dX9_level_106 5 rfl ?_
      refine f_callSl (As := [.long (if 0 < y4 then y4 else -y4), .long y6]) (rest := []) C0 (m_X9_commonDivisor hw) cw_X9_292  ⟨(Nat.le_of_ble_eq_true rfl), (Nat.le_of_ble_eq_true rfl)⟩ rfl rfl (Nat.le_of_ble_eq_true rfl) dX9_level_108 ?_
      intro r15 d16 l17 hw
      refine f_lstore (lo' := [(8, .long r15), (0, rf g 0), (1, .int x1), (2, .int x2), (3, .int x3), (4, .long y4), (6, .long y6)]) C0 dX9_level_111 (by decide) rfl ?_
      refine f_lload C0 dX9_level_113 6 rfl ?_
      refine f_lconst (v := 0) C0 dX9_level_115 rfl ?_
      refine f_lcmp C0 dX9_level_116 ?_
      refine f_if_eq (tgt := 127) C0 dX9_level_117 (by decide) (fun h18 => ?_) (fun h18 => ?_)
      · have hw := hw.1 h18
        refine f_ldc2 (v := (-9223372036854775808)) C0 mw_834 dX9_level_127 ?_
        exact f_lret C0 hZ hw dX9_level_130
      · have hw := hw.2 h18
        refine f_lload C0 dX9_level_120 0 rfl ?_
        refine f_lconst (v := 0) C0 dX9_level_122 rfl ?_
        refine f_lcmp C0 dX9_level_123 ?_
        refine f_if_ne (tgt := 131) C0 dX9_level_124 (by decide) (fun h19 => ?_) (fun h19 => ?_)
        · have hw := hw.1 h19
          refine f_iload_n C0 dX9_level_131 rfl 4 rfl ?_
          refine f_if_ne (tgt := 143) C0 dX9_level_132 (by decide) (fun h20 => ?_) (fun h20 => ?_)
          · have hw := hw.1 h20
            refine f_lload C0 dX9_level_143 6 rfl ?_
            refine f_lload C0 dX9_level_145 0 rfl ?_
            obtain ⟨h21, hw⟩ := hw
            refine f_ldiv C0 dX9_level_147 h21 ?_
            exact f_lret C0 hZ hw dX9_level_148
          · have hw := hw.2 h20
            refine f_lload C0 dX9_level_135 5 rfl ?_
            refine f_lload C0 dX9_level_137 0 rfl ?_
            obtain ⟨h22, hw⟩ := hw
            refine f_ldiv C0 dX9_level_139 h22 ?_
            refine f_goto (tgt := 148) C0 dX9_level_140 (by decide) ?_
            exact f_lret C0 hZ hw dX9_level_148
        · have hw := hw.2 h19
          refine f_ldc2 (v := (-9223372036854775808)) C0 mw_834 dX9_level_127 ?_
          exact f_lret C0 hZ hw dX9_level_130
    · have hw := hw.2 h14
      refine f_aload_n C0 dX9_level_50 rfl 0 rfl ⟨_, rfl⟩ ?_
      refine f_iload_n C0 dX9_level_51 rfl 1 rfl ?_
      refine f_iload C0 dX9_level_52 6 rfl ?_
      refine f_callVi (As := [.int x1, .int x8]) (rest := []) C0 (m_X9_leastTimeIn hw) cw_X9_282 kn_0 (by decide) rfl rfl ⟨(Nat.le_of_ble_eq_true rfl), (Nat.le_of_ble_eq_true rfl)⟩ rfl rfl (Nat.le_of_ble_eq_true rfl) dX9_level_54 ?_
      intro r23 d24 l25 hw
      refine f_istore (lo' := [(9, .int r23), (0, rf g 0), (1, .int x1), (2, .int x2), (3, .int x3), (4, .long y4), (6, .long y6), (8, .int x8)]) C0 dX9_level_57 (by decide) rfl ?_
      refine f_aload_n C0 dX9_level_59 rfl 1 rfl ⟨_, rfl⟩ ?_
      refine f_iload_n C0 dX9_level_60 rfl 3 rfl ?_
      refine f_iload C0 dX9_level_61 7 rfl ?_
      refine f_callVi (As := [.int x2, .int x8]) (rest := []) C0 (m_X9_leastTimeIn hw) cw_X9_282 kn_0 (by decide) rfl rfl ⟨(Nat.le_of_ble_eq_true rfl), (Nat.le_of_ble_eq_true rfl)⟩ rfl rfl (Nat.le_of_ble_eq_true rfl) dX9_level_63 ?_
      intro r26 d27 l28 hw
      refine f_istore (lo' := [(10, .int r26), (9, .int r23), (0, rf g 0), (1, .int x1), (2, .int x2), (3, .int x3), (4, .long y4), (6, .long y6), (8, .int x8)]) C0 dX9_level_66 (by decide) rfl ?_
      refine f_iload C0 dX9_level_68 1 rfl ?_
      refine f_if_le (tgt := 95) C0 dX9_level_70 (by decide) (fun h29 => ?_) (fun h29 => ?_)
      · have hw := hw.1 h29
        refine f_iinc (lo' := [(8, .int (x8 + 1)), (10, .int r26), (9, .int r23), (0, rf g 0), (1, .int x1), (2, .int x2), (3, .int x3), (4, .long y4), (6, .long y6)]) C0 dX9_level_95 8 rfl rfl (by decide) rfl ?_
        refine f_goto (tgt := 41) C0 dX9_level_98 (by decide) ?_
        refine f_sub [3, 4, 5, 6, 7, 8, 0] rfl ?_
        exact hK41 _ _ _ _ _ _ _ _ hw
      · have hw := hw.2 h29
        refine f_iload C0 dX9_level_73 0 rfl ?_
        refine f_if_le (tgt := 95) C0 dX9_level_75 (by decide) (fun h30 => ?_) (fun h30 => ?_)
        · have hw := hw.1 h30
          refine f_iinc (lo' := [(8, .int (x8 + 1)), (10, .int r26), (9, .int r23), (0, rf g 0), (1, .int x1), (2, .int x2), (3, .int x3), (4, .long y4), (6, .long y6)]) C0 dX9_level_95 8 rfl rfl (by decide) rfl ?_
          refine f_goto (tgt := 41) C0 dX9_level_98 (by decide) ?_
          refine f_sub [3, 4, 5, 6, 7, 8, 0] rfl ?_
          exact hK41 _ _ _ _ _ _ _ _ hw
        · have hw := hw.2 h30
          refine f_lload C0 dX9_level_78 6 rfl ?_
          refine f_iload C0 dX9_level_80 1 rfl ?_
          refine f_iload C0 dX9_level_82 0 rfl ?_
          refine f_isub C0 dX9_level_84 ?_
          refine f_i2l C0 dX9_level_85 ?_
          refine f_ladd C0 dX9_level_86 ?_
          refine f_topl (fun v31 e31 => ?_)
          have hw := hw v31 e31
          refine f_lstore (lo' := [(4, .long v31), (10, .int r26), (9, .int r23), (0, rf g 0), (1, .int x1), (2, .int x2), (3, .int x3), (6, .long y6), (8, .int x8)]) C0 dX9_level_87 (by decide) rfl ?_
          refine f_lload C0 dX9_level_89 7 rfl ?_
          refine f_lconst (v := 1) C0 dX9_level_91 rfl ?_
          refine f_ladd C0 dX9_level_92 ?_
          refine f_topl (fun v32 e32 => ?_)
          have hw := hw v32 e32
          refine f_lstore (lo' := [(6, .long v32), (4, .long v31), (10, .int r26), (9, .int r23), (0, rf g 0), (1, .int x1), (2, .int x2), (3, .int x3), (8, .int x8)]) C0 dX9_level_93 (by decide) rfl ?_
          refine f_iinc (lo' := [(8, .int (x8 + 1)), (6, .long v32), (4, .long v31), (10, .int r26), (9, .int r23), (0, rf g 0), (1, .int x1), (2, .int x2), (3, .int x3)]) C0 dX9_level_95 8 rfl rfl (by decide) rfl ?_
          refine f_goto (tgt := 41) C0 dX9_level_98 (by decide) ?_
          refine f_sub [5, 6, 7, 8, 2, 1, 0] rfl ?_
          exact hK41 _ _ _ _ _ _ _ _ hw
set_option maxHeartbeats 4000000 in
set_option maxRecDepth 100000 in
theorem m_X9_level {g : Ex} {n : Nat} {x1 : Int32} {x2 : Int32} {x3 : Int32} {d : DD} {dl : LL} {Q : Int64 → DD → LL → Prop} (hw : F_X9_level n x1 x2 x3 d dl Q) : Ml g yX9_level cX9_level 11 (some .long) 2 42 [rf g 0, .int x1, .int x2, .int x3] d dl Q := by
  refine Ml.of (by decide) (Nat.le_of_ble_eq_true rfl) (fun x C0 hZ => ?_)
  have C0 : Cx g x cX9_level 11 (some .long) RX9 2 42 := C0
  refine f_iload_n C0 dX9_level_0 rfl 1 rfl ?_
  refine f_callSi (As := [.int x1]) (rest := []) C0 (m_X9_isLane hw) cw_X9_211  ⟨(Nat.le_of_ble_eq_true rfl), (Nat.le_of_ble_eq_true rfl)⟩ rfl rfl (Nat.le_of_ble_eq_true rfl) dX9_level_1 ?_
  intro r1 d2 l3 hw
  refine f_if_eq (tgt := 28) C0 dX9_level_4 (by decide) (fun h4 => ?_) (fun h4 => ?_)
  · have hw := hw.1 h4
    refine f_ldc2 (v := (-9223372036854775808)) C0 mw_834 dX9_level_28 ?_
    exact f_lret C0 hZ hw dX9_level_31
  · have hw := hw.2 h4
    refine f_iload_n C0 dX9_level_7 rfl 2 rfl ?_
    refine f_callSi (As := [.int x2]) (rest := []) C0 (m_X9_isLane hw) cw_X9_211  ⟨(Nat.le_of_ble_eq_true rfl), (Nat.le_of_ble_eq_true rfl)⟩ rfl rfl (Nat.le_of_ble_eq_true rfl) dX9_level_8 ?_
    intro r5 d6 l7 hw
    refine f_if_eq (tgt := 28) C0 dX9_level_11 (by decide) (fun h8 => ?_) (fun h8 => ?_)
    · have hw := hw.1 h8
      refine f_ldc2 (v := (-9223372036854775808)) C0 mw_834 dX9_level_28 ?_
      exact f_lret C0 hZ hw dX9_level_31
    · have hw := hw.2 h8
      refine f_iload_n C0 dX9_level_14 rfl 1 rfl ?_
      refine f_iload_n C0 dX9_level_15 rfl 2 rfl ?_
      refine f_icmp_eq (tgt := 28) C0 dX9_level_16 (by decide) (fun h9 => ?_) (fun h9 => ?_)
      · have hw := hw.1 h9
        refine f_ldc2 (v := (-9223372036854775808)) C0 mw_834 dX9_level_28 ?_
        exact f_lret C0 hZ hw dX9_level_31
      · have hw := hw.2 h9
        refine f_iload_n C0 dX9_level_19 rfl 3 rfl ?_
        refine f_iconst (v := 0) C0 dX9_level_20 rfl ?_
        refine f_iconst (v := 1) C0 dX9_level_21 rfl ?_
        refine f_callSi (As := [.int x3, .int 0, .int 1]) (rest := []) C0 (m_X9_within hw) cw_X9_97  ⟨(Nat.le_of_ble_eq_true rfl), (Nat.le_of_ble_eq_true rfl)⟩ rfl rfl (Nat.le_of_ble_eq_true rfl) dX9_level_22 ?_
        intro r10 d11 l12 hw
        refine f_if_ne (tgt := 32) C0 dX9_level_25 (by decide) (fun h13 => ?_) (fun h13 => ?_)
        · have hw := hw.1 h13
          refine f_lconst (v := 0) C0 dX9_level_32 rfl ?_
          refine f_lstore (lo' := [(4, .long 0), (0, rf g 0), (1, .int x1), (2, .int x2), (3, .int x3)]) C0 dX9_level_33 (by decide) rfl ?_
          refine f_lconst (v := 0) C0 dX9_level_35 rfl ?_
          refine f_lstore (lo' := [(6, .long 0), (4, .long 0), (0, rf g 0), (1, .int x1), (2, .int x2), (3, .int x3)]) C0 dX9_level_36 (by decide) rfl ?_
          refine f_iconst (v := 0) C0 dX9_level_38 rfl ?_
          refine f_istore (lo' := [(8, .int 0), (6, .long 0), (4, .long 0), (0, rf g 0), (1, .int x1), (2, .int x2), (3, .int x3)]) C0 dX9_level_39 (by decide) rfl ?_
          refine f_sub [3, 4, 5, 6, 2, 1, 0] rfl ?_
          exact t_X9_level_41 C0 hZ n _ _ _ _ _ _ _ _ hw
        · have hw := hw.2 h13
          refine f_ldc2 (v := (-9223372036854775808)) C0 mw_834 dX9_level_28 ?_
          exact f_lret C0 hZ hw dX9_level_31
def b_X3_pointsIn_20 (n : Nat) (Q : Int32 → DD → LL → Prop) : Nat → Nat → Int32 → Int32 → Int32 → Int32 → Int32 → DD → LL → Prop
  | 0 => fun _ _ _ _ _ _ _ _ => False
  | k + 1 => fun k0 x1 x2 x3 x4 x5 d dl => (4 ≤ x5 → (¬ x3 = 0 → ¬ x3 = 0 ∧ Q (((60 : Int32) * x4) / x3) d dl) ∧ (x3 = 0 → Q 0 d dl)) ∧ (¬ 4 ≤ x5 → ∀ v8 : Int32, v8 = ((x2 - 1) + x3) → vp_in x5 4 ∧ vp_in x1 4 ∧ (¬ (d (93 + 5 * k0) x5.toNatClampNeg) = (d (93 + 5 * k0) x1.toNatClampNeg) → (b_X3_pointsIn_20 n Q k) k0 x1 x2 x3 x4 (x5 + 1) d dl) ∧ ((d (93 + 5 * k0) x5.toNatClampNeg) = (d (93 + 5 * k0) x1.toNatClampNeg) → (6 ≤ v8 → (b_X3_pointsIn_20 n Q k) k0 x1 x2 x3 x4 (x5 + 1) d dl) ∧ (¬ 6 ≤ v8 → vp_in v8 6 ∧ ∀ v14 : Int32, v14 = (x4 + (([10, 8, 6, 5, 4, 3] : List Int32).getD v8.toNatClampNeg 0)) → (b_X3_pointsIn_20 n Q k) k0 x1 x2 (x3 + 1) v14 (x5 + 1) d dl)))
def F_X3_pointsIn (n : Nat) (k0 : Nat) (x1 : Int32) (d : DD) (dl : LL) (Q : Int32 → DD → LL → Prop) : Prop := F_X3_placeOf n k0 x1 d dl (fun r1 d2 l3 => (¬ r1 = 0 → b_X3_pointsIn_20 n Q n k0 x1 r1 0 0 0 d2 l3) ∧ (r1 = 0 → Q 0 d2 l3))
set_option maxHeartbeats 4000000 in
set_option maxRecDepth 100000 in
theorem t_X3_pointsIn_20 {g : Ex} {x : Fx} {n : Nat} {Q : Int32 → DD → LL → Prop} (C0 : Cx g x cX3_pointsIn 7 (some .int) RX3 1 23) (hZ : Zi g x Q) : ∀ (j : Nat) (k0 : Nat) (x1 : Int32) (x2 : Int32) (x3 : Int32) (x4 : Int32) (x5 : Int32) (hk0 : k0 < 24) (d : DD) (dl : LL), b_X3_pointsIn_20 n Q j k0 x1 x2 x3 x4 x5 d dl → FW g x 7 d dl 20 [(0, rf g (91 + 5 * k0)), (1, .int x1), (2, .int x2), (3, .int x3), (4, .int x4), (5, .int x5)] [] := by
  intro j
  induction j with
  | zero =>
    intro k0 x1 x2 x3 x4 x5 hk0 d dl hw
    exact hw.elim
  | succ j hK20 =>
    intro k0 x1 x2 x3 x4 x5 hk0 d dl hw
    refine f_iload C0 dX3_pointsIn_20 5 rfl ?_
    refine f_iconst (v := 4) C0 dX3_pointsIn_22 rfl ?_
    refine f_icmp_ge (tgt := 78) C0 dX3_pointsIn_23 (by decide) (fun h5 => ?_) (fun h5 => ?_)
    · have hw := hw.1 h5
      refine f_iload_n C0 dX3_pointsIn_78 rfl 3 rfl ?_
      refine f_if_ne (tgt := 86) C0 dX3_pointsIn_79 (by decide) (fun h6 => ?_) (fun h6 => ?_)
      · have hw := hw.1 h6
        refine f_bipush (v := 60) C0 dX3_pointsIn_86 rfl ?_
        refine f_iload C0 dX3_pointsIn_88 4 rfl ?_
        refine f_imul C0 dX3_pointsIn_90 ?_
        refine f_iload_n C0 dX3_pointsIn_91 rfl 3 rfl ?_
        obtain ⟨h7, hw⟩ := hw
        refine f_idiv C0 dX3_pointsIn_92 h7 ?_
        exact f_iret C0 hZ hw dX3_pointsIn_93
      · have hw := hw.2 h6
        refine f_iconst (v := 0) C0 dX3_pointsIn_82 rfl ?_
        refine f_goto (tgt := 93) C0 dX3_pointsIn_83 (by decide) ?_
        exact f_iret C0 hZ hw dX3_pointsIn_93
    · have hw := hw.2 h5
      refine f_iload_n C0 dX3_pointsIn_26 rfl 2 rfl ?_
      refine f_iconst (v := 1) C0 dX3_pointsIn_27 rfl ?_
      refine f_isub C0 dX3_pointsIn_28 ?_
      refine f_iload_n C0 dX3_pointsIn_29 rfl 3 rfl ?_
      refine f_iadd C0 dX3_pointsIn_30 ?_
      refine f_topi (fun v8 e8 => ?_)
      have hw := hw v8 e8
      refine f_istore (lo' := [(6, .int v8), (0, rf g (91 + 5 * k0)), (1, .int x1), (2, .int x2), (3, .int x3), (4, .int x4), (5, .int x5)]) C0 dX3_pointsIn_31 (by decide) rfl ?_
      refine f_aload_n C0 dX3_pointsIn_33 rfl 1 rfl ⟨_, rfl⟩ ?_
      refine gf_3_4 (r := (93 + 5 * k0)) C0 (by omega) (kn_race_0 hk0) mw_346 dX3_pointsIn_34 ?_
      refine f_iload C0 dX3_pointsIn_37 6 rfl ?_
      obtain ⟨h9, hw⟩ := hw
      refine f_iald C0 (kn_race_2 hk0) h9 dX3_pointsIn_39 ?_
      refine f_aload_n C0 dX3_pointsIn_40 rfl 1 rfl ⟨_, rfl⟩ ?_
      refine gf_3_4 (r := (93 + 5 * k0)) C0 (by omega) (kn_race_0 hk0) mw_346 dX3_pointsIn_41 ?_
      refine f_iload_n C0 dX3_pointsIn_44 rfl 2 rfl ?_
      obtain ⟨h10, hw⟩ := hw
      refine f_iald C0 (kn_race_2 hk0) h10 dX3_pointsIn_45 ?_
      refine f_icmp_ne (tgt := 72) C0 dX3_pointsIn_46 (by decide) (fun h11 => ?_) (fun h11 => ?_)
      · have hw := hw.1 h11
        refine f_iinc (lo' := [(5, .int (x5 + 1)), (6, .int v8), (0, rf g (91 + 5 * k0)), (1, .int x1), (2, .int x2), (3, .int x3), (4, .int x4)]) C0 dX3_pointsIn_72 6 rfl rfl (by decide) rfl ?_
        refine f_goto (tgt := 20) C0 dX3_pointsIn_75 (by decide) ?_
        refine f_sub [2, 3, 4, 5, 6, 0] rfl ?_
        exact hK20 _ _ _ _ _ _ hk0 _ _ hw
      · have hw := hw.2 h11
        refine f_iload C0 dX3_pointsIn_49 0 rfl ?_
        refine f_points C0 dX3_pointsIn_51 rfl ?_
        refine f_plen C0 dX3_pointsIn_54 ?_
        refine f_icmp_ge (tgt := 72) C0 dX3_pointsIn_55 (by decide) (fun h12 => ?_) (fun h12 => ?_)
        · have hw := hw.1 h12
          refine f_iinc (lo' := [(5, .int (x5 + 1)), (6, .int v8), (0, rf g (91 + 5 * k0)), (1, .int x1), (2, .int x2), (3, .int x3), (4, .int x4)]) C0 dX3_pointsIn_72 6 rfl rfl (by decide) rfl ?_
          refine f_goto (tgt := 20) C0 dX3_pointsIn_75 (by decide) ?_
          refine f_sub [2, 3, 4, 5, 6, 0] rfl ?_
          exact hK20 _ _ _ _ _ _ hk0 _ _ hw
        · have hw := hw.2 h12
          refine f_iload C0 dX3_pointsIn_58 5 rfl ?_
          refine f_points C0 dX3_pointsIn_60 rfl ?_
          refine f_iload C0 dX3_pointsIn_63 0 rfl ?_
          obtain ⟨h13, hw⟩ := hw
          refine f_pald C0 h13 dX3_pointsIn_65 ?_
          refine f_iadd C0 dX3_pointsIn_66 ?_
          refine f_topi (fun v14 e14 => ?_)
          have hw := hw v14 e14
          refine f_istore (lo' := [(4, .int v14), (6, .int v8), (0, rf g (91 + 5 * k0)), (1, .int x1), (2, .int x2), (3, .int x3), (5, .int x5)]) C0 dX3_pointsIn_67 (by decide) rfl ?_
          refine f_iinc (lo' := [(3, .int (x3 + 1)), (4, .int v14), (6, .int v8), (0, rf g (91 + 5 * k0)), (1, .int x1), (2, .int x2), (5, .int x5)]) C0 dX3_pointsIn_69 5 rfl rfl (by decide) rfl ?_
          refine f_iinc (lo' := [(5, .int (x5 + 1)), (3, .int (x3 + 1)), (4, .int v14), (6, .int v8), (0, rf g (91 + 5 * k0)), (1, .int x1), (2, .int x2)]) C0 dX3_pointsIn_72 6 rfl rfl (by decide) rfl ?_
          refine f_goto (tgt := 20) C0 dX3_pointsIn_75 (by decide) ?_
          refine f_sub [4, 5, 6, 1, 2, 0] rfl ?_
          exact hK20 _ _ _ _ _ _ hk0 _ _ hw
set_option maxHeartbeats 4000000 in
set_option maxRecDepth 100000 in
theorem m_X3_pointsIn {g : Ex} {n : Nat} {k0 : Nat} {x1 : Int32} {d : DD} {dl : LL} {Q : Int32 → DD → LL → Prop} (hk0 : k0 < 24) (hw : F_X3_pointsIn n k0 x1 d dl Q) : Mi g yX3_pointsIn cX3_pointsIn 7 (some .int) 1 23 [rf g (91 + 5 * k0), .int x1] d dl Q := by
  refine Mi.of (by decide) (Nat.le_of_ble_eq_true rfl) (fun x C0 hZ => ?_)
  have C0 : Cx g x cX3_pointsIn 7 (some .int) RX3 1 23 := C0
  refine f_aload_n C0 dX3_pointsIn_0 rfl 0 rfl ⟨_, rfl⟩ ?_
  refine f_iload_n C0 dX3_pointsIn_1 rfl 1 rfl ?_
  refine f_callVi (As := [.int x1]) (rest := []) C0 (m_X3_placeOf hk0 hw) cw_X3_42 (kn_race_0 hk0) (by decide) rfl rfl ⟨(Nat.le_of_ble_eq_true rfl), (Nat.le_of_ble_eq_true rfl)⟩ rfl rfl (Nat.le_of_ble_eq_true rfl) dX3_pointsIn_2 ?_
  intro r1 d2 l3 hw
  refine f_istore_n (lo' := [(2, .int r1), (0, rf g (91 + 5 * k0)), (1, .int x1)]) C0 dX3_pointsIn_5 rfl (by decide) rfl ?_
  refine f_iload_n C0 dX3_pointsIn_6 rfl 0 rfl ?_
  refine f_if_ne (tgt := 12) C0 dX3_pointsIn_7 (by decide) (fun h4 => ?_) (fun h4 => ?_)
  · have hw := hw.1 h4
    refine f_iconst (v := 0) C0 dX3_pointsIn_12 rfl ?_
    refine f_istore_n (lo' := [(3, .int 0), (2, .int r1), (0, rf g (91 + 5 * k0)), (1, .int x1)]) C0 dX3_pointsIn_13 rfl (by decide) rfl ?_
    refine f_iconst (v := 0) C0 dX3_pointsIn_14 rfl ?_
    refine f_istore (lo' := [(4, .int 0), (3, .int 0), (2, .int r1), (0, rf g (91 + 5 * k0)), (1, .int x1)]) C0 dX3_pointsIn_15 (by decide) rfl ?_
    refine f_iconst (v := 0) C0 dX3_pointsIn_17 rfl ?_
    refine f_istore (lo' := [(5, .int 0), (4, .int 0), (3, .int 0), (2, .int r1), (0, rf g (91 + 5 * k0)), (1, .int x1)]) C0 dX3_pointsIn_18 (by decide) rfl ?_
    refine f_sub [4, 5, 3, 2, 1, 0] rfl ?_
    exact t_X3_pointsIn_20 C0 hZ n _ _ _ _ _ _ hk0 _ _ hw
  · have hw := hw.2 h4
    refine f_iconst (v := 0) C0 dX3_pointsIn_10 rfl ?_
    exact f_iret C0 hZ hw dX3_pointsIn_11
